theorem cp_doO_43 {N : cp_Nt} {a b c d : Nat} : cp_doO N (43, a, b, c, d) = cp_sPiece N (nI a) (nI b) (nI c) (nI d) := rfl
theorem cp_doO_112 {N : cp_Nt} {k a b c d : Nat} (h : k = 112) : cp_doO N (k, a, b, c, d) = cp_sPlate N (nI a) := by subst h; rfl
theorem cp_doO_104 {N : cp_Nt} {k a b c d : Nat} (h : k = 104) : cp_doO N (k, a, b, c, d) = cp_sHold N (nI a) := by subst h; rfl
theorem cp_doO_107 {N : cp_Nt} {k a b c d : Nat} (h : k = 107) : cp_doO N (k, a, b, c, d) = cp_sKill N (nI a) := by subst h; rfl
theorem cp_doO_116 {N : cp_Nt} {k a b c d : Nat} (h : k = 116) : cp_doO N (k, a, b, c, d) = cp_sPass N (nI a) := by subst h; simp [cp_doO]
/-- where the first fault is, fuel t -/
def cp_fl2 (w : Nat → Nat) (len : Nat) : Nat → Nat → Int32
  | 0, s => nI s
  | t + 1, s => match cp_pO w len s with
    | (none, p) => nI p
    | (some _, p) => if cp_he w len p 59 59 = true then cp_fl2 w len t (p + 1) else if p = len then -6 else nI p
theorem cp_fl2_n {w : Nat → Nat} {len t s p : Nat} (h : cp_pO w len s = (none, p)) : cp_fl2 w len (t + 1) s = nI p := by
  show (match cp_pO w len s with
    | (none, p) => nI p
    | (some _, p) => if cp_he w len p 59 59 = true then cp_fl2 w len t (p + 1) else if p = len then -6 else nI p) = _
  rw [h]
theorem cp_fl2_s {w : Nat → Nat} {len t s p : Nat} {o : cp_Od} (h : cp_pO w len s = (some o, p)) : cp_fl2 w len (t + 1) s = if cp_he w len p 59 59 = true then cp_fl2 w len t (p + 1) else if p = len then -6 else nI p := by
  show (match cp_pO w len s with
    | (none, p) => nI p
    | (some _, p) => if cp_he w len p 59 59 = true then cp_fl2 w len t (p + 1) else if p = len then -6 else nI p) = _
  rw [h]
def cp_sFault (w : Nat → Nat) (len : Nat) : Int32 := cp_fl2 w len (len + 1) 0
theorem cp_m6 {p : Nat} (h : p < 2 ^ 31) : nI p ≠ -6 := fun e => by
  have : nI p < 0 := by rw [e]; decide
  exact cp_nn0 h this
set_option maxHeartbeats 4000000 in
set_option maxRecDepth 100000 in
theorem c_X7_readsOrder_0 {lc : Launch} {E : cp_En} {cnt : Nat} {sh : cp_Shp} {R : cp_Rem} {J : cp_Mem} {m : Nat} {f : Nat → Int32} {r : Nat → Nat → Int32} (M : cp_ML sh R m) {w : Nat → Nat} {len s : Nat} (hT : cp_TX (r 7) w len) (h10 : f 10 = nI len) (h11 : f 11 = nI s) (hs : s ≤ len) (h12 : f 12 = 0) : cp_Fr lc E yX7_readsOrder cX7_readsOrder 2 (some .boolean) 9 [.ref m] cnt sh (cp_mm J m f r) R (some (.int (cp_bi (cp_pO w len s).1.isSome))) (fun I' => ∃ f', I' = cp_mm J m f' r ∧ f' 11 = nI (cp_pO w len s).2 ∧ ∀ k, k ≠ 11 → k ≠ 13 → k ≠ 14 → f' k = f k) := by
  have hT1 := hT.1
  refine cp_Fn_iR [some (.ref m), none] (by decide +kernel) (Nat.le_of_ble_eq_true rfl) rfl (cp_bin _) (fun x hxl O hr => ?_)
  subst hxl
  refine cp_aload_n O dX7_readsOrder_0 cp_lg0 ?_
  refine cp_bipush O dX7_readsOrder_1 (v := 43) rfl ?_
  refine cp_cVir O me_X7_takesOne mi_X7_takesOne ml_X7_213 cp_cX7 M.s (c_X7_takesOne (c := 43) M hT h10 h11 hs (by decide)) dX7_readsOrder_3 rfl rfl ⟨Nat.le_of_ble_eq_true rfl, Nat.le_of_ble_eq_true rfl⟩ ⟨Nat.le_refl _, Nat.le_refl _⟩ (Nat.le_of_ble_eq_true rfl) (fun I3 hT3 => ?_)
  obtain ⟨f1, rfl, a1, b1, o1⟩ := hT3
  refine cp_if_eqB (tgt := 14) O dX7_readsOrder_6 (by decide) (fun c_6 => ?_) (fun c_6 => ?_)
  · rw [if_neg (cp_bF c_6)] at a1
    refine cp_aload_n O dX7_readsOrder_14 cp_lg0 ?_
    refine mg_X7_201 O M dX7_readsOrder_15 ?_
    refine cp_aload_n O dX7_readsOrder_18 cp_lg0 ?_
    refine mg_X7_183 O M dX7_readsOrder_19 ?_
    refine cp_icmp_geN (tgt := 37) O dX7_readsOrder_22 (by decide) (a := s) (b := len) a1 ((o1 10 (by decide) (by decide)).trans h10) (by omega) (by omega) (fun c_22 => ?_) (fun c_22 => ?_)
    · refine cp_iconst O dX7_readsOrder_37 (v := 0) rfl ?_
      refine cp_istore_n O dX7_readsOrder_38 (by decide) (cp_ls1 rfl) ?_
      refine cp_iload_n O dX7_readsOrder_39 cp_lg1 ?_
      refine cp_bipush O dX7_readsOrder_40 (v := 112) rfl ?_
      refine cp_icmp_eqN (tgt := 65) O dX7_readsOrder_42 (by decide) (a := 0) (b := 112) rfl rfl (by omega) (by omega) (fun c_42 => ?_) (fun c_42 => ?_)
      · exact absurd c_42 (by decide)
      · refine cp_iload_n O dX7_readsOrder_45 cp_lg1 ?_
        refine cp_bipush O dX7_readsOrder_46 (v := 104) rfl ?_
        refine cp_icmp_eqN (tgt := 65) O dX7_readsOrder_48 (by decide) (a := 0) (b := 104) rfl rfl (by omega) (by omega) (fun c_48 => ?_) (fun c_48 => ?_)
        · exact absurd c_48 (by decide)
        · refine cp_iload_n O dX7_readsOrder_51 cp_lg1 ?_
          refine cp_bipush O dX7_readsOrder_52 (v := 107) rfl ?_
          refine cp_icmp_eqN (tgt := 65) O dX7_readsOrder_54 (by decide) (a := 0) (b := 107) rfl rfl (by omega) (by omega) (fun c_54 => ?_) (fun c_54 => ?_)
          · exact absurd c_54 (by decide)
          · refine cp_iload_n O dX7_readsOrder_57 cp_lg1 ?_
            refine cp_bipush O dX7_readsOrder_58 (v := 116) rfl ?_
            refine cp_icmp_eqN (tgt := 65) O dX7_readsOrder_60 (by decide) (a := 0) (b := 116) rfl rfl (by omega) (by omega) (fun c_60 => ?_) (fun c_60 => ?_)
            · exact absurd c_60 (by decide)
            · have hno : ¬ (s < len ∧ (w s = 112 ∨ w s = 104 ∨ w s = 107 ∨ w s = 116)) := by omega
              have hP := cp_pO_2 c_6 hno
              have hfl := a1
              have hf0 := o1
              refine cp_iconst O dX7_readsOrder_63 (v := 0) rfl ?_
              exact hr _ _ _ _ dX7_readsOrder_64 (cp_bi_f (by rw [hP]; rfl)) ⟨_, rfl, by rw [hP]; exact hfl, fun k k1 k2 k3 => hf0 k k1 k3⟩
    · have hw := (hT.2 s c_22).1
      have hw2 := (hT.2 s c_22).2
      refine cp_aload_n O dX7_readsOrder_25 cp_lg0 ?_
      refine fg_X7_28 O M.s M.f9 dX7_readsOrder_26 ?_
      refine cp_aload_n O dX7_readsOrder_29 cp_lg0 ?_
      refine mg_X7_201 O M dX7_readsOrder_30 ?_
      refine cp_ialdM (k := 7) O M.s9 (by decide) (j := s) a1 (by omega) (by decide) dX7_readsOrder_33 ?_
      refine cp_goto (tgt := 38) O dX7_readsOrder_34 (by decide) ?_
      refine cp_istore_n O dX7_readsOrder_38 (by decide) (cp_ls1 rfl) ?_
      refine cp_iload_n O dX7_readsOrder_39 cp_lg1 ?_
      refine cp_bipush O dX7_readsOrder_40 (v := 112) rfl ?_
      refine cp_icmp_eqN (tgt := 65) O dX7_readsOrder_42 (by decide) (a := (w s)) (b := 112) ((congrArg (r 7) (show s = s from rfl)).trans hw) rfl (by omega) (by omega) (fun c_42 => ?_) (fun c_42 => ?_)
      · have hk : s < len ∧ (w s = 112 ∨ w s = 104 ∨ w s = 107 ∨ w s = 116) := by omega
        have u2 : f1 11 + 1 = nI (s + 1) := by rw [a1]; exact nI_1 s
        refine cp_aload_n O dX7_readsOrder_65 cp_lg0 ?_
        refine cp_dup O dX7_readsOrder_66 rfl ?_
        refine mg_X7_201 O M dX7_readsOrder_67 ?_
        refine cp_iconst O dX7_readsOrder_70 (v := 1) rfl ?_
        refine cp_iadd O dX7_readsOrder_71 ?_
        refine mp_X7_201 O M dX7_readsOrder_72 ?_
        refine cp_aload_n O dX7_readsOrder_75 cp_lg0 ?_
        refine cp_cVir O me_X7_readsNumber mi_X7_readsNumber ml_X7_216 cp_cX7 M.s (c_X7_readsNumber (s := s + 1) M hT ((cp_upd_n (by decide)).trans ((o1 10 (by decide) (by decide)).trans h10)) (cp_upd_s.trans u2) (by omega)) dX7_readsOrder_76 rfl rfl ⟨Nat.le_of_ble_eq_true rfl, Nat.le_of_ble_eq_true rfl⟩ ⟨Nat.le_refl _, Nat.le_refl _⟩ (Nat.le_of_ble_eq_true rfl) (fun I76 hT76 => ?_)
        obtain ⟨f3, rfl, a3, b3, o3⟩ := hT76
        have o3 := cp_FF_t (cp_FF_u o1 (Or.inl rfl)) o3
        refine cp_if_neB (tgt := 84) O dX7_readsOrder_79 (by decide) (fun c_79 => ?_) (fun c_79 => ?_)
        · rw [if_pos c_79] at a3
          have b3 := b3 c_79
          have u3 := cp_rn_le c_79
          have hP := cp_pO_4 c_6 hk c_79
          refine cp_aload_n O dX7_readsOrder_84 cp_lg0 ?_
          refine mg_X7_219 O M dX7_readsOrder_85 ?_
          rw [o3 12 (by decide) (by decide), h12]
          refine cp_if_eq (tgt := 154) O dX7_readsOrder_88 (by decide) (fun c_88 => ?_) (fun c_88 => ?_)
          · refine cp_iconst O dX7_readsOrder_154 (v := 1) rfl ?_
            exact hr _ _ _ _ dX7_readsOrder_155 (cp_bi_t (by rw [hP]; rfl)) ⟨_, rfl, by rw [hP]; exact a3, fun k k11 k13 k14 => o3 k k11 k14⟩
          · exact absurd rfl c_88
        · have hP := cp_pO_3 c_6 hk c_79
          have hfl := (by have a := a3; rw [if_neg (cp_bF c_79)] at a; exact a : f3 11 = nI (s + 1))
          have hf0 := o3
          refine cp_iconst O dX7_readsOrder_82 (v := 0) rfl ?_
          exact hr _ _ _ _ dX7_readsOrder_83 (cp_bi_f (by rw [hP]; rfl)) ⟨_, rfl, by rw [hP]; exact hfl, fun k k1 k2 k3 => hf0 k k1 k3⟩
      · refine cp_iload_n O dX7_readsOrder_45 cp_lg1 ?_
        refine cp_bipush O dX7_readsOrder_46 (v := 104) rfl ?_
        refine cp_icmp_eqN (tgt := 65) O dX7_readsOrder_48 (by decide) (a := (w s)) (b := 104) ((congrArg (r 7) (show s = s from rfl)).trans hw) rfl (by omega) (by omega) (fun c_48 => ?_) (fun c_48 => ?_)
        · have hk : s < len ∧ (w s = 112 ∨ w s = 104 ∨ w s = 107 ∨ w s = 116) := by omega
          have u2 : f1 11 + 1 = nI (s + 1) := by rw [a1]; exact nI_1 s
          refine cp_aload_n O dX7_readsOrder_65 cp_lg0 ?_
          refine cp_dup O dX7_readsOrder_66 rfl ?_
          refine mg_X7_201 O M dX7_readsOrder_67 ?_
          refine cp_iconst O dX7_readsOrder_70 (v := 1) rfl ?_
          refine cp_iadd O dX7_readsOrder_71 ?_
          refine mp_X7_201 O M dX7_readsOrder_72 ?_
          refine cp_aload_n O dX7_readsOrder_75 cp_lg0 ?_
          refine cp_cVir O me_X7_readsNumber mi_X7_readsNumber ml_X7_216 cp_cX7 M.s (c_X7_readsNumber (s := s + 1) M hT ((cp_upd_n (by decide)).trans ((o1 10 (by decide) (by decide)).trans h10)) (cp_upd_s.trans u2) (by omega)) dX7_readsOrder_76 rfl rfl ⟨Nat.le_of_ble_eq_true rfl, Nat.le_of_ble_eq_true rfl⟩ ⟨Nat.le_refl _, Nat.le_refl _⟩ (Nat.le_of_ble_eq_true rfl) (fun I76 hT76 => ?_)
          obtain ⟨f3, rfl, a3, b3, o3⟩ := hT76
          have o3 := cp_FF_t (cp_FF_u o1 (Or.inl rfl)) o3
          refine cp_if_neB (tgt := 84) O dX7_readsOrder_79 (by decide) (fun c_79 => ?_) (fun c_79 => ?_)
          · rw [if_pos c_79] at a3
            have b3 := b3 c_79
            have u3 := cp_rn_le c_79
            have hP := cp_pO_4 c_6 hk c_79
            refine cp_aload_n O dX7_readsOrder_84 cp_lg0 ?_
            refine mg_X7_219 O M dX7_readsOrder_85 ?_
            rw [o3 12 (by decide) (by decide), h12]
            refine cp_if_eq (tgt := 154) O dX7_readsOrder_88 (by decide) (fun c_88 => ?_) (fun c_88 => ?_)
            · refine cp_iconst O dX7_readsOrder_154 (v := 1) rfl ?_
              exact hr _ _ _ _ dX7_readsOrder_155 (cp_bi_t (by rw [hP]; rfl)) ⟨_, rfl, by rw [hP]; exact a3, fun k k11 k13 k14 => o3 k k11 k14⟩
            · exact absurd rfl c_88
          · have hP := cp_pO_3 c_6 hk c_79
            have hfl := (by have a := a3; rw [if_neg (cp_bF c_79)] at a; exact a : f3 11 = nI (s + 1))
            have hf0 := o3
            refine cp_iconst O dX7_readsOrder_82 (v := 0) rfl ?_
            exact hr _ _ _ _ dX7_readsOrder_83 (cp_bi_f (by rw [hP]; rfl)) ⟨_, rfl, by rw [hP]; exact hfl, fun k k1 k2 k3 => hf0 k k1 k3⟩
        · refine cp_iload_n O dX7_readsOrder_51 cp_lg1 ?_
          refine cp_bipush O dX7_readsOrder_52 (v := 107) rfl ?_
          refine cp_icmp_eqN (tgt := 65) O dX7_readsOrder_54 (by decide) (a := (w s)) (b := 107) ((congrArg (r 7) (show s = s from rfl)).trans hw) rfl (by omega) (by omega) (fun c_54 => ?_) (fun c_54 => ?_)
          · have hk : s < len ∧ (w s = 112 ∨ w s = 104 ∨ w s = 107 ∨ w s = 116) := by omega
            have u2 : f1 11 + 1 = nI (s + 1) := by rw [a1]; exact nI_1 s
            refine cp_aload_n O dX7_readsOrder_65 cp_lg0 ?_
            refine cp_dup O dX7_readsOrder_66 rfl ?_
            refine mg_X7_201 O M dX7_readsOrder_67 ?_
            refine cp_iconst O dX7_readsOrder_70 (v := 1) rfl ?_
            refine cp_iadd O dX7_readsOrder_71 ?_
            refine mp_X7_201 O M dX7_readsOrder_72 ?_
            refine cp_aload_n O dX7_readsOrder_75 cp_lg0 ?_
            refine cp_cVir O me_X7_readsNumber mi_X7_readsNumber ml_X7_216 cp_cX7 M.s (c_X7_readsNumber (s := s + 1) M hT ((cp_upd_n (by decide)).trans ((o1 10 (by decide) (by decide)).trans h10)) (cp_upd_s.trans u2) (by omega)) dX7_readsOrder_76 rfl rfl ⟨Nat.le_of_ble_eq_true rfl, Nat.le_of_ble_eq_true rfl⟩ ⟨Nat.le_refl _, Nat.le_refl _⟩ (Nat.le_of_ble_eq_true rfl) (fun I76 hT76 => ?_)
            obtain ⟨f3, rfl, a3, b3, o3⟩ := hT76
            have o3 := cp_FF_t (cp_FF_u o1 (Or.inl rfl)) o3
            refine cp_if_neB (tgt := 84) O dX7_readsOrder_79 (by decide) (fun c_79 => ?_) (fun c_79 => ?_)
            · rw [if_pos c_79] at a3
              have b3 := b3 c_79
              have u3 := cp_rn_le c_79
              have hP := cp_pO_4 c_6 hk c_79
              refine cp_aload_n O dX7_readsOrder_84 cp_lg0 ?_
              refine mg_X7_219 O M dX7_readsOrder_85 ?_
              rw [o3 12 (by decide) (by decide), h12]
              refine cp_if_eq (tgt := 154) O dX7_readsOrder_88 (by decide) (fun c_88 => ?_) (fun c_88 => ?_)
              · refine cp_iconst O dX7_readsOrder_154 (v := 1) rfl ?_
                exact hr _ _ _ _ dX7_readsOrder_155 (cp_bi_t (by rw [hP]; rfl)) ⟨_, rfl, by rw [hP]; exact a3, fun k k11 k13 k14 => o3 k k11 k14⟩
              · exact absurd rfl c_88
            · have hP := cp_pO_3 c_6 hk c_79
              have hfl := (by have a := a3; rw [if_neg (cp_bF c_79)] at a; exact a : f3 11 = nI (s + 1))
              have hf0 := o3
              refine cp_iconst O dX7_readsOrder_82 (v := 0) rfl ?_
              exact hr _ _ _ _ dX7_readsOrder_83 (cp_bi_f (by rw [hP]; rfl)) ⟨_, rfl, by rw [hP]; exact hfl, fun k k1 k2 k3 => hf0 k k1 k3⟩
          · refine cp_iload_n O dX7_readsOrder_57 cp_lg1 ?_
            refine cp_bipush O dX7_readsOrder_58 (v := 116) rfl ?_
            refine cp_icmp_eqN (tgt := 65) O dX7_readsOrder_60 (by decide) (a := (w s)) (b := 116) ((congrArg (r 7) (show s = s from rfl)).trans hw) rfl (by omega) (by omega) (fun c_60 => ?_) (fun c_60 => ?_)
            · have hk : s < len ∧ (w s = 112 ∨ w s = 104 ∨ w s = 107 ∨ w s = 116) := by omega
              have u2 : f1 11 + 1 = nI (s + 1) := by rw [a1]; exact nI_1 s
              refine cp_aload_n O dX7_readsOrder_65 cp_lg0 ?_
              refine cp_dup O dX7_readsOrder_66 rfl ?_
              refine mg_X7_201 O M dX7_readsOrder_67 ?_
              refine cp_iconst O dX7_readsOrder_70 (v := 1) rfl ?_
              refine cp_iadd O dX7_readsOrder_71 ?_
              refine mp_X7_201 O M dX7_readsOrder_72 ?_
              refine cp_aload_n O dX7_readsOrder_75 cp_lg0 ?_
              refine cp_cVir O me_X7_readsNumber mi_X7_readsNumber ml_X7_216 cp_cX7 M.s (c_X7_readsNumber (s := s + 1) M hT ((cp_upd_n (by decide)).trans ((o1 10 (by decide) (by decide)).trans h10)) (cp_upd_s.trans u2) (by omega)) dX7_readsOrder_76 rfl rfl ⟨Nat.le_of_ble_eq_true rfl, Nat.le_of_ble_eq_true rfl⟩ ⟨Nat.le_refl _, Nat.le_refl _⟩ (Nat.le_of_ble_eq_true rfl) (fun I76 hT76 => ?_)
              obtain ⟨f3, rfl, a3, b3, o3⟩ := hT76
              have o3 := cp_FF_t (cp_FF_u o1 (Or.inl rfl)) o3
              refine cp_if_neB (tgt := 84) O dX7_readsOrder_79 (by decide) (fun c_79 => ?_) (fun c_79 => ?_)
              · rw [if_pos c_79] at a3
                have b3 := b3 c_79
                have u3 := cp_rn_le c_79
                have hP := cp_pO_4 c_6 hk c_79
                refine cp_aload_n O dX7_readsOrder_84 cp_lg0 ?_
                refine mg_X7_219 O M dX7_readsOrder_85 ?_
                rw [o3 12 (by decide) (by decide), h12]
                refine cp_if_eq (tgt := 154) O dX7_readsOrder_88 (by decide) (fun c_88 => ?_) (fun c_88 => ?_)
                · refine cp_iconst O dX7_readsOrder_154 (v := 1) rfl ?_
                  exact hr _ _ _ _ dX7_readsOrder_155 (cp_bi_t (by rw [hP]; rfl)) ⟨_, rfl, by rw [hP]; exact a3, fun k k11 k13 k14 => o3 k k11 k14⟩
                · exact absurd rfl c_88
              · have hP := cp_pO_3 c_6 hk c_79
                have hfl := (by have a := a3; rw [if_neg (cp_bF c_79)] at a; exact a : f3 11 = nI (s + 1))
                have hf0 := o3
                refine cp_iconst O dX7_readsOrder_82 (v := 0) rfl ?_
                exact hr _ _ _ _ dX7_readsOrder_83 (cp_bi_f (by rw [hP]; rfl)) ⟨_, rfl, by rw [hP]; exact hfl, fun k k1 k2 k3 => hf0 k k1 k3⟩
            · have hno : ¬ (s < len ∧ (w s = 112 ∨ w s = 104 ∨ w s = 107 ∨ w s = 116)) := by omega
              have hP := cp_pO_2 c_6 hno
              have hfl := a1
              have hf0 := o1
              refine cp_iconst O dX7_readsOrder_63 (v := 0) rfl ?_
              exact hr _ _ _ _ dX7_readsOrder_64 (cp_bi_f (by rw [hP]; rfl)) ⟨_, rfl, by rw [hP]; exact hfl, fun k k1 k2 k3 => hf0 k k1 k3⟩
  · rw [if_pos c_6] at a1
    have u1 := cp_he_t c_6
    have hP := cp_pO_1 c_6
    refine cp_aload_n O dX7_readsOrder_9 cp_lg0 ?_
    refine cp_cVir O me_X7_readsPiece mi_X7_readsPiece ml_X7_226 cp_cX7 M.s (c_X7_readsPiece_0 M hT ((o1 10 (by decide) (by decide)).trans h10) a1 (by omega) ((o1 12 (by decide) (by decide)).trans h12)) dX7_readsOrder_10 rfl rfl ⟨Nat.le_of_ble_eq_true rfl, Nat.le_of_ble_eq_true rfl⟩ ⟨Nat.le_refl _, Nat.le_refl _⟩ (Nat.le_of_ble_eq_true rfl) (fun I10 hT10 => ?_)
    obtain ⟨f2, rfl, a2, o2⟩ := hT10
    exact hr _ _ _ _ dX7_readsOrder_13 (by rw [hP]) ⟨_, rfl, by rw [hP]; exact a2, fun k k11 k13 k14 => (o2 k k11 k13 k14).trans (o1 k k11 k14)⟩
set_option maxHeartbeats 4000000 in
set_option maxRecDepth 100000 in
theorem c_X7_readsOrder_1 {lc : Launch} {E : cp_En} {cnt : Nat} {sh : cp_Shp} {R : cp_Rem} {J : cp_Mem} {m : Nat} {f : Nat → Int32} {r : Nat → Nat → Int32} (M : cp_ML sh R m) {w : Nat → Nat} {len s : Nat} (hT : cp_TX (r 7) w len) (h10 : f 10 = nI len) (h11 : f 11 = nI s) (hs : s ≤ len) (h12 : f 12 = 1) {N : cp_Nt} (hA : cp_MA (r 1) N) (hV : cp_NV N) {o : cp_Od} {p : Nat} (hp : cp_pO w len s = (some o, p)) : cp_Fr lc E yX7_readsOrder cX7_readsOrder 2 (some .boolean) 9 [.ref m] cnt sh (cp_mm J m f r) R (some (.int (cp_bi true))) (fun I' => ∃ (f' a' : Nat → Int32), I' = cp_mm J m f' (cp_row r 1 a') ∧ cp_MA a' (cp_doO N o).2 ∧ f' 11 = nI p ∧ f' 13 = (cp_doO N o).1 ∧ ∀ k, k ≠ 7 → k ≠ 8 → k ≠ 11 → k ≠ 13 → k ≠ 14 → f' k = f k) := by
  have hT1 := hT.1
  refine cp_Fn_iR [some (.ref m), none] (by decide +kernel) (Nat.le_of_ble_eq_true rfl) rfl (cp_bin _) (fun x hxl O hr => ?_)
  subst hxl
  refine cp_aload_n O dX7_readsOrder_0 cp_lg0 ?_
  refine cp_bipush O dX7_readsOrder_1 (v := 43) rfl ?_
  refine cp_cVir O me_X7_takesOne mi_X7_takesOne ml_X7_213 cp_cX7 M.s (c_X7_takesOne (c := 43) M hT h10 h11 hs (by decide)) dX7_readsOrder_3 rfl rfl ⟨Nat.le_of_ble_eq_true rfl, Nat.le_of_ble_eq_true rfl⟩ ⟨Nat.le_refl _, Nat.le_refl _⟩ (Nat.le_of_ble_eq_true rfl) (fun I3 hT3 => ?_)
  obtain ⟨f1, rfl, a1, b1, o1⟩ := hT3
  refine cp_if_eqB (tgt := 14) O dX7_readsOrder_6 (by decide) (fun c_6 => ?_) (fun c_6 => ?_)
  · rw [if_neg (cp_bF c_6)] at a1
    refine cp_aload_n O dX7_readsOrder_14 cp_lg0 ?_
    refine mg_X7_201 O M dX7_readsOrder_15 ?_
    refine cp_aload_n O dX7_readsOrder_18 cp_lg0 ?_
    refine mg_X7_183 O M dX7_readsOrder_19 ?_
    refine cp_icmp_geN (tgt := 37) O dX7_readsOrder_22 (by decide) (a := s) (b := len) a1 ((o1 10 (by decide) (by decide)).trans h10) (by omega) (by omega) (fun c_22 => ?_) (fun c_22 => ?_)
    · refine cp_iconst O dX7_readsOrder_37 (v := 0) rfl ?_
      refine cp_istore_n O dX7_readsOrder_38 (by decide) (cp_ls1 rfl) ?_
      refine cp_iload_n O dX7_readsOrder_39 cp_lg1 ?_
      refine cp_bipush O dX7_readsOrder_40 (v := 112) rfl ?_
      refine cp_icmp_eqN (tgt := 65) O dX7_readsOrder_42 (by decide) (a := 0) (b := 112) rfl rfl (by omega) (by omega) (fun c_42 => ?_) (fun c_42 => ?_)
      · exact absurd c_42 (by decide)
      · refine cp_iload_n O dX7_readsOrder_45 cp_lg1 ?_
        refine cp_bipush O dX7_readsOrder_46 (v := 104) rfl ?_
        refine cp_icmp_eqN (tgt := 65) O dX7_readsOrder_48 (by decide) (a := 0) (b := 104) rfl rfl (by omega) (by omega) (fun c_48 => ?_) (fun c_48 => ?_)
        · exact absurd c_48 (by decide)
        · refine cp_iload_n O dX7_readsOrder_51 cp_lg1 ?_
          refine cp_bipush O dX7_readsOrder_52 (v := 107) rfl ?_
          refine cp_icmp_eqN (tgt := 65) O dX7_readsOrder_54 (by decide) (a := 0) (b := 107) rfl rfl (by omega) (by omega) (fun c_54 => ?_) (fun c_54 => ?_)
          · exact absurd c_54 (by decide)
          · refine cp_iload_n O dX7_readsOrder_57 cp_lg1 ?_
            refine cp_bipush O dX7_readsOrder_58 (v := 116) rfl ?_
            refine cp_icmp_eqN (tgt := 65) O dX7_readsOrder_60 (by decide) (a := 0) (b := 116) rfl rfl (by omega) (by omega) (fun c_60 => ?_) (fun c_60 => ?_)
            · exact absurd c_60 (by decide)
            · exact absurd (hp.symm.trans (cp_pO_2 c_6 (by omega))) (by simp)
    · have hw := (hT.2 s c_22).1
      have hw2 := (hT.2 s c_22).2
      refine cp_aload_n O dX7_readsOrder_25 cp_lg0 ?_
      refine fg_X7_28 O M.s M.f9 dX7_readsOrder_26 ?_
      refine cp_aload_n O dX7_readsOrder_29 cp_lg0 ?_
      refine mg_X7_201 O M dX7_readsOrder_30 ?_
      refine cp_ialdM (k := 7) O M.s9 (by decide) (j := s) a1 (by omega) (by decide) dX7_readsOrder_33 ?_
      refine cp_goto (tgt := 38) O dX7_readsOrder_34 (by decide) ?_
      refine cp_istore_n O dX7_readsOrder_38 (by decide) (cp_ls1 rfl) ?_
      refine cp_iload_n O dX7_readsOrder_39 cp_lg1 ?_
      refine cp_bipush O dX7_readsOrder_40 (v := 112) rfl ?_
      refine cp_icmp_eqN (tgt := 65) O dX7_readsOrder_42 (by decide) (a := (w s)) (b := 112) ((congrArg (r 7) (show s = s from rfl)).trans hw) rfl (by omega) (by omega) (fun c_42 => ?_) (fun c_42 => ?_)
      · have hk : s < len ∧ (w s = 112 ∨ w s = 104 ∨ w s = 107 ∨ w s = 116) := by omega
        have u2 : f1 11 + 1 = nI (s + 1) := by rw [a1]; exact nI_1 s
        refine cp_aload_n O dX7_readsOrder_65 cp_lg0 ?_
        refine cp_dup O dX7_readsOrder_66 rfl ?_
        refine mg_X7_201 O M dX7_readsOrder_67 ?_
        refine cp_iconst O dX7_readsOrder_70 (v := 1) rfl ?_
        refine cp_iadd O dX7_readsOrder_71 ?_
        refine mp_X7_201 O M dX7_readsOrder_72 ?_
        refine cp_aload_n O dX7_readsOrder_75 cp_lg0 ?_
        refine cp_cVir O me_X7_readsNumber mi_X7_readsNumber ml_X7_216 cp_cX7 M.s (c_X7_readsNumber (s := s + 1) M hT ((cp_upd_n (by decide)).trans ((o1 10 (by decide) (by decide)).trans h10)) (cp_upd_s.trans u2) (by omega)) dX7_readsOrder_76 rfl rfl ⟨Nat.le_of_ble_eq_true rfl, Nat.le_of_ble_eq_true rfl⟩ ⟨Nat.le_refl _, Nat.le_refl _⟩ (Nat.le_of_ble_eq_true rfl) (fun I76 hT76 => ?_)
        obtain ⟨f3, rfl, a3, b3, o3⟩ := hT76
        have o3 := cp_FF_t (cp_FF_u o1 (Or.inl rfl)) o3
        refine cp_if_neB (tgt := 84) O dX7_readsOrder_79 (by decide) (fun c_79 => ?_) (fun c_79 => ?_)
        · rw [if_pos c_79] at a3
          have b3 := b3 c_79
          have u3 := cp_rn_le c_79
          have hP := cp_pO_4 c_6 hk c_79
          obtain ⟨ho, hpp⟩ := Prod.mk.inj (hp.symm.trans hP)
          obtain rfl := Option.some.inj ho
          subst hpp
          refine cp_aload_n O dX7_readsOrder_84 cp_lg0 ?_
          refine mg_X7_219 O M dX7_readsOrder_85 ?_
          rw [o3 12 (by decide) (by decide), h12]
          refine cp_if_eq (tgt := 154) O dX7_readsOrder_88 (by decide) (fun c_88 => ?_) (fun c_88 => ?_)
          · exact absurd c_88 (by decide)
          · refine cp_aload_n O dX7_readsOrder_91 cp_lg0 ?_
            refine cp_iload_n O dX7_readsOrder_92 cp_lg1 ?_
            refine cp_bipush O dX7_readsOrder_93 (v := 112) rfl ?_
            refine cp_icmp_neN (tgt := 109) O dX7_readsOrder_95 (by decide) (a := (w s)) (b := 112) ((congrArg (r 7) (show s = s from rfl)).trans hw) rfl (by omega) (by omega) (fun c_95 => ?_) (fun c_95 => ?_)
            · refine cp_iload_n O dX7_readsOrder_109 cp_lg1 ?_
              refine cp_bipush O dX7_readsOrder_110 (v := 104) rfl ?_
              refine cp_icmp_neN (tgt := 126) O dX7_readsOrder_112 (by decide) (a := (w s)) (b := 104) ((congrArg (r 7) (show s = s from rfl)).trans hw) rfl (by omega) (by omega) (fun c_112 => ?_) (fun c_112 => ?_)
              · refine cp_iload_n O dX7_readsOrder_126 cp_lg1 ?_
                refine cp_bipush O dX7_readsOrder_127 (v := 107) rfl ?_
                refine cp_icmp_neN (tgt := 143) O dX7_readsOrder_129 (by decide) (a := (w s)) (b := 107) ((congrArg (r 7) (show s = s from rfl)).trans hw) rfl (by omega) (by omega) (fun c_129 => ?_) (fun c_129 => ?_)
                · refine cp_aload_n O dX7_readsOrder_143 cp_lg0 ?_
                  refine cp_aload_n O dX7_readsOrder_144 cp_lg0 ?_
                  refine mg_X7_207 O M dX7_readsOrder_145 ?_
                  rw [b3]
                  refine cp_cVir O me_X7_doPass mi_X7_doPass ml_X7_159 cp_cX7 M.s (l_X7_doPass M hA hV) dX7_readsOrder_148 rfl rfl ⟨Nat.le_of_ble_eq_true rfl, Nat.le_of_ble_eq_true rfl⟩ ⟨Nat.le_refl _, Nat.le_refl _⟩ (Nat.le_of_ble_eq_true rfl) (fun I148 hT148 => ?_)
                  obtain ⟨f4, a4, rfl, hA4, o4⟩ := hT148
                  rw [← cp_doO_116 (N := N) (k := w s) (b := 0) (c := 0) (d := 0) (by omega)] at hA4
                  rw [← cp_doO_116 (N := N) (k := w s) (b := 0) (c := 0) (d := 0) (by omega)]
                  refine mp_X7_223 O M dX7_readsOrder_151 ?_
                  refine cp_iconst O dX7_readsOrder_154 (v := 1) rfl ?_
                  exact hr _ _ _ _ dX7_readsOrder_155 rfl ⟨_, a4, rfl, hA4, by rw [cp_upd_n (by decide), o4 11 (by decide) (by decide)]; exact a3, cp_upd_s, fun k k7 k8 k11 k13 k14 => by rw [cp_upd_n k13, o4 k k7 k8]; exact o3 k k11 k14⟩
                · refine cp_aload_n O dX7_readsOrder_132 cp_lg0 ?_
                  refine cp_aload_n O dX7_readsOrder_133 cp_lg0 ?_
                  refine mg_X7_207 O M dX7_readsOrder_134 ?_
                  rw [b3]
                  refine cp_cVir O me_X7_doKill mi_X7_doKill ml_X7_156 cp_cX7 M.s (l_X7_doKill M hA hV) dX7_readsOrder_137 rfl rfl ⟨Nat.le_of_ble_eq_true rfl, Nat.le_of_ble_eq_true rfl⟩ ⟨Nat.le_refl _, Nat.le_refl _⟩ (Nat.le_of_ble_eq_true rfl) (fun I137 hT137 => ?_)
                  obtain ⟨f4, a4, rfl, hA4, o4⟩ := hT137
                  rw [← cp_doO_107 (N := N) (k := w s) (b := 0) (c := 0) (d := 0) (by omega)] at hA4
                  rw [← cp_doO_107 (N := N) (k := w s) (b := 0) (c := 0) (d := 0) (by omega)]
                  refine cp_goto (tgt := 151) O dX7_readsOrder_140 (by decide) ?_
                  refine mp_X7_223 O M dX7_readsOrder_151 ?_
                  refine cp_iconst O dX7_readsOrder_154 (v := 1) rfl ?_
                  exact hr _ _ _ _ dX7_readsOrder_155 rfl ⟨_, a4, rfl, hA4, by rw [cp_upd_n (by decide), o4 11 (by decide) (by decide)]; exact a3, cp_upd_s, fun k k7 k8 k11 k13 k14 => by rw [cp_upd_n k13, o4 k k7 k8]; exact o3 k k11 k14⟩
              · refine cp_aload_n O dX7_readsOrder_115 cp_lg0 ?_
                refine cp_aload_n O dX7_readsOrder_116 cp_lg0 ?_
                refine mg_X7_207 O M dX7_readsOrder_117 ?_
                rw [b3]
                refine cp_cVir O me_X7_doHold mi_X7_doHold ml_X7_153 cp_cX7 M.s (l_X7_doHold M hA hV) dX7_readsOrder_120 rfl rfl ⟨Nat.le_of_ble_eq_true rfl, Nat.le_of_ble_eq_true rfl⟩ ⟨Nat.le_refl _, Nat.le_refl _⟩ (Nat.le_of_ble_eq_true rfl) (fun I120 hT120 => ?_)
                obtain ⟨f4, a4, rfl, hA4, o4⟩ := hT120
                rw [← cp_doO_104 (N := N) (k := w s) (b := 0) (c := 0) (d := 0) (by omega)] at hA4
                rw [← cp_doO_104 (N := N) (k := w s) (b := 0) (c := 0) (d := 0) (by omega)]
                refine cp_goto (tgt := 151) O dX7_readsOrder_123 (by decide) ?_
                refine mp_X7_223 O M dX7_readsOrder_151 ?_
                refine cp_iconst O dX7_readsOrder_154 (v := 1) rfl ?_
                exact hr _ _ _ _ dX7_readsOrder_155 rfl ⟨_, a4, rfl, hA4, by rw [cp_upd_n (by decide), o4 11 (by decide) (by decide)]; exact a3, cp_upd_s, fun k k7 k8 k11 k13 k14 => by rw [cp_upd_n k13, o4 k k7 k8]; exact o3 k k11 k14⟩
            · refine cp_aload_n O dX7_readsOrder_98 cp_lg0 ?_
              refine cp_aload_n O dX7_readsOrder_99 cp_lg0 ?_
              refine mg_X7_207 O M dX7_readsOrder_100 ?_
              rw [b3]
              refine cp_cVir O me_X7_doPlate mi_X7_doPlate ml_X7_150 cp_cX7 M.s (l_X7_doPlate M hA hV) dX7_readsOrder_103 rfl rfl ⟨Nat.le_of_ble_eq_true rfl, Nat.le_of_ble_eq_true rfl⟩ ⟨Nat.le_refl _, Nat.le_refl _⟩ (Nat.le_of_ble_eq_true rfl) (fun I103 hT103 => ?_)
              obtain ⟨f4, a4, rfl, hA4, o4⟩ := hT103
              rw [← cp_doO_112 (N := N) (k := w s) (b := 0) (c := 0) (d := 0) (by omega)] at hA4
              rw [← cp_doO_112 (N := N) (k := w s) (b := 0) (c := 0) (d := 0) (by omega)]
              refine cp_goto (tgt := 151) O dX7_readsOrder_106 (by decide) ?_
              refine mp_X7_223 O M dX7_readsOrder_151 ?_
              refine cp_iconst O dX7_readsOrder_154 (v := 1) rfl ?_
              exact hr _ _ _ _ dX7_readsOrder_155 rfl ⟨_, a4, rfl, hA4, by rw [cp_upd_n (by decide), o4 11 (by decide) (by decide)]; exact a3, cp_upd_s, fun k k7 k8 k11 k13 k14 => by rw [cp_upd_n k13, o4 k k7 k8]; exact o3 k k11 k14⟩
        · exact absurd (hp.symm.trans (cp_pO_3 c_6 hk c_79)) (by simp)
      · refine cp_iload_n O dX7_readsOrder_45 cp_lg1 ?_
        refine cp_bipush O dX7_readsOrder_46 (v := 104) rfl ?_
        refine cp_icmp_eqN (tgt := 65) O dX7_readsOrder_48 (by decide) (a := (w s)) (b := 104) ((congrArg (r 7) (show s = s from rfl)).trans hw) rfl (by omega) (by omega) (fun c_48 => ?_) (fun c_48 => ?_)
        · have hk : s < len ∧ (w s = 112 ∨ w s = 104 ∨ w s = 107 ∨ w s = 116) := by omega
          have u2 : f1 11 + 1 = nI (s + 1) := by rw [a1]; exact nI_1 s
          refine cp_aload_n O dX7_readsOrder_65 cp_lg0 ?_
          refine cp_dup O dX7_readsOrder_66 rfl ?_
          refine mg_X7_201 O M dX7_readsOrder_67 ?_
          refine cp_iconst O dX7_readsOrder_70 (v := 1) rfl ?_
          refine cp_iadd O dX7_readsOrder_71 ?_
          refine mp_X7_201 O M dX7_readsOrder_72 ?_
          refine cp_aload_n O dX7_readsOrder_75 cp_lg0 ?_
          refine cp_cVir O me_X7_readsNumber mi_X7_readsNumber ml_X7_216 cp_cX7 M.s (c_X7_readsNumber (s := s + 1) M hT ((cp_upd_n (by decide)).trans ((o1 10 (by decide) (by decide)).trans h10)) (cp_upd_s.trans u2) (by omega)) dX7_readsOrder_76 rfl rfl ⟨Nat.le_of_ble_eq_true rfl, Nat.le_of_ble_eq_true rfl⟩ ⟨Nat.le_refl _, Nat.le_refl _⟩ (Nat.le_of_ble_eq_true rfl) (fun I76 hT76 => ?_)
          obtain ⟨f3, rfl, a3, b3, o3⟩ := hT76
          have o3 := cp_FF_t (cp_FF_u o1 (Or.inl rfl)) o3
          refine cp_if_neB (tgt := 84) O dX7_readsOrder_79 (by decide) (fun c_79 => ?_) (fun c_79 => ?_)
          · rw [if_pos c_79] at a3
            have b3 := b3 c_79
            have u3 := cp_rn_le c_79
            have hP := cp_pO_4 c_6 hk c_79
            obtain ⟨ho, hpp⟩ := Prod.mk.inj (hp.symm.trans hP)
            obtain rfl := Option.some.inj ho
            subst hpp
            refine cp_aload_n O dX7_readsOrder_84 cp_lg0 ?_
            refine mg_X7_219 O M dX7_readsOrder_85 ?_
            rw [o3 12 (by decide) (by decide), h12]
            refine cp_if_eq (tgt := 154) O dX7_readsOrder_88 (by decide) (fun c_88 => ?_) (fun c_88 => ?_)
            · exact absurd c_88 (by decide)
            · refine cp_aload_n O dX7_readsOrder_91 cp_lg0 ?_
              refine cp_iload_n O dX7_readsOrder_92 cp_lg1 ?_
              refine cp_bipush O dX7_readsOrder_93 (v := 112) rfl ?_
              refine cp_icmp_neN (tgt := 109) O dX7_readsOrder_95 (by decide) (a := (w s)) (b := 112) ((congrArg (r 7) (show s = s from rfl)).trans hw) rfl (by omega) (by omega) (fun c_95 => ?_) (fun c_95 => ?_)
              · refine cp_iload_n O dX7_readsOrder_109 cp_lg1 ?_
                refine cp_bipush O dX7_readsOrder_110 (v := 104) rfl ?_
                refine cp_icmp_neN (tgt := 126) O dX7_readsOrder_112 (by decide) (a := (w s)) (b := 104) ((congrArg (r 7) (show s = s from rfl)).trans hw) rfl (by omega) (by omega) (fun c_112 => ?_) (fun c_112 => ?_)
                · refine cp_iload_n O dX7_readsOrder_126 cp_lg1 ?_
                  refine cp_bipush O dX7_readsOrder_127 (v := 107) rfl ?_
                  refine cp_icmp_neN (tgt := 143) O dX7_readsOrder_129 (by decide) (a := (w s)) (b := 107) ((congrArg (r 7) (show s = s from rfl)).trans hw) rfl (by omega) (by omega) (fun c_129 => ?_) (fun c_129 => ?_)
                  · refine cp_aload_n O dX7_readsOrder_143 cp_lg0 ?_
                    refine cp_aload_n O dX7_readsOrder_144 cp_lg0 ?_
                    refine mg_X7_207 O M dX7_readsOrder_145 ?_
                    rw [b3]
                    refine cp_cVir O me_X7_doPass mi_X7_doPass ml_X7_159 cp_cX7 M.s (l_X7_doPass M hA hV) dX7_readsOrder_148 rfl rfl ⟨Nat.le_of_ble_eq_true rfl, Nat.le_of_ble_eq_true rfl⟩ ⟨Nat.le_refl _, Nat.le_refl _⟩ (Nat.le_of_ble_eq_true rfl) (fun I148 hT148 => ?_)
                    obtain ⟨f4, a4, rfl, hA4, o4⟩ := hT148
                    rw [← cp_doO_116 (N := N) (k := w s) (b := 0) (c := 0) (d := 0) (by omega)] at hA4
                    rw [← cp_doO_116 (N := N) (k := w s) (b := 0) (c := 0) (d := 0) (by omega)]
                    refine mp_X7_223 O M dX7_readsOrder_151 ?_
                    refine cp_iconst O dX7_readsOrder_154 (v := 1) rfl ?_
                    exact hr _ _ _ _ dX7_readsOrder_155 rfl ⟨_, a4, rfl, hA4, by rw [cp_upd_n (by decide), o4 11 (by decide) (by decide)]; exact a3, cp_upd_s, fun k k7 k8 k11 k13 k14 => by rw [cp_upd_n k13, o4 k k7 k8]; exact o3 k k11 k14⟩
                  · refine cp_aload_n O dX7_readsOrder_132 cp_lg0 ?_
                    refine cp_aload_n O dX7_readsOrder_133 cp_lg0 ?_
                    refine mg_X7_207 O M dX7_readsOrder_134 ?_
                    rw [b3]
                    refine cp_cVir O me_X7_doKill mi_X7_doKill ml_X7_156 cp_cX7 M.s (l_X7_doKill M hA hV) dX7_readsOrder_137 rfl rfl ⟨Nat.le_of_ble_eq_true rfl, Nat.le_of_ble_eq_true rfl⟩ ⟨Nat.le_refl _, Nat.le_refl _⟩ (Nat.le_of_ble_eq_true rfl) (fun I137 hT137 => ?_)
                    obtain ⟨f4, a4, rfl, hA4, o4⟩ := hT137
                    rw [← cp_doO_107 (N := N) (k := w s) (b := 0) (c := 0) (d := 0) (by omega)] at hA4
                    rw [← cp_doO_107 (N := N) (k := w s) (b := 0) (c := 0) (d := 0) (by omega)]
                    refine cp_goto (tgt := 151) O dX7_readsOrder_140 (by decide) ?_
                    refine mp_X7_223 O M dX7_readsOrder_151 ?_
                    refine cp_iconst O dX7_readsOrder_154 (v := 1) rfl ?_
                    exact hr _ _ _ _ dX7_readsOrder_155 rfl ⟨_, a4, rfl, hA4, by rw [cp_upd_n (by decide), o4 11 (by decide) (by decide)]; exact a3, cp_upd_s, fun k k7 k8 k11 k13 k14 => by rw [cp_upd_n k13, o4 k k7 k8]; exact o3 k k11 k14⟩
                · refine cp_aload_n O dX7_readsOrder_115 cp_lg0 ?_
                  refine cp_aload_n O dX7_readsOrder_116 cp_lg0 ?_
                  refine mg_X7_207 O M dX7_readsOrder_117 ?_
                  rw [b3]
                  refine cp_cVir O me_X7_doHold mi_X7_doHold ml_X7_153 cp_cX7 M.s (l_X7_doHold M hA hV) dX7_readsOrder_120 rfl rfl ⟨Nat.le_of_ble_eq_true rfl, Nat.le_of_ble_eq_true rfl⟩ ⟨Nat.le_refl _, Nat.le_refl _⟩ (Nat.le_of_ble_eq_true rfl) (fun I120 hT120 => ?_)
                  obtain ⟨f4, a4, rfl, hA4, o4⟩ := hT120
                  rw [← cp_doO_104 (N := N) (k := w s) (b := 0) (c := 0) (d := 0) (by omega)] at hA4
                  rw [← cp_doO_104 (N := N) (k := w s) (b := 0) (c := 0) (d := 0) (by omega)]
                  refine cp_goto (tgt := 151) O dX7_readsOrder_123 (by decide) ?_
                  refine mp_X7_223 O M dX7_readsOrder_151 ?_
                  refine cp_iconst O dX7_readsOrder_154 (v := 1) rfl ?_
                  exact hr _ _ _ _ dX7_readsOrder_155 rfl ⟨_, a4, rfl, hA4, by rw [cp_upd_n (by decide), o4 11 (by decide) (by decide)]; exact a3, cp_upd_s, fun k k7 k8 k11 k13 k14 => by rw [cp_upd_n k13, o4 k k7 k8]; exact o3 k k11 k14⟩
              · refine cp_aload_n O dX7_readsOrder_98 cp_lg0 ?_
                refine cp_aload_n O dX7_readsOrder_99 cp_lg0 ?_
                refine mg_X7_207 O M dX7_readsOrder_100 ?_
                rw [b3]
                refine cp_cVir O me_X7_doPlate mi_X7_doPlate ml_X7_150 cp_cX7 M.s (l_X7_doPlate M hA hV) dX7_readsOrder_103 rfl rfl ⟨Nat.le_of_ble_eq_true rfl, Nat.le_of_ble_eq_true rfl⟩ ⟨Nat.le_refl _, Nat.le_refl _⟩ (Nat.le_of_ble_eq_true rfl) (fun I103 hT103 => ?_)
                obtain ⟨f4, a4, rfl, hA4, o4⟩ := hT103
                rw [← cp_doO_112 (N := N) (k := w s) (b := 0) (c := 0) (d := 0) (by omega)] at hA4
                rw [← cp_doO_112 (N := N) (k := w s) (b := 0) (c := 0) (d := 0) (by omega)]
                refine cp_goto (tgt := 151) O dX7_readsOrder_106 (by decide) ?_
                refine mp_X7_223 O M dX7_readsOrder_151 ?_
                refine cp_iconst O dX7_readsOrder_154 (v := 1) rfl ?_
                exact hr _ _ _ _ dX7_readsOrder_155 rfl ⟨_, a4, rfl, hA4, by rw [cp_upd_n (by decide), o4 11 (by decide) (by decide)]; exact a3, cp_upd_s, fun k k7 k8 k11 k13 k14 => by rw [cp_upd_n k13, o4 k k7 k8]; exact o3 k k11 k14⟩
          · exact absurd (hp.symm.trans (cp_pO_3 c_6 hk c_79)) (by simp)
        · refine cp_iload_n O dX7_readsOrder_51 cp_lg1 ?_
          refine cp_bipush O dX7_readsOrder_52 (v := 107) rfl ?_
          refine cp_icmp_eqN (tgt := 65) O dX7_readsOrder_54 (by decide) (a := (w s)) (b := 107) ((congrArg (r 7) (show s = s from rfl)).trans hw) rfl (by omega) (by omega) (fun c_54 => ?_) (fun c_54 => ?_)
          · have hk : s < len ∧ (w s = 112 ∨ w s = 104 ∨ w s = 107 ∨ w s = 116) := by omega
            have u2 : f1 11 + 1 = nI (s + 1) := by rw [a1]; exact nI_1 s
            refine cp_aload_n O dX7_readsOrder_65 cp_lg0 ?_
            refine cp_dup O dX7_readsOrder_66 rfl ?_
            refine mg_X7_201 O M dX7_readsOrder_67 ?_
            refine cp_iconst O dX7_readsOrder_70 (v := 1) rfl ?_
            refine cp_iadd O dX7_readsOrder_71 ?_
            refine mp_X7_201 O M dX7_readsOrder_72 ?_
            refine cp_aload_n O dX7_readsOrder_75 cp_lg0 ?_
            refine cp_cVir O me_X7_readsNumber mi_X7_readsNumber ml_X7_216 cp_cX7 M.s (c_X7_readsNumber (s := s + 1) M hT ((cp_upd_n (by decide)).trans ((o1 10 (by decide) (by decide)).trans h10)) (cp_upd_s.trans u2) (by omega)) dX7_readsOrder_76 rfl rfl ⟨Nat.le_of_ble_eq_true rfl, Nat.le_of_ble_eq_true rfl⟩ ⟨Nat.le_refl _, Nat.le_refl _⟩ (Nat.le_of_ble_eq_true rfl) (fun I76 hT76 => ?_)
            obtain ⟨f3, rfl, a3, b3, o3⟩ := hT76
            have o3 := cp_FF_t (cp_FF_u o1 (Or.inl rfl)) o3
            refine cp_if_neB (tgt := 84) O dX7_readsOrder_79 (by decide) (fun c_79 => ?_) (fun c_79 => ?_)
            · rw [if_pos c_79] at a3
              have b3 := b3 c_79
              have u3 := cp_rn_le c_79
              have hP := cp_pO_4 c_6 hk c_79
              obtain ⟨ho, hpp⟩ := Prod.mk.inj (hp.symm.trans hP)
              obtain rfl := Option.some.inj ho
              subst hpp
              refine cp_aload_n O dX7_readsOrder_84 cp_lg0 ?_
              refine mg_X7_219 O M dX7_readsOrder_85 ?_
              rw [o3 12 (by decide) (by decide), h12]
              refine cp_if_eq (tgt := 154) O dX7_readsOrder_88 (by decide) (fun c_88 => ?_) (fun c_88 => ?_)
              · exact absurd c_88 (by decide)
              · refine cp_aload_n O dX7_readsOrder_91 cp_lg0 ?_
                refine cp_iload_n O dX7_readsOrder_92 cp_lg1 ?_
                refine cp_bipush O dX7_readsOrder_93 (v := 112) rfl ?_
                refine cp_icmp_neN (tgt := 109) O dX7_readsOrder_95 (by decide) (a := (w s)) (b := 112) ((congrArg (r 7) (show s = s from rfl)).trans hw) rfl (by omega) (by omega) (fun c_95 => ?_) (fun c_95 => ?_)
                · refine cp_iload_n O dX7_readsOrder_109 cp_lg1 ?_
                  refine cp_bipush O dX7_readsOrder_110 (v := 104) rfl ?_
                  refine cp_icmp_neN (tgt := 126) O dX7_readsOrder_112 (by decide) (a := (w s)) (b := 104) ((congrArg (r 7) (show s = s from rfl)).trans hw) rfl (by omega) (by omega) (fun c_112 => ?_) (fun c_112 => ?_)
                  · refine cp_iload_n O dX7_readsOrder_126 cp_lg1 ?_
                    refine cp_bipush O dX7_readsOrder_127 (v := 107) rfl ?_
                    refine cp_icmp_neN (tgt := 143) O dX7_readsOrder_129 (by decide) (a := (w s)) (b := 107) ((congrArg (r 7) (show s = s from rfl)).trans hw) rfl (by omega) (by omega) (fun c_129 => ?_) (fun c_129 => ?_)
                    · refine cp_aload_n O dX7_readsOrder_143 cp_lg0 ?_
                      refine cp_aload_n O dX7_readsOrder_144 cp_lg0 ?_
                      refine mg_X7_207 O M dX7_readsOrder_145 ?_
                      rw [b3]
                      refine cp_cVir O me_X7_doPass mi_X7_doPass ml_X7_159 cp_cX7 M.s (l_X7_doPass M hA hV) dX7_readsOrder_148 rfl rfl ⟨Nat.le_of_ble_eq_true rfl, Nat.le_of_ble_eq_true rfl⟩ ⟨Nat.le_refl _, Nat.le_refl _⟩ (Nat.le_of_ble_eq_true rfl) (fun I148 hT148 => ?_)
                      obtain ⟨f4, a4, rfl, hA4, o4⟩ := hT148
                      rw [← cp_doO_116 (N := N) (k := w s) (b := 0) (c := 0) (d := 0) (by omega)] at hA4
                      rw [← cp_doO_116 (N := N) (k := w s) (b := 0) (c := 0) (d := 0) (by omega)]
                      refine mp_X7_223 O M dX7_readsOrder_151 ?_
                      refine cp_iconst O dX7_readsOrder_154 (v := 1) rfl ?_
                      exact hr _ _ _ _ dX7_readsOrder_155 rfl ⟨_, a4, rfl, hA4, by rw [cp_upd_n (by decide), o4 11 (by decide) (by decide)]; exact a3, cp_upd_s, fun k k7 k8 k11 k13 k14 => by rw [cp_upd_n k13, o4 k k7 k8]; exact o3 k k11 k14⟩
                    · refine cp_aload_n O dX7_readsOrder_132 cp_lg0 ?_
                      refine cp_aload_n O dX7_readsOrder_133 cp_lg0 ?_
                      refine mg_X7_207 O M dX7_readsOrder_134 ?_
                      rw [b3]
                      refine cp_cVir O me_X7_doKill mi_X7_doKill ml_X7_156 cp_cX7 M.s (l_X7_doKill M hA hV) dX7_readsOrder_137 rfl rfl ⟨Nat.le_of_ble_eq_true rfl, Nat.le_of_ble_eq_true rfl⟩ ⟨Nat.le_refl _, Nat.le_refl _⟩ (Nat.le_of_ble_eq_true rfl) (fun I137 hT137 => ?_)
                      obtain ⟨f4, a4, rfl, hA4, o4⟩ := hT137
                      rw [← cp_doO_107 (N := N) (k := w s) (b := 0) (c := 0) (d := 0) (by omega)] at hA4
                      rw [← cp_doO_107 (N := N) (k := w s) (b := 0) (c := 0) (d := 0) (by omega)]
                      refine cp_goto (tgt := 151) O dX7_readsOrder_140 (by decide) ?_
                      refine mp_X7_223 O M dX7_readsOrder_151 ?_
                      refine cp_iconst O dX7_readsOrder_154 (v := 1) rfl ?_
                      exact hr _ _ _ _ dX7_readsOrder_155 rfl ⟨_, a4, rfl, hA4, by rw [cp_upd_n (by decide), o4 11 (by decide) (by decide)]; exact a3, cp_upd_s, fun k k7 k8 k11 k13 k14 => by rw [cp_upd_n k13, o4 k k7 k8]; exact o3 k k11 k14⟩
                  · refine cp_aload_n O dX7_readsOrder_115 cp_lg0 ?_
                    refine cp_aload_n O dX7_readsOrder_116 cp_lg0 ?_
                    refine mg_X7_207 O M dX7_readsOrder_117 ?_
                    rw [b3]
                    refine cp_cVir O me_X7_doHold mi_X7_doHold ml_X7_153 cp_cX7 M.s (l_X7_doHold M hA hV) dX7_readsOrder_120 rfl rfl ⟨Nat.le_of_ble_eq_true rfl, Nat.le_of_ble_eq_true rfl⟩ ⟨Nat.le_refl _, Nat.le_refl _⟩ (Nat.le_of_ble_eq_true rfl) (fun I120 hT120 => ?_)
                    obtain ⟨f4, a4, rfl, hA4, o4⟩ := hT120
                    rw [← cp_doO_104 (N := N) (k := w s) (b := 0) (c := 0) (d := 0) (by omega)] at hA4
                    rw [← cp_doO_104 (N := N) (k := w s) (b := 0) (c := 0) (d := 0) (by omega)]
                    refine cp_goto (tgt := 151) O dX7_readsOrder_123 (by decide) ?_
                    refine mp_X7_223 O M dX7_readsOrder_151 ?_
                    refine cp_iconst O dX7_readsOrder_154 (v := 1) rfl ?_
                    exact hr _ _ _ _ dX7_readsOrder_155 rfl ⟨_, a4, rfl, hA4, by rw [cp_upd_n (by decide), o4 11 (by decide) (by decide)]; exact a3, cp_upd_s, fun k k7 k8 k11 k13 k14 => by rw [cp_upd_n k13, o4 k k7 k8]; exact o3 k k11 k14⟩
                · refine cp_aload_n O dX7_readsOrder_98 cp_lg0 ?_
                  refine cp_aload_n O dX7_readsOrder_99 cp_lg0 ?_
                  refine mg_X7_207 O M dX7_readsOrder_100 ?_
                  rw [b3]
                  refine cp_cVir O me_X7_doPlate mi_X7_doPlate ml_X7_150 cp_cX7 M.s (l_X7_doPlate M hA hV) dX7_readsOrder_103 rfl rfl ⟨Nat.le_of_ble_eq_true rfl, Nat.le_of_ble_eq_true rfl⟩ ⟨Nat.le_refl _, Nat.le_refl _⟩ (Nat.le_of_ble_eq_true rfl) (fun I103 hT103 => ?_)
                  obtain ⟨f4, a4, rfl, hA4, o4⟩ := hT103
                  rw [← cp_doO_112 (N := N) (k := w s) (b := 0) (c := 0) (d := 0) (by omega)] at hA4
                  rw [← cp_doO_112 (N := N) (k := w s) (b := 0) (c := 0) (d := 0) (by omega)]
                  refine cp_goto (tgt := 151) O dX7_readsOrder_106 (by decide) ?_
                  refine mp_X7_223 O M dX7_readsOrder_151 ?_
                  refine cp_iconst O dX7_readsOrder_154 (v := 1) rfl ?_
                  exact hr _ _ _ _ dX7_readsOrder_155 rfl ⟨_, a4, rfl, hA4, by rw [cp_upd_n (by decide), o4 11 (by decide) (by decide)]; exact a3, cp_upd_s, fun k k7 k8 k11 k13 k14 => by rw [cp_upd_n k13, o4 k k7 k8]; exact o3 k k11 k14⟩
            · exact absurd (hp.symm.trans (cp_pO_3 c_6 hk c_79)) (by simp)
          · refine cp_iload_n O dX7_readsOrder_57 cp_lg1 ?_
            refine cp_bipush O dX7_readsOrder_58 (v := 116) rfl ?_
            refine cp_icmp_eqN (tgt := 65) O dX7_readsOrder_60 (by decide) (a := (w s)) (b := 116) ((congrArg (r 7) (show s = s from rfl)).trans hw) rfl (by omega) (by omega) (fun c_60 => ?_) (fun c_60 => ?_)
            · have hk : s < len ∧ (w s = 112 ∨ w s = 104 ∨ w s = 107 ∨ w s = 116) := by omega
              have u2 : f1 11 + 1 = nI (s + 1) := by rw [a1]; exact nI_1 s
              refine cp_aload_n O dX7_readsOrder_65 cp_lg0 ?_
              refine cp_dup O dX7_readsOrder_66 rfl ?_
              refine mg_X7_201 O M dX7_readsOrder_67 ?_
              refine cp_iconst O dX7_readsOrder_70 (v := 1) rfl ?_
              refine cp_iadd O dX7_readsOrder_71 ?_
              refine mp_X7_201 O M dX7_readsOrder_72 ?_
              refine cp_aload_n O dX7_readsOrder_75 cp_lg0 ?_
              refine cp_cVir O me_X7_readsNumber mi_X7_readsNumber ml_X7_216 cp_cX7 M.s (c_X7_readsNumber (s := s + 1) M hT ((cp_upd_n (by decide)).trans ((o1 10 (by decide) (by decide)).trans h10)) (cp_upd_s.trans u2) (by omega)) dX7_readsOrder_76 rfl rfl ⟨Nat.le_of_ble_eq_true rfl, Nat.le_of_ble_eq_true rfl⟩ ⟨Nat.le_refl _, Nat.le_refl _⟩ (Nat.le_of_ble_eq_true rfl) (fun I76 hT76 => ?_)
              obtain ⟨f3, rfl, a3, b3, o3⟩ := hT76
              have o3 := cp_FF_t (cp_FF_u o1 (Or.inl rfl)) o3
              refine cp_if_neB (tgt := 84) O dX7_readsOrder_79 (by decide) (fun c_79 => ?_) (fun c_79 => ?_)
              · rw [if_pos c_79] at a3
                have b3 := b3 c_79
                have u3 := cp_rn_le c_79
                have hP := cp_pO_4 c_6 hk c_79
                obtain ⟨ho, hpp⟩ := Prod.mk.inj (hp.symm.trans hP)
                obtain rfl := Option.some.inj ho
                subst hpp
                refine cp_aload_n O dX7_readsOrder_84 cp_lg0 ?_
                refine mg_X7_219 O M dX7_readsOrder_85 ?_
                rw [o3 12 (by decide) (by decide), h12]
                refine cp_if_eq (tgt := 154) O dX7_readsOrder_88 (by decide) (fun c_88 => ?_) (fun c_88 => ?_)
                · exact absurd c_88 (by decide)
                · refine cp_aload_n O dX7_readsOrder_91 cp_lg0 ?_
                  refine cp_iload_n O dX7_readsOrder_92 cp_lg1 ?_
                  refine cp_bipush O dX7_readsOrder_93 (v := 112) rfl ?_
                  refine cp_icmp_neN (tgt := 109) O dX7_readsOrder_95 (by decide) (a := (w s)) (b := 112) ((congrArg (r 7) (show s = s from rfl)).trans hw) rfl (by omega) (by omega) (fun c_95 => ?_) (fun c_95 => ?_)
                  · refine cp_iload_n O dX7_readsOrder_109 cp_lg1 ?_
                    refine cp_bipush O dX7_readsOrder_110 (v := 104) rfl ?_
                    refine cp_icmp_neN (tgt := 126) O dX7_readsOrder_112 (by decide) (a := (w s)) (b := 104) ((congrArg (r 7) (show s = s from rfl)).trans hw) rfl (by omega) (by omega) (fun c_112 => ?_) (fun c_112 => ?_)
                    · refine cp_iload_n O dX7_readsOrder_126 cp_lg1 ?_
                      refine cp_bipush O dX7_readsOrder_127 (v := 107) rfl ?_
                      refine cp_icmp_neN (tgt := 143) O dX7_readsOrder_129 (by decide) (a := (w s)) (b := 107) ((congrArg (r 7) (show s = s from rfl)).trans hw) rfl (by omega) (by omega) (fun c_129 => ?_) (fun c_129 => ?_)
                      · refine cp_aload_n O dX7_readsOrder_143 cp_lg0 ?_
                        refine cp_aload_n O dX7_readsOrder_144 cp_lg0 ?_
                        refine mg_X7_207 O M dX7_readsOrder_145 ?_
                        rw [b3]
                        refine cp_cVir O me_X7_doPass mi_X7_doPass ml_X7_159 cp_cX7 M.s (l_X7_doPass M hA hV) dX7_readsOrder_148 rfl rfl ⟨Nat.le_of_ble_eq_true rfl, Nat.le_of_ble_eq_true rfl⟩ ⟨Nat.le_refl _, Nat.le_refl _⟩ (Nat.le_of_ble_eq_true rfl) (fun I148 hT148 => ?_)
                        obtain ⟨f4, a4, rfl, hA4, o4⟩ := hT148
                        rw [← cp_doO_116 (N := N) (k := w s) (b := 0) (c := 0) (d := 0) (by omega)] at hA4
                        rw [← cp_doO_116 (N := N) (k := w s) (b := 0) (c := 0) (d := 0) (by omega)]
                        refine mp_X7_223 O M dX7_readsOrder_151 ?_
                        refine cp_iconst O dX7_readsOrder_154 (v := 1) rfl ?_
                        exact hr _ _ _ _ dX7_readsOrder_155 rfl ⟨_, a4, rfl, hA4, by rw [cp_upd_n (by decide), o4 11 (by decide) (by decide)]; exact a3, cp_upd_s, fun k k7 k8 k11 k13 k14 => by rw [cp_upd_n k13, o4 k k7 k8]; exact o3 k k11 k14⟩
                      · refine cp_aload_n O dX7_readsOrder_132 cp_lg0 ?_
                        refine cp_aload_n O dX7_readsOrder_133 cp_lg0 ?_
                        refine mg_X7_207 O M dX7_readsOrder_134 ?_
                        rw [b3]
                        refine cp_cVir O me_X7_doKill mi_X7_doKill ml_X7_156 cp_cX7 M.s (l_X7_doKill M hA hV) dX7_readsOrder_137 rfl rfl ⟨Nat.le_of_ble_eq_true rfl, Nat.le_of_ble_eq_true rfl⟩ ⟨Nat.le_refl _, Nat.le_refl _⟩ (Nat.le_of_ble_eq_true rfl) (fun I137 hT137 => ?_)
                        obtain ⟨f4, a4, rfl, hA4, o4⟩ := hT137
                        rw [← cp_doO_107 (N := N) (k := w s) (b := 0) (c := 0) (d := 0) (by omega)] at hA4
                        rw [← cp_doO_107 (N := N) (k := w s) (b := 0) (c := 0) (d := 0) (by omega)]
                        refine cp_goto (tgt := 151) O dX7_readsOrder_140 (by decide) ?_
                        refine mp_X7_223 O M dX7_readsOrder_151 ?_
                        refine cp_iconst O dX7_readsOrder_154 (v := 1) rfl ?_
                        exact hr _ _ _ _ dX7_readsOrder_155 rfl ⟨_, a4, rfl, hA4, by rw [cp_upd_n (by decide), o4 11 (by decide) (by decide)]; exact a3, cp_upd_s, fun k k7 k8 k11 k13 k14 => by rw [cp_upd_n k13, o4 k k7 k8]; exact o3 k k11 k14⟩
                    · refine cp_aload_n O dX7_readsOrder_115 cp_lg0 ?_
                      refine cp_aload_n O dX7_readsOrder_116 cp_lg0 ?_
                      refine mg_X7_207 O M dX7_readsOrder_117 ?_
                      rw [b3]
                      refine cp_cVir O me_X7_doHold mi_X7_doHold ml_X7_153 cp_cX7 M.s (l_X7_doHold M hA hV) dX7_readsOrder_120 rfl rfl ⟨Nat.le_of_ble_eq_true rfl, Nat.le_of_ble_eq_true rfl⟩ ⟨Nat.le_refl _, Nat.le_refl _⟩ (Nat.le_of_ble_eq_true rfl) (fun I120 hT120 => ?_)
                      obtain ⟨f4, a4, rfl, hA4, o4⟩ := hT120
                      rw [← cp_doO_104 (N := N) (k := w s) (b := 0) (c := 0) (d := 0) (by omega)] at hA4
                      rw [← cp_doO_104 (N := N) (k := w s) (b := 0) (c := 0) (d := 0) (by omega)]
                      refine cp_goto (tgt := 151) O dX7_readsOrder_123 (by decide) ?_
                      refine mp_X7_223 O M dX7_readsOrder_151 ?_
                      refine cp_iconst O dX7_readsOrder_154 (v := 1) rfl ?_
                      exact hr _ _ _ _ dX7_readsOrder_155 rfl ⟨_, a4, rfl, hA4, by rw [cp_upd_n (by decide), o4 11 (by decide) (by decide)]; exact a3, cp_upd_s, fun k k7 k8 k11 k13 k14 => by rw [cp_upd_n k13, o4 k k7 k8]; exact o3 k k11 k14⟩
                  · refine cp_aload_n O dX7_readsOrder_98 cp_lg0 ?_
                    refine cp_aload_n O dX7_readsOrder_99 cp_lg0 ?_
                    refine mg_X7_207 O M dX7_readsOrder_100 ?_
                    rw [b3]
                    refine cp_cVir O me_X7_doPlate mi_X7_doPlate ml_X7_150 cp_cX7 M.s (l_X7_doPlate M hA hV) dX7_readsOrder_103 rfl rfl ⟨Nat.le_of_ble_eq_true rfl, Nat.le_of_ble_eq_true rfl⟩ ⟨Nat.le_refl _, Nat.le_refl _⟩ (Nat.le_of_ble_eq_true rfl) (fun I103 hT103 => ?_)
                    obtain ⟨f4, a4, rfl, hA4, o4⟩ := hT103
                    rw [← cp_doO_112 (N := N) (k := w s) (b := 0) (c := 0) (d := 0) (by omega)] at hA4
                    rw [← cp_doO_112 (N := N) (k := w s) (b := 0) (c := 0) (d := 0) (by omega)]
                    refine cp_goto (tgt := 151) O dX7_readsOrder_106 (by decide) ?_
                    refine mp_X7_223 O M dX7_readsOrder_151 ?_
                    refine cp_iconst O dX7_readsOrder_154 (v := 1) rfl ?_
                    exact hr _ _ _ _ dX7_readsOrder_155 rfl ⟨_, a4, rfl, hA4, by rw [cp_upd_n (by decide), o4 11 (by decide) (by decide)]; exact a3, cp_upd_s, fun k k7 k8 k11 k13 k14 => by rw [cp_upd_n k13, o4 k k7 k8]; exact o3 k k11 k14⟩
              · exact absurd (hp.symm.trans (cp_pO_3 c_6 hk c_79)) (by simp)
            · exact absurd (hp.symm.trans (cp_pO_2 c_6 (by omega))) (by simp)
  · rw [if_pos c_6] at a1
    have u1 := cp_he_t c_6
    have hP := cp_pO_1 c_6
    rw [hP] at hp
    refine cp_aload_n O dX7_readsOrder_9 cp_lg0 ?_
    refine cp_cVir O me_X7_readsPiece mi_X7_readsPiece ml_X7_226 cp_cX7 M.s (c_X7_readsPiece_1 M hT ((o1 10 (by decide) (by decide)).trans h10) a1 (by omega) ((o1 12 (by decide) (by decide)).trans h12) hA hV hp) dX7_readsOrder_10 rfl rfl ⟨Nat.le_of_ble_eq_true rfl, Nat.le_of_ble_eq_true rfl⟩ ⟨Nat.le_refl _, Nat.le_refl _⟩ (Nat.le_of_ble_eq_true rfl) (fun I10 hT10 => ?_)
    obtain ⟨f2, a2, rfl, hA2, e2, t2, o2⟩ := hT10
    exact hr _ _ _ _ dX7_readsOrder_13 rfl ⟨_, a2, rfl, hA2, e2, t2, fun k k7 k8 k11 k13 k14 => (o2 k k7 k8 k11 k13 k14).trans (o1 k k11 k14)⟩
set_option maxHeartbeats 4000000 in
set_option maxRecDepth 100000 in
theorem c_X7_fault {lc : Launch} {E : cp_En} {cnt : Nat} {sh : cp_Shp} {R : cp_Rem} {J : cp_Mem} {m : Nat} {f : Nat → Int32} {r : Nat → Nat → Int32} (M : cp_ML sh R m) {w : Nat → Nat} {len : Nat} (hT : cp_TX (r 7) w len) (h10 : f 10 = nI len) : cp_Fr lc E yX7_fault cX7_fault 2 (some .int) 10 [.ref m] cnt sh (cp_mm J m f r) R (some (.int (cp_sFault w len))) (fun I' => ∃ f', I' = cp_mm J m f' r ∧ ∀ k, k ≠ 11 → k ≠ 12 → k ≠ 13 → k ≠ 14 → f' k = f k) := by
  have hT1 := hT.1
  refine cp_Fn_iR [some (.ref m), none] (by decide +kernel) (Nat.le_of_ble_eq_true rfl) rfl rfl (fun x hxl O hr => ?_)
  subst hxl
  refine cp_aload_n O dX7_fault_0 cp_lg0 ?_
  refine cp_iconst O dX7_fault_1 (v := 0) rfl ?_
  refine mp_X7_201 O M dX7_fault_2 ?_
  refine cp_aload_n O dX7_fault_5 cp_lg0 ?_
  refine cp_iconst O dX7_fault_6 (v := 0) rfl ?_
  refine mp_X7_219 O M (by first | exact Or.inl rfl | exact Or.inr rfl | exact cp_bi01 _ | assumption) dX7_fault_7 ?_
  refine cp_iconst O dX7_fault_10 (v := 1) rfl ?_
  refine cp_istore_n O dX7_fault_11 (by decide) (cp_ls1 rfl) ?_
  have loop12 : ∀ tt s (b : Bool) (f' : Nat → Int32), (b = true → len - s < tt ∧ cp_fl2 w len tt s = cp_sFault w len) → (b = false → cp_sFault w len = if s = len then -6 else nI s) → s ≤ len → f' 11 = nI s → f' 12 = 0 → (∀ k, k ≠ 11 → k ≠ 12 → k ≠ 13 → k ≠ 14 → f' k = f k) → cp_G x E 2 0 0 cnt sh (cp_mm J m f' r) R 12 [some (.ref m), some (.int (cp_bi b))] [] := by
    intro tt
    refine cp_down (P := fun tt => ∀ s (b : Bool) (f' : Nat → Int32), (b = true → len - s < tt ∧ cp_fl2 w len tt s = cp_sFault w len) → (b = false → cp_sFault w len = if s = len then -6 else nI s) → s ≤ len → f' 11 = nI s → f' 12 = 0 → (∀ k, k ≠ 11 → k ≠ 12 → k ≠ 13 → k ≠ 14 → f' k = f k) → cp_G x E 2 0 0 cnt sh (cp_mm J m f' r) R 12 [some (.ref m), some (.int (cp_bi b))] []) (fun tt ih s b f' hb1 hb0 hs e11 e12 hff => ?_) tt
    refine cp_iload_n O dX7_fault_12 cp_lg1 ?_
    refine cp_if_eqB (tgt := 38) O dX7_fault_13 (by decide) (fun c_13 => ?_) (fun c_13 => ?_)
    · have hF := hb0 c_13
      refine cp_aload_n O dX7_fault_38 cp_lg0 ?_
      refine mg_X7_201 O M dX7_fault_39 ?_
      refine cp_aload_n O dX7_fault_42 cp_lg0 ?_
      refine mg_X7_183 O M dX7_fault_43 ?_
      refine cp_icmp_neN (tgt := 54) O dX7_fault_46 (by decide) (a := s) (b := len) e11 ((hff 10 (by decide) (by decide) (by decide) (by decide)).trans h10) (by omega) (by omega) (fun c_46 => ?_) (fun c_46 => ?_)
      · refine cp_aload_n O dX7_fault_54 cp_lg0 ?_
        refine mg_X7_201 O M dX7_fault_55 ?_
        exact hr _ _ _ _ dX7_fault_58 (by rw [hF, if_neg c_46]; exact e11) ⟨_, rfl, hff⟩
      · refine cp_bipush O dX7_fault_49 (v := (-6)) rfl ?_
        refine cp_goto (tgt := 58) O dX7_fault_51 (by decide) ?_
        exact hr _ _ _ _ dX7_fault_58 (by rw [hF, if_pos c_46]) ⟨_, rfl, hff⟩
    · obtain ⟨hbt, hbf⟩ := hb1 c_13
      refine cp_aload_n O dX7_fault_16 cp_lg0 ?_
      refine cp_cVir O me_X7_readsOrder mi_X7_readsOrder ml_X7_229 cp_cX7 M.s (c_X7_readsOrder_0 (f := f') M hT ((hff 10 (by decide) (by decide) (by decide) (by decide)).trans h10) e11 hs e12) dX7_fault_17 rfl rfl ⟨Nat.le_of_ble_eq_true rfl, Nat.le_of_ble_eq_true rfl⟩ ⟨Nat.le_refl _, Nat.le_refl _⟩ (Nat.le_of_ble_eq_true rfl) (fun I17 hT17 => ?_)
      obtain ⟨f3, rfl, e3, o3⟩ := hT17
      obtain ⟨q, hq⟩ : ∃ q, cp_pO w len s = q := ⟨_, rfl⟩
      obtain ⟨qo, p⟩ := q
      obtain ⟨t2, rfl⟩ : ∃ t2, tt = t2 + 1 := ⟨tt - 1, by omega⟩
      have ule : s ≤ p ∧ p ≤ len ∧ (qo ≠ none → s < p) := by have := cp_pO_le (w := w) hs; rw [hq] at this; exact this
      rw [hq] at e3 ⊢
      replace e3 : f3 11 = nI p := e3
      refine cp_if_neB (tgt := 28) O dX7_fault_20 (by decide) (fun c_20 => ?_) (fun c_20 => ?_)
      · obtain ⟨o, rfl⟩ := Option.isSome_iff_exists.mp c_20
        have u4 := ule.2.2 (by simp)
        refine cp_aload_n O dX7_fault_28 cp_lg0 ?_
        refine cp_bipush O dX7_fault_29 (v := 59) rfl ?_
        refine cp_cVir O me_X7_takesOne mi_X7_takesOne ml_X7_213 cp_cX7 M.s (c_X7_takesOne (c := 59) M hT ((o3 10 (by decide) (by decide) (by decide)).trans ((hff 10 (by decide) (by decide) (by decide) (by decide)).trans h10)) e3 ule.2.1 (by decide)) dX7_fault_31 rfl rfl ⟨Nat.le_of_ble_eq_true rfl, Nat.le_of_ble_eq_true rfl⟩ ⟨Nat.le_refl _, Nat.le_refl _⟩ (Nat.le_of_ble_eq_true rfl) (fun I31 hT31 => ?_)
        obtain ⟨f4, rfl, e4, _, o4⟩ := hT31
        refine cp_istore_n O dX7_fault_34 (by decide) (cp_ls1 rfl) ?_
        refine cp_goto (tgt := 12) O dX7_fault_35 (by decide) ?_
        have hfe := cp_fl2_s (t := t2) hq
        refine ih (by omega) (if cp_he w len p 59 59 = true then p + 1 else p) (cp_he w len p 59 59) _ (fun z => ?_) (fun z => ?_) (by split <;> first | (rename_i z; have := cp_he_t z; omega) | omega) e4 ((o4 12 (by decide) (by decide)).trans ((o3 12 (by decide) (by decide) (by decide)).trans e12)) (fun k k1 k2 k3 k4 => (o4 k k1 k4).trans ((o3 k k1 k3 k4).trans (hff k k1 k2 k3 k4)))
        · have := cp_he_t z
          rw [if_pos z] at hfe ⊢
          exact ⟨by omega, hfe.symm.trans hbf⟩
        · rw [if_neg (cp_bF z)] at hfe ⊢
          exact hbf.symm.trans hfe
      · obtain rfl : qo = none := by
          cases qo with
          | none => rfl
          | some o => exact absurd c_20 (by simp)
        have hfe := cp_fl2_n (t := t2) hq
        refine cp_aload_n O dX7_fault_23 cp_lg0 ?_
        refine mg_X7_201 O M dX7_fault_24 ?_
        exact hr _ _ _ _ dX7_fault_27 (e3.trans (hfe.symm.trans hbf)) ⟨_, rfl, fun k k1 k2 k3 k4 => (o3 k k1 k3 k4).trans (hff k k1 k2 k3 k4)⟩
  exact loop12 (len + 1) 0 true _ (fun _ => ⟨by omega, rfl⟩) (fun z => absurd z (by decide)) (Nat.zero_le _) ((cp_upd_n (by decide)).trans cp_upd_s) cp_upd_s (fun k k1 k2 k3 k4 => by rw [cp_upd_n k2, cp_upd_n k1])
