theorem cp_rowrow (I : cp_Mem) (a : Nat) (f g : Nat → Int32) : cp_row (cp_row I a f) a g = cp_row I a g := by
  funext x
  unfold cp_row
  by_cases h : x = a <;> simp [h]
/-- orders that are carried out, fuel t: how many, and the night behind them -/
def cp_run (w : Nat → Nat) (len : Nat) : Nat → Nat → cp_Nt → Nat → Nat × cp_Nt
  | 0, _, N, c => (c, N)
  | t + 1, s, N, c => match cp_pO w len s with
    | (none, _) => (c, N)
    | (some o, p) => if (cp_doO N o).1 < 0 then (c, (cp_doO N o).2) else if cp_he w len p 59 59 = true then cp_run w len t (p + 1) (cp_doO N o).2 (c + 1) else (c + 1, (cp_doO N o).2)
theorem cp_run_s {w : Nat → Nat} {len t s p c : Nat} {N : cp_Nt} {o : cp_Od} (h : cp_pO w len s = (some o, p)) : cp_run w len (t + 1) s N c = if (cp_doO N o).1 < 0 then (c, (cp_doO N o).2) else if cp_he w len p 59 59 = true then cp_run w len t (p + 1) (cp_doO N o).2 (c + 1) else (c + 1, (cp_doO N o).2) := by
  show (match cp_pO w len s with
    | (none, _) => (c, N)
    | (some o, p) => if (cp_doO N o).1 < 0 then (c, (cp_doO N o).2) else if cp_he w len p 59 59 = true then cp_run w len t (p + 1) (cp_doO N o).2 (c + 1) else (c + 1, (cp_doO N o).2)) = _
  rw [h]
def cp_wX (X : cp_St) : Nat → Nat := fun i => (cp_xT X i).toInt.toNat
def cp_sFlt (X : cp_St) : Int32 := cp_sFault (cp_wX X) (cp_xn X)
def cp_cyr (X : cp_St) : Nat × cp_Nt := cp_run (cp_wX X) (cp_xn X) (cp_xn X + 1) 0 (cp_xN X) 0
def cp_xW (X : cp_St) : cp_St := (cp_xN X, cp_xL X, cp_xH X, cp_xZ X, cp_xT X, 0)
def cp_sCarry (X : cp_St) : Int32 × cp_St := if cp_sFlt X = -6 then (nI (cp_cyr X).1, cp_psh (cp_xW X) (cp_cyr X).2) else (-3, X)
theorem cp_NV_doO {N : cp_Nt} {o : cp_Od} (hV : cp_NV N) : cp_NV (cp_doO N o).2 := by
  unfold cp_doO
  split
  · exact cp_NV_piece hV
  · split
    · exact cp_NV_plate hV
    · split
      · exact cp_NV_hold hV
      · split
        · exact cp_NV_kill hV
        · exact cp_NV_pass hV
theorem cp_MR_TX {f : Nat → Int32} {r : Nat → Nat → Int32} {X : cp_St} (hR : cp_MR f r X) : cp_TX (r 7) (cp_wX X) (cp_xn X) := by
  refine ⟨hR.2.2.2.2.2.1, fun i hi => ?_⟩
  obtain ⟨h1, h2⟩ := hR.2.2.2.2.2.2 i hi
  obtain ⟨k, k1, k2, k3⟩ := cp_rg_nI (l := 33) (h := 126) h2
  unfold cp_wX
  rw [k3, cp_nIt (by omega)]
  exact ⟨h1.trans k3, by omega⟩
theorem cp_MR_W {f : Nat → Int32} {r : Nat → Nat → Int32} {X : cp_St} (hR : cp_MR f r X) : cp_MR (upd f 10 0) r (cp_xW X) := by
  obtain ⟨g1, g2, g3, g4, g5⟩ := hR
  exact ⟨g1, g2, ⟨(cp_upd_n (by decide)).trans g3.1, g3.2⟩, g4, cp_upd_s, Nat.zero_le _, fun i hi => absurd hi (Nat.not_lt_zero _)⟩
theorem cp_fl2_o {w : Nat → Nat} {len t s : Nat} (hs : s ≤ len) (hl : len ≤ 80) (h : cp_fl2 w len (t + 1) s = -6) : ∃ o p, cp_pO w len s = (some o, p) ∧ s < p ∧ p ≤ len := by
  obtain ⟨q, hq⟩ : ∃ q, cp_pO w len s = q := ⟨_, rfl⟩
  obtain ⟨qo, p⟩ := q
  have ule := cp_pO_le (w := w) hs
  rw [hq] at ule
  have ule : s ≤ p ∧ p ≤ len ∧ (qo ≠ none → s < p) := ule
  cases qo with
  | none =>
    rw [cp_fl2_n hq] at h
    exact absurd h (cp_m6 (by omega))
  | some o => exact ⟨o, p, hq, ule.2.2 (by simp), ule.2.1⟩
theorem m_X7_fault {lc : Launch} {E : cp_En} {cnt : Nat} {sh : cp_Shp} {R : cp_Rem} {J : cp_Mem} {m : Nat} {f : Nat → Int32} {r : Nat → Nat → Int32} (M : cp_ML sh R m) {X : cp_St} (hR : cp_MR f r X) : cp_Fr lc E yX7_fault cX7_fault 2 (some .int) 10 [.ref m] cnt sh (cp_mm J m f r) R (some (.int (cp_sFlt X))) (fun I' => ∃ (f' : Nat → Int32) (r' : Nat → Nat → Int32), I' = cp_mm J m f' r' ∧ cp_MR f' r' X) := by
  refine cp_Fr_mono (c_X7_fault (lc := lc) (E := E) (cnt := cnt) (J := J) M (cp_MR_TX hR) hR.2.2.2.2.1) rfl fun I' hI => ?_
  obtain ⟨f', rfl, h⟩ := hI
  exact ⟨_, _, rfl, cp_MR_eq hR (h 4 (by decide) (by decide) (by decide) (by decide)) (h 10 (by decide) (by decide) (by decide) (by decide)) (fun _ _ _ => rfl)⟩
set_option maxHeartbeats 4000000 in
set_option maxRecDepth 100000 in
theorem c_X7_carryOut_0 {lc : Launch} {E : cp_En} {cnt : Nat} {sh : cp_Shp} {R : cp_Rem} {J : cp_Mem} {m : Nat} {f : Nat → Int32} {r : Nat → Nat → Int32} (M : cp_ML sh R m) {X : cp_St} (hR : cp_MR f r X) (hv : ¬ cp_sFlt X = -6) : cp_Fr lc E yX7_carryOut cX7_carryOut 4 (some .int) 11 [.ref m] cnt sh (cp_mm J m f r) R (some (.int (-3))) (fun I' => ∃ (f' : Nat → Int32) (r' : Nat → Nat → Int32), I' = cp_mm J m f' r' ∧ cp_MR f' r' X) := by
  refine cp_Fn_iR [some (.ref m), none, none, none] (by decide +kernel) (Nat.le_of_ble_eq_true rfl) rfl rfl (fun x hxl O hr => ?_)
  subst hxl
  refine cp_aload_n O dX7_carryOut_0 cp_lg0 ?_
  refine cp_cVir O me_X7_fault mi_X7_fault ml_X7_232 cp_cX7 M.s (m_X7_fault M hR) dX7_carryOut_1 rfl rfl ⟨Nat.le_of_ble_eq_true rfl, Nat.le_of_ble_eq_true rfl⟩ ⟨Nat.le_refl _, Nat.le_refl _⟩ (Nat.le_of_ble_eq_true rfl) (fun I1 hT1 => ?_)
  obtain ⟨f', r', rfl, hR'⟩ := hT1
  refine cp_bipush O dX7_carryOut_4 (v := (-6)) rfl ?_
  refine cp_icmp_eq (tgt := 12) O dX7_carryOut_6 (by decide) (fun c_6 => ?_) (fun c_6 => ?_)
  · exact absurd c_6 hv
  · refine cp_bipush O dX7_carryOut_9 (v := (-3)) rfl ?_
    exact hr _ _ _ _ dX7_carryOut_11 rfl ⟨_, _, rfl, hR'⟩
set_option maxHeartbeats 4000000 in
set_option maxRecDepth 100000 in
theorem c_X7_carryOut_1 {lc : Launch} {E : cp_En} {cnt : Nat} {sh : cp_Shp} {R : cp_Rem} {J : cp_Mem} {m : Nat} {f : Nat → Int32} {r : Nat → Nat → Int32} (M : cp_ML sh R m) {X : cp_St} (hR : cp_MR f r X) (hv : cp_sFlt X = -6) : cp_Fr lc E yX7_carryOut cX7_carryOut 4 (some .int) 11 [.ref m] cnt sh (cp_mm J m f r) R (some (.int (nI (cp_cyr X).1))) (fun I' => ∃ (f' : Nat → Int32) (r' : Nat → Nat → Int32), I' = cp_mm J m f' r' ∧ cp_MR f' r' (cp_psh (cp_xW X) (cp_cyr X).2)) := by
  have hT := cp_MR_TX hR
  have hT1 := hT.1
  refine cp_Fn_iR [some (.ref m), none, none, none] (by decide +kernel) (Nat.le_of_ble_eq_true rfl) rfl rfl (fun x hxl O hr => ?_)
  subst hxl
  refine cp_aload_n O dX7_carryOut_0 cp_lg0 ?_
  refine cp_cVir O me_X7_fault mi_X7_fault ml_X7_232 cp_cX7 M.s (c_X7_fault M (cp_MR_TX hR) hR.2.2.2.2.1) dX7_carryOut_1 rfl rfl ⟨Nat.le_of_ble_eq_true rfl, Nat.le_of_ble_eq_true rfl⟩ ⟨Nat.le_refl _, Nat.le_refl _⟩ (Nat.le_of_ble_eq_true rfl) (fun I1 hT1 => ?_)
  obtain ⟨f1, rfl, o1⟩ := hT1
  refine cp_bipush O dX7_carryOut_4 (v := (-6)) rfl ?_
  refine cp_icmp_eq (tgt := 12) O dX7_carryOut_6 (by decide) (fun c_6 => ?_) (fun c_6 => ?_)
  · refine cp_aload_n O dX7_carryOut_12 cp_lg0 ?_
    refine fg_X7_7 O M.s M.f0 dX7_carryOut_13 ?_
    refine cp_aload_n O dX7_carryOut_16 cp_lg0 ?_
    refine fg_X7_13 O M.s M.f1 dX7_carryOut_17 ?_
    refine cp_cSv O me_X7_copy ms_X7_copy ml_X7_139 (cp_Fn_eq (I'' := cp_mm J m f1 (cp_kp r)) (c_X7_copy (i := 1) (k := 2) (r := r) (by decide) (by decide) (by decide) M.s0 M.s1) rfl (by rw [cp_c4_12]; rfl)) dX7_carryOut_20 rfl rfl ⟨Nat.le_of_ble_eq_true rfl, Nat.le_of_ble_eq_true rfl⟩ ⟨Nat.le_refl _, Nat.le_refl _⟩ (Nat.le_of_ble_eq_true rfl) ?_
    refine cp_aload_n O dX7_carryOut_23 cp_lg0 ?_
    refine cp_iconst O dX7_carryOut_24 (v := 0) rfl ?_
    refine mp_X7_201 O M dX7_carryOut_25 ?_
    refine cp_aload_n O dX7_carryOut_28 cp_lg0 ?_
    refine cp_iconst O dX7_carryOut_29 (v := 1) rfl ?_
    refine mp_X7_219 O M (by first | exact Or.inl rfl | exact Or.inr rfl | exact cp_bi01 _ | assumption) dX7_carryOut_30 ?_
    refine cp_iconst O dX7_carryOut_33 (v := 0) rfl ?_
    refine cp_istore_n O dX7_carryOut_34 (by decide) (cp_ls1 rfl) ?_
    refine cp_iconst O dX7_carryOut_35 (v := 1) rfl ?_
    refine cp_istore_n O dX7_carryOut_36 (by decide) (cp_ls2 rfl) ?_
    have loop37 : ∀ tt s c (b : Bool) (f' a' : Nat → Int32) (N : cp_Nt), (b = true → cp_xn X - s < tt ∧ cp_run (cp_wX X) (cp_xn X) tt s N c = cp_cyr X ∧ cp_fl2 (cp_wX X) (cp_xn X) tt s = -6) → (b = false → cp_cyr X = (c, N)) → s ≤ cp_xn X → c ≤ s → f' 11 = nI s → f' 12 = 1 → (∀ k, k ≠ 7 → k ≠ 8 → k ≠ 11 → k ≠ 12 → k ≠ 13 → k ≠ 14 → f' k = f k) → cp_MA a' N → cp_NV N → cp_G x E 4 0 0 cnt sh (cp_mm J m f' (cp_row (cp_kp r) 1 a')) R 37 [some (.ref m), some (.int (nI c)), some (.int (cp_bi b)), none] [] := by
      intro tt
      refine cp_down (P := fun tt => ∀ s c (b : Bool) (f' a' : Nat → Int32) (N : cp_Nt), (b = true → cp_xn X - s < tt ∧ cp_run (cp_wX X) (cp_xn X) tt s N c = cp_cyr X ∧ cp_fl2 (cp_wX X) (cp_xn X) tt s = -6) → (b = false → cp_cyr X = (c, N)) → s ≤ cp_xn X → c ≤ s → f' 11 = nI s → f' 12 = 1 → (∀ k, k ≠ 7 → k ≠ 8 → k ≠ 11 → k ≠ 12 → k ≠ 13 → k ≠ 14 → f' k = f k) → cp_MA a' N → cp_NV N → cp_G x E 4 0 0 cnt sh (cp_mm J m f' (cp_row (cp_kp r) 1 a')) R 37 [some (.ref m), some (.int (nI c)), some (.int (cp_bi b)), none] []) (fun tt ih s c b f' a' N hb1 hb0 hs hcs e11 e12 hff hA hV => ?_) tt
      refine cp_iload_n O dX7_carryOut_37 cp_lg2 ?_
      refine cp_if_eqB (tgt := 86) O dX7_carryOut_38 (by decide) (fun c_38 => ?_) (fun c_38 => ?_)
      · have hF := hb0 c_38
        refine cp_aload_n O dX7_carryOut_86 cp_lg0 ?_
        refine cp_iconst O dX7_carryOut_87 (v := 0) rfl ?_
        refine mp_X7_183 O M dX7_carryOut_88 ?_
        refine cp_aload_n O dX7_carryOut_91 cp_lg0 ?_
        refine cp_iload_n O dX7_carryOut_92 cp_lg1 ?_
        refine cp_cVir O me_X7_ends mi_X7_ends ml_X7_143 cp_cX7 M.s (c_X7_ends_p (r := cp_row (cp_kp r) 1 a') (f := upd f' 10 0) (L := cp_xL X) M (cp_nI_le0 (by omega)) ((cp_upd_n (by decide)).trans ((hff 4 (by decide) (by decide) (by decide) (by decide) (by decide) (by decide)).trans hR.2.2.1.1)) hR.2.2.1.2.1) dX7_carryOut_93 rfl rfl ⟨Nat.le_of_ble_eq_true rfl, Nat.le_of_ble_eq_true rfl⟩ ⟨Nat.le_refl _, Nat.le_refl _⟩ (Nat.le_of_ble_eq_true rfl) (fun I93 hT93 => ?_)
        obtain ⟨h', rfl, z1, z2⟩ := hT93
        exact hr _ _ _ _ dX7_carryOut_96 (by rw [hF]) ⟨_, _, rfl, by rw [hF]; exact cp_MR_pos (X := cp_xW X) (f1 := upd f' 10 0) (cp_MR_W hR) (cp_upd_s.trans cp_upd_s.symm) hA hV z1 z2⟩
      · obtain ⟨hbt, hrf, hfl⟩ := hb1 c_38
        obtain ⟨t2, rfl⟩ : ∃ t2, tt = t2 + 1 := ⟨tt - 1, by omega⟩
        obtain ⟨o, p, hq, hp1, hp2⟩ := cp_fl2_o hs hT.1 hfl
        have hfe := cp_fl2_s (t := t2) hq
        have hru := cp_run_s (t := t2) (N := N) (c := c) hq
        refine cp_aload_n O dX7_carryOut_41 cp_lg0 ?_
        refine cp_cVir O me_X7_readsOrder mi_X7_readsOrder ml_X7_229 cp_cX7 M.s (c_X7_readsOrder_1 (f := f') (r := cp_row (cp_kp r) 1 a') M (by rw [cp_kp_o _ _ (by decide) (by decide)]; exact hT) ((hff 10 (by decide) (by decide) (by decide) (by decide) (by decide) (by decide)).trans hR.2.2.2.2.1) e11 hs e12 (by rw [cp_row_s]; exact hA) hV hq) dX7_carryOut_42 rfl rfl ⟨Nat.le_of_ble_eq_true rfl, Nat.le_of_ble_eq_true rfl⟩ ⟨Nat.le_refl _, Nat.le_refl _⟩ (Nat.le_of_ble_eq_true rfl) (fun I42 hT42 => ?_)
        obtain ⟨f3, a3, rfl, hA3, e11', e13', o3⟩ := hT42
        rw [cp_rowrow]
        refine cp_istore_n O dX7_carryOut_45 (by decide) (cp_ls3 rfl) ?_
        refine cp_iload_n O dX7_carryOut_46 cp_lg1 ?_
        refine cp_aload_n O dX7_carryOut_47 cp_lg0 ?_
        refine mg_X7_223 O M dX7_carryOut_48 ?_
        rw [e13']
        refine cp_if_ge (tgt := 58) O dX7_carryOut_51 (by decide) (fun c_51 => ?_) (fun c_51 => ?_)
        · refine cp_iconst O dX7_carryOut_58 (v := 1) rfl ?_
          refine cp_iadd O dX7_carryOut_59 ?_
          refine cp_istore_n O dX7_carryOut_60 (by decide) (cp_ls1 rfl) ?_
          refine cp_aload_n O dX7_carryOut_61 cp_lg0 ?_
          refine mg_X7_223 O M dX7_carryOut_62 ?_
          rw [e13']
          refine cp_if_lt (tgt := 81) O dX7_carryOut_65 (by decide) (fun c_65 => ?_) (fun c_65 => ?_)
          · exact absurd c_65 (Int32.not_lt.mpr c_51)
          · refine cp_aload_n O dX7_carryOut_68 cp_lg0 ?_
            refine cp_bipush O dX7_carryOut_69 (v := 59) rfl ?_
            refine cp_cVir O me_X7_takesOne mi_X7_takesOne ml_X7_213 cp_cX7 M.s (c_X7_takesOne (f := f3) (r := cp_row (cp_kp r) 1 a3) (c := 59) M (by rw [cp_kp_o _ _ (by decide) (by decide)]; exact hT) ((o3 10 (by decide) (by decide) (by decide) (by decide) (by decide)).trans ((hff 10 (by decide) (by decide) (by decide) (by decide) (by decide) (by decide)).trans hR.2.2.2.2.1)) e11' hp2 (by decide)) dX7_carryOut_71 rfl rfl ⟨Nat.le_of_ble_eq_true rfl, Nat.le_of_ble_eq_true rfl⟩ ⟨Nat.le_refl _, Nat.le_refl _⟩ (Nat.le_of_ble_eq_true rfl) (fun I71 hT71 => ?_)
            obtain ⟨f4, rfl, e4, _, o4⟩ := hT71
            refine cp_if_eqB (tgt := 81) O dX7_carryOut_74 (by decide) (fun c_74 => ?_) (fun c_74 => ?_)
            · refine cp_iconst O dX7_carryOut_81 (v := 0) rfl ?_
              refine cp_istore_n O dX7_carryOut_82 (by decide) (cp_ls2 rfl) ?_
              refine cp_goto (tgt := 37) O dX7_carryOut_83 (by decide) ?_
              rw [if_neg c_65, if_neg (cp_bF c_74)] at hru
              rw [if_neg (cp_bF c_74)] at e4
              rw [nI_1]
              refine cp_Gw (cp_lws (cp_lws (cp_lws (cp_lwn cp_lw0)))) ?_
              exact ih (by omega) p (c + 1) false _ _ _ (fun z => absurd z (by decide)) (fun _ => hrf.symm.trans hru) hp2 (by omega) e4 ((o4 12 (by decide) (by decide)).trans ((o3 12 (by decide) (by decide) (by decide) (by decide) (by decide)).trans e12)) (fun k k7 k8 k11 k12 k13 k14 => (o4 k k11 k14).trans ((o3 k k7 k8 k11 k13 k14).trans (hff k k7 k8 k11 k12 k13 k14))) hA3 (cp_NV_doO hV)
            · refine cp_iconst O dX7_carryOut_77 (v := 1) rfl ?_
              refine cp_goto (tgt := 82) O dX7_carryOut_78 (by decide) ?_
              refine cp_istore_n O dX7_carryOut_82 (by decide) (cp_ls2 rfl) ?_
              refine cp_goto (tgt := 37) O dX7_carryOut_83 (by decide) ?_
              rw [if_neg c_65, if_pos c_74] at hru
              rw [if_pos c_74] at e4 hfe
              have u74 := cp_he_t c_74
              rw [nI_1]
              refine cp_Gw (cp_lws (cp_lws (cp_lws (cp_lwn cp_lw0)))) ?_
              exact ih (by omega) (p + 1) (c + 1) true _ _ _ (fun _ => ⟨by omega, hru.symm.trans hrf, hfe.symm.trans hfl⟩) (fun z => absurd z (by decide)) (by omega) (by omega) e4 ((o4 12 (by decide) (by decide)).trans ((o3 12 (by decide) (by decide) (by decide) (by decide) (by decide)).trans e12)) (fun k k7 k8 k11 k12 k13 k14 => (o4 k k11 k14).trans ((o3 k k7 k8 k11 k13 k14).trans (hff k k7 k8 k11 k12 k13 k14))) hA3 (cp_NV_doO hV)
        · refine cp_iconst O dX7_carryOut_54 (v := 0) rfl ?_
          refine cp_goto (tgt := 59) O dX7_carryOut_55 (by decide) ?_
          refine cp_iadd O dX7_carryOut_59 ?_
          refine cp_istore_n O dX7_carryOut_60 (by decide) (cp_ls1 rfl) ?_
          refine cp_aload_n O dX7_carryOut_61 cp_lg0 ?_
          refine mg_X7_223 O M dX7_carryOut_62 ?_
          rw [e13']
          refine cp_if_lt (tgt := 81) O dX7_carryOut_65 (by decide) (fun c_65 => ?_) (fun c_65 => ?_)
          · refine cp_iconst O dX7_carryOut_81 (v := 0) rfl ?_
            refine cp_istore_n O dX7_carryOut_82 (by decide) (cp_ls2 rfl) ?_
            refine cp_goto (tgt := 37) O dX7_carryOut_83 (by decide) ?_
            rw [if_pos c_65] at hru
            rw [show nI c + 0 = nI c from Int32.add_zero _]
            refine cp_Gw (cp_lws (cp_lws (cp_lws (cp_lwn cp_lw0)))) ?_
            exact ih (by omega) p c false _ _ _ (fun z => absurd z (by decide)) (fun _ => hrf.symm.trans hru) hp2 (by omega) e11' (((o3 12 (by decide) (by decide) (by decide) (by decide) (by decide)).trans e12)) (fun k k7 k8 k11 k12 k13 k14 => ((o3 k k7 k8 k11 k13 k14).trans (hff k k7 k8 k11 k12 k13 k14))) hA3 (cp_NV_doO hV)
          · exact absurd (Int32.not_le.mp c_51) c_65
    have l0 := loop37 (cp_xn X + 1) 0 0 true (upd (upd f1 11 0) 12 1) (r 1) (cp_xN X) (fun _ => ⟨by omega, rfl, hv⟩) (fun z => absurd z (by decide)) (Nat.zero_le _) (Nat.le_refl _) ((cp_upd_n (by decide)).trans cp_upd_s) cp_upd_s (fun k k7 k8 k11 k12 k13 k14 => by rw [cp_upd_n k12, cp_upd_n k11]; exact o1 k k11 k12 k13 k14) hR.1 hR.2.1
    rw [cp_kp_1] at l0
    exact l0
  · exact absurd hv c_6
theorem m_X7_carryOut {lc : Launch} {E : cp_En} {cnt : Nat} {sh : cp_Shp} {R : cp_Rem} {J : cp_Mem} {m : Nat} {f : Nat → Int32} {r : Nat → Nat → Int32} (M : cp_ML sh R m) {X : cp_St} (hR : cp_MR f r X) : cp_Fr lc E yX7_carryOut cX7_carryOut 4 (some .int) 11 [.ref m] cnt sh (cp_mm J m f r) R (some (.int ((cp_sCarry X).1))) (fun I' => ∃ (f' : Nat → Int32) (r' : Nat → Nat → Int32), I' = cp_mm J m f' r' ∧ cp_MR f' r' (cp_sCarry X).2) := by
  unfold cp_sCarry
  by_cases hv : cp_sFlt X = -6
  · rw [if_pos hv]; exact c_X7_carryOut_1 M hR hv
  · rw [if_neg hv]; exact c_X7_carryOut_0 M hR hv
