/-- is it a setting -/
def cp_iset (s v : Int32) : Bool := if s = 0 then cp_rg 1 20 v else if s = 1 then cp_rg 1 60 v else if s = 2 then cp_rg 10 400 v else if s = 3 then cp_rg 1 60 v else false
theorem cp_iset_o {s v : Int32} (h : s.toInt < 0 ∨ 3 < s.toInt) : cp_iset s v = false := by
  unfold cp_iset
  rw [if_neg (fun e => by subst e; rcases h with h | h <;> exact absurd h (by decide)), if_neg (fun e => by subst e; rcases h with h | h <;> exact absurd h (by decide)), if_neg (fun e => by subst e; rcases h with h | h <;> exact absurd h (by decide)), if_neg (fun e => by subst e; rcases h with h | h <;> exact absurd h (by decide))]
theorem cp_iset_p {s v : Int32} : ((s = 0 ∧ cp_rg 1 20 v = true) ∨ (s = 1 ∧ cp_rg 1 60 v = true) ∨ (s = 2 ∧ cp_rg 10 400 v = true) ∨ (s = 3 ∧ cp_rg 1 60 v = true)) ↔ cp_iset s v = true := by
  unfold cp_iset
  by_cases h0 : s = 0
  · subst h0; simp
  · by_cases h1 : s = 1
    · subst h1; simp
    · by_cases h2 : s = 2
      · subst h2; simp
      · by_cases h3 : s = 3
        · subst h3; simp
        · simp [h0, h1, h2, h3]
theorem cp_iset_t {N : cp_Nt} {s v : Int32} (h : cp_iset s v = true) : cp_sSet N s v = (cp_tS N s.toInt.toNat, (upd (cp_tS N) s.toInt.toNat v, N.2)) := by
  unfold cp_sSet
  rw [if_pos (cp_iset_p.mpr h)]
theorem cp_iset_f {N : cp_Nt} {s v : Int32} (h : cp_iset s v = false) : cp_sSet N s v = (-2, N) := by
  unfold cp_sSet
  rw [if_neg (fun z => by rw [cp_iset_p.mp z] at h; exact absurd h (by decide))]
theorem cp_iset_n {s v : Int32} (h : cp_iset s v = true) : ∃ k, k < 4 ∧ s = nI k := by
  rcases cp_iset_p.mpr h with ⟨h, _⟩ | ⟨h, _⟩ | ⟨h, _⟩ | ⟨h, _⟩
  · exact ⟨0, by omega, h⟩
  · exact ⟨1, by omega, h⟩
  · exact ⟨2, by omega, h⟩
  · exact ⟨3, by omega, h⟩
theorem cp_SV_n {S : Nat → Int32} (h : cp_SV S) {k : Nat} (hk : k < 4) : ∃ e, e ≤ 400 ∧ S k = nI e := by
  obtain ⟨⟨a, a1, a2, a3⟩, ⟨b, b1, b2, b3⟩, ⟨c, c1, c2, c3⟩, d, d1, d2, d3⟩ := h
  rcases (by omega : k = 0 ∨ k = 1 ∨ k = 2 ∨ k = 3) with rfl | rfl | rfl | rfl
  · exact ⟨a, by omega, a3⟩
  · exact ⟨b, by omega, b3⟩
  · exact ⟨c, by omega, c3⟩
  · exact ⟨d, by omega, d3⟩
theorem cp_nI_le0 {e : Nat} (h : e < 2 ^ 31) : (0 : Int32) ≤ nI e := by
  rw [Int32.le_iff_toInt_le, nI_toInt h]
  exact Int.natCast_nonneg _
theorem cp_MA_set {a : Nat → Int32} {N : cp_Nt} {s : Nat} {v : Int32} (h : cp_MA a N) (hV : cp_NV N) (hs : s < 4) : cp_MA (upd a s v) (upd (cp_tS N) s v, N.2) := by
  obtain ⟨h1, h2, h3, h4, h5⟩ := h
  have e : ∀ x, 4 ≤ x → upd a s v x = a x := fun x hx => cp_upd_n (by omega)
  refine ⟨fun k hk => ?_, (e 4 (by omega)).trans h2, (e 5 (by omega)).trans h3, cp_MW_eq h4 hV.2.2.1.1 (fun x hx1 hx2 => e x (by omega)), h5.1, (e 6 (by omega)).trans h5.2.1, fun j hj => ?_, (e 7 (by omega)).trans h5.2.2.2⟩
  · show upd a s v k = upd (cp_tS N) s v k
    unfold upd
    by_cases g : k = s
    · rw [if_pos g, if_pos g]
    · rw [if_neg g, if_neg g]; exact h1 k hk
  · obtain ⟨g1, g2, g3, g4, g5⟩ := h5.2.2.1 j hj
    exact ⟨g1, (e _ (by omega)).trans g2, (e _ (by omega)).trans g3, (e _ (by omega)).trans g4, (e _ (by omega)).trans g5⟩
theorem cp_MR_eq {f f' : Nat → Int32} {r r' : Nat → Nat → Int32} {X : cp_St} (hR : cp_MR f r X) (h4 : f' 4 = f 4) (h10 : f' 10 = f 10) (hr : ∀ k, k ≠ 2 → k ≠ 3 → r' k = r k) : cp_MR f' r' X := by
  obtain ⟨g1, g2, g3, g4, g5⟩ := hR
  refine ⟨by rw [hr 1 (by decide) (by decide)]; exact g1, g2, ⟨h4.trans g3.1, g3.2.1, fun i hi => ?_⟩, fun s hs => ?_, h10.trans g5.1, g5.2.1, fun i hi => ?_⟩
  · rw [hr 4 (by decide) (by decide)]; exact g3.2.2 i hi
  · rw [hr 6 (by decide) (by decide), hr 5 (by decide) (by decide)]; exact g4 s hs
  · rw [hr 7 (by decide) (by decide)]; exact g5.2.2 i hi
def cp_sUndo (X : cp_St) : Int32 × cp_St := if cp_xL X = 0 then (-5, X) else (nI (cp_xL X - 1), (cp_xH X (cp_xL X - 1), cp_xL X - 1, cp_xH X, cp_xZ X, cp_xT X, cp_xn X))
def cp_sSave (X : cp_St) (v : Int32) : Int32 × cp_St := if cp_rg 0 1 v = true then (nI (cp_tn (cp_xN X)), (cp_xN X, cp_xL X, cp_xH X, (fun s => if s = v.toInt.toNat then some (cp_xN X) else cp_xZ X s), cp_xT X, cp_xn X)) else (-2, X)
def cp_sRest (X : cp_St) (v : Int32) : Int32 × cp_St := if cp_rg 0 1 v = true then (match cp_xZ X v.toInt.toNat with
  | none => (-5, X)
  | some N => (nI (cp_tn N), cp_psh X N)) else (-2, X)
def cp_sWipe (X : cp_St) : Int32 × cp_St := (nI (cp_xn X), (cp_xN X, cp_xL X, cp_xH X, cp_xZ X, cp_xT X, 0))
theorem cp_gb_rg {b : Nat} (h : cp_gb b = true) : cp_rg 33 126 (nI b) = true := by
  unfold cp_gb at h
  have h := of_decide_eq_true h
  unfold cp_rg
  rw [nI_toInt (by omega)]
  exact decide_eq_true ⟨by omega, by omega⟩
theorem cp_MR_put {f : Nat → Int32} {r : Nat → Nat → Int32} {X : cp_St} {u n : Nat} (hR : cp_MR f r X) (hp : cp_pk u = some n) (hl : cp_xn X + n ≤ 80) : cp_MR (upd f 10 (nI (cp_xn X + n))) (cp_row r 7 (cp_pf (r 7) u (cp_xn X) n n)) (cp_xN X, cp_xL X, cp_xH X, cp_xZ X, (fun i => if i < cp_xn X then cp_xT X i else nI (cp_by u (n - 1 - (i - cp_xn X)))), cp_xn X + n) := by
  obtain ⟨g1, g2, g3, g4, g5⟩ := hR
  have e : ∀ k, k ≠ 7 → cp_row r 7 (cp_pf (r 7) u (cp_xn X) n n) k = r k := fun k hk => cp_row_n r _ hk
  refine ⟨by rw [e 1 (by decide)]; exact g1, g2, ⟨(cp_upd_n (by decide)).trans g3.1, g3.2.1, fun i hi => ?_⟩, fun s hs => ?_, cp_upd_s, hl, fun i hi => ?_⟩
  · rw [e 4 (by decide)]; exact g3.2.2 i hi
  · rw [e 6 (by decide), e 5 (by decide)]; exact g4 s hs
  · have hi : i < cp_xn X + n := hi
    rw [cp_row_s]
    show cp_pf (r 7) u (cp_xn X) n n i = (if i < cp_xn X then cp_xT X i else nI (cp_by u (n - 1 - (i - cp_xn X)))) ∧ cp_rg 33 126 (if i < cp_xn X then cp_xT X i else nI (cp_by u (n - 1 - (i - cp_xn X)))) = true
    unfold cp_pf
    by_cases h : i < cp_xn X
    · rw [if_neg (by omega), if_pos h]; exact g5.2.2 i h
    · rw [if_pos (by omega), if_neg h]
      obtain ⟨p1, p2, p3, p4⟩ := cp_pk_le hp
      exact ⟨rfl, cp_gb_rg (cp_gd_at p4 _ (by omega))⟩

set_option maxHeartbeats 4000000 in
set_option maxRecDepth 100000 in
theorem c_X7_isSetting {lc : Launch} {E : cp_En} {cnt : Nat} {sh : cp_Shp} {R : cp_Rem} {I : cp_Mem} {v1 v2 : Int32} : cp_Fn lc E yX7_isSetting cX7_isSetting 2 (some .boolean) 1 [.int v1, .int v2] cnt sh I R (some (.int (cp_bi (cp_iset v1 v2)))) I := by
  refine cp_Fn_i [some (.int v1), some (.int v2)] (by decide +kernel) (Nat.le_of_ble_eq_true rfl) rfl (cp_bin _) (fun x hxl O hr => ?_)
  subst hxl
  refine cp_iload_n O dX7_isSetting_0 cp_lg0 ?_
  refine sw_X7_isSetting_1 O (fun c_1 => ?_) (fun c_1 => ?_) (fun c_1 => ?_) (fun c_1 => ?_) (fun c_1 => ?_)
  · subst c_1
    refine cp_iload_n O dX7_isSetting_32 cp_lg1 ?_
    refine cp_i2l O dX7_isSetting_33 ?_
    refine cp_lconst O dX7_isSetting_34 (v := 1) rfl ?_
    refine cp_ldc2 O cl_X7_128 dX7_isSetting_35 ?_
    refine cp_cSi O me_X7_in ms_X7_in ml_X7_35 (c_X7_in) dX7_isSetting_38 rfl rfl ⟨Nat.le_of_ble_eq_true rfl, Nat.le_of_ble_eq_true rfl⟩ ⟨Nat.le_refl _, Nat.le_refl _⟩ (Nat.le_of_ble_eq_true rfl) ?_
    rw [cp_in_rg (l := 1) (h := 20) rfl rfl]
    exact hr _ _ _ _ dX7_isSetting_41 rfl rfl
  · subst c_1
    refine cp_iload_n O dX7_isSetting_42 cp_lg1 ?_
    refine cp_i2l O dX7_isSetting_43 ?_
    refine cp_lconst O dX7_isSetting_44 (v := 1) rfl ?_
    refine cp_ldc2 O cl_X7_130 dX7_isSetting_45 ?_
    refine cp_cSi O me_X7_in ms_X7_in ml_X7_35 (c_X7_in) dX7_isSetting_48 rfl rfl ⟨Nat.le_of_ble_eq_true rfl, Nat.le_of_ble_eq_true rfl⟩ ⟨Nat.le_refl _, Nat.le_refl _⟩ (Nat.le_of_ble_eq_true rfl) ?_
    rw [cp_in_rg (l := 1) (h := 60) rfl rfl]
    exact hr _ _ _ _ dX7_isSetting_51 rfl rfl
  · subst c_1
    refine cp_iload_n O dX7_isSetting_52 cp_lg0 ?_
    refine cp_iconst O dX7_isSetting_53 (v := 2) rfl ?_
    refine cp_icmp_ne (tgt := 75) O dX7_isSetting_54 (by decide) (fun c_54 => ?_) (fun c_54 => ?_)
    · refine cp_iconst O dX7_isSetting_75 (v := 0) rfl ?_
      exact hr _ _ _ _ dX7_isSetting_76 (by first | exact cp_bi_f (cp_iset_o c_1) | exact absurd rfl c_54 | exact cp_bi_f c_68 | exact cp_bi_t c_68 | exact absurd c_1 (by rw [c_54]; decide)) rfl
    · refine cp_iload_n O dX7_isSetting_57 cp_lg1 ?_
      refine cp_i2l O dX7_isSetting_58 ?_
      refine cp_ldc2 O cl_X7_132 dX7_isSetting_59 ?_
      refine cp_ldc2 O cl_X7_134 dX7_isSetting_62 ?_
      refine cp_cSi O me_X7_in ms_X7_in ml_X7_35 (c_X7_in) dX7_isSetting_65 rfl rfl ⟨Nat.le_of_ble_eq_true rfl, Nat.le_of_ble_eq_true rfl⟩ ⟨Nat.le_refl _, Nat.le_refl _⟩ (Nat.le_of_ble_eq_true rfl) ?_
      rw [cp_in_rg (l := 10) (h := 400) rfl rfl]
      refine cp_if_eqB (tgt := 75) O dX7_isSetting_68 (by decide) (fun c_68 => ?_) (fun c_68 => ?_)
      · refine cp_iconst O dX7_isSetting_75 (v := 0) rfl ?_
        exact hr _ _ _ _ dX7_isSetting_76 (by first | exact cp_bi_f (cp_iset_o c_1) | exact absurd rfl c_54 | exact cp_bi_f c_68 | exact cp_bi_t c_68 | exact absurd c_1 (by rw [c_54]; decide)) rfl
      · refine cp_iconst O dX7_isSetting_71 (v := 1) rfl ?_
        refine cp_goto (tgt := 76) O dX7_isSetting_72 (by decide) ?_
        exact hr _ _ _ _ dX7_isSetting_76 (by first | exact cp_bi_f (cp_iset_o c_1) | exact absurd rfl c_54 | exact cp_bi_f c_68 | exact cp_bi_t c_68 | exact absurd c_1 (by rw [c_54]; decide)) rfl
  · subst c_1
    refine cp_iload_n O dX7_isSetting_42 cp_lg1 ?_
    refine cp_i2l O dX7_isSetting_43 ?_
    refine cp_lconst O dX7_isSetting_44 (v := 1) rfl ?_
    refine cp_ldc2 O cl_X7_130 dX7_isSetting_45 ?_
    refine cp_cSi O me_X7_in ms_X7_in ml_X7_35 (c_X7_in) dX7_isSetting_48 rfl rfl ⟨Nat.le_of_ble_eq_true rfl, Nat.le_of_ble_eq_true rfl⟩ ⟨Nat.le_refl _, Nat.le_refl _⟩ (Nat.le_of_ble_eq_true rfl) ?_
    rw [cp_in_rg (l := 1) (h := 60) rfl rfl]
    exact hr _ _ _ _ dX7_isSetting_51 rfl rfl
  · refine cp_iload_n O dX7_isSetting_52 cp_lg0 ?_
    refine cp_iconst O dX7_isSetting_53 (v := 2) rfl ?_
    refine cp_icmp_ne (tgt := 75) O dX7_isSetting_54 (by decide) (fun c_54 => ?_) (fun c_54 => ?_)
    · refine cp_iconst O dX7_isSetting_75 (v := 0) rfl ?_
      exact hr _ _ _ _ dX7_isSetting_76 (by first | exact cp_bi_f (cp_iset_o c_1) | exact absurd rfl c_54 | exact cp_bi_f c_68 | exact cp_bi_t c_68 | exact absurd c_1 (by rw [c_54]; decide)) rfl
    · refine cp_iload_n O dX7_isSetting_57 cp_lg1 ?_
      refine cp_i2l O dX7_isSetting_58 ?_
      refine cp_ldc2 O cl_X7_132 dX7_isSetting_59 ?_
      refine cp_ldc2 O cl_X7_134 dX7_isSetting_62 ?_
      refine cp_cSi O me_X7_in ms_X7_in ml_X7_35 (c_X7_in) dX7_isSetting_65 rfl rfl ⟨Nat.le_of_ble_eq_true rfl, Nat.le_of_ble_eq_true rfl⟩ ⟨Nat.le_refl _, Nat.le_refl _⟩ (Nat.le_of_ble_eq_true rfl) ?_
      rw [cp_in_rg (l := 10) (h := 400) rfl rfl]
      refine cp_if_eqB (tgt := 75) O dX7_isSetting_68 (by decide) (fun c_68 => ?_) (fun c_68 => ?_)
      · refine cp_iconst O dX7_isSetting_75 (v := 0) rfl ?_
        exact hr _ _ _ _ dX7_isSetting_76 (by first | exact cp_bi_f (cp_iset_o c_1) | exact absurd rfl c_54 | exact cp_bi_f c_68 | exact cp_bi_t c_68 | exact absurd c_1 (by rw [c_54]; decide)) rfl
      · refine cp_iconst O dX7_isSetting_71 (v := 1) rfl ?_
        refine cp_goto (tgt := 76) O dX7_isSetting_72 (by decide) ?_
        exact hr _ _ _ _ dX7_isSetting_76 (by first | exact cp_bi_f (cp_iset_o c_1) | exact absurd rfl c_54 | exact cp_bi_f c_68 | exact cp_bi_t c_68 | exact absurd c_1 (by rw [c_54]; decide)) rfl
set_option maxHeartbeats 4000000 in
set_option maxRecDepth 100000 in
theorem c_X7_set_0 {lc : Launch} {E : cp_En} {cnt : Nat} {sh : cp_Shp} {R : cp_Rem} {J : cp_Mem} {m : Nat} {f : Nat → Int32} {r : Nat → Nat → Int32} (M : cp_ML sh R m) {X : cp_St} (hR : cp_MR f r X) {v1 v2 : Int32} (hv : cp_iset v1 v2 = false) : cp_Fr lc E yX7_set cX7_set 4 (some .int) 2 [.ref m, .int v1, .int v2] cnt sh (cp_mm J m f r) R (some (.int (-2))) (fun I' => ∃ (f' : Nat → Int32) (r' : Nat → Nat → Int32), I' = cp_mm J m f' r' ∧ cp_MR f' r' X) := by
  refine cp_Fn_iR [some (.ref m), some (.int v1), some (.int v2), none] (by decide +kernel) (Nat.le_of_ble_eq_true rfl) rfl rfl (fun x hxl O hr => ?_)
  subst hxl
  refine cp_iload_n O dX7_set_0 cp_lg1 ?_
  refine cp_iload_n O dX7_set_1 cp_lg2 ?_
  refine cp_cSi O me_X7_isSetting ms_X7_isSetting ml_X7_136 (c_X7_isSetting) dX7_set_2 rfl rfl ⟨Nat.le_of_ble_eq_true rfl, Nat.le_of_ble_eq_true rfl⟩ ⟨Nat.le_refl _, Nat.le_refl _⟩ (Nat.le_of_ble_eq_true rfl) ?_
  refine cp_if_neB (tgt := 11) O dX7_set_5 (by decide) (fun c_5 => ?_) (fun c_5 => ?_)
  · exact absurd c_5 (by rw [hv]; decide)
  · refine cp_bipush O dX7_set_8 (v := (-2)) rfl ?_
    exact hr _ _ _ _ dX7_set_10 rfl ⟨_, _, rfl, hR⟩
set_option maxHeartbeats 4000000 in
set_option maxRecDepth 100000 in
theorem c_X7_set_1 {lc : Launch} {E : cp_En} {cnt : Nat} {sh : cp_Shp} {R : cp_Rem} {J : cp_Mem} {m : Nat} {f : Nat → Int32} {r : Nat → Nat → Int32} (M : cp_ML sh R m) {X : cp_St} (hR : cp_MR f r X) {v2 : Int32} {s : Nat} (hs : s < 4) (hv : cp_iset (nI s) v2 = true) : cp_Fr lc E yX7_set cX7_set 4 (some .int) 2 [.ref m, .int (nI s), .int v2] cnt sh (cp_mm J m f r) R (some (.int (cp_tS (cp_xN X) s))) (fun I' => ∃ (f' : Nat → Int32) (r' : Nat → Nat → Int32), I' = cp_mm J m f' r' ∧ cp_MR f' r' (cp_psh X (upd (cp_tS (cp_xN X)) s v2, (cp_xN X).2))) := by
  refine cp_Fn_iR [some (.ref m), some (.int (nI s)), some (.int v2), none] (by decide +kernel) (Nat.le_of_ble_eq_true rfl) rfl rfl (fun x hxl O hr => ?_)
  subst hxl
  refine cp_iload_n O dX7_set_0 cp_lg1 ?_
  refine cp_iload_n O dX7_set_1 cp_lg2 ?_
  refine cp_cSi O me_X7_isSetting ms_X7_isSetting ml_X7_136 (c_X7_isSetting) dX7_set_2 rfl rfl ⟨Nat.le_of_ble_eq_true rfl, Nat.le_of_ble_eq_true rfl⟩ ⟨Nat.le_refl _, Nat.le_refl _⟩ (Nat.le_of_ble_eq_true rfl) ?_
  refine cp_if_neB (tgt := 11) O dX7_set_5 (by decide) (fun c_5 => ?_) (fun c_5 => ?_)
  · refine cp_aload_n O dX7_set_11 cp_lg0 ?_
    refine fg_X7_7 O M.s M.f0 dX7_set_12 ?_
    refine cp_aload_n O dX7_set_15 cp_lg0 ?_
    refine fg_X7_13 O M.s M.f1 dX7_set_16 ?_
    refine cp_cSv O me_X7_copy ms_X7_copy ml_X7_139 (cp_Fn_eq (I'' := cp_mm J m f (cp_kp r)) (c_X7_copy (i := 1) (k := 2) (r := r) (by decide) (by decide) (by decide) M.s0 M.s1) rfl (by rw [cp_c4_12]; rfl)) dX7_set_19 rfl rfl ⟨Nat.le_of_ble_eq_true rfl, Nat.le_of_ble_eq_true rfl⟩ ⟨Nat.le_refl _, Nat.le_refl _⟩ (Nat.le_of_ble_eq_true rfl) ?_
    refine cp_aload_n O dX7_set_22 cp_lg0 ?_
    refine fg_X7_7 O M.s M.f0 dX7_set_23 ?_
    refine cp_iload_n O dX7_set_26 cp_lg1 ?_
    
    refine cp_ialdM (k := 1) O M.s0 (by decide) (j := s) rfl (by omega) (by decide) dX7_set_27 ?_
    refine cp_istore_n O dX7_set_28 (by decide) (cp_ls3 rfl) ?_
    refine cp_aload_n O dX7_set_29 cp_lg0 ?_
    refine fg_X7_7 O M.s M.f0 dX7_set_30 ?_
    refine cp_iload_n O dX7_set_33 cp_lg1 ?_
    refine cp_iload_n O dX7_set_34 cp_lg2 ?_
    refine cp_iastM (k := 1) O M.s0 (by decide) (j := s) rfl (by omega) (by decide) dX7_set_35 ?_
    rw [← cp_kp_1 r, cp_row_wi, cp_row_s]
    have e5 : r 1 s = cp_tS (cp_xN X) s := hR.1.1 s hs
    obtain ⟨e, he, e6⟩ := cp_SV_n hR.2.1.1 hs
    have h5 : (0 : Int32) ≤ r 1 s := by rw [e5, e6]; exact cp_nI_le0 (by omega)
    refine cp_aload_n O dX7_set_36 cp_lg0 ?_
    refine cp_iload_n O dX7_set_37 cp_lg3 ?_
    refine cp_cVir O me_X7_ends mi_X7_ends ml_X7_143 cp_cX7 M.s (c_X7_ends_p (r := cp_row (cp_kp r) 1 (upd (r 1) s v2)) (L := cp_xL X) M h5 hR.2.2.1.1 hR.2.2.1.2.1) dX7_set_38 rfl rfl ⟨Nat.le_of_ble_eq_true rfl, Nat.le_of_ble_eq_true rfl⟩ ⟨Nat.le_refl _, Nat.le_refl _⟩ (Nat.le_of_ble_eq_true rfl) (fun I38 hT38 => ?_)
    obtain ⟨h', rfl, e1, e2⟩ := hT38
    exact hr _ _ _ _ dX7_set_41 e5 ⟨_, _, rfl, cp_MR_pos (f1 := f) hR rfl (cp_MA_set hR.1 hR.2.1 hs) (by have g := cp_NV_set (s := nI s) (v := v2) hR.2.1; rw [cp_iset_t hv, cp_nIt (show s < 2 ^ 31 by omega)] at g; exact g) e1 e2⟩
  · exact absurd c_5 (by rw [hv]; decide)
theorem c_X7_set {lc : Launch} {E : cp_En} {cnt : Nat} {sh : cp_Shp} {R : cp_Rem} {J : cp_Mem} {m : Nat} {f : Nat → Int32} {r : Nat → Nat → Int32} (M : cp_ML sh R m) {X : cp_St} (hR : cp_MR f r X) {v1 v2 : Int32} : cp_Fr lc E yX7_set cX7_set 4 (some .int) 2 [.ref m, .int v1, .int v2] cnt sh (cp_mm J m f r) R (some (.int (cp_chg X (cp_sSet (cp_xN X) v1 v2)).1)) (fun I' => ∃ (f' : Nat → Int32) (r' : Nat → Nat → Int32), I' = cp_mm J m f' r' ∧ cp_MR f' r' (cp_chg X (cp_sSet (cp_xN X) v1 v2)).2) := by
  by_cases hv : cp_iset v1 v2 = true
  · obtain ⟨s, hs, rfl⟩ := cp_iset_n hv
    obtain ⟨e, he, e6⟩ := cp_SV_n hR.2.1.1 hs
    have hn : ¬ cp_tS (cp_xN X) s < (0 : Int32) := by rw [e6]; exact Int32.not_lt.mpr (cp_nI_le0 (by omega))
    rw [cp_iset_t hv, cp_nIt (show s < 2 ^ 31 by omega), cp_chg_p (o := (cp_tS (cp_xN X) s, (upd (cp_tS (cp_xN X)) s v2, (cp_xN X).2))) hn]
    exact c_X7_set_1 M hR hs hv
  · have hv2 := Bool.eq_false_iff.mpr hv
    rw [cp_iset_f hv2, cp_chg_n (o := ((-2 : Int32), cp_xN X)) (show (-2 : Int32) < 0 by decide)]
    exact c_X7_set_0 M hR hv2
theorem m_X7_ofPiece {lc : Launch} {E : cp_En} {cnt : Nat} {sh : cp_Shp} {R : cp_Rem} {J : cp_Mem} {m : Nat} {f : Nat → Int32} {r : Nat → Nat → Int32} (M : cp_ML sh R m) {X : cp_St} (hR : cp_MR f r X) {v1 v2 : Int32} : cp_Fr lc E yX7_ofPiece cX7_ofPiece 3 (some .int) 3 [.ref m, .int v1, .int v2] cnt sh (cp_mm J m f r) R (some (.int (cp_sOfPiece (cp_xN X) v1 v2))) (fun I' => ∃ (f' : Nat → Int32) (r' : Nat → Nat → Int32), I' = cp_mm J m f' r' ∧ cp_MR f' r' X) := by
  have g := c_X7_ofPiece (lc := lc) (E := E) (cnt := cnt) (J := J) (f := f) (r := r) (a := r 1) M hR.1 hR.2.1 (v1 := v1) (v2 := v2)
  rw [cp_ma_self] at g
  exact cp_Fr_of g ⟨_, _, rfl, hR⟩
theorem m_X7_ofPlate {lc : Launch} {E : cp_En} {cnt : Nat} {sh : cp_Shp} {R : cp_Rem} {J : cp_Mem} {m : Nat} {f : Nat → Int32} {r : Nat → Nat → Int32} (M : cp_ML sh R m) {X : cp_St} (hR : cp_MR f r X) {v1 v2 : Int32} : cp_Fr lc E yX7_ofPlate cX7_ofPlate 3 (some .int) 2 [.ref m, .int v1, .int v2] cnt sh (cp_mm J m f r) R (some (.int (cp_sOfPlate (cp_xN X) v1 v2))) (fun I' => ∃ (f' : Nat → Int32) (r' : Nat → Nat → Int32), I' = cp_mm J m f' r' ∧ cp_MR f' r' X) := by
  have g := c_X7_ofPlate (lc := lc) (E := E) (cnt := cnt) (J := J) (f := f) (r := r) (a := r 1) M hR.1 hR.2.1 (v1 := v1) (v2 := v2)
  rw [cp_ma_self] at g
  exact cp_Fr_of g ⟨_, _, rfl, hR⟩
theorem m_X7_count {lc : Launch} {E : cp_En} {cnt : Nat} {sh : cp_Shp} {R : cp_Rem} {J : cp_Mem} {m : Nat} {f : Nat → Int32} {r : Nat → Nat → Int32} (M : cp_ML sh R m) {X : cp_St} (hR : cp_MR f r X) {v1 : Int32} : cp_Fr lc E yX7_count cX7_count 2 (some .int) 2 [.ref m, .int v1] cnt sh (cp_mm J m f r) R (some (.int (cp_sCount (cp_xN X) (nI (cp_xn X)) (nI (cp_xL X)) v1))) (fun I' => ∃ (f' : Nat → Int32) (r' : Nat → Nat → Int32), I' = cp_mm J m f' r' ∧ cp_MR f' r' X) := by
  have g := c_X7_count (lc := lc) (E := E) (cnt := cnt) (J := J) (f := f) (r := r) (a := r 1) M hR.1 hR.2.1 (v1 := v1)
  rw [cp_ma_self, hR.2.2.1.1, hR.2.2.2.2.1] at g
  exact cp_Fr_of g ⟨_, _, rfl, hR⟩
theorem m_X7_why {lc : Launch} {E : cp_En} {cnt : Nat} {sh : cp_Shp} {R : cp_Rem} {J : cp_Mem} {m : Nat} {f : Nat → Int32} {r : Nat → Nat → Int32} (M : cp_ML sh R m) {X : cp_St} (hR : cp_MR f r X) {v1 v2 : Int32} : cp_Fr lc E yX7_why cX7_why 4 (some .int) 4 [.ref m, .int v1, .int v2] cnt sh (cp_mm J m f r) R (some (.int (cp_sWhy (cp_xN X) v1 v2))) (fun I' => ∃ (f' : Nat → Int32) (r' : Nat → Nat → Int32), I' = cp_mm J m f' r' ∧ cp_MR f' r' X) := by
  have g := c_X7_why (lc := lc) (E := E) (cnt := cnt) (J := J) (f := f) (r := r) (a := r 1) M hR.1 hR.2.1 (v1 := v1) (v2 := v2)
  rw [cp_ma_self] at g
  refine cp_Fr_mono g rfl fun I' hI => ?_
  obtain ⟨f', rfl, h⟩ := hI
  rw [cp_ma_self]
  exact ⟨_, _, rfl, cp_MR_eq hR (h 4 (by decide) (by decide)) (h 10 (by decide) (by decide)) (fun _ _ _ => rfl)⟩
theorem m_X7_plateNow {lc : Launch} {E : cp_En} {cnt : Nat} {sh : cp_Shp} {R : cp_Rem} {J : cp_Mem} {m : Nat} {f : Nat → Int32} {r : Nat → Nat → Int32} (M : cp_ML sh R m) {X : cp_St} (hR : cp_MR f r X) : cp_Fr lc E yX7_plateNow cX7_plateNow 1 (some .int) 4 [.ref m] cnt sh (cp_mm J m f r) R (some (.int ((cp_now (cp_xN X)).1))) (fun I' => ∃ (f' : Nat → Int32) (r' : Nat → Nat → Int32), I' = cp_mm J m f' r' ∧ cp_MR f' r' X) := by
  have g := c_X7_plateNow (lc := lc) (E := E) (cnt := cnt) (J := J) (f := f) (r := r) (a := r 1) M hR.1 hR.2.1
  rw [cp_ma_self] at g
  refine cp_Fr_mono g rfl fun I' hI => ?_
  obtain ⟨f', rfl, h⟩ := hI
  rw [cp_ma_self]
  exact ⟨_, _, rfl, cp_MR_eq hR (h 4 (by decide) (by decide)) (h 10 (by decide) (by decide)) (fun _ _ _ => rfl)⟩
theorem m_X7_readyIn {lc : Launch} {E : cp_En} {cnt : Nat} {sh : cp_Shp} {R : cp_Rem} {J : cp_Mem} {m : Nat} {f : Nat → Int32} {r : Nat → Nat → Int32} (M : cp_ML sh R m) {X : cp_St} (hR : cp_MR f r X) {v1 : Int32} : cp_Fr lc E yX7_readyIn cX7_readyIn 3 (some .int) 7 [.ref m, .int v1] cnt sh (cp_mm J m f r) R (some (.int (cp_sReady (cp_xN X) v1))) (fun I' => ∃ (f' : Nat → Int32) (r' : Nat → Nat → Int32), I' = cp_mm J m f' r' ∧ cp_MR f' r' X) := by
  have g := c_X7_readyIn (lc := lc) (E := E) (cnt := cnt) (J := J) (f := f) (r := r) (a := r 1) M hR.1 hR.2.1 (v1 := v1)
  rw [cp_ma_self] at g
  refine cp_Fr_mono g rfl fun I' hI => ?_
  obtain ⟨r', rfl, h⟩ := hI
  rw [← h 1 (by decide), cp_ma_self]
  exact ⟨_, _, rfl, cp_MR_eq hR rfl rfl (fun k _ h3 => h k h3)⟩
theorem m_X7_leastRoom {lc : Launch} {E : cp_En} {cnt : Nat} {sh : cp_Shp} {R : cp_Rem} {J : cp_Mem} {m : Nat} {f : Nat → Int32} {r : Nat → Nat → Int32} (M : cp_ML sh R m) {X : cp_St} (hR : cp_MR f r X) : cp_Fr lc E yX7_leastRoom cX7_leastRoom 4 (some .int) 8 [.ref m] cnt sh (cp_mm J m f r) R (some (.int (cp_sLeast (cp_xN X)))) (fun I' => ∃ (f' : Nat → Int32) (r' : Nat → Nat → Int32), I' = cp_mm J m f' r' ∧ cp_MR f' r' X) := by
  have g := c_X7_leastRoom (lc := lc) (E := E) (cnt := cnt) (J := J) (f := f) (r := r) (a := r 1) M hR.1 hR.2.1
  rw [cp_ma_self] at g
  refine cp_Fr_mono g rfl fun I' hI => ?_
  obtain ⟨f', r', rfl, hr, h⟩ := hI
  rw [← hr 1 (by decide), cp_ma_self]
  exact ⟨_, _, rfl, cp_MR_eq hR (h 4 (by decide) (by decide)) (h 10 (by decide) (by decide)) (fun k _ h3 => hr k h3)⟩
theorem m_X7_nextPlate {lc : Launch} {E : cp_En} {cnt : Nat} {sh : cp_Shp} {R : cp_Rem} {J : cp_Mem} {m : Nat} {f : Nat → Int32} {r : Nat → Nat → Int32} (M : cp_ML sh R m) {X : cp_St} (hR : cp_MR f r X) : cp_Fr lc E yX7_nextPlate cX7_nextPlate 2 (some .int) 8 [.ref m] cnt sh (cp_mm J m f r) R (some (.int (cp_sNext (cp_xN X)))) (fun I' => ∃ (f' : Nat → Int32) (r' : Nat → Nat → Int32), I' = cp_mm J m f' r' ∧ cp_MR f' r' X) := by
  have g := c_X7_nextPlate (lc := lc) (E := E) (cnt := cnt) (J := J) (f := f) (r := r) (a := r 1) M hR.1 hR.2.1
  rw [cp_ma_self] at g
  refine cp_Fr_mono g rfl fun I' hI => ?_
  obtain ⟨f', r', rfl, hr, h⟩ := hI
  rw [← hr 1 (by decide), cp_ma_self]
  exact ⟨_, _, rfl, cp_MR_eq hR (h 4 (by decide) (by decide)) (h 10 (by decide) (by decide)) (fun k _ h3 => hr k h3)⟩
theorem m_X7_undo {lc : Launch} {E : cp_En} {cnt : Nat} {sh : cp_Shp} {R : cp_Rem} {J : cp_Mem} {m : Nat} {f : Nat → Int32} {r : Nat → Nat → Int32} (M : cp_ML sh R m) {X : cp_St} (hR : cp_MR f r X) : cp_Fr lc E yX7_undo cX7_undo 2 (some .int) 0 [.ref m] cnt sh (cp_mm J m f r) R (some (.int ((cp_sUndo X).1))) (fun I' => ∃ (f' : Nat → Int32) (r' : Nat → Nat → Int32), I' = cp_mm J m f' r' ∧ cp_MR f' r' (cp_sUndo X).2) := by
  unfold cp_sUndo
  have g3 := hR.2.2.1
  by_cases h : cp_xL X = 0
  · rw [if_pos h]
    exact cp_Fr_of (c_X7_undo_0 M (g3.1.trans (by rw [h]))) ⟨_, _, rfl, hR⟩
  · rw [if_neg h]
    refine cp_Fr_of (c_X7_undo_1 M g3.1 g3.2.1 (by omega)) ⟨_, _, rfl, ?_⟩
    obtain ⟨q1, q2⟩ := g3.2.2 (cp_xL X - 1) (by omega)
    have e : ∀ k, k ≠ 1 → cp_row r 1 (cp_c4 (fun j => r 4 (420 * (cp_xL X - 1) + j)) (r 1)) k = r k := fun k hk => cp_row_n r _ hk
    refine ⟨?_, q2, ⟨cp_upd_s, by show cp_xL X - 1 ≤ 6; omega, fun i hi => ?_⟩, fun s hs => ?_, (cp_upd_n (by decide)).trans hR.2.2.2.2.1, hR.2.2.2.2.2.1, fun i hi => ?_⟩
    · rw [cp_row_s]
      refine cp_MA_eq q1 q2 fun x hx => ?_
      unfold cp_c4
      rw [if_pos hx]
    · have hi : i < cp_xL X - 1 := hi
      rw [e 4 (by decide)]; exact g3.2.2 i (by omega)
    · rw [e 6 (by decide), e 5 (by decide)]; exact hR.2.2.2.1 s hs
    · rw [e 7 (by decide)]; exact hR.2.2.2.2.2.2 i hi
theorem m_X7_save {lc : Launch} {E : cp_En} {cnt : Nat} {sh : cp_Shp} {R : cp_Rem} {J : cp_Mem} {m : Nat} {f : Nat → Int32} {r : Nat → Nat → Int32} (M : cp_ML sh R m) {X : cp_St} (hR : cp_MR f r X) {v1 : Int32} : cp_Fr lc E yX7_save cX7_save 3 (some .int) 1 [.ref m, .int v1] cnt sh (cp_mm J m f r) R (some (.int ((cp_sSave X v1).1))) (fun I' => ∃ (f' : Nat → Int32) (r' : Nat → Nat → Int32), I' = cp_mm J m f' r' ∧ cp_MR f' r' (cp_sSave X v1).2) := by
  unfold cp_sSave
  by_cases h : cp_rg 0 1 v1 = true
  · rw [if_pos h]
    obtain ⟨s, _, hs, rfl⟩ := cp_rg_nI (l := 0) (h := 1) h
    rw [cp_nIt (show s < 2 ^ 31 by omega)]
    have g := c_X7_save_1 (lc := lc) (E := E) (cnt := cnt) (J := J) (f := f) (r := r) M hs
    rw [hR.1.2.2.1] at g
    refine cp_Fr_of g ⟨_, _, rfl, ?_⟩
    have e : ∀ k, k ≠ 5 → k ≠ 6 → cp_wi (cp_row r 5 (cp_h2 (r 5) (r 1) (420 * s) 420)) 6 s 1 k = r k := fun k h5 h6 => by
      funext j
      rw [cp_wi_j _ _ _ _ (fun z => h6 z.1), cp_row_n r _ h5]
    obtain ⟨g1, g2, g3, g4, g5⟩ := hR
    refine ⟨by rw [e 1 (by decide) (by decide)]; exact g1, g2, ⟨g3.1, g3.2.1, fun i hi => ?_⟩, fun s' hs' => ?_, g5.1, g5.2.1, fun i hi => ?_⟩
    · rw [e 4 (by decide) (by decide)]; exact g3.2.2 i hi
    · have e5 : cp_wi (cp_row r 5 (cp_h2 (r 5) (r 1) (420 * s) 420)) 6 s 1 5 = cp_h2 (r 5) (r 1) (420 * s) 420 := by
        funext j
        rw [cp_wi_j _ _ _ _ (fun z => absurd z.1 (by decide)), cp_row_s]
      rw [e5]
      show cp_MZ _ _ (if s' = s then some (cp_xN X) else cp_xZ X s')
      by_cases q : s' = s
      · subst q
        rw [if_pos rfl]
        refine ⟨by unfold cp_wi; rw [if_pos ⟨rfl, rfl⟩], cp_MA_eq g1 g2 fun x hx => ?_, g2⟩
        show cp_h2 (r 5) (r 1) (420 * s') 420 (420 * s' + x) = r 1 x
        unfold cp_h2
        rw [if_pos (by omega)]; congr 1; omega
      · rw [if_neg q, cp_wi_j _ _ _ _ (fun z => q z.2), cp_row_n r _ (by decide)]
        have g := g4 s' hs'
        cases hz : cp_xZ X s' with
        | none => rw [hz] at g; exact g
        | some N =>
          rw [hz] at g
          refine ⟨g.1, cp_MA_eq g.2.1 g.2.2 fun x hx => ?_, g.2.2⟩
          show cp_h2 (r 5) (r 1) (420 * s) 420 (420 * s' + x) = r 5 (420 * s' + x)
          unfold cp_h2
          rw [if_neg (by omega)]
    · rw [e 7 (by decide) (by decide)]; exact g5.2.2 i hi
  · rw [if_neg h]
    exact cp_Fr_of (c_X7_save_0 M (Bool.eq_false_iff.mpr h)) ⟨_, _, rfl, hR⟩
theorem m_X7_restore {lc : Launch} {E : cp_En} {cnt : Nat} {sh : cp_Shp} {R : cp_Rem} {J : cp_Mem} {m : Nat} {f : Nat → Int32} {r : Nat → Nat → Int32} (M : cp_ML sh R m) {X : cp_St} (hR : cp_MR f r X) {v1 : Int32} : cp_Fr lc E yX7_restore cX7_restore 3 (some .int) 2 [.ref m, .int v1] cnt sh (cp_mm J m f r) R (some (.int ((cp_sRest X v1).1))) (fun I' => ∃ (f' : Nat → Int32) (r' : Nat → Nat → Int32), I' = cp_mm J m f' r' ∧ cp_MR f' r' (cp_sRest X v1).2) := by
  unfold cp_sRest
  by_cases h : cp_rg 0 1 v1 = true
  · rw [if_pos h]
    obtain ⟨s, _, hs, rfl⟩ := cp_rg_nI (l := 0) (h := 1) h
    rw [cp_nIt (show s < 2 ^ 31 by omega)]
    have g := hR.2.2.2.1 s (by omega)
    cases hz : cp_xZ X s with
    | none =>
      rw [hz] at g
      exact cp_Fr_of (c_X7_restore_1 M hs g) ⟨_, _, rfl, hR⟩
    | some N =>
      rw [hz] at g
      obtain ⟨z1, z2, z3⟩ := g
      have hn := z3.2.2.1.1
      have z5 : r 5 (420 * s + 5) = nI (cp_tn N) := z2.2.2.1
      have k := c_X7_restore_2 (lc := lc) (E := E) (cnt := cnt) (J := J) (f := f) (r := r) (L := cp_xL X) M hs z1 hR.2.2.1.1 hR.2.2.1.2.1 (by rw [z5]; exact cp_nI_le0 (by omega))
      rw [z5] at k
      refine cp_Fr_mono k rfl fun I' hI => ?_
      obtain ⟨h', rfl, e1, e2⟩ := hI
      refine ⟨_, _, rfl, cp_MR_pos (f1 := f) (a1 := cp_c4 (fun j => r 5 (420 * s + j)) (r 1)) hR rfl (cp_MA_eq z2 z3 fun x hx => ?_) z3 (fun x hx => ?_) (fun i hi x hx => ?_)⟩
      · unfold cp_c4; rw [if_pos hx]
      · rw [e1 x hx, cp_kp_2 _ _ hx]
      · rw [e2 i hi x hx, cp_kp_o _ _ (by decide) (by decide)]
  · rw [if_neg h]
    exact cp_Fr_of (c_X7_restore_0 M (Bool.eq_false_iff.mpr h)) ⟨_, _, rfl, hR⟩
theorem m_X7_put {lc : Launch} {E : cp_En} {cnt : Nat} {sh : cp_Shp} {R : cp_Rem} {J : cp_Mem} {m : Nat} {f : Nat → Int32} {r : Nat → Nat → Int32} (M : cp_ML sh R m) {X : cp_St} (hR : cp_MR f r X) {u : Nat} (hu : u < 2 ^ 64) : cp_Fr lc E yX7_put cX7_put 8 (some .int) 1 [.ref m, .long (lN u)] cnt sh (cp_mm J m f r) R (some (.int ((cp_sPut X u).1))) (fun I' => ∃ (f' : Nat → Int32) (r' : Nat → Nat → Int32), I' = cp_mm J m f' r' ∧ cp_MR f' r' (cp_sPut X u).2) := by
  unfold cp_sPut
  have g := hR.2.2.2.2
  cases hp : cp_pk u with
  | none => exact cp_Fr_of (c_X7_put_n M hu g.1 g.2.1 hp) ⟨_, _, rfl, hR⟩
  | some n =>
    by_cases hl : cp_xn X + n ≤ 80
    · simp only [if_pos hl]
      exact cp_Fr_of (c_X7_put_s M hu g.1 g.2.1 hp hl) ⟨_, _, rfl, cp_MR_put hR hp hl⟩
    · simp only [if_neg hl]
      exact cp_Fr_of (c_X7_put_t M hu g.1 g.2.1 hp hl) ⟨_, _, rfl, hR⟩
theorem m_X7_wipe {lc : Launch} {E : cp_En} {cnt : Nat} {sh : cp_Shp} {R : cp_Rem} {J : cp_Mem} {m : Nat} {f : Nat → Int32} {r : Nat → Nat → Int32} (M : cp_ML sh R m) {X : cp_St} (hR : cp_MR f r X) : cp_Fr lc E yX7_wipe cX7_wipe 2 (some .int) 0 [.ref m] cnt sh (cp_mm J m f r) R (some (.int ((cp_sWipe X).1))) (fun I' => ∃ (f' : Nat → Int32) (r' : Nat → Nat → Int32), I' = cp_mm J m f' r' ∧ cp_MR f' r' (cp_sWipe X).2) := by
  have k := c_X7_wipe (lc := lc) (E := E) (cnt := cnt) (J := J) (f := f) (r := r) M
  rw [hR.2.2.2.2.1] at k
  refine cp_Fr_of k ⟨_, _, rfl, ?_⟩
  obtain ⟨g1, g2, g3, g4, g5⟩ := hR
  exact ⟨g1, g2, ⟨(cp_upd_n (by decide)).trans g3.1, g3.2⟩, g4, cp_upd_s, Nat.zero_le _, fun i hi => absurd hi (Nat.not_lt_zero _)⟩
