def cp_MZ (b : Int32) (a : Nat → Int32) (o : Option cp_Nt) : Prop := match o with
  | none => b = 0
  | some N => b = 1 ∧ cp_MA a N ∧ cp_NV N
/-- what the model's fields and arrays hold of a state -/
def cp_MR (f : Nat → Int32) (r : Nat → Nat → Int32) (X : cp_St) : Prop := cp_MA (r 1) (cp_xN X) ∧ cp_NV (cp_xN X) ∧ (f 4 = nI (cp_xL X) ∧ cp_xL X ≤ 6 ∧ ∀ i, i < cp_xL X → cp_MA (fun j => r 4 (420 * i + j)) (cp_xH X i) ∧ cp_NV (cp_xH X i)) ∧ (∀ s, s < 2 → cp_MZ (r 6 s) (fun j => r 5 (420 * s + j)) (cp_xZ X s)) ∧ (f 10 = nI (cp_xn X) ∧ cp_xn X ≤ 80 ∧ ∀ i, i < cp_xn X → r 7 i = cp_xT X i ∧ cp_rg 33 126 (cp_xT X i) = true)
theorem cp_MA_eq {a b : Nat → Int32} {N : cp_Nt} (h : cp_MA a N) (hV : cp_NV N) (e : ∀ x, x < 420 → b x = a x) : cp_MA b N := by
  obtain ⟨h1, h2, h3, h4, h5⟩ := h
  have hn := hV.2.2.1.1
  have h8 := h5.1
  refine ⟨fun k hk => (e k (by omega)).trans (h1 k hk), (e 4 (by omega)).trans h2, (e 5 (by omega)).trans h3, cp_MW_eq h4 hn (fun x hx1 hx2 => e x (by omega)), h5.1, (e 6 (by omega)).trans h5.2.1, fun j hj => ?_, (e 7 (by omega)).trans h5.2.2.2⟩
  obtain ⟨g1, g2, g3, g4, g5⟩ := h5.2.2.1 j hj
  exact ⟨g1, (e _ (by omega)).trans g2, (e _ (by omega)).trans g3, (e _ (by omega)).trans g4, (e _ (by omega)).trans g5⟩
theorem cp_chg_n {X : cp_St} {o : Int32 × cp_Nt} (h : o.1 < 0) : cp_chg X o = (o.1, X) := by unfold cp_chg; rw [if_pos h]
theorem cp_chg_p {X : cp_St} {o : Int32 × cp_Nt} (h : ¬ o.1 < 0) : cp_chg X o = (o.1, cp_psh X o.2) := by unfold cp_chg; rw [if_neg h]
theorem cp_chg_1 (X : cp_St) (o : Int32 × cp_Nt) : (cp_chg X o).1 = o.1 := by unfold cp_chg; split <;> rfl
/-- the model's row 2 is what was kept -/
def cp_kp (r : Nat → Nat → Int32) : Nat → Nat → Int32 := cp_row r 2 (cp_c4 (r 1) (r 2))
theorem cp_kp_1 (r : Nat → Nat → Int32) : cp_row (cp_kp r) 1 (r 1) = cp_kp r := by
  have h : cp_kp r 1 = r 1 := cp_row_n r _ (by decide)
  have h2 := cp_row_self (cp_kp r) 1
  rw [h] at h2
  exact h2
theorem cp_kp_o (r : Nat → Nat → Int32) (a : Nat → Int32) {k : Nat} (h1 : k ≠ 1) (h2 : k ≠ 2) : cp_row (cp_kp r) 1 a k = r k := by
  rw [cp_row_n _ _ h1]
  exact cp_row_n r _ h2
theorem cp_kp_2 (r : Nat → Nat → Int32) (a : Nat → Int32) {x : Nat} (hx : x < 420) : cp_row (cp_kp r) 1 a 2 x = r 1 x := by
  rw [cp_row_n _ _ (by decide)]
  unfold cp_kp
  rw [cp_row_s]
  unfold cp_c4
  rw [if_pos hx]
theorem cp_MR_neg {f f1 : Nat → Int32} {r : Nat → Nat → Int32} {X : cp_St} {a1 : Nat → Int32} (hR : cp_MR f r X) (h4 : f1 4 = f 4) (h10 : f1 10 = f 10) (hA : cp_MA a1 (cp_xN X)) : cp_MR f1 (cp_row (cp_kp r) 1 a1) X := by
  obtain ⟨g1, g2, g3, g4, g5⟩ := hR
  refine ⟨by rw [cp_row_s]; exact hA, g2, ⟨h4.trans g3.1, g3.2.1, fun i hi => ?_⟩, fun s hs => ?_, h10.trans g5.1, g5.2.1, fun i hi => ?_⟩
  · rw [cp_kp_o _ _ (by decide) (by decide)]; exact g3.2.2 i hi
  · rw [cp_kp_o _ _ (by decide) (by decide), cp_kp_o _ _ (by decide) (by decide)]; exact g4 s hs
  · rw [cp_kp_o _ _ (by decide) (by decide)]; exact g5.2.2 i hi
theorem cp_MR_pos {f f1 : Nat → Int32} {r : Nat → Nat → Int32} {X : cp_St} {a1 h' : Nat → Int32} {N' : cp_Nt} (hR : cp_MR f r X) (h10 : f1 10 = f 10) (hA : cp_MA a1 N') (hV : cp_NV N')
    (e1 : ∀ x, x < 420 → h' (420 * (if cp_xL X = 6 then 5 else cp_xL X) + x) = cp_row (cp_kp r) 1 a1 2 x) (e2 : ∀ i, i < (if cp_xL X = 6 then 5 else cp_xL X) → ∀ x, x < 420 → h' (420 * i + x) = cp_row (cp_kp r) 1 a1 4 (420 * (i + (if cp_xL X = 6 then 1 else 0)) + x)) :
    cp_MR (upd f1 4 (nI ((if cp_xL X = 6 then 5 else cp_xL X) + 1))) (cp_row (cp_row (cp_kp r) 1 a1) 4 h') (cp_psh X N') := by
  obtain ⟨g1, g2, g3, g4, g5⟩ := hR
  have hL := g3.2.1
  refine ⟨by rw [cp_row_n _ _ (by decide), cp_row_s]; exact hA, hV, ⟨cp_upd_s, ?_, fun i hi => ?_⟩, fun s hs => ?_, (cp_upd_n (by decide)).trans (h10.trans g5.1), g5.2.1, fun i hi => ?_⟩
  · show cp_L1 (cp_xL X) + 1 ≤ 6
    unfold cp_L1
    split <;> omega
  · have hi : i < (if cp_xL X = 6 then 5 else cp_xL X) + 1 := hi
    rw [cp_row_s]
    show cp_MA (fun j => h' (420 * i + j)) (if i < (if cp_xL X = 6 then 5 else cp_xL X) then cp_xH X (i + (if cp_xL X = 6 then 1 else 0)) else cp_xN X) ∧ cp_NV (if i < (if cp_xL X = 6 then 5 else cp_xL X) then cp_xH X (i + (if cp_xL X = 6 then 1 else 0)) else cp_xN X)
    by_cases hlt : i < (if cp_xL X = 6 then 5 else cp_xL X)
    · rw [if_pos hlt]
      have hlt2 : i + (if cp_xL X = 6 then 1 else 0) < cp_xL X := by split at hlt <;> split <;> omega
      obtain ⟨q1, q2⟩ := g3.2.2 _ hlt2
      refine ⟨cp_MA_eq q1 q2 fun x hx => ?_, q2⟩
      show h' (420 * i + x) = _
      rw [e2 i hlt x hx, cp_kp_o _ _ (by decide) (by decide)]
    · rw [if_neg hlt]
      refine ⟨cp_MA_eq g1 g2 fun x hx => ?_, g2⟩
      show h' (420 * i + x) = _
      rw [show i = (if cp_xL X = 6 then 5 else cp_xL X) by omega, e1 x hx, cp_kp_2 _ _ hx]
  · have e : ∀ k, k ≠ 4 → k ≠ 1 → k ≠ 2 → cp_row (cp_row (cp_kp r) 1 a1) 4 h' k = r k := fun k k4 k1 k2 => by rw [cp_row_n _ _ k4, cp_kp_o _ _ k1 k2]
    rw [e 6 (by decide) (by decide) (by decide), e 5 (by decide) (by decide) (by decide)]
    exact g4 s hs
  · rw [cp_row_n _ _ (by decide), cp_kp_o _ _ (by decide) (by decide)]; exact g5.2.2 i hi
set_option maxHeartbeats 4000000 in
set_option maxRecDepth 100000 in
theorem c_X7_piece_n {lc : Launch} {E : cp_En} {cnt : Nat} {sh : cp_Shp} {R : cp_Rem} {J : cp_Mem} {m : Nat} {f : Nat → Int32} {r : Nat → Nat → Int32} (M : cp_ML sh R m) {X : cp_St} (hR : cp_MR f r X) {v1 v2 v3 v4 : Int32} (hv : (cp_sPiece (cp_xN X) v1 v2 v3 v4).1 < 0) : cp_Fr lc E yX7_piece cX7_piece 5 (some .int) 2 [.ref m, .int v1, .int v2, .int v3, .int v4] cnt sh (cp_mm J m f r) R (some (.int ((cp_sPiece (cp_xN X) v1 v2 v3 v4).1))) (fun I' => ∃ (f' : Nat → Int32) (r' : Nat → Nat → Int32), I' = cp_mm J m f' r' ∧ cp_MR f' r' X) := by
  refine cp_Fn_iR [some (.ref m), some (.int v1), some (.int v2), some (.int v3), some (.int v4)] (by decide +kernel) (Nat.le_of_ble_eq_true rfl) rfl rfl (fun x hxl O hr => ?_)
  subst hxl
  refine cp_aload_n O dX7_piece_0 cp_lg0 ?_
  refine fg_X7_7 O M.s M.f0 dX7_piece_1 ?_
  refine cp_aload_n O dX7_piece_4 cp_lg0 ?_
  refine fg_X7_13 O M.s M.f1 dX7_piece_5 ?_
  refine cp_cSv O me_X7_copy ms_X7_copy ml_X7_139 (cp_Fn_eq (I'' := cp_ma J m f (cp_kp r) (r 1)) (c_X7_copy (i := 1) (k := 2) (r := r) (by decide) (by decide) (by decide) M.s0 M.s1) rfl (by unfold cp_ma; rw [cp_kp_1, cp_c4_12]; rfl)) dX7_piece_8 rfl rfl ⟨Nat.le_of_ble_eq_true rfl, Nat.le_of_ble_eq_true rfl⟩ ⟨Nat.le_refl _, Nat.le_refl _⟩ (Nat.le_of_ble_eq_true rfl) ?_
  refine cp_aload_n O dX7_piece_11 cp_lg0 ?_
  refine cp_aload_n O dX7_piece_12 cp_lg0 ?_
  refine cp_iload_n O dX7_piece_13 cp_lg1 ?_
  refine cp_iload_n O dX7_piece_14 cp_lg2 ?_
  refine cp_iload_n O dX7_piece_15 cp_lg3 ?_
  refine cp_iload O dX7_piece_16 cp_lg4 ?_
  refine cp_cVir O me_X7_doPiece mi_X7_doPiece ml_X7_146 cp_cX7 M.s (c_X7_doPiece M hR.1 hR.2.1) dX7_piece_18 rfl rfl ⟨Nat.le_of_ble_eq_true rfl, Nat.le_of_ble_eq_true rfl⟩ ⟨Nat.le_refl _, Nat.le_refl _⟩ (Nat.le_of_ble_eq_true rfl) (fun I18 hT18 => ?_)
  obtain ⟨a1, rfl, hA1⟩ := hT18
  have h4 : f 4 = f 4 := rfl
  have h10 : f 10 = f 10 := rfl
  refine cp_cVi O me_X7_ends mi_X7_ends ml_X7_143 cp_cX7 M.s (c_X7_ends_0 M hv) dX7_piece_21 rfl rfl ⟨Nat.le_of_ble_eq_true rfl, Nat.le_of_ble_eq_true rfl⟩ ⟨Nat.le_refl _, Nat.le_refl _⟩ (Nat.le_of_ble_eq_true rfl) ?_
  exact hr _ _ _ _ dX7_piece_24 rfl ⟨_, _, rfl, cp_MR_neg hR h4 h10 ((cp_err_piece hR.2.1 hv) ▸ hA1)⟩
set_option maxHeartbeats 4000000 in
set_option maxRecDepth 100000 in
theorem c_X7_piece_p {lc : Launch} {E : cp_En} {cnt : Nat} {sh : cp_Shp} {R : cp_Rem} {J : cp_Mem} {m : Nat} {f : Nat → Int32} {r : Nat → Nat → Int32} (M : cp_ML sh R m) {X : cp_St} (hR : cp_MR f r X) {v1 v2 v3 v4 : Int32} (hv : ¬ (cp_sPiece (cp_xN X) v1 v2 v3 v4).1 < 0) : cp_Fr lc E yX7_piece cX7_piece 5 (some .int) 2 [.ref m, .int v1, .int v2, .int v3, .int v4] cnt sh (cp_mm J m f r) R (some (.int ((cp_sPiece (cp_xN X) v1 v2 v3 v4).1))) (fun I' => ∃ (f' : Nat → Int32) (r' : Nat → Nat → Int32), I' = cp_mm J m f' r' ∧ cp_MR f' r' (cp_psh X (cp_sPiece (cp_xN X) v1 v2 v3 v4).2)) := by
  refine cp_Fn_iR [some (.ref m), some (.int v1), some (.int v2), some (.int v3), some (.int v4)] (by decide +kernel) (Nat.le_of_ble_eq_true rfl) rfl rfl (fun x hxl O hr => ?_)
  subst hxl
  refine cp_aload_n O dX7_piece_0 cp_lg0 ?_
  refine fg_X7_7 O M.s M.f0 dX7_piece_1 ?_
  refine cp_aload_n O dX7_piece_4 cp_lg0 ?_
  refine fg_X7_13 O M.s M.f1 dX7_piece_5 ?_
  refine cp_cSv O me_X7_copy ms_X7_copy ml_X7_139 (cp_Fn_eq (I'' := cp_ma J m f (cp_kp r) (r 1)) (c_X7_copy (i := 1) (k := 2) (r := r) (by decide) (by decide) (by decide) M.s0 M.s1) rfl (by unfold cp_ma; rw [cp_kp_1, cp_c4_12]; rfl)) dX7_piece_8 rfl rfl ⟨Nat.le_of_ble_eq_true rfl, Nat.le_of_ble_eq_true rfl⟩ ⟨Nat.le_refl _, Nat.le_refl _⟩ (Nat.le_of_ble_eq_true rfl) ?_
  refine cp_aload_n O dX7_piece_11 cp_lg0 ?_
  refine cp_aload_n O dX7_piece_12 cp_lg0 ?_
  refine cp_iload_n O dX7_piece_13 cp_lg1 ?_
  refine cp_iload_n O dX7_piece_14 cp_lg2 ?_
  refine cp_iload_n O dX7_piece_15 cp_lg3 ?_
  refine cp_iload O dX7_piece_16 cp_lg4 ?_
  refine cp_cVir O me_X7_doPiece mi_X7_doPiece ml_X7_146 cp_cX7 M.s (c_X7_doPiece M hR.1 hR.2.1) dX7_piece_18 rfl rfl ⟨Nat.le_of_ble_eq_true rfl, Nat.le_of_ble_eq_true rfl⟩ ⟨Nat.le_refl _, Nat.le_refl _⟩ (Nat.le_of_ble_eq_true rfl) (fun I18 hT18 => ?_)
  obtain ⟨a1, rfl, hA1⟩ := hT18
  have h4 : f 4 = f 4 := rfl
  have h10 : f 10 = f 10 := rfl
  refine cp_cVir O me_X7_ends mi_X7_ends ml_X7_143 cp_cX7 M.s (c_X7_ends_p (L := cp_xL X) M (Int32.not_lt.mp hv) (h4.trans hR.2.2.1.1) hR.2.2.1.2.1) dX7_piece_21 rfl rfl ⟨Nat.le_of_ble_eq_true rfl, Nat.le_of_ble_eq_true rfl⟩ ⟨Nat.le_refl _, Nat.le_refl _⟩ (Nat.le_of_ble_eq_true rfl) (fun I21 hT21 => ?_)
  obtain ⟨h', rfl, e1, e2⟩ := hT21
  exact hr _ _ _ _ dX7_piece_24 rfl ⟨_, _, rfl, cp_MR_pos hR h10 hA1 (cp_NV_piece hR.2.1) e1 e2⟩
theorem c_X7_piece {lc : Launch} {E : cp_En} {cnt : Nat} {sh : cp_Shp} {R : cp_Rem} {J : cp_Mem} {m : Nat} {f : Nat → Int32} {r : Nat → Nat → Int32} (M : cp_ML sh R m) {X : cp_St} (hR : cp_MR f r X) {v1 v2 v3 v4 : Int32} : cp_Fr lc E yX7_piece cX7_piece 5 (some .int) 2 [.ref m, .int v1, .int v2, .int v3, .int v4] cnt sh (cp_mm J m f r) R (some (.int (cp_chg X (cp_sPiece (cp_xN X) v1 v2 v3 v4)).1)) (fun I' => ∃ (f' : Nat → Int32) (r' : Nat → Nat → Int32), I' = cp_mm J m f' r' ∧ cp_MR f' r' (cp_chg X (cp_sPiece (cp_xN X) v1 v2 v3 v4)).2) := by
  by_cases hv : (cp_sPiece (cp_xN X) v1 v2 v3 v4).1 < 0
  · rw [cp_chg_n hv]; exact c_X7_piece_n M hR hv
  · rw [cp_chg_p hv]; exact c_X7_piece_p M hR hv
set_option maxHeartbeats 4000000 in
set_option maxRecDepth 100000 in
theorem c_X7_plate_n {lc : Launch} {E : cp_En} {cnt : Nat} {sh : cp_Shp} {R : cp_Rem} {J : cp_Mem} {m : Nat} {f : Nat → Int32} {r : Nat → Nat → Int32} (M : cp_ML sh R m) {X : cp_St} (hR : cp_MR f r X) {v1 : Int32} (hv : (cp_sPlate (cp_xN X) v1).1 < 0) : cp_Fr lc E yX7_plate cX7_plate 2 (some .int) 3 [.ref m, .int v1] cnt sh (cp_mm J m f r) R (some (.int ((cp_sPlate (cp_xN X) v1).1))) (fun I' => ∃ (f' : Nat → Int32) (r' : Nat → Nat → Int32), I' = cp_mm J m f' r' ∧ cp_MR f' r' X) := by
  refine cp_Fn_iR [some (.ref m), some (.int v1)] (by decide +kernel) (Nat.le_of_ble_eq_true rfl) rfl rfl (fun x hxl O hr => ?_)
  subst hxl
  refine cp_aload_n O dX7_plate_0 cp_lg0 ?_
  refine fg_X7_7 O M.s M.f0 dX7_plate_1 ?_
  refine cp_aload_n O dX7_plate_4 cp_lg0 ?_
  refine fg_X7_13 O M.s M.f1 dX7_plate_5 ?_
  refine cp_cSv O me_X7_copy ms_X7_copy ml_X7_139 (cp_Fn_eq (I'' := cp_ma J m f (cp_kp r) (r 1)) (c_X7_copy (i := 1) (k := 2) (r := r) (by decide) (by decide) (by decide) M.s0 M.s1) rfl (by unfold cp_ma; rw [cp_kp_1, cp_c4_12]; rfl)) dX7_plate_8 rfl rfl ⟨Nat.le_of_ble_eq_true rfl, Nat.le_of_ble_eq_true rfl⟩ ⟨Nat.le_refl _, Nat.le_refl _⟩ (Nat.le_of_ble_eq_true rfl) ?_
  refine cp_aload_n O dX7_plate_11 cp_lg0 ?_
  refine cp_aload_n O dX7_plate_12 cp_lg0 ?_
  refine cp_iload_n O dX7_plate_13 cp_lg1 ?_
  refine cp_cVir O me_X7_doPlate mi_X7_doPlate ml_X7_150 cp_cX7 M.s (c_X7_doPlate M hR.1 hR.2.1) dX7_plate_14 rfl rfl ⟨Nat.le_of_ble_eq_true rfl, Nat.le_of_ble_eq_true rfl⟩ ⟨Nat.le_refl _, Nat.le_refl _⟩ (Nat.le_of_ble_eq_true rfl) (fun I14 hT14 => ?_)
  obtain ⟨a1, rfl, hA1⟩ := hT14
  have h4 : f 4 = f 4 := rfl
  have h10 : f 10 = f 10 := rfl
  refine cp_cVi O me_X7_ends mi_X7_ends ml_X7_143 cp_cX7 M.s (c_X7_ends_0 M hv) dX7_plate_17 rfl rfl ⟨Nat.le_of_ble_eq_true rfl, Nat.le_of_ble_eq_true rfl⟩ ⟨Nat.le_refl _, Nat.le_refl _⟩ (Nat.le_of_ble_eq_true rfl) ?_
  exact hr _ _ _ _ dX7_plate_20 rfl ⟨_, _, rfl, cp_MR_neg hR h4 h10 ((cp_err_plate hR.1.2.2.2.2.1 hv) ▸ hA1)⟩
set_option maxHeartbeats 4000000 in
set_option maxRecDepth 100000 in
theorem c_X7_plate_p {lc : Launch} {E : cp_En} {cnt : Nat} {sh : cp_Shp} {R : cp_Rem} {J : cp_Mem} {m : Nat} {f : Nat → Int32} {r : Nat → Nat → Int32} (M : cp_ML sh R m) {X : cp_St} (hR : cp_MR f r X) {v1 : Int32} (hv : ¬ (cp_sPlate (cp_xN X) v1).1 < 0) : cp_Fr lc E yX7_plate cX7_plate 2 (some .int) 3 [.ref m, .int v1] cnt sh (cp_mm J m f r) R (some (.int ((cp_sPlate (cp_xN X) v1).1))) (fun I' => ∃ (f' : Nat → Int32) (r' : Nat → Nat → Int32), I' = cp_mm J m f' r' ∧ cp_MR f' r' (cp_psh X (cp_sPlate (cp_xN X) v1).2)) := by
  refine cp_Fn_iR [some (.ref m), some (.int v1)] (by decide +kernel) (Nat.le_of_ble_eq_true rfl) rfl rfl (fun x hxl O hr => ?_)
  subst hxl
  refine cp_aload_n O dX7_plate_0 cp_lg0 ?_
  refine fg_X7_7 O M.s M.f0 dX7_plate_1 ?_
  refine cp_aload_n O dX7_plate_4 cp_lg0 ?_
  refine fg_X7_13 O M.s M.f1 dX7_plate_5 ?_
  refine cp_cSv O me_X7_copy ms_X7_copy ml_X7_139 (cp_Fn_eq (I'' := cp_ma J m f (cp_kp r) (r 1)) (c_X7_copy (i := 1) (k := 2) (r := r) (by decide) (by decide) (by decide) M.s0 M.s1) rfl (by unfold cp_ma; rw [cp_kp_1, cp_c4_12]; rfl)) dX7_plate_8 rfl rfl ⟨Nat.le_of_ble_eq_true rfl, Nat.le_of_ble_eq_true rfl⟩ ⟨Nat.le_refl _, Nat.le_refl _⟩ (Nat.le_of_ble_eq_true rfl) ?_
  refine cp_aload_n O dX7_plate_11 cp_lg0 ?_
  refine cp_aload_n O dX7_plate_12 cp_lg0 ?_
  refine cp_iload_n O dX7_plate_13 cp_lg1 ?_
  refine cp_cVir O me_X7_doPlate mi_X7_doPlate ml_X7_150 cp_cX7 M.s (c_X7_doPlate M hR.1 hR.2.1) dX7_plate_14 rfl rfl ⟨Nat.le_of_ble_eq_true rfl, Nat.le_of_ble_eq_true rfl⟩ ⟨Nat.le_refl _, Nat.le_refl _⟩ (Nat.le_of_ble_eq_true rfl) (fun I14 hT14 => ?_)
  obtain ⟨a1, rfl, hA1⟩ := hT14
  have h4 : f 4 = f 4 := rfl
  have h10 : f 10 = f 10 := rfl
  refine cp_cVir O me_X7_ends mi_X7_ends ml_X7_143 cp_cX7 M.s (c_X7_ends_p (L := cp_xL X) M (Int32.not_lt.mp hv) (h4.trans hR.2.2.1.1) hR.2.2.1.2.1) dX7_plate_17 rfl rfl ⟨Nat.le_of_ble_eq_true rfl, Nat.le_of_ble_eq_true rfl⟩ ⟨Nat.le_refl _, Nat.le_refl _⟩ (Nat.le_of_ble_eq_true rfl) (fun I17 hT17 => ?_)
  obtain ⟨h', rfl, e1, e2⟩ := hT17
  exact hr _ _ _ _ dX7_plate_20 rfl ⟨_, _, rfl, cp_MR_pos hR h10 hA1 (cp_NV_plate hR.2.1) e1 e2⟩
theorem c_X7_plate {lc : Launch} {E : cp_En} {cnt : Nat} {sh : cp_Shp} {R : cp_Rem} {J : cp_Mem} {m : Nat} {f : Nat → Int32} {r : Nat → Nat → Int32} (M : cp_ML sh R m) {X : cp_St} (hR : cp_MR f r X) {v1 : Int32} : cp_Fr lc E yX7_plate cX7_plate 2 (some .int) 3 [.ref m, .int v1] cnt sh (cp_mm J m f r) R (some (.int (cp_chg X (cp_sPlate (cp_xN X) v1)).1)) (fun I' => ∃ (f' : Nat → Int32) (r' : Nat → Nat → Int32), I' = cp_mm J m f' r' ∧ cp_MR f' r' (cp_chg X (cp_sPlate (cp_xN X) v1)).2) := by
  by_cases hv : (cp_sPlate (cp_xN X) v1).1 < 0
  · rw [cp_chg_n hv]; exact c_X7_plate_n M hR hv
  · rw [cp_chg_p hv]; exact c_X7_plate_p M hR hv
set_option maxHeartbeats 4000000 in
set_option maxRecDepth 100000 in
theorem c_X7_hold_n {lc : Launch} {E : cp_En} {cnt : Nat} {sh : cp_Shp} {R : cp_Rem} {J : cp_Mem} {m : Nat} {f : Nat → Int32} {r : Nat → Nat → Int32} (M : cp_ML sh R m) {X : cp_St} (hR : cp_MR f r X) {v1 : Int32} (hv : (cp_sHold (cp_xN X) v1).1 < 0) : cp_Fr lc E yX7_hold cX7_hold 2 (some .int) 3 [.ref m, .int v1] cnt sh (cp_mm J m f r) R (some (.int ((cp_sHold (cp_xN X) v1).1))) (fun I' => ∃ (f' : Nat → Int32) (r' : Nat → Nat → Int32), I' = cp_mm J m f' r' ∧ cp_MR f' r' X) := by
  refine cp_Fn_iR [some (.ref m), some (.int v1)] (by decide +kernel) (Nat.le_of_ble_eq_true rfl) rfl rfl (fun x hxl O hr => ?_)
  subst hxl
  refine cp_aload_n O dX7_hold_0 cp_lg0 ?_
  refine fg_X7_7 O M.s M.f0 dX7_hold_1 ?_
  refine cp_aload_n O dX7_hold_4 cp_lg0 ?_
  refine fg_X7_13 O M.s M.f1 dX7_hold_5 ?_
  refine cp_cSv O me_X7_copy ms_X7_copy ml_X7_139 (cp_Fn_eq (I'' := cp_ma J m f (cp_kp r) (r 1)) (c_X7_copy (i := 1) (k := 2) (r := r) (by decide) (by decide) (by decide) M.s0 M.s1) rfl (by unfold cp_ma; rw [cp_kp_1, cp_c4_12]; rfl)) dX7_hold_8 rfl rfl ⟨Nat.le_of_ble_eq_true rfl, Nat.le_of_ble_eq_true rfl⟩ ⟨Nat.le_refl _, Nat.le_refl _⟩ (Nat.le_of_ble_eq_true rfl) ?_
  refine cp_aload_n O dX7_hold_11 cp_lg0 ?_
  refine cp_aload_n O dX7_hold_12 cp_lg0 ?_
  refine cp_iload_n O dX7_hold_13 cp_lg1 ?_
  refine cp_cVir O me_X7_doHold mi_X7_doHold ml_X7_153 cp_cX7 M.s (c_X7_doHold M hR.1 hR.2.1) dX7_hold_14 rfl rfl ⟨Nat.le_of_ble_eq_true rfl, Nat.le_of_ble_eq_true rfl⟩ ⟨Nat.le_refl _, Nat.le_refl _⟩ (Nat.le_of_ble_eq_true rfl) (fun I14 hT14 => ?_)
  obtain ⟨a1, rfl, hA1⟩ := hT14
  have h4 : f 4 = f 4 := rfl
  have h10 : f 10 = f 10 := rfl
  refine cp_cVi O me_X7_ends mi_X7_ends ml_X7_143 cp_cX7 M.s (c_X7_ends_0 M hv) dX7_hold_17 rfl rfl ⟨Nat.le_of_ble_eq_true rfl, Nat.le_of_ble_eq_true rfl⟩ ⟨Nat.le_refl _, Nat.le_refl _⟩ (Nat.le_of_ble_eq_true rfl) ?_
  exact hr _ _ _ _ dX7_hold_20 rfl ⟨_, _, rfl, cp_MR_neg hR h4 h10 ((cp_err_hold hR.2.1 hv) ▸ hA1)⟩
set_option maxHeartbeats 4000000 in
set_option maxRecDepth 100000 in
theorem c_X7_hold_p {lc : Launch} {E : cp_En} {cnt : Nat} {sh : cp_Shp} {R : cp_Rem} {J : cp_Mem} {m : Nat} {f : Nat → Int32} {r : Nat → Nat → Int32} (M : cp_ML sh R m) {X : cp_St} (hR : cp_MR f r X) {v1 : Int32} (hv : ¬ (cp_sHold (cp_xN X) v1).1 < 0) : cp_Fr lc E yX7_hold cX7_hold 2 (some .int) 3 [.ref m, .int v1] cnt sh (cp_mm J m f r) R (some (.int ((cp_sHold (cp_xN X) v1).1))) (fun I' => ∃ (f' : Nat → Int32) (r' : Nat → Nat → Int32), I' = cp_mm J m f' r' ∧ cp_MR f' r' (cp_psh X (cp_sHold (cp_xN X) v1).2)) := by
  refine cp_Fn_iR [some (.ref m), some (.int v1)] (by decide +kernel) (Nat.le_of_ble_eq_true rfl) rfl rfl (fun x hxl O hr => ?_)
  subst hxl
  refine cp_aload_n O dX7_hold_0 cp_lg0 ?_
  refine fg_X7_7 O M.s M.f0 dX7_hold_1 ?_
  refine cp_aload_n O dX7_hold_4 cp_lg0 ?_
  refine fg_X7_13 O M.s M.f1 dX7_hold_5 ?_
  refine cp_cSv O me_X7_copy ms_X7_copy ml_X7_139 (cp_Fn_eq (I'' := cp_ma J m f (cp_kp r) (r 1)) (c_X7_copy (i := 1) (k := 2) (r := r) (by decide) (by decide) (by decide) M.s0 M.s1) rfl (by unfold cp_ma; rw [cp_kp_1, cp_c4_12]; rfl)) dX7_hold_8 rfl rfl ⟨Nat.le_of_ble_eq_true rfl, Nat.le_of_ble_eq_true rfl⟩ ⟨Nat.le_refl _, Nat.le_refl _⟩ (Nat.le_of_ble_eq_true rfl) ?_
  refine cp_aload_n O dX7_hold_11 cp_lg0 ?_
  refine cp_aload_n O dX7_hold_12 cp_lg0 ?_
  refine cp_iload_n O dX7_hold_13 cp_lg1 ?_
  refine cp_cVir O me_X7_doHold mi_X7_doHold ml_X7_153 cp_cX7 M.s (c_X7_doHold M hR.1 hR.2.1) dX7_hold_14 rfl rfl ⟨Nat.le_of_ble_eq_true rfl, Nat.le_of_ble_eq_true rfl⟩ ⟨Nat.le_refl _, Nat.le_refl _⟩ (Nat.le_of_ble_eq_true rfl) (fun I14 hT14 => ?_)
  obtain ⟨a1, rfl, hA1⟩ := hT14
  have h4 : f 4 = f 4 := rfl
  have h10 : f 10 = f 10 := rfl
  refine cp_cVir O me_X7_ends mi_X7_ends ml_X7_143 cp_cX7 M.s (c_X7_ends_p (L := cp_xL X) M (Int32.not_lt.mp hv) (h4.trans hR.2.2.1.1) hR.2.2.1.2.1) dX7_hold_17 rfl rfl ⟨Nat.le_of_ble_eq_true rfl, Nat.le_of_ble_eq_true rfl⟩ ⟨Nat.le_refl _, Nat.le_refl _⟩ (Nat.le_of_ble_eq_true rfl) (fun I17 hT17 => ?_)
  obtain ⟨h', rfl, e1, e2⟩ := hT17
  exact hr _ _ _ _ dX7_hold_20 rfl ⟨_, _, rfl, cp_MR_pos hR h10 hA1 (cp_NV_hold hR.2.1) e1 e2⟩
theorem c_X7_hold {lc : Launch} {E : cp_En} {cnt : Nat} {sh : cp_Shp} {R : cp_Rem} {J : cp_Mem} {m : Nat} {f : Nat → Int32} {r : Nat → Nat → Int32} (M : cp_ML sh R m) {X : cp_St} (hR : cp_MR f r X) {v1 : Int32} : cp_Fr lc E yX7_hold cX7_hold 2 (some .int) 3 [.ref m, .int v1] cnt sh (cp_mm J m f r) R (some (.int (cp_chg X (cp_sHold (cp_xN X) v1)).1)) (fun I' => ∃ (f' : Nat → Int32) (r' : Nat → Nat → Int32), I' = cp_mm J m f' r' ∧ cp_MR f' r' (cp_chg X (cp_sHold (cp_xN X) v1)).2) := by
  by_cases hv : (cp_sHold (cp_xN X) v1).1 < 0
  · rw [cp_chg_n hv]; exact c_X7_hold_n M hR hv
  · rw [cp_chg_p hv]; exact c_X7_hold_p M hR hv
set_option maxHeartbeats 4000000 in
set_option maxRecDepth 100000 in
theorem c_X7_kill_n {lc : Launch} {E : cp_En} {cnt : Nat} {sh : cp_Shp} {R : cp_Rem} {J : cp_Mem} {m : Nat} {f : Nat → Int32} {r : Nat → Nat → Int32} (M : cp_ML sh R m) {X : cp_St} (hR : cp_MR f r X) {v1 : Int32} (hv : (cp_sKill (cp_xN X) v1).1 < 0) : cp_Fr lc E yX7_kill cX7_kill 2 (some .int) 5 [.ref m, .int v1] cnt sh (cp_mm J m f r) R (some (.int ((cp_sKill (cp_xN X) v1).1))) (fun I' => ∃ (f' : Nat → Int32) (r' : Nat → Nat → Int32), I' = cp_mm J m f' r' ∧ cp_MR f' r' X) := by
  refine cp_Fn_iR [some (.ref m), some (.int v1)] (by decide +kernel) (Nat.le_of_ble_eq_true rfl) rfl rfl (fun x hxl O hr => ?_)
  subst hxl
  refine cp_aload_n O dX7_kill_0 cp_lg0 ?_
  refine fg_X7_7 O M.s M.f0 dX7_kill_1 ?_
  refine cp_aload_n O dX7_kill_4 cp_lg0 ?_
  refine fg_X7_13 O M.s M.f1 dX7_kill_5 ?_
  refine cp_cSv O me_X7_copy ms_X7_copy ml_X7_139 (cp_Fn_eq (I'' := cp_ma J m f (cp_kp r) (r 1)) (c_X7_copy (i := 1) (k := 2) (r := r) (by decide) (by decide) (by decide) M.s0 M.s1) rfl (by unfold cp_ma; rw [cp_kp_1, cp_c4_12]; rfl)) dX7_kill_8 rfl rfl ⟨Nat.le_of_ble_eq_true rfl, Nat.le_of_ble_eq_true rfl⟩ ⟨Nat.le_refl _, Nat.le_refl _⟩ (Nat.le_of_ble_eq_true rfl) ?_
  refine cp_aload_n O dX7_kill_11 cp_lg0 ?_
  refine cp_aload_n O dX7_kill_12 cp_lg0 ?_
  refine cp_iload_n O dX7_kill_13 cp_lg1 ?_
  refine cp_cVir O me_X7_doKill mi_X7_doKill ml_X7_156 cp_cX7 M.s (c_X7_doKill M hR.1 hR.2.1) dX7_kill_14 rfl rfl ⟨Nat.le_of_ble_eq_true rfl, Nat.le_of_ble_eq_true rfl⟩ ⟨Nat.le_refl _, Nat.le_refl _⟩ (Nat.le_of_ble_eq_true rfl) (fun I14 hT14 => ?_)
  obtain ⟨a1, rfl, hA1⟩ := hT14
  have h4 : f 4 = f 4 := rfl
  have h10 : f 10 = f 10 := rfl
  refine cp_cVi O me_X7_ends mi_X7_ends ml_X7_143 cp_cX7 M.s (c_X7_ends_0 M hv) dX7_kill_17 rfl rfl ⟨Nat.le_of_ble_eq_true rfl, Nat.le_of_ble_eq_true rfl⟩ ⟨Nat.le_refl _, Nat.le_refl _⟩ (Nat.le_of_ble_eq_true rfl) ?_
  exact hr _ _ _ _ dX7_kill_20 rfl ⟨_, _, rfl, cp_MR_neg hR h4 h10 ((cp_err_kill hv) ▸ hA1)⟩
set_option maxHeartbeats 4000000 in
set_option maxRecDepth 100000 in
theorem c_X7_kill_p {lc : Launch} {E : cp_En} {cnt : Nat} {sh : cp_Shp} {R : cp_Rem} {J : cp_Mem} {m : Nat} {f : Nat → Int32} {r : Nat → Nat → Int32} (M : cp_ML sh R m) {X : cp_St} (hR : cp_MR f r X) {v1 : Int32} (hv : ¬ (cp_sKill (cp_xN X) v1).1 < 0) : cp_Fr lc E yX7_kill cX7_kill 2 (some .int) 5 [.ref m, .int v1] cnt sh (cp_mm J m f r) R (some (.int ((cp_sKill (cp_xN X) v1).1))) (fun I' => ∃ (f' : Nat → Int32) (r' : Nat → Nat → Int32), I' = cp_mm J m f' r' ∧ cp_MR f' r' (cp_psh X (cp_sKill (cp_xN X) v1).2)) := by
  refine cp_Fn_iR [some (.ref m), some (.int v1)] (by decide +kernel) (Nat.le_of_ble_eq_true rfl) rfl rfl (fun x hxl O hr => ?_)
  subst hxl
  refine cp_aload_n O dX7_kill_0 cp_lg0 ?_
  refine fg_X7_7 O M.s M.f0 dX7_kill_1 ?_
  refine cp_aload_n O dX7_kill_4 cp_lg0 ?_
  refine fg_X7_13 O M.s M.f1 dX7_kill_5 ?_
  refine cp_cSv O me_X7_copy ms_X7_copy ml_X7_139 (cp_Fn_eq (I'' := cp_ma J m f (cp_kp r) (r 1)) (c_X7_copy (i := 1) (k := 2) (r := r) (by decide) (by decide) (by decide) M.s0 M.s1) rfl (by unfold cp_ma; rw [cp_kp_1, cp_c4_12]; rfl)) dX7_kill_8 rfl rfl ⟨Nat.le_of_ble_eq_true rfl, Nat.le_of_ble_eq_true rfl⟩ ⟨Nat.le_refl _, Nat.le_refl _⟩ (Nat.le_of_ble_eq_true rfl) ?_
  refine cp_aload_n O dX7_kill_11 cp_lg0 ?_
  refine cp_aload_n O dX7_kill_12 cp_lg0 ?_
  refine cp_iload_n O dX7_kill_13 cp_lg1 ?_
  refine cp_cVir O me_X7_doKill mi_X7_doKill ml_X7_156 cp_cX7 M.s (c_X7_doKill M hR.1 hR.2.1) dX7_kill_14 rfl rfl ⟨Nat.le_of_ble_eq_true rfl, Nat.le_of_ble_eq_true rfl⟩ ⟨Nat.le_refl _, Nat.le_refl _⟩ (Nat.le_of_ble_eq_true rfl) (fun I14 hT14 => ?_)
  obtain ⟨a1, rfl, hA1⟩ := hT14
  have h4 : f 4 = f 4 := rfl
  have h10 : f 10 = f 10 := rfl
  refine cp_cVir O me_X7_ends mi_X7_ends ml_X7_143 cp_cX7 M.s (c_X7_ends_p (L := cp_xL X) M (Int32.not_lt.mp hv) (h4.trans hR.2.2.1.1) hR.2.2.1.2.1) dX7_kill_17 rfl rfl ⟨Nat.le_of_ble_eq_true rfl, Nat.le_of_ble_eq_true rfl⟩ ⟨Nat.le_refl _, Nat.le_refl _⟩ (Nat.le_of_ble_eq_true rfl) (fun I17 hT17 => ?_)
  obtain ⟨h', rfl, e1, e2⟩ := hT17
  exact hr _ _ _ _ dX7_kill_20 rfl ⟨_, _, rfl, cp_MR_pos hR h10 hA1 (cp_NV_kill hR.2.1) e1 e2⟩
theorem c_X7_kill {lc : Launch} {E : cp_En} {cnt : Nat} {sh : cp_Shp} {R : cp_Rem} {J : cp_Mem} {m : Nat} {f : Nat → Int32} {r : Nat → Nat → Int32} (M : cp_ML sh R m) {X : cp_St} (hR : cp_MR f r X) {v1 : Int32} : cp_Fr lc E yX7_kill cX7_kill 2 (some .int) 5 [.ref m, .int v1] cnt sh (cp_mm J m f r) R (some (.int (cp_chg X (cp_sKill (cp_xN X) v1)).1)) (fun I' => ∃ (f' : Nat → Int32) (r' : Nat → Nat → Int32), I' = cp_mm J m f' r' ∧ cp_MR f' r' (cp_chg X (cp_sKill (cp_xN X) v1)).2) := by
  by_cases hv : (cp_sKill (cp_xN X) v1).1 < 0
  · rw [cp_chg_n hv]; exact c_X7_kill_n M hR hv
  · rw [cp_chg_p hv]; exact c_X7_kill_p M hR hv
set_option maxHeartbeats 4000000 in
set_option maxRecDepth 100000 in
theorem c_X7_pass_n {lc : Launch} {E : cp_En} {cnt : Nat} {sh : cp_Shp} {R : cp_Rem} {J : cp_Mem} {m : Nat} {f : Nat → Int32} {r : Nat → Nat → Int32} (M : cp_ML sh R m) {X : cp_St} (hR : cp_MR f r X) {v1 : Int32} (hv : (cp_sPass (cp_xN X) v1).1 < 0) : cp_Fr lc E yX7_pass cX7_pass 2 (some .int) 9 [.ref m, .int v1] cnt sh (cp_mm J m f r) R (some (.int ((cp_sPass (cp_xN X) v1).1))) (fun I' => ∃ (f' : Nat → Int32) (r' : Nat → Nat → Int32), I' = cp_mm J m f' r' ∧ cp_MR f' r' X) := by
  refine cp_Fn_iR [some (.ref m), some (.int v1)] (by decide +kernel) (Nat.le_of_ble_eq_true rfl) rfl rfl (fun x hxl O hr => ?_)
  subst hxl
  refine cp_aload_n O dX7_pass_0 cp_lg0 ?_
  refine fg_X7_7 O M.s M.f0 dX7_pass_1 ?_
  refine cp_aload_n O dX7_pass_4 cp_lg0 ?_
  refine fg_X7_13 O M.s M.f1 dX7_pass_5 ?_
  refine cp_cSv O me_X7_copy ms_X7_copy ml_X7_139 (cp_Fn_eq (I'' := cp_ma J m f (cp_kp r) (r 1)) (c_X7_copy (i := 1) (k := 2) (r := r) (by decide) (by decide) (by decide) M.s0 M.s1) rfl (by unfold cp_ma; rw [cp_kp_1, cp_c4_12]; rfl)) dX7_pass_8 rfl rfl ⟨Nat.le_of_ble_eq_true rfl, Nat.le_of_ble_eq_true rfl⟩ ⟨Nat.le_refl _, Nat.le_refl _⟩ (Nat.le_of_ble_eq_true rfl) ?_
  refine cp_aload_n O dX7_pass_11 cp_lg0 ?_
  refine cp_aload_n O dX7_pass_12 cp_lg0 ?_
  refine cp_iload_n O dX7_pass_13 cp_lg1 ?_
  refine cp_cVir O me_X7_doPass mi_X7_doPass ml_X7_159 cp_cX7 M.s (c_X7_doPass M hR.1 hR.2.1) dX7_pass_14 rfl rfl ⟨Nat.le_of_ble_eq_true rfl, Nat.le_of_ble_eq_true rfl⟩ ⟨Nat.le_refl _, Nat.le_refl _⟩ (Nat.le_of_ble_eq_true rfl) (fun I14 hT14 => ?_)
  obtain ⟨f1, a1, rfl, hA1, hf1⟩ := hT14
  have h4 : f1 4 = f 4 := hf1 4 (by decide) (by decide)
  have h10 : f1 10 = f 10 := hf1 10 (by decide) (by decide)
  refine cp_cVi O me_X7_ends mi_X7_ends ml_X7_143 cp_cX7 M.s (c_X7_ends_0 M hv) dX7_pass_17 rfl rfl ⟨Nat.le_of_ble_eq_true rfl, Nat.le_of_ble_eq_true rfl⟩ ⟨Nat.le_refl _, Nat.le_refl _⟩ (Nat.le_of_ble_eq_true rfl) ?_
  exact hr _ _ _ _ dX7_pass_20 rfl ⟨_, _, rfl, cp_MR_neg hR h4 h10 ((cp_err_pass hR.2.1 hv) ▸ hA1)⟩
set_option maxHeartbeats 4000000 in
set_option maxRecDepth 100000 in
theorem c_X7_pass_p {lc : Launch} {E : cp_En} {cnt : Nat} {sh : cp_Shp} {R : cp_Rem} {J : cp_Mem} {m : Nat} {f : Nat → Int32} {r : Nat → Nat → Int32} (M : cp_ML sh R m) {X : cp_St} (hR : cp_MR f r X) {v1 : Int32} (hv : ¬ (cp_sPass (cp_xN X) v1).1 < 0) : cp_Fr lc E yX7_pass cX7_pass 2 (some .int) 9 [.ref m, .int v1] cnt sh (cp_mm J m f r) R (some (.int ((cp_sPass (cp_xN X) v1).1))) (fun I' => ∃ (f' : Nat → Int32) (r' : Nat → Nat → Int32), I' = cp_mm J m f' r' ∧ cp_MR f' r' (cp_psh X (cp_sPass (cp_xN X) v1).2)) := by
  refine cp_Fn_iR [some (.ref m), some (.int v1)] (by decide +kernel) (Nat.le_of_ble_eq_true rfl) rfl rfl (fun x hxl O hr => ?_)
  subst hxl
  refine cp_aload_n O dX7_pass_0 cp_lg0 ?_
  refine fg_X7_7 O M.s M.f0 dX7_pass_1 ?_
  refine cp_aload_n O dX7_pass_4 cp_lg0 ?_
  refine fg_X7_13 O M.s M.f1 dX7_pass_5 ?_
  refine cp_cSv O me_X7_copy ms_X7_copy ml_X7_139 (cp_Fn_eq (I'' := cp_ma J m f (cp_kp r) (r 1)) (c_X7_copy (i := 1) (k := 2) (r := r) (by decide) (by decide) (by decide) M.s0 M.s1) rfl (by unfold cp_ma; rw [cp_kp_1, cp_c4_12]; rfl)) dX7_pass_8 rfl rfl ⟨Nat.le_of_ble_eq_true rfl, Nat.le_of_ble_eq_true rfl⟩ ⟨Nat.le_refl _, Nat.le_refl _⟩ (Nat.le_of_ble_eq_true rfl) ?_
  refine cp_aload_n O dX7_pass_11 cp_lg0 ?_
  refine cp_aload_n O dX7_pass_12 cp_lg0 ?_
  refine cp_iload_n O dX7_pass_13 cp_lg1 ?_
  refine cp_cVir O me_X7_doPass mi_X7_doPass ml_X7_159 cp_cX7 M.s (c_X7_doPass M hR.1 hR.2.1) dX7_pass_14 rfl rfl ⟨Nat.le_of_ble_eq_true rfl, Nat.le_of_ble_eq_true rfl⟩ ⟨Nat.le_refl _, Nat.le_refl _⟩ (Nat.le_of_ble_eq_true rfl) (fun I14 hT14 => ?_)
  obtain ⟨f1, a1, rfl, hA1, hf1⟩ := hT14
  have h4 : f1 4 = f 4 := hf1 4 (by decide) (by decide)
  have h10 : f1 10 = f 10 := hf1 10 (by decide) (by decide)
  refine cp_cVir O me_X7_ends mi_X7_ends ml_X7_143 cp_cX7 M.s (c_X7_ends_p (L := cp_xL X) M (Int32.not_lt.mp hv) (h4.trans hR.2.2.1.1) hR.2.2.1.2.1) dX7_pass_17 rfl rfl ⟨Nat.le_of_ble_eq_true rfl, Nat.le_of_ble_eq_true rfl⟩ ⟨Nat.le_refl _, Nat.le_refl _⟩ (Nat.le_of_ble_eq_true rfl) (fun I17 hT17 => ?_)
  obtain ⟨h', rfl, e1, e2⟩ := hT17
  exact hr _ _ _ _ dX7_pass_20 rfl ⟨_, _, rfl, cp_MR_pos hR h10 hA1 (cp_NV_pass hR.2.1) e1 e2⟩
theorem c_X7_pass {lc : Launch} {E : cp_En} {cnt : Nat} {sh : cp_Shp} {R : cp_Rem} {J : cp_Mem} {m : Nat} {f : Nat → Int32} {r : Nat → Nat → Int32} (M : cp_ML sh R m) {X : cp_St} (hR : cp_MR f r X) {v1 : Int32} : cp_Fr lc E yX7_pass cX7_pass 2 (some .int) 9 [.ref m, .int v1] cnt sh (cp_mm J m f r) R (some (.int (cp_chg X (cp_sPass (cp_xN X) v1)).1)) (fun I' => ∃ (f' : Nat → Int32) (r' : Nat → Nat → Int32), I' = cp_mm J m f' r' ∧ cp_MR f' r' (cp_chg X (cp_sPass (cp_xN X) v1)).2) := by
  by_cases hv : (cp_sPass (cp_xN X) v1).1 < 0
  · rw [cp_chg_n hv]; exact c_X7_pass_n M hR hv
  · rw [cp_chg_p hv]; exact c_X7_pass_p M hR hv
