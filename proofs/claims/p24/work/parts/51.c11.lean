theorem cp_nn_r1 {lc : Launch} {E : cp_En} {cnt : Nat} {sh : cp_Shp} {R : cp_Rem} {J : cp_Mem} {b : Nat} {o S : Nat → Int32} {P Q : cp_PP} (N : cp_NL sh R b) {i : Nat} (hi : i < 24) {v1 v2 : Int32} : cp_Fn lc E yX4_readOneMinute cX4_readOneMinute 3 none 1 [.ref (b + 3 + i), .int v1, .int v2] cnt sh (cp_nn J b o S P Q) R none (cp_nn J b o S (cp_row P i (cp_r1 v1 v2 (P i))) Q) := by
  have g := c_X4_readOneMinute (lc := lc) (E := E) (cnt := cnt) (R := R) (I := cp_nn J b o S P Q) (g := P i) (v1 := v1) (v2 := v2) (N.spc hi)
  rw [cp_nn_rP _ _ _ _ _ _ hi, cp_nn_rP _ _ _ _ _ _ hi, cp_row_self] at g
  exact g
theorem cp_rd_r1 {S : Nat → Int32} {mi : Int32} {P : cp_PP} {i : Nat} {t : List Nat} : (cp_rd S mi (P, i :: t)).1 = cp_row P i (cp_r1 (S 1) mi (P i)) := by
  rw [cp_rd_cons]
  unfold cp_r1
  by_cases h : S 1 ≤ P i 7 + 1
  · rw [if_pos h, if_pos h]
    show cp_wi (cp_wi (cp_wi P i 7 (P i 7 + 1)) i 4 2) i 8 mi = _
    rw [cp_wi_row, cp_wi_row, cp_wi_row, cp_row_s, cp_row_row, cp_row_s, cp_row_row]
  · rw [if_neg h, if_neg h]
    show cp_wi P i 7 (P i 7 + 1) = _
    rw [cp_wi_row]
set_option maxHeartbeats 4000000 in
set_option maxRecDepth 100000 in
theorem c_X1_readAtLawyer_0 {lc : Launch} {E : cp_En} {cnt : Nat} {sh : cp_Shp} {R : cp_Rem} {J : cp_Mem} {b : Nat} {o S : Nat → Int32} {P Q : cp_PP} (N : cp_NL sh R b) {n : Nat} (h3 : o 3 = nI n) (hn : n ≤ 24) {mi : Nat} {i : Nat} {t : List Nat} (hV : cp_PV n P ([] : List Nat)) (hL : cp_LT mi P ([] : List Nat)) : cp_Fn lc E yX1_readAtLawyer cX1_readAtLawyer 2 none 2 [.ref b] cnt sh (cp_nn J b o S P Q) R none (cp_nn J b o S P Q) := by
  refine cp_Fn_v [some (.ref b), none] (by decide +kernel) (Nat.le_of_ble_eq_true rfl) rfl (fun x hxl O hr => ?_)
  subst hxl
  refine cp_aload_n O dX1_readAtLawyer_0 cp_lg0 ?_
  refine cp_cVi O me_X1_firstAtLawyer mi_X1_firstAtLawyer ml_X1_126 cp_cX1 N.s (c_X1_firstAtLawyer N h3 hn) dX1_readAtLawyer_1 rfl rfl ⟨Nat.le_of_ble_eq_true rfl, Nat.le_of_ble_eq_true rfl⟩ ⟨Nat.le_refl _, Nat.le_refl _⟩ (Nat.le_of_ble_eq_true rfl) ?_
  rw [cp_fal hV hL, show cp_o2i ([] : List Nat).head? = -6 from rfl]
  refine cp_istore_n O dX1_readAtLawyer_4 (by decide) (cp_ls1 rfl) ?_
  refine cp_iload_n O dX1_readAtLawyer_5 cp_lg1 ?_
  refine cp_if_lt (tgt := 28) O dX1_readAtLawyer_6 (by decide) (fun c_6 => ?_) (fun c_6 => ?_)
  · exact hr _ _ _ dX1_readAtLawyer_28 rfl
  · exact absurd (show (-6 : Int32) < 0 by decide) c_6
set_option maxHeartbeats 4000000 in
set_option maxRecDepth 100000 in
theorem c_X1_readAtLawyer_1 {lc : Launch} {E : cp_En} {cnt : Nat} {sh : cp_Shp} {R : cp_Rem} {J : cp_Mem} {b : Nat} {o S : Nat → Int32} {P Q : cp_PP} (N : cp_NL sh R b) {n : Nat} (h3 : o 3 = nI n) (hn : n ≤ 24) {mi : Nat} {i : Nat} {t : List Nat} (hV : cp_PV n P (i :: t)) (hL : cp_LT mi P (i :: t)) : cp_Fn lc E yX1_readAtLawyer cX1_readAtLawyer 2 none 2 [.ref b] cnt sh (cp_nn J b o S P Q) R none (cp_nn J b o S (cp_rd S (o 1) (P, i :: t)).1 Q) := by
  have hin := (hV.2.2.2 i).mp List.mem_cons_self
  refine cp_Fn_v [some (.ref b), none] (by decide +kernel) (Nat.le_of_ble_eq_true rfl) rfl (fun x hxl O hr => ?_)
  subst hxl
  refine cp_aload_n O dX1_readAtLawyer_0 cp_lg0 ?_
  refine cp_cVi O me_X1_firstAtLawyer mi_X1_firstAtLawyer ml_X1_126 cp_cX1 N.s (c_X1_firstAtLawyer N h3 hn) dX1_readAtLawyer_1 rfl rfl ⟨Nat.le_of_ble_eq_true rfl, Nat.le_of_ble_eq_true rfl⟩ ⟨Nat.le_refl _, Nat.le_refl _⟩ (Nat.le_of_ble_eq_true rfl) ?_
  rw [cp_fal hV hL, show cp_o2i (i :: t).head? = nI i from rfl]
  refine cp_istore_n O dX1_readAtLawyer_4 (by decide) (cp_ls1 rfl) ?_
  refine cp_iload_n O dX1_readAtLawyer_5 cp_lg1 ?_
  refine cp_if_lt (tgt := 28) O dX1_readAtLawyer_6 (by decide) (fun c_6 => ?_) (fun c_6 => ?_)
  · exact absurd c_6 (cp_nn0 (by omega))
  · refine cp_aload_n O dX1_readAtLawyer_9 cp_lg0 ?_
    refine fg_X1_29 O N.s N.pcs dX1_readAtLawyer_10 ?_
    refine cp_iload_n O dX1_readAtLawyer_13 cp_lg1 ?_
    refine cp_aaldr O (Or.inr (Or.inl ⟨rfl, rfl⟩)) N.spcs (j := i) rfl (by omega) (by decide) (N.pc (by omega)) dX1_readAtLawyer_14 ?_
    refine cp_aload_n O dX1_readAtLawyer_15 cp_lg0 ?_
    refine fg_X1_18 O N.s N.set dX1_readAtLawyer_16 ?_
    refine cp_iconst O dX1_readAtLawyer_19 (v := 1) rfl ?_
    refine cp_ialdS O N (j := 1) rfl (by omega) dX1_readAtLawyer_20 ?_
    refine cp_aload_n O dX1_readAtLawyer_21 cp_lg0 ?_
    refine ng_X1_23 O N dX1_readAtLawyer_22 ?_
    refine cp_cVv O me_X4_readOneMinute mi_X4_readOneMinute ml_X1_129 cp_cX4 (N.spc (by omega)) (cp_nn_r1 N (i := i) (by omega)) dX1_readAtLawyer_25 rfl rfl ⟨Nat.le_of_ble_eq_true rfl, Nat.le_of_ble_eq_true rfl⟩ ⟨Nat.le_refl _, Nat.le_refl _⟩ (Nat.le_of_ble_eq_true rfl) ?_
    exact hr _ _ _ dX1_readAtLawyer_28 (by rw [cp_rd_r1])
theorem c_X1_readAtLawyer {lc : Launch} {E : cp_En} {cnt : Nat} {sh : cp_Shp} {R : cp_Rem} {J : cp_Mem} {b : Nat} {o S : Nat → Int32} {P Q : cp_PP} (N : cp_NL sh R b) {n : Nat} (h3 : o 3 = nI n) (hn : n ≤ 24) {mi : Nat} {lq : List Nat} (hV : cp_PV n P lq) (hL : cp_LT mi P lq) : cp_Fn lc E yX1_readAtLawyer cX1_readAtLawyer 2 none 2 [.ref b] cnt sh (cp_nn J b o S P Q) R none (cp_nn J b o S (cp_rd S (o 1) (P, lq)).1 Q) := by
  cases lq with
  | nil => exact c_X1_readAtLawyer_0 (i := 0) (t := []) N h3 hn hV hL
  | cons i t => exact c_X1_readAtLawyer_1 N h3 hn hV hL

