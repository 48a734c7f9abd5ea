def cp_lenM : Nat → Nat
  | 0 => 420
  | 1 => 420
  | 2 => 420
  | 3 => 2520
  | 4 => 840
  | 5 => 2
  | _ => 80
def cp_fldM : Nat → Nat
  | 0 => 0
  | 1 => 1
  | 2 => 2
  | 3 => 3
  | 4 => 5
  | 5 => 6
  | _ => 9
theorem cp_fldM_ne : ∀ t, t < 7 → ∀ q, q < t → cp_fldM q ≠ cp_fldM t := by decide
/-- a model that is being made: t rows -/
def cp_M7 (m : Nat) (sh : cp_Shp) (I : cp_Mem) (R : cp_Rem) (t : Nat) (s1 : cp_Shp) (i1 : cp_Mem) (r1 : cp_Rem) : Prop := cp_old m sh I R s1 i1 r1 ∧ s1 m = (8, 0) ∧ i1 m = I m ∧ ∀ q, q < t → s1 (m + 1 + q) = (9, cp_lenM q) ∧ i1 (m + 1 + q) = (fun _ => 0) ∧ r1 m (cp_fldM q) = some (m + 1 + q)
theorem cp_M7.st {m t : Nat} {sh s1 : cp_Shp} {I i1 : cp_Mem} {R r1 : cp_Rem} (h : cp_M7 m sh I R t s1 i1 r1) (ht : t < 7) : cp_M7 m sh I R (t + 1) (cp_sN s1 (m + 1 + t) (9, cp_lenM t)) (cp_row i1 (m + 1 + t) (fun _ => 0)) (cp_wr (cp_rw r1 (m + 1 + t) (fun _ => none)) m (cp_fldM t) (some (m + 1 + t))) := by
  obtain ⟨h1, h2, h3, h4⟩ := h
  refine ⟨(h1.nw (by omega)).wr (Nat.le_refl _), by rw [cp_sN_n (by omega)]; exact h2, by rw [cp_row_n _ _ (by omega)]; exact h3, fun q hq => ?_⟩
  by_cases e : q = t
  · subst e
    rw [cp_sN_s, cp_row_s, cp_wr_s]
    exact ⟨rfl, rfl, rfl⟩
  · rw [cp_sN_n (by omega), cp_row_n _ _ (by omega), cp_wr_j _ _ _ _ (fun z => cp_fldM_ne t ht q (by omega) z.2), cp_rw_n (by omega)]
    exact h4 q (by omega)
/-- the first row of the model -/
def cp_a0 : Nat → Int32 := fun j => if j < 4 then cp_sv 0 j else 0
theorem cp_a0_e : upd (upd (upd (upd (fun _ => (0 : Int32)) 0 4) 1 10) 2 60) 3 5 = cp_a0 := by
  funext j
  unfold upd cp_a0
  by_cases h3 : j = 3
  · subst h3; rfl
  · by_cases h2 : j = 2
    · subst h2; rfl
    · by_cases h1 : j = 1
      · subst h1; rfl
      · by_cases h0 : j = 0
        · subst h0; rfl
        · rw [if_neg h3, if_neg h2, if_neg h1, if_neg h0, if_neg (by omega)]
set_option maxHeartbeats 4000000 in
set_option maxRecDepth 100000 in
theorem c_X7_init {lc : Launch} {E : cp_En} {cnt : Nat} {sh : cp_Shp} {I : cp_Mem} {R : cp_Rem} {m : Nat} (hb : m + 1 = cp_b0 E + cnt) (hs : sh m = (8, 0)) (h0 : I m = fun _ => 0) : cp_Ct lc E yX7_init cX7_init 1 none 1 7 4702 [.ref m] cnt sh I R (fun v c' s' i' r' => v = none ∧ c' = cnt + 7 ∧ cp_old m sh I R s' i' r' ∧ cp_ML s' r' m ∧ i' m = (fun _ => 0) ∧ i' (m + 1) = cp_a0 ∧ ∀ k, 2 ≤ k → k ≤ 7 → i' (m + k) = fun _ => 0) := by
  refine cp_Ct_of (L0 := [some (.ref m)]) (by decide +kernel) (Nat.le_of_ble_eq_true rfl) rfl (fun x hxl O hin0 _ hr => ?_)
  subst hxl
  have hin := hin0 rfl
  have J0 : cp_M7 m sh I R 0 sh I R := ⟨cp_old.rf, hs, rfl, fun q hq => absurd hq (Nat.not_lt_zero _)⟩
  refine cp_aload_n O dX7_init_0 cp_lg0 ?_
  refine cp_oinit O (by decide) ol_X7_1 (Nat.le_of_ble_eq_true rfl) dX7_init_1 ?_
  refine cp_aload_n O dX7_init_4 cp_lg0 ?_
  refine cp_sipush O dX7_init_5 (v := 420) rfl ?_
  have e0 : cp_b0 E + cnt = m + 1 + 0 := by omega
  refine cp_Gz (I' := cp_row I (m + 1 + 0) (fun _ => 0)) (R' := cp_rw R (m + 1 + 0) (fun _ => none)) (fun a ha => ⟨cp_row_n _ _ (by omega), cp_rw_n (by omega)⟩) ?_
  refine cp_newi O (n := 420) cp_ac_9 rfl (by omega) (by rw [e0, cp_row_s]) (by omega) dX7_init_8 ?_
  rw [e0]
  have J1 : cp_M7 m sh I R 1 (cp_sN sh (m + 1 + 0) (9, 420)) (cp_row I (m + 1 + 0) (fun _ => 0)) (cp_wr (cp_rw R (m + 1 + 0) (fun _ => none)) m 0 (some (m + 1 + 0))) := J0.st (by decide)
  refine pf_X7_7 O hin J1.2.1 dX7_init_10 ?_
  refine cp_aload_n O dX7_init_13 cp_lg0 ?_
  refine cp_sipush O dX7_init_14 (v := 420) rfl ?_
  have e1 : cp_b0 E + (cnt + 1) = m + 1 + 1 := by omega
  refine cp_Gz (I' := cp_row (cp_row I (m + 1 + 0) (fun _ => 0)) (m + 1 + 1) (fun _ => 0)) (R' := cp_rw (cp_wr (cp_rw R (m + 1 + 0) (fun _ => none)) m 0 (some (m + 1 + 0))) (m + 1 + 1) (fun _ => none)) (fun a ha => ⟨cp_row_n _ _ (by omega), cp_rw_n (by omega)⟩) ?_
  refine cp_newi O (n := 420) cp_ac_9 rfl (by omega) (by rw [e1, cp_row_s]) (by omega) dX7_init_17 ?_
  rw [e1]
  have J2 : cp_M7 m sh I R 2 (cp_sN (cp_sN sh (m + 1 + 0) (9, 420)) (m + 1 + 1) (9, 420)) (cp_row (cp_row I (m + 1 + 0) (fun _ => 0)) (m + 1 + 1) (fun _ => 0)) (cp_wr (cp_rw (cp_wr (cp_rw R (m + 1 + 0) (fun _ => none)) m 0 (some (m + 1 + 0))) (m + 1 + 1) (fun _ => none)) m 1 (some (m + 1 + 1))) := J1.st (by decide)
  refine pf_X7_13 O hin J2.2.1 dX7_init_19 ?_
  refine cp_aload_n O dX7_init_22 cp_lg0 ?_
  refine cp_sipush O dX7_init_23 (v := 420) rfl ?_
  have e2 : cp_b0 E + (cnt + 1 + 1) = m + 1 + 2 := by omega
  refine cp_Gz (I' := cp_row (cp_row (cp_row I (m + 1 + 0) (fun _ => 0)) (m + 1 + 1) (fun _ => 0)) (m + 1 + 2) (fun _ => 0)) (R' := cp_rw (cp_wr (cp_rw (cp_wr (cp_rw R (m + 1 + 0) (fun _ => none)) m 0 (some (m + 1 + 0))) (m + 1 + 1) (fun _ => none)) m 1 (some (m + 1 + 1))) (m + 1 + 2) (fun _ => none)) (fun a ha => ⟨cp_row_n _ _ (by omega), cp_rw_n (by omega)⟩) ?_
  refine cp_newi O (n := 420) cp_ac_9 rfl (by omega) (by rw [e2, cp_row_s]) (by omega) dX7_init_26 ?_
  rw [e2]
  have J3 : cp_M7 m sh I R 3 (cp_sN (cp_sN (cp_sN sh (m + 1 + 0) (9, 420)) (m + 1 + 1) (9, 420)) (m + 1 + 2) (9, 420)) (cp_row (cp_row (cp_row I (m + 1 + 0) (fun _ => 0)) (m + 1 + 1) (fun _ => 0)) (m + 1 + 2) (fun _ => 0)) (cp_wr (cp_rw (cp_wr (cp_rw (cp_wr (cp_rw R (m + 1 + 0) (fun _ => none)) m 0 (some (m + 1 + 0))) (m + 1 + 1) (fun _ => none)) m 1 (some (m + 1 + 1))) (m + 1 + 2) (fun _ => none)) m 2 (some (m + 1 + 2))) := J2.st (by decide)
  refine pf_X7_16 O hin J3.2.1 dX7_init_28 ?_
  refine cp_aload_n O dX7_init_31 cp_lg0 ?_
  refine cp_sipush O dX7_init_32 (v := 2520) rfl ?_
  have e3 : cp_b0 E + (cnt + 1 + 1 + 1) = m + 1 + 3 := by omega
  refine cp_Gz (I' := cp_row (cp_row (cp_row (cp_row I (m + 1 + 0) (fun _ => 0)) (m + 1 + 1) (fun _ => 0)) (m + 1 + 2) (fun _ => 0)) (m + 1 + 3) (fun _ => 0)) (R' := cp_rw (cp_wr (cp_rw (cp_wr (cp_rw (cp_wr (cp_rw R (m + 1 + 0) (fun _ => none)) m 0 (some (m + 1 + 0))) (m + 1 + 1) (fun _ => none)) m 1 (some (m + 1 + 1))) (m + 1 + 2) (fun _ => none)) m 2 (some (m + 1 + 2))) (m + 1 + 3) (fun _ => none)) (fun a ha => ⟨cp_row_n _ _ (by omega), cp_rw_n (by omega)⟩) ?_
  refine cp_newi O (n := 2520) cp_ac_9 rfl (by omega) (by rw [e3, cp_row_s]) (by omega) dX7_init_35 ?_
  rw [e3]
  have J4 : cp_M7 m sh I R 4 (cp_sN (cp_sN (cp_sN (cp_sN sh (m + 1 + 0) (9, 420)) (m + 1 + 1) (9, 420)) (m + 1 + 2) (9, 420)) (m + 1 + 3) (9, 2520)) (cp_row (cp_row (cp_row (cp_row I (m + 1 + 0) (fun _ => 0)) (m + 1 + 1) (fun _ => 0)) (m + 1 + 2) (fun _ => 0)) (m + 1 + 3) (fun _ => 0)) (cp_wr (cp_rw (cp_wr (cp_rw (cp_wr (cp_rw (cp_wr (cp_rw R (m + 1 + 0) (fun _ => none)) m 0 (some (m + 1 + 0))) (m + 1 + 1) (fun _ => none)) m 1 (some (m + 1 + 1))) (m + 1 + 2) (fun _ => none)) m 2 (some (m + 1 + 2))) (m + 1 + 3) (fun _ => none)) m 3 (some (m + 1 + 3))) := J3.st (by decide)
  refine pf_X7_19 O hin J4.2.1 dX7_init_37 ?_
  refine cp_aload_n O dX7_init_40 cp_lg0 ?_
  refine cp_sipush O dX7_init_41 (v := 840) rfl ?_
  have e4 : cp_b0 E + (cnt + 1 + 1 + 1 + 1) = m + 1 + 4 := by omega
  refine cp_Gz (I' := cp_row (cp_row (cp_row (cp_row (cp_row I (m + 1 + 0) (fun _ => 0)) (m + 1 + 1) (fun _ => 0)) (m + 1 + 2) (fun _ => 0)) (m + 1 + 3) (fun _ => 0)) (m + 1 + 4) (fun _ => 0)) (R' := cp_rw (cp_wr (cp_rw (cp_wr (cp_rw (cp_wr (cp_rw (cp_wr (cp_rw R (m + 1 + 0) (fun _ => none)) m 0 (some (m + 1 + 0))) (m + 1 + 1) (fun _ => none)) m 1 (some (m + 1 + 1))) (m + 1 + 2) (fun _ => none)) m 2 (some (m + 1 + 2))) (m + 1 + 3) (fun _ => none)) m 3 (some (m + 1 + 3))) (m + 1 + 4) (fun _ => none)) (fun a ha => ⟨cp_row_n _ _ (by omega), cp_rw_n (by omega)⟩) ?_
  refine cp_newi O (n := 840) cp_ac_9 rfl (by omega) (by rw [e4, cp_row_s]) (by omega) dX7_init_44 ?_
  rw [e4]
  have J5 : cp_M7 m sh I R 5 (cp_sN (cp_sN (cp_sN (cp_sN (cp_sN sh (m + 1 + 0) (9, 420)) (m + 1 + 1) (9, 420)) (m + 1 + 2) (9, 420)) (m + 1 + 3) (9, 2520)) (m + 1 + 4) (9, 840)) (cp_row (cp_row (cp_row (cp_row (cp_row I (m + 1 + 0) (fun _ => 0)) (m + 1 + 1) (fun _ => 0)) (m + 1 + 2) (fun _ => 0)) (m + 1 + 3) (fun _ => 0)) (m + 1 + 4) (fun _ => 0)) (cp_wr (cp_rw (cp_wr (cp_rw (cp_wr (cp_rw (cp_wr (cp_rw (cp_wr (cp_rw R (m + 1 + 0) (fun _ => none)) m 0 (some (m + 1 + 0))) (m + 1 + 1) (fun _ => none)) m 1 (some (m + 1 + 1))) (m + 1 + 2) (fun _ => none)) m 2 (some (m + 1 + 2))) (m + 1 + 3) (fun _ => none)) m 3 (some (m + 1 + 3))) (m + 1 + 4) (fun _ => none)) m 5 (some (m + 1 + 4))) := J4.st (by decide)
  refine pf_X7_22 O hin J5.2.1 dX7_init_46 ?_
  refine cp_aload_n O dX7_init_49 cp_lg0 ?_
  refine cp_iconst O dX7_init_50 (v := 2) rfl ?_
  have e5 : cp_b0 E + (cnt + 1 + 1 + 1 + 1 + 1) = m + 1 + 5 := by omega
  refine cp_Gz (I' := cp_row (cp_row (cp_row (cp_row (cp_row (cp_row I (m + 1 + 0) (fun _ => 0)) (m + 1 + 1) (fun _ => 0)) (m + 1 + 2) (fun _ => 0)) (m + 1 + 3) (fun _ => 0)) (m + 1 + 4) (fun _ => 0)) (m + 1 + 5) (fun _ => 0)) (R' := cp_rw (cp_wr (cp_rw (cp_wr (cp_rw (cp_wr (cp_rw (cp_wr (cp_rw (cp_wr (cp_rw R (m + 1 + 0) (fun _ => none)) m 0 (some (m + 1 + 0))) (m + 1 + 1) (fun _ => none)) m 1 (some (m + 1 + 1))) (m + 1 + 2) (fun _ => none)) m 2 (some (m + 1 + 2))) (m + 1 + 3) (fun _ => none)) m 3 (some (m + 1 + 3))) (m + 1 + 4) (fun _ => none)) m 5 (some (m + 1 + 4))) (m + 1 + 5) (fun _ => none)) (fun a ha => ⟨cp_row_n _ _ (by omega), cp_rw_n (by omega)⟩) ?_
  refine cp_newi O (n := 2) cp_ac_9 rfl (by omega) (by rw [e5, cp_row_s]) (by omega) dX7_init_51 ?_
  rw [e5]
  have J6 : cp_M7 m sh I R 6 (cp_sN (cp_sN (cp_sN (cp_sN (cp_sN (cp_sN sh (m + 1 + 0) (9, 420)) (m + 1 + 1) (9, 420)) (m + 1 + 2) (9, 420)) (m + 1 + 3) (9, 2520)) (m + 1 + 4) (9, 840)) (m + 1 + 5) (9, 2)) (cp_row (cp_row (cp_row (cp_row (cp_row (cp_row I (m + 1 + 0) (fun _ => 0)) (m + 1 + 1) (fun _ => 0)) (m + 1 + 2) (fun _ => 0)) (m + 1 + 3) (fun _ => 0)) (m + 1 + 4) (fun _ => 0)) (m + 1 + 5) (fun _ => 0)) (cp_wr (cp_rw (cp_wr (cp_rw (cp_wr (cp_rw (cp_wr (cp_rw (cp_wr (cp_rw (cp_wr (cp_rw R (m + 1 + 0) (fun _ => none)) m 0 (some (m + 1 + 0))) (m + 1 + 1) (fun _ => none)) m 1 (some (m + 1 + 1))) (m + 1 + 2) (fun _ => none)) m 2 (some (m + 1 + 2))) (m + 1 + 3) (fun _ => none)) m 3 (some (m + 1 + 3))) (m + 1 + 4) (fun _ => none)) m 5 (some (m + 1 + 4))) (m + 1 + 5) (fun _ => none)) m 6 (some (m + 1 + 5))) := J5.st (by decide)
  refine pf_X7_25 O hin J6.2.1 dX7_init_53 ?_
  refine cp_aload_n O dX7_init_56 cp_lg0 ?_
  refine cp_bipush O dX7_init_57 (v := 80) rfl ?_
  have e6 : cp_b0 E + (cnt + 1 + 1 + 1 + 1 + 1 + 1) = m + 1 + 6 := by omega
  refine cp_Gz (I' := cp_row (cp_row (cp_row (cp_row (cp_row (cp_row (cp_row I (m + 1 + 0) (fun _ => 0)) (m + 1 + 1) (fun _ => 0)) (m + 1 + 2) (fun _ => 0)) (m + 1 + 3) (fun _ => 0)) (m + 1 + 4) (fun _ => 0)) (m + 1 + 5) (fun _ => 0)) (m + 1 + 6) (fun _ => 0)) (R' := cp_rw (cp_wr (cp_rw (cp_wr (cp_rw (cp_wr (cp_rw (cp_wr (cp_rw (cp_wr (cp_rw (cp_wr (cp_rw R (m + 1 + 0) (fun _ => none)) m 0 (some (m + 1 + 0))) (m + 1 + 1) (fun _ => none)) m 1 (some (m + 1 + 1))) (m + 1 + 2) (fun _ => none)) m 2 (some (m + 1 + 2))) (m + 1 + 3) (fun _ => none)) m 3 (some (m + 1 + 3))) (m + 1 + 4) (fun _ => none)) m 5 (some (m + 1 + 4))) (m + 1 + 5) (fun _ => none)) m 6 (some (m + 1 + 5))) (m + 1 + 6) (fun _ => none)) (fun a ha => ⟨cp_row_n _ _ (by omega), cp_rw_n (by omega)⟩) ?_
  refine cp_newi O (n := 80) cp_ac_9 rfl (by omega) (by rw [e6, cp_row_s]) (by omega) dX7_init_59 ?_
  rw [e6]
  have J7 : cp_M7 m sh I R 7 (cp_sN (cp_sN (cp_sN (cp_sN (cp_sN (cp_sN (cp_sN sh (m + 1 + 0) (9, 420)) (m + 1 + 1) (9, 420)) (m + 1 + 2) (9, 420)) (m + 1 + 3) (9, 2520)) (m + 1 + 4) (9, 840)) (m + 1 + 5) (9, 2)) (m + 1 + 6) (9, 80)) (cp_row (cp_row (cp_row (cp_row (cp_row (cp_row (cp_row I (m + 1 + 0) (fun _ => 0)) (m + 1 + 1) (fun _ => 0)) (m + 1 + 2) (fun _ => 0)) (m + 1 + 3) (fun _ => 0)) (m + 1 + 4) (fun _ => 0)) (m + 1 + 5) (fun _ => 0)) (m + 1 + 6) (fun _ => 0)) (cp_wr (cp_rw (cp_wr (cp_rw (cp_wr (cp_rw (cp_wr (cp_rw (cp_wr (cp_rw (cp_wr (cp_rw (cp_wr (cp_rw R (m + 1 + 0) (fun _ => none)) m 0 (some (m + 1 + 0))) (m + 1 + 1) (fun _ => none)) m 1 (some (m + 1 + 1))) (m + 1 + 2) (fun _ => none)) m 2 (some (m + 1 + 2))) (m + 1 + 3) (fun _ => none)) m 3 (some (m + 1 + 3))) (m + 1 + 4) (fun _ => none)) m 5 (some (m + 1 + 4))) (m + 1 + 5) (fun _ => none)) m 6 (some (m + 1 + 5))) (m + 1 + 6) (fun _ => none)) m 9 (some (m + 1 + 6))) := J6.st (by decide)
  refine pf_X7_28 O hin J7.2.1 dX7_init_61 ?_
  generalize (cp_sN (cp_sN (cp_sN (cp_sN (cp_sN (cp_sN (cp_sN sh (m + 1 + 0) (9, 420)) (m + 1 + 1) (9, 420)) (m + 1 + 2) (9, 420)) (m + 1 + 3) (9, 2520)) (m + 1 + 4) (9, 840)) (m + 1 + 5) (9, 2)) (m + 1 + 6) (9, 80)) = sF at J7 ⊢
  generalize (cp_row (cp_row (cp_row (cp_row (cp_row (cp_row (cp_row I (m + 1 + 0) (fun _ => 0)) (m + 1 + 1) (fun _ => 0)) (m + 1 + 2) (fun _ => 0)) (m + 1 + 3) (fun _ => 0)) (m + 1 + 4) (fun _ => 0)) (m + 1 + 5) (fun _ => 0)) (m + 1 + 6) (fun _ => 0)) = iF at J7 ⊢
  generalize (cp_wr (cp_rw (cp_wr (cp_rw (cp_wr (cp_rw (cp_wr (cp_rw (cp_wr (cp_rw (cp_wr (cp_rw (cp_wr (cp_rw R (m + 1 + 0) (fun _ => none)) m 0 (some (m + 1 + 0))) (m + 1 + 1) (fun _ => none)) m 1 (some (m + 1 + 1))) (m + 1 + 2) (fun _ => none)) m 2 (some (m + 1 + 2))) (m + 1 + 3) (fun _ => none)) m 3 (some (m + 1 + 3))) (m + 1 + 4) (fun _ => none)) m 5 (some (m + 1 + 4))) (m + 1 + 5) (fun _ => none)) m 6 (some (m + 1 + 5))) (m + 1 + 6) (fun _ => none)) m 9 (some (m + 1 + 6))) = rF at J7 ⊢
  obtain ⟨jo, js, ji, jq⟩ := J7
  refine cp_aload_n O dX7_init_64 cp_lg0 ?_
  refine fg_X7_7 O js (jq 0 (by decide)).2.2 dX7_init_65 ?_
  refine cp_iconst O dX7_init_68 (v := 0) rfl ?_
  refine cp_iconst O dX7_init_69 (v := 4) rfl ?_
  refine cp_iast O (n := 420) (j := 0) (jq 0 (by decide)).1 rfl (by decide) (by decide) dX7_init_70 ?_
  refine cp_aload_n O dX7_init_71 cp_lg0 ?_
  refine fg_X7_7 O js (jq 0 (by decide)).2.2 dX7_init_72 ?_
  refine cp_iconst O dX7_init_75 (v := 1) rfl ?_
  refine cp_bipush O dX7_init_76 (v := 10) rfl ?_
  refine cp_iast O (n := 420) (j := 1) (jq 0 (by decide)).1 rfl (by decide) (by decide) dX7_init_78 ?_
  refine cp_aload_n O dX7_init_79 cp_lg0 ?_
  refine fg_X7_7 O js (jq 0 (by decide)).2.2 dX7_init_80 ?_
  refine cp_iconst O dX7_init_83 (v := 2) rfl ?_
  refine cp_bipush O dX7_init_84 (v := 60) rfl ?_
  refine cp_iast O (n := 420) (j := 2) (jq 0 (by decide)).1 rfl (by decide) (by decide) dX7_init_86 ?_
  refine cp_aload_n O dX7_init_87 cp_lg0 ?_
  refine fg_X7_7 O js (jq 0 (by decide)).2.2 dX7_init_88 ?_
  refine cp_iconst O dX7_init_91 (v := 3) rfl ?_
  refine cp_iconst O dX7_init_92 (v := 5) rfl ?_
  refine cp_iast O (n := 420) (j := 3) (jq 0 (by decide)).1 rfl (by decide) (by decide) dX7_init_93 ?_
  refine cp_Gc (by omega) (by omega) (hr _ _ _ _ _ _ rfl dX7_init_94 ⟨rfl, rfl, (((jo.wi (by omega)).wi (by omega)).wi (by omega)).wi (by omega), ?_, ?_, ?_, fun k h2 h7 => ?_⟩)
  · exact ⟨js, (jq 0 (by decide)).2.2, (jq 1 (by decide)).2.2, (jq 2 (by decide)).2.2, (jq 3 (by decide)).2.2, (jq 4 (by decide)).2.2, (jq 5 (by decide)).2.2, (jq 6 (by decide)).2.2, (jq 0 (by decide)).1, (jq 1 (by decide)).1, (jq 2 (by decide)).1, (jq 3 (by decide)).1, (jq 4 (by decide)).1, (jq 5 (by decide)).1, (jq 6 (by decide)).1⟩
  · rw [cp_wi_a _ _ _ _ (by omega), cp_wi_a _ _ _ _ (by omega), cp_wi_a _ _ _ _ (by omega), cp_wi_a _ _ _ _ (by omega), ji]
    exact h0
  · have e : m + 1 + 0 = m + 1 := rfl
    rw [e, cp_wi_row, cp_wi_row, cp_wi_row, cp_wi_row, cp_row_row, cp_row_row, cp_row_row, cp_row_s, cp_row_s, cp_row_s, cp_row_s, (jq 0 (by decide)).2.1]
    exact cp_a0_e
  · rw [cp_wi_a _ _ _ _ (by omega), cp_wi_a _ _ _ _ (by omega), cp_wi_a _ _ _ _ (by omega), cp_wi_a _ _ _ _ (by omega)]
    have h := (jq (k - 1) (by omega)).2.1
    rw [show m + 1 + (k - 1) = m + k by omega] at h
    exact h
theorem cp_PL_e {c : Nat} {sh s1 : cp_Shp} {R r1 : cp_Rem} (h : cp_PL sh R c) (e : ∀ x, c ≤ x → x < c + 331 → s1 x = sh x ∧ (x ≠ c + 327 → r1 x = R x)) : cp_PL s1 r1 c := by
  have es : ∀ x, c ≤ x → x < c + 331 → s1 x = sh x := fun x a b => (e x a b).1
  have er : ∀ x, c ≤ x → x < c + 331 → x ≠ c + 327 → r1 x = R x := fun x a b d => (e x a b).2 d
  have hD : cp_DL s1 r1 (c + 328) := ⟨by rw [es _ (by omega) (by omega)]; exact h.pad.s, by rw [er _ (by omega) (by omega) (by omega)]; exact h.pad.chs, by rw [es _ (by omega) (by omega)]; exact h.pad.schs⟩
  exact ⟨by rw [es _ (by omega) (by omega)]; exact h.s, by rw [er _ (by omega) (by omega) (by omega)]; exact h.f0, by rw [er _ (by omega) (by omega) (by omega)]; exact h.f1, by rw [er _ (by omega) (by omega) (by omega)]; exact h.f2, by rw [er _ (by omega) (by omega) (by omega)]; exact h.f3, by rw [er _ (by omega) (by omega) (by omega)]; exact h.f4, by rw [er _ (by omega) (by omega) (by omega)]; exact h.f5,
    cp_NL_e h.night (fun x a b => ⟨es _ (by omega) (by omega), er _ (by omega) (by omega) (by omega)⟩), cp_NL_e h.ahead (fun x a b => ⟨es _ (by omega) (by omega), er _ (by omega) (by omega) (by omega)⟩),
    ⟨by rw [es _ (by omega) (by omega)]; exact h.hist.s, by rw [er _ (by omega) (by omega) (by omega)]; exact h.hist.sts, by rw [es _ (by omega) (by omega)]; exact h.hist.ssts, fun i hi => by rw [er _ (by omega) (by omega) (by omega)]; exact h.hist.st hi, fun i hi => cp_NL_e (h.hist.nt hi) (fun x a b => ⟨es _ (by omega) (by omega), er _ (by omega) (by omega) (by omega)⟩)⟩,
    by rw [es _ (by omega) (by omega)]; exact h.s3, hD, ⟨by rw [es _ (by omega) (by omega)]; exact h.rdr.s, by rw [er _ (by omega) (by omega) (by omega)]; exact h.rdr.f0, hD⟩⟩
/-- slots end ahead of what comes -/
def cp_SB (E : cp_En) (cnt : Nat) (R : cp_Rem) (c : Nat) : Prop := ∀ s a, s < 2 → R (c + 327) s = some a → a + 36 ≤ cp_b0 E + cnt
theorem cp_sSv_o {X : cp_St} {v : Int32} (h : cp_rg 0 1 v = false) : cp_sSave X v = (-2, X) := by
  unfold cp_sSave
  rw [if_neg (cp_bF h)]
theorem cp_sSv_s {X : cp_St} {s : Nat} (h : s < 2) : cp_sSave X (nI s) = (nI (cp_tn (cp_xN X)), (cp_xN X, cp_xL X, cp_xH X, (fun q => if q = s then some (cp_xN X) else cp_xZ X q), cp_xT X, cp_xn X)) := by
  unfold cp_sSave
  rw [if_pos (cp_rg_s h), cp_nIt (by omega)]
/-- a state is saved: memory -/
theorem cp_XR_save {sh : cp_Shp} {R r1 : cp_Rem} {I I' : cp_Mem} {c s a : Nat} {X : cp_St} (Sl : cp_SL sh R c) (hV : cp_XV X) (hX : cp_XR I R c X) (hs : s < 2) (h1 : r1 (c + 327) s = some a) (h2 : ∀ q, q ≠ s → r1 (c + 327) q = R (c + 327) q) (hH : cp_HN I' a (cp_xN X)) (e : ∀ x, c ≤ x → x < c + 339 → I' x = I x) (e2 : ∀ q b, q < 2 → q ≠ s → R (c + 327) q = some b → ∀ x, b ≤ x → x < b + 36 → I' x = I x) :
    cp_XR I' r1 c (cp_xN X, cp_xL X, cp_xH X, (fun q => if q = s then some (cp_xN X) else cp_xZ X q), cp_xT X, cp_xn X) := by
  obtain ⟨hN, ⟨nx, hx7, hnx, hL0, hHs⟩, hZ, hT, hTt⟩ := hX
  refine ⟨cp_HN_e hN hV.1 (fun x a b => e x (by omega) (by omega)), ⟨nx, hx7, ?_, ?_, fun i hi => ?_⟩, fun q hq => ?_, ?_, fun i hi => ?_⟩
  · rw [e _ (by omega) (by omega)]; exact hnx
  · rw [e _ (by omega) (by omega)]; exact hL0
  · have p := (cp_ps_ne hx7 hV.2.1 hi).2
    show cp_HN I' (c + 73 + 2 + 36 * cp_ps nx (cp_xL X) i) (cp_xH X i)
    exact cp_HN_e (hHs i hi) (hV.2.2.1 i hi) (fun x h1 h2 => e x (by omega) (by omega))
  · show cp_XZ I' r1 c q (if q = s then some (cp_xN X) else cp_xZ X q)
    by_cases g : q = s
    · rw [if_pos g, g]
      exact ⟨a, h1, hH⟩
    · rw [if_neg g]
      have h := hZ q hq
      cases hz : cp_xZ X q with
      | none =>
        rw [hz] at h
        exact (congrFun (rfl : (r1 (c + 327)) = _) q).trans ((h2 q g).trans h)
      | some Z =>
        rw [hz] at h
        obtain ⟨b, k1, k2⟩ := h
        exact ⟨b, (h2 q g).trans k1, cp_HN_e k2 (hV.2.2.2.1 q Z hq hz) (e2 q b hq g k1)⟩
  · rw [e _ (by omega) (by omega)]; exact hT
  · show I' (c + 329) i = _
    rw [e _ (by omega) (by omega)]; exact hTt i hi
set_option maxHeartbeats 4000000 in
set_option maxRecDepth 100000 in
theorem c_X6_save_o {lc : Launch} {E : cp_En} {cnt : Nat} {sh : cp_Shp} {I : cp_Mem} {R : cp_Rem} {c : Nat} (Pl : cp_PL sh R c) (Sl : cp_SL sh R c) (Sb : cp_SB E cnt R c) {X : cp_St} (hV : cp_XV X) (hX : cp_XR I R c X) {v1 : Int32} (hv : cp_rg 0 1 v1 = false) : cp_Ct lc E yX6_save cX6_save 3 (some .int) 8 36 306 [.ref c, .int v1] cnt sh I R (fun v' c' s' i' r' => v' = some (.int (cp_sSave X v1).1) ∧ cp_XR i' r' c (cp_sSave X v1).2 ∧ cp_PL s' r' c ∧ cp_SL s' r' c ∧ cp_SB E c' r' c ∧ cnt ≤ c' ∧ ∀ x, c + 331 ≤ x → x < c + 339 → s' x = sh x ∧ i' x = I x ∧ r' x = R x) := by
  refine cp_Ct_of (L0 := [some (.ref c), some (.int v1), none]) (by decide +kernel) (Nat.le_of_ble_eq_true rfl) rfl (fun x hxl O _ hr _ => ?_)
  subst hxl
  have ret : ∀ pc L, decode cX6_save pc = .ok (.ireturn, 1) → cp_G x E 3 0 0 cnt sh I R pc L [.int (-2)] := fun pc L hd => cp_Gc (Nat.zero_le _) (Nat.zero_le _) (hr .int (-2) _ _ _ _ _ _ rfl rfl hd (by
    rw [cp_sSv_o hv]
    exact ⟨rfl, hX, Pl, Sl, Sb, Nat.le_refl _, fun _ _ _ => ⟨rfl, rfl, rfl⟩⟩))
  refine cp_iload_n O dX6_save_0 cp_lg1 ?_
  refine cp_if_lt (tgt := 9) O dX6_save_1 (by decide) (fun c_1 => ?_) (fun c_1 => ?_)
  · refine cp_bipush O dX6_save_9 (v := (-2)) rfl ?_
    exact ret _ _ dX6_save_11
  · refine cp_iload_n O dX6_save_4 cp_lg1 ?_
    refine cp_iconst O dX6_save_5 (v := 2) rfl ?_
    refine cp_icmp_lt (tgt := 12) O dX6_save_6 (by decide) (fun c_6 => ?_) (fun c_6 => ?_)
    · exact absurd hv (by rw [cp_rgY (l := 0) (h := 1) (L := 0) (U := 1) rfl rfl c_1 (by rw [Int32.lt_iff_toInt_lt] at c_6 ⊢; rw [show (2 : Int32).toInt = 2 from rfl] at c_6; rw [show (1 : Int32).toInt = 1 from rfl]; omega)]; decide)
    · refine cp_bipush O dX6_save_9 (v := (-2)) rfl ?_
      exact ret _ _ dX6_save_11
set_option maxHeartbeats 4000000 in
set_option maxRecDepth 100000 in
theorem c_X6_save_s {lc : Launch} {E : cp_En} {cnt : Nat} {sh : cp_Shp} {I : cp_Mem} {R : cp_Rem} {c : Nat} (Pl : cp_PL sh R c) (Sl : cp_SL sh R c) (Sb : cp_SB E cnt R c) {X : cp_St} (hV : cp_XV X) (hX : cp_XR I R c X) {s a : Nat} (hs : s < 2) (hrs : R (c + 327) s = some a) : cp_Ct lc E yX6_save cX6_save 3 (some .int) 8 36 306 [.ref c, .int (nI s)] cnt sh I R (fun v' c' s' i' r' => v' = some (.int (cp_sSave X (nI s)).1) ∧ cp_XR i' r' c (cp_sSave X (nI s)).2 ∧ cp_PL s' r' c ∧ cp_SL s' r' c ∧ cp_SB E c' r' c ∧ cnt ≤ c' ∧ ∀ x, c + 331 ≤ x → x < c + 339 → s' x = sh x ∧ i' x = I x ∧ r' x = R x) := by
  refine cp_Ct_of (L0 := [some (.ref c), some (.int (nI s)), none]) (by decide +kernel) (Nat.le_of_ble_eq_true rfl) rfl (fun x hxl O _ hr _ => ?_)
  subst hxl
  refine cp_iload_n O dX6_save_0 cp_lg1 ?_
  refine cp_if_lt (tgt := 9) O dX6_save_1 (by decide) (fun c_1 => absurd c_1 (cp_nn0 (by omega))) (fun c_1 => ?_)
  refine cp_iload_n O dX6_save_4 cp_lg1 ?_
  refine cp_iconst O dX6_save_5 (v := 2) rfl ?_
  refine cp_icmp_ltN (tgt := 12) O dX6_save_6 (by decide) (a := s) (b := 2) rfl rfl (by omega) (by omega) (fun c_6 => ?_) (fun c_6 => absurd hs (by omega))
  refine cp_aload_n O dX6_save_12 cp_lg0 ?_
  refine fg_X6_26 O Pl.s Pl.f3 dX6_save_13 ?_
  refine cp_iload_n O dX6_save_16 cp_lg1 ?_
  refine cp_aald O (Or.inl ⟨rfl, rfl⟩) Pl.s3 (j := s) rfl hs (by decide) dX6_save_17 ?_
  rw [hrs]
  obtain ⟨hal, hNa⟩ := Sl.1 s a hs hrs
  refine cp_astore_n O dX6_save_18 (by decide) (cp_ls2 rfl) ?_
  refine cp_aload_n O dX6_save_19 cp_lg2 ?_
  refine cp_ifnonnull (tgt := 38) O dX6_save_20 (by decide) ?_
  refine cp_aload_n O dX6_save_38 cp_lg2 ?_
  refine cp_aload_n O dX6_save_39 cp_lg0 ?_
  refine fg_X6_10 O Pl.s Pl.f0 dX6_save_40 ?_
  refine cp_cVvr O me_X1_copyFrom mi_X1_copyFrom ml_X6_105 cp_cX1 hNa.s (h_X1_copyFrom hNa Pl.night (by unfold cp_far; omega) hV.1 hX.1) dX6_save_43 rfl rfl ⟨Nat.le_of_ble_eq_true rfl, Nat.le_of_ble_eq_true rfl⟩ ⟨Nat.zero_le _, Nat.zero_le _⟩ (Nat.le_of_ble_eq_true rfl) (fun I' hT => ?_)
  obtain ⟨hH, hO⟩ := hT
  refine cp_aload_n O dX6_save_46 cp_lg0 ?_
  refine fg_X6_10 O Pl.s Pl.f0 dX6_save_47 ?_
  refine fg_X6_182 O Pl.night.s dX6_save_50 ?_
  rw [hO _ (by omega), hX.1.2.1]
  refine cp_Gc (Nat.zero_le _) (Nat.zero_le _) (hr .int _ _ _ _ _ _ _ rfl rfl dX6_save_53 ?_)
  rw [cp_sSv_s hs]
  refine ⟨rfl, cp_XR_save Sl hV hX hs hrs (fun _ _ => rfl) hH (fun x h1 h2 => hO x (by omega)) (fun q b hq hne hqb x h1 h2 => ?_), Pl, Sl, Sb, Nat.le_refl _, fun x h1 h2 => ⟨rfl, hO x (by omega), rfl⟩⟩
  have hf : cp_far a b := by
    rcases (by omega : (s = 0 ∧ q = 1) ∨ (s = 1 ∧ q = 0)) with ⟨e1, e2⟩ | ⟨e1, e2⟩
    · subst e1 e2; exact Sl.2 a b hrs hqb
    · subst e1 e2
      have g := Sl.2 b a hqb hrs
      unfold cp_far at g ⊢
      omega
  unfold cp_far at hf
  exact hO x (by omega)
set_option maxHeartbeats 4000000 in
set_option maxRecDepth 100000 in
theorem c_X6_save_n {lc : Launch} {E : cp_En} {cnt : Nat} {sh : cp_Shp} {I : cp_Mem} {R : cp_Rem} {c : Nat} (Pl : cp_PL sh R c) (Sl : cp_SL sh R c) (Sb : cp_SB E cnt R c) {X : cp_St} (hV : cp_XV X) (hX : cp_XR I R c X) (hc : c + 339 ≤ cp_b0 E + cnt) {s : Nat} (hs : s < 2) (hrs : R (c + 327) s = none) : cp_Ct lc E yX6_save cX6_save 3 (some .int) 8 36 306 [.ref c, .int (nI s)] cnt sh I R (fun v' c' s' i' r' => v' = some (.int (cp_sSave X (nI s)).1) ∧ cp_XR i' r' c (cp_sSave X (nI s)).2 ∧ cp_PL s' r' c ∧ cp_SL s' r' c ∧ cp_SB E c' r' c ∧ cnt ≤ c' ∧ ∀ x, c + 331 ≤ x → x < c + 339 → s' x = sh x ∧ i' x = I x ∧ r' x = R x) := by
  refine cp_Ct_of (L0 := [some (.ref c), some (.int (nI s)), none]) (by decide +kernel) (Nat.le_of_ble_eq_true rfl) rfl (fun x hxl O _ hr _ => ?_)
  subst hxl
  refine cp_iload_n O dX6_save_0 cp_lg1 ?_
  refine cp_if_lt (tgt := 9) O dX6_save_1 (by decide) (fun c_1 => absurd c_1 (cp_nn0 (by omega))) (fun c_1 => ?_)
  refine cp_iload_n O dX6_save_4 cp_lg1 ?_
  refine cp_iconst O dX6_save_5 (v := 2) rfl ?_
  refine cp_icmp_ltN (tgt := 12) O dX6_save_6 (by decide) (a := s) (b := 2) rfl rfl (by omega) (by omega) (fun c_6 => ?_) (fun c_6 => absurd hs (by omega))
  refine cp_aload_n O dX6_save_12 cp_lg0 ?_
  refine fg_X6_26 O Pl.s Pl.f3 dX6_save_13 ?_
  refine cp_iload_n O dX6_save_16 cp_lg1 ?_
  refine cp_aald O (Or.inl ⟨rfl, rfl⟩) Pl.s3 (j := s) rfl hs (by decide) dX6_save_17 ?_
  rw [hrs]
  refine cp_astore_nN O dX6_save_18 (by decide) (cp_ls2 rfl) ?_
  refine cp_aload_nN O dX6_save_19 cp_lg2 ?_
  refine cp_ifnonnullN O dX6_save_20 ?_
  obtain ⟨a, ea⟩ : ∃ a, a = cp_b0 E + cnt := ⟨_, rfl⟩
  refine cp_Gz (I' := cp_row I a (fun _ => 0)) (R' := cp_rw R a (fun _ => none)) (fun q hq => ⟨cp_row_n _ _ (by omega), cp_rw_n (by omega)⟩) ?_
  refine cp_new O cp_cX1 cn_X6_7 ci_X1 cj_X1 cd_X1 (by rw [← ea, cp_row_s]) (by rw [← ea, cp_rw_s]) (by omega) dX6_save_23 ?_
  rw [← ea]
  refine cp_dup O dX6_save_26 rfl ?_
  refine cp_callI O me_X1_init rfl in_X1_init ml_X6_9 (c_X1_init (b := a) (by omega) cp_sN_s) dX6_save_27 rfl rfl ⟨by decide, by decide⟩ (by omega) (Nat.le_of_ble_eq_true rfl) (fun v c' s1 i1 r1 hp => ?_)
  obtain ⟨rfl, rfl, ho, hNa, hHa⟩ := hp
  have oA : cp_old a sh I R s1 i1 r1 := cp_old.tr (cp_old.nw cp_old.rf (Nat.le_refl _)) ho (Nat.le_refl _)
  refine cp_astore_n O dX6_save_30 (by decide) (cp_ls2 rfl) ?_
  refine cp_aload_n O dX6_save_31 cp_lg0 ?_
  refine fg_X6_26 O ((oA c (by omega)).1.trans Pl.s) (by rw [(oA c (by omega)).2.2]; exact Pl.f3) dX6_save_32 ?_
  refine cp_iload_n O dX6_save_35 cp_lg1 ?_
  refine cp_aload_n O dX6_save_36 cp_lg2 ?_
  refine cp_aast O (q := 11) (n := 2) (j := s) (Or.inl ⟨rfl, rfl⟩) cp_cX1 ((oA (c + 327) (by omega)).1.trans Pl.s3) hNa.s rfl hs (by decide) dX6_save_37 ?_
  have Pl2 : cp_PL s1 (cp_wr r1 (c + 327) s (some a)) c := cp_PL_e Pl (fun x h1 h2 => ⟨(oA x (by omega)).1, fun h3 => by rw [cp_wr_a _ _ _ _ h3]; exact (oA x (by omega)).2.2⟩)
  have hNa2 : cp_NL s1 (cp_wr r1 (c + 327) s (some a)) a := cp_NL_e hNa (fun x h1 h2 => ⟨rfl, cp_wr_a _ _ _ _ (by omega)⟩)
  have hN2 : cp_HN i1 (c + 1) (cp_xN X) := cp_HN_e hX.1 hV.1 (fun x h1 h2 => (oA x (by omega)).2.1)
  refine cp_aload_n O dX6_save_38 cp_lg2 ?_
  refine cp_aload_n O dX6_save_39 cp_lg0 ?_
  refine fg_X6_10 O Pl2.s Pl2.f0 dX6_save_40 ?_
  refine cp_cVvr O me_X1_copyFrom mi_X1_copyFrom ml_X6_105 cp_cX1 hNa2.s (h_X1_copyFrom hNa2 Pl2.night (by unfold cp_far; omega) hV.1 hN2) dX6_save_43 rfl rfl ⟨Nat.le_of_ble_eq_true rfl, Nat.le_of_ble_eq_true rfl⟩ ⟨by omega, by omega⟩ (Nat.le_of_ble_eq_true rfl) (fun I' hT => ?_)
  obtain ⟨hH, hO⟩ := hT
  refine cp_aload_n O dX6_save_46 cp_lg0 ?_
  refine fg_X6_10 O Pl2.s Pl2.f0 dX6_save_47 ?_
  refine fg_X6_182 O Pl2.night.s dX6_save_50 ?_
  rw [hO _ (by omega), hN2.2.1]
  refine cp_Gc (by omega) (by omega) (hr .int _ _ _ _ _ _ _ rfl rfl dX6_save_53 ?_)
  rw [cp_sSv_s hs]
  have hoth : ∀ q, q ≠ s → cp_wr r1 (c + 327) s (some a) (c + 327) q = R (c + 327) q := fun q hq => by
    rw [cp_wr_j _ _ _ _ (fun z => hq z.2), (oA (c + 327) (by omega)).2.2]
  have eI : ∀ x, x < a → I' x = I x := fun x hx => (hO x (by omega)).trans (oA x hx).2.1
  refine ⟨rfl, cp_XR_save Sl hV hX hs (cp_wr_s _ _ _ _) hoth hH (fun x h1 h2 => eI x (by omega)) (fun q b hq hne hqb x h1 h2 => eI x (by have := Sb q b hq hqb; omega)), Pl2, ⟨fun q b hq hqb => ?_, fun a0 a1 h0 h1 => ?_⟩, fun q b hq hqb => ?_, by omega, fun x h1 h2 => ⟨(oA x (by omega)).1, eI x (by omega), by rw [cp_wr_a _ _ _ _ (by omega)]; exact (oA x (by omega)).2.2⟩⟩
  · by_cases g : q = s
    · subst g
      rw [cp_wr_s] at hqb
      obtain rfl := Option.some.inj hqb
      exact ⟨by omega, hNa2⟩
    · rw [hoth q g] at hqb
      obtain ⟨k1, k2⟩ := Sl.1 q b hq hqb
      have k3 := Sb q b hq hqb
      exact ⟨k1, cp_NL_e k2 (fun x h1 h2 => ⟨(oA x (by omega)).1, by rw [cp_wr_a _ _ _ _ (by omega)]; exact (oA x (by omega)).2.2⟩)⟩
  · rcases (by omega : s = 0 ∨ s = 1) with e | e
    · subst e
      rw [cp_wr_s] at h0
      obtain rfl := Option.some.inj h0
      rw [hoth 1 (by decide)] at h1
      have := Sb 1 a1 (by decide) h1
      unfold cp_far
      omega
    · subst e
      rw [cp_wr_s] at h1
      obtain rfl := Option.some.inj h1
      rw [hoth 0 (by decide)] at h0
      have := Sb 0 a0 (by decide) h0
      unfold cp_far
      omega
  · by_cases g : q = s
    · subst g
      rw [cp_wr_s] at hqb
      obtain rfl := Option.some.inj hqb
      omega
    · rw [hoth q g] at hqb
      have := Sb q b hq hqb
      omega
theorem c_X6_save {lc : Launch} {E : cp_En} {cnt : Nat} {sh : cp_Shp} {I : cp_Mem} {R : cp_Rem} {c : Nat} (Pl : cp_PL sh R c) (Sl : cp_SL sh R c) (Sb : cp_SB E cnt R c) {X : cp_St} (hV : cp_XV X) (hX : cp_XR I R c X) (hc : c + 339 ≤ cp_b0 E + cnt) {v1 : Int32} : cp_Ct lc E yX6_save cX6_save 3 (some .int) 8 36 306 [.ref c, .int v1] cnt sh I R (fun v' c' s' i' r' => v' = some (.int (cp_sSave X v1).1) ∧ cp_XR i' r' c (cp_sSave X v1).2 ∧ cp_PL s' r' c ∧ cp_SL s' r' c ∧ cp_SB E c' r' c ∧ cnt ≤ c' ∧ ∀ x, c + 331 ≤ x → x < c + 339 → s' x = sh x ∧ i' x = I x ∧ r' x = R x) := by
  cases hv : cp_rg 0 1 v1 with
  | false => exact c_X6_save_o Pl Sl Sb hV hX hv
  | true =>
    obtain ⟨s, -, hs, rfl⟩ := cp_rg_nI (l := 0) (h := 1) hv
    have hs : s < 2 := by omega
    cases hz : R (c + 327) s with
    | none => exact c_X6_save_n Pl Sl Sb hV hX hc hs hz
    | some a => exact c_X6_save_s Pl Sl Sb hV hX hs hz
