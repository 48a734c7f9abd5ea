theorem cp_sPl_2 {S : Nat → Int32} {P Q : cp_PP} {n mi np : Nat} {lq : List Nat} {v1 : Int32} (h : cp_rg mi 599 v1 = false) : (cp_sPlate (S, mi, n, P, np, Q, lq) v1) = (-2, (S, mi, n, P, np, Q, lq)) := by
  unfold cp_sPlate
  exact if_neg (cp_bF h)
theorem cp_sPl_4 {S : Nat → Int32} {P Q : cp_PP} {n mi np : Nat} {lq : List Nat} {v1 : Int32} (h : cp_rg mi 599 v1 = true) (h8 : np = 8) : (cp_sPlate (S, mi, n, P, np, Q, lq) v1) = (-4, (S, mi, n, P, np, Q, lq)) := by
  unfold cp_sPlate
  rw [if_pos h]
  exact if_pos h8
theorem cp_sPl_5 {S : Nat → Int32} {P Q : cp_PP} {n mi np : Nat} {lq : List Nat} {v1 : Int32} (h : cp_rg mi 599 v1 = true) (h8 : ¬ np = 8) {j : Nat} (hd : cp_du np Q v1 = some j) : (cp_sPlate (S, mi, n, P, np, Q, lq) v1) = (-5, (S, mi, n, P, np, Q, lq)) := by
  unfold cp_sPlate
  rw [if_pos h, if_neg h8]
  show (match cp_du np Q v1 with
    | none => cp_sTell (S, mi, n, P, np, Q, lq) v1 0
    | some _ => (-5, (S, mi, n, P, np, Q, lq))) = _
  rw [hd]
theorem cp_sPl_n {S : Nat → Int32} {P Q : cp_PP} {n mi np : Nat} {lq : List Nat} {v1 : Int32} (h : cp_rg mi 599 v1 = true) (h8 : ¬ np = 8) (hd : cp_du np Q v1 = none) : (cp_sPlate (S, mi, n, P, np, Q, lq) v1) = (nI (cp_at Q v1 np), (S, mi, n, P, np + 1, cp_iq Q (cp_at Q v1 np) v1 0, lq)) := by
  unfold cp_sPlate
  rw [if_pos h, if_neg h8]
  show (match cp_du np Q v1 with
    | none => cp_sTell (S, mi, n, P, np, Q, lq) v1 0
    | some _ => (-5, (S, mi, n, P, np, Q, lq))) = _
  rw [hd]
  rfl
theorem cp_lt600 {v : Int32} : v < 600 ↔ ¬ (599 : Int32) < v := by
  rw [Int32.lt_iff_toInt_lt, Int32.lt_iff_toInt_lt, show (600 : Int32).toInt = 600 from rfl, show (599 : Int32).toInt = 599 from rfl]
  omega
theorem cp_du_o {np : Nat} {Q : cp_PP} {v : Int32} (hnp : np ≤ 8) : (cp_o2i (cp_du np Q v) < 0 → cp_du np Q v = none) ∧ (¬ cp_o2i (cp_du np Q v) < 0 → ∃ f, cp_du np Q v = some f) := by
  cases hd : cp_du np Q v with
  | none => exact ⟨fun _ => rfl, fun z => absurd (show (-6 : Int32) < 0 by decide) z⟩
  | some f => exact ⟨fun z => absurd z (cp_nn0 (by
      have hm := List.mem_range.mp (List.mem_of_find?_eq_some hd)
      omega)), fun _ => ⟨f, rfl⟩⟩
set_option maxHeartbeats 4000000 in
set_option maxRecDepth 100000 in
theorem c_X1_addPlate {lc : Launch} {E : cp_En} {cnt : Nat} {sh : cp_Shp} {R : cp_Rem} {J : cp_Mem} {b : Nat} {o S : Nat → Int32} {P Q : cp_PP} (N : cp_NL sh R b) {n mi np : Nat} {lq : List Nat} (h1 : o 1 = nI mi) (hm : mi < 100000) (h5 : o 5 = nI np) (hq : np ≤ 8) (hQ1 : ∀ j, j < np → Q j 1 = 0 ∨ Q j 1 = 1) {v1 : Int32} : cp_Fr lc E yX1_addPlate cX1_addPlate 2 (some .int) 2 [.ref b, .int v1] cnt sh (cp_nn J b o S P Q) R (some (.int ((cp_sPlate (S, mi, n, P, np, Q, lq) v1).1))) (fun I' => ∃ (o' : Nat → Int32) (Q' : cp_PP), I' = cp_nn J b o' S P Q' ∧ o' 5 = nI (cp_tp (cp_sPlate (S, mi, n, P, np, Q, lq) v1).2) ∧ (∀ k, k ≠ 5 → o' k = o k) ∧ ∀ j, j < cp_tp (cp_sPlate (S, mi, n, P, np, Q, lq) v1).2 → ∀ f, f < 3 → Q' j f = cp_tQ (cp_sPlate (S, mi, n, P, np, Q, lq) v1).2 j f) := by
  refine cp_Fn_iR [some (.ref b), some (.int v1)] (by decide +kernel) (Nat.le_of_ble_eq_true rfl) rfl rfl (fun x hxl O hr => ?_)
  subst hxl
  refine cp_iload_n O dX1_addPlate_0 cp_lg1 ?_
  refine cp_aload_n O dX1_addPlate_1 cp_lg0 ?_
  refine ng_X1_23 O N dX1_addPlate_2 ?_
  rw [h1]
  refine cp_icmp_lt (tgt := 15) O dX1_addPlate_5 (by decide) (fun c_5 => ?_) (fun c_5 => ?_)
  · refine cp_bipush O dX1_addPlate_15 (v := (-2)) rfl ?_
    exact hr _ _ _ _ dX1_addPlate_17 (by rw [cp_sPl_2 (cp_rgL (l := (mi : Int)) (L := nI mi) (nI_toInt (by omega)) c_5)]) ⟨_, _, rfl, by rw [cp_sPl_2 (cp_rgL (l := (mi : Int)) (L := nI mi) (nI_toInt (by omega)) c_5)]; exact h5, fun _ _ => rfl, fun j _ f _ => by rw [cp_sPl_2 (cp_rgL (l := (mi : Int)) (L := nI mi) (nI_toInt (by omega)) c_5)]⟩
  · refine cp_iload_n O dX1_addPlate_8 cp_lg1 ?_
    refine cp_sipush O dX1_addPlate_9 (v := 600) rfl ?_
    refine cp_icmp_lt (tgt := 18) O dX1_addPlate_12 (by decide) (fun c_12 => ?_) (fun c_12 => ?_)
    · have hrg : cp_rg mi 599 v1 = true := cp_rgY (l := (mi : Int)) (h := 599) (L := nI mi) (U := 599) (nI_toInt (by omega)) rfl c_5 (cp_lt600.mp c_12)
      refine cp_aload_n O dX1_addPlate_18 cp_lg0 ?_
      refine ng_X1_44 O N dX1_addPlate_19 ?_
      refine cp_bipush O dX1_addPlate_22 (v := 8) rfl ?_
      refine cp_icmp_ltN (tgt := 30) O dX1_addPlate_24 (by decide) (a := np) (b := 8) h5 rfl (by omega) (by omega) (fun c_24 => ?_) (fun c_24 => ?_)
      · refine cp_aload_n O dX1_addPlate_30 cp_lg0 ?_
        refine cp_iload_n O dX1_addPlate_31 cp_lg1 ?_
        refine cp_cVi O me_X1_plateAt mi_X1_plateAt ml_X1_77 cp_cX1 N.s (c_X1_plateAt N h5 hq) dX1_addPlate_32 rfl rfl ⟨Nat.le_of_ble_eq_true rfl, Nat.le_of_ble_eq_true rfl⟩ ⟨Nat.le_refl _, Nat.le_refl _⟩ (Nat.le_of_ble_eq_true rfl) ?_
        refine cp_if_lt (tgt := 41) O dX1_addPlate_35 (by decide) (fun c_35 => ?_) (fun c_35 => ?_)
        · have hd := (cp_du_o hq).1 c_35
          refine cp_aload_n O dX1_addPlate_41 cp_lg0 ?_
          refine cp_iload_n O dX1_addPlate_42 cp_lg1 ?_
          refine cp_iconst O dX1_addPlate_43 (v := 0) rfl ?_
          refine cp_cVir O me_X1_insertPlate mi_X1_insertPlate ml_X1_81 cp_cX1 N.s (c_X1_insertPlate (bb := false) N h5 (by omega) hQ1) dX1_addPlate_44 rfl rfl ⟨Nat.le_of_ble_eq_true rfl, Nat.le_of_ble_eq_true rfl⟩ ⟨Nat.le_refl _, Nat.le_refl _⟩ (Nat.le_of_ble_eq_true rfl) (fun I44 hT44 => ?_)
          obtain ⟨Q', rfl, hQ'⟩ := hT44
          exact hr _ _ _ _ dX1_addPlate_47 (by rw [cp_sPl_n hrg (by omega) hd]) ⟨_, _, rfl, by rw [cp_sPl_n hrg (by omega) hd]; exact cp_upd_s, fun k hk => cp_upd_n hk, fun j hj f hf => by
            rw [cp_sPl_n hrg (by omega) hd] at hj ⊢
            exact hQ' j hj f hf⟩
        · obtain ⟨j, hd⟩ := (cp_du_o hq).2 c_35
          refine cp_bipush O dX1_addPlate_38 (v := (-5)) rfl ?_
          exact hr _ _ _ _ dX1_addPlate_40 (by rw [cp_sPl_5 hrg (by omega) hd]) ⟨_, _, rfl, by rw [cp_sPl_5 hrg (by omega) hd]; exact h5, fun _ _ => rfl, fun j _ f _ => by rw [cp_sPl_5 hrg (by omega) hd]⟩
      · refine cp_bipush O dX1_addPlate_27 (v := (-4)) rfl ?_
        exact hr _ _ _ _ dX1_addPlate_29 (by rw [cp_sPl_4 hrg (by omega)]) ⟨_, _, rfl, by rw [cp_sPl_4 hrg (by omega)]; exact h5, fun _ _ => rfl, fun j _ f _ => by rw [cp_sPl_4 hrg (by omega)]⟩
    · refine cp_bipush O dX1_addPlate_15 (v := (-2)) rfl ?_
      exact hr _ _ _ _ dX1_addPlate_17 (by rw [cp_sPl_2 (cp_rgH (l := (mi : Int)) (h := 599) (L := 599) rfl (Decidable.not_not.mp (fun z => c_12 (cp_lt600.mpr z))))]) ⟨_, _, rfl, by rw [cp_sPl_2 (cp_rgH (l := (mi : Int)) (h := 599) (L := 599) rfl (Decidable.not_not.mp (fun z => c_12 (cp_lt600.mpr z))))]; exact h5, fun _ _ => rfl, fun j _ f _ => by rw [cp_sPl_2 (cp_rgH (l := (mi : Int)) (h := 599) (L := 599) rfl (Decidable.not_not.mp (fun z => c_12 (cp_lt600.mpr z))))]⟩

