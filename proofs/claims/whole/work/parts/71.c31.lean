theorem cp_ps_u {nx L i : Nat} (h : nx < 7) (hL0 : 0 < L) (hL : L ≤ 6) (hi : i < L) : cp_ps (cp_nx0 nx) (L - 1) i = cp_ps nx L i := by
  unfold cp_ps cp_nx0
  split <;> omega
theorem cp_ps_l {nx L : Nat} (h : nx < 7) (hL0 : 0 < L) (hL : L ≤ 6) : cp_ps nx L (L - 1) = cp_nx0 nx := by
  unfold cp_ps cp_nx0
  split <;> omega
theorem cp_nx0_7 {nx : Nat} (h : nx < 7) : cp_nx0 nx < 7 := by
  unfold cp_nx0
  split <;> omega
theorem cp_XR_undo {sh : cp_Shp} {R : cp_Rem} {I I' : cp_Mem} {c nx : Nat} {X : cp_St} (Sl : cp_SL sh R c) (hV : cp_XV X) (hX : cp_XR I R c X) (hL : cp_xL X ≠ 0) (hx7 : nx < 7) (hHs : ∀ i, i < cp_xL X → cp_HN I (c + 73 + 2 + 36 * cp_ps nx (cp_xL X) i) (cp_xH X i)) (hP : cp_HN I' (c + 1) (cp_xH X (cp_xL X - 1))) (hO : cp_out (c + 1) (cp_wi (cp_wi I (c + 73) 1 (nI (cp_nx0 nx))) (c + 73) 2 (nI (cp_xL X - 1))) I') :
    cp_XR I' R c (cp_xH X (cp_xL X - 1), cp_xL X - 1, cp_xH X, cp_xZ X, cp_xT X, cp_xn X) ∧ cp_oc c I I' := by
  obtain ⟨-, -, hZ, hT, hTt⟩ := hX
  have hL6 := hV.2.1
  have e : ∀ x, x ≠ c + 73 → (x < c + 1 ∨ c + 37 ≤ x) → I' x = I x := fun x h1 h2 => by
    rw [hO x (by omega), cp_wi_a _ _ _ _ h1, cp_wi_a _ _ _ _ h1]
  refine ⟨⟨hP, ⟨cp_nx0 nx, cp_nx0_7 hx7, ?_, ?_, fun i hi => ?_⟩, fun s hs => cp_XZ_e (X := X) Sl hV hs (hZ s hs) (fun x hx => e x (by omega) (by omega)), ?_, fun i hi => ?_⟩, fun x hx => e x (by omega) (by omega)⟩
  · rw [hO _ (by omega), cp_wi_j _ _ _ _ (fun z => absurd z.2 (by decide)), cp_wi_s]
  · rw [hO _ (by omega), cp_wi_s]
  · have hi : i < cp_xL X - 1 := hi
    show cp_HN I' (c + 73 + 2 + 36 * cp_ps (cp_nx0 nx) (cp_xL X - 1) i) (cp_xH X i)
    rw [cp_ps_u hx7 (by omega) hL6 (by omega)]
    exact cp_HN_e (hHs i (by omega)) (hV.2.2.1 i (by omega)) (fun x h1 h2 => e x (by omega) (by omega))
  · rw [e _ (by omega) (by omega)]; exact hT
  · rw [e _ (by omega) (by omega)]; exact hTt i hi
set_option maxHeartbeats 4000000 in
set_option maxRecDepth 100000 in
theorem c_X6_undo {lc : Launch} {E : cp_En} {cnt : Nat} {sh : cp_Shp} {R : cp_Rem} {I : cp_Mem} {c : Nat} (Pl : cp_PL sh R c) (Sl : cp_SL sh R c) {X : cp_St} (hV : cp_XV X) (hX : cp_XR I R c X) : cp_Fr lc E yX6_undo cX6_undo 1 (some .int) 3 [.ref c] cnt sh I R (some (.int ((cp_sUndo X).1))) (fun I' => cp_XR I' R c (cp_sUndo X).2 ∧ cp_oc c I I') := by
  obtain ⟨hN, ⟨nx, hx7, hnx, hL0, hHs⟩, hZ, hT, hTt⟩ := id hX
  refine cp_Fn_iR [some (.ref c)] (by decide +kernel) (Nat.le_of_ble_eq_true rfl) rfl rfl (fun x hxl O hr => ?_)
  subst hxl
  refine cp_aload_n O dX6_undo_0 cp_lg0 ?_
  refine fg_X6_22 O Pl.s Pl.f2 dX6_undo_1 ?_
  refine fg_X6_84 O (Pl.hist).s dX6_undo_4 ?_
  rw [hL0]
  refine cp_if_ne (tgt := 13) O dX6_undo_7 (by decide) (fun c_7 => ?_) (fun c_7 => ?_)
  · have hl0 : cp_xL X ≠ 0 := fun z => c_7 (by rw [z]; rfl)
    have hs0 : cp_sUndo X = (nI (cp_xL X - 1), (cp_xH X (cp_xL X - 1), cp_xL X - 1, cp_xH X, cp_xZ X, cp_xT X, cp_xn X)) := if_neg hl0
    refine cp_aload_n O dX6_undo_13 cp_lg0 ?_
    refine fg_X6_22 O Pl.s Pl.f2 dX6_undo_14 ?_
    refine cp_aload_n O dX6_undo_17 cp_lg0 ?_
    refine fg_X6_10 O Pl.s Pl.f0 dX6_undo_18 ?_
    refine cp_cVvr O me_X0_takeBack mi_X0_takeBack ml_X6_179 cp_cX0 (Pl.hist).s (c_X0_takeBack Pl.hist hnx hx7 (L0 := cp_xL X) hL0 (by omega) hV.2.1 Pl.night (by unfold cp_far; omega) (by omega) (hV.2.2.1 (cp_xL X - 1) (by omega)) (by rw [← cp_ps_l hx7 (by omega) hV.2.1]; exact hHs (cp_xL X - 1) (by omega))) dX6_undo_21 rfl rfl ⟨Nat.le_of_ble_eq_true rfl, Nat.le_of_ble_eq_true rfl⟩ ⟨Nat.le_refl _, Nat.le_refl _⟩ (Nat.le_of_ble_eq_true rfl) (fun I21 hT21 => ?_)
    obtain ⟨hP, hO⟩ := hT21
    refine cp_aload_n O dX6_undo_24 cp_lg0 ?_
    refine fg_X6_22 O Pl.s Pl.f2 dX6_undo_25 ?_
    refine fg_X6_84 O (Pl.hist).s dX6_undo_28 ?_
    rw [hO _ (by omega), cp_wi_s]
    exact hr _ _ _ _ dX6_undo_31 (by rw [hs0]) (by rw [hs0]; exact cp_XR_undo Sl hV hX hl0 hx7 hHs hP hO)
  · have hl0 : cp_xL X = 0 := (nI_eq (by have := hV.2.1; omega) (by omega)).mp c_7
    have hs0 : cp_sUndo X = (-5, X) := if_pos hl0
    refine cp_bipush O dX6_undo_10 (v := (-5)) rfl ?_
    exact hr _ _ _ _ dX6_undo_12 (by rw [hs0]) (by rw [hs0]; exact ⟨hX, cp_oc.rf⟩)
theorem cp_sRs_o {X : cp_St} {v : Int32} (h : cp_rg 0 1 v = false) : cp_sRest X v = (-2, X) := by
  unfold cp_sRest
  rw [if_neg (cp_bF h)]
theorem cp_rg_s {s : Nat} (h : s < 2) : cp_rg 0 1 (nI s) = true := by
  rcases (by omega : s = 0 ∨ s = 1) with e | e <;> subst e <;> decide
theorem cp_sRs_n {X : cp_St} {s : Nat} (h : s < 2) (hz : cp_xZ X s = none) : cp_sRest X (nI s) = (-5, X) := by
  unfold cp_sRest
  rw [if_pos (cp_rg_s h), cp_nIt (by omega), hz]
theorem cp_sRs_s {X : cp_St} {s : Nat} {Z : cp_Nt} (h : s < 2) (hn : cp_tn Z ≤ 24) (hz : cp_xZ X s = some Z) : cp_sRest X (nI s) = cp_chg X (nI (cp_tn Z), Z) := by
  unfold cp_sRest
  rw [if_pos (cp_rg_s h), cp_nIt (by omega), hz]
  exact (cp_chg_p (X := X) (o := (nI (cp_tn Z), Z)) (cp_nn0 (show cp_tn Z < 2 ^ 31 by omega))).symm
set_option maxHeartbeats 4000000 in
set_option maxRecDepth 100000 in
theorem c_X6_restore_o {lc : Launch} {E : cp_En} {cnt : Nat} {sh : cp_Shp} {R : cp_Rem} {I : cp_Mem} {c : Nat} (Pl : cp_PL sh R c) (Sl : cp_SL sh R c) {X : cp_St} (hV : cp_XV X) (hX : cp_XR I R c X) {v1 : Int32} (hv : cp_rg 0 1 v1 = false) : cp_Fr lc E yX6_restore cX6_restore 3 (some .int) 3 [.ref c, .int v1] cnt sh I R (some (.int ((cp_sRest X v1).1))) (fun I' => cp_XR I' R c (cp_sRest X v1).2 ∧ cp_oc c I I') := by
  rw [cp_sRs_o hv]
  refine cp_Fn_iR [some (.ref c), some (.int v1), none] (by decide +kernel) (Nat.le_of_ble_eq_true rfl) rfl rfl (fun x hxl O hr => ?_)
  subst hxl
  refine cp_iload_n O dX6_restore_0 cp_lg1 ?_
  refine cp_if_lt (tgt := 9) O dX6_restore_1 (by decide) (fun c_1 => ?_) (fun c_1 => ?_)
  · refine cp_bipush O dX6_restore_9 (v := (-2)) rfl ?_
    exact hr _ _ _ _ dX6_restore_11 rfl ⟨hX, cp_oc.rf⟩
  · refine cp_iload_n O dX6_restore_4 cp_lg1 ?_
    refine cp_iconst O dX6_restore_5 (v := 2) rfl ?_
    refine cp_icmp_lt (tgt := 12) O dX6_restore_6 (by decide) (fun c_6 => ?_) (fun c_6 => ?_)
    · exact absurd hv (by rw [cp_rgY (l := 0) (h := 1) (L := 0) (U := 1) rfl rfl c_1 (by rw [Int32.lt_iff_toInt_lt] at c_6 ⊢; rw [show (2 : Int32).toInt = 2 from rfl] at c_6; rw [show (1 : Int32).toInt = 1 from rfl]; omega)]; decide)
    · refine cp_bipush O dX6_restore_9 (v := (-2)) rfl ?_
      exact hr _ _ _ _ dX6_restore_11 rfl ⟨hX, cp_oc.rf⟩
set_option maxHeartbeats 4000000 in
set_option maxRecDepth 100000 in
theorem c_X6_restore_n {lc : Launch} {E : cp_En} {cnt : Nat} {sh : cp_Shp} {R : cp_Rem} {I : cp_Mem} {c : Nat} (Pl : cp_PL sh R c) (Sl : cp_SL sh R c) {X : cp_St} (hV : cp_XV X) (hX : cp_XR I R c X) {s : Nat} (hs : s < 2) (hrs : R (c + 327) s = none) (hz : cp_xZ X s = none) : cp_Fr lc E yX6_restore cX6_restore 3 (some .int) 3 [.ref c, .int (nI s)] cnt sh I R (some (.int ((cp_sRest X (nI s)).1))) (fun I' => cp_XR I' R c (cp_sRest X (nI s)).2 ∧ cp_oc c I I') := by
  rw [cp_sRs_n hs hz]
  refine cp_Fn_iR [some (.ref c), some (.int (nI s)), none] (by decide +kernel) (Nat.le_of_ble_eq_true rfl) rfl rfl (fun x hxl O hr => ?_)
  subst hxl
  refine cp_iload_n O dX6_restore_0 cp_lg1 ?_
  refine cp_if_lt (tgt := 9) O dX6_restore_1 (by decide) (fun c_1 => ?_) (fun c_1 => ?_)
  · exact absurd c_1 (cp_nn0 (by omega))
  · refine cp_iload_n O dX6_restore_4 cp_lg1 ?_
    refine cp_iconst O dX6_restore_5 (v := 2) rfl ?_
    refine cp_icmp_ltN (tgt := 12) O dX6_restore_6 (by decide) (a := s) (b := 2) rfl rfl (by omega) (by omega) (fun c_6 => ?_) (fun c_6 => ?_)
    · refine cp_aload_n O dX6_restore_12 cp_lg0 ?_
      refine fg_X6_26 O Pl.s Pl.f3 dX6_restore_13 ?_
      refine cp_iload_n O dX6_restore_16 cp_lg1 ?_
      refine cp_aald O (Or.inl ⟨rfl, rfl⟩) Pl.s3 (j := s) rfl hs (by decide) dX6_restore_17 ?_
      rw [hrs]
      refine cp_astore_nN O dX6_restore_18 (by decide) (cp_ls2 rfl) ?_
      refine cp_aload_nN O dX6_restore_19 cp_lg2 ?_
      refine cp_ifnonnullN O dX6_restore_20 ?_
      refine cp_bipush O dX6_restore_23 (v := (-5)) rfl ?_
      exact hr _ _ _ _ dX6_restore_25 rfl ⟨hX, cp_oc.rf⟩
    · exact absurd hs (by omega)
set_option maxHeartbeats 4000000 in
set_option maxRecDepth 100000 in
theorem c_X6_restore_s {lc : Launch} {E : cp_En} {cnt : Nat} {sh : cp_Shp} {R : cp_Rem} {I : cp_Mem} {c : Nat} (Pl : cp_PL sh R c) (Sl : cp_SL sh R c) {X : cp_St} (hV : cp_XV X) (hX : cp_XR I R c X) {s a : Nat} {Z : cp_Nt} (hs : s < 2) (hrs : R (c + 327) s = some a) (hz : cp_xZ X s = some Z) (hHZ : cp_HN I a Z) : cp_Fr lc E yX6_restore cX6_restore 3 (some .int) 3 [.ref c, .int (nI s)] cnt sh I R (some (.int ((cp_sRest X (nI s)).1))) (fun I' => cp_XR I' R c (cp_sRest X (nI s)).2 ∧ cp_oc c I I') := by
  obtain ⟨hN, ⟨nx, hx7, hnx, hL0, hHs⟩, hZ, hT, hTt⟩ := id hX
  obtain ⟨hal, N2⟩ := Sl.1 s a hs hrs
  have hVZ := hV.2.2.2.1 s Z hs hz
  have hnZ := hVZ.2.2.1.1
  rw [cp_sRs_s hs hnZ hz]
  refine cp_Fn_iR [some (.ref c), some (.int (nI s)), none] (by decide +kernel) (Nat.le_of_ble_eq_true rfl) rfl rfl (fun x hxl O hr => ?_)
  subst hxl
  refine cp_iload_n O dX6_restore_0 cp_lg1 ?_
  refine cp_if_lt (tgt := 9) O dX6_restore_1 (by decide) (fun c_1 => ?_) (fun c_1 => ?_)
  · exact absurd c_1 (cp_nn0 (by omega))
  · refine cp_iload_n O dX6_restore_4 cp_lg1 ?_
    refine cp_iconst O dX6_restore_5 (v := 2) rfl ?_
    refine cp_icmp_ltN (tgt := 12) O dX6_restore_6 (by decide) (a := s) (b := 2) rfl rfl (by omega) (by omega) (fun c_6 => ?_) (fun c_6 => ?_)
    · refine cp_aload_n O dX6_restore_12 cp_lg0 ?_
      refine fg_X6_26 O Pl.s Pl.f3 dX6_restore_13 ?_
      refine cp_iload_n O dX6_restore_16 cp_lg1 ?_
      refine cp_aald O (Or.inl ⟨rfl, rfl⟩) Pl.s3 (j := s) rfl hs (by decide) dX6_restore_17 ?_
      rw [hrs]
      refine cp_astore_n O dX6_restore_18 (by decide) (cp_ls2 rfl) ?_
      refine cp_aload_n O dX6_restore_19 cp_lg2 ?_
      refine cp_ifnonnull (tgt := 26) O dX6_restore_20 (by decide) ?_
      refine cp_aload_n O dX6_restore_26 cp_lg0 ?_
      refine fg_X6_22 O Pl.s Pl.f2 dX6_restore_27 ?_
      refine cp_aload_n O dX6_restore_30 cp_lg0 ?_
      refine fg_X6_10 O Pl.s Pl.f0 dX6_restore_31 ?_
      refine cp_cVvr O me_X0_prepare mi_X0_prepare ml_X6_46 cp_cX0 (Pl.hist).s (c_X0_prepare Pl.hist hnx hx7 Pl.night (by unfold cp_far; omega) hV.1 hN) dX6_restore_34 rfl rfl ⟨Nat.le_of_ble_eq_true rfl, Nat.le_of_ble_eq_true rfl⟩ ⟨Nat.le_refl _, Nat.le_refl _⟩ (Nat.le_of_ble_eq_true rfl) (fun I34 hT34 => ?_)
      obtain ⟨hP1, hO1⟩ := hT34
      refine cp_aload_n O dX6_restore_37 cp_lg0 ?_
      refine fg_X6_10 O Pl.s Pl.f0 dX6_restore_38 ?_
      refine cp_aload_n O dX6_restore_41 cp_lg2 ?_
      refine cp_cVvr O me_X1_copyFrom mi_X1_copyFrom ml_X6_105 cp_cX1 (Pl.night).s (h_X1_copyFrom Pl.night N2 (by unfold cp_far; omega) hVZ (cp_HN_e hHZ hVZ (fun x h1 h2 => hO1 x (by omega)))) dX6_restore_42 rfl rfl ⟨Nat.le_of_ble_eq_true rfl, Nat.le_of_ble_eq_true rfl⟩ ⟨Nat.le_refl _, Nat.le_refl _⟩ (Nat.le_of_ble_eq_true rfl) (fun I42 hT42 => ?_)
      obtain ⟨hP2, hO2⟩ := hT42
      refine cp_aload_n O dX6_restore_45 cp_lg0 ?_
      refine fg_X6_22 O Pl.s Pl.f2 dX6_restore_46 ?_
      refine cp_aload_n O dX6_restore_49 cp_lg0 ?_
      refine fg_X6_10 O Pl.s Pl.f0 dX6_restore_50 ?_
      refine fg_X6_182 O (Pl.night).s dX6_restore_53 ?_
      rw [hP2.2.1]
      refine cp_cVi O me_X0_recordUnlessError mi_X0_recordUnlessError ml_X6_54 cp_cX0 (Pl.hist).s (c_X0_recordUnlessError Pl.hist (nx := nx) (by rw [hO2 _ (by omega), hO1 _ (by omega)]; exact hnx) hx7 (L0 := cp_xL X) (by rw [hO2 _ (by omega), hO1 _ (by omega)]; exact hL0) hV.2.1) dX6_restore_56 rfl rfl ⟨Nat.le_of_ble_eq_true rfl, Nat.le_of_ble_eq_true rfl⟩ ⟨Nat.le_refl _, Nat.le_refl _⟩ (Nat.le_of_ble_eq_true rfl) ?_
      exact hr _ _ _ _ dX6_restore_59 (cp_chg_1 X (nI (cp_tn Z), Z)).symm (cp_XR_chg (o := (nI (cp_tn Z), Z)) Sl hV hX hx7 hnx hL0 hHs hP1 hO1 hP2 hO2 hVZ (fun z => absurd z (cp_nn0 (by omega))))
    · exact absurd hs (by omega)
theorem c_X6_restore {lc : Launch} {E : cp_En} {cnt : Nat} {sh : cp_Shp} {R : cp_Rem} {I : cp_Mem} {c : Nat} (Pl : cp_PL sh R c) (Sl : cp_SL sh R c) {X : cp_St} (hV : cp_XV X) (hX : cp_XR I R c X) {v1 : Int32} : cp_Fr lc E yX6_restore cX6_restore 3 (some .int) 3 [.ref c, .int v1] cnt sh I R (some (.int ((cp_sRest X v1).1))) (fun I' => cp_XR I' R c (cp_sRest X v1).2 ∧ cp_oc c I I') := by
  cases hv : cp_rg 0 1 v1 with
  | false => exact c_X6_restore_o Pl Sl hV hX hv
  | true =>
    obtain ⟨s, -, hs, rfl⟩ := cp_rg_nI (l := 0) (h := 1) hv
    have hs : s < 2 := by omega
    have hZ := hX.2.2.1 s hs
    cases hz : cp_xZ X s with
    | none =>
      rw [hz] at hZ
      exact c_X6_restore_n Pl Sl hV hX hs hZ hz
    | some Z =>
      rw [hz] at hZ
      obtain ⟨a, h1, h2⟩ := hZ
      exact c_X6_restore_s Pl Sl hV hX hs h1 hz h2
