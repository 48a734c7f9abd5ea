theorem cp_XR_ah {sh : cp_Shp} {R : cp_Rem} {I I' : cp_Mem} {c : Nat} {X : cp_St} (Sl : cp_SL sh R c) (hV : cp_XV X) (hX : cp_XR I R c X) (hO : cp_out (c + 37) I I') : cp_XR I' R c X ∧ cp_oc c I I' := by
  obtain ⟨hN, ⟨nx, hx7, hnx, hL0, hHs⟩, hZ, hT, hTt⟩ := hX
  refine ⟨⟨cp_HN_e hN hV.1 (fun x h1 h2 => hO x (by omega)), ⟨nx, hx7, ?_, ?_, fun i hi => cp_HN_e (hHs i hi) (hV.2.2.1 i hi) (fun x h1 h2 => hO x (by omega))⟩, fun s hs => cp_XZ_e Sl hV hs (hZ s hs) (fun x hx => hO x (by omega)), ?_, fun i hi => ?_⟩, fun x hx => hO x (by omega)⟩
  · rw [hO _ (by omega)]; exact hnx
  · rw [hO _ (by omega)]; exact hL0
  · rw [hO _ (by omega)]; exact hT
  · rw [hO _ (by omega)]; exact hTt i hi
theorem cp_sRd_1 {N : cp_Nt} {v : Int32} (h : cp_ip (cp_tn N) v = false) : cp_sReady N v = -1 := by
  unfold cp_sReady
  rw [if_neg (cp_bF h)]
theorem cp_sRd_5 {N : cp_Nt} {p : Nat} (hp : p < 2 ^ 31) (h : cp_ip (cp_tn N) (nI p) = true) (h3 : cp_tP N p 4 = 3) : cp_sReady N (nI p) = -5 := by
  unfold cp_sReady
  rw [if_pos h, cp_nIt hp, if_pos h3]
theorem cp_sRd_k {N : cp_Nt} {p : Nat} (hp : p < 2 ^ 31) (h : cp_ip (cp_tn N) (nI p) = true) (h3 : ¬ cp_tP N p 4 = 3) : cp_sReady N (nI p) = cp_o2i (cp_rdf N p) := by
  unfold cp_sReady
  rw [if_pos h, cp_nIt hp, if_neg h3]
theorem cp_rdf_e {N : cp_Nt} {p : Nat} (hV : cp_PV (cp_tn N) (cp_tP N) (cp_tl N)) (hp : p < cp_tn N) : cp_rdf N p = (List.range 2001).find? (fun k => decide (cp_tP (cp_sMins k N).2 p 4 = 2)) := by
  unfold cp_rdf
  apply cp_find_c
  intro k _
  rw [cp_st_k hV hp]
set_option maxHeartbeats 4000000 in
set_option maxRecDepth 100000 in
theorem c_X6_readyIn {lc : Launch} {E : cp_En} {cnt : Nat} {sh : cp_Shp} {R : cp_Rem} {I : cp_Mem} {c : Nat} (Pl : cp_PL sh R c) (Sl : cp_SL sh R c) {X : cp_St} (hV : cp_XV X) (hX : cp_XR I R c X) {v1 : Int32} : cp_Fr lc E yX6_readyIn cX6_readyIn 3 (some .int) 4 [.ref c, .int v1] cnt sh I R (some (.int (cp_sReady (cp_xN X) v1))) (fun I' => cp_XR I' R c X ∧ cp_oc c I I') := by
  have hN := hX.1
  have hn := hV.1.2.2.1.1
  have hPV := hV.1.2.2.1
  refine cp_Fn_iR [some (.ref c), some (.int v1), none] (by decide +kernel) (Nat.le_of_ble_eq_true rfl) rfl rfl (fun x hxl O hr => ?_)
  subst hxl
  refine cp_aload_n O dX6_readyIn_0 cp_lg0 ?_
  refine fg_X6_10 O Pl.s Pl.f0 dX6_readyIn_1 ?_
  refine cp_iload_n O dX6_readyIn_4 cp_lg1 ?_
  refine cp_cVi O me_X1_hasPiece mi_X1_hasPiece ml_X6_97 cp_cX1 (Pl.night).s (i_X1_hasPiece Pl.night hn hN) dX6_readyIn_5 rfl rfl ⟨Nat.le_of_ble_eq_true rfl, Nat.le_of_ble_eq_true rfl⟩ ⟨Nat.le_refl _, Nat.le_refl _⟩ (Nat.le_of_ble_eq_true rfl) ?_
  refine cp_if_neB (tgt := 13) O dX6_readyIn_8 (by decide) (fun c_8 => ?_) (fun c_8 => ?_)
  · obtain ⟨p, hp, rfl⟩ := (cp_ip_iff (by omega)).mp c_8
    have hpt : (nI p).toInt.toNat = p := cp_nIt (by omega)
    refine cp_aload_n O dX6_readyIn_13 cp_lg0 ?_
    refine fg_X6_10 O Pl.s Pl.f0 dX6_readyIn_14 ?_
    refine cp_iload_n O dX6_readyIn_17 cp_lg1 ?_
    refine cp_iconst O dX6_readyIn_18 (v := 3) rfl ?_
    refine cp_cVi O me_X1_isPiece mi_X1_isPiece ml_X6_101 cp_cX1 (Pl.night).s (i_X1_isPiece Pl.night hn hN) dX6_readyIn_19 rfl rfl ⟨Nat.le_of_ble_eq_true rfl, Nat.le_of_ble_eq_true rfl⟩ ⟨Nat.le_refl _, Nat.le_refl _⟩ (Nat.le_of_ble_eq_true rfl) ?_
    rw [c_8, hpt, Bool.true_and]
    refine cp_if_eqB (tgt := 28) O dX6_readyIn_22 (by decide) (fun c_22 => ?_) (fun c_22 => ?_)
    · have hs0 := cp_sRd_k (by omega) c_8 (of_decide_eq_false c_22)
      rw [cp_rdf_e hPV hp] at hs0
      refine cp_aload_n O dX6_readyIn_28 cp_lg0 ?_
      refine fg_X6_16 O Pl.s Pl.f1 dX6_readyIn_29 ?_
      refine cp_aload_n O dX6_readyIn_32 cp_lg0 ?_
      refine fg_X6_10 O Pl.s Pl.f0 dX6_readyIn_33 ?_
      refine cp_cVvr O me_X1_copyFrom mi_X1_copyFrom ml_X6_105 cp_cX1 (Pl.ahead).s (h_X1_copyFrom Pl.ahead Pl.night (by unfold cp_far; omega) hV.1 hN) dX6_readyIn_36 rfl rfl ⟨Nat.le_of_ble_eq_true rfl, Nat.le_of_ble_eq_true rfl⟩ ⟨Nat.le_refl _, Nat.le_refl _⟩ (Nat.le_of_ble_eq_true rfl) (fun I36 hT36 => ?_)
      obtain ⟨hA0, hO0⟩ := hT36
      refine cp_iconst O dX6_readyIn_39 (v := 0) rfl ?_
      refine cp_istore_n O dX6_readyIn_40 (by decide) (cp_ls2 rfl) ?_
      have loop41 : ∀ k, k ≤ 2001 → ∀ I1 : cp_Mem, cp_HN I1 (c + 37) (cp_sMins k (cp_xN X)).2 → cp_out (c + 37) I I1 → (∀ j, j < k → decide (cp_tP (cp_sMins j (cp_xN X)).2 p 4 = 2) = false) → cp_G x E 3 0 0 cnt sh I1 R 41 [some (.ref c), some (.int (nI p)), some (.int (nI k))] [] := by
        refine cp_up (n := 2001) (P := fun k => ∀ I1 : cp_Mem, cp_HN I1 (c + 37) (cp_sMins k (cp_xN X)).2 → cp_out (c + 37) I I1 → (∀ j, j < k → decide (cp_tP (cp_sMins j (cp_xN X)).2 p 4 = 2) = false) → cp_G x E 3 0 0 cnt sh I1 R 41 [some (.ref c), some (.int (nI p)), some (.int (nI k))] []) (fun k hk ih I1 hI1 hx1 hall => ?_)
        refine cp_iload_n O dX6_readyIn_41 cp_lg2 ?_
        refine cp_sipush O dX6_readyIn_42 (v := 2000) rfl ?_
        refine cp_icmp_gtN (tgt := 76) O dX6_readyIn_45 (by decide) (a := k) (b := 2000) rfl rfl (by omega) (by omega) (fun c_45 => ?_) (fun c_45 => ?_)
        · refine cp_bipush O dX6_readyIn_76 (v := (-6)) rfl ?_
          exact hr _ _ _ _ dX6_readyIn_78 (by rw [hs0]; exact cp_o2i_n (cp_fnd_n (fun j hj => hall j (by omega)))) (cp_XR_ah Sl hV hX hx1)
        · refine cp_aload_n O dX6_readyIn_48 cp_lg0 ?_
          refine fg_X6_16 O Pl.s Pl.f1 dX6_readyIn_49 ?_
          refine cp_iload_n O dX6_readyIn_52 cp_lg1 ?_
          refine cp_iconst O dX6_readyIn_53 (v := 2) rfl ?_
          refine cp_cVi O me_X1_isPiece mi_X1_isPiece ml_X6_101 cp_cX1 (Pl.ahead).s (i_X1_isPiece Pl.ahead (Z := (cp_sMins k (cp_xN X)).2) (by rw [(cp_sMins_k (cp_xN X) k).2.1]; exact hn) hI1) dX6_readyIn_54 rfl rfl ⟨Nat.le_of_ble_eq_true rfl, Nat.le_of_ble_eq_true rfl⟩ ⟨Nat.le_refl _, Nat.le_refl _⟩ (Nat.le_of_ble_eq_true rfl) ?_
          rw [(cp_sMins_k (cp_xN X) k).2.1, c_8, hpt, Bool.true_and]
          refine cp_if_eqB (tgt := 62) O dX6_readyIn_57 (by decide) (fun c_57 => ?_) (fun c_57 => ?_)
          · have hnk : decide (cp_tP (cp_sMins k (cp_xN X)).2 p 4 = 2) = false := c_57
            refine cp_aload_n O dX6_readyIn_62 cp_lg0 ?_
            refine fg_X6_16 O Pl.s Pl.f1 dX6_readyIn_63 ?_
            refine cp_cVir O me_X1_passMinute mi_X1_passMinute ml_X6_108 cp_cX1 (Pl.ahead).s (h_X1_passMinute Pl.ahead (cp_NU_mins (cp_NU_V hV.1) k (by have := hV.1.2.1; omega)) hI1) dX6_readyIn_66 rfl rfl ⟨Nat.le_of_ble_eq_true rfl, Nat.le_of_ble_eq_true rfl⟩ ⟨Nat.le_refl _, Nat.le_refl _⟩ (Nat.le_of_ble_eq_true rfl) (fun I66 hT66 => ?_)
            obtain ⟨hI2, hx2⟩ := hT66
            refine cp_pop O dX6_readyIn_69 rfl ?_
            refine cp_iinc O dX6_readyIn_70 cp_lg2 (cp_inc rfl) (by decide) (cp_ls2 rfl) ?_
            refine cp_goto (tgt := 41) O dX6_readyIn_73 (by decide) ?_
            exact ih (by omega) _ hI2 (hx1.tr hx2) (cp_lts hall hnk)
          · refine cp_iload_n O dX6_readyIn_60 cp_lg2 ?_
            exact hr _ _ _ _ dX6_readyIn_61 (by rw [hs0]; exact cp_o2i_s (cp_fnd_s (by omega) c_57 hall)) (cp_XR_ah Sl hV hX hx1)
      exact loop41 0 (Nat.zero_le _) _ hA0 hO0 (fun j hj => absurd hj (Nat.not_lt_zero _))
    · have hs0 := cp_sRd_5 (by omega) c_8 (of_decide_eq_true c_22)
      refine cp_bipush O dX6_readyIn_25 (v := (-5)) rfl ?_
      exact hr _ _ _ _ dX6_readyIn_27 hs0.symm ⟨hX, cp_oc.rf⟩
  · have hs0 := cp_sRd_1 c_8
    refine cp_iconst O dX6_readyIn_11 (v := (-1)) rfl ?_
    exact hr _ _ _ _ dX6_readyIn_12 hs0.symm ⟨hX, cp_oc.rf⟩
set_option maxHeartbeats 4000000 in
set_option maxRecDepth 100000 in
theorem c_X6_goAheadToPlate {lc : Launch} {E : cp_En} {cnt : Nat} {sh : cp_Shp} {R : cp_Rem} {I : cp_Mem} {c : Nat} (Pl : cp_PL sh R c) {X : cp_St} (hV : cp_XV X) (hX : cp_XR I R c X) {a : Nat → Int32} (hA : cp_MA a (cp_xN X)) (hlt : cp_mkN (cp_xN X) < cp_tp (cp_xN X)) : cp_Fr lc E yX6_goAheadToPlate cX6_goAheadToPlate 2 none 5 [.ref c, .int (nI (cp_mkN (cp_xN X)))] cnt sh I R none (fun I' => cp_HN I' (c + 37) (cp_sMins (cp_due (cp_xN X) - cp_tm (cp_xN X) + 1) (cp_xN X)).2 ∧ cp_out (c + 37) I I') := by
  have hN := hX.1
  obtain ⟨d1, d2, d3⟩ := cp_due_f hA hV.1 hlt
  have hdv : cp_tQ (cp_xN X) (cp_mkN (cp_xN X)) 0 - nI (cp_tm (cp_xN X)) + 1 = nI (cp_due (cp_xN X) - cp_tm (cp_xN X) + 1) := by rw [d1, pk_sub d2, nI_1]
  have hsp := cp_sPs_k (Z := (cp_xN X)) (c := (cp_due (cp_xN X) - cp_tm (cp_xN X) + 1)) (by omega) ((nI_leI (a := 1) (by omega) (by omega)).mpr (by omega)) (by
    rw [show (600 : Int32) = nI 600 from rfl, pk_sub (show cp_tm (cp_xN X) ≤ 600 by omega)]
    exact (nI_leI (by omega) (by omega)).mpr (by omega))
  refine cp_Fn_vR [some (.ref c), some (.int (nI (cp_mkN (cp_xN X))))] (by decide +kernel) (Nat.le_of_ble_eq_true rfl) rfl (fun x hxl O hr => ?_)
  subst hxl
  refine cp_aload_n O dX6_goAheadToPlate_0 cp_lg0 ?_
  refine fg_X6_16 O Pl.s Pl.f1 dX6_goAheadToPlate_1 ?_
  refine cp_aload_n O dX6_goAheadToPlate_4 cp_lg0 ?_
  refine fg_X6_10 O Pl.s Pl.f0 dX6_goAheadToPlate_5 ?_
  refine cp_cVvr O me_X1_copyFrom mi_X1_copyFrom ml_X6_105 cp_cX1 (Pl.ahead).s (h_X1_copyFrom Pl.ahead Pl.night (by unfold cp_far; omega) hV.1 hN) dX6_goAheadToPlate_8 rfl rfl ⟨Nat.le_of_ble_eq_true rfl, Nat.le_of_ble_eq_true rfl⟩ ⟨Nat.le_refl _, Nat.le_refl _⟩ (Nat.le_of_ble_eq_true rfl) (fun I8 hT8 => ?_)
  obtain ⟨hA0, hO0⟩ := hT8
  refine cp_aload_n O dX6_goAheadToPlate_11 cp_lg0 ?_
  refine fg_X6_16 O Pl.s Pl.f1 dX6_goAheadToPlate_12 ?_
  refine cp_aload_n O dX6_goAheadToPlate_15 cp_lg0 ?_
  refine fg_X6_10 O Pl.s Pl.f0 dX6_goAheadToPlate_16 ?_
  refine cp_iload_n O dX6_goAheadToPlate_19 cp_lg1 ?_
  refine cp_cVi O me_X1_minutesToPlate mi_X1_minutesToPlate ml_X6_137 cp_cX1 (Pl.night).s (i_X1_minutesToPlate Pl.night hV.1 (cp_HN_ou hN hO0 (by unfold cp_far; omega) hV.1) hlt) dX6_goAheadToPlate_20 rfl rfl ⟨Nat.le_of_ble_eq_true rfl, Nat.le_of_ble_eq_true rfl⟩ ⟨Nat.le_refl _, Nat.le_refl _⟩ (Nat.le_of_ble_eq_true rfl) ?_
  rw [hdv]
  refine cp_cVir O me_X1_passMinutes mi_X1_passMinutes ml_X6_71 cp_cX1 (Pl.ahead).s (h_X1_passMinutes Pl.ahead hV.1 hA0) dX6_goAheadToPlate_23 rfl rfl ⟨Nat.le_of_ble_eq_true rfl, Nat.le_of_ble_eq_true rfl⟩ ⟨Nat.le_refl _, Nat.le_refl _⟩ (Nat.le_of_ble_eq_true rfl) (fun I23 hT23 => ?_)
  rw [hsp] at hT23
  obtain ⟨hI2, hx2⟩ := hT23
  refine cp_pop O dX6_goAheadToPlate_26 rfl ?_
  exact hr _ _ _ dX6_goAheadToPlate_27 ⟨hI2, hO0.tr hx2⟩
theorem cp_ofp3 {N : cp_Nt} {j : Nat} (hj : j < cp_tp N) (h8 : cp_tp N ≤ 8) : cp_sOfPlate N (nI j) 3 = cp_tQ N j 2 := by
  unfold cp_sOfPlate
  rw [if_pos ((cp_ip_iff (by omega)).mpr ⟨j, hj, rfl⟩), cp_nIt (by omega)]
  rfl
theorem cp_mx10 (v : Int32) : (if v < cp_sv 1 2 then cp_sv 1 2 else v) = if 10 ≤ v then v else 10 := by
  by_cases h : v < 10
  · rw [if_pos (show v < cp_sv 1 2 from h), if_neg (Int32.not_le.mpr h)]
    rfl
  · rw [if_neg (show ¬ v < cp_sv 1 2 from h), if_pos (Int32.not_lt.mp h)]
set_option maxHeartbeats 4000000 in
set_option maxRecDepth 100000 in
theorem c_X6_leastRoom_0 {lc : Launch} {E : cp_En} {cnt : Nat} {sh : cp_Shp} {R : cp_Rem} {I : cp_Mem} {c : Nat} (Pl : cp_PL sh R c) (Sl : cp_SL sh R c) {X : cp_St} (hV : cp_XV X) (hX : cp_XR I R c X) {a : Nat → Int32} (hA : cp_MA a (cp_xN X)) (hlt : ¬ cp_mkN (cp_xN X) < cp_tp (cp_xN X)) : cp_Fr lc E yX6_leastRoom cX6_leastRoom 3 (some .int) 6 [.ref c] cnt sh I R (some (.int (cp_sLeast (cp_xN X)))) (fun I' => cp_XR I' R c X ∧ cp_oc c I I') := by
  have h8 := hX.1.2.2.2.1
  refine cp_Fn_iR [some (.ref c), none, none] (by decide +kernel) (Nat.le_of_ble_eq_true rfl) rfl rfl (fun x hxl O hr => ?_)
  subst hxl
  refine cp_aload_n O dX6_leastRoom_0 cp_lg0 ?_
  refine fg_X6_10 O Pl.s Pl.f0 dX6_leastRoom_1 ?_
  refine cp_cVi O me_X1_nextDue mi_X1_nextDue ml_X6_112 cp_cX1 (Pl.night).s (i_X1_nextDue Pl.night hV.1 hX.1) dX6_leastRoom_4 rfl rfl ⟨Nat.le_of_ble_eq_true rfl, Nat.le_of_ble_eq_true rfl⟩ ⟨Nat.le_refl _, Nat.le_refl _⟩ (Nat.le_of_ble_eq_true rfl) ?_
  rw [if_neg hlt]
  refine cp_istore_n O dX6_leastRoom_7 (by decide) (cp_ls1 rfl) ?_
  refine cp_iload_n O dX6_leastRoom_8 cp_lg1 ?_
  refine cp_if_ge (tgt := 15) O dX6_leastRoom_9 (by decide) (fun c_9 => ?_) (fun c_9 => ?_)
  · exact absurd c_9 (by decide)
  · refine cp_bipush O dX6_leastRoom_12 (v := (-5)) rfl ?_
    exact hr _ _ _ _ dX6_leastRoom_14 (by unfold cp_sLeast; rw [if_neg hlt]) ⟨hX, cp_oc.rf⟩
set_option maxHeartbeats 4000000 in
set_option maxRecDepth 100000 in
theorem c_X6_leastRoom_1 {lc : Launch} {E : cp_En} {cnt : Nat} {sh : cp_Shp} {R : cp_Rem} {I : cp_Mem} {c : Nat} (Pl : cp_PL sh R c) (Sl : cp_SL sh R c) {X : cp_St} (hV : cp_XV X) (hX : cp_XR I R c X) {a : Nat → Int32} (hA : cp_MA a (cp_xN X)) (hlt : cp_mkN (cp_xN X) < cp_tp (cp_xN X)) : cp_Fr lc E yX6_leastRoom cX6_leastRoom 3 (some .int) 6 [.ref c] cnt sh I R (some (.int (cp_sLeast (cp_xN X)))) (fun I' => cp_XR I' R c X ∧ cp_oc c I I') := by
  have h8 := hX.1.2.2.2.1
  obtain ⟨d1, d2, d3⟩ := cp_due_f hA hV.1 hlt
  have hVk := cp_sMins_V hV.1 (cp_due (cp_xN X) - cp_tm (cp_xN X) + 1) (by omega)
  have hltk : cp_mkN (cp_xN X) < cp_tp (cp_sMins (cp_due (cp_xN X) - cp_tm (cp_xN X) + 1) (cp_xN X)).2 := by rw [(cp_sMins_k (cp_xN X) (cp_due (cp_xN X) - cp_tm (cp_xN X) + 1)).2.2.1]; exact hlt
  refine cp_Fn_iR [some (.ref c), none, none] (by decide +kernel) (Nat.le_of_ble_eq_true rfl) rfl rfl (fun x hxl O hr => ?_)
  subst hxl
  refine cp_aload_n O dX6_leastRoom_0 cp_lg0 ?_
  refine fg_X6_10 O Pl.s Pl.f0 dX6_leastRoom_1 ?_
  refine cp_cVi O me_X1_nextDue mi_X1_nextDue ml_X6_112 cp_cX1 (Pl.night).s (i_X1_nextDue Pl.night hV.1 hX.1) dX6_leastRoom_4 rfl rfl ⟨Nat.le_of_ble_eq_true rfl, Nat.le_of_ble_eq_true rfl⟩ ⟨Nat.le_refl _, Nat.le_refl _⟩ (Nat.le_of_ble_eq_true rfl) ?_
  rw [if_pos hlt]
  refine cp_istore_n O dX6_leastRoom_7 (by decide) (cp_ls1 rfl) ?_
  refine cp_iload_n O dX6_leastRoom_8 cp_lg1 ?_
  refine cp_if_ge (tgt := 15) O dX6_leastRoom_9 (by decide) (fun c_9 => ?_) (fun c_9 => ?_)
  · refine cp_aload_n O dX6_leastRoom_15 cp_lg0 ?_
    refine cp_iload_n O dX6_leastRoom_16 cp_lg1 ?_
    refine cp_cVvr O me_X6_goAheadToPlate mi_X6_goAheadToPlate ml_X6_115 cp_cX6 Pl.s (c_X6_goAheadToPlate Pl hV hX hA hlt) dX6_leastRoom_17 rfl rfl ⟨Nat.le_of_ble_eq_true rfl, Nat.le_of_ble_eq_true rfl⟩ ⟨Nat.le_refl _, Nat.le_refl _⟩ (Nat.le_of_ble_eq_true rfl) (fun I17 hT17 => ?_)
    obtain ⟨hI1, hx1⟩ := hT17
    refine cp_aload_n O dX6_leastRoom_20 cp_lg0 ?_
    refine fg_X6_16 O Pl.s Pl.f1 dX6_leastRoom_21 ?_
    refine cp_aload_n O dX6_leastRoom_24 cp_lg0 ?_
    refine fg_X6_16 O Pl.s Pl.f1 dX6_leastRoom_25 ?_
    refine cp_cVi O me_X1_piecesForPlate mi_X1_piecesForPlate ml_X6_119 cp_cX1 (Pl.ahead).s (i_X1_piecesForPlate Pl.ahead hVk hI1) dX6_leastRoom_28 rfl rfl ⟨Nat.le_of_ble_eq_true rfl, Nat.le_of_ble_eq_true rfl⟩ ⟨Nat.le_refl _, Nat.le_refl _⟩ (Nat.le_of_ble_eq_true rfl) ?_
    refine cp_cVi O me_X1_linesOf mi_X1_linesOf ml_X6_122 cp_cX1 (Pl.ahead).s (i_X1_linesOf Pl.ahead hVk hI1) dX6_leastRoom_31 rfl rfl ⟨Nat.le_of_ble_eq_true rfl, Nat.le_of_ble_eq_true rfl⟩ ⟨Nat.le_refl _, Nat.le_refl _⟩ (Nat.le_of_ble_eq_true rfl) ?_
    rw [cp_next_P, (cp_sMins_k (cp_xN X) _).2.1]
    refine cp_istore_n O dX6_leastRoom_34 (by decide) (cp_ls2 rfl) ?_
    refine cp_iload_n O dX6_leastRoom_35 cp_lg2 ?_
    refine fs_X6_125 O dX6_leastRoom_36 ?_
    refine cp_iconst O dX6_leastRoom_39 (v := 2) rfl ?_
    refine cp_tald (q := 2) O (by decide) (j := 2) rfl (by decide) dX6_leastRoom_40 ?_
    refine cp_icmp_le (tgt := 47) O dX6_leastRoom_41 (by decide) (fun c_41 => ?_) (fun c_41 => ?_)
    · refine cp_iload_n O dX6_leastRoom_47 cp_lg2 ?_
      refine fs_X6_129 O dX6_leastRoom_48 ?_
      refine cp_iconst O dX6_leastRoom_51 (v := 2) rfl ?_
      refine cp_tald (q := 1) O (by decide) (j := 2) rfl (by decide) dX6_leastRoom_52 ?_
      refine cp_mmax O (by decide) ml_X6_132 dX6_leastRoom_53 (Nat.le_of_ble_eq_true rfl) ⟨Nat.le_refl _, Nat.le_refl _⟩ ?_
      exact hr _ _ _ _ dX6_leastRoom_56 (by unfold cp_sLeast; rw [if_pos hlt, if_pos (show _ ≤ (400 : Int32) from c_41), cp_mx10]) (cp_XR_ah Sl hV hX hx1)
    · refine cp_bipush O dX6_leastRoom_44 (v := (-6)) rfl ?_
      exact hr _ _ _ _ dX6_leastRoom_46 (by unfold cp_sLeast; rw [if_pos hlt, if_neg (show ¬ _ ≤ (400 : Int32) from c_41)]) (cp_XR_ah Sl hV hX hx1)
  · exact absurd (show (0 : Int32) ≤ nI (cp_mkN (cp_xN X)) from cp_nI_le0 (by omega)) c_9
theorem c_X6_leastRoom {lc : Launch} {E : cp_En} {cnt : Nat} {sh : cp_Shp} {R : cp_Rem} {I : cp_Mem} {c : Nat} (Pl : cp_PL sh R c) (Sl : cp_SL sh R c) {X : cp_St} (hV : cp_XV X) (hX : cp_XR I R c X) {a : Nat → Int32} (hA : cp_MA a (cp_xN X)) : cp_Fr lc E yX6_leastRoom cX6_leastRoom 3 (some .int) 6 [.ref c] cnt sh I R (some (.int (cp_sLeast (cp_xN X)))) (fun I' => cp_XR I' R c X ∧ cp_oc c I I') := by
  by_cases hlt : cp_mkN (cp_xN X) < cp_tp (cp_xN X)
  · exact c_X6_leastRoom_1 Pl Sl hV hX hA hlt
  · exact c_X6_leastRoom_0 Pl Sl hV hX hA hlt
set_option maxHeartbeats 4000000 in
set_option maxRecDepth 100000 in
theorem c_X6_nextPlate_0 {lc : Launch} {E : cp_En} {cnt : Nat} {sh : cp_Shp} {R : cp_Rem} {I : cp_Mem} {c : Nat} (Pl : cp_PL sh R c) (Sl : cp_SL sh R c) {X : cp_St} (hV : cp_XV X) (hX : cp_XR I R c X) {a : Nat → Int32} (hA : cp_MA a (cp_xN X)) (hlt : ¬ cp_mkN (cp_xN X) < cp_tp (cp_xN X)) : cp_Fr lc E yX6_nextPlate cX6_nextPlate 2 (some .int) 6 [.ref c] cnt sh I R (some (.int (cp_sNext (cp_xN X)))) (fun I' => cp_XR I' R c X ∧ cp_oc c I I') := by
  have h8 := hX.1.2.2.2.1
  refine cp_Fn_iR [some (.ref c), none] (by decide +kernel) (Nat.le_of_ble_eq_true rfl) rfl rfl (fun x hxl O hr => ?_)
  subst hxl
  refine cp_aload_n O dX6_nextPlate_0 cp_lg0 ?_
  refine fg_X6_10 O Pl.s Pl.f0 dX6_nextPlate_1 ?_
  refine cp_cVi O me_X1_nextDue mi_X1_nextDue ml_X6_112 cp_cX1 (Pl.night).s (i_X1_nextDue Pl.night hV.1 hX.1) dX6_nextPlate_4 rfl rfl ⟨Nat.le_of_ble_eq_true rfl, Nat.le_of_ble_eq_true rfl⟩ ⟨Nat.le_refl _, Nat.le_refl _⟩ (Nat.le_of_ble_eq_true rfl) ?_
  rw [if_neg hlt]
  refine cp_istore_n O dX6_nextPlate_7 (by decide) (cp_ls1 rfl) ?_
  refine cp_iload_n O dX6_nextPlate_8 cp_lg1 ?_
  refine cp_if_ge (tgt := 15) O dX6_nextPlate_9 (by decide) (fun c_9 => ?_) (fun c_9 => ?_)
  · exact absurd c_9 (by decide)
  · refine cp_bipush O dX6_nextPlate_12 (v := (-5)) rfl ?_
    exact hr _ _ _ _ dX6_nextPlate_14 (by unfold cp_sNext; rw [if_neg hlt]) ⟨hX, cp_oc.rf⟩
set_option maxHeartbeats 4000000 in
set_option maxRecDepth 100000 in
theorem c_X6_nextPlate_1 {lc : Launch} {E : cp_En} {cnt : Nat} {sh : cp_Shp} {R : cp_Rem} {I : cp_Mem} {c : Nat} (Pl : cp_PL sh R c) (Sl : cp_SL sh R c) {X : cp_St} (hV : cp_XV X) (hX : cp_XR I R c X) {a : Nat → Int32} (hA : cp_MA a (cp_xN X)) (hlt : cp_mkN (cp_xN X) < cp_tp (cp_xN X)) : cp_Fr lc E yX6_nextPlate cX6_nextPlate 2 (some .int) 6 [.ref c] cnt sh I R (some (.int (cp_sNext (cp_xN X)))) (fun I' => cp_XR I' R c X ∧ cp_oc c I I') := by
  have h8 := hX.1.2.2.2.1
  obtain ⟨d1, d2, d3⟩ := cp_due_f hA hV.1 hlt
  have hVk := cp_sMins_V hV.1 (cp_due (cp_xN X) - cp_tm (cp_xN X) + 1) (by omega)
  have hltk : cp_mkN (cp_xN X) < cp_tp (cp_sMins (cp_due (cp_xN X) - cp_tm (cp_xN X) + 1) (cp_xN X)).2 := by rw [(cp_sMins_k (cp_xN X) (cp_due (cp_xN X) - cp_tm (cp_xN X) + 1)).2.2.1]; exact hlt
  refine cp_Fn_iR [some (.ref c), none] (by decide +kernel) (Nat.le_of_ble_eq_true rfl) rfl rfl (fun x hxl O hr => ?_)
  subst hxl
  refine cp_aload_n O dX6_nextPlate_0 cp_lg0 ?_
  refine fg_X6_10 O Pl.s Pl.f0 dX6_nextPlate_1 ?_
  refine cp_cVi O me_X1_nextDue mi_X1_nextDue ml_X6_112 cp_cX1 (Pl.night).s (i_X1_nextDue Pl.night hV.1 hX.1) dX6_nextPlate_4 rfl rfl ⟨Nat.le_of_ble_eq_true rfl, Nat.le_of_ble_eq_true rfl⟩ ⟨Nat.le_refl _, Nat.le_refl _⟩ (Nat.le_of_ble_eq_true rfl) ?_
  rw [if_pos hlt]
  refine cp_istore_n O dX6_nextPlate_7 (by decide) (cp_ls1 rfl) ?_
  refine cp_iload_n O dX6_nextPlate_8 cp_lg1 ?_
  refine cp_if_ge (tgt := 15) O dX6_nextPlate_9 (by decide) (fun c_9 => ?_) (fun c_9 => ?_)
  · refine cp_aload_n O dX6_nextPlate_15 cp_lg0 ?_
    refine cp_iload_n O dX6_nextPlate_16 cp_lg1 ?_
    refine cp_cVvr O me_X6_goAheadToPlate mi_X6_goAheadToPlate ml_X6_115 cp_cX6 Pl.s (c_X6_goAheadToPlate Pl hV hX hA hlt) dX6_nextPlate_17 rfl rfl ⟨Nat.le_of_ble_eq_true rfl, Nat.le_of_ble_eq_true rfl⟩ ⟨Nat.le_refl _, Nat.le_refl _⟩ (Nat.le_of_ble_eq_true rfl) (fun I17 hT17 => ?_)
    obtain ⟨hI1, hx1⟩ := hT17
    refine cp_aload_n O dX6_nextPlate_20 cp_lg0 ?_
    refine fg_X6_16 O Pl.s Pl.f1 dX6_nextPlate_21 ?_
    refine cp_iload_n O dX6_nextPlate_24 cp_lg1 ?_
    refine cp_iconst O dX6_nextPlate_25 (v := 3) rfl ?_
    refine cp_cVi O me_X1_factOfPlate mi_X1_factOfPlate ml_X6_77 cp_cX1 (Pl.ahead).s (i_X1_factOfPlate Pl.ahead hVk hI1) dX6_nextPlate_26 rfl rfl ⟨Nat.le_of_ble_eq_true rfl, Nat.le_of_ble_eq_true rfl⟩ ⟨Nat.le_refl _, Nat.le_refl _⟩ (Nat.le_of_ble_eq_true rfl) ?_
    exact hr _ _ _ _ dX6_nextPlate_29 (by unfold cp_sNext; rw [if_pos hlt, ← cp_next_q hA hV.1 hlt, cp_ofp3 (N := cp_ow I17 (c + 37) (cp_sMins (cp_due (cp_xN X) - cp_tm (cp_xN X) + 1) (cp_xN X)).2) hltk hI1.2.2.2.1]; exact hI1.2.2.2.2.1.2.2.2.2.2.1 _ hltk 2 (by decide)) (cp_XR_ah Sl hV hX hx1)
  · exact absurd (show (0 : Int32) ≤ nI (cp_mkN (cp_xN X)) from cp_nI_le0 (by omega)) c_9
theorem c_X6_nextPlate {lc : Launch} {E : cp_En} {cnt : Nat} {sh : cp_Shp} {R : cp_Rem} {I : cp_Mem} {c : Nat} (Pl : cp_PL sh R c) (Sl : cp_SL sh R c) {X : cp_St} (hV : cp_XV X) (hX : cp_XR I R c X) {a : Nat → Int32} (hA : cp_MA a (cp_xN X)) : cp_Fr lc E yX6_nextPlate cX6_nextPlate 2 (some .int) 6 [.ref c] cnt sh I R (some (.int (cp_sNext (cp_xN X)))) (fun I' => cp_XR I' R c X ∧ cp_oc c I I') := by
  by_cases hlt : cp_mkN (cp_xN X) < cp_tp (cp_xN X)
  · exact c_X6_nextPlate_1 Pl Sl hV hX hA hlt
  · exact c_X6_nextPlate_0 Pl Sl hV hX hA hlt

