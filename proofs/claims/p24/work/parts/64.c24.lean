theorem i_X1_hasPiece {lc : Launch} {E : cp_En} {cnt : Nat} {sh : cp_Shp} {R : cp_Rem} {I : cp_Mem} {b : Nat} (N : cp_NL sh R b) {Z : cp_Nt} (hn : cp_tn Z ≤ 24) (hH : cp_HN I b Z) {v1 : Int32} : cp_Fn lc E yX1_hasPiece cX1_hasPiece 2 (some .boolean) 0 [.ref b, .int v1] cnt sh I R (some (.int (cp_bi (cp_ip (cp_tn Z) v1)))) I := by
  obtain ⟨h1, h3, h5, h8, hA, hL⟩ := id hH
  have g := c_X1_hasPiece (lc := lc) (E := E) (cnt := cnt) (J := I) (b := b) (o := I b) (S := I (b + 1)) (P := fun i => I (b + 3 + i)) (Q := fun j => I (b + 28 + j)) (v1 := v1) N h3 hn
  rw [cp_nn_self] at g
  exact cp_Fn_eq g (rfl) rfl
theorem i_X1_isPiece {lc : Launch} {E : cp_En} {cnt : Nat} {sh : cp_Shp} {R : cp_Rem} {I : cp_Mem} {b : Nat} (N : cp_NL sh R b) {Z : cp_Nt} (hn : cp_tn Z ≤ 24) (hH : cp_HN I b Z) {v1 v2 : Int32} : cp_Fn lc E yX1_isPiece cX1_isPiece 3 (some .boolean) 1 [.ref b, .int v1, .int v2] cnt sh I R (some (.int (cp_bi (cp_ip (cp_tn Z) v1 && decide (cp_tP Z v1.toInt.toNat 4 = v2))))) I := by
  obtain ⟨h1, h3, h5, h8, hA, hL⟩ := id hH
  have g := c_X1_isPiece (lc := lc) (E := E) (cnt := cnt) (J := I) (b := b) (o := I b) (S := I (b + 1)) (P := fun i => I (b + 3 + i)) (Q := fun j => I (b + 28 + j)) (v1 := v1) (v2 := v2) N h3 hn
  rw [cp_nn_self] at g
  exact cp_Fn_eq g (by
    cases c : cp_ip (cp_tn Z) v1 with
    | false => rw [Bool.false_and, Bool.false_and]
    | true =>
      obtain ⟨p, hp, rfl⟩ := (cp_ip_iff (by omega)).mp c
      have e : (nI p).toInt.toNat = p := cp_nIt (by omega)
      have e4 : I (b + 3 + p) 4 = cp_tP Z p 4 := hA.2.2.2.1 p hp 4 (by decide)
      rw [e, e4]) rfl
theorem i_X1_factOfPiece {lc : Launch} {E : cp_En} {cnt : Nat} {sh : cp_Shp} {R : cp_Rem} {I : cp_Mem} {b : Nat} (N : cp_NL sh R b) {Z : cp_Nt} (hV : cp_NV Z) (hH : cp_HN I b Z) {v1 v2 : Int32} : cp_Fn lc E yX1_factOfPiece cX1_factOfPiece 4 (some .int) 3 [.ref b, .int v1, .int v2] cnt sh I R (some (.int (cp_sOfPiece (cp_ow I b Z) v1 v2))) I := by
  obtain ⟨h1, h3, h5, h8, hA, hL⟩ := id hH
  have hn := hV.2.2.1.1
  have hVo := cp_NV_c hV hA.sy
  have g := c_X1_factOfPiece (lc := lc) (E := E) (cnt := cnt) (J := I) (b := b) (o := I b) (S := I (b + 1)) (P := fun i => I (b + 3 + i)) (Q := fun j => I (b + 28 + j)) (n := cp_tn Z) (mi := cp_tm Z) (np := cp_tp Z) (lq := cp_tl Z) (v1 := v1) (v2 := v2) N h3 hn h5 h8 hVo.2.2.1 hL hVo.2.2.2.1
  rw [cp_nn_self] at g
  exact cp_Fn_eq g (rfl) rfl
theorem i_X1_factOfPlate {lc : Launch} {E : cp_En} {cnt : Nat} {sh : cp_Shp} {R : cp_Rem} {I : cp_Mem} {b : Nat} (N : cp_NL sh R b) {Z : cp_Nt} (hV : cp_NV Z) (hH : cp_HN I b Z) {v1 v2 : Int32} : cp_Fn lc E yX1_factOfPlate cX1_factOfPlate 3 (some .int) 2 [.ref b, .int v1, .int v2] cnt sh I R (some (.int (cp_sOfPlate (cp_ow I b Z) v1 v2))) I := by
  obtain ⟨h1, h3, h5, h8, hA, hL⟩ := id hH
  have hn := hV.2.2.1.1
  have hVo := cp_NV_c hV hA.sy
  have g := c_X1_factOfPlate (lc := lc) (E := E) (cnt := cnt) (J := I) (b := b) (o := I b) (S := I (b + 1)) (P := fun i => I (b + 3 + i)) (Q := fun j => I (b + 28 + j)) (n := cp_tn Z) (mi := cp_tm Z) (np := cp_tp Z) (lq := cp_tl Z) (v1 := v1) (v2 := v2) N h3 hn h1 (by have := hV.2.1; omega) h5 h8 (fun j hj => (hVo.2.2.2.2.2 j hj).1)
  rw [cp_nn_self] at g
  exact cp_Fn_eq g (rfl) rfl
theorem i_X1_factOfNight {lc : Launch} {E : cp_En} {cnt : Nat} {sh : cp_Shp} {R : cp_Rem} {I : cp_Mem} {b : Nat} (N : cp_NL sh R b) {Z : cp_Nt} (hV : cp_NV Z) (hH : cp_HN I b Z) {pad his v1 : Int32} (hw1 : v1 ≠ 14) (hw2 : v1 ≠ 15) : cp_Fn lc E yX1_factOfNight cX1_factOfNight 2 (some .int) 2 [.ref b, .int v1] cnt sh I R (some (.int (cp_sCount (cp_ow I b Z) pad his v1))) I := by
  obtain ⟨h1, h3, h5, h8, hA, hL⟩ := id hH
  have hn := hV.2.2.1.1
  have hVo := cp_NV_c hV hA.sy
  have g := c_X1_factOfNight (lc := lc) (E := E) (cnt := cnt) (J := I) (b := b) (o := I b) (S := I (b + 1)) (P := fun i => I (b + 3 + i)) (Q := fun j => I (b + 28 + j)) (n := cp_tn Z) (mi := cp_tm Z) (np := cp_tp Z) (lq := cp_tl Z) (v1 := v1) (pad := pad) (his := his) N h3 hn h1 (by have := hV.2.1; omega) h5 h8 (fun i hi => (hVo.2.2.2.1 i hi).2.2.2.1) (fun j hj => (hVo.2.2.2.2.2 j hj).1) hw1 hw2
  rw [cp_nn_self] at g
  exact cp_Fn_eq g (rfl) rfl
theorem i_X1_whyNotOnPlate {lc : Launch} {E : cp_En} {cnt : Nat} {sh : cp_Shp} {R : cp_Rem} {I : cp_Mem} {b : Nat} (N : cp_NL sh R b) {Z : cp_Nt} (hV : cp_NV Z) (hH : cp_HN I b Z) {v1 v2 : Int32} : cp_Fn lc E yX1_whyNotOnPlate cX1_whyNotOnPlate 3 (some .int) 5 [.ref b, .int v1, .int v2] cnt sh I R (some (.int (cp_sWhy (cp_ow I b Z) v1 v2))) I := by
  obtain ⟨h1, h3, h5, h8, hA, hL⟩ := id hH
  have hn := hV.2.2.1.1
  have hVo := cp_NV_c hV hA.sy
  have g := c_X1_whyNotOnPlate (lc := lc) (E := E) (cnt := cnt) (J := I) (b := b) (o := I b) (S := I (b + 1)) (P := fun i => I (b + 3 + i)) (Q := fun j => I (b + 28 + j)) (n := cp_tn Z) (mi := cp_tm Z) (np := cp_tp Z) (lq := cp_tl Z) (v1 := v1) (v2 := v2) N h3 hn hVo.2.2.1 hL (fun i hi => (hVo.2.2.2.1 i hi).2.2.2.1)
  rw [cp_nn_self] at g
  exact cp_Fn_eq g (rfl) rfl
theorem i_X1_takenNow {lc : Launch} {E : cp_En} {cnt : Nat} {sh : cp_Shp} {R : cp_Rem} {I : cp_Mem} {b : Nat} (N : cp_NL sh R b) {Z : cp_Nt} (hV : cp_NV Z) (hH : cp_HN I b Z)  : cp_Fn lc E yX1_takenNow cX1_takenNow 6 (some .int) 2 [.ref b] cnt sh I R (some (.int ((cp_now (cp_ow I b Z)).1))) I := by
  obtain ⟨h1, h3, h5, h8, hA, hL⟩ := id hH
  have hn := hV.2.2.1.1
  have hVo := cp_NV_c hV hA.sy
  have g := c_X1_takenNow (lc := lc) (E := E) (cnt := cnt) (J := I) (b := b) (o := I b) (S := I (b + 1)) (P := fun i => I (b + 3 + i)) (Q := fun j => I (b + 28 + j)) N h3 hn
  rw [cp_nn_self] at g
  exact cp_Fn_eq g (rfl) rfl
theorem i_X1_nextDue {lc : Launch} {E : cp_En} {cnt : Nat} {sh : cp_Shp} {R : cp_Rem} {I : cp_Mem} {b : Nat} (N : cp_NL sh R b) {Z : cp_Nt} (hV : cp_NV Z) (hH : cp_HN I b Z)  : cp_Fn lc E yX1_nextDue cX1_nextDue 2 (some .int) 2 [.ref b] cnt sh I R (some (.int (if cp_mkN Z < cp_tp Z then nI (cp_mkN Z) else -6))) I := by
  obtain ⟨h1, h3, h5, h8, hA, hL⟩ := id hH
  have hn := hV.2.2.1.1
  have hVo := cp_NV_c hV hA.sy
  have em := cp_mkN_c hA
  have eo : cp_cnt (fun j => decide (I (b + 28 + j) 0 < I b 1)) (cp_tp Z) = cp_mkN Z := (cp_mk_o h1 (by have := hV.2.1; omega)).trans em
  have g := c_X1_nextDue (lc := lc) (E := E) (cnt := cnt) (J := I) (b := b) (o := I b) (S := I (b + 1)) (P := fun i => I (b + 3 + i)) (Q := fun j => I (b + 28 + j)) N h5 h8
  rw [cp_nn_self] at g
  exact cp_Fn_eq g (by rw [eo]) rfl
theorem i_X1_minutesToPlate {lc : Launch} {E : cp_En} {cnt : Nat} {sh : cp_Shp} {R : cp_Rem} {I : cp_Mem} {b : Nat} (N : cp_NL sh R b) {Z : cp_Nt} (hV : cp_NV Z) (hH : cp_HN I b Z) {j : Nat} (hj : j < cp_tp Z) : cp_Fn lc E yX1_minutesToPlate cX1_minutesToPlate 2 (some .int) 0 [.ref b, .int (nI j)] cnt sh I R (some (.int (cp_tQ Z j 0 - nI (cp_tm Z) + 1))) I := by
  obtain ⟨h1, h3, h5, h8, hA, hL⟩ := id hH
  have hn := hV.2.2.1.1
  have hVo := cp_NV_c hV hA.sy
  have eq : I (b + 28 + j) 0 = cp_tQ Z j 0 := hA.2.2.2.2.2.1 j hj 0 (by decide)
  have g := c_X1_minutesToPlate (lc := lc) (E := E) (cnt := cnt) (J := I) (b := b) (o := I b) (S := I (b + 1)) (P := fun i => I (b + 3 + i)) (Q := fun j => I (b + 28 + j)) N h5 h8 hj
  rw [cp_nn_self] at g
  exact cp_Fn_eq g (by rw [h1, eq]) rfl
theorem i_X1_piecesForPlate {lc : Launch} {E : cp_En} {cnt : Nat} {sh : cp_Shp} {R : cp_Rem} {I : cp_Mem} {b : Nat} (N : cp_NL sh R b) {Z : cp_Nt} (hV : cp_NV Z) (hH : cp_HN I b Z)  : cp_Fn lc E yX1_piecesForPlate cX1_piecesForPlate 3 (some .int) 1 [.ref b] cnt sh I R (some (.int (cp_st (cp_fr (fun i => I (b + 3 + i))) (cp_tn Z)))) I := by
  obtain ⟨h1, h3, h5, h8, hA, hL⟩ := id hH
  have hn := hV.2.2.1.1
  have hVo := cp_NV_c hV hA.sy
  have g := c_X1_piecesForPlate (lc := lc) (E := E) (cnt := cnt) (J := I) (b := b) (o := I b) (S := I (b + 1)) (P := fun i => I (b + 3 + i)) (Q := fun j => I (b + 28 + j)) N h3 hn
  rw [cp_nn_self] at g
  exact cp_Fn_eq g (rfl) rfl
theorem i_X1_linesOf {lc : Launch} {E : cp_En} {cnt : Nat} {sh : cp_Shp} {R : cp_Rem} {I : cp_Mem} {b : Nat} (N : cp_NL sh R b) {Z : cp_Nt} (hV : cp_NV Z) (hH : cp_HN I b Z)  : cp_Fn lc E yX1_linesOf cX1_linesOf 4 (some .int) 1 [.ref b, .int (cp_st (cp_fr (fun i => I (b + 3 + i))) (cp_tn Z))] cnt sh I R (some (.int (cp_fl (cp_tP Z) (cp_tn Z)))) I := by
  obtain ⟨h1, h3, h5, h8, hA, hL⟩ := id hH
  have hn := hV.2.2.1.1
  have hVo := cp_NV_c hV hA.sy
  have g := c_X1_linesOf (lc := lc) (E := E) (cnt := cnt) (J := I) (b := b) (o := I b) (S := I (b + 1)) (P := fun i => I (b + 3 + i)) (Q := fun j => I (b + 28 + j)) (v1 := cp_st (cp_fr (fun i => I (b + 3 + i))) (cp_tn Z)) N h3 hn
  rw [cp_nn_self] at g
  exact cp_Fn_eq g (by rw [cp_lin_fl hn _ (Nat.le_refl _), cp_fl_c hA.2.2.2.1 _ (Nat.le_refl _)]) rfl
set_option maxHeartbeats 4000000 in
set_option maxRecDepth 100000 in
theorem c_X6_ofPiece {lc : Launch} {E : cp_En} {cnt : Nat} {sh : cp_Shp} {R : cp_Rem} {I : cp_Mem} {c : Nat} (Pl : cp_PL sh R c) (Sl : cp_SL sh R c) {X : cp_St} (hV : cp_XV X) (hX : cp_XR I R c X) (hE : cp_xN X = cp_ow I (c + 1) (cp_xN X)) {v1 v2 : Int32} : cp_Fn lc E yX6_ofPiece cX6_ofPiece 3 (some .int) 4 [.ref c, .int v1, .int v2] cnt sh I R (some (.int (cp_sOfPiece (cp_xN X) v1 v2))) I := by
  refine cp_Fn_i [some (.ref c), some (.int v1), some (.int v2)] (by decide +kernel) (Nat.le_of_ble_eq_true rfl) rfl rfl (fun x hxl O hr => ?_)
  subst hxl
  refine cp_aload_n O dX6_ofPiece_0 cp_lg0 ?_
  refine fg_X6_10 O Pl.s Pl.f0 dX6_ofPiece_1 ?_
  refine cp_iload_n O dX6_ofPiece_4 cp_lg1 ?_
  refine cp_iload_n O dX6_ofPiece_5 cp_lg2 ?_
  refine cp_cVi O me_X1_factOfPiece mi_X1_factOfPiece ml_X6_74 cp_cX1 (Pl.night).s (i_X1_factOfPiece Pl.night hV.1 hX.1) dX6_ofPiece_6 rfl rfl ⟨Nat.le_of_ble_eq_true rfl, Nat.le_of_ble_eq_true rfl⟩ ⟨Nat.le_refl _, Nat.le_refl _⟩ (Nat.le_of_ble_eq_true rfl) ?_
  rw [← hE]
  exact hr _ _ _ _ dX6_ofPiece_9 rfl rfl
set_option maxHeartbeats 4000000 in
set_option maxRecDepth 100000 in
theorem c_X6_ofPlate {lc : Launch} {E : cp_En} {cnt : Nat} {sh : cp_Shp} {R : cp_Rem} {I : cp_Mem} {c : Nat} (Pl : cp_PL sh R c) (Sl : cp_SL sh R c) {X : cp_St} (hV : cp_XV X) (hX : cp_XR I R c X) (hE : cp_xN X = cp_ow I (c + 1) (cp_xN X)) {v1 v2 : Int32} : cp_Fn lc E yX6_ofPlate cX6_ofPlate 3 (some .int) 3 [.ref c, .int v1, .int v2] cnt sh I R (some (.int (cp_sOfPlate (cp_xN X) v1 v2))) I := by
  refine cp_Fn_i [some (.ref c), some (.int v1), some (.int v2)] (by decide +kernel) (Nat.le_of_ble_eq_true rfl) rfl rfl (fun x hxl O hr => ?_)
  subst hxl
  refine cp_aload_n O dX6_ofPlate_0 cp_lg0 ?_
  refine fg_X6_10 O Pl.s Pl.f0 dX6_ofPlate_1 ?_
  refine cp_iload_n O dX6_ofPlate_4 cp_lg1 ?_
  refine cp_iload_n O dX6_ofPlate_5 cp_lg2 ?_
  refine cp_cVi O me_X1_factOfPlate mi_X1_factOfPlate ml_X6_77 cp_cX1 (Pl.night).s (i_X1_factOfPlate Pl.night hV.1 hX.1) dX6_ofPlate_6 rfl rfl ⟨Nat.le_of_ble_eq_true rfl, Nat.le_of_ble_eq_true rfl⟩ ⟨Nat.le_refl _, Nat.le_refl _⟩ (Nat.le_of_ble_eq_true rfl) ?_
  rw [← hE]
  exact hr _ _ _ _ dX6_ofPlate_9 rfl rfl
set_option maxHeartbeats 4000000 in
set_option maxRecDepth 100000 in
theorem c_X6_why {lc : Launch} {E : cp_En} {cnt : Nat} {sh : cp_Shp} {R : cp_Rem} {I : cp_Mem} {c : Nat} (Pl : cp_PL sh R c) (Sl : cp_SL sh R c) {X : cp_St} (hV : cp_XV X) (hX : cp_XR I R c X) (hE : cp_xN X = cp_ow I (c + 1) (cp_xN X)) {v1 v2 : Int32} : cp_Fn lc E yX6_why cX6_why 3 (some .int) 6 [.ref c, .int v1, .int v2] cnt sh I R (some (.int (cp_sWhy (cp_xN X) v1 v2))) I := by
  refine cp_Fn_i [some (.ref c), some (.int v1), some (.int v2)] (by decide +kernel) (Nat.le_of_ble_eq_true rfl) rfl rfl (fun x hxl O hr => ?_)
  subst hxl
  refine cp_aload_n O dX6_why_0 cp_lg0 ?_
  refine fg_X6_10 O Pl.s Pl.f0 dX6_why_1 ?_
  refine cp_iload_n O dX6_why_4 cp_lg1 ?_
  refine cp_iload_n O dX6_why_5 cp_lg2 ?_
  refine cp_cVi O me_X1_whyNotOnPlate mi_X1_whyNotOnPlate ml_X6_90 cp_cX1 (Pl.night).s (i_X1_whyNotOnPlate Pl.night hV.1 hX.1) dX6_why_6 rfl rfl ⟨Nat.le_of_ble_eq_true rfl, Nat.le_of_ble_eq_true rfl⟩ ⟨Nat.le_refl _, Nat.le_refl _⟩ (Nat.le_of_ble_eq_true rfl) ?_
  rw [← hE]
  exact hr _ _ _ _ dX6_why_9 rfl rfl
set_option maxHeartbeats 4000000 in
set_option maxRecDepth 100000 in
theorem c_X6_plateNow {lc : Launch} {E : cp_En} {cnt : Nat} {sh : cp_Shp} {R : cp_Rem} {I : cp_Mem} {c : Nat} (Pl : cp_PL sh R c) (Sl : cp_SL sh R c) {X : cp_St} (hV : cp_XV X) (hX : cp_XR I R c X) (hE : cp_xN X = cp_ow I (c + 1) (cp_xN X)) : cp_Fn lc E yX6_plateNow cX6_plateNow 1 (some .int) 3 [.ref c] cnt sh I R (some (.int ((cp_now (cp_xN X)).1))) I := by
  refine cp_Fn_i [some (.ref c)] (by decide +kernel) (Nat.le_of_ble_eq_true rfl) rfl rfl (fun x hxl O hr => ?_)
  subst hxl
  refine cp_aload_n O dX6_plateNow_0 cp_lg0 ?_
  refine fg_X6_10 O Pl.s Pl.f0 dX6_plateNow_1 ?_
  refine cp_cVi O me_X1_takenNow mi_X1_takenNow ml_X6_93 cp_cX1 (Pl.night).s (i_X1_takenNow Pl.night hV.1 hX.1) dX6_plateNow_4 rfl rfl ⟨Nat.le_of_ble_eq_true rfl, Nat.le_of_ble_eq_true rfl⟩ ⟨Nat.le_refl _, Nat.le_refl _⟩ (Nat.le_of_ble_eq_true rfl) ?_
  rw [← hE]
  exact hr _ _ _ _ dX6_plateNow_7 rfl rfl
theorem cp_c14 (N : cp_Nt) (p h : Int32) : cp_sCount N p h 14 = p := by
  unfold cp_sCount
  rfl
theorem cp_c15 (N : cp_Nt) (p h : Int32) : cp_sCount N p h 15 = h := by
  unfold cp_sCount
  rfl
set_option maxHeartbeats 4000000 in
set_option maxRecDepth 100000 in
theorem c_X6_count {lc : Launch} {E : cp_En} {cnt : Nat} {sh : cp_Shp} {R : cp_Rem} {I : cp_Mem} {c : Nat} (Pl : cp_PL sh R c) (Sl : cp_SL sh R c) {X : cp_St} (hV : cp_XV X) (hX : cp_XR I R c X) (hE : cp_xN X = cp_ow I (c + 1) (cp_xN X)) {v1 : Int32} : cp_Fn lc E yX6_count cX6_count 2 (some .int) 3 [.ref c, .int v1] cnt sh I R (some (.int (cp_sCount (cp_xN X) (nI (cp_xn X)) (nI (cp_xL X)) v1))) I := by
  obtain ⟨hN, ⟨nx, hx7, hnx, hL0, hHs⟩, hZ, hT, hTt⟩ := id hX
  refine cp_Fn_i [some (.ref c), some (.int v1)] (by decide +kernel) (Nat.le_of_ble_eq_true rfl) rfl rfl (fun x hxl O hr => ?_)
  subst hxl
  refine cp_iload_n O dX6_count_0 cp_lg1 ?_
  refine cp_bipush O dX6_count_1 (v := 14) rfl ?_
  refine cp_icmp_ne (tgt := 14) O dX6_count_3 (by decide) (fun c_3 => ?_) (fun c_3 => ?_)
  · refine cp_iload_n O dX6_count_14 cp_lg1 ?_
    refine cp_bipush O dX6_count_15 (v := 15) rfl ?_
    refine cp_icmp_ne (tgt := 28) O dX6_count_17 (by decide) (fun c_17 => ?_) (fun c_17 => ?_)
    · refine cp_aload_n O dX6_count_28 cp_lg0 ?_
      refine fg_X6_10 O Pl.s Pl.f0 dX6_count_29 ?_
      refine cp_iload_n O dX6_count_32 cp_lg1 ?_
      refine cp_cVi O me_X1_factOfNight mi_X1_factOfNight ml_X6_87 cp_cX1 (Pl.night).s (i_X1_factOfNight (pad := nI (cp_xn X)) (his := nI (cp_xL X)) Pl.night hV.1 hX.1 c_3 c_17) dX6_count_33 rfl rfl ⟨Nat.le_of_ble_eq_true rfl, Nat.le_of_ble_eq_true rfl⟩ ⟨Nat.le_refl _, Nat.le_refl _⟩ (Nat.le_of_ble_eq_true rfl) ?_
      rw [← hE]
      exact hr _ _ _ _ dX6_count_36 rfl rfl
    · refine cp_aload_n O dX6_count_20 cp_lg0 ?_
      refine fg_X6_22 O Pl.s Pl.f2 dX6_count_21 ?_
      refine fg_X6_84 O (Pl.hist).s dX6_count_24 ?_
      exact hr _ _ _ _ dX6_count_27 (by rw [hL0, show v1 = 15 from c_17, cp_c15]) rfl
  · refine cp_aload_n O dX6_count_6 cp_lg0 ?_
    refine fg_X6_33 O Pl.s Pl.f4 dX6_count_7 ?_
    refine fg_X6_80 O (Pl.pad).s dX6_count_10 ?_
    exact hr _ _ _ _ dX6_count_13 (by rw [hT, show v1 = 14 from c_3, cp_c14]) rfl

