/-! TWO OBJECTS OF THE CLASS IN ONE MEMORY -/
theorem cp_chg_N {X : cp_St} {o : Int32 × cp_Nt} (he : o.1 < 0 → o.2 = cp_xN X) : cp_xN (cp_chg X o).2 = o.2 := by
  unfold cp_chg
  split
  · rename_i h
    exact (he h).symm
  · rfl
theorem cp_XV_chg {X : cp_St} {o : Int32 × cp_Nt} (hV : cp_XV X) (hN : cp_NV o.2) : cp_XV (cp_chg X o).2 := by
  unfold cp_chg
  split
  · exact hV
  · obtain ⟨h1, h2, h3, h4⟩ := hV
    refine ⟨hN, ?_, fun i hi => ?_, h4⟩
    · show cp_L1 (cp_xL X) + 1 ≤ 6
      unfold cp_L1
      split <;> omega
    · show cp_NV (if i < cp_L1 (cp_xL X) then cp_xH X (i + cp_L0 (cp_xL X)) else cp_xN X)
      split
      · rename_i hl
        exact h3 _ (cp_L1_0 h2 hl)
      · exact h1
/-- no slot holds a night -/
def cp_nz (R : cp_Rem) (c : Nat) : Prop := ∀ s, R (c + 327) s = none
theorem cp_nz_SL {sh : cp_Shp} {R : cp_Rem} {c : Nat} (h : cp_nz R c) : cp_SL sh R c := ⟨fun s a _ e => (by rw [h s] at e; cases e), fun a0 a1 e _ => (by rw [h 0] at e; cases e)⟩
theorem cp_XR_e1 {R R' : cp_Rem} {I I' : cp_Mem} {c : Nat} {X : cp_St} (hz : cp_nz R c) (hV : cp_XV X) (hX : cp_XR I R c X) (e : ∀ x, c ≤ x → x < c + 331 → I' x = I x) (er : R' (c + 327) = R (c + 327)) : cp_XR I' R' c X := by
  obtain ⟨hN, ⟨nx, hx7, hnx, hL0, hHs⟩, hZ, hT, hTt⟩ := hX
  refine ⟨cp_HN_e hN hV.1 (fun x h1 h2 => e x (by omega) (by omega)), ⟨nx, hx7, ?_, ?_, fun i hi => ?_⟩, fun s hs => ?_, ?_, fun i hi => ?_⟩
  · rw [e _ (by omega) (by omega)]; exact hnx
  · rw [e _ (by omega) (by omega)]; exact hL0
  · have p := (cp_ps_ne hx7 hV.2.1 hi).2
    exact cp_HN_e (hHs i hi) (hV.2.2.1 i hi) (fun x h1 h2 => e x (by omega) (by omega))
  · have h := hZ s hs
    cases ho : cp_xZ X s with
    | none =>
      show R' (c + 327) s = none
      rw [er]; exact hz s
    | some Z =>
      rw [ho] at h
      obtain ⟨a, ha, -⟩ := h
      rw [hz s] at ha
      cases ha
  · rw [e _ (by omega) (by omega)]; exact hT
  · rw [e _ (by omega) (by omega)]; exact hTt i hi
/-- an object at c holds the night N -/
def cp_H1 (I : cp_Mem) (R : cp_Rem) (c : Nat) (N : cp_Nt) : Prop := ∃ X, cp_xN X = N ∧ cp_XV X ∧ cp_XR I R c X
theorem cp_H1_e {R R' : cp_Rem} {I I' : cp_Mem} {c : Nat} {N : cp_Nt} (hz : cp_nz R c) (h : cp_H1 I R c N) (e : ∀ x, c ≤ x → x < c + 331 → I' x = I x) (er : R' (c + 327) = R (c + 327)) : cp_H1 I' R' c N := by
  obtain ⟨X, h1, h2, h3⟩ := h
  exact ⟨X, h1, h2, cp_XR_e1 hz h2 h3 e er⟩
theorem cp_H1_V {R : cp_Rem} {I : cp_Mem} {c : Nat} {N : cp_Nt} (h : cp_H1 I R c N) : cp_NV N ∧ cp_tp N ≤ 8 := by
  obtain ⟨X, rfl, h2, h3⟩ := h
  exact ⟨h2.1, h3.1.2.2.2.1⟩
def cp_TW (sh : cp_Shp) (R : cp_Rem) (I : cp_Mem) (c c' : Nat) (N N' : cp_Nt) : Prop := cp_PL sh R c ∧ cp_PL sh R c' ∧ cp_nz R c ∧ cp_nz R c' ∧ (c + 331 ≤ c' ∨ c' + 331 ≤ c) ∧ cp_H1 I R c N ∧ cp_H1 I R c' N'
theorem cp_TW.sy {sh : cp_Shp} {R : cp_Rem} {I : cp_Mem} {c c' : Nat} {N N' : cp_Nt} (h : cp_TW sh R I c c' N N') : cp_TW sh R I c' c N' N := ⟨h.2.1, h.1, h.2.2.2.1, h.2.2.1, h.2.2.2.2.1.symm, h.2.2.2.2.2.2, h.2.2.2.2.2.1⟩
theorem cp_TW.s {sh : cp_Shp} {R : cp_Rem} {I : cp_Mem} {c c' : Nat} {N N' : cp_Nt} (h : cp_TW sh R I c c' N N') : sh c = (7, 0) := h.1.s
theorem cp_TW.s' {sh : cp_Shp} {R : cp_Rem} {I : cp_Mem} {c c' : Nat} {N N' : cp_Nt} (h : cp_TW sh R I c c' N N') : sh c' = (7, 0) := h.2.1.s
theorem cp_TW.V {sh : cp_Shp} {R : cp_Rem} {I : cp_Mem} {c c' : Nat} {N N' : cp_Nt} (h : cp_TW sh R I c c' N N') : cp_NV N ∧ cp_tp N ≤ 8 := cp_H1_V h.2.2.2.2.2.1
theorem cp_TW.nx {sh : cp_Shp} {R : cp_Rem} {I I' : cp_Mem} {c c' : Nat} {N N' N1 : cp_Nt} (h : cp_TW sh R I c c' N N') (h1 : cp_H1 I' R c N1) (ho : cp_oc c I I') : cp_TW sh R I' c c' N1 N' := by
  obtain ⟨a1, a2, a3, a4, a5, a6, a7⟩ := h
  exact ⟨a1, a2, a3, a4, a5, h1, cp_H1_e a4 a7 (fun x hx1 hx2 => ho x (by omega)) rfl⟩
/-- cells that are neither's don't matter -/
theorem cp_TW.ot {sh sh' : cp_Shp} {R R' : cp_Rem} {I I' : cp_Mem} {c c' : Nat} {N N' : cp_Nt} (h : cp_TW sh R I c c' N N') (e : ∀ x, (c ≤ x ∧ x < c + 331) ∨ (c' ≤ x ∧ x < c' + 331) → sh' x = sh x ∧ R' x = R x ∧ I' x = I x) : cp_TW sh' R' I' c c' N N' := by
  obtain ⟨a1, a2, a3, a4, a5, a6, a7⟩ := h
  have e1 : R' (c + 327) = R (c + 327) := (e _ (Or.inl (by omega))).2.1
  have e2 : R' (c' + 327) = R (c' + 327) := (e _ (Or.inr (by omega))).2.1
  exact ⟨cp_PL_e a1 (fun x h1 h2 => ⟨(e x (Or.inl ⟨h1, h2⟩)).1, fun _ => (e x (Or.inl ⟨h1, h2⟩)).2.1⟩), cp_PL_e a2 (fun x h1 h2 => ⟨(e x (Or.inr ⟨h1, h2⟩)).1, fun _ => (e x (Or.inr ⟨h1, h2⟩)).2.1⟩),
    fun s => by rw [e1]; exact a3 s, fun s => by rw [e2]; exact a4 s, a5, cp_H1_e a3 a6 (fun x h1 h2 => (e x (Or.inl ⟨h1, h2⟩)).2.2) e1, cp_H1_e a4 a7 (fun x h1 h2 => (e x (Or.inr ⟨h1, h2⟩)).2.2) e2⟩
theorem cp_H1_chg {R : cp_Rem} {I' : cp_Mem} {c : Nat} {X : cp_St} {o : Int32 × cp_Nt} (hV : cp_XV X) (hN : cp_NV o.2) (he : o.1 < 0 → o.2 = cp_xN X) (h : cp_XR I' R c (cp_chg X o).2) : cp_H1 I' R c o.2 := ⟨(cp_chg X o).2, cp_chg_N he, cp_XV_chg hV hN, h⟩
/-- plates' minutes -/
def cp_QB (N : cp_Nt) : Prop := ∀ j, j < cp_tp N → ∃ t, t < 600 ∧ cp_tQ N j 0 = nI t
def cp_mk (N : cp_Nt) : Nat → Int32 := fun x => if x < 4 then cp_tS N x else if x = 4 then nI (cp_tm N) else if x = 5 then nI (cp_tn N) else if x = 6 then nI (cp_tp N) else if x = 7 then nI (cp_cnt (fun j => decide ((cp_tQ N j 0).toInt < cp_tm N)) (cp_tp N)) else if x < 14 then nI (cp_LL (cp_tn N) (cp_tP N) (cp_tl N) (x - 8)).length else if x < 158 then nI ((cp_LL (cp_tn N) (cp_tP N) (cp_tl N) ((x - 14) / 24)).getD ((x - 14) % 24) 0) else if x < 374 then cp_tP N ((x - 158) / 9) ((x - 158) % 9) else if (x - 374) % 4 = 0 then cp_tQ N ((x - 374) / 4) 0 else if (x - 374) % 4 = 1 then cp_bi (decide ((cp_tQ N ((x - 374) / 4) 0).toInt < cp_tm N)) else if (x - 374) % 4 = 2 then cp_tQ N ((x - 374) / 4) 1 else cp_tQ N ((x - 374) / 4) 2
theorem cp_LL_24 {n : Nat} {P : cp_PP} {l : List Nat} (h : cp_PV n P l) (q : Nat) : (cp_LL n P l q).length ≤ 24 := by
  have h24 := h.1
  unfold cp_LL
  split
  · have := cp_len_le n l h.2.2.1 (fun x hx => ((h.2.2.2 x).mp hx).1)
    omega
  · have := cp_dq_le n P q
    omega
theorem cp_MA_ex {N : cp_Nt} (hV : cp_NV N) (h8 : cp_tp N ≤ 8) (hQ : cp_QB N) : ∃ a, cp_MA a N := by
  have h24 := hV.2.2.1.1
  refine ⟨cp_mk N, fun k hk => ?_, ?_, ?_, ⟨fun i hi f hf => ?_, fun q hq => ⟨?_, cp_LL_24 hV.2.2.1 q, fun k hk => ?_⟩⟩, h8, ?_, fun j hj => ⟨hQ j hj, ?_, ?_, ?_, ?_⟩, ?_⟩
  · unfold cp_mk; rw [if_pos hk]
  · rfl
  · rfl
  · unfold cp_mk
    rw [if_neg (by omega), if_neg (by omega), if_neg (by omega), if_neg (by omega), if_neg (by omega), if_neg (by omega), if_neg (by omega), if_pos (by omega), show (158 + 9 * i + f - 158) / 9 = i by omega, show (158 + 9 * i + f - 158) % 9 = f by omega]
  · unfold cp_mk
    rw [if_neg (by omega), if_neg (by omega), if_neg (by omega), if_neg (by omega), if_neg (by omega), if_pos (by omega), show 8 + q - 8 = q by omega]
  · have h2 := cp_LL_24 hV.2.2.1 q
    unfold cp_mk
    rw [if_neg (by omega), if_neg (by omega), if_neg (by omega), if_neg (by omega), if_neg (by omega), if_neg (by omega), if_pos (by omega), show (14 + 24 * q + k - 14) / 24 = q by omega, show (14 + 24 * q + k - 14) % 24 = k by omega]
  · rfl
  · unfold cp_mk
    rw [if_neg (by omega), if_neg (by omega), if_neg (by omega), if_neg (by omega), if_neg (by omega), if_neg (by omega), if_neg (by omega), if_neg (by omega), if_pos (by omega), show (374 + 4 * j - 374) / 4 = j by omega]
  · unfold cp_mk
    rw [if_neg (by omega), if_neg (by omega), if_neg (by omega), if_neg (by omega), if_neg (by omega), if_neg (by omega), if_neg (by omega), if_neg (by omega), if_neg (by omega), if_pos (by omega), show (374 + 4 * j + 1 - 374) / 4 = j by omega]
  · unfold cp_mk
    rw [if_neg (by omega), if_neg (by omega), if_neg (by omega), if_neg (by omega), if_neg (by omega), if_neg (by omega), if_neg (by omega), if_neg (by omega), if_neg (by omega), if_neg (by omega), if_pos (by omega), show (374 + 4 * j + 2 - 374) / 4 = j by omega]
  · unfold cp_mk
    rw [if_neg (by omega), if_neg (by omega), if_neg (by omega), if_neg (by omega), if_neg (by omega), if_neg (by omega), if_neg (by omega), if_neg (by omega), if_neg (by omega), if_neg (by omega), if_neg (by omega), show (374 + 4 * j + 3 - 374) / 4 = j by omega]
  · rfl
theorem tw_set {lc : Launch} {E : cp_En} {cnt : Nat} {sh : cp_Shp} {R : cp_Rem} {I : cp_Mem} {c c' : Nat} {N N' : cp_Nt} (h : cp_TW sh R I c c' N N') {v1 v2 : Int32} : cp_Fr lc E yX6_set cX6_set 3 (some .int) 3 [.ref c, .int v1, .int v2] cnt sh I R (some (.int (cp_sSet N v1 v2).1)) (fun I' => cp_TW sh R I' c c' (cp_sSet N v1 v2).2 N' ∧ cp_oc c I I') := by
  obtain ⟨X, rfl, hV, hX⟩ := h.2.2.2.2.2.1
  have h8 := hX.1.2.2.2.1
  exact cp_Fr_mono (c_X6_set h.1 (cp_nz_SL h.2.2.1) hV hX) (by rw [cp_chg_1]) (fun i hi => ⟨h.nx (cp_H1_chg hV (cp_NV_set hV.1) (cp_err_set hV.1) hi.1) hi.2, hi.2⟩)
theorem tw_piece {lc : Launch} {E : cp_En} {cnt : Nat} {sh : cp_Shp} {R : cp_Rem} {I : cp_Mem} {c c' : Nat} {N N' : cp_Nt} (h : cp_TW sh R I c c' N N') {v1 v2 v3 v4 : Int32} : cp_Fr lc E yX6_piece cX6_piece 5 (some .int) 3 [.ref c, .int v1, .int v2, .int v3, .int v4] cnt sh I R (some (.int (cp_sPiece N v1 v2 v3 v4).1)) (fun I' => cp_TW sh R I' c c' (cp_sPiece N v1 v2 v3 v4).2 N' ∧ cp_oc c I I') := by
  obtain ⟨X, rfl, hV, hX⟩ := h.2.2.2.2.2.1
  have h8 := hX.1.2.2.2.1
  exact cp_Fr_mono (c_X6_piece h.1 (cp_nz_SL h.2.2.1) hV hX) (by rw [cp_chg_1]) (fun i hi => ⟨h.nx (cp_H1_chg hV (cp_NV_piece hV.1) (cp_err_piece hV.1) hi.1) hi.2, hi.2⟩)
theorem tw_plate {lc : Launch} {E : cp_En} {cnt : Nat} {sh : cp_Shp} {R : cp_Rem} {I : cp_Mem} {c c' : Nat} {N N' : cp_Nt} (h : cp_TW sh R I c c' N N') {v1 : Int32} : cp_Fr lc E yX6_plate cX6_plate 2 (some .int) 3 [.ref c, .int v1] cnt sh I R (some (.int (cp_sPlate N v1).1)) (fun I' => cp_TW sh R I' c c' (cp_sPlate N v1).2 N' ∧ cp_oc c I I') := by
  obtain ⟨X, rfl, hV, hX⟩ := h.2.2.2.2.2.1
  have h8 := hX.1.2.2.2.1
  exact cp_Fr_mono (c_X6_plate h.1 (cp_nz_SL h.2.2.1) hV hX) (by rw [cp_chg_1]) (fun i hi => ⟨h.nx (cp_H1_chg hV (cp_NV_plate hV.1) (cp_err_plate h8) hi.1) hi.2, hi.2⟩)
theorem tw_hold {lc : Launch} {E : cp_En} {cnt : Nat} {sh : cp_Shp} {R : cp_Rem} {I : cp_Mem} {c c' : Nat} {N N' : cp_Nt} (h : cp_TW sh R I c c' N N') {v1 : Int32} : cp_Fr lc E yX6_hold cX6_hold 2 (some .int) 3 [.ref c, .int v1] cnt sh I R (some (.int (cp_sHold N v1).1)) (fun I' => cp_TW sh R I' c c' (cp_sHold N v1).2 N' ∧ cp_oc c I I') := by
  obtain ⟨X, rfl, hV, hX⟩ := h.2.2.2.2.2.1
  have h8 := hX.1.2.2.2.1
  exact cp_Fr_mono (c_X6_hold h.1 (cp_nz_SL h.2.2.1) hV hX) (by rw [cp_chg_1]) (fun i hi => ⟨h.nx (cp_H1_chg hV (cp_NV_hold hV.1) (cp_err_hold hV.1) hi.1) hi.2, hi.2⟩)
theorem tw_kill {lc : Launch} {E : cp_En} {cnt : Nat} {sh : cp_Shp} {R : cp_Rem} {I : cp_Mem} {c c' : Nat} {N N' : cp_Nt} (h : cp_TW sh R I c c' N N') {v1 : Int32} : cp_Fr lc E yX6_kill cX6_kill 2 (some .int) 5 [.ref c, .int v1] cnt sh I R (some (.int (cp_sKill N v1).1)) (fun I' => cp_TW sh R I' c c' (cp_sKill N v1).2 N' ∧ cp_oc c I I') := by
  obtain ⟨X, rfl, hV, hX⟩ := h.2.2.2.2.2.1
  have h8 := hX.1.2.2.2.1
  exact cp_Fr_mono (c_X6_kill h.1 (cp_nz_SL h.2.2.1) hV hX) (by rw [cp_chg_1]) (fun i hi => ⟨h.nx (cp_H1_chg hV (cp_NV_kill hV.1) (cp_err_kill) hi.1) hi.2, hi.2⟩)
theorem tw_pass {lc : Launch} {E : cp_En} {cnt : Nat} {sh : cp_Shp} {R : cp_Rem} {I : cp_Mem} {c c' : Nat} {N N' : cp_Nt} (h : cp_TW sh R I c c' N N') {v1 : Int32} : cp_Fr lc E yX6_pass cX6_pass 2 (some .int) 5 [.ref c, .int v1] cnt sh I R (some (.int (cp_sPass N v1).1)) (fun I' => cp_TW sh R I' c c' (cp_sPass N v1).2 N' ∧ cp_oc c I I') := by
  obtain ⟨X, rfl, hV, hX⟩ := h.2.2.2.2.2.1
  have h8 := hX.1.2.2.2.1
  exact cp_Fr_mono (c_X6_pass h.1 (cp_nz_SL h.2.2.1) hV hX) (by rw [cp_chg_1]) (fun i hi => ⟨h.nx (cp_H1_chg hV (cp_NV_pass hV.1) (cp_err_pass hV.1) hi.1) hi.2, hi.2⟩)
theorem cp_H1_ow {R : cp_Rem} {I : cp_Mem} {c : Nat} {N : cp_Nt} (h : cp_H1 I R c N) : ∃ X, cp_xN X = cp_ow I (c + 1) (cp_xN X) ∧ cp_AN (cp_xN X) N ∧ cp_XV X ∧ cp_XR I R c X := by
  obtain ⟨X, rfl, hV, hX⟩ := h
  obtain ⟨⟨h1, h3, h5, h8, hA, hL⟩, hX2⟩ := hX
  exact ⟨(cp_ow I (c + 1) (cp_xN X), X.2), rfl, hA, ⟨cp_NV_c hV.1 hA.sy, hV.2⟩, ⟨h1, h3, h5, h8, cp_AN.rf, hL⟩, hX2⟩
theorem cp_sCount_n {N : cp_Nt} {a b w : Int32} (h1 : w ≠ 14) (h2 : w ≠ 15) : cp_sCount N a b w = cp_sCount N 0 0 w := by
  unfold cp_sCount
  rw [if_neg (c := w = 14) h1, if_neg (c := w = 14) h1, if_neg (c := w = 15) h2, if_neg (c := w = 15) h2]
theorem tw_ofPiece {lc : Launch} {E : cp_En} {cnt : Nat} {sh : cp_Shp} {R : cp_Rem} {I : cp_Mem} {c c' : Nat} {N N' : cp_Nt} (h : cp_TW sh R I c c' N N') {v1 v2 : Int32} : cp_Fn lc E yX6_ofPiece cX6_ofPiece 3 (some .int) 4 [.ref c, .int v1, .int v2] cnt sh I R (some (.int (cp_sOfPiece N v1 v2))) I := by
  obtain ⟨X, hE, hA, hV, hX⟩ := cp_H1_ow h.2.2.2.2.2.1
  rw [← cp_sOfPiece_cc hV.1.2.2.1.1 hA]
  exact c_X6_ofPiece h.1 (cp_nz_SL h.2.2.1) hV hX hE
theorem tw_ofPlate {lc : Launch} {E : cp_En} {cnt : Nat} {sh : cp_Shp} {R : cp_Rem} {I : cp_Mem} {c c' : Nat} {N N' : cp_Nt} (h : cp_TW sh R I c c' N N') {v1 v2 : Int32} : cp_Fn lc E yX6_ofPlate cX6_ofPlate 3 (some .int) 3 [.ref c, .int v1, .int v2] cnt sh I R (some (.int (cp_sOfPlate N v1 v2))) I := by
  obtain ⟨X, hE, hA, hV, hX⟩ := cp_H1_ow h.2.2.2.2.2.1
  rw [← cp_sOfPlate_cc hX.1.2.2.2.1 hA]
  exact c_X6_ofPlate h.1 (cp_nz_SL h.2.2.1) hV hX hE
theorem tw_why {lc : Launch} {E : cp_En} {cnt : Nat} {sh : cp_Shp} {R : cp_Rem} {I : cp_Mem} {c c' : Nat} {N N' : cp_Nt} (h : cp_TW sh R I c c' N N') {v1 v2 : Int32} : cp_Fn lc E yX6_why cX6_why 3 (some .int) 6 [.ref c, .int v1, .int v2] cnt sh I R (some (.int (cp_sWhy N v1 v2))) I := by
  obtain ⟨X, hE, hA, hV, hX⟩ := cp_H1_ow h.2.2.2.2.2.1
  rw [← cp_sWhy_cc hV.1.2.2.1.1 hA]
  exact c_X6_why h.1 (cp_nz_SL h.2.2.1) hV hX hE
theorem tw_count {lc : Launch} {E : cp_En} {cnt : Nat} {sh : cp_Shp} {R : cp_Rem} {I : cp_Mem} {c c' : Nat} {N N' : cp_Nt} (h : cp_TW sh R I c c' N N') {v1 : Int32} (n1 : v1 ≠ 14) (n2 : v1 ≠ 15) : cp_Fn lc E yX6_count cX6_count 2 (some .int) 3 [.ref c, .int v1] cnt sh I R (some (.int (cp_sCount N 0 0 v1))) I := by
  obtain ⟨X, hE, hA, hV, hX⟩ := cp_H1_ow h.2.2.2.2.2.1
  rw [← cp_sCount_cc hA]
  have g := c_X6_count (lc := lc) (E := E) (cnt := cnt) (v1 := v1) h.1 (cp_nz_SL h.2.2.1) hV hX hE
  rw [cp_sCount_n n1 n2] at g
  exact g
theorem tw_plateNow {lc : Launch} {E : cp_En} {cnt : Nat} {sh : cp_Shp} {R : cp_Rem} {I : cp_Mem} {c c' : Nat} {N N' : cp_Nt} (h : cp_TW sh R I c c' N N') : cp_Fn lc E yX6_plateNow cX6_plateNow 1 (some .int) 3 [.ref c] cnt sh I R (some (.int (cp_now N).1)) I := by
  obtain ⟨X, hE, hA, hV, hX⟩ := cp_H1_ow h.2.2.2.2.2.1
  rw [← cp_now_cc hA]
  exact c_X6_plateNow h.1 (cp_nz_SL h.2.2.1) hV hX hE
theorem tw_readyIn {lc : Launch} {E : cp_En} {cnt : Nat} {sh : cp_Shp} {R : cp_Rem} {I : cp_Mem} {c c' : Nat} {N N' : cp_Nt} (h : cp_TW sh R I c c' N N') {v1 : Int32} : cp_Fr lc E yX6_readyIn cX6_readyIn 3 (some .int) 4 [.ref c, .int v1] cnt sh I R (some (.int (cp_sReady N v1))) (fun I' => cp_TW sh R I' c c' N N' ∧ cp_oc c I I') := by
  obtain ⟨X, rfl, hV, hX⟩ := h.2.2.2.2.2.1
  exact cp_Fr_mono (c_X6_readyIn h.1 (cp_nz_SL h.2.2.1) hV hX) rfl (fun i hi => ⟨h.nx ⟨X, rfl, hV, hi.1⟩ hi.2, hi.2⟩)
theorem tw_leastRoom {lc : Launch} {E : cp_En} {cnt : Nat} {sh : cp_Shp} {R : cp_Rem} {I : cp_Mem} {c c' : Nat} {N N' : cp_Nt} (h : cp_TW sh R I c c' N N') (hQ : cp_QB N) : cp_Fr lc E yX6_leastRoom cX6_leastRoom 3 (some .int) 6 [.ref c] cnt sh I R (some (.int (cp_sLeast N))) (fun I' => cp_TW sh R I' c c' N N' ∧ cp_oc c I I') := by
  obtain ⟨X, rfl, hV, hX⟩ := h.2.2.2.2.2.1
  obtain ⟨a, hA⟩ := cp_MA_ex hV.1 hX.1.2.2.2.1 hQ
  exact cp_Fr_mono (c_X6_leastRoom h.1 (cp_nz_SL h.2.2.1) hV hX hA) rfl (fun i hi => ⟨h.nx ⟨X, rfl, hV, hi.1⟩ hi.2, hi.2⟩)
theorem tw_nextPlate {lc : Launch} {E : cp_En} {cnt : Nat} {sh : cp_Shp} {R : cp_Rem} {I : cp_Mem} {c c' : Nat} {N N' : cp_Nt} (h : cp_TW sh R I c c' N N') (hQ : cp_QB N) : cp_Fr lc E yX6_nextPlate cX6_nextPlate 2 (some .int) 6 [.ref c] cnt sh I R (some (.int (cp_sNext N))) (fun I' => cp_TW sh R I' c c' N N' ∧ cp_oc c I I') := by
  obtain ⟨X, rfl, hV, hX⟩ := h.2.2.2.2.2.1
  obtain ⟨a, hA⟩ := cp_MA_ex hV.1 hX.1.2.2.2.1 hQ
  exact cp_Fr_mono (c_X6_nextPlate h.1 (cp_nz_SL h.2.2.1) hV hX hA) rfl (fun i hi => ⟨h.nx ⟨X, rfl, hV, hi.1⟩ hi.2, hi.2⟩)
