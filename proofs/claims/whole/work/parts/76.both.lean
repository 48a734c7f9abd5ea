/-- both sides hold the state X -/
def cp_INV (E : cp_En) (c cnt : Nat) (sh : cp_Shp) (I : cp_Mem) (R : cp_Rem) (X : cp_St) : Prop := cp_PL sh R c ∧ cp_SL sh R c ∧ cp_SB E cnt R c ∧ cp_ML sh R (c + 331) ∧ c + 339 ≤ cp_b0 E + cnt ∧ cp_XR I R c X ∧ cp_MR (I (c + 331)) (fun k => I (c + 331 + k)) X
theorem cp_MR_k {f f' : Nat → Int32} {r r' : Nat → Nat → Int32} {X : cp_St} (hR : cp_MR f r X) (hf : f' = f) (hr : ∀ k, 0 < k → k ≤ 7 → r' k = r k) : cp_MR f' r' X := by
  obtain ⟨g1, g2, g3, g4, g5⟩ := hR
  have h1 := hr 1 (by decide) (by decide)
  have h4 := hr 4 (by decide) (by decide)
  have h5 := hr 5 (by decide) (by decide)
  have h6 := hr 6 (by decide) (by decide)
  have h7 := hr 7 (by decide) (by decide)
  refine ⟨by rw [h1]; exact g1, g2, ⟨by rw [hf]; exact g3.1, g3.2.1, fun i hi => by rw [h4]; exact g3.2.2 i hi⟩, fun s hs => by rw [h5, h6]; exact g4 s hs, by rw [hf]; exact g5.1, g5.2.1, fun i hi => by rw [h7]; exact g5.2.2 i hi⟩
theorem cp_XR_mm {sh : cp_Shp} {R : cp_Rem} {I I' : cp_Mem} {c : Nat} {X : cp_St} (Sl : cp_SL sh R c) (hV : cp_XV X) (hX : cp_XR I R c X) (e : ∀ x, (c ≤ x ∧ x < c + 331) ∨ c + 339 ≤ x → I' x = I x) : cp_XR I' R c X := by
  obtain ⟨hN, ⟨nx, hx7, hnx, hL0, hHs⟩, hZ, hT, hTt⟩ := hX
  refine ⟨cp_HN_e hN hV.1 (fun x h1 h2 => e x (by omega)), ⟨nx, hx7, ?_, ?_, fun i hi => ?_⟩, fun s hs => cp_XZ_e Sl hV hs (hZ s hs) (fun x hx => e x (by omega)), ?_, fun i hi => ?_⟩
  · rw [e _ (by omega)]; exact hnx
  · rw [e _ (by omega)]; exact hL0
  · have p := (cp_ps_ne hx7 hV.2.1 hi).2
    exact cp_HN_e (hHs i hi) (hV.2.2.1 i hi) (fun x h1 h2 => e x (by omega))
  · rw [e _ (by omega)]; exact hT
  · rw [e _ (by omega)]; exact hTt i hi
theorem cp_INV_nx {E : cp_En} {c cnt : Nat} {sh : cp_Shp} {I I' : cp_Mem} {R : cp_Rem} {X : cp_St} (Pl : cp_PL sh R c) (Sl : cp_SL sh R c) (Sb : cp_SB E cnt R c) (Ml : cp_ML sh R (c + 331)) (hc : c + 339 ≤ cp_b0 E + cnt) (hX : cp_XR I R c X) (hT : ∃ (f' : Nat → Int32) (r' : Nat → Nat → Int32), I' = cp_mm I (c + 331) f' r' ∧ cp_MR f' r' X) : cp_INV E c cnt sh I' R X := by
  obtain ⟨f', r', rfl, hR⟩ := hT
  refine ⟨Pl, Sl, Sb, Ml, hc, cp_XR_mm Sl (cp_XV_of hR) hX (fun x hx => cp_mm_o _ _ _ (by omega)), ?_⟩
  exact cp_MR_k hR (cp_mm_f _ _ _ _) (fun k h0 h7 => cp_mm_r _ _ _ _ ⟨h0, h7⟩)
theorem cp_MR_oc {I I' : cp_Mem} {c : Nat} {X : cp_St} (ho : cp_oc c I I') (hR : cp_MR (I (c + 331)) (fun k => I (c + 331 + k)) X) : cp_MR (I' (c + 331)) (fun k => I' (c + 331 + k)) X := cp_MR_k hR (ho _ (by omega)) (fun k _ _ => ho _ (by omega))
theorem cp_INV_E {E : cp_En} {c cnt : Nat} {sh : cp_Shp} {I : cp_Mem} {R : cp_Rem} {X : cp_St} (h : cp_INV E c cnt sh I R X) : ∃ X', cp_INV E c cnt sh I R X' ∧ cp_xN X' = cp_ow I (c + 1) (cp_xN X') := by
  obtain ⟨Pl, Sl, Sb, Ml, hc, hX, hR⟩ := h
  obtain ⟨⟨h1, h3, h5, h8, hA, hL⟩, hX2⟩ := hX
  refine ⟨(cp_ow I (c + 1) (cp_xN X), X.2), ⟨Pl, Sl, Sb, Ml, hc, ⟨⟨h1, h3, h5, h8, cp_AN.rf, hL⟩, hX2⟩, ?_⟩, rfl⟩
  exact ⟨cp_MA_c hR.1 hA.sy, cp_NV_c hR.2.1 hA.sy, hR.2.2⟩
theorem cp_ML_e {m : Nat} {sh s1 : cp_Shp} {R r1 : cp_Rem} (h : cp_ML sh R m) (e : ∀ x, m ≤ x → x < m + 8 → s1 x = sh x ∧ r1 x = R x) : cp_ML s1 r1 m := by
  have es : ∀ x, m ≤ x → x < m + 8 → s1 x = sh x := fun x a b => (e x a b).1
  have er : r1 m = R m := (e m (by omega) (by omega)).2
  exact ⟨by rw [es _ (by omega) (by omega)]; exact h.s, by rw [er]; exact h.f0, by rw [er]; exact h.f1, by rw [er]; exact h.f2, by rw [er]; exact h.f3, by rw [er]; exact h.f5, by rw [er]; exact h.f6, by rw [er]; exact h.f9,
    by rw [es _ (by omega) (by omega)]; exact h.s0, by rw [es _ (by omega) (by omega)]; exact h.s1, by rw [es _ (by omega) (by omega)]; exact h.s2, by rw [es _ (by omega) (by omega)]; exact h.s3, by rw [es _ (by omega) (by omega)]; exact h.s5, by rw [es _ (by omega) (by omega)]; exact h.s6, by rw [es _ (by omega) (by omega)]; exact h.s9⟩
theorem cp_lN_ex (v : Int64) : ∃ u, u < 2 ^ 64 ∧ v = lN u := by
  refine ⟨v.toBitVec.toNat, v.toBitVec.isLt, ?_⟩
  apply Int64.toBitVec_inj.mp
  apply BitVec.eq_of_toNat_eq
  exact (wb_tn v.toBitVec.isLt).symm
section CPLAW
variable {x : cp_Cx} {E : cp_En} {bc : ByteArray} {nL d mc ms cells slots cnt : Nat} {sh : cp_Shp} {I : cp_Mem} {R : cp_Rem} {pc : Nat} {L : List (Option Value)} {st : List Value} {own : String} {bS LS : Nat} {xs : Nat → Int32}
/-- the script -/
def cp_scr (x : cp_Cx) (E : cp_En) (bS LS : Nat) (xs : Nat → Int32) : Prop := va_X bS LS xs (cp_xs x) (cp_xs x).heap ∧ bS < (cp_xs x).heap.size ∧ ¬ cp_A E bS ∧ LS ≤ 2560
theorem cp_sld (O : cp_Ok x E own bc nL d mc ms) (hS0 : cp_scr x E bS LS xs) {i : Int32} {j : Nat} (hi : i = nI j) (hj : j < LS) (hd : decode bc pc = .ok (.iaload, 1)) (k : cp_G x E nL cells slots cnt sh I R (pc + 1) L (.int (xs j) :: st)) : cp_G x E nL cells slots cnt sh I R pc L (.int i :: .ref bS :: st) := by
  intro H locs ls hW hS hl
  have hL := hS0.2.2.2
  subst hi
  refine va_sld O.1 O.2.1 hS0.1 hS0.2.1 hS0.2.2.1 hS (vp_in_nI hj (by omega)) hd ?_
  rw [nI_clamp (by omega)]
  exact k H locs ls hW hS hl
theorem cp_slen (O : cp_Ok x E own bc nL d mc ms) (hS0 : cp_scr x E bS LS xs) (hd : decode bc pc = .ok (.arraylength, 1)) (k : cp_G x E nL cells slots cnt sh I R (pc + 1) L (.int (nI LS) :: st)) : cp_G x E nL cells slots cnt sh I R pc L (.ref bS :: st) := fun H locs ls hW hS hl =>
  va_slen O.1 O.2.1 hS0.1 hS0.2.1 hS0.2.2.1 hS hd (k H locs ls hW hS hl)
end CPLAW
theorem cp_l5 {L i : Nat} (hL : L ≤ 2560) (hi : i < 100000) (h : ¬ nI L - 5 < nI i) : i + 5 ≤ L := by
  rcases Nat.lt_or_ge L 5 with g | g
  · exfalso
    apply h
    rw [Int32.lt_iff_toInt_lt, nI_toInt (by omega)]
    have key : ∀ q, q < 5 → (nI q - 5).toInt < 0 := by decide
    have := key L g
    omega
  · rw [show (5 : Int32) = nI 5 from rfl, pk_sub g, nI_ltI (by omega) (by omega)] at h
    omega
theorem n_X7_set {lc : Launch} {E : cp_En} {cnt : Nat} {sh : cp_Shp} {R : cp_Rem} {I : cp_Mem} {m : Nat} (M : cp_ML sh R m) {X : cp_St} (hR : cp_MR (I m) (fun k => I (m + k)) X) {v1 v2 : Int32} : cp_Fr lc E yX7_set cX7_set 4 (some .int) 2 [.ref m, .int v1, .int v2] cnt sh I R (some (.int ((cp_chg X (cp_sSet (cp_xN X) v1 v2)).1))) (fun I' => ∃ (f' : Nat → Int32) (r' : Nat → Nat → Int32), I' = cp_mm I m f' r' ∧ cp_MR f' r' (cp_chg X (cp_sSet (cp_xN X) v1 v2)).2) := by
  have g := c_X7_set (lc := lc) (E := E) (cnt := cnt) (J := I) (f := I m) (r := fun k => I (m + k)) M hR (v1 := v1) (v2 := v2)
  rw [cp_mm_self] at g
  exact g
theorem n_X7_piece {lc : Launch} {E : cp_En} {cnt : Nat} {sh : cp_Shp} {R : cp_Rem} {I : cp_Mem} {m : Nat} (M : cp_ML sh R m) {X : cp_St} (hR : cp_MR (I m) (fun k => I (m + k)) X) {v1 v2 v3 v4 : Int32} : cp_Fr lc E yX7_piece cX7_piece 5 (some .int) 2 [.ref m, .int v1, .int v2, .int v3, .int v4] cnt sh I R (some (.int ((cp_chg X (cp_sPiece (cp_xN X) v1 v2 v3 v4)).1))) (fun I' => ∃ (f' : Nat → Int32) (r' : Nat → Nat → Int32), I' = cp_mm I m f' r' ∧ cp_MR f' r' (cp_chg X (cp_sPiece (cp_xN X) v1 v2 v3 v4)).2) := by
  have g := c_X7_piece (lc := lc) (E := E) (cnt := cnt) (J := I) (f := I m) (r := fun k => I (m + k)) M hR (v1 := v1) (v2 := v2) (v3 := v3) (v4 := v4)
  rw [cp_mm_self] at g
  exact g
theorem n_X7_plate {lc : Launch} {E : cp_En} {cnt : Nat} {sh : cp_Shp} {R : cp_Rem} {I : cp_Mem} {m : Nat} (M : cp_ML sh R m) {X : cp_St} (hR : cp_MR (I m) (fun k => I (m + k)) X) {v1 : Int32} : cp_Fr lc E yX7_plate cX7_plate 2 (some .int) 3 [.ref m, .int v1] cnt sh I R (some (.int ((cp_chg X (cp_sPlate (cp_xN X) v1)).1))) (fun I' => ∃ (f' : Nat → Int32) (r' : Nat → Nat → Int32), I' = cp_mm I m f' r' ∧ cp_MR f' r' (cp_chg X (cp_sPlate (cp_xN X) v1)).2) := by
  have g := c_X7_plate (lc := lc) (E := E) (cnt := cnt) (J := I) (f := I m) (r := fun k => I (m + k)) M hR (v1 := v1)
  rw [cp_mm_self] at g
  exact g
theorem n_X7_hold {lc : Launch} {E : cp_En} {cnt : Nat} {sh : cp_Shp} {R : cp_Rem} {I : cp_Mem} {m : Nat} (M : cp_ML sh R m) {X : cp_St} (hR : cp_MR (I m) (fun k => I (m + k)) X) {v1 : Int32} : cp_Fr lc E yX7_hold cX7_hold 2 (some .int) 3 [.ref m, .int v1] cnt sh I R (some (.int ((cp_chg X (cp_sHold (cp_xN X) v1)).1))) (fun I' => ∃ (f' : Nat → Int32) (r' : Nat → Nat → Int32), I' = cp_mm I m f' r' ∧ cp_MR f' r' (cp_chg X (cp_sHold (cp_xN X) v1)).2) := by
  have g := c_X7_hold (lc := lc) (E := E) (cnt := cnt) (J := I) (f := I m) (r := fun k => I (m + k)) M hR (v1 := v1)
  rw [cp_mm_self] at g
  exact g
theorem n_X7_kill {lc : Launch} {E : cp_En} {cnt : Nat} {sh : cp_Shp} {R : cp_Rem} {I : cp_Mem} {m : Nat} (M : cp_ML sh R m) {X : cp_St} (hR : cp_MR (I m) (fun k => I (m + k)) X) {v1 : Int32} : cp_Fr lc E yX7_kill cX7_kill 2 (some .int) 5 [.ref m, .int v1] cnt sh I R (some (.int ((cp_chg X (cp_sKill (cp_xN X) v1)).1))) (fun I' => ∃ (f' : Nat → Int32) (r' : Nat → Nat → Int32), I' = cp_mm I m f' r' ∧ cp_MR f' r' (cp_chg X (cp_sKill (cp_xN X) v1)).2) := by
  have g := c_X7_kill (lc := lc) (E := E) (cnt := cnt) (J := I) (f := I m) (r := fun k => I (m + k)) M hR (v1 := v1)
  rw [cp_mm_self] at g
  exact g
theorem n_X7_pass {lc : Launch} {E : cp_En} {cnt : Nat} {sh : cp_Shp} {R : cp_Rem} {I : cp_Mem} {m : Nat} (M : cp_ML sh R m) {X : cp_St} (hR : cp_MR (I m) (fun k => I (m + k)) X) {v1 : Int32} : cp_Fr lc E yX7_pass cX7_pass 2 (some .int) 9 [.ref m, .int v1] cnt sh I R (some (.int ((cp_chg X (cp_sPass (cp_xN X) v1)).1))) (fun I' => ∃ (f' : Nat → Int32) (r' : Nat → Nat → Int32), I' = cp_mm I m f' r' ∧ cp_MR f' r' (cp_chg X (cp_sPass (cp_xN X) v1)).2) := by
  have g := c_X7_pass (lc := lc) (E := E) (cnt := cnt) (J := I) (f := I m) (r := fun k => I (m + k)) M hR (v1 := v1)
  rw [cp_mm_self] at g
  exact g
theorem n_X7_ofPiece {lc : Launch} {E : cp_En} {cnt : Nat} {sh : cp_Shp} {R : cp_Rem} {I : cp_Mem} {m : Nat} (M : cp_ML sh R m) {X : cp_St} (hR : cp_MR (I m) (fun k => I (m + k)) X) {v1 v2 : Int32} : cp_Fr lc E yX7_ofPiece cX7_ofPiece 3 (some .int) 3 [.ref m, .int v1, .int v2] cnt sh I R (some (.int (cp_sOfPiece (cp_xN X) v1 v2))) (fun I' => ∃ (f' : Nat → Int32) (r' : Nat → Nat → Int32), I' = cp_mm I m f' r' ∧ cp_MR f' r' X) := by
  have g := m_X7_ofPiece (lc := lc) (E := E) (cnt := cnt) (J := I) (f := I m) (r := fun k => I (m + k)) M hR (v1 := v1) (v2 := v2)
  rw [cp_mm_self] at g
  exact g
theorem n_X7_ofPlate {lc : Launch} {E : cp_En} {cnt : Nat} {sh : cp_Shp} {R : cp_Rem} {I : cp_Mem} {m : Nat} (M : cp_ML sh R m) {X : cp_St} (hR : cp_MR (I m) (fun k => I (m + k)) X) {v1 v2 : Int32} : cp_Fr lc E yX7_ofPlate cX7_ofPlate 3 (some .int) 2 [.ref m, .int v1, .int v2] cnt sh I R (some (.int (cp_sOfPlate (cp_xN X) v1 v2))) (fun I' => ∃ (f' : Nat → Int32) (r' : Nat → Nat → Int32), I' = cp_mm I m f' r' ∧ cp_MR f' r' X) := by
  have g := m_X7_ofPlate (lc := lc) (E := E) (cnt := cnt) (J := I) (f := I m) (r := fun k => I (m + k)) M hR (v1 := v1) (v2 := v2)
  rw [cp_mm_self] at g
  exact g
theorem n_X7_count {lc : Launch} {E : cp_En} {cnt : Nat} {sh : cp_Shp} {R : cp_Rem} {I : cp_Mem} {m : Nat} (M : cp_ML sh R m) {X : cp_St} (hR : cp_MR (I m) (fun k => I (m + k)) X) {v1 : Int32} : cp_Fr lc E yX7_count cX7_count 2 (some .int) 2 [.ref m, .int v1] cnt sh I R (some (.int (cp_sCount (cp_xN X) (nI (cp_xn X)) (nI (cp_xL X)) v1))) (fun I' => ∃ (f' : Nat → Int32) (r' : Nat → Nat → Int32), I' = cp_mm I m f' r' ∧ cp_MR f' r' X) := by
  have g := m_X7_count (lc := lc) (E := E) (cnt := cnt) (J := I) (f := I m) (r := fun k => I (m + k)) M hR (v1 := v1)
  rw [cp_mm_self] at g
  exact g
theorem n_X7_why {lc : Launch} {E : cp_En} {cnt : Nat} {sh : cp_Shp} {R : cp_Rem} {I : cp_Mem} {m : Nat} (M : cp_ML sh R m) {X : cp_St} (hR : cp_MR (I m) (fun k => I (m + k)) X) {v1 v2 : Int32} : cp_Fr lc E yX7_why cX7_why 4 (some .int) 4 [.ref m, .int v1, .int v2] cnt sh I R (some (.int (cp_sWhy (cp_xN X) v1 v2))) (fun I' => ∃ (f' : Nat → Int32) (r' : Nat → Nat → Int32), I' = cp_mm I m f' r' ∧ cp_MR f' r' X) := by
  have g := m_X7_why (lc := lc) (E := E) (cnt := cnt) (J := I) (f := I m) (r := fun k => I (m + k)) M hR (v1 := v1) (v2 := v2)
  rw [cp_mm_self] at g
  exact g
theorem n_X7_plateNow {lc : Launch} {E : cp_En} {cnt : Nat} {sh : cp_Shp} {R : cp_Rem} {I : cp_Mem} {m : Nat} (M : cp_ML sh R m) {X : cp_St} (hR : cp_MR (I m) (fun k => I (m + k)) X)  : cp_Fr lc E yX7_plateNow cX7_plateNow 1 (some .int) 4 [.ref m] cnt sh I R (some (.int ((cp_now (cp_xN X)).1))) (fun I' => ∃ (f' : Nat → Int32) (r' : Nat → Nat → Int32), I' = cp_mm I m f' r' ∧ cp_MR f' r' X) := by
  have g := m_X7_plateNow (lc := lc) (E := E) (cnt := cnt) (J := I) (f := I m) (r := fun k => I (m + k)) M hR
  rw [cp_mm_self] at g
  exact g
theorem n_X7_readyIn {lc : Launch} {E : cp_En} {cnt : Nat} {sh : cp_Shp} {R : cp_Rem} {I : cp_Mem} {m : Nat} (M : cp_ML sh R m) {X : cp_St} (hR : cp_MR (I m) (fun k => I (m + k)) X) {v1 : Int32} : cp_Fr lc E yX7_readyIn cX7_readyIn 3 (some .int) 7 [.ref m, .int v1] cnt sh I R (some (.int (cp_sReady (cp_xN X) v1))) (fun I' => ∃ (f' : Nat → Int32) (r' : Nat → Nat → Int32), I' = cp_mm I m f' r' ∧ cp_MR f' r' X) := by
  have g := m_X7_readyIn (lc := lc) (E := E) (cnt := cnt) (J := I) (f := I m) (r := fun k => I (m + k)) M hR (v1 := v1)
  rw [cp_mm_self] at g
  exact g
theorem n_X7_leastRoom {lc : Launch} {E : cp_En} {cnt : Nat} {sh : cp_Shp} {R : cp_Rem} {I : cp_Mem} {m : Nat} (M : cp_ML sh R m) {X : cp_St} (hR : cp_MR (I m) (fun k => I (m + k)) X)  : cp_Fr lc E yX7_leastRoom cX7_leastRoom 4 (some .int) 8 [.ref m] cnt sh I R (some (.int (cp_sLeast (cp_xN X)))) (fun I' => ∃ (f' : Nat → Int32) (r' : Nat → Nat → Int32), I' = cp_mm I m f' r' ∧ cp_MR f' r' X) := by
  have g := m_X7_leastRoom (lc := lc) (E := E) (cnt := cnt) (J := I) (f := I m) (r := fun k => I (m + k)) M hR
  rw [cp_mm_self] at g
  exact g
theorem n_X7_nextPlate {lc : Launch} {E : cp_En} {cnt : Nat} {sh : cp_Shp} {R : cp_Rem} {I : cp_Mem} {m : Nat} (M : cp_ML sh R m) {X : cp_St} (hR : cp_MR (I m) (fun k => I (m + k)) X)  : cp_Fr lc E yX7_nextPlate cX7_nextPlate 2 (some .int) 8 [.ref m] cnt sh I R (some (.int (cp_sNext (cp_xN X)))) (fun I' => ∃ (f' : Nat → Int32) (r' : Nat → Nat → Int32), I' = cp_mm I m f' r' ∧ cp_MR f' r' X) := by
  have g := m_X7_nextPlate (lc := lc) (E := E) (cnt := cnt) (J := I) (f := I m) (r := fun k => I (m + k)) M hR
  rw [cp_mm_self] at g
  exact g
theorem n_X7_put {lc : Launch} {E : cp_En} {cnt : Nat} {sh : cp_Shp} {R : cp_Rem} {I : cp_Mem} {m : Nat} (M : cp_ML sh R m) {X : cp_St} (hR : cp_MR (I m) (fun k => I (m + k)) X) {u : Nat} (hu : u < 2 ^ 64) : cp_Fr lc E yX7_put cX7_put 8 (some .int) 1 [.ref m, .long (lN u)] cnt sh I R (some (.int ((cp_sPut X u).1))) (fun I' => ∃ (f' : Nat → Int32) (r' : Nat → Nat → Int32), I' = cp_mm I m f' r' ∧ cp_MR f' r' (cp_sPut X u).2) := by
  have g := m_X7_put (lc := lc) (E := E) (cnt := cnt) (J := I) (f := I m) (r := fun k => I (m + k)) M hR hu
  rw [cp_mm_self] at g
  exact g
theorem n_X7_wipe {lc : Launch} {E : cp_En} {cnt : Nat} {sh : cp_Shp} {R : cp_Rem} {I : cp_Mem} {m : Nat} (M : cp_ML sh R m) {X : cp_St} (hR : cp_MR (I m) (fun k => I (m + k)) X)  : cp_Fr lc E yX7_wipe cX7_wipe 2 (some .int) 0 [.ref m] cnt sh I R (some (.int ((cp_sWipe X).1))) (fun I' => ∃ (f' : Nat → Int32) (r' : Nat → Nat → Int32), I' = cp_mm I m f' r' ∧ cp_MR f' r' (cp_sWipe X).2) := by
  have g := m_X7_wipe (lc := lc) (E := E) (cnt := cnt) (J := I) (f := I m) (r := fun k => I (m + k)) M hR
  rw [cp_mm_self] at g
  exact g
theorem n_X7_fault {lc : Launch} {E : cp_En} {cnt : Nat} {sh : cp_Shp} {R : cp_Rem} {I : cp_Mem} {m : Nat} (M : cp_ML sh R m) {X : cp_St} (hR : cp_MR (I m) (fun k => I (m + k)) X)  : cp_Fr lc E yX7_fault cX7_fault 2 (some .int) 10 [.ref m] cnt sh I R (some (.int (cp_sFlt X))) (fun I' => ∃ (f' : Nat → Int32) (r' : Nat → Nat → Int32), I' = cp_mm I m f' r' ∧ cp_MR f' r' X) := by
  have g := m_X7_fault (lc := lc) (E := E) (cnt := cnt) (J := I) (f := I m) (r := fun k => I (m + k)) M hR
  rw [cp_mm_self] at g
  exact g
theorem n_X7_carryOut {lc : Launch} {E : cp_En} {cnt : Nat} {sh : cp_Shp} {R : cp_Rem} {I : cp_Mem} {m : Nat} (M : cp_ML sh R m) {X : cp_St} (hR : cp_MR (I m) (fun k => I (m + k)) X)  : cp_Fr lc E yX7_carryOut cX7_carryOut 4 (some .int) 11 [.ref m] cnt sh I R (some (.int ((cp_sCarry X).1))) (fun I' => ∃ (f' : Nat → Int32) (r' : Nat → Nat → Int32), I' = cp_mm I m f' r' ∧ cp_MR f' r' (cp_sCarry X).2) := by
  have g := m_X7_carryOut (lc := lc) (E := E) (cnt := cnt) (J := I) (f := I m) (r := fun k => I (m + k)) M hR
  rw [cp_mm_self] at g
  exact g
theorem n_X7_undo {lc : Launch} {E : cp_En} {cnt : Nat} {sh : cp_Shp} {R : cp_Rem} {I : cp_Mem} {m : Nat} (M : cp_ML sh R m) {X : cp_St} (hR : cp_MR (I m) (fun k => I (m + k)) X)  : cp_Fr lc E yX7_undo cX7_undo 2 (some .int) 0 [.ref m] cnt sh I R (some (.int ((cp_sUndo X).1))) (fun I' => ∃ (f' : Nat → Int32) (r' : Nat → Nat → Int32), I' = cp_mm I m f' r' ∧ cp_MR f' r' (cp_sUndo X).2) := by
  have g := m_X7_undo (lc := lc) (E := E) (cnt := cnt) (J := I) (f := I m) (r := fun k => I (m + k)) M hR
  rw [cp_mm_self] at g
  exact g
theorem n_X7_save {lc : Launch} {E : cp_En} {cnt : Nat} {sh : cp_Shp} {R : cp_Rem} {I : cp_Mem} {m : Nat} (M : cp_ML sh R m) {X : cp_St} (hR : cp_MR (I m) (fun k => I (m + k)) X) {v1 : Int32} : cp_Fr lc E yX7_save cX7_save 3 (some .int) 1 [.ref m, .int v1] cnt sh I R (some (.int ((cp_sSave X v1).1))) (fun I' => ∃ (f' : Nat → Int32) (r' : Nat → Nat → Int32), I' = cp_mm I m f' r' ∧ cp_MR f' r' (cp_sSave X v1).2) := by
  have g := m_X7_save (lc := lc) (E := E) (cnt := cnt) (J := I) (f := I m) (r := fun k => I (m + k)) M hR (v1 := v1)
  rw [cp_mm_self] at g
  exact g
theorem n_X7_restore {lc : Launch} {E : cp_En} {cnt : Nat} {sh : cp_Shp} {R : cp_Rem} {I : cp_Mem} {m : Nat} (M : cp_ML sh R m) {X : cp_St} (hR : cp_MR (I m) (fun k => I (m + k)) X) {v1 : Int32} : cp_Fr lc E yX7_restore cX7_restore 3 (some .int) 2 [.ref m, .int v1] cnt sh I R (some (.int ((cp_sRest X v1).1))) (fun I' => ∃ (f' : Nat → Int32) (r' : Nat → Nat → Int32), I' = cp_mm I m f' r' ∧ cp_MR f' r' (cp_sRest X v1).2) := by
  have g := m_X7_restore (lc := lc) (E := E) (cnt := cnt) (J := I) (f := I m) (r := fun k => I (m + k)) M hR (v1 := v1)
  rw [cp_mm_self] at g
  exact g
