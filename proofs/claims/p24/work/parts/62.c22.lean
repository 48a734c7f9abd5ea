def cp_ps (nx L i : Nat) : Nat := (nx + 7 - L + i) % 7
theorem cp_ps_new {nx L : Nat} (h : nx < 7) (hL : L ≤ 6) : cp_ps (cp_nx1 nx) (cp_L1 L + 1) (cp_L1 L) = nx := by
  unfold cp_ps cp_nx1 cp_L1
  repeat' split
  all_goals omega
theorem cp_ps_old {nx L i : Nat} (h : nx < 7) (hL : L ≤ 6) (hi : i < cp_L1 L) : cp_ps (cp_nx1 nx) (cp_L1 L + 1) i = cp_ps nx L (i + cp_L0 L) := by
  unfold cp_L1 at hi
  unfold cp_ps cp_nx1 cp_L1 cp_L0
  by_cases a : L = 6
  · rw [if_pos a] at hi ⊢
    rw [if_pos a]
    split <;> omega
  · rw [if_neg a] at hi ⊢
    rw [if_neg a]
    split <;> omega
theorem cp_ps_ne {nx L i : Nat} (h : nx < 7) (hL : L ≤ 6) (hi : i < L) : cp_ps nx L i ≠ nx ∧ cp_ps nx L i < 7 := by
  unfold cp_ps
  omega
theorem cp_L1_lm (L : Nat) : cp_lm1 L = cp_L1 L + 1 := by
  unfold cp_lm1 cp_L1
  split <;> rfl
theorem cp_nx1_7 {nx : Nat} (h : nx < 7) : cp_nx1 nx < 7 := by
  unfold cp_nx1
  split <;> omega
theorem cp_L1_0 {L i : Nat} (hL : L ≤ 6) (hi : i < cp_L1 L) : i + cp_L0 L < L := by
  unfold cp_L1 at hi
  unfold cp_L0
  by_cases a : L = 6
  · rw [if_pos a] at hi ⊢; omega
  · rw [if_neg a] at hi ⊢; omega
/-- slots: where their nights lie -/
def cp_SL (sh : cp_Shp) (R : cp_Rem) (c : Nat) : Prop := (∀ s a, s < 2 → R (c + 327) s = some a → c + 339 ≤ a ∧ cp_NL sh R a) ∧ ∀ a0 a1, R (c + 327) 0 = some a0 → R (c + 327) 1 = some a1 → cp_far a0 a1
def cp_XZ (I : cp_Mem) (R : cp_Rem) (c s : Nat) (o : Option cp_Nt) : Prop := match o with
  | none => R (c + 327) s = none
  | some Z => ∃ a, R (c + 327) s = some a ∧ cp_HN I a Z
/-- what the program's memory holds of a state -/
def cp_XR (I : cp_Mem) (R : cp_Rem) (c : Nat) (X : cp_St) : Prop := cp_HN I (c + 1) (cp_xN X) ∧ (∃ nx, nx < 7 ∧ I (c + 73) 1 = nI nx ∧ I (c + 73) 2 = nI (cp_xL X) ∧ ∀ i, i < cp_xL X → cp_HN I (c + 73 + 2 + 36 * cp_ps nx (cp_xL X) i) (cp_xH X i)) ∧ (∀ s, s < 2 → cp_XZ I R c s (cp_xZ X s)) ∧ I (c + 328) 1 = nI (cp_xn X) ∧ ∀ i, i < cp_xn X → I (c + 329) i = cp_xT X i
def cp_XV (X : cp_St) : Prop := cp_NV (cp_xN X) ∧ cp_xL X ≤ 6 ∧ (∀ i, i < cp_xL X → cp_NV (cp_xH X i)) ∧ (∀ s Z, s < 2 → cp_xZ X s = some Z → cp_NV Z) ∧ cp_xn X ≤ 80 ∧ ∀ i, i < cp_xn X → cp_rg 33 126 (cp_xT X i) = true
def cp_oc (c : Nat) (I I' : cp_Mem) : Prop := ∀ x, (x < c ∨ c + 331 ≤ x) → I' x = I x
theorem cp_oc.rf {c : Nat} {I : cp_Mem} : cp_oc c I I := fun _ _ => rfl
theorem cp_HN_ou {I I' : cp_Mem} {b b' : Nat} {Z : cp_Nt} (h : cp_HN I b Z) (ho : cp_out b' I I') (hf : cp_far b b') (hV : cp_NV Z) : cp_HN I' b Z :=
  cp_HN_o h (fun x h1 h2 => ho x (by unfold cp_far at hf; omega)) hV.2.2.1.1 (cp_NV_l hV.2.2.1)
theorem cp_HN_e {I I' : cp_Mem} {b : Nat} {Z : cp_Nt} (h : cp_HN I b Z) (hV : cp_NV Z) (e : ∀ x, b ≤ x → x < b + 36 → I' x = I x) : cp_HN I' b Z :=
  cp_HN_o h e hV.2.2.1.1 (cp_NV_l hV.2.2.1)
/-- slots are as they were if nobody wrote there -/
theorem cp_XZ_e {I I' : cp_Mem} {sh : cp_Shp} {R : cp_Rem} {c s : Nat} {X : cp_St} (Sl : cp_SL sh R c) (hV : cp_XV X) (hs : s < 2) (h : cp_XZ I R c s (cp_xZ X s)) (e : ∀ x, c + 339 ≤ x → I' x = I x) : cp_XZ I' R c s (cp_xZ X s) := by
  cases hz : cp_xZ X s with
  | none => rw [hz] at h; exact h
  | some Z =>
    rw [hz] at h
    obtain ⟨a, h1, h2⟩ := h
    have h3 := (Sl.1 s a hs h1).1
    exact ⟨a, h1, cp_HN_e h2 (hV.2.2.2.1 s Z hs hz) (fun x hx _ => e x (by omega))⟩
theorem cp_XR_chg {sh : cp_Shp} {R : cp_Rem} {I I1 I2 : cp_Mem} {c nx : Nat} {X : cp_St} {o : Int32 × cp_Nt} (Sl : cp_SL sh R c) (hV : cp_XV X) (hX : cp_XR I R c X) (hx7 : nx < 7) (hnx : I (c + 73) 1 = nI nx) (hL0 : I (c + 73) 2 = nI (cp_xL X)) (hHs : ∀ i, i < cp_xL X → cp_HN I (c + 73 + 2 + 36 * cp_ps nx (cp_xL X) i) (cp_xH X i)) (hP1 : cp_HN I1 (c + 73 + 2 + 36 * nx) (cp_xN X)) (hO1 : cp_out (c + 73 + 2 + 36 * nx) I I1) (hP2 : cp_HN I2 (c + 1) o.2) (hO2 : cp_out (c + 1) I1 I2) (hV2 : cp_NV o.2) (herr : o.1 < 0 → o.2 = cp_xN X) :
    cp_XR (if o.1 < 0 then I2 else cp_wi (cp_wi I2 (c + 73) 1 (nI (cp_nx1 nx))) (c + 73) 2 (nI (cp_lm1 (cp_xL X)))) R c (cp_chg X o).2 ∧ cp_oc c I (if o.1 < 0 then I2 else cp_wi (cp_wi I2 (c + 73) 1 (nI (cp_nx1 nx))) (c + 73) 2 (nI (cp_lm1 (cp_xL X)))) := by
  have e12 : ∀ x, (x < c + 1 ∨ c + 37 ≤ x) → (x < c + 75 + 36 * nx ∨ c + 75 + 36 * nx + 36 ≤ x) → I2 x = I x := fun x h1 h2 => (hO2 x (by omega)).trans (hO1 x (by omega))
  obtain ⟨-, -, hZ, hT, hTt⟩ := hX
  have hL6 := hV.2.1
  have hO : ∀ i, i < cp_xL X → cp_HN I2 (c + 73 + 2 + 36 * cp_ps nx (cp_xL X) i) (cp_xH X i) := fun i hi => by
    obtain ⟨p1, p2⟩ := cp_ps_ne hx7 hL6 hi
    exact cp_HN_e (hHs i hi) (hV.2.2.1 i hi) (fun x h1 h2 => e12 x (by omega) (by omega))
  by_cases hn : o.1 < 0
  · rw [if_pos hn, cp_chg_n hn]
    rw [herr hn] at hP2
    refine ⟨⟨hP2, ⟨nx, hx7, ?_, ?_, hO⟩, fun s hs => cp_XZ_e Sl hV hs (hZ s hs) (fun x hx => e12 x (by omega) (by omega)), ?_, fun i hi => ?_⟩, fun x hx => e12 x (by omega) (by omega)⟩
    · rw [e12 _ (by omega) (by omega)]; exact hnx
    · rw [e12 _ (by omega) (by omega)]; exact hL0
    · rw [e12 _ (by omega) (by omega)]; exact hT
    · rw [e12 _ (by omega) (by omega)]; exact hTt i hi
  · rw [if_neg hn, cp_chg_p hn]
    have e3 : ∀ x, x ≠ c + 73 → cp_wi (cp_wi I2 (c + 73) 1 (nI (cp_nx1 nx))) (c + 73) 2 (nI (cp_lm1 (cp_xL X))) x = I2 x := fun x hx => (cp_wi_a _ _ _ _ hx).trans (cp_wi_a _ _ _ _ hx)
    refine ⟨⟨cp_HN_e hP2 hV2 (fun x h1 h2 => e3 x (by omega)), ⟨cp_nx1 nx, cp_nx1_7 hx7, ?_, ?_, fun i hi => ?_⟩, fun s hs => ?_, ?_, fun i hi => ?_⟩, fun x hx => (e3 x (by omega)).trans (e12 x (by omega) (by omega))⟩
    · rw [cp_wi_j _ _ _ _ (fun z => absurd z.2 (by decide)), cp_wi_s]
    · rw [cp_wi_s, cp_L1_lm]
      rfl
    · have hi : i < cp_L1 (cp_xL X) + 1 := hi
      show cp_HN _ (c + 73 + 2 + 36 * cp_ps (cp_nx1 nx) (cp_L1 (cp_xL X) + 1) i) (if i < cp_L1 (cp_xL X) then cp_xH X (i + cp_L0 (cp_xL X)) else cp_xN X)
      by_cases hlt : i < cp_L1 (cp_xL X)
      · have hj := cp_L1_0 hL6 hlt
        obtain ⟨p1, p2⟩ := cp_ps_ne hx7 hL6 hj
        rw [if_pos hlt, cp_ps_old hx7 hL6 hlt]
        exact cp_HN_e (hO _ hj) (hV.2.2.1 _ hj) (fun x h1 h2 => e3 x (by omega))
      · have ei : i = cp_L1 (cp_xL X) := by omega
        rw [if_neg hlt, ei, cp_ps_new hx7 hL6]
        exact cp_HN_e hP1 hV.1 (fun x h1 h2 => (e3 x (by omega)).trans (hO2 x (by omega)))
    · exact cp_XZ_e (X := X) Sl hV hs (hZ s hs) (fun x hx => (e3 x (by omega)).trans (e12 x (by omega) (by omega)))
    · show cp_wi _ _ _ _ (c + 328) 1 = _
      rw [e3 _ (by omega), e12 _ (by omega) (by omega)]; exact hT
    · show cp_wi _ _ _ _ (c + 329) i = _
      rw [e3 _ (by omega), e12 _ (by omega) (by omega)]; exact hTt i hi
theorem cp_err_set {N : cp_Nt} {s v : Int32} (hV : cp_NV N) (h : (cp_sSet N s v).1 < 0) : (cp_sSet N s v).2 = N := by
  cases c : cp_iset s v with
  | false => rw [cp_iset_f c]
  | true =>
    obtain ⟨k, hk, rfl⟩ := cp_iset_n c
    rw [cp_iset_t c, cp_nIt (by omega)] at h
    obtain ⟨e, he, hS⟩ := cp_SV_n hV.1 hk
    have h : cp_tS N k < 0 := h
    rw [hS] at h
    exact absurd h (cp_nn0 (by omega))
set_option maxHeartbeats 4000000 in
set_option maxRecDepth 100000 in
theorem c_X6_set {lc : Launch} {E : cp_En} {cnt : Nat} {sh : cp_Shp} {R : cp_Rem} {I : cp_Mem} {c : Nat} (Pl : cp_PL sh R c) (Sl : cp_SL sh R c) {X : cp_St} (hV : cp_XV X) (hX : cp_XR I R c X) {v1 v2 : Int32} : cp_Fr lc E yX6_set cX6_set 3 (some .int) 3 [.ref c, .int v1, .int v2] cnt sh I R (some (.int ((cp_chg X (cp_sSet (cp_xN X) v1 v2)).1))) (fun I' => cp_XR I' R c (cp_chg X (cp_sSet (cp_xN X) v1 v2)).2 ∧ cp_oc c I I') := by
  obtain ⟨hN, ⟨nx, hx7, hnx, hL0, hHs⟩, hZ, hT, hTt⟩ := id hX
  refine cp_Fn_iR [some (.ref c), some (.int v1), some (.int v2)] (by decide +kernel) (Nat.le_of_ble_eq_true rfl) rfl rfl (fun x hxl O hr => ?_)
  subst hxl
  refine cp_aload_n O dX6_set_0 cp_lg0 ?_
  refine fg_X6_22 O Pl.s Pl.f2 dX6_set_1 ?_
  refine cp_aload_n O dX6_set_4 cp_lg0 ?_
  refine fg_X6_10 O Pl.s Pl.f0 dX6_set_5 ?_
  refine cp_cVvr O me_X0_prepare mi_X0_prepare ml_X6_46 cp_cX0 (Pl.hist).s (c_X0_prepare Pl.hist hnx hx7 Pl.night (by unfold cp_far; omega) hV.1 hN) dX6_set_8 rfl rfl ⟨Nat.le_of_ble_eq_true rfl, Nat.le_of_ble_eq_true rfl⟩ ⟨Nat.le_refl _, Nat.le_refl _⟩ (Nat.le_of_ble_eq_true rfl) (fun I8 hT8 => ?_)
  obtain ⟨hP1, hO1⟩ := hT8
  refine cp_aload_n O dX6_set_11 cp_lg0 ?_
  refine fg_X6_22 O Pl.s Pl.f2 dX6_set_12 ?_
  refine cp_aload_n O dX6_set_15 cp_lg0 ?_
  refine fg_X6_10 O Pl.s Pl.f0 dX6_set_16 ?_
  refine cp_iload_n O dX6_set_19 cp_lg1 ?_
  refine cp_iload_n O dX6_set_20 cp_lg2 ?_
  refine cp_cVir O me_X1_changeSetting mi_X1_changeSetting ml_X6_50 cp_cX1 (Pl.night).s (h_X1_changeSetting Pl.night hV.1 (cp_HN_ou hN hO1 (by unfold cp_far; omega) hV.1)) dX6_set_21 rfl rfl ⟨Nat.le_of_ble_eq_true rfl, Nat.le_of_ble_eq_true rfl⟩ ⟨Nat.le_refl _, Nat.le_refl _⟩ (Nat.le_of_ble_eq_true rfl) (fun I21 hT21 => ?_)
  obtain ⟨hP2, hO2⟩ := hT21
  refine cp_cVi O me_X0_recordUnlessError mi_X0_recordUnlessError ml_X6_54 cp_cX0 (Pl.hist).s (c_X0_recordUnlessError Pl.hist (nx := nx) (by rw [hO2 _ (by omega), hO1 _ (by omega)]; exact hnx) hx7 (L0 := cp_xL X) (by rw [hO2 _ (by omega), hO1 _ (by omega)]; exact hL0) hV.2.1) dX6_set_24 rfl rfl ⟨Nat.le_of_ble_eq_true rfl, Nat.le_of_ble_eq_true rfl⟩ ⟨Nat.le_refl _, Nat.le_refl _⟩ (Nat.le_of_ble_eq_true rfl) ?_
  exact hr _ _ _ _ dX6_set_27 (cp_chg_1 _ _).symm (cp_XR_chg Sl hV hX hx7 hnx hL0 hHs hP1 hO1 hP2 hO2 (cp_NV_set hV.1) (cp_err_set hV.1))
set_option maxHeartbeats 4000000 in
set_option maxRecDepth 100000 in
theorem c_X6_piece {lc : Launch} {E : cp_En} {cnt : Nat} {sh : cp_Shp} {R : cp_Rem} {I : cp_Mem} {c : Nat} (Pl : cp_PL sh R c) (Sl : cp_SL sh R c) {X : cp_St} (hV : cp_XV X) (hX : cp_XR I R c X) {v1 v2 v3 v4 : Int32} : cp_Fr lc E yX6_piece cX6_piece 5 (some .int) 3 [.ref c, .int v1, .int v2, .int v3, .int v4] cnt sh I R (some (.int ((cp_chg X (cp_sPiece (cp_xN X) v1 v2 v3 v4)).1))) (fun I' => cp_XR I' R c (cp_chg X (cp_sPiece (cp_xN X) v1 v2 v3 v4)).2 ∧ cp_oc c I I') := by
  obtain ⟨hN, ⟨nx, hx7, hnx, hL0, hHs⟩, hZ, hT, hTt⟩ := id hX
  refine cp_Fn_iR [some (.ref c), some (.int v1), some (.int v2), some (.int v3), some (.int v4)] (by decide +kernel) (Nat.le_of_ble_eq_true rfl) rfl rfl (fun x hxl O hr => ?_)
  subst hxl
  refine cp_aload_n O dX6_piece_0 cp_lg0 ?_
  refine fg_X6_22 O Pl.s Pl.f2 dX6_piece_1 ?_
  refine cp_aload_n O dX6_piece_4 cp_lg0 ?_
  refine fg_X6_10 O Pl.s Pl.f0 dX6_piece_5 ?_
  refine cp_cVvr O me_X0_prepare mi_X0_prepare ml_X6_46 cp_cX0 (Pl.hist).s (c_X0_prepare Pl.hist hnx hx7 Pl.night (by unfold cp_far; omega) hV.1 hN) dX6_piece_8 rfl rfl ⟨Nat.le_of_ble_eq_true rfl, Nat.le_of_ble_eq_true rfl⟩ ⟨Nat.le_refl _, Nat.le_refl _⟩ (Nat.le_of_ble_eq_true rfl) (fun I8 hT8 => ?_)
  obtain ⟨hP1, hO1⟩ := hT8
  refine cp_aload_n O dX6_piece_11 cp_lg0 ?_
  refine fg_X6_22 O Pl.s Pl.f2 dX6_piece_12 ?_
  refine cp_aload_n O dX6_piece_15 cp_lg0 ?_
  refine fg_X6_10 O Pl.s Pl.f0 dX6_piece_16 ?_
  refine cp_iload_n O dX6_piece_19 cp_lg1 ?_
  refine cp_iload_n O dX6_piece_20 cp_lg2 ?_
  refine cp_iload_n O dX6_piece_21 cp_lg3 ?_
  refine cp_iload O dX6_piece_22 cp_lg4 ?_
  refine cp_cVir O me_X1_addPiece mi_X1_addPiece ml_X6_58 cp_cX1 (Pl.night).s (h_X1_addPiece Pl.night hV.1 (cp_HN_ou hN hO1 (by unfold cp_far; omega) hV.1)) dX6_piece_24 rfl rfl ⟨Nat.le_of_ble_eq_true rfl, Nat.le_of_ble_eq_true rfl⟩ ⟨Nat.le_refl _, Nat.le_refl _⟩ (Nat.le_of_ble_eq_true rfl) (fun I24 hT24 => ?_)
  obtain ⟨hP2, hO2⟩ := hT24
  refine cp_cVi O me_X0_recordUnlessError mi_X0_recordUnlessError ml_X6_54 cp_cX0 (Pl.hist).s (c_X0_recordUnlessError Pl.hist (nx := nx) (by rw [hO2 _ (by omega), hO1 _ (by omega)]; exact hnx) hx7 (L0 := cp_xL X) (by rw [hO2 _ (by omega), hO1 _ (by omega)]; exact hL0) hV.2.1) dX6_piece_27 rfl rfl ⟨Nat.le_of_ble_eq_true rfl, Nat.le_of_ble_eq_true rfl⟩ ⟨Nat.le_refl _, Nat.le_refl _⟩ (Nat.le_of_ble_eq_true rfl) ?_
  exact hr _ _ _ _ dX6_piece_30 (cp_chg_1 _ _).symm (cp_XR_chg Sl hV hX hx7 hnx hL0 hHs hP1 hO1 hP2 hO2 (cp_NV_piece hV.1) (cp_err_piece hV.1))
set_option maxHeartbeats 4000000 in
set_option maxRecDepth 100000 in
theorem c_X6_plate {lc : Launch} {E : cp_En} {cnt : Nat} {sh : cp_Shp} {R : cp_Rem} {I : cp_Mem} {c : Nat} (Pl : cp_PL sh R c) (Sl : cp_SL sh R c) {X : cp_St} (hV : cp_XV X) (hX : cp_XR I R c X) {v1 : Int32} : cp_Fr lc E yX6_plate cX6_plate 2 (some .int) 3 [.ref c, .int v1] cnt sh I R (some (.int ((cp_chg X (cp_sPlate (cp_xN X) v1)).1))) (fun I' => cp_XR I' R c (cp_chg X (cp_sPlate (cp_xN X) v1)).2 ∧ cp_oc c I I') := by
  obtain ⟨hN, ⟨nx, hx7, hnx, hL0, hHs⟩, hZ, hT, hTt⟩ := id hX
  refine cp_Fn_iR [some (.ref c), some (.int v1)] (by decide +kernel) (Nat.le_of_ble_eq_true rfl) rfl rfl (fun x hxl O hr => ?_)
  subst hxl
  refine cp_aload_n O dX6_plate_0 cp_lg0 ?_
  refine fg_X6_22 O Pl.s Pl.f2 dX6_plate_1 ?_
  refine cp_aload_n O dX6_plate_4 cp_lg0 ?_
  refine fg_X6_10 O Pl.s Pl.f0 dX6_plate_5 ?_
  refine cp_cVvr O me_X0_prepare mi_X0_prepare ml_X6_46 cp_cX0 (Pl.hist).s (c_X0_prepare Pl.hist hnx hx7 Pl.night (by unfold cp_far; omega) hV.1 hN) dX6_plate_8 rfl rfl ⟨Nat.le_of_ble_eq_true rfl, Nat.le_of_ble_eq_true rfl⟩ ⟨Nat.le_refl _, Nat.le_refl _⟩ (Nat.le_of_ble_eq_true rfl) (fun I8 hT8 => ?_)
  obtain ⟨hP1, hO1⟩ := hT8
  refine cp_aload_n O dX6_plate_11 cp_lg0 ?_
  refine fg_X6_22 O Pl.s Pl.f2 dX6_plate_12 ?_
  refine cp_aload_n O dX6_plate_15 cp_lg0 ?_
  refine fg_X6_10 O Pl.s Pl.f0 dX6_plate_16 ?_
  refine cp_iload_n O dX6_plate_19 cp_lg1 ?_
  refine cp_cVir O me_X1_addPlate mi_X1_addPlate ml_X6_62 cp_cX1 (Pl.night).s (h_X1_addPlate Pl.night hV.1 (cp_HN_ou hN hO1 (by unfold cp_far; omega) hV.1)) dX6_plate_20 rfl rfl ⟨Nat.le_of_ble_eq_true rfl, Nat.le_of_ble_eq_true rfl⟩ ⟨Nat.le_refl _, Nat.le_refl _⟩ (Nat.le_of_ble_eq_true rfl) (fun I20 hT20 => ?_)
  obtain ⟨hP2, hO2⟩ := hT20
  refine cp_cVi O me_X0_recordUnlessError mi_X0_recordUnlessError ml_X6_54 cp_cX0 (Pl.hist).s (c_X0_recordUnlessError Pl.hist (nx := nx) (by rw [hO2 _ (by omega), hO1 _ (by omega)]; exact hnx) hx7 (L0 := cp_xL X) (by rw [hO2 _ (by omega), hO1 _ (by omega)]; exact hL0) hV.2.1) dX6_plate_23 rfl rfl ⟨Nat.le_of_ble_eq_true rfl, Nat.le_of_ble_eq_true rfl⟩ ⟨Nat.le_refl _, Nat.le_refl _⟩ (Nat.le_of_ble_eq_true rfl) ?_
  exact hr _ _ _ _ dX6_plate_26 (cp_chg_1 _ _).symm (cp_XR_chg Sl hV hX hx7 hnx hL0 hHs hP1 hO1 hP2 hO2 (cp_NV_plate hV.1) (cp_err_plate hN.2.2.2.1))
set_option maxHeartbeats 4000000 in
set_option maxRecDepth 100000 in
theorem c_X6_hold {lc : Launch} {E : cp_En} {cnt : Nat} {sh : cp_Shp} {R : cp_Rem} {I : cp_Mem} {c : Nat} (Pl : cp_PL sh R c) (Sl : cp_SL sh R c) {X : cp_St} (hV : cp_XV X) (hX : cp_XR I R c X) {v1 : Int32} : cp_Fr lc E yX6_hold cX6_hold 2 (some .int) 3 [.ref c, .int v1] cnt sh I R (some (.int ((cp_chg X (cp_sHold (cp_xN X) v1)).1))) (fun I' => cp_XR I' R c (cp_chg X (cp_sHold (cp_xN X) v1)).2 ∧ cp_oc c I I') := by
  obtain ⟨hN, ⟨nx, hx7, hnx, hL0, hHs⟩, hZ, hT, hTt⟩ := id hX
  refine cp_Fn_iR [some (.ref c), some (.int v1)] (by decide +kernel) (Nat.le_of_ble_eq_true rfl) rfl rfl (fun x hxl O hr => ?_)
  subst hxl
  refine cp_aload_n O dX6_hold_0 cp_lg0 ?_
  refine fg_X6_22 O Pl.s Pl.f2 dX6_hold_1 ?_
  refine cp_aload_n O dX6_hold_4 cp_lg0 ?_
  refine fg_X6_10 O Pl.s Pl.f0 dX6_hold_5 ?_
  refine cp_cVvr O me_X0_prepare mi_X0_prepare ml_X6_46 cp_cX0 (Pl.hist).s (c_X0_prepare Pl.hist hnx hx7 Pl.night (by unfold cp_far; omega) hV.1 hN) dX6_hold_8 rfl rfl ⟨Nat.le_of_ble_eq_true rfl, Nat.le_of_ble_eq_true rfl⟩ ⟨Nat.le_refl _, Nat.le_refl _⟩ (Nat.le_of_ble_eq_true rfl) (fun I8 hT8 => ?_)
  obtain ⟨hP1, hO1⟩ := hT8
  refine cp_aload_n O dX6_hold_11 cp_lg0 ?_
  refine fg_X6_22 O Pl.s Pl.f2 dX6_hold_12 ?_
  refine cp_aload_n O dX6_hold_15 cp_lg0 ?_
  refine fg_X6_10 O Pl.s Pl.f0 dX6_hold_16 ?_
  refine cp_iload_n O dX6_hold_19 cp_lg1 ?_
  refine cp_cVir O me_X1_turnHold mi_X1_turnHold ml_X6_65 cp_cX1 (Pl.night).s (h_X1_turnHold Pl.night hV.1 (cp_HN_ou hN hO1 (by unfold cp_far; omega) hV.1)) dX6_hold_20 rfl rfl ⟨Nat.le_of_ble_eq_true rfl, Nat.le_of_ble_eq_true rfl⟩ ⟨Nat.le_refl _, Nat.le_refl _⟩ (Nat.le_of_ble_eq_true rfl) (fun I20 hT20 => ?_)
  obtain ⟨hP2, hO2⟩ := hT20
  refine cp_cVi O me_X0_recordUnlessError mi_X0_recordUnlessError ml_X6_54 cp_cX0 (Pl.hist).s (c_X0_recordUnlessError Pl.hist (nx := nx) (by rw [hO2 _ (by omega), hO1 _ (by omega)]; exact hnx) hx7 (L0 := cp_xL X) (by rw [hO2 _ (by omega), hO1 _ (by omega)]; exact hL0) hV.2.1) dX6_hold_23 rfl rfl ⟨Nat.le_of_ble_eq_true rfl, Nat.le_of_ble_eq_true rfl⟩ ⟨Nat.le_refl _, Nat.le_refl _⟩ (Nat.le_of_ble_eq_true rfl) ?_
  exact hr _ _ _ _ dX6_hold_26 (cp_chg_1 _ _).symm (cp_XR_chg Sl hV hX hx7 hnx hL0 hHs hP1 hO1 hP2 hO2 (cp_NV_hold hV.1) (cp_err_hold hV.1))
set_option maxHeartbeats 4000000 in
set_option maxRecDepth 100000 in
theorem c_X6_kill {lc : Launch} {E : cp_En} {cnt : Nat} {sh : cp_Shp} {R : cp_Rem} {I : cp_Mem} {c : Nat} (Pl : cp_PL sh R c) (Sl : cp_SL sh R c) {X : cp_St} (hV : cp_XV X) (hX : cp_XR I R c X) {v1 : Int32} : cp_Fr lc E yX6_kill cX6_kill 2 (some .int) 5 [.ref c, .int v1] cnt sh I R (some (.int ((cp_chg X (cp_sKill (cp_xN X) v1)).1))) (fun I' => cp_XR I' R c (cp_chg X (cp_sKill (cp_xN X) v1)).2 ∧ cp_oc c I I') := by
  obtain ⟨hN, ⟨nx, hx7, hnx, hL0, hHs⟩, hZ, hT, hTt⟩ := id hX
  refine cp_Fn_iR [some (.ref c), some (.int v1)] (by decide +kernel) (Nat.le_of_ble_eq_true rfl) rfl rfl (fun x hxl O hr => ?_)
  subst hxl
  refine cp_aload_n O dX6_kill_0 cp_lg0 ?_
  refine fg_X6_22 O Pl.s Pl.f2 dX6_kill_1 ?_
  refine cp_aload_n O dX6_kill_4 cp_lg0 ?_
  refine fg_X6_10 O Pl.s Pl.f0 dX6_kill_5 ?_
  refine cp_cVvr O me_X0_prepare mi_X0_prepare ml_X6_46 cp_cX0 (Pl.hist).s (c_X0_prepare Pl.hist hnx hx7 Pl.night (by unfold cp_far; omega) hV.1 hN) dX6_kill_8 rfl rfl ⟨Nat.le_of_ble_eq_true rfl, Nat.le_of_ble_eq_true rfl⟩ ⟨Nat.le_refl _, Nat.le_refl _⟩ (Nat.le_of_ble_eq_true rfl) (fun I8 hT8 => ?_)
  obtain ⟨hP1, hO1⟩ := hT8
  refine cp_aload_n O dX6_kill_11 cp_lg0 ?_
  refine fg_X6_22 O Pl.s Pl.f2 dX6_kill_12 ?_
  refine cp_aload_n O dX6_kill_15 cp_lg0 ?_
  refine fg_X6_10 O Pl.s Pl.f0 dX6_kill_16 ?_
  refine cp_iload_n O dX6_kill_19 cp_lg1 ?_
  refine cp_cVir O me_X1_killPiece mi_X1_killPiece ml_X6_68 cp_cX1 (Pl.night).s (h_X1_killPiece Pl.night hV.1 (cp_HN_ou hN hO1 (by unfold cp_far; omega) hV.1)) dX6_kill_20 rfl rfl ⟨Nat.le_of_ble_eq_true rfl, Nat.le_of_ble_eq_true rfl⟩ ⟨Nat.le_refl _, Nat.le_refl _⟩ (Nat.le_of_ble_eq_true rfl) (fun I20 hT20 => ?_)
  obtain ⟨hP2, hO2⟩ := hT20
  refine cp_cVi O me_X0_recordUnlessError mi_X0_recordUnlessError ml_X6_54 cp_cX0 (Pl.hist).s (c_X0_recordUnlessError Pl.hist (nx := nx) (by rw [hO2 _ (by omega), hO1 _ (by omega)]; exact hnx) hx7 (L0 := cp_xL X) (by rw [hO2 _ (by omega), hO1 _ (by omega)]; exact hL0) hV.2.1) dX6_kill_23 rfl rfl ⟨Nat.le_of_ble_eq_true rfl, Nat.le_of_ble_eq_true rfl⟩ ⟨Nat.le_refl _, Nat.le_refl _⟩ (Nat.le_of_ble_eq_true rfl) ?_
  exact hr _ _ _ _ dX6_kill_26 (cp_chg_1 _ _).symm (cp_XR_chg Sl hV hX hx7 hnx hL0 hHs hP1 hO1 hP2 hO2 (cp_NV_kill hV.1) (cp_err_kill))
set_option maxHeartbeats 4000000 in
set_option maxRecDepth 100000 in
theorem c_X6_pass {lc : Launch} {E : cp_En} {cnt : Nat} {sh : cp_Shp} {R : cp_Rem} {I : cp_Mem} {c : Nat} (Pl : cp_PL sh R c) (Sl : cp_SL sh R c) {X : cp_St} (hV : cp_XV X) (hX : cp_XR I R c X) {v1 : Int32} : cp_Fr lc E yX6_pass cX6_pass 2 (some .int) 5 [.ref c, .int v1] cnt sh I R (some (.int ((cp_chg X (cp_sPass (cp_xN X) v1)).1))) (fun I' => cp_XR I' R c (cp_chg X (cp_sPass (cp_xN X) v1)).2 ∧ cp_oc c I I') := by
  obtain ⟨hN, ⟨nx, hx7, hnx, hL0, hHs⟩, hZ, hT, hTt⟩ := id hX
  refine cp_Fn_iR [some (.ref c), some (.int v1)] (by decide +kernel) (Nat.le_of_ble_eq_true rfl) rfl rfl (fun x hxl O hr => ?_)
  subst hxl
  refine cp_aload_n O dX6_pass_0 cp_lg0 ?_
  refine fg_X6_22 O Pl.s Pl.f2 dX6_pass_1 ?_
  refine cp_aload_n O dX6_pass_4 cp_lg0 ?_
  refine fg_X6_10 O Pl.s Pl.f0 dX6_pass_5 ?_
  refine cp_cVvr O me_X0_prepare mi_X0_prepare ml_X6_46 cp_cX0 (Pl.hist).s (c_X0_prepare Pl.hist hnx hx7 Pl.night (by unfold cp_far; omega) hV.1 hN) dX6_pass_8 rfl rfl ⟨Nat.le_of_ble_eq_true rfl, Nat.le_of_ble_eq_true rfl⟩ ⟨Nat.le_refl _, Nat.le_refl _⟩ (Nat.le_of_ble_eq_true rfl) (fun I8 hT8 => ?_)
  obtain ⟨hP1, hO1⟩ := hT8
  refine cp_aload_n O dX6_pass_11 cp_lg0 ?_
  refine fg_X6_22 O Pl.s Pl.f2 dX6_pass_12 ?_
  refine cp_aload_n O dX6_pass_15 cp_lg0 ?_
  refine fg_X6_10 O Pl.s Pl.f0 dX6_pass_16 ?_
  refine cp_iload_n O dX6_pass_19 cp_lg1 ?_
  refine cp_cVir O me_X1_passMinutes mi_X1_passMinutes ml_X6_71 cp_cX1 (Pl.night).s (h_X1_passMinutes Pl.night hV.1 (cp_HN_ou hN hO1 (by unfold cp_far; omega) hV.1)) dX6_pass_20 rfl rfl ⟨Nat.le_of_ble_eq_true rfl, Nat.le_of_ble_eq_true rfl⟩ ⟨Nat.le_refl _, Nat.le_refl _⟩ (Nat.le_of_ble_eq_true rfl) (fun I20 hT20 => ?_)
  obtain ⟨hP2, hO2⟩ := hT20
  refine cp_cVi O me_X0_recordUnlessError mi_X0_recordUnlessError ml_X6_54 cp_cX0 (Pl.hist).s (c_X0_recordUnlessError Pl.hist (nx := nx) (by rw [hO2 _ (by omega), hO1 _ (by omega)]; exact hnx) hx7 (L0 := cp_xL X) (by rw [hO2 _ (by omega), hO1 _ (by omega)]; exact hL0) hV.2.1) dX6_pass_23 rfl rfl ⟨Nat.le_of_ble_eq_true rfl, Nat.le_of_ble_eq_true rfl⟩ ⟨Nat.le_refl _, Nat.le_refl _⟩ (Nat.le_of_ble_eq_true rfl) ?_
  exact hr _ _ _ _ dX6_pass_26 (cp_chg_1 _ _).symm (cp_XR_chg Sl hV hX hx7 hnx hL0 hHs hP1 hO1 hP2 hO2 (cp_NV_pass hV.1) (cp_err_pass hV.1))

