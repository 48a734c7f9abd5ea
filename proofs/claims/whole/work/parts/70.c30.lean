theorem cp_XR_chg2 {sh : cp_Shp} {R : cp_Rem} {I I2 : cp_Mem} {c nx : Nat} {X : cp_St} {o : Int32 × cp_Nt} (Sl : cp_SL sh R c) (hV : cp_XV X) (hX : cp_XR I R c X) (hx7 : nx < 7) (hnx : I (c + 73) 1 = nI nx) (hL0 : I (c + 73) 2 = nI (cp_xL X)) (hHs : ∀ i, i < cp_xL X → cp_HN I (c + 73 + 2 + 36 * cp_ps nx (cp_xL X) i) (cp_xH X i)) (hP1 : cp_HN I2 (c + 73 + 2 + 36 * nx) (cp_xN X)) (hP2 : cp_HN I2 (c + 1) o.2) (e12 : ∀ x, (x < c + 1 ∨ c + 37 ≤ x) → (x < c + 75 + 36 * nx ∨ c + 75 + 36 * nx + 36 ≤ x) → x ≠ c + 330 → I2 x = I x) (hV2 : cp_NV o.2) (herr : ¬ o.1 < 0) :
    cp_XR (if o.1 < 0 then I2 else cp_wi (cp_wi I2 (c + 73) 1 (nI (cp_nx1 nx))) (c + 73) 2 (nI (cp_lm1 (cp_xL X)))) R c (cp_psh X o.2) ∧ cp_oc c I (if o.1 < 0 then I2 else cp_wi (cp_wi I2 (c + 73) 1 (nI (cp_nx1 nx))) (c + 73) 2 (nI (cp_lm1 (cp_xL X)))) := by
  obtain ⟨-, -, hZ, hT, hTt⟩ := hX
  have hL6 := hV.2.1
  have hO : ∀ i, i < cp_xL X → cp_HN I2 (c + 73 + 2 + 36 * cp_ps nx (cp_xL X) i) (cp_xH X i) := fun i hi => by
    obtain ⟨p1, p2⟩ := cp_ps_ne hx7 hL6 hi
    exact cp_HN_e (hHs i hi) (hV.2.2.1 i hi) (fun x h1 h2 => e12 x (by omega) (by omega) (by omega))
  rw [if_neg herr]
  have e3 : ∀ x, x ≠ c + 73 → cp_wi (cp_wi I2 (c + 73) 1 (nI (cp_nx1 nx))) (c + 73) 2 (nI (cp_lm1 (cp_xL X))) x = I2 x := fun x hx => (cp_wi_a _ _ _ _ hx).trans (cp_wi_a _ _ _ _ hx)
  refine ⟨⟨cp_HN_e hP2 hV2 (fun x h1 h2 => e3 x (by omega)), ⟨cp_nx1 nx, cp_nx1_7 hx7, ?_, ?_, fun i hi => ?_⟩, fun s hs => ?_, ?_, fun i hi => ?_⟩, fun x hx => (e3 x (by omega)).trans (e12 x (by omega) (by omega) (by omega))⟩
  · rw [cp_wi_j _ _ _ _ (fun z => absurd z.2 (by decide)), cp_wi_s]
  · rw [cp_wi_s, cp_L1_lm]
    rfl
  · have hi : i < cp_L1 (cp_xL X) + 1 := hi
    show cp_HN _ (c + 73 + 2 + 36 * cp_ps (cp_nx1 nx) (cp_L1 (cp_xL X) + 1) i) (if i < cp_L1 (cp_xL X) then cp_xH X (i + cp_L0 (cp_xL X)) else cp_xN X)
    by_cases hlt : i < cp_L1 (cp_xL X)
    · have hj := cp_L1_0 hL6 hlt
      obtain ⟨p1, p2⟩ := cp_ps_ne hx7 hL6 hj
      rw [if_pos hlt, cp_ps_old hx7 hL6 hlt]
      exact cp_HN_e (hO _ hj) (hV.2.2.1 _ hj) (fun x h1 h2 => e3 x (by omega))
    · have ei : i = cp_L1 (cp_xL X) := by omega
      rw [if_neg hlt, ei, cp_ps_new hx7 hL6]
      exact cp_HN_e hP1 hV.1 (fun x h1 h2 => e3 x (by omega))
  · exact cp_XZ_e (X := X) Sl hV hs (hZ s hs) (fun x hx => (e3 x (by omega)).trans (e12 x (by omega) (by omega) (by omega)))
  · show cp_wi _ _ _ _ (c + 328) 1 = _
    rw [e3 _ (by omega), e12 _ (by omega) (by omega) (by omega)]; exact hT
  · show cp_wi _ _ _ _ (c + 329) i = _
    rw [e3 _ (by omega), e12 _ (by omega) (by omega) (by omega)]; exact hTt i hi
theorem cp_wi_c {I I' : cp_Mem} {a j x : Nat} {v : Int32} (h : I' x = I x) : cp_wi I' a j v x = cp_wi I a j v x := by
  funext q
  unfold cp_wi
  rw [h]
/-- the pad, changed -/
theorem cp_XR_pad {sh : cp_Shp} {R : cp_Rem} {I I' : cp_Mem} {c n : Nat} {X : cp_St} {T : Nat → Int32} (Sl : cp_SL sh R c) (hV : cp_XV X) (hX : cp_XR I R c X) (e : ∀ x, x ≠ c + 328 → x ≠ c + 329 → I' x = I x) (h1 : I' (c + 328) 1 = nI n) (h2 : ∀ i, i < n → I' (c + 329) i = T i) : cp_XR I' R c (cp_xN X, cp_xL X, cp_xH X, cp_xZ X, T, n) ∧ cp_oc c I I' := by
  obtain ⟨hN, ⟨nx, hx7, hnx, hL0, hHs⟩, hZ, hT, hTt⟩ := hX
  refine ⟨⟨cp_HN_e hN hV.1 (fun x h1 h2 => e x (by omega) (by omega)), ⟨nx, hx7, ?_, ?_, fun i hi => ?_⟩, fun s hs => cp_XZ_e (X := X) Sl hV hs (hZ s hs) (fun x hx => e x (by omega) (by omega)), h1, h2⟩, fun x hx => e x (by omega) (by omega)⟩
  · rw [e _ (by omega) (by omega)]; exact hnx
  · rw [e _ (by omega) (by omega)]; exact hL0
  · have p := (cp_ps_ne hx7 hV.2.1 hi).2
    show cp_HN I' (c + 73 + 2 + 36 * cp_ps nx (cp_xL X) i) (cp_xH X i)
    exact cp_HN_e (hHs i hi) (hV.2.2.1 i hi) (fun x h1 h2 => e x (by omega) (by omega))
theorem cp_carry_fin {sh : cp_Shp} {R : cp_Rem} {I M : cp_Mem} {c nx cr : Nat} {X : cp_St} {Z : cp_Nt} (Sl : cp_SL sh R c) (hV : cp_XV X) (hX : cp_XR I R c X) (hx7 : nx < 7) (hnx : I (c + 73) 1 = nI nx) (hL0 : I (c + 73) 2 = nI (cp_xL X)) (hHs : ∀ i, i < cp_xL X → cp_HN I (c + 73 + 2 + 36 * cp_ps nx (cp_xL X) i) (cp_xH X i)) (hP1 : cp_HN M (c + 73 + 2 + 36 * nx) (cp_xN X)) (hP2 : cp_HN M (c + 1) Z) (e12 : ∀ x, (x < c + 1 ∨ c + 37 ≤ x) → (x < c + 75 + 36 * nx ∨ c + 75 + 36 * nx + 36 ≤ x) → x ≠ c + 330 → M x = I x) (hV2 : cp_NV Z) (hcr : cr < 2 ^ 31) :
    cp_XR (if nI cr < 0 then cp_wi M (c + 328) 1 0 else cp_wi (cp_wi (cp_wi M (c + 328) 1 0) (c + 73) 1 (nI (cp_nx1 nx))) (c + 73) 2 (nI (cp_lm1 (cp_xL X)))) R c (cp_psh (cp_xW X) Z) ∧ cp_oc c I (if nI cr < 0 then cp_wi M (c + 328) 1 0 else cp_wi (cp_wi (cp_wi M (c + 328) 1 0) (c + 73) 1 (nI (cp_nx1 nx))) (c + 73) 2 (nI (cp_lm1 (cp_xL X)))) := by
  have hW := cp_XR_pad (I' := cp_wi I (c + 328) 1 0) (n := 0) (T := cp_xT X) Sl hV hX (fun x h1 _ => cp_wi_a _ _ _ _ h1) (cp_wi_s _ _ _ _) (fun i hi => absurd hi (Nat.not_lt_zero _))
  have hVW : cp_XV (cp_xW X) := ⟨hV.1, hV.2.1, hV.2.2.1, hV.2.2.2.1, Nat.zero_le _, fun i hi => absurd hi (Nat.not_lt_zero _)⟩
  have p7 : nx < 7 := hx7
  have g := cp_XR_chg2 (I := cp_wi I (c + 328) 1 0) (I2 := cp_wi M (c + 328) 1 0) (X := cp_xW X) (o := (nI cr, Z)) Sl hVW hW.1 hx7 (by rw [cp_wi_a _ _ _ _ (by omega)]; exact hnx) (by rw [cp_wi_a _ _ _ _ (by omega)]; exact hL0) (fun i hi => by
      have p := (cp_ps_ne hx7 hV.2.1 hi).2
      show cp_HN _ (c + 73 + 2 + 36 * cp_ps nx (cp_xL X) i) (cp_xH X i)
      exact cp_HN_e (hHs i hi) (hV.2.2.1 i hi) (fun x h1 h2 => cp_wi_a _ _ _ _ (by omega)))
    (cp_HN_e hP1 hV.1 (fun x h1 h2 => cp_wi_a _ _ _ _ (by omega))) (cp_HN_e hP2 hV2 (fun x h1 h2 => cp_wi_a _ _ _ _ (by omega))) (fun x h1 h2 h3 => cp_wi_c (e12 x h1 h2 h3)) hV2 (cp_nn0 hcr)
  exact ⟨g.1, fun x hx => (g.2 x hx).trans (cp_wi_a _ _ _ _ (by omega))⟩
theorem cp_pO_128 {t : Nat → Int32} {w : Nat → Nat} {len s : Nat} {o : cp_Od} (hT : cp_TX t w len) (h : (cp_pO w len s).1 = some o) : o.1 < 128 := by
  unfold cp_pO at h
  split at h
  · have := cp_pP_43 h; omega
  · split at h
    · rename_i h1 h2
      split at h
      · obtain rfl := Option.some.inj h
        exact (hT.2 s h2.1).2
      · exact absurd h (by simp)
    · exact absurd h (by simp)
set_option maxHeartbeats 4000000 in
set_option maxRecDepth 100000 in
theorem c_X6_carryOut {lc : Launch} {E : cp_En} {cnt : Nat} {sh : cp_Shp} {R : cp_Rem} {I : cp_Mem} {c : Nat} (Pl : cp_PL sh R c) (Sl : cp_SL sh R c) {X : cp_St} (hV : cp_XV X) (hX : cp_XR I R c X) : cp_Fr lc E yX6_carryOut cX6_carryOut 3 (some .int) 6 [.ref c] cnt sh I R (some (.int ((cp_sCarry X).1))) (fun I' => cp_XR I' R c (cp_sCarry X).2 ∧ cp_oc c I I') := by
  obtain ⟨hN, ⟨nx, hx7, hnx, hL0, hHs⟩, hZ, hT, hTt⟩ := id hX
  have hTX := cp_XV_TX hV hTt
  have hl80 := hV.2.2.2.2.1
  refine cp_Fn_iR [some (.ref c), none, none] (by decide +kernel) (Nat.le_of_ble_eq_true rfl) rfl rfl (fun x hxl O hr => ?_)
  subst hxl
  refine cp_aload_n O dX6_carryOut_0 cp_lg0 ?_
  refine fg_X6_42 O Pl.s Pl.f5 dX6_carryOut_1 ?_
  refine cp_cVir O me_X2_findFault mi_X2_findFault ml_X6_147 cp_cX2 (Pl.rdr).s (h_X2_findFault Pl.rdr (by omega) hT hTX) dX6_carryOut_4 rfl rfl ⟨Nat.le_of_ble_eq_true rfl, Nat.le_of_ble_eq_true rfl⟩ ⟨Nat.le_refl _, Nat.le_refl _⟩ (Nat.le_of_ble_eq_true rfl) (fun I4 hT4 => ?_)
  refine cp_bipush O dX6_carryOut_7 (v := (-6)) rfl ?_
  refine cp_icmp_eq (tgt := 15) O dX6_carryOut_9 (by decide) (fun c_9 => ?_) (fun c_9 => ?_)
  · have hs0 : cp_sCarry X = (nI (cp_cyr X).1, cp_psh (cp_xW X) (cp_cyr X).2) := if_pos c_9
    refine cp_aload_n O dX6_carryOut_15 cp_lg0 ?_
    refine fg_X6_22 O Pl.s Pl.f2 dX6_carryOut_16 ?_
    refine cp_aload_n O dX6_carryOut_19 cp_lg0 ?_
    refine fg_X6_10 O Pl.s Pl.f0 dX6_carryOut_20 ?_
    refine cp_cVvr O me_X0_prepare mi_X0_prepare ml_X6_46 cp_cX0 (Pl.hist).s (c_X0_prepare Pl.hist (by rw [hT4 _ (by omega)]; exact hnx) hx7 Pl.night (by unfold cp_far; omega) hV.1 (cp_HN_e hN hV.1 (fun x h1 h2 => hT4 x (by omega)))) dX6_carryOut_23 rfl rfl ⟨Nat.le_of_ble_eq_true rfl, Nat.le_of_ble_eq_true rfl⟩ ⟨Nat.le_refl _, Nat.le_refl _⟩ (Nat.le_of_ble_eq_true rfl) (fun I23 hT23 => ?_)
    obtain ⟨hP1, hO1⟩ := hT23
    refine cp_aload_n O dX6_carryOut_26 cp_lg0 ?_
    refine fg_X6_42 O Pl.s Pl.f5 dX6_carryOut_27 ?_
    refine cp_cVvr O me_X2_goToStart mi_X2_goToStart ml_X6_150 cp_cX2 (Pl.rdr).s (h_X2_goToStart Pl.rdr) dX6_carryOut_30 rfl rfl ⟨Nat.le_of_ble_eq_true rfl, Nat.le_of_ble_eq_true rfl⟩ ⟨Nat.le_refl _, Nat.le_refl _⟩ (Nat.le_of_ble_eq_true rfl) (fun I30 hT30 => ?_)
    obtain ⟨hR1, hR2⟩ := hT30
    refine cp_iconst O dX6_carryOut_33 (v := 0) rfl ?_
    refine cp_istore_n O dX6_carryOut_34 (by decide) (cp_ls1 rfl) ?_
    refine cp_iconst O dX6_carryOut_35 (v := 0) rfl ?_
    refine cp_istore_n O dX6_carryOut_36 (by decide) (cp_ls2 rfl) ?_
    have loop37 : ∀ k, k ≤ 80 → ∀ (I' : cp_Mem) (s t cr : Nat) (Z : cp_Nt), I' (c + 330) 1 = nI s → s ≤ cp_xn X → k ≤ s → cp_xn X + 1 ≤ s + t → cp_fl2 (cp_wX X) (cp_xn X) t s = -6 → cp_run (cp_wX X) (cp_xn X) t s Z cr = cp_cyr X → cr ≤ k → cp_HN I' (c + 1) Z → cp_NV Z → (∀ x, x ≠ c + 330 → (x < c + 1 ∨ c + 37 ≤ x) → I' x = I23 x) → cp_G x E 3 0 0 cnt sh I' R 37 [some (.ref c), some (.int (nI cr)), some (.int (nI k))] [] := by
      refine cp_up (n := 80) (P := fun k => ∀ (I' : cp_Mem) (s t cr : Nat) (Z : cp_Nt), I' (c + 330) 1 = nI s → s ≤ cp_xn X → k ≤ s → cp_xn X + 1 ≤ s + t → cp_fl2 (cp_wX X) (cp_xn X) t s = -6 → cp_run (cp_wX X) (cp_xn X) t s Z cr = cp_cyr X → cr ≤ k → cp_HN I' (c + 1) Z → cp_NV Z → (∀ x, x ≠ c + 330 → (x < c + 1 ∨ c + 37 ≤ x) → I' x = I23 x) → cp_G x E 3 0 0 cnt sh I' R 37 [some (.ref c), some (.int (nI cr)), some (.int (nI k))] []) (fun k hk ih I' s t cr Z h1 hs hks ht hfl hrun hcr hHZ hVZ hfr => ?_)
      obtain ⟨t, rfl⟩ : ∃ t', t = t' + 1 := ⟨t - 1, by omega⟩
      obtain ⟨o, p, hq, hsp, hpl⟩ := cp_fl2_o hs hl80 hfl
      have hLn : I' (c + 328) 1 = nI (cp_xn X) := by rw [hfr _ (by omega) (by omega), hO1 _ (by omega), hT4 _ (by omega)]; exact hT
      have hTn : cp_TX (I' (c + 329)) (cp_wX X) (cp_xn X) := by rw [hfr _ (by omega) (by omega), hO1 _ (by omega), hT4 _ (by omega)]; exact hTX
      refine cp_iload_n O dX6_carryOut_37 cp_lg2 ?_
      refine cp_bipush O dX6_carryOut_38 (v := 80) rfl ?_
      refine cp_icmp_geN (tgt := 87) O dX6_carryOut_40 (by decide) (a := k) (b := 80) rfl rfl (by omega) (by omega) (fun c_40 => ?_) (fun c_40 => ?_)
      · exact absurd hsp (by omega)
      · refine cp_aload_n O dX6_carryOut_43 cp_lg0 ?_
        refine fg_X6_42 O Pl.s Pl.f5 dX6_carryOut_44 ?_
        refine cp_cVir O me_X2_readOrder mi_X2_readOrder ml_X6_153 cp_cX2 (Pl.rdr).s (h_X2_readOrder (I := I') Pl.rdr (by omega) hLn hTn (s := s) (by omega) h1) dX6_carryOut_47 rfl rfl ⟨Nat.le_of_ble_eq_true rfl, Nat.le_of_ble_eq_true rfl⟩ ⟨Nat.le_refl _, Nat.le_refl _⟩ (Nat.le_of_ble_eq_true rfl) (fun I47 hT47 => ?_)
        obtain ⟨hx3, hp3, ho3⟩ := hT47
        rw [hq] at hp3 ho3
        have hOG := ho3 o rfl
        have hp3 : I47 (c + 330) 1 = nI p := hp3
        have ho128 : o.1 < 128 := cp_pO_128 hTn (show (cp_pO (cp_wX X) (cp_xn X) s).1 = some o by rw [hq])
        rw [hq]
        refine cp_if_eqB (tgt := 87) O dX6_carryOut_50 (by decide) (fun c_50 => ?_) (fun c_50 => ?_)
        · exact absurd (show true = false from c_50) (by decide)
        · refine cp_aload_n O dX6_carryOut_53 cp_lg0 ?_
          refine cp_cVir O me_X6_carryOrderOut mi_X6_carryOrderOut ml_X6_156 cp_cX6 Pl.s (c_X6_carryOrderOut Pl hVZ (cp_HN_e hHZ hVZ (fun x h1 h2 => hx3 x (by omega))) hOG ho128) dX6_carryOut_54 rfl rfl ⟨Nat.le_of_ble_eq_true rfl, Nat.le_of_ble_eq_true rfl⟩ ⟨Nat.le_refl _, Nat.le_refl _⟩ (Nat.le_of_ble_eq_true rfl) (fun I54 hT54 => ?_)
          obtain ⟨hN4, hO4⟩ := hT54
          refine cp_if_ge (tgt := 63) O dX6_carryOut_57 (by decide) (fun c_57 => ?_) (fun c_57 => ?_)
          · have hge : ¬ (cp_doO Z o).1 < 0 := Int32.not_lt.mpr c_57
            refine cp_iinc O dX6_carryOut_63 cp_lg1 (cp_inc rfl) (by decide) (cp_ls1 rfl) ?_
            refine cp_aload_n O dX6_carryOut_66 cp_lg0 ?_
            refine fg_X6_42 O Pl.s Pl.f5 dX6_carryOut_67 ?_
            refine cp_bipush O dX6_carryOut_70 (v := 59) rfl ?_
            refine cp_cVir O me_X2_readSign mi_X2_readSign ml_X6_159 cp_cX2 (Pl.rdr).s (h_X2_readSign (I := I54) (w := cp_wX X) (len := cp_xn X) Pl.rdr (by omega) (by rw [hO4 _ (by omega), hx3 _ (by omega)]; exact hLn) (by rw [hO4 _ (by omega), hx3 _ (by omega)]; exact hTn) (s := p) (by omega) (by rw [hO4 _ (by omega)]; exact hp3) (q := 59) (by decide) (by decide)) dX6_carryOut_72 rfl rfl ⟨Nat.le_of_ble_eq_true rfl, Nat.le_of_ble_eq_true rfl⟩ ⟨Nat.le_refl _, Nat.le_refl _⟩ (Nat.le_of_ble_eq_true rfl) (fun I72 hT72 => ?_)
            obtain ⟨hx5, hs5⟩ := hT72
            refine cp_if_neB (tgt := 81) O dX6_carryOut_75 (by decide) (fun c_75 => ?_) (fun c_75 => ?_)
            · refine cp_iinc O dX6_carryOut_81 cp_lg2 (cp_inc rfl) (by decide) (cp_ls2 rfl) ?_
              refine cp_goto (tgt := 37) O dX6_carryOut_84 (by decide) ?_
              exact ih (by omega) I72 (p + 1) t (cr + 1) (cp_doO Z o).2 (hs5 c_75) (by have := cp_he_t c_75; omega) (by omega) (by omega) (by rw [← hfl, cp_fl2_s hq, if_pos c_75]) (by rw [← hrun, cp_run_s hq, if_neg hge, if_pos c_75]) (by omega) (cp_HN_e hN4 (cp_NV_doO hVZ) (fun x h1 h2 => hx5 x (by omega))) (cp_NV_doO hVZ) (fun x hx hx2 => by rw [hx5 x hx, hO4 x (by omega), hx3 x hx]; exact hfr x hx hx2)
            · refine cp_goto (tgt := 87) O dX6_carryOut_78 (by decide) ?_
              have hcy : cp_cyr X = (cr + 1, (cp_doO Z o).2) := by rw [← hrun, cp_run_s hq, if_neg hge, if_neg (cp_bF c_75)]
              have hNf : cp_HN I72 (c + 1) (cp_doO Z o).2 := cp_HN_e hN4 (cp_NV_doO hVZ) (fun x h1 h2 => hx5 x (by omega))
              have hfrf : ∀ x, x ≠ c + 330 → (x < c + 1 ∨ c + 37 ≤ x) → I72 x = I23 x := fun x hx hx2 => by rw [hx5 x hx, hO4 x (by omega), hx3 x hx]; exact hfr x hx hx2
              refine cp_aload_n O dX6_carryOut_87 cp_lg0 ?_
              refine fg_X6_33 O Pl.s Pl.f4 dX6_carryOut_88 ?_
              refine cp_cVi O me_X3_empty mi_X3_empty ml_X6_144 cp_cX3 (Pl.pad).s (c_X3_empty Pl.pad (len := cp_xn X) (by rw [hfrf _ (by omega) (by omega), hO1 _ (by omega), hT4 _ (by omega)]; exact hT)) dX6_carryOut_91 rfl rfl ⟨Nat.le_of_ble_eq_true rfl, Nat.le_of_ble_eq_true rfl⟩ ⟨Nat.le_refl _, Nat.le_refl _⟩ (Nat.le_of_ble_eq_true rfl) ?_
              refine cp_pop O dX6_carryOut_94 rfl ?_
              refine cp_aload_n O dX6_carryOut_95 cp_lg0 ?_
              refine fg_X6_22 O Pl.s Pl.f2 dX6_carryOut_96 ?_
              refine cp_iload_n O dX6_carryOut_99 cp_lg1 ?_
              refine cp_cVi O me_X0_recordUnlessError mi_X0_recordUnlessError ml_X6_54 cp_cX0 (Pl.hist).s (c_X0_recordUnlessError Pl.hist (nx := nx) (by rw [cp_wi_a _ _ _ _ (by omega), hfrf _ (by omega) (by omega), hO1 _ (by omega), hT4 _ (by omega)]; exact hnx) hx7 (L0 := cp_xL X) (by rw [cp_wi_a _ _ _ _ (by omega), hfrf _ (by omega) (by omega), hO1 _ (by omega), hT4 _ (by omega)]; exact hL0) hV.2.1) dX6_carryOut_100 rfl rfl ⟨Nat.le_of_ble_eq_true rfl, Nat.le_of_ble_eq_true rfl⟩ ⟨Nat.le_refl _, Nat.le_refl _⟩ (Nat.le_of_ble_eq_true rfl) ?_
              exact hr _ _ _ _ dX6_carryOut_103 (by rw [hs0, hcy]) (by rw [hs0, hcy]; exact cp_carry_fin Sl hV hX hx7 hnx hL0 hHs (cp_HN_e hP1 hV.1 (fun x h1 h2 => hfrf x (by omega) (by omega))) hNf (fun x a b d => by rw [hfrf x d a, hO1 x (by omega), hT4 x d]) (cp_NV_doO hVZ) (by omega))
          · refine cp_goto (tgt := 87) O dX6_carryOut_60 (by decide) ?_
            have hcy : cp_cyr X = (cr, (cp_doO Z o).2) := by rw [← hrun, cp_run_s hq, if_pos (Int32.not_le.mp c_57)]
            have hNf := hN4
            have hfrf : ∀ x, x ≠ c + 330 → (x < c + 1 ∨ c + 37 ≤ x) → I54 x = I23 x := fun x hx hx2 => by rw [hO4 x (by omega), hx3 x hx]; exact hfr x hx hx2
            refine cp_aload_n O dX6_carryOut_87 cp_lg0 ?_
            refine fg_X6_33 O Pl.s Pl.f4 dX6_carryOut_88 ?_
            refine cp_cVi O me_X3_empty mi_X3_empty ml_X6_144 cp_cX3 (Pl.pad).s (c_X3_empty Pl.pad (len := cp_xn X) (by rw [hfrf _ (by omega) (by omega), hO1 _ (by omega), hT4 _ (by omega)]; exact hT)) dX6_carryOut_91 rfl rfl ⟨Nat.le_of_ble_eq_true rfl, Nat.le_of_ble_eq_true rfl⟩ ⟨Nat.le_refl _, Nat.le_refl _⟩ (Nat.le_of_ble_eq_true rfl) ?_
            refine cp_pop O dX6_carryOut_94 rfl ?_
            refine cp_aload_n O dX6_carryOut_95 cp_lg0 ?_
            refine fg_X6_22 O Pl.s Pl.f2 dX6_carryOut_96 ?_
            refine cp_iload_n O dX6_carryOut_99 cp_lg1 ?_
            refine cp_cVi O me_X0_recordUnlessError mi_X0_recordUnlessError ml_X6_54 cp_cX0 (Pl.hist).s (c_X0_recordUnlessError Pl.hist (nx := nx) (by rw [cp_wi_a _ _ _ _ (by omega), hfrf _ (by omega) (by omega), hO1 _ (by omega), hT4 _ (by omega)]; exact hnx) hx7 (L0 := cp_xL X) (by rw [cp_wi_a _ _ _ _ (by omega), hfrf _ (by omega) (by omega), hO1 _ (by omega), hT4 _ (by omega)]; exact hL0) hV.2.1) dX6_carryOut_100 rfl rfl ⟨Nat.le_of_ble_eq_true rfl, Nat.le_of_ble_eq_true rfl⟩ ⟨Nat.le_refl _, Nat.le_refl _⟩ (Nat.le_of_ble_eq_true rfl) ?_
            exact hr _ _ _ _ dX6_carryOut_103 (by rw [hs0, hcy]) (by rw [hs0, hcy]; exact cp_carry_fin Sl hV hX hx7 hnx hL0 hHs (cp_HN_e hP1 hV.1 (fun x h1 h2 => hfrf x (by omega) (by omega))) hNf (fun x a b d => by rw [hfrf x d a, hO1 x (by omega), hT4 x d]) (cp_NV_doO hVZ) (by omega))
    exact loop37 0 (Nat.zero_le _) _ 0 (cp_xn X + 1) 0 (cp_xN X) hR2 (Nat.zero_le _) (Nat.zero_le _) (by omega) c_9 rfl (Nat.le_refl _) (cp_HN_e hN hV.1 (fun x h1 h2 => by rw [hR1 x (by omega), hO1 x (by omega), hT4 x (by omega)])) hV.1 (fun x hx _ => hR1 x hx)
  · have hs0 : cp_sCarry X = (-3, X) := if_neg c_9
    refine cp_bipush O dX6_carryOut_12 (v := (-3)) rfl ?_
    exact hr _ _ _ _ dX6_carryOut_14 (by rw [hs0]) (by rw [hs0]; exact cp_XR_rx Sl hV hX hT4)
set_option maxHeartbeats 4000000 in
set_option maxRecDepth 100000 in
theorem c_X6_wipe {lc : Launch} {E : cp_En} {cnt : Nat} {sh : cp_Shp} {R : cp_Rem} {I : cp_Mem} {c : Nat} (Pl : cp_PL sh R c) (Sl : cp_SL sh R c) {X : cp_St} (hV : cp_XV X) (hX : cp_XR I R c X) : cp_Fr lc E yX6_wipe cX6_wipe 1 (some .int) 1 [.ref c] cnt sh I R (some (.int ((cp_sWipe X).1))) (fun I' => cp_XR I' R c (cp_sWipe X).2 ∧ cp_oc c I I') := by
  obtain ⟨hN, ⟨nx, hx7, hnx, hL0, hHs⟩, hZ, hT, hTt⟩ := id hX
  refine cp_Fn_iR [some (.ref c)] (by decide +kernel) (Nat.le_of_ble_eq_true rfl) rfl rfl (fun x hxl O hr => ?_)
  subst hxl
  refine cp_aload_n O dX6_wipe_0 cp_lg0 ?_
  refine fg_X6_33 O Pl.s Pl.f4 dX6_wipe_1 ?_
  refine cp_cVi O me_X3_empty mi_X3_empty ml_X6_144 cp_cX3 (Pl.pad).s (c_X3_empty Pl.pad hT) dX6_wipe_4 rfl rfl ⟨Nat.le_of_ble_eq_true rfl, Nat.le_of_ble_eq_true rfl⟩ ⟨Nat.le_refl _, Nat.le_refl _⟩ (Nat.le_of_ble_eq_true rfl) ?_
  exact hr _ _ _ _ dX6_wipe_7 rfl (cp_XR_pad (n := 0) (T := cp_xT X) Sl hV hX (fun x h1 _ => cp_wi_a _ _ _ _ h1) (cp_wi_s _ _ _ _) (fun i hi => absurd hi (Nat.not_lt_zero _)))
theorem cp_sPt_n {X : cp_St} {u : Nat} (hp : cp_pk u = none) : cp_sPut X u = (-2, X) := by
  unfold cp_sPut
  rw [hp]
theorem cp_sPt_t {X : cp_St} {u n : Nat} (hp : cp_pk u = some n) (hl : ¬ cp_xn X + n ≤ 80) : cp_sPut X u = (-4, X) := by
  unfold cp_sPut
  rw [hp]
  exact if_neg hl
theorem cp_sPt_s {X : cp_St} {u n : Nat} (hp : cp_pk u = some n) (hl : cp_xn X + n ≤ 80) : cp_sPut X u = (nI (cp_xn X + n), (cp_xN X, cp_xL X, cp_xH X, cp_xZ X, (fun i => if i < cp_xn X then cp_xT X i else nI (cp_by u (n - 1 - (i - cp_xn X)))), cp_xn X + n)) := by
  unfold cp_sPut
  rw [hp]
  exact if_pos hl
set_option maxHeartbeats 4000000 in
set_option maxRecDepth 100000 in
theorem c_X6_put_n {lc : Launch} {E : cp_En} {cnt : Nat} {sh : cp_Shp} {R : cp_Rem} {I : cp_Mem} {c : Nat} (Pl : cp_PL sh R c) (Sl : cp_SL sh R c) {X : cp_St} (hV : cp_XV X) (hX : cp_XR I R c X) {u : Nat} (hu : u < 2 ^ 64) (hp : cp_pk u = none) : cp_Fr lc E yX6_put cX6_put 3 (some .int) 2 [.ref c, .long (lN u)] cnt sh I R (some (.int ((cp_sPut X u).1))) (fun I' => cp_XR I' R c (cp_sPut X u).2 ∧ cp_oc c I I') := by
  obtain ⟨hN, ⟨nx, hx7, hnx, hL0, hHs⟩, hZ, hT, hTt⟩ := id hX
  rw [cp_sPt_n hp]
  refine cp_Fn_iR [some (.ref c), some (.long (lN u)), none] (by decide +kernel) (Nat.le_of_ble_eq_true rfl) rfl rfl (fun x hxl O hr => ?_)
  subst hxl
  refine cp_aload_n O dX6_put_0 cp_lg0 ?_
  refine fg_X6_33 O Pl.s Pl.f4 dX6_put_1 ?_
  refine cp_lload_n O dX6_put_4 cp_lg1 ?_
  refine cp_cVi O me_X3_append mi_X3_append ml_X6_140 cp_cX3 (Pl.pad).s (c_X3_append_n Pl.pad hu hT hV.2.2.2.2.1 hp) dX6_put_5 rfl rfl ⟨Nat.le_of_ble_eq_true rfl, Nat.le_of_ble_eq_true rfl⟩ ⟨Nat.le_refl _, Nat.le_refl _⟩ (Nat.le_of_ble_eq_true rfl) ?_
  exact hr _ _ _ _ dX6_put_8 rfl ⟨hX, cp_oc.rf⟩
set_option maxHeartbeats 4000000 in
set_option maxRecDepth 100000 in
theorem c_X6_put_t {lc : Launch} {E : cp_En} {cnt : Nat} {sh : cp_Shp} {R : cp_Rem} {I : cp_Mem} {c : Nat} (Pl : cp_PL sh R c) (Sl : cp_SL sh R c) {X : cp_St} (hV : cp_XV X) (hX : cp_XR I R c X) {u : Nat} (hu : u < 2 ^ 64) {n : Nat} (hp : cp_pk u = some n) (hl : ¬ cp_xn X + n ≤ 80) : cp_Fr lc E yX6_put cX6_put 3 (some .int) 2 [.ref c, .long (lN u)] cnt sh I R (some (.int ((cp_sPut X u).1))) (fun I' => cp_XR I' R c (cp_sPut X u).2 ∧ cp_oc c I I') := by
  obtain ⟨hN, ⟨nx, hx7, hnx, hL0, hHs⟩, hZ, hT, hTt⟩ := id hX
  rw [cp_sPt_t hp hl]
  refine cp_Fn_iR [some (.ref c), some (.long (lN u)), none] (by decide +kernel) (Nat.le_of_ble_eq_true rfl) rfl rfl (fun x hxl O hr => ?_)
  subst hxl
  refine cp_aload_n O dX6_put_0 cp_lg0 ?_
  refine fg_X6_33 O Pl.s Pl.f4 dX6_put_1 ?_
  refine cp_lload_n O dX6_put_4 cp_lg1 ?_
  refine cp_cVi O me_X3_append mi_X3_append ml_X6_140 cp_cX3 (Pl.pad).s (c_X3_append_t Pl.pad hu hT hV.2.2.2.2.1 hp hl) dX6_put_5 rfl rfl ⟨Nat.le_of_ble_eq_true rfl, Nat.le_of_ble_eq_true rfl⟩ ⟨Nat.le_refl _, Nat.le_refl _⟩ (Nat.le_of_ble_eq_true rfl) ?_
  exact hr _ _ _ _ dX6_put_8 rfl ⟨hX, cp_oc.rf⟩
set_option maxHeartbeats 4000000 in
set_option maxRecDepth 100000 in
theorem c_X6_put_s {lc : Launch} {E : cp_En} {cnt : Nat} {sh : cp_Shp} {R : cp_Rem} {I : cp_Mem} {c : Nat} (Pl : cp_PL sh R c) (Sl : cp_SL sh R c) {X : cp_St} (hV : cp_XV X) (hX : cp_XR I R c X) {u : Nat} (hu : u < 2 ^ 64) {n : Nat} (hp : cp_pk u = some n) (hl : cp_xn X + n ≤ 80) : cp_Fr lc E yX6_put cX6_put 3 (some .int) 2 [.ref c, .long (lN u)] cnt sh I R (some (.int ((cp_sPut X u).1))) (fun I' => cp_XR I' R c (cp_sPut X u).2 ∧ cp_oc c I I') := by
  obtain ⟨hN, ⟨nx, hx7, hnx, hL0, hHs⟩, hZ, hT, hTt⟩ := id hX
  rw [cp_sPt_s hp hl]
  refine cp_Fn_iR [some (.ref c), some (.long (lN u)), none] (by decide +kernel) (Nat.le_of_ble_eq_true rfl) rfl rfl (fun x hxl O hr => ?_)
  subst hxl
  refine cp_aload_n O dX6_put_0 cp_lg0 ?_
  refine fg_X6_33 O Pl.s Pl.f4 dX6_put_1 ?_
  refine cp_lload_n O dX6_put_4 cp_lg1 ?_
  refine cp_cVi O me_X3_append mi_X3_append ml_X6_140 cp_cX3 (Pl.pad).s (c_X3_append_s Pl.pad hu hT hV.2.2.2.2.1 hp hl) dX6_put_5 rfl rfl ⟨Nat.le_of_ble_eq_true rfl, Nat.le_of_ble_eq_true rfl⟩ ⟨Nat.le_refl _, Nat.le_refl _⟩ (Nat.le_of_ble_eq_true rfl) ?_
  exact hr _ _ _ _ dX6_put_8 rfl (cp_XR_pad (n := cp_xn X + n) Sl hV hX (fun x h1 h2 => by rw [cp_wi_a _ _ _ _ h1, cp_row_n _ _ h2]) (cp_wi_s _ _ _ _) (fun i hi => by
    rw [cp_wi_a _ _ _ _ (show c + 329 ≠ c + 328 by omega)]
    show cp_row I (c + 328 + 1) _ (c + 328 + 1) i = _
    rw [cp_row_s]
    unfold cp_af
    by_cases g : i < cp_xn X
    · rw [if_neg (by omega), if_pos g]
      exact hTt i g
    · rw [if_pos (by omega), if_neg g, show cp_xn X + n - 1 - i = n - 1 - (i - cp_xn X) by omega]))
theorem c_X6_put {lc : Launch} {E : cp_En} {cnt : Nat} {sh : cp_Shp} {R : cp_Rem} {I : cp_Mem} {c : Nat} (Pl : cp_PL sh R c) (Sl : cp_SL sh R c) {X : cp_St} (hV : cp_XV X) (hX : cp_XR I R c X) {u : Nat} (hu : u < 2 ^ 64) : cp_Fr lc E yX6_put cX6_put 3 (some .int) 2 [.ref c, .long (lN u)] cnt sh I R (some (.int ((cp_sPut X u).1))) (fun I' => cp_XR I' R c (cp_sPut X u).2 ∧ cp_oc c I I') := by
  cases hp : cp_pk u with
  | none => exact c_X6_put_n Pl Sl hV hX hu hp
  | some n =>
    by_cases hl : cp_xn X + n ≤ 80
    · exact c_X6_put_s Pl Sl hV hX hu hp hl
    · exact c_X6_put_t Pl Sl hV hX hu hp hl
