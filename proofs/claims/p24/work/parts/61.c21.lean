def cp_HL (sh : cp_Shp) (R : cp_Rem) (h0 : Nat) : Prop := (sh h0 = (1, 0)) ∧ (R h0 0 = some (h0 + 1)) ∧ (sh (h0 + 1) = (11, 7)) ∧ (∀ i, i < 7 → R (h0 + 1) i = some (h0 + 2 + 36 * i)) ∧ (∀ i, i < 7 → cp_NL sh R (h0 + 2 + 36 * i))
theorem cp_HL.s {sh : cp_Shp} {R : cp_Rem} {h0 : Nat} (h : cp_HL sh R h0) : sh h0 = (1, 0) := h.1
theorem cp_HL.sts {sh : cp_Shp} {R : cp_Rem} {h0 : Nat} (h : cp_HL sh R h0) : R h0 0 = some (h0 + 1) := h.2.1
theorem cp_HL.ssts {sh : cp_Shp} {R : cp_Rem} {h0 : Nat} (h : cp_HL sh R h0) : sh (h0 + 1) = (11, 7) := h.2.2.1
theorem cp_HL.st {sh : cp_Shp} {R : cp_Rem} {h0 : Nat} (h : cp_HL sh R h0) {i : Nat} (hi : i < 7) : R (h0 + 1) i = some (h0 + 2 + 36 * i) := h.2.2.2.1 i hi
theorem cp_HL.nt {sh : cp_Shp} {R : cp_Rem} {h0 : Nat} (h : cp_HL sh R h0) {i : Nat} (hi : i < 7) : cp_NL sh R (h0 + 2 + 36 * i) := h.2.2.2.2 i hi
def cp_DL (sh : cp_Shp) (R : cp_Rem) (d0 : Nat) : Prop := (sh d0 = (4, 0)) ∧ (R d0 0 = some (d0 + 1)) ∧ (sh (d0 + 1) = (10, 80))
theorem cp_DL.s {sh : cp_Shp} {R : cp_Rem} {d0 : Nat} (h : cp_DL sh R d0) : sh d0 = (4, 0) := h.1
theorem cp_DL.chs {sh : cp_Shp} {R : cp_Rem} {d0 : Nat} (h : cp_DL sh R d0) : R d0 0 = some (d0 + 1) := h.2.1
theorem cp_DL.schs {sh : cp_Shp} {R : cp_Rem} {d0 : Nat} (h : cp_DL sh R d0) : sh (d0 + 1) = (10, 80) := h.2.2
def cp_OL (sh : cp_Shp) (R : cp_Rem) (r0 d0 : Nat) : Prop := (sh r0 = (3, 0)) ∧ (R r0 0 = some d0) ∧ (cp_DL sh R d0)
theorem cp_OL.s {sh : cp_Shp} {R : cp_Rem} {r0 d0 : Nat} (h : cp_OL sh R r0 d0) : sh r0 = (3, 0) := h.1
theorem cp_OL.f0 {sh : cp_Shp} {R : cp_Rem} {r0 d0 : Nat} (h : cp_OL sh R r0 d0) : R r0 0 = some d0 := h.2.1
theorem cp_OL.pad {sh : cp_Shp} {R : cp_Rem} {r0 d0 : Nat} (h : cp_OL sh R r0 d0) : cp_DL sh R d0 := h.2.2
def cp_PL (sh : cp_Shp) (R : cp_Rem) (c : Nat) : Prop := (sh c = (7, 0)) ∧ (R c 0 = some (c + 1)) ∧ (R c 1 = some (c + 37)) ∧ (R c 2 = some (c + 73)) ∧ (R c 3 = some (c + 327)) ∧ (R c 4 = some (c + 328)) ∧ (R c 5 = some (c + 330)) ∧ (cp_NL sh R (c + 1)) ∧ (cp_NL sh R (c + 37)) ∧ (cp_HL sh R (c + 73)) ∧ (sh (c + 327) = (11, 2)) ∧ (cp_DL sh R (c + 328)) ∧ (cp_OL sh R (c + 330) (c + 328))
theorem cp_PL.s {sh : cp_Shp} {R : cp_Rem} {c : Nat} (h : cp_PL sh R c) : sh c = (7, 0) := h.1
theorem cp_PL.f0 {sh : cp_Shp} {R : cp_Rem} {c : Nat} (h : cp_PL sh R c) : R c 0 = some (c + 1) := h.2.1
theorem cp_PL.f1 {sh : cp_Shp} {R : cp_Rem} {c : Nat} (h : cp_PL sh R c) : R c 1 = some (c + 37) := h.2.2.1
theorem cp_PL.f2 {sh : cp_Shp} {R : cp_Rem} {c : Nat} (h : cp_PL sh R c) : R c 2 = some (c + 73) := h.2.2.2.1
theorem cp_PL.f3 {sh : cp_Shp} {R : cp_Rem} {c : Nat} (h : cp_PL sh R c) : R c 3 = some (c + 327) := h.2.2.2.2.1
theorem cp_PL.f4 {sh : cp_Shp} {R : cp_Rem} {c : Nat} (h : cp_PL sh R c) : R c 4 = some (c + 328) := h.2.2.2.2.2.1
theorem cp_PL.f5 {sh : cp_Shp} {R : cp_Rem} {c : Nat} (h : cp_PL sh R c) : R c 5 = some (c + 330) := h.2.2.2.2.2.2.1
theorem cp_PL.night {sh : cp_Shp} {R : cp_Rem} {c : Nat} (h : cp_PL sh R c) : cp_NL sh R (c + 1) := h.2.2.2.2.2.2.2.1
theorem cp_PL.ahead {sh : cp_Shp} {R : cp_Rem} {c : Nat} (h : cp_PL sh R c) : cp_NL sh R (c + 37) := h.2.2.2.2.2.2.2.2.1
theorem cp_PL.hist {sh : cp_Shp} {R : cp_Rem} {c : Nat} (h : cp_PL sh R c) : cp_HL sh R (c + 73) := h.2.2.2.2.2.2.2.2.2.1
theorem cp_PL.s3 {sh : cp_Shp} {R : cp_Rem} {c : Nat} (h : cp_PL sh R c) : sh (c + 327) = (11, 2) := h.2.2.2.2.2.2.2.2.2.2.1
theorem cp_PL.pad {sh : cp_Shp} {R : cp_Rem} {c : Nat} (h : cp_PL sh R c) : cp_DL sh R (c + 328) := h.2.2.2.2.2.2.2.2.2.2.2.1
theorem cp_PL.rdr {sh : cp_Shp} {R : cp_Rem} {c : Nat} (h : cp_PL sh R c) : cp_OL sh R (c + 330) (c + 328) := h.2.2.2.2.2.2.2.2.2.2.2.2
theorem h_X1_copyFrom {lc : Launch} {E : cp_En} {cnt : Nat} {sh : cp_Shp} {R : cp_Rem} {I : cp_Mem} {b : Nat} (N : cp_NL sh R b) {Z : cp_Nt} {c : Nat} (N2 : cp_NL sh R c) (hx : cp_far b c) (hV : cp_NV Z) (hH : cp_HN I c Z) : cp_Fr lc E yX1_copyFrom cX1_copyFrom 3 none 1 [.ref b, .ref c] cnt sh I R none (fun I' => cp_HN I' b Z ∧ cp_out b I I') := by
  obtain ⟨h1, h3, h5, h8, hA, hL⟩ := id hH
  have hn := hV.2.2.1.1
  have hVo := cp_NV_c hV hA.sy
  have g := c_X1_copyFrom (lc := lc) (E := E) (cnt := cnt) (J := I) (b := b) (o := I b) (S := I (b + 1)) (P := fun i => I (b + 3 + i)) (Q := fun j => I (b + 28 + j)) N N2 hx h3 hn h5 h8 (fun i hi => ⟨(hVo.2.2.2.1 i hi).2.2.1, (hVo.2.2.2.1 i hi).2.2.2.1⟩) (fun j hj => (hVo.2.2.2.2.2 j hj).1)
  rw [cp_nn_self] at g
  refine cp_Fr_mono (cp_Fr_of (T := fun I' => cp_HN I' b Z ∧ cp_out b I I') g ?_) rfl (fun _ z => z)
  have eP : ∀ i, i < cp_tn Z → ∀ f, f < 10 → cp_cyP (fun i => I (c + 3 + i)) (fun i => I (b + 3 + i)) (cp_tn Z) i f = I (c + 3 + i) f := fun i hi f hf => by
    unfold cp_cyP
    rw [if_pos hi]
    exact cp_pcy_f f hf
  refine cp_HN_fin (mi := cp_tm Z) (n := cp_tn Z) (np := cp_tp Z) (lq := cp_tl Z) ((cp_upd_n (by decide)).trans ((cp_upd_n (by decide)).trans (cp_upd_s.trans h1))) ((cp_upd_n (by decide)).trans cp_upd_s) cp_upd_s hn (cp_NV_l hV.2.2.1) h8 (cp_AN.tr ?_ hA) (cp_LT_P hL fun i hi => eP i (cp_NV_l hV.2.2.1 i hi) 9 (by decide))
  refine cp_AN_i (fun k hk => ?_) (fun i hi f hf => eP i hi f (by omega)) (fun j hj f hf => ?_)
  · unfold va_cpy
    rw [if_pos (by omega)]
    show I (c + 1) (0 + (k - 0)) = _
    rw [Nat.zero_add, Nat.sub_zero]
  · unfold cp_cyQ
    rw [if_pos hj]
    exact cp_qcy_f f hf
set_option maxHeartbeats 4000000 in
set_option maxRecDepth 100000 in
theorem c_X0_prepare {lc : Launch} {E : cp_En} {cnt : Nat} {sh : cp_Shp} {R : cp_Rem} {I : cp_Mem} {h0 : Nat} (Hl : cp_HL sh R h0) {nx : Nat} (hnx : I h0 1 = nI nx) (hx7 : nx < 7) {b : Nat} (N : cp_NL sh R b) (hx : cp_far (h0 + 2 + 36 * nx) b) {Z : cp_Nt} (hV : cp_NV Z) (hH : cp_HN I b Z) : cp_Fr lc E yX0_prepare cX0_prepare 2 none 2 [.ref h0, .ref b] cnt sh I R none (fun I' => cp_HN I' (h0 + 2 + 36 * nx) Z ∧ cp_out (h0 + 2 + 36 * nx) I I') := by
  refine cp_Fn_vR [some (.ref h0), some (.ref b)] (by decide +kernel) (Nat.le_of_ble_eq_true rfl) rfl (fun x hxl O hr => ?_)
  subst hxl
  refine cp_aload_n O dX0_prepare_0 cp_lg0 ?_
  refine fg_X0_11 O Hl.s Hl.sts dX0_prepare_1 ?_
  refine cp_aload_n O dX0_prepare_4 cp_lg0 ?_
  refine fg_X0_18 O Hl.s dX0_prepare_5 ?_
  refine cp_aaldr O (Or.inl ⟨rfl, rfl⟩) Hl.ssts (j := nx) hnx (by omega) (by decide) (Hl.st (by omega)) dX0_prepare_8 ?_
  refine cp_aload_n O dX0_prepare_9 cp_lg1 ?_
  refine cp_cVvr O me_X1_copyFrom mi_X1_copyFrom ml_X0_25 cp_cX1 (Hl.nt (by omega)).s (h_X1_copyFrom (Hl.nt hx7) N hx hV hH) dX0_prepare_10 rfl rfl ⟨Nat.le_of_ble_eq_true rfl, Nat.le_of_ble_eq_true rfl⟩ ⟨Nat.le_refl _, Nat.le_refl _⟩ (Nat.le_of_ble_eq_true rfl) (fun I10 hT10 => ?_)
  exact hr _ _ _ dX0_prepare_13 hT10
/-- where the ring goes on -/
def cp_nx1 (nx : Nat) : Nat := if nx = 6 then 0 else nx + 1
def cp_lm1 (L : Nat) : Nat := if L = 6 then 6 else L + 1
theorem cp_min6 {L : Nat} (h : L ≤ 6) : (if (6 : Int32) < nI (L + 1) then (6 : Int32) else nI (L + 1)) = nI (cp_lm1 L) := by
  unfold cp_lm1
  by_cases e : L = 6
  · subst e; rfl
  · rw [if_neg e, if_neg]
    show ¬ nI 6 < nI (L + 1)
    rw [nI_ltI (by omega) (by omega)]
    omega
set_option maxHeartbeats 4000000 in
set_option maxRecDepth 100000 in
theorem c_X0_recordUnlessError {lc : Launch} {E : cp_En} {cnt : Nat} {sh : cp_Shp} {R : cp_Rem} {I : cp_Mem} {h0 : Nat} (Hl : cp_HL sh R h0) {nx : Nat} (hnx : I h0 1 = nI nx) (hx7 : nx < 7) {L0 : Nat} (hL0 : I h0 2 = nI L0) (hL6 : L0 ≤ 6) {v1 : Int32} : cp_Fn lc E yX0_recordUnlessError cX0_recordUnlessError 2 (some .int) 1 [.ref h0, .int v1] cnt sh I R (some (.int (v1))) (if v1 < 0 then I else cp_wi (cp_wi I h0 1 (nI (cp_nx1 nx))) h0 2 (nI (cp_lm1 L0))) := by
  refine cp_Fn_i [some (.ref h0), some (.int v1)] (by decide +kernel) (Nat.le_of_ble_eq_true rfl) rfl rfl (fun x hxl O hr => ?_)
  subst hxl
  refine cp_iload_n O dX0_recordUnlessError_0 cp_lg1 ?_
  refine cp_if_lt (tgt := 42) O dX0_recordUnlessError_1 (by decide) (fun c_1 => ?_) (fun c_1 => ?_)
  · refine cp_iload_n O dX0_recordUnlessError_42 cp_lg1 ?_
    exact hr _ _ _ _ dX0_recordUnlessError_43 rfl (if_pos c_1).symm
  · refine cp_aload_n O dX0_recordUnlessError_4 cp_lg0 ?_
    refine cp_aload_n O dX0_recordUnlessError_5 cp_lg0 ?_
    refine fg_X0_18 O Hl.s dX0_recordUnlessError_6 ?_
    refine cp_bipush O dX0_recordUnlessError_9 (v := 6) rfl ?_
    refine cp_icmp_neN (tgt := 18) O dX0_recordUnlessError_11 (by decide) (a := nx) (b := 6) hnx rfl (by omega) (by omega) (fun c_11 => ?_) (fun c_11 => ?_)
    · have hn1 : cp_nx1 nx = nx + 1 := if_neg c_11
      refine cp_aload_n O dX0_recordUnlessError_18 cp_lg0 ?_
      refine fg_X0_18 O Hl.s dX0_recordUnlessError_19 ?_
      refine cp_iconst O dX0_recordUnlessError_22 (v := 1) rfl ?_
      refine cp_iadd O dX0_recordUnlessError_23 ?_
      rw [hnx, nI_1, ← hn1]
      refine fp_X0_18 O Hl.s dX0_recordUnlessError_24 ?_
      refine cp_aload_n O dX0_recordUnlessError_27 cp_lg0 ?_
      refine cp_aload_n O dX0_recordUnlessError_28 cp_lg0 ?_
      refine fg_X0_22 O Hl.s dX0_recordUnlessError_29 ?_
      refine cp_iconst O dX0_recordUnlessError_32 (v := 1) rfl ?_
      rw [cp_wi_j _ _ _ _ (show ¬ (h0 = h0 ∧ 2 = 1) by omega), hL0]
      refine cp_iadd O dX0_recordUnlessError_33 ?_
      refine cp_bipush O dX0_recordUnlessError_34 (v := 6) rfl ?_
      rw [nI_1]
      refine cp_mmin O (Nat.le_refl 1) ml_X0_29 dX0_recordUnlessError_36 (Nat.le_of_ble_eq_true rfl) ⟨Nat.le_refl _, Nat.le_refl _⟩ ?_
      rw [cp_min6 hL6]
      refine fp_X0_22 O Hl.s dX0_recordUnlessError_39 ?_
      refine cp_iload_n O dX0_recordUnlessError_42 cp_lg1 ?_
      exact hr _ _ _ _ dX0_recordUnlessError_43 rfl (if_neg c_1).symm
    · have hn1 : cp_nx1 nx = 0 := if_pos c_11
      refine cp_iconst O dX0_recordUnlessError_14 (v := 0) rfl ?_
      refine cp_goto (tgt := 24) O dX0_recordUnlessError_15 (by decide) ?_
      rw [show (0 : Int32) = nI (cp_nx1 nx) by rw [hn1]; rfl]
      refine fp_X0_18 O Hl.s dX0_recordUnlessError_24 ?_
      refine cp_aload_n O dX0_recordUnlessError_27 cp_lg0 ?_
      refine cp_aload_n O dX0_recordUnlessError_28 cp_lg0 ?_
      refine fg_X0_22 O Hl.s dX0_recordUnlessError_29 ?_
      refine cp_iconst O dX0_recordUnlessError_32 (v := 1) rfl ?_
      rw [cp_wi_j _ _ _ _ (show ¬ (h0 = h0 ∧ 2 = 1) by omega), hL0]
      refine cp_iadd O dX0_recordUnlessError_33 ?_
      refine cp_bipush O dX0_recordUnlessError_34 (v := 6) rfl ?_
      rw [nI_1]
      refine cp_mmin O (Nat.le_refl 1) ml_X0_29 dX0_recordUnlessError_36 (Nat.le_of_ble_eq_true rfl) ⟨Nat.le_refl _, Nat.le_refl _⟩ ?_
      rw [cp_min6 hL6]
      refine fp_X0_22 O Hl.s dX0_recordUnlessError_39 ?_
      refine cp_iload_n O dX0_recordUnlessError_42 cp_lg1 ?_
      exact hr _ _ _ _ dX0_recordUnlessError_43 rfl (if_neg c_1).symm
