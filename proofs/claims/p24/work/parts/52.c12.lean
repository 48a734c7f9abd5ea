/-- is a piece the first one at its desk -/
def cp_hdq (P : cp_PP) (i : Nat) : Bool := decide (P i 4 = 0) && decide (cp_cnt (cp_qd P (P i 0)) i = 0)
/-- the first c pieces gone through -/
def cp_eP (s mi : Int32) (P : cp_PP) (c : Nat) : cp_PP := fun i => if i < c ∧ cp_hdq P i = true then cp_e1 s mi (P i) else P i
theorem cp_eP_0 (s mi : Int32) (P : cp_PP) : cp_eP s mi P 0 = P := by
  funext i
  exact if_neg (fun z => absurd z.1 (Nat.not_lt_zero _))
theorem cp_eP_c (s mi : Int32) (P : cp_PP) (c : Nat) : cp_eP s mi P c c = P c := if_neg (fun z => absurd z.1 (Nat.lt_irrefl _))
theorem cp_eP_f {s mi : Int32} {P : cp_PP} {c : Nat} (h : cp_hdq P c = false) : cp_eP s mi P c = cp_eP s mi P (c + 1) := by
  funext i
  unfold cp_eP
  by_cases e : i = c
  · subst e
    rw [if_neg (fun z => absurd z.1 (Nat.lt_irrefl _)), if_neg (fun z => cp_bF h z.2)]
  · by_cases g : i < c ∧ cp_hdq P i = true
    · rw [if_pos g, if_pos ⟨by omega, g.2⟩]
    · rw [if_neg g, if_neg (fun z => g ⟨by omega, z.2⟩)]
theorem cp_eP_t {s mi : Int32} {P : cp_PP} {c : Nat} (h : cp_hdq P c = true) : cp_row (cp_eP s mi P c) c (cp_e1 s mi (P c)) = cp_eP s mi P (c + 1) := by
  funext i
  by_cases e : i = c
  · subst e
    rw [cp_row_s]
    exact (if_pos ⟨by omega, h⟩).symm
  · rw [cp_row_n _ _ e]
    unfold cp_eP
    by_cases g : i < c ∧ cp_hdq P i = true
    · rw [if_pos g, if_pos ⟨by omega, g.2⟩]
    · rw [if_neg g, if_neg (fun z => g ⟨by omega, z.2⟩)]
/-- the desks that are busy -/
def cp_bz (P : cp_PP) (c : Nat) (s : Int32) : Prop := ∀ d, d < 5 → bt s d = decide (0 < cp_cnt (cp_qd P (nI d)) c)
theorem cp_cntS {q : Nat → Bool} {c : Nat} : cp_cnt q (c + 1) = cp_cnt q c + (if q c = true then 1 else 0) := rfl
theorem cp_bz_0 (P : cp_PP) : cp_bz P 0 0 := fun d _ => b_0 d
theorem cp_bz_1 {P : cp_PP} {c : Nat} {s : Int32} (h : cp_bz P c s) (h4 : ¬ P c 4 = 0) : cp_bz P (c + 1) s := fun d hd => by
  rw [h d hd, cp_cntS, if_neg (by unfold cp_qd; rw [decide_eq_false h4, Bool.false_and]; decide), Nat.add_zero]
theorem cp_bz_2 {P : cp_PP} {c e : Nat} {s : Int32} (h : cp_bz P c s) (he : e < 5) (h0 : P c 0 = nI e) (hb : bt s e = true) : cp_bz P (c + 1) s := fun d hd => by
  by_cases g : d = e
  · subst g
    have h2 := h d hd
    rw [hb] at h2
    have h3 := of_decide_eq_true h2.symm
    rw [hb, cp_cntS]
    exact (decide_eq_true (by omega)).symm
  · rw [h d hd, cp_cntS, if_neg (by unfold cp_qd; rw [decide_eq_false (show ¬ P c 0 = nI d from fun z => g ((nI_eq (by omega) (by omega)).mp (z.symm.trans h0))), Bool.and_false]; decide), Nat.add_zero]
theorem cp_bz_3 {P : cp_PP} {c e : Nat} {s : Int32} (h : cp_bz P c s) (he : e < 5) (h0 : P c 0 = nI e) (h4 : P c 4 = 0) : cp_bz P (c + 1) (s ||| ((1 : Int32) <<< (P c 0 &&& 31))) := fun d hd => by
  rw [h0, b_or, cp_b1s (by omega) (by omega), h d hd, cp_cntS]
  by_cases g : d = e
  · subst g
    rw [decide_eq_true (rfl : d = d), Bool.or_true]
    exact (decide_eq_true (by rw [if_pos (by unfold cp_qd; rw [decide_eq_true h4, decide_eq_true h0]; rfl)]; omega)).symm
  · rw [decide_eq_false g, Bool.or_false, if_neg (by unfold cp_qd; rw [decide_eq_false (show ¬ P c 0 = nI d from fun z => g ((nI_eq (by omega) (by omega)).mp (z.symm.trans h0))), Bool.and_false]; decide), Nat.add_zero]
theorem cp_hdq_f {P : cp_PP} {c e : Nat} {s : Int32} (h : cp_bz P c s) (he : e < 5) (h0 : P c 0 = nI e) (hb : bt s e = true) : cp_hdq P c = false := by
  have h2 := h e he
  rw [hb] at h2
  have h3 := of_decide_eq_true h2.symm
  unfold cp_hdq
  rw [h0, decide_eq_false (show ¬ cp_cnt (cp_qd P (nI e)) c = 0 by omega), Bool.and_false]
theorem cp_hdq_t {P : cp_PP} {c e : Nat} {s : Int32} (h : cp_bz P c s) (he : e < 5) (h0 : P c 0 = nI e) (h4 : P c 4 = 0) (hb : bt s e = false) : cp_hdq P c = true := by
  have h2 := h e he
  rw [hb] at h2
  have h3 := of_decide_eq_false h2.symm
  unfold cp_hdq
  rw [h0, decide_eq_true h4, decide_eq_true (show cp_cnt (cp_qd P (nI e)) c = 0 by omega)]
  rfl
theorem cp_nn_e1 {lc : Launch} {E : cp_En} {cnt : Nat} {sh : cp_Shp} {R : cp_Rem} {J : cp_Mem} {b : Nat} {o S : Nat → Int32} {P Q : cp_PP} (N : cp_NL sh R b) {i : Nat} (hi : i < 24) {v2 : Int32} {s k e : Nat} (h1 : P i 1 = nI k) (h6 : P i 6 = nI e) (he : e ≤ k) (hk : k < 100) (hs20 : s ≤ 20) (h3 : P i 3 = 0 ∨ P i 3 = 1) : cp_Fn lc E yX4_editFor cX4_editFor 3 none 1 [.ref (b + 3 + i), .int (nI s), .int v2] cnt sh (cp_nn J b o S P Q) R none (cp_nn J b o S (cp_row P i (cp_e1 (nI s) v2 (P i))) Q) := by
  have g := c_X4_editFor (lc := lc) (E := E) (cnt := cnt) (R := R) (I := cp_nn J b o S P Q) (g := P i) (v2 := v2) (N.spc hi) h1 h6 he hk hs20 h3
  rw [cp_nn_rP _ _ _ _ _ _ hi, cp_nn_rP _ _ _ _ _ _ hi, cp_row_self] at g
  exact g
set_option maxHeartbeats 4000000 in
set_option maxRecDepth 100000 in
theorem c_X1_editAtDesks {lc : Launch} {E : cp_En} {cnt : Nat} {sh : cp_Shp} {R : cp_Rem} {J : cp_Mem} {b : Nat} {o S : Nat → Int32} {P Q : cp_PP} (N : cp_NL sh R b) {n : Nat} (h3 : o 3 = nI n) (hn : n ≤ 24) {lq : List Nat} (hV : cp_PV n P lq) (hPN : cp_PN n P) {s0 : Nat} (hs0 : S 0 = nI s0) (hs20 : s0 ≤ 20) : cp_Fn lc E yX1_editAtDesks cX1_editAtDesks 4 none 2 [.ref b] cnt sh (cp_nn J b o S P Q) R none (cp_nn J b o S (cp_eP (nI s0) (o 1) P n) Q) := by
  refine cp_Fn_v [some (.ref b), none, none, none] (by decide +kernel) (Nat.le_of_ble_eq_true rfl) rfl (fun x hxl O hr => ?_)
  subst hxl
  refine cp_iconst O dX1_editAtDesks_0 (v := 0) rfl ?_
  refine cp_istore_n O dX1_editAtDesks_1 (by decide) (cp_ls1 rfl) ?_
  refine cp_iconst O dX1_editAtDesks_2 (v := 0) rfl ?_
  refine cp_istore_n O dX1_editAtDesks_3 (by decide) (cp_ls2 rfl) ?_
  have loop4 : ∀ c, c ≤ n → ∀ s : Int32, cp_bz P c s → cp_G x E 4 0 0 cnt sh (cp_nn J b o S (cp_eP (nI s0) (o 1) P c) Q) R 4 [some (.ref b), some (.int s), some (.int (nI c)), none] [] := by
    refine cp_up (n := n) (P := fun c => ∀ s : Int32, cp_bz P c s → cp_G x E 4 0 0 cnt sh (cp_nn J b o S (cp_eP (nI s0) (o 1) P c) Q) R 4 [some (.ref b), some (.int s), some (.int (nI c)), none] []) (fun c hc ih s hbz => ?_)
    refine cp_iload_n O dX1_editAtDesks_4 cp_lg2 ?_
    refine cp_aload_n O dX1_editAtDesks_5 cp_lg0 ?_
    refine ng_X1_34 O N dX1_editAtDesks_6 ?_
    refine cp_icmp_geN (tgt := 66) O dX1_editAtDesks_9 (by decide) (a := c) (b := n) rfl h3 (by omega) (by omega) (fun c_9 => ?_) (fun c_9 => ?_)
    · exact hr _ _ _ dX1_editAtDesks_66 (by rw [show c = n by omega])
    · obtain ⟨d, hd, e0⟩ := (hV.2.1 c (by omega)).1
      obtain ⟨⟨k, hk1, hk2, hk3, e, he, he6⟩, _, hp3, _⟩ := hPN c (by omega)
      refine cp_aload_n O dX1_editAtDesks_12 cp_lg0 ?_
      refine fg_X1_29 O N.s N.pcs dX1_editAtDesks_13 ?_
      refine cp_iload_n O dX1_editAtDesks_16 cp_lg2 ?_
      refine cp_aaldr O (Or.inr (Or.inl ⟨rfl, rfl⟩)) N.spcs (j := c) rfl (by omega) (by decide) (N.pc (by omega)) dX1_editAtDesks_17 ?_
      refine cp_astore_n O dX1_editAtDesks_18 (by decide) (cp_ls3 rfl) ?_
      refine cp_aload_n O dX1_editAtDesks_19 cp_lg3 ?_
      refine pg_X1_64 O N (by omega) dX1_editAtDesks_20 ?_
      rw [cp_eP_c (nI s0) (o 1) P c]
      refine cp_if_ne (tgt := 60) O dX1_editAtDesks_23 (by decide) (fun c_23 => ?_) (fun c_23 => ?_)
      · refine cp_iinc O dX1_editAtDesks_60 cp_lg2 (cp_inc rfl) (by decide) (cp_ls2 rfl) ?_
        refine cp_goto (tgt := 4) O dX1_editAtDesks_63 (by decide) ?_
        have hf : cp_hdq P c = false := by unfold cp_hdq; rw [decide_eq_false c_23]; rfl
        have ih := ih (by omega) s (cp_bz_1 hbz c_23)
        rw [← cp_eP_f hf] at ih
        exact cp_Gw (cp_lws (cp_lws (cp_lws (cp_lwn cp_lw0)))) ih
      · refine cp_aload_n O dX1_editAtDesks_26 cp_lg3 ?_
        refine pg_X1_115 O N (by omega) dX1_editAtDesks_27 ?_
        refine cp_iload_n O dX1_editAtDesks_30 cp_lg1 ?_
        rw [cp_eP_c (nI s0) (o 1) P c]
        refine cp_cSNi O me_X6_isInSet ms_X6_isInSet ml_X1_118 (c_X6_isInSet) dX1_editAtDesks_31 rfl rfl ⟨Nat.le_of_ble_eq_true rfl, Nat.le_of_ble_eq_true rfl⟩ ⟨Nat.le_refl _, Nat.le_refl _⟩ (Nat.le_of_ble_eq_true rfl) ?_
        rw [e0, show decide ((s >>> (nI d &&& 31)) &&& 1 = 1) = bt s d from cp_bit_1 (by omega)]
        refine cp_if_neB (tgt := 60) O dX1_editAtDesks_34 (by decide) (fun c_34 => ?_) (fun c_34 => ?_)
        · refine cp_iinc O dX1_editAtDesks_60 cp_lg2 (cp_inc rfl) (by decide) (cp_ls2 rfl) ?_
          refine cp_goto (tgt := 4) O dX1_editAtDesks_63 (by decide) ?_
          have hf : cp_hdq P c = false := cp_hdq_f hbz hd e0 c_34
          have ih := ih (by omega) s (cp_bz_2 hbz hd e0 c_34)
          rw [← cp_eP_f hf] at ih
          exact cp_Gw (cp_lws (cp_lws (cp_lws (cp_lwn cp_lw0)))) ih
        · refine cp_iload_n O dX1_editAtDesks_37 cp_lg1 ?_
          refine cp_iconst O dX1_editAtDesks_38 (v := 1) rfl ?_
          refine cp_aload_n O dX1_editAtDesks_39 cp_lg3 ?_
          refine pg_X1_115 O N (by omega) dX1_editAtDesks_40 ?_
          rw [cp_eP_c (nI s0) (o 1) P c]
          refine cp_ishl O dX1_editAtDesks_43 ?_
          refine cp_ior O dX1_editAtDesks_44 ?_
          refine cp_istore_n O dX1_editAtDesks_45 (by decide) (cp_ls1 rfl) ?_
          refine cp_aload_n O dX1_editAtDesks_46 cp_lg3 ?_
          refine cp_aload_n O dX1_editAtDesks_47 cp_lg0 ?_
          refine fg_X1_18 O N.s N.set dX1_editAtDesks_48 ?_
          refine cp_iconst O dX1_editAtDesks_51 (v := 0) rfl ?_
          refine cp_ialdS O N (j := 0) rfl (by omega) dX1_editAtDesks_52 ?_
          refine cp_aload_n O dX1_editAtDesks_53 cp_lg0 ?_
          refine ng_X1_23 O N dX1_editAtDesks_54 ?_
          rw [hs0]
          refine cp_cVv O me_X4_editFor mi_X4_editFor ml_X1_122 cp_cX4 (N.spc (by omega)) (cp_Fn_eq (cp_nn_e1 (P := (cp_eP (nI s0) (o 1) P c)) (i := c) N (by omega) (k := k) (e := e) (by rw [cp_eP_c (nI s0) (o 1) P c]; exact hk3) (by rw [cp_eP_c (nI s0) (o 1) P c]; exact he6) he hk2 hs20 (by rw [cp_eP_c (nI s0) (o 1) P c]; exact hp3)) rfl (by rw [cp_eP_c (nI s0) (o 1) P c])) dX1_editAtDesks_57 rfl rfl ⟨Nat.le_of_ble_eq_true rfl, Nat.le_of_ble_eq_true rfl⟩ ⟨Nat.le_refl _, Nat.le_refl _⟩ (Nat.le_of_ble_eq_true rfl) ?_
          refine cp_iinc O dX1_editAtDesks_60 cp_lg2 (cp_inc rfl) (by decide) (cp_ls2 rfl) ?_
          refine cp_goto (tgt := 4) O dX1_editAtDesks_63 (by decide) ?_
          have ht : cp_hdq P c = true := cp_hdq_t hbz hd e0 c_23 c_34
          have ih := ih (by omega) _ (cp_bz_3 hbz hd e0 c_23)
          rw [← cp_eP_t ht] at ih
          exact cp_Gw (cp_lws (cp_lws (cp_lws (cp_lwn cp_lw0)))) ih
  have l0 := loop4 0 (Nat.zero_le _) 0 (cp_bz_0 P)
  rw [cp_eP_0] at l0
  exact l0

