theorem cp_ip_n1 {n : Nat} {v : Int32} (h : v < 0) : cp_ip n v = false := by
  unfold cp_ip
  exact decide_eq_false fun z => by have := Int32.lt_iff_toInt_lt.mp h; have e : (0 : Int32).toInt = 0 := rfl; omega
theorem cp_ip_n2 {n : Nat} {v : Int32} (hn : n < 2 ^ 31) (h : nI n ≤ v) : cp_ip n v = false := by
  unfold cp_ip
  exact decide_eq_false fun z => by have := Int32.le_iff_toInt_le.mp h; rw [nI_toInt hn] at this; omega
theorem cp_ip_y {n : Nat} {v : Int32} (hn : n < 2 ^ 31) (h : ¬ v < 0) (h2 : ¬ nI n ≤ v) : cp_ip n v = true := by
  unfold cp_ip
  exact decide_eq_true ⟨by have := Int32.le_iff_toInt_le.mp (Int32.not_lt.mp h); have e : (0 : Int32).toInt = 0 := rfl; omega, by have := Int32.lt_iff_toInt_lt.mp (Int32.not_le.mp h2); rw [nI_toInt hn] at this; omega⟩
def cp_qd (P : cp_PP) (v : Int32) (i : Nat) : Bool := decide (P i 4 = 0) && decide (P i 0 = v)
theorem cp_cnt_b {q : Nat → Bool} {c : Nat} {b : Bool} (h : q c = b) : nI (cp_cnt q c) + cp_bi b = nI (cp_cnt q (c + 1)) := by
  cases b with
  | true => exact cp_cnt_t h
  | false => exact cp_cnt_f h
theorem cp_and1 (x : Int32) : x &&& 1 = 0 ∨ x &&& 1 = 1 := by
  have h : ∀ y : BitVec 32, y &&& 1#32 = 0#32 ∨ y &&& 1#32 = 1#32 := fun y => by
    rcases Nat.mod_two_eq_zero_or_one y.toNat with e | e
    · left
      apply BitVec.eq_of_toNat_eq
      rw [BitVec.toNat_and]
      show y.toNat &&& 1 = 0
      rw [Nat.and_one_is_mod, e]
    · right
      apply BitVec.eq_of_toNat_eq
      rw [BitVec.toNat_and]
      show y.toNat &&& 1 = 1
      rw [Nat.and_one_is_mod, e]
  rcases h x.toBitVec with e | e
  · exact Or.inl (Int32.toBitVec_inj.mp e)
  · exact Or.inr (Int32.toBitVec_inj.mp e)
theorem cp_bit_bi (s : Int32) (p : Nat) : cp_bi (decide (cp_bit s p = 1)) = cp_bit s p := by
  rcases cp_and1 (s >>> (nI p &&& 31)) with h | h
  · have h2 : cp_bit s p = 0 := h
    rw [h2]; rfl
  · have h2 : cp_bit s p = 1 := h
    rw [h2]; rfl
set_option maxHeartbeats 4000000 in
set_option maxRecDepth 100000 in
theorem c_X1_hasPiece {lc : Launch} {E : cp_En} {cnt : Nat} {sh : cp_Shp} {R : cp_Rem} {J : cp_Mem} {b : Nat} {o S : Nat → Int32} {P Q : cp_PP} (N : cp_NL sh R b) {n : Nat} (h3 : o 3 = nI n) (hn : n ≤ 24) {v1 : Int32} : cp_Fn lc E yX1_hasPiece cX1_hasPiece 2 (some .boolean) 0 [.ref b, .int v1] cnt sh (cp_nn J b o S P Q) R (some (.int (cp_bi (cp_ip n v1)))) (cp_nn J b o S P Q) := by
  refine cp_Fn_i [some (.ref b), some (.int v1)] (by decide +kernel) (Nat.le_of_ble_eq_true rfl) rfl (cp_bin _) (fun x hxl O hr => ?_)
  subst hxl
  refine cp_iload_n O dX1_hasPiece_0 cp_lg1 ?_
  refine cp_if_lt (tgt := 16) O dX1_hasPiece_1 (by decide) (fun c_1 => ?_) (fun c_1 => ?_)
  · refine cp_iconst O dX1_hasPiece_16 (v := 0) rfl ?_
    exact hr _ _ _ _ dX1_hasPiece_17 (cp_bi_f (cp_ip_n1 c_1)) rfl
  · refine cp_iload_n O dX1_hasPiece_4 cp_lg1 ?_
    refine cp_aload_n O dX1_hasPiece_5 cp_lg0 ?_
    refine ng_X1_34 O N dX1_hasPiece_6 ?_
    rw [h3]
    refine cp_icmp_ge (tgt := 16) O dX1_hasPiece_9 (by decide) (fun c_9 => ?_) (fun c_9 => ?_)
    · refine cp_iconst O dX1_hasPiece_16 (v := 0) rfl ?_
      exact hr _ _ _ _ dX1_hasPiece_17 (cp_bi_f (cp_ip_n2 (by omega) c_9)) rfl
    · refine cp_iconst O dX1_hasPiece_12 (v := 1) rfl ?_
      refine cp_goto (tgt := 17) O dX1_hasPiece_13 (by decide) ?_
      exact hr _ _ _ _ dX1_hasPiece_17 (cp_bi_t (cp_ip_y (by omega) c_1 c_9)) rfl
set_option maxHeartbeats 4000000 in
set_option maxRecDepth 100000 in
theorem c_X1_isPiece {lc : Launch} {E : cp_En} {cnt : Nat} {sh : cp_Shp} {R : cp_Rem} {J : cp_Mem} {b : Nat} {o S : Nat → Int32} {P Q : cp_PP} (N : cp_NL sh R b) {n : Nat} (h3 : o 3 = nI n) (hn : n ≤ 24) {v1 v2 : Int32} : cp_Fn lc E yX1_isPiece cX1_isPiece 3 (some .boolean) 1 [.ref b, .int v1, .int v2] cnt sh (cp_nn J b o S P Q) R (some (.int (cp_bi (cp_ip n v1 && decide (P v1.toInt.toNat 4 = v2))))) (cp_nn J b o S P Q) := by
  refine cp_Fn_i [some (.ref b), some (.int v1), some (.int v2)] (by decide +kernel) (Nat.le_of_ble_eq_true rfl) rfl (cp_bin _) (fun x hxl O hr => ?_)
  subst hxl
  refine cp_aload_n O dX1_isPiece_0 cp_lg0 ?_
  refine cp_iload_n O dX1_isPiece_1 cp_lg1 ?_
  refine cp_cVi O me_X1_hasPiece mi_X1_hasPiece ml_X1_60 cp_cX1 N.s (c_X1_hasPiece N h3 hn) dX1_isPiece_2 rfl rfl ⟨Nat.le_of_ble_eq_true rfl, Nat.le_of_ble_eq_true rfl⟩ ⟨Nat.le_refl _, Nat.le_refl _⟩ (Nat.le_of_ble_eq_true rfl) ?_
  refine cp_if_eqB (tgt := 25) O dX1_isPiece_5 (by decide) (fun c_5 => ?_) (fun c_5 => ?_)
  · refine cp_iconst O dX1_isPiece_25 (v := 0) rfl ?_
    exact hr _ _ _ _ dX1_isPiece_26 (cp_bi_f (by rw [c_5]; rfl)) rfl
  · obtain ⟨p, hp, rfl⟩ := (cp_ip_iff (by omega)).mp c_5
    have hpt : (nI p).toInt.toNat = p := cp_nIt (by omega)
    refine cp_aload_n O dX1_isPiece_8 cp_lg0 ?_
    refine fg_X1_29 O N.s N.pcs dX1_isPiece_9 ?_
    refine cp_iload_n O dX1_isPiece_12 cp_lg1 ?_
    refine cp_aaldr O (Or.inr (Or.inl ⟨rfl, rfl⟩)) N.spcs (j := p) rfl (by omega) (by decide) (N.pc (by omega)) dX1_isPiece_13 ?_
    refine pg_X1_64 O N (by omega) dX1_isPiece_14 ?_
    refine cp_iload_n O dX1_isPiece_17 cp_lg2 ?_
    refine cp_icmp_ne (tgt := 25) O dX1_isPiece_18 (by decide) (fun c_18 => ?_) (fun c_18 => ?_)
    · refine cp_iconst O dX1_isPiece_25 (v := 0) rfl ?_
      exact hr _ _ _ _ dX1_isPiece_26 (cp_bi_f (by rw [c_5, hpt, decide_eq_false c_18]; rfl)) rfl
    · refine cp_iconst O dX1_isPiece_21 (v := 1) rfl ?_
      refine cp_goto (tgt := 26) O dX1_isPiece_22 (by decide) ?_
      exact hr _ _ _ _ dX1_isPiece_26 (cp_bi_t (by rw [c_5, hpt, decide_eq_true c_18]; rfl)) rfl
set_option maxHeartbeats 4000000 in
set_option maxRecDepth 100000 in
theorem c_X1_firstAtDesk {lc : Launch} {E : cp_En} {cnt : Nat} {sh : cp_Shp} {R : cp_Rem} {J : cp_Mem} {b : Nat} {o S : Nat → Int32} {P Q : cp_PP} (N : cp_NL sh R b) {n : Nat} (h3 : o 3 = nI n) (hn : n ≤ 24) {v1 : Int32} : cp_Fn lc E yX1_firstAtDesk cX1_firstAtDesk 3 (some .int) 0 [.ref b, .int v1] cnt sh (cp_nn J b o S P Q) R (some (.int (cp_o2i ((List.range n).find? (cp_qd P v1))))) (cp_nn J b o S P Q) := by
  refine cp_Fn_i [some (.ref b), some (.int v1), none] (by decide +kernel) (Nat.le_of_ble_eq_true rfl) rfl rfl (fun x hxl O hr => ?_)
  subst hxl
  refine cp_iconst O dX1_firstAtDesk_0 (v := 0) rfl ?_
  refine cp_istore_n O dX1_firstAtDesk_1 (by decide) (cp_ls2 rfl) ?_
  have loop2 : ∀ c, c ≤ n → (∀ j, j < c → cp_qd P v1 j = false) → cp_G x E 3 0 0 cnt sh (cp_nn J b o S P Q) R 2 [some (.ref b), some (.int v1), some (.int (nI c))] [] := by
    refine cp_up (fun c hc ih hall => ?_)
    refine cp_iload_n O dX1_firstAtDesk_2 cp_lg2 ?_
    refine cp_aload_n O dX1_firstAtDesk_3 cp_lg0 ?_
    refine ng_X1_34 O N dX1_firstAtDesk_4 ?_
    refine cp_icmp_geN (tgt := 43) O dX1_firstAtDesk_7 (by decide) (a := c) (b := n) rfl h3 (by omega) (by omega) (fun c_7 => ?_) (fun c_7 => ?_)
    · refine cp_bipush O dX1_firstAtDesk_43 (v := (-6)) rfl ?_
      exact hr _ _ _ _ dX1_firstAtDesk_45 (cp_o2i_n (cp_fnd_n (fun j hj => hall j (by omega)))) rfl
    · refine cp_aload_n O dX1_firstAtDesk_10 cp_lg0 ?_
      refine fg_X1_29 O N.s N.pcs dX1_firstAtDesk_11 ?_
      refine cp_iload_n O dX1_firstAtDesk_14 cp_lg2 ?_
      refine cp_aaldr O (Or.inr (Or.inl ⟨rfl, rfl⟩)) N.spcs (j := c) rfl (by omega) (by decide) (N.pc (by omega)) dX1_firstAtDesk_15 ?_
      refine pg_X1_64 O N (by omega) dX1_firstAtDesk_16 ?_
      refine cp_if_ne (tgt := 37) O dX1_firstAtDesk_19 (by decide) (fun c_19 => ?_) (fun c_19 => ?_)
      · refine cp_iinc O dX1_firstAtDesk_37 cp_lg2 (cp_inc rfl) (by decide) (cp_ls2 rfl) ?_
        refine cp_goto (tgt := 2) O dX1_firstAtDesk_40 (by decide) ?_
        exact ih (by omega) (cp_lts hall (by unfold cp_qd; first | (rw [decide_eq_false c_32, Bool.and_false]) | (rw [decide_eq_false c_19]; rfl)))
      · refine cp_aload_n O dX1_firstAtDesk_22 cp_lg0 ?_
        refine fg_X1_29 O N.s N.pcs dX1_firstAtDesk_23 ?_
        refine cp_iload_n O dX1_firstAtDesk_26 cp_lg2 ?_
        refine cp_aaldr O (Or.inr (Or.inl ⟨rfl, rfl⟩)) N.spcs (j := c) rfl (by omega) (by decide) (N.pc (by omega)) dX1_firstAtDesk_27 ?_
        refine pg_X1_115 O N (by omega) dX1_firstAtDesk_28 ?_
        refine cp_iload_n O dX1_firstAtDesk_31 cp_lg1 ?_
        refine cp_icmp_ne (tgt := 37) O dX1_firstAtDesk_32 (by decide) (fun c_32 => ?_) (fun c_32 => ?_)
        · refine cp_iinc O dX1_firstAtDesk_37 cp_lg2 (cp_inc rfl) (by decide) (cp_ls2 rfl) ?_
          refine cp_goto (tgt := 2) O dX1_firstAtDesk_40 (by decide) ?_
          exact ih (by omega) (cp_lts hall (by unfold cp_qd; first | (rw [decide_eq_false c_32, Bool.and_false]) | (rw [decide_eq_false c_19]; rfl)))
        · refine cp_iload_n O dX1_firstAtDesk_35 cp_lg2 ?_
          exact hr _ _ _ _ dX1_firstAtDesk_36 (cp_o2i_s (cp_fnd_s c_7 (by unfold cp_qd; rw [decide_eq_true c_19, decide_eq_true c_32]; rfl) hall)) rfl
  exact loop2 0 (Nat.zero_le _) (fun j hj => absurd hj (Nat.not_lt_zero _))
set_option maxHeartbeats 4000000 in
set_option maxRecDepth 100000 in
theorem c_X1_plateAt {lc : Launch} {E : cp_En} {cnt : Nat} {sh : cp_Shp} {R : cp_Rem} {J : cp_Mem} {b : Nat} {o S : Nat → Int32} {P Q : cp_PP} (N : cp_NL sh R b) {np : Nat} (h5 : o 5 = nI np) (hq : np ≤ 8) {v1 : Int32} : cp_Fn lc E yX1_plateAt cX1_plateAt 3 (some .int) 0 [.ref b, .int v1] cnt sh (cp_nn J b o S P Q) R (some (.int (cp_o2i (cp_du np Q v1)))) (cp_nn J b o S P Q) := by
  refine cp_Fn_i [some (.ref b), some (.int v1), none] (by decide +kernel) (Nat.le_of_ble_eq_true rfl) rfl rfl (fun x hxl O hr => ?_)
  subst hxl
  refine cp_iconst O dX1_plateAt_0 (v := 0) rfl ?_
  refine cp_istore_n O dX1_plateAt_1 (by decide) (cp_ls2 rfl) ?_
  have loop2 : ∀ c, c ≤ np → (∀ j, j < c → (fun i => decide (Q i 0 = v1)) j = false) → cp_G x E 3 0 0 cnt sh (cp_nn J b o S P Q) R 2 [some (.ref b), some (.int v1), some (.int (nI c))] [] := by
    refine cp_up (fun c hc ih hall => ?_)
    refine cp_iload_n O dX1_plateAt_2 cp_lg2 ?_
    refine cp_aload_n O dX1_plateAt_3 cp_lg0 ?_
    refine ng_X1_44 O N dX1_plateAt_4 ?_
    refine cp_icmp_geN (tgt := 31) O dX1_plateAt_7 (by decide) (a := c) (b := np) rfl h5 (by omega) (by omega) (fun c_7 => ?_) (fun c_7 => ?_)
    · refine cp_bipush O dX1_plateAt_31 (v := (-6)) rfl ?_
      exact hr _ _ _ _ dX1_plateAt_33 (cp_o2i_n (cp_fnd_n (fun j hj => hall j (by omega)))) rfl
    · refine cp_aload_n O dX1_plateAt_10 cp_lg0 ?_
      refine fg_X1_39 O N.s N.pls dX1_plateAt_11 ?_
      refine cp_iload_n O dX1_plateAt_14 cp_lg2 ?_
      refine cp_aaldr O (Or.inr (Or.inr ⟨rfl, rfl⟩)) N.spls (j := c) rfl (by omega) (by decide) (N.pl (by omega)) dX1_plateAt_15 ?_
      refine qg_X1_174 O N (by omega) dX1_plateAt_16 ?_
      refine cp_iload_n O dX1_plateAt_19 cp_lg1 ?_
      refine cp_icmp_ne (tgt := 25) O dX1_plateAt_20 (by decide) (fun c_20 => ?_) (fun c_20 => ?_)
      · refine cp_iinc O dX1_plateAt_25 cp_lg2 (cp_inc rfl) (by decide) (cp_ls2 rfl) ?_
        refine cp_goto (tgt := 2) O dX1_plateAt_28 (by decide) ?_
        exact ih (by omega) (cp_lts hall (decide_eq_false c_20))
      · refine cp_iload_n O dX1_plateAt_23 cp_lg2 ?_
        exact hr _ _ _ _ dX1_plateAt_24 (cp_o2i_s (cp_fnd_s c_7 (decide_eq_true c_20) hall)) rfl
  exact loop2 0 (Nat.zero_le _) (fun j hj => absurd hj (Nat.not_lt_zero _))
set_option maxHeartbeats 4000000 in
set_option maxRecDepth 100000 in
theorem c_X1_piecesThatAre {lc : Launch} {E : cp_En} {cnt : Nat} {sh : cp_Shp} {R : cp_Rem} {J : cp_Mem} {b : Nat} {o S : Nat → Int32} {P Q : cp_PP} (N : cp_NL sh R b) {n : Nat} (h3 : o 3 = nI n) (hn : n ≤ 24) {v1 : Int32} : cp_Fn lc E yX1_piecesThatAre cX1_piecesThatAre 4 (some .int) 1 [.ref b, .int v1] cnt sh (cp_nn J b o S P Q) R (some (.int (nI (cp_cnt (fun i => decide (P i 4 = v1)) n)))) (cp_nn J b o S P Q) := by
  refine cp_Fn_i [some (.ref b), some (.int v1), none, none] (by decide +kernel) (Nat.le_of_ble_eq_true rfl) rfl rfl (fun x hxl O hr => ?_)
  subst hxl
  refine cp_iconst O dX1_piecesThatAre_0 (v := 0) rfl ?_
  refine cp_istore_n O dX1_piecesThatAre_1 (by decide) (cp_ls2 rfl) ?_
  refine cp_iconst O dX1_piecesThatAre_2 (v := 0) rfl ?_
  refine cp_istore_n O dX1_piecesThatAre_3 (by decide) (cp_ls3 rfl) ?_
  have loop4 : ∀ c, c ≤ n → cp_G x E 4 0 0 cnt sh (cp_nn J b o S P Q) R 4 [some (.ref b), some (.int v1), some (.int (nI (cp_cnt (fun i => decide (P i 4 = v1)) c))), some (.int (nI c))] [] := by
    refine cp_up (fun c hc ih => ?_)
    refine cp_iload_n O dX1_piecesThatAre_4 cp_lg3 ?_
    refine cp_aload_n O dX1_piecesThatAre_5 cp_lg0 ?_
    refine ng_X1_34 O N dX1_piecesThatAre_6 ?_
    refine cp_icmp_geN (tgt := 42) O dX1_piecesThatAre_9 (by decide) (a := c) (b := n) rfl h3 (by omega) (by omega) (fun c_9 => ?_) (fun c_9 => ?_)
    · refine cp_iload_n O dX1_piecesThatAre_42 cp_lg2 ?_
      exact hr _ _ _ _ dX1_piecesThatAre_43 (by rw [show c = n by omega]) rfl
    · refine cp_iload_n O dX1_piecesThatAre_12 cp_lg2 ?_
      refine cp_aload_n O dX1_piecesThatAre_13 cp_lg0 ?_
      refine fg_X1_29 O N.s N.pcs dX1_piecesThatAre_14 ?_
      refine cp_iload_n O dX1_piecesThatAre_17 cp_lg3 ?_
      refine cp_aaldr O (Or.inr (Or.inl ⟨rfl, rfl⟩)) N.spcs (j := c) rfl (by omega) (by decide) (N.pc (by omega)) dX1_piecesThatAre_18 ?_
      refine pg_X1_64 O N (by omega) dX1_piecesThatAre_19 ?_
      refine cp_iload_n O dX1_piecesThatAre_22 cp_lg1 ?_
      refine cp_icmp_ne (tgt := 30) O dX1_piecesThatAre_23 (by decide) (fun c_23 => ?_) (fun c_23 => ?_)
      · have hb : (fun i => decide (P i 4 = v1)) c = false := decide_eq_false c_23
        refine cp_iconst O dX1_piecesThatAre_30 (v := 0) rfl ?_
        refine cp_cSNi O me_X6_oneIf ms_X6_oneIf ml_X1_89 (c_X6_oneIf (b := false)) dX1_piecesThatAre_31 rfl rfl ⟨Nat.le_of_ble_eq_true rfl, Nat.le_of_ble_eq_true rfl⟩ ⟨Nat.le_refl _, Nat.le_refl _⟩ (Nat.le_of_ble_eq_true rfl) ?_
        refine cp_iadd O dX1_piecesThatAre_34 ?_
        rw [cp_cnt_b (q := (fun i => decide (P i 4 = v1))) hb]
        refine cp_istore_n O dX1_piecesThatAre_35 (by decide) (cp_ls2 rfl) ?_
        refine cp_iinc O dX1_piecesThatAre_36 cp_lg3 (cp_inc rfl) (by decide) (cp_ls3 rfl) ?_
        refine cp_goto (tgt := 4) O dX1_piecesThatAre_39 (by decide) ?_
        exact ih (by omega)
      · have hb : (fun i => decide (P i 4 = v1)) c = true := decide_eq_true c_23
        refine cp_iconst O dX1_piecesThatAre_26 (v := 1) rfl ?_
        refine cp_goto (tgt := 31) O dX1_piecesThatAre_27 (by decide) ?_
        refine cp_cSNi O me_X6_oneIf ms_X6_oneIf ml_X1_89 (c_X6_oneIf (b := true)) dX1_piecesThatAre_31 rfl rfl ⟨Nat.le_of_ble_eq_true rfl, Nat.le_of_ble_eq_true rfl⟩ ⟨Nat.le_refl _, Nat.le_refl _⟩ (Nat.le_of_ble_eq_true rfl) ?_
        refine cp_iadd O dX1_piecesThatAre_34 ?_
        rw [cp_cnt_b (q := (fun i => decide (P i 4 = v1))) hb]
        refine cp_istore_n O dX1_piecesThatAre_35 (by decide) (cp_ls2 rfl) ?_
        refine cp_iinc O dX1_piecesThatAre_36 cp_lg3 (cp_inc rfl) (by decide) (cp_ls3 rfl) ?_
        refine cp_goto (tgt := 4) O dX1_piecesThatAre_39 (by decide) ?_
        exact ih (by omega)
  exact loop4 0 (Nat.zero_le _)
set_option maxHeartbeats 4000000 in
set_option maxRecDepth 100000 in
theorem c_X1_heldPieces {lc : Launch} {E : cp_En} {cnt : Nat} {sh : cp_Shp} {R : cp_Rem} {J : cp_Mem} {b : Nat} {o S : Nat → Int32} {P Q : cp_PP} (N : cp_NL sh R b) {n : Nat} (h3 : o 3 = nI n) (hn : n ≤ 24) (h5 : ∀ i, i < n → P i 5 = 0 ∨ P i 5 = 1) : cp_Fn lc E yX1_heldPieces cX1_heldPieces 3 (some .int) 1 [.ref b] cnt sh (cp_nn J b o S P Q) R (some (.int (nI (cp_cnt (fun i => decide (P i 5 = 1) && decide (¬ P i 4 = 3)) n)))) (cp_nn J b o S P Q) := by
  refine cp_Fn_i [some (.ref b), none, none] (by decide +kernel) (Nat.le_of_ble_eq_true rfl) rfl rfl (fun x hxl O hr => ?_)
  subst hxl
  refine cp_iconst O dX1_heldPieces_0 (v := 0) rfl ?_
  refine cp_istore_n O dX1_heldPieces_1 (by decide) (cp_ls1 rfl) ?_
  refine cp_iconst O dX1_heldPieces_2 (v := 0) rfl ?_
  refine cp_istore_n O dX1_heldPieces_3 (by decide) (cp_ls2 rfl) ?_
  have loop4 : ∀ c, c ≤ n → cp_G x E 3 0 0 cnt sh (cp_nn J b o S P Q) R 4 [some (.ref b), some (.int (nI (cp_cnt (fun i => decide (P i 5 = 1) && decide (¬ P i 4 = 3)) c))), some (.int (nI c))] [] := by
    refine cp_up (fun c hc ih => ?_)
    refine cp_iload_n O dX1_heldPieces_4 cp_lg2 ?_
    refine cp_aload_n O dX1_heldPieces_5 cp_lg0 ?_
    refine ng_X1_34 O N dX1_heldPieces_6 ?_
    refine cp_icmp_geN (tgt := 54) O dX1_heldPieces_9 (by decide) (a := c) (b := n) rfl h3 (by omega) (by omega) (fun c_9 => ?_) (fun c_9 => ?_)
    · refine cp_iload_n O dX1_heldPieces_54 cp_lg1 ?_
      exact hr _ _ _ _ dX1_heldPieces_55 (by rw [show c = n by omega]) rfl
    · refine cp_iload_n O dX1_heldPieces_12 cp_lg1 ?_
      refine cp_aload_n O dX1_heldPieces_13 cp_lg0 ?_
      refine fg_X1_29 O N.s N.pcs dX1_heldPieces_14 ?_
      refine cp_iload_n O dX1_heldPieces_17 cp_lg2 ?_
      refine cp_aaldr O (Or.inr (Or.inl ⟨rfl, rfl⟩)) N.spcs (j := c) rfl (by omega) (by decide) (N.pc (by omega)) dX1_heldPieces_18 ?_
      refine pg_X1_85 O N (by omega) dX1_heldPieces_19 ?_
      refine cp_if_eq (tgt := 42) O dX1_heldPieces_22 (by decide) (fun c_22 => ?_) (fun c_22 => ?_)
      · have hb : (fun i => decide (P i 5 = 1) && decide (¬ P i 4 = 3)) c = false := by show (decide (P c 5 = 1) && decide (¬ P c 4 = 3)) = false; rw [c_22]; rfl
        refine cp_iconst O dX1_heldPieces_42 (v := 0) rfl ?_
        refine cp_cSNi O me_X6_oneIf ms_X6_oneIf ml_X1_89 (c_X6_oneIf (b := false)) dX1_heldPieces_43 rfl rfl ⟨Nat.le_of_ble_eq_true rfl, Nat.le_of_ble_eq_true rfl⟩ ⟨Nat.le_refl _, Nat.le_refl _⟩ (Nat.le_of_ble_eq_true rfl) ?_
        refine cp_iadd O dX1_heldPieces_46 ?_
        rw [cp_cnt_b (q := (fun i => decide (P i 5 = 1) && decide (¬ P i 4 = 3))) hb]
        refine cp_istore_n O dX1_heldPieces_47 (by decide) (cp_ls1 rfl) ?_
        refine cp_iinc O dX1_heldPieces_48 cp_lg2 (cp_inc rfl) (by decide) (cp_ls2 rfl) ?_
        refine cp_goto (tgt := 4) O dX1_heldPieces_51 (by decide) ?_
        exact ih (by omega)
      · refine cp_aload_n O dX1_heldPieces_25 cp_lg0 ?_
        refine fg_X1_29 O N.s N.pcs dX1_heldPieces_26 ?_
        refine cp_iload_n O dX1_heldPieces_29 cp_lg2 ?_
        refine cp_aaldr O (Or.inr (Or.inl ⟨rfl, rfl⟩)) N.spcs (j := c) rfl (by omega) (by decide) (N.pc (by omega)) dX1_heldPieces_30 ?_
        refine pg_X1_64 O N (by omega) dX1_heldPieces_31 ?_
        refine cp_iconst O dX1_heldPieces_34 (v := 3) rfl ?_
        refine cp_icmp_eq (tgt := 42) O dX1_heldPieces_35 (by decide) (fun c_35 => ?_) (fun c_35 => ?_)
        · have hb : (fun i => decide (P i 5 = 1) && decide (¬ P i 4 = 3)) c = false := by show (decide (P c 5 = 1) && decide (¬ P c 4 = 3)) = false; rw [decide_eq_false (show ¬ ¬ P c 4 = 3 from fun z => z c_35), Bool.and_false]
          refine cp_iconst O dX1_heldPieces_42 (v := 0) rfl ?_
          refine cp_cSNi O me_X6_oneIf ms_X6_oneIf ml_X1_89 (c_X6_oneIf (b := false)) dX1_heldPieces_43 rfl rfl ⟨Nat.le_of_ble_eq_true rfl, Nat.le_of_ble_eq_true rfl⟩ ⟨Nat.le_refl _, Nat.le_refl _⟩ (Nat.le_of_ble_eq_true rfl) ?_
          refine cp_iadd O dX1_heldPieces_46 ?_
          rw [cp_cnt_b (q := (fun i => decide (P i 5 = 1) && decide (¬ P i 4 = 3))) hb]
          refine cp_istore_n O dX1_heldPieces_47 (by decide) (cp_ls1 rfl) ?_
          refine cp_iinc O dX1_heldPieces_48 cp_lg2 (cp_inc rfl) (by decide) (cp_ls2 rfl) ?_
          refine cp_goto (tgt := 4) O dX1_heldPieces_51 (by decide) ?_
          exact ih (by omega)
        · have hb : (fun i => decide (P i 5 = 1) && decide (¬ P i 4 = 3)) c = true := by show (decide (P c 5 = 1) && decide (¬ P c 4 = 3)) = true; rw [decide_eq_true ((h5 c c_9).resolve_left c_22), decide_eq_true c_35]; rfl
          refine cp_iconst O dX1_heldPieces_38 (v := 1) rfl ?_
          refine cp_goto (tgt := 43) O dX1_heldPieces_39 (by decide) ?_
          refine cp_cSNi O me_X6_oneIf ms_X6_oneIf ml_X1_89 (c_X6_oneIf (b := true)) dX1_heldPieces_43 rfl rfl ⟨Nat.le_of_ble_eq_true rfl, Nat.le_of_ble_eq_true rfl⟩ ⟨Nat.le_refl _, Nat.le_refl _⟩ (Nat.le_of_ble_eq_true rfl) ?_
          refine cp_iadd O dX1_heldPieces_46 ?_
          rw [cp_cnt_b (q := (fun i => decide (P i 5 = 1) && decide (¬ P i 4 = 3))) hb]
          refine cp_istore_n O dX1_heldPieces_47 (by decide) (cp_ls1 rfl) ?_
          refine cp_iinc O dX1_heldPieces_48 cp_lg2 (cp_inc rfl) (by decide) (cp_ls2 rfl) ?_
          refine cp_goto (tgt := 4) O dX1_heldPieces_51 (by decide) ?_
          exact ih (by omega)
  exact loop4 0 (Nat.zero_le _)
set_option maxHeartbeats 4000000 in
set_option maxRecDepth 100000 in
theorem c_X1_replates {lc : Launch} {E : cp_En} {cnt : Nat} {sh : cp_Shp} {R : cp_Rem} {J : cp_Mem} {b : Nat} {o S : Nat → Int32} {P Q : cp_PP} (N : cp_NL sh R b) {np : Nat} (h5 : o 5 = nI np) (hq : np ≤ 8) (h1 : ∀ j, j < np → Q j 1 = 0 ∨ Q j 1 = 1) : cp_Fn lc E yX1_replates cX1_replates 3 (some .int) 1 [.ref b] cnt sh (cp_nn J b o S P Q) R (some (.int (nI (cp_cnt (fun j => decide (Q j 1 = 1)) np)))) (cp_nn J b o S P Q) := by
  refine cp_Fn_i [some (.ref b), none, none] (by decide +kernel) (Nat.le_of_ble_eq_true rfl) rfl rfl (fun x hxl O hr => ?_)
  subst hxl
  refine cp_iconst O dX1_replates_0 (v := 0) rfl ?_
  refine cp_istore_n O dX1_replates_1 (by decide) (cp_ls1 rfl) ?_
  refine cp_iconst O dX1_replates_2 (v := 0) rfl ?_
  refine cp_istore_n O dX1_replates_3 (by decide) (cp_ls2 rfl) ?_
  have loop4 : ∀ c, c ≤ np → cp_G x E 3 0 0 cnt sh (cp_nn J b o S P Q) R 4 [some (.ref b), some (.int (nI (cp_cnt (fun j => decide (Q j 1 = 1)) c))), some (.int (nI c))] [] := by
    refine cp_up (fun c hc ih => ?_)
    refine cp_iload_n O dX1_replates_4 cp_lg2 ?_
    refine cp_aload_n O dX1_replates_5 cp_lg0 ?_
    refine ng_X1_44 O N dX1_replates_6 ?_
    refine cp_icmp_geN (tgt := 33) O dX1_replates_9 (by decide) (a := c) (b := np) rfl h5 (by omega) (by omega) (fun c_9 => ?_) (fun c_9 => ?_)
    · refine cp_iload_n O dX1_replates_33 cp_lg1 ?_
      exact hr _ _ _ _ dX1_replates_34 (by rw [show c = np by omega]) rfl
    · refine cp_iload_n O dX1_replates_12 cp_lg1 ?_
      refine cp_aload_n O dX1_replates_13 cp_lg0 ?_
      refine fg_X1_39 O N.s N.pls dX1_replates_14 ?_
      refine cp_iload_n O dX1_replates_17 cp_lg2 ?_
      refine cp_aaldr O (Or.inr (Or.inr ⟨rfl, rfl⟩)) N.spls (j := c) rfl (by omega) (by decide) (N.pl (by omega)) dX1_replates_18 ?_
      refine qg_X1_203 O N (by omega) dX1_replates_19 ?_
      rw [show Q c 1 = cp_bi (decide (Q c 1 = 1)) by rcases h1 c c_9 with h | h <;> rw [h] <;> rfl]
      refine cp_cSNi O me_X6_oneIf ms_X6_oneIf ml_X1_89 (c_X6_oneIf (b := decide (Q c 1 = 1))) dX1_replates_22 rfl rfl ⟨Nat.le_of_ble_eq_true rfl, Nat.le_of_ble_eq_true rfl⟩ ⟨Nat.le_refl _, Nat.le_refl _⟩ (Nat.le_of_ble_eq_true rfl) ?_
      refine cp_iadd O dX1_replates_25 ?_
      rw [cp_cnt_b (q := (fun j => decide (Q j 1 = 1))) rfl]
      refine cp_istore_n O dX1_replates_26 (by decide) (cp_ls1 rfl) ?_
      refine cp_iinc O dX1_replates_27 cp_lg2 (cp_inc rfl) (by decide) (cp_ls2 rfl) ?_
      refine cp_goto (tgt := 4) O dX1_replates_30 (by decide) ?_
      exact ih (by omega)
  exact loop4 0 (Nat.zero_le _)
set_option maxHeartbeats 4000000 in
set_option maxRecDepth 100000 in
theorem c_X1_isMade {lc : Launch} {E : cp_En} {cnt : Nat} {sh : cp_Shp} {R : cp_Rem} {J : cp_Mem} {b : Nat} {o S : Nat → Int32} {P Q : cp_PP} (N : cp_NL sh R b) {v1 : Int32} {j : Nat} (hv : v1 = nI j) (hj : j < 8) : cp_Fn lc E yX1_isMade cX1_isMade 2 (some .boolean) 0 [.ref b, .int v1] cnt sh (cp_nn J b o S P Q) R (some (.int (cp_bi (decide (Q j 0 < o 1))))) (cp_nn J b o S P Q) := by
  refine cp_Fn_i [some (.ref b), some (.int v1)] (by decide +kernel) (Nat.le_of_ble_eq_true rfl) rfl (cp_bin _) (fun x hxl O hr => ?_)
  subst hxl
  refine cp_aload_n O dX1_isMade_0 cp_lg0 ?_
  refine fg_X1_39 O N.s N.pls dX1_isMade_1 ?_
  refine cp_iload_n O dX1_isMade_4 cp_lg1 ?_
  refine cp_aaldr O (Or.inr (Or.inr ⟨rfl, rfl⟩)) N.spls (j := j) hv (by omega) (by decide) (N.pl (by omega)) dX1_isMade_5 ?_
  refine qg_X1_174 O N (by omega) dX1_isMade_6 ?_
  refine cp_aload_n O dX1_isMade_9 cp_lg0 ?_
  refine ng_X1_23 O N dX1_isMade_10 ?_
  refine cp_icmp_ge (tgt := 20) O dX1_isMade_13 (by decide) (fun c_13 => ?_) (fun c_13 => ?_)
  · refine cp_iconst O dX1_isMade_20 (v := 0) rfl ?_
    exact hr _ _ _ _ dX1_isMade_21 (cp_bi_fd (Int32.not_lt.mpr c_13)) rfl
  · refine cp_iconst O dX1_isMade_16 (v := 1) rfl ?_
    refine cp_goto (tgt := 21) O dX1_isMade_17 (by decide) ?_
    exact hr _ _ _ _ dX1_isMade_21 (cp_bi_td (Int32.not_le.mp c_13)) rfl
set_option maxHeartbeats 4000000 in
set_option maxRecDepth 100000 in
theorem c_X1_madePlates {lc : Launch} {E : cp_En} {cnt : Nat} {sh : cp_Shp} {R : cp_Rem} {J : cp_Mem} {b : Nat} {o S : Nat → Int32} {P Q : cp_PP} (N : cp_NL sh R b) {np : Nat} (h5 : o 5 = nI np) (hq : np ≤ 8) : cp_Fn lc E yX1_madePlates cX1_madePlates 3 (some .int) 1 [.ref b] cnt sh (cp_nn J b o S P Q) R (some (.int (nI (cp_cnt (fun j => decide (Q j 0 < o 1)) np)))) (cp_nn J b o S P Q) := by
  refine cp_Fn_i [some (.ref b), none, none] (by decide +kernel) (Nat.le_of_ble_eq_true rfl) rfl rfl (fun x hxl O hr => ?_)
  subst hxl
  refine cp_iconst O dX1_madePlates_0 (v := 0) rfl ?_
  refine cp_istore_n O dX1_madePlates_1 (by decide) (cp_ls1 rfl) ?_
  refine cp_iconst O dX1_madePlates_2 (v := 0) rfl ?_
  refine cp_istore_n O dX1_madePlates_3 (by decide) (cp_ls2 rfl) ?_
  have loop4 : ∀ c, c ≤ np → cp_G x E 3 0 0 cnt sh (cp_nn J b o S P Q) R 4 [some (.ref b), some (.int (nI (cp_cnt (fun j => decide (Q j 0 < o 1)) c))), some (.int (nI c))] [] := by
    refine cp_up (fun c hc ih => ?_)
    refine cp_iload_n O dX1_madePlates_4 cp_lg2 ?_
    refine cp_aload_n O dX1_madePlates_5 cp_lg0 ?_
    refine ng_X1_44 O N dX1_madePlates_6 ?_
    refine cp_icmp_geN (tgt := 29) O dX1_madePlates_9 (by decide) (a := c) (b := np) rfl h5 (by omega) (by omega) (fun c_9 => ?_) (fun c_9 => ?_)
    · refine cp_iload_n O dX1_madePlates_29 cp_lg1 ?_
      exact hr _ _ _ _ dX1_madePlates_30 (by rw [show c = np by omega]) rfl
    · refine cp_iload_n O dX1_madePlates_12 cp_lg1 ?_
      refine cp_aload_n O dX1_madePlates_13 cp_lg0 ?_
      refine cp_iload_n O dX1_madePlates_14 cp_lg2 ?_
      refine cp_cVi O me_X1_isMade mi_X1_isMade ml_X1_178 cp_cX1 N.s (c_X1_isMade N rfl (by omega)) dX1_madePlates_15 rfl rfl ⟨Nat.le_of_ble_eq_true rfl, Nat.le_of_ble_eq_true rfl⟩ ⟨Nat.le_refl _, Nat.le_refl _⟩ (Nat.le_of_ble_eq_true rfl) ?_
      refine cp_cSNi O me_X6_oneIf ms_X6_oneIf ml_X1_89 (c_X6_oneIf) dX1_madePlates_18 rfl rfl ⟨Nat.le_of_ble_eq_true rfl, Nat.le_of_ble_eq_true rfl⟩ ⟨Nat.le_refl _, Nat.le_refl _⟩ (Nat.le_of_ble_eq_true rfl) ?_
      refine cp_iadd O dX1_madePlates_21 ?_
      rw [cp_cnt_b (q := (fun j => decide (Q j 0 < o 1))) rfl]
      refine cp_istore_n O dX1_madePlates_22 (by decide) (cp_ls1 rfl) ?_
      refine cp_iinc O dX1_madePlates_23 cp_lg2 (cp_inc rfl) (by decide) (cp_ls2 rfl) ?_
      refine cp_goto (tgt := 4) O dX1_madePlates_26 (by decide) ?_
      exact ih (by omega)
  exact loop4 0 (Nat.zero_le _)
set_option maxHeartbeats 4000000 in
set_option maxRecDepth 100000 in
theorem c_X1_nextDue {lc : Launch} {E : cp_En} {cnt : Nat} {sh : cp_Shp} {R : cp_Rem} {J : cp_Mem} {b : Nat} {o S : Nat → Int32} {P Q : cp_PP} (N : cp_NL sh R b) {np : Nat} (h5 : o 5 = nI np) (hq : np ≤ 8) : cp_Fn lc E yX1_nextDue cX1_nextDue 2 (some .int) 2 [.ref b] cnt sh (cp_nn J b o S P Q) R (some (.int (if (cp_cnt (fun j => decide (Q j 0 < o 1)) np) < np then nI (cp_cnt (fun j => decide (Q j 0 < o 1)) np) else -6))) (cp_nn J b o S P Q) := by
  refine cp_Fn_i [some (.ref b), none] (by decide +kernel) (Nat.le_of_ble_eq_true rfl) rfl rfl (fun x hxl O hr => ?_)
  subst hxl
  refine cp_aload_n O dX1_nextDue_0 cp_lg0 ?_
  refine cp_cVi O me_X1_madePlates mi_X1_madePlates ml_X1_175 cp_cX1 N.s (c_X1_madePlates N h5 hq) dX1_nextDue_1 rfl rfl ⟨Nat.le_of_ble_eq_true rfl, Nat.le_of_ble_eq_true rfl⟩ ⟨Nat.le_refl _, Nat.le_refl _⟩ (Nat.le_of_ble_eq_true rfl) ?_
  have hcl := cp_cnt_le (fun j => decide (Q j 0 < o 1)) np
  refine cp_istore_n O dX1_nextDue_4 (by decide) (cp_ls1 rfl) ?_
  refine cp_iload_n O dX1_nextDue_5 cp_lg1 ?_
  refine cp_aload_n O dX1_nextDue_6 cp_lg0 ?_
  refine ng_X1_44 O N dX1_nextDue_7 ?_
  refine cp_icmp_geN (tgt := 17) O dX1_nextDue_10 (by decide) (a := (cp_cnt (fun j => decide (Q j 0 < o 1)) np)) (b := np) rfl h5 (by omega) (by omega) (fun c_10 => ?_) (fun c_10 => ?_)
  · refine cp_bipush O dX1_nextDue_17 (v := (-6)) rfl ?_
    exact hr _ _ _ _ dX1_nextDue_19 (by rw [if_neg (by omega)]) rfl
  · refine cp_iload_n O dX1_nextDue_13 cp_lg1 ?_
    refine cp_goto (tgt := 19) O dX1_nextDue_14 (by decide) ?_
    exact hr _ _ _ _ dX1_nextDue_19 (by rw [if_pos c_10]) rfl
theorem cp_ah_1 {P : cp_PP} {i k : Nat} (h : P i 2 ≠ P k 2) (h2 : P i 2 ≤ P k 2) : cp_ah P i k = false := by
  have := Int32.le_iff_toInt_le.mp h2
  have : (P i 2).toInt ≠ (P k 2).toInt := fun z => h (Int32.toInt_inj.mp z)
  exact decide_eq_false (by omega)
theorem cp_ah_2 {P : cp_PP} {i k : Nat} (h : P i 2 ≠ P k 2) (h2 : ¬ P i 2 ≤ P k 2) : cp_ah P i k = true := by
  have := Int32.lt_iff_toInt_lt.mp (Int32.not_le.mp h2)
  exact decide_eq_true (by omega)
theorem cp_ah_3 {P : cp_PP} {i k : Nat} (h : P i 2 = P k 2) (h2 : P i 8 ≠ P k 8) (h3 : P k 8 ≤ P i 8) : cp_ah P i k = false := by
  have := Int32.le_iff_toInt_le.mp h3
  have : (P i 8).toInt ≠ (P k 8).toInt := fun z => h2 (Int32.toInt_inj.mp z)
  exact decide_eq_false (by rw [h]; omega)
theorem cp_ah_4 {P : cp_PP} {i k : Nat} (h : P i 2 = P k 2) (h2 : P i 8 ≠ P k 8) (h3 : ¬ P k 8 ≤ P i 8) : cp_ah P i k = true := by
  have := Int32.lt_iff_toInt_lt.mp (Int32.not_le.mp h3)
  exact decide_eq_true (by rw [h]; omega)
theorem cp_ah_5 {P : cp_PP} {i k : Nat} (h : P i 2 = P k 2) (h2 : P i 8 = P k 8) (h3 : k ≤ i) : cp_ah P i k = false := decide_eq_false (by rw [h, h2]; omega)
theorem cp_ah_6 {P : cp_PP} {i k : Nat} (h : P i 2 = P k 2) (h2 : P i 8 = P k 8) (h3 : i < k) : cp_ah P i k = true := decide_eq_true (by rw [h, h2]; omega)
set_option maxHeartbeats 4000000 in
set_option maxRecDepth 100000 in
theorem c_X1_goesAhead {lc : Launch} {E : cp_En} {cnt : Nat} {sh : cp_Shp} {R : cp_Rem} {J : cp_Mem} {b : Nat} {o S : Nat → Int32} {P Q : cp_PP} (N : cp_NL sh R b) {v1 v2 : Int32} {i k : Nat} (hv1 : v1 = nI i) (hv2 : v2 = nI k) (hi : i < 24) (hk : k < 24) : cp_Fn lc E yX1_goesAhead cX1_goesAhead 5 (some .boolean) 0 [.ref b, .int v1, .int v2] cnt sh (cp_nn J b o S P Q) R (some (.int (cp_bi (cp_ah P i k)))) (cp_nn J b o S P Q) := by
  refine cp_Fn_i [some (.ref b), some (.int v1), some (.int v2), none, none] (by decide +kernel) (Nat.le_of_ble_eq_true rfl) rfl (cp_bin _) (fun x hxl O hr => ?_)
  subst hxl
  refine cp_aload_n O dX1_goesAhead_0 cp_lg0 ?_
  refine fg_X1_29 O N.s N.pcs dX1_goesAhead_1 ?_
  refine cp_iload_n O dX1_goesAhead_4 cp_lg1 ?_
  refine cp_aaldr O (Or.inr (Or.inl ⟨rfl, rfl⟩)) N.spcs (j := i) hv1 (by omega) (by decide) (N.pc (by omega)) dX1_goesAhead_5 ?_
  refine cp_astore_n O dX1_goesAhead_6 (by decide) (cp_ls3 rfl) ?_
  refine cp_aload_n O dX1_goesAhead_7 cp_lg0 ?_
  refine fg_X1_29 O N.s N.pcs dX1_goesAhead_8 ?_
  refine cp_iload_n O dX1_goesAhead_11 cp_lg2 ?_
  refine cp_aaldr O (Or.inr (Or.inl ⟨rfl, rfl⟩)) N.spcs (j := k) hv2 (by omega) (by decide) (N.pc (by omega)) dX1_goesAhead_12 ?_
  refine cp_astore O dX1_goesAhead_13 (by decide) (cp_ls4 rfl) ?_
  refine cp_aload_n O dX1_goesAhead_15 cp_lg3 ?_
  refine pg_X1_156 O N (by omega) dX1_goesAhead_16 ?_
  refine cp_aload O dX1_goesAhead_19 cp_lg4 ?_
  refine pg_X1_156 O N (by omega) dX1_goesAhead_21 ?_
  refine cp_icmp_eq (tgt := 45) O dX1_goesAhead_24 (by decide) (fun c_24 => ?_) (fun c_24 => ?_)
  · refine cp_aload_n O dX1_goesAhead_45 cp_lg3 ?_
    refine pg_X1_159 O N (by omega) dX1_goesAhead_46 ?_
    refine cp_aload O dX1_goesAhead_49 cp_lg4 ?_
    refine pg_X1_159 O N (by omega) dX1_goesAhead_51 ?_
    refine cp_icmp_eq (tgt := 75) O dX1_goesAhead_54 (by decide) (fun c_54 => ?_) (fun c_54 => ?_)
    · refine cp_iload_n O dX1_goesAhead_75 cp_lg1 ?_
      refine cp_iload_n O dX1_goesAhead_76 cp_lg2 ?_
      refine cp_icmp_geN (tgt := 84) O dX1_goesAhead_77 (by decide) (a := i) (b := k) hv1 hv2 (by omega) (by omega) (fun c_77 => ?_) (fun c_77 => ?_)
      · refine cp_iconst O dX1_goesAhead_84 (v := 0) rfl ?_
        exact hr _ _ _ _ dX1_goesAhead_85 (cp_bi_f (cp_ah_5 c_24 c_54 c_77)) rfl
      · refine cp_iconst O dX1_goesAhead_80 (v := 1) rfl ?_
        refine cp_goto (tgt := 85) O dX1_goesAhead_81 (by decide) ?_
        exact hr _ _ _ _ dX1_goesAhead_85 (cp_bi_t (cp_ah_6 c_24 c_54 c_77)) rfl
    · refine cp_aload_n O dX1_goesAhead_57 cp_lg3 ?_
      refine pg_X1_159 O N (by omega) dX1_goesAhead_58 ?_
      refine cp_aload O dX1_goesAhead_61 cp_lg4 ?_
      refine pg_X1_159 O N (by omega) dX1_goesAhead_63 ?_
      refine cp_icmp_ge (tgt := 73) O dX1_goesAhead_66 (by decide) (fun c_66 => ?_) (fun c_66 => ?_)
      · refine cp_iconst O dX1_goesAhead_73 (v := 0) rfl ?_
        exact hr _ _ _ _ dX1_goesAhead_74 (cp_bi_f (cp_ah_3 c_24 c_54 c_66)) rfl
      · refine cp_iconst O dX1_goesAhead_69 (v := 1) rfl ?_
        refine cp_goto (tgt := 74) O dX1_goesAhead_70 (by decide) ?_
        exact hr _ _ _ _ dX1_goesAhead_74 (cp_bi_t (cp_ah_4 c_24 c_54 c_66)) rfl
  · refine cp_aload_n O dX1_goesAhead_27 cp_lg3 ?_
    refine pg_X1_156 O N (by omega) dX1_goesAhead_28 ?_
    refine cp_aload O dX1_goesAhead_31 cp_lg4 ?_
    refine pg_X1_156 O N (by omega) dX1_goesAhead_33 ?_
    refine cp_icmp_le (tgt := 43) O dX1_goesAhead_36 (by decide) (fun c_36 => ?_) (fun c_36 => ?_)
    · refine cp_iconst O dX1_goesAhead_43 (v := 0) rfl ?_
      exact hr _ _ _ _ dX1_goesAhead_44 (cp_bi_f (cp_ah_1 c_24 c_36)) rfl
    · refine cp_iconst O dX1_goesAhead_39 (v := 1) rfl ?_
      refine cp_goto (tgt := 44) O dX1_goesAhead_40 (by decide) ?_
      exact hr _ _ _ _ dX1_goesAhead_44 (cp_bi_t (cp_ah_2 c_24 c_36)) rfl

