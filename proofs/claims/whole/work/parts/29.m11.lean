def cp_bit (s : Int32) (p : Nat) : Int32 := (s >>> (nI p &&& 31)) &&& 1
def cp_lin (P : cp_PP) (s : Int32) : Nat → Int32
  | 0 => 0
  | n + 1 => cp_lin P s n + cp_bit s n * P n 1
def cp_pw (Q : cp_PP) (p : Nat) : Nat → Int32
  | 0 => 0
  | n + 1 => cp_pw Q p n ||| (cp_bit (Q n 2) p <<< (nI n &&& 31))
/-- a piece's place in its queue -/
def cp_pl (N : cp_Nt) (p : Nat) : Int32 := if cp_tP N p 4 = 0 then nI ((cp_dq (cp_tn N) (cp_tP N) (cp_tP N p 0).toInt.toNat).idxOf p) else if cp_tP N p 4 = 1 then nI ((cp_tl N).idxOf p) else -6
def cp_sOfPiece (N : cp_Nt) (v w : Int32) : Int32 := if cp_ip (cp_tn N) v = true then (if cp_rg 0 7 w = true then cp_tP N v.toInt.toNat w.toInt.toNat else if w = 8 then cp_pl N v.toInt.toNat else if w = 9 then cp_tP N v.toInt.toNat 8 else if w = 10 then cp_pw (cp_tQ N) v.toInt.toNat (cp_tp N) else -2) else -1
def cp_madeN (N : cp_Nt) (j : Nat) : Int32 := cp_bi (decide ((cp_tQ N j 0).toInt < cp_tm N))
def cp_sOfPlate (N : cp_Nt) (v w : Int32) : Int32 := if cp_ip (cp_tp N) v = true then (if w = 0 then cp_tQ N v.toInt.toNat 0 else if w = 1 then cp_madeN N v.toInt.toNat else if w = 2 then cp_tQ N v.toInt.toNat 1 else if w = 3 then cp_tQ N v.toInt.toNat 2 else if w = 4 then cp_lin (cp_tP N) (cp_tQ N v.toInt.toNat 2) (cp_tn N) else -2) else -1
def cp_many (N : cp_Nt) (h : Int32) : Int32 := nI (cp_cnt (fun i => decide (cp_tP N i 4 = h)) (cp_tn N))
def cp_held (N : cp_Nt) : Int32 := nI (cp_cnt (fun i => decide (cp_tP N i 5 = 1) && decide (¬ cp_tP N i 4 = 3)) (cp_tn N))
def cp_reps (N : cp_Nt) : Int32 := nI (cp_cnt (fun j => decide (cp_tQ N j 1 = 1)) (cp_tp N))
def cp_sCount (N : cp_Nt) (pad his w : Int32) : Int32 := if w = 0 then nI (cp_tm N) else if w = 1 then nI (cp_tn N) else if w = 2 then nI (cp_tp N) else if w = 3 then nI (cp_mkN N) else if w = 4 then cp_many N 0 else if w = 5 then cp_many N 1 else if w = 6 then cp_many N 2 else if w = 7 then cp_many N 3 else if w = 8 then cp_held N else if w = 9 then cp_reps N else if w = 10 then cp_tS N 0 else if w = 11 then cp_tS N 1 else if w = 12 then cp_tS N 2 else if w = 13 then cp_tS N 3 else if w = 14 then pad else if w = 15 then his else -2
theorem cp_idx {l : List Nat} {p : Nat} (h : p ∈ l) : l.idxOf p < l.length ∧ l.getD (l.idxOf p) 0 = p := by
  have h1 := List.idxOf_lt_length_of_mem h
  exact ⟨h1, by rw [cp_gD h1]; exact List.getElem_idxOf h1⟩
set_option maxHeartbeats 4000000 in
set_option maxRecDepth 100000 in
theorem c_X7_platesWith {lc : Launch} {E : cp_En} {cnt : Nat} {sh : cp_Shp} {R : cp_Rem} {J : cp_Mem} {m : Nat} {f : Nat → Int32} {r : Nat → Nat → Int32} {a : Nat → Int32} (M : cp_ML sh R m) {v1 : Int32} {p np : Nat} {Q : cp_PP} (h1 : v1 = nI p) (hnp : np ≤ 8) (h6 : a 6 = nI np) (hQ : ∀ j, j < np → a (374 + 4 * j + 3) = Q j 2) : cp_Fn lc E yX7_platesWith cX7_platesWith 4 (some .int) 1 [.ref m, .int v1] cnt sh (cp_ma J m f r a) R (some (.int (cp_pw Q p np))) (cp_ma J m f r a) := by
  refine cp_Fn_i [some (.ref m), some (.int v1), none, none] (by decide +kernel) (Nat.le_of_ble_eq_true rfl) rfl rfl (fun x hxl O hr => ?_)
  subst hxl
  refine cp_iconst O dX7_platesWith_0 (v := 0) rfl ?_
  refine cp_istore_n O dX7_platesWith_1 (by decide) (cp_ls2 rfl) ?_
  refine cp_iconst O dX7_platesWith_2 (v := 0) rfl ?_
  refine cp_istore_n O dX7_platesWith_3 (by decide) (cp_ls3 rfl) ?_
  have loop4 : ∀ c, c ≤ np → cp_G x E 4 0 0 cnt sh (cp_ma J m f r a) R 4 [some (.ref m), some (.int v1), some (.int (cp_pw Q p c)), some (.int (nI c))] [] := by
    refine cp_up (fun c hc ih => ?_)
    
    refine cp_iload_n O dX7_platesWith_4 cp_lg3 ?_
    refine cp_aload_n O dX7_platesWith_5 cp_lg0 ?_
    refine fg_X7_7 O M.s M.f0 dX7_platesWith_6 ?_
    refine cp_bipush O dX7_platesWith_9 (v := 6) rfl ?_
    refine cp_ialdA O M (j := 6) rfl (by omega) dX7_platesWith_11 ?_
    refine cp_icmp_geN (tgt := 36) O dX7_platesWith_12 (by decide) (a := c) (b := np) rfl h6 (by omega) (by omega) (fun c_12 => ?_) (fun c_12 => ?_)
    · obtain rfl : np = c := by omega
      refine cp_iload_n O dX7_platesWith_36 cp_lg2 ?_
      exact hr _ _ _ _ dX7_platesWith_37 rfl rfl
    · refine cp_iload_n O dX7_platesWith_15 cp_lg2 ?_
      refine cp_aload_n O dX7_platesWith_16 cp_lg0 ?_
      refine cp_iload_n O dX7_platesWith_17 cp_lg3 ?_
      refine cp_iconst O dX7_platesWith_18 (v := 3) rfl ?_
      refine cp_cVi O me_X7_plateAt mi_X7_plateAt ml_X7_85 cp_cX7 M.s (cp_Fn_eq (v' := some (.int (Q c 2))) (c_X7_plateAt (j := c) (q := 3) M rfl rfl (by omega) (by omega)) (by rw [hQ c (by omega)]) rfl) dX7_platesWith_19 rfl rfl ⟨Nat.le_of_ble_eq_true rfl, Nat.le_of_ble_eq_true rfl⟩ ⟨Nat.le_refl _, Nat.le_refl _⟩ (Nat.le_of_ble_eq_true rfl) ?_
      refine cp_iload_n O dX7_platesWith_22 cp_lg1 ?_
      refine cp_ishr O dX7_platesWith_23 ?_
      refine cp_iconst O dX7_platesWith_24 (v := 1) rfl ?_
      refine cp_iand O dX7_platesWith_25 ?_
      refine cp_iload_n O dX7_platesWith_26 cp_lg3 ?_
      refine cp_ishl O dX7_platesWith_27 ?_
      refine cp_ior O dX7_platesWith_28 ?_
      refine cp_istore_n O dX7_platesWith_29 (by decide) (cp_ls2 rfl) ?_
      refine cp_iinc O dX7_platesWith_30 cp_lg3 (cp_inc rfl) (by decide) (cp_ls3 rfl) ?_
      refine cp_goto (tgt := 4) O dX7_platesWith_33 (by decide) ?_
      rw [h1]
      rw [h1] at ih
      exact ih c_12
  exact loop4 0 (Nat.zero_le _)
set_option maxHeartbeats 4000000 in
set_option maxRecDepth 100000 in
theorem c_X7_linesOf {lc : Launch} {E : cp_En} {cnt : Nat} {sh : cp_Shp} {R : cp_Rem} {J : cp_Mem} {m : Nat} {f : Nat → Int32} {r : Nat → Nat → Int32} {a : Nat → Int32} (M : cp_ML sh R m) {n : Nat} {P : cp_PP} (hn24 : n ≤ 24) (hp : ∀ i, i < n → ∀ f, f < 9 → a (158 + 9 * i + f) = P i f) (h5 : a 5 = nI n) {v1 : Int32} : cp_Fn lc E yX7_linesOf cX7_linesOf 4 (some .int) 1 [.ref m, .int v1] cnt sh (cp_ma J m f r a) R (some (.int (cp_lin P v1 n))) (cp_ma J m f r a) := by
  refine cp_Fn_i [some (.ref m), some (.int v1), none, none] (by decide +kernel) (Nat.le_of_ble_eq_true rfl) rfl rfl (fun x hxl O hr => ?_)
  subst hxl
  refine cp_iconst O dX7_linesOf_0 (v := 0) rfl ?_
  refine cp_istore_n O dX7_linesOf_1 (by decide) (cp_ls2 rfl) ?_
  refine cp_iconst O dX7_linesOf_2 (v := 0) rfl ?_
  refine cp_istore_n O dX7_linesOf_3 (by decide) (cp_ls3 rfl) ?_
  have loop4 : ∀ c, c ≤ n → cp_G x E 4 0 0 cnt sh (cp_ma J m f r a) R 4 [some (.ref m), some (.int v1), some (.int (cp_lin P v1 c)), some (.int (nI c))] [] := by
    refine cp_up (fun c hc ih => ?_)
    refine cp_iload_n O dX7_linesOf_4 cp_lg3 ?_
    refine cp_aload_n O dX7_linesOf_5 cp_lg0 ?_
    refine fg_X7_7 O M.s M.f0 dX7_linesOf_6 ?_
    refine cp_iconst O dX7_linesOf_9 (v := 5) rfl ?_
    refine cp_ialdA O M (j := 5) rfl (by omega) dX7_linesOf_10 ?_
    refine cp_icmp_geN (tgt := 35) O dX7_linesOf_11 (by decide) (a := c) (b := n) rfl h5 (by omega) (by omega) (fun c_11 => ?_) (fun c_11 => ?_)
    · obtain rfl : n = c := by omega
      refine cp_iload_n O dX7_linesOf_35 cp_lg2 ?_
      exact hr _ _ _ _ dX7_linesOf_36 rfl rfl
    · refine cp_iload_n O dX7_linesOf_14 cp_lg2 ?_
      refine cp_iload_n O dX7_linesOf_15 cp_lg1 ?_
      refine cp_iload_n O dX7_linesOf_16 cp_lg3 ?_
      refine cp_ishr O dX7_linesOf_17 ?_
      refine cp_iconst O dX7_linesOf_18 (v := 1) rfl ?_
      refine cp_iand O dX7_linesOf_19 ?_
      refine cp_aload_n O dX7_linesOf_20 cp_lg0 ?_
      refine cp_iload_n O dX7_linesOf_21 cp_lg3 ?_
      refine cp_iconst O dX7_linesOf_22 (v := 1) rfl ?_
      refine cp_cVi O me_X7_of mi_X7_of ml_X7_39 cp_cX7 M.s (c_X7_ofe (w := P c 1) (p := c) (q := 1) M rfl rfl (by omega) (by omega) (hp c (by omega) 1 (by decide))) dX7_linesOf_23 rfl rfl ⟨Nat.le_of_ble_eq_true rfl, Nat.le_of_ble_eq_true rfl⟩ ⟨Nat.le_refl _, Nat.le_refl _⟩ (Nat.le_of_ble_eq_true rfl) ?_
      refine cp_imul O dX7_linesOf_26 ?_
      refine cp_iadd O dX7_linesOf_27 ?_
      refine cp_istore_n O dX7_linesOf_28 (by decide) (cp_ls2 rfl) ?_
      refine cp_iinc O dX7_linesOf_29 cp_lg3 (cp_inc rfl) (by decide) (cp_ls3 rfl) ?_
      refine cp_goto (tgt := 4) O dX7_linesOf_32 (by decide) ?_
      exact ih c_11
  exact loop4 0 (Nat.zero_le _)
set_option maxHeartbeats 4000000 in
set_option maxRecDepth 100000 in
theorem c_X7_manyThat {lc : Launch} {E : cp_En} {cnt : Nat} {sh : cp_Shp} {R : cp_Rem} {J : cp_Mem} {m : Nat} {f : Nat → Int32} {r : Nat → Nat → Int32} {a : Nat → Int32} (M : cp_ML sh R m) {n : Nat} {P : cp_PP} (hn24 : n ≤ 24) (hp : ∀ i, i < n → ∀ f, f < 9 → a (158 + 9 * i + f) = P i f) (h5 : a 5 = nI n) {v1 : Int32} : cp_Fn lc E yX7_manyThat cX7_manyThat 4 (some .int) 1 [.ref m, .int v1] cnt sh (cp_ma J m f r a) R (some (.int (nI (cp_cnt (fun i => decide (P i 4 = v1)) n)))) (cp_ma J m f r a) := by
  refine cp_Fn_i [some (.ref m), some (.int v1), none, none] (by decide +kernel) (Nat.le_of_ble_eq_true rfl) rfl rfl (fun x hxl O hr => ?_)
  subst hxl
  refine cp_iconst O dX7_manyThat_0 (v := 0) rfl ?_
  refine cp_istore_n O dX7_manyThat_1 (by decide) (cp_ls2 rfl) ?_
  refine cp_iconst O dX7_manyThat_2 (v := 0) rfl ?_
  refine cp_istore_n O dX7_manyThat_3 (by decide) (cp_ls3 rfl) ?_
  have loop4 : ∀ c, c ≤ n → cp_G x E 4 0 0 cnt sh (cp_ma J m f r a) R 4 [some (.ref m), some (.int v1), some (.int (nI (cp_cnt (fun i => decide (P i 4 = v1)) c))), some (.int (nI c))] [] := by
    refine cp_up (fun c hc ih => ?_)
    refine cp_iload_n O dX7_manyThat_4 cp_lg3 ?_
    refine cp_aload_n O dX7_manyThat_5 cp_lg0 ?_
    refine fg_X7_7 O M.s M.f0 dX7_manyThat_6 ?_
    refine cp_iconst O dX7_manyThat_9 (v := 5) rfl ?_
    refine cp_ialdA O M (j := 5) rfl (by omega) dX7_manyThat_10 ?_
    refine cp_icmp_geN (tgt := 38) O dX7_manyThat_11 (by decide) (a := c) (b := n) rfl h5 (by omega) (by omega) (fun c_11 => ?_) (fun c_11 => ?_)
    · obtain rfl : n = c := by omega
      refine cp_iload_n O dX7_manyThat_38 cp_lg2 ?_
      exact hr _ _ _ _ dX7_manyThat_39 rfl rfl
    · refine cp_iload_n O dX7_manyThat_14 cp_lg2 ?_
      refine cp_aload_n O dX7_manyThat_15 cp_lg0 ?_
      refine cp_iload_n O dX7_manyThat_16 cp_lg3 ?_
      refine cp_iconst O dX7_manyThat_17 (v := 4) rfl ?_
      refine cp_cVi O me_X7_of mi_X7_of ml_X7_39 cp_cX7 M.s (c_X7_ofe (w := P c 4) (p := c) (q := 4) M rfl rfl (by omega) (by omega) (hp c (by omega) 4 (by decide))) dX7_manyThat_18 rfl rfl ⟨Nat.le_of_ble_eq_true rfl, Nat.le_of_ble_eq_true rfl⟩ ⟨Nat.le_refl _, Nat.le_refl _⟩ (Nat.le_of_ble_eq_true rfl) ?_
      refine cp_iload_n O dX7_manyThat_21 cp_lg1 ?_
      refine cp_icmp_ne (tgt := 29) O dX7_manyThat_22 (by decide) (fun c_22 => ?_) (fun c_22 => ?_)
      · refine cp_iconst O dX7_manyThat_29 (v := 0) rfl ?_
        refine cp_iadd O dX7_manyThat_30 ?_
        refine cp_istore_n O dX7_manyThat_31 (by decide) (cp_ls2 rfl) ?_
        refine cp_iinc O dX7_manyThat_32 cp_lg3 (cp_inc rfl) (by decide) (cp_ls3 rfl) ?_
        refine cp_goto (tgt := 4) O dX7_manyThat_35 (by decide) ?_
        first
          | (rw [cp_cnt_t (q := fun i => decide (P i 4 = v1)) (decide_eq_true c_22)]; exact ih c_11)
          | (rw [cp_cnt_f (q := fun i => decide (P i 4 = v1)) (decide_eq_false c_22)]; exact ih c_11)
      · refine cp_iconst O dX7_manyThat_25 (v := 1) rfl ?_
        refine cp_goto (tgt := 30) O dX7_manyThat_26 (by decide) ?_
        refine cp_iadd O dX7_manyThat_30 ?_
        refine cp_istore_n O dX7_manyThat_31 (by decide) (cp_ls2 rfl) ?_
        refine cp_iinc O dX7_manyThat_32 cp_lg3 (cp_inc rfl) (by decide) (cp_ls3 rfl) ?_
        refine cp_goto (tgt := 4) O dX7_manyThat_35 (by decide) ?_
        first
          | (rw [cp_cnt_t (q := fun i => decide (P i 4 = v1)) (decide_eq_true c_22)]; exact ih c_11)
          | (rw [cp_cnt_f (q := fun i => decide (P i 4 = v1)) (decide_eq_false c_22)]; exact ih c_11)
  exact loop4 0 (Nat.zero_le _)
set_option maxHeartbeats 4000000 in
set_option maxRecDepth 100000 in
theorem c_X7_manyHeld {lc : Launch} {E : cp_En} {cnt : Nat} {sh : cp_Shp} {R : cp_Rem} {J : cp_Mem} {m : Nat} {f : Nat → Int32} {r : Nat → Nat → Int32} {a : Nat → Int32} (M : cp_ML sh R m) {n : Nat} {P : cp_PP} (hn24 : n ≤ 24) (hp : ∀ i, i < n → ∀ f, f < 9 → a (158 + 9 * i + f) = P i f) (hN : cp_PN n P) (h5 : a 5 = nI n) : cp_Fn lc E yX7_manyHeld cX7_manyHeld 3 (some .int) 1 [.ref m] cnt sh (cp_ma J m f r a) R (some (.int (nI (cp_cnt (fun i => decide (P i 5 = 1) && decide (¬ P i 4 = 3)) n)))) (cp_ma J m f r a) := by
  refine cp_Fn_i [some (.ref m), none, none] (by decide +kernel) (Nat.le_of_ble_eq_true rfl) rfl rfl (fun x hxl O hr => ?_)
  subst hxl
  refine cp_iconst O dX7_manyHeld_0 (v := 0) rfl ?_
  refine cp_istore_n O dX7_manyHeld_1 (by decide) (cp_ls1 rfl) ?_
  refine cp_iconst O dX7_manyHeld_2 (v := 0) rfl ?_
  refine cp_istore_n O dX7_manyHeld_3 (by decide) (cp_ls2 rfl) ?_
  have loop4 : ∀ c, c ≤ n → cp_G x E 3 0 0 cnt sh (cp_ma J m f r a) R 4 [some (.ref m), some (.int (nI (cp_cnt (fun i => decide (P i 5 = 1) && decide (¬ P i 4 = 3)) c))), some (.int (nI c))] [] := by
    refine cp_up (fun c hc ih => ?_)
    refine cp_iload_n O dX7_manyHeld_4 cp_lg2 ?_
    refine cp_aload_n O dX7_manyHeld_5 cp_lg0 ?_
    refine fg_X7_7 O M.s M.f0 dX7_manyHeld_6 ?_
    refine cp_iconst O dX7_manyHeld_9 (v := 5) rfl ?_
    refine cp_ialdA O M (j := 5) rfl (by omega) dX7_manyHeld_10 ?_
    refine cp_icmp_geN (tgt := 43) O dX7_manyHeld_11 (by decide) (a := c) (b := n) rfl h5 (by omega) (by omega) (fun c_11 => ?_) (fun c_11 => ?_)
    · obtain rfl : n = c := by omega
      refine cp_iload_n O dX7_manyHeld_43 cp_lg1 ?_
      exact hr _ _ _ _ dX7_manyHeld_44 rfl rfl
    · refine cp_iload_n O dX7_manyHeld_14 cp_lg1 ?_
      refine cp_aload_n O dX7_manyHeld_15 cp_lg0 ?_
      refine cp_iload_n O dX7_manyHeld_16 cp_lg2 ?_
      refine cp_iconst O dX7_manyHeld_17 (v := 4) rfl ?_
      refine cp_cVi O me_X7_of mi_X7_of ml_X7_39 cp_cX7 M.s (c_X7_ofe (w := P c 4) (p := c) (q := 4) M rfl rfl (by omega) (by omega) (hp c (by omega) 4 (by decide))) dX7_manyHeld_18 rfl rfl ⟨Nat.le_of_ble_eq_true rfl, Nat.le_of_ble_eq_true rfl⟩ ⟨Nat.le_refl _, Nat.le_refl _⟩ (Nat.le_of_ble_eq_true rfl) ?_
      refine cp_iconst O dX7_manyHeld_21 (v := 3) rfl ?_
      refine cp_icmp_eq (tgt := 34) O dX7_manyHeld_22 (by decide) (fun c_22 => ?_) (fun c_22 => ?_)
      · refine cp_iconst O dX7_manyHeld_34 (v := 0) rfl ?_
        refine cp_iadd O dX7_manyHeld_35 ?_
        refine cp_istore_n O dX7_manyHeld_36 (by decide) (cp_ls1 rfl) ?_
        refine cp_iinc O dX7_manyHeld_37 cp_lg2 (cp_inc rfl) (by decide) (cp_ls2 rfl) ?_
        refine cp_goto (tgt := 4) O dX7_manyHeld_40 (by decide) ?_
        first
          | (rw [cp_cnt_f (q := (fun i => decide (P i 5 = 1) && decide (¬ P i 4 = 3))) (by show (decide (P c 5 = 1) && decide (¬ P c 4 = 3)) = false; rw [decide_eq_false (p := ¬ P c 4 = 3) (fun z => z c_22), Bool.and_false])]; exact ih c_11)
          | (rcases (hN c c_11).2.2.2.1 with h0 | h0
             · rw [h0, cp_cnt_f (q := (fun i => decide (P i 5 = 1) && decide (¬ P i 4 = 3))) (by show (decide (P c 5 = 1) && decide (¬ P c 4 = 3)) = false; rw [h0]; rfl)]; exact ih c_11
             · rw [h0, cp_cnt_t (q := (fun i => decide (P i 5 = 1) && decide (¬ P i 4 = 3))) (by show (decide (P c 5 = 1) && decide (¬ P c 4 = 3)) = true; rw [h0, decide_eq_true c_22]; rfl)]; exact ih c_11)
      · refine cp_aload_n O dX7_manyHeld_25 cp_lg0 ?_
        refine cp_iload_n O dX7_manyHeld_26 cp_lg2 ?_
        refine cp_iconst O dX7_manyHeld_27 (v := 5) rfl ?_
        refine cp_cVi O me_X7_of mi_X7_of ml_X7_39 cp_cX7 M.s (c_X7_ofe (w := P c 5) (p := c) (q := 5) M rfl rfl (by omega) (by omega) (hp c (by omega) 5 (by decide))) dX7_manyHeld_28 rfl rfl ⟨Nat.le_of_ble_eq_true rfl, Nat.le_of_ble_eq_true rfl⟩ ⟨Nat.le_refl _, Nat.le_refl _⟩ (Nat.le_of_ble_eq_true rfl) ?_
        refine cp_goto (tgt := 35) O dX7_manyHeld_31 (by decide) ?_
        refine cp_iadd O dX7_manyHeld_35 ?_
        refine cp_istore_n O dX7_manyHeld_36 (by decide) (cp_ls1 rfl) ?_
        refine cp_iinc O dX7_manyHeld_37 cp_lg2 (cp_inc rfl) (by decide) (cp_ls2 rfl) ?_
        refine cp_goto (tgt := 4) O dX7_manyHeld_40 (by decide) ?_
        first
          | (rw [cp_cnt_f (q := (fun i => decide (P i 5 = 1) && decide (¬ P i 4 = 3))) (by show (decide (P c 5 = 1) && decide (¬ P c 4 = 3)) = false; rw [decide_eq_false (p := ¬ P c 4 = 3) (fun z => z c_22), Bool.and_false])]; exact ih c_11)
          | (rcases (hN c c_11).2.2.2.1 with h0 | h0
             · rw [h0, cp_cnt_f (q := (fun i => decide (P i 5 = 1) && decide (¬ P i 4 = 3))) (by show (decide (P c 5 = 1) && decide (¬ P c 4 = 3)) = false; rw [h0]; rfl)]; exact ih c_11
             · rw [h0, cp_cnt_t (q := (fun i => decide (P i 5 = 1) && decide (¬ P i 4 = 3))) (by show (decide (P c 5 = 1) && decide (¬ P c 4 = 3)) = true; rw [h0, decide_eq_true c_22]; rfl)]; exact ih c_11)
  exact loop4 0 (Nat.zero_le _)
set_option maxHeartbeats 4000000 in
set_option maxRecDepth 100000 in
theorem c_X7_replates {lc : Launch} {E : cp_En} {cnt : Nat} {sh : cp_Shp} {R : cp_Rem} {J : cp_Mem} {m : Nat} {f : Nat → Int32} {r : Nat → Nat → Int32} {a : Nat → Int32} (M : cp_ML sh R m) {np : Nat} {Q : cp_PP} (hnp : np ≤ 8) (h6 : a 6 = nI np) (hQ : ∀ j, j < np → a (374 + 4 * j + 2) = Q j 1) (hQ1 : ∀ j, j < np → Q j 1 = 0 ∨ Q j 1 = 1) : cp_Fn lc E yX7_replates cX7_replates 3 (some .int) 1 [.ref m] cnt sh (cp_ma J m f r a) R (some (.int (nI (cp_cnt (fun j => decide (Q j 1 = 1)) np)))) (cp_ma J m f r a) := by
  refine cp_Fn_i [some (.ref m), none, none] (by decide +kernel) (Nat.le_of_ble_eq_true rfl) rfl rfl (fun x hxl O hr => ?_)
  subst hxl
  refine cp_iconst O dX7_replates_0 (v := 0) rfl ?_
  refine cp_istore_n O dX7_replates_1 (by decide) (cp_ls1 rfl) ?_
  refine cp_iconst O dX7_replates_2 (v := 0) rfl ?_
  refine cp_istore_n O dX7_replates_3 (by decide) (cp_ls2 rfl) ?_
  have loop4 : ∀ c, c ≤ np → cp_G x E 3 0 0 cnt sh (cp_ma J m f r a) R 4 [some (.ref m), some (.int (nI (cp_cnt (fun j => decide (Q j 1 = 1)) c))), some (.int (nI c))] [] := by
    refine cp_up (fun c hc ih => ?_)
    refine cp_iload_n O dX7_replates_4 cp_lg2 ?_
    refine cp_aload_n O dX7_replates_5 cp_lg0 ?_
    refine fg_X7_7 O M.s M.f0 dX7_replates_6 ?_
    refine cp_bipush O dX7_replates_9 (v := 6) rfl ?_
    refine cp_ialdA O M (j := 6) rfl (by omega) dX7_replates_11 ?_
    refine cp_icmp_geN (tgt := 30) O dX7_replates_12 (by decide) (a := c) (b := np) rfl h6 (by omega) (by omega) (fun c_12 => ?_) (fun c_12 => ?_)
    · obtain rfl : np = c := by omega
      refine cp_iload_n O dX7_replates_30 cp_lg1 ?_
      exact hr _ _ _ _ dX7_replates_31 rfl rfl
    · refine cp_iload_n O dX7_replates_15 cp_lg1 ?_
      refine cp_aload_n O dX7_replates_16 cp_lg0 ?_
      refine cp_iload_n O dX7_replates_17 cp_lg2 ?_
      refine cp_iconst O dX7_replates_18 (v := 2) rfl ?_
      refine cp_cVi O me_X7_plateAt mi_X7_plateAt ml_X7_85 cp_cX7 M.s (cp_Fn_eq (v' := some (.int (Q c 1))) (c_X7_plateAt (j := c) (q := 2) M rfl rfl (by omega) (by omega)) (by rw [hQ c (by omega)]) rfl) dX7_replates_19 rfl rfl ⟨Nat.le_of_ble_eq_true rfl, Nat.le_of_ble_eq_true rfl⟩ ⟨Nat.le_refl _, Nat.le_refl _⟩ (Nat.le_of_ble_eq_true rfl) ?_
      refine cp_iadd O dX7_replates_22 ?_
      refine cp_istore_n O dX7_replates_23 (by decide) (cp_ls1 rfl) ?_
      refine cp_iinc O dX7_replates_24 cp_lg2 (cp_inc rfl) (by decide) (cp_ls2 rfl) ?_
      refine cp_goto (tgt := 4) O dX7_replates_27 (by decide) ?_
      rcases hQ1 c c_12 with h0 | h0
      · rw [h0, cp_cnt_f (q := (fun j => decide (Q j 1 = 1))) (by rw [h0]; rfl)]; exact ih c_12
      · rw [h0, cp_cnt_t (q := (fun j => decide (Q j 1 = 1))) (by rw [h0]; rfl)]; exact ih c_12
  exact loop4 0 (Nat.zero_le _)
set_option maxHeartbeats 4000000 in
set_option maxRecDepth 100000 in
theorem c_X7_placeOf_n {lc : Launch} {E : cp_En} {cnt : Nat} {sh : cp_Shp} {R : cp_Rem} {J : cp_Mem} {m : Nat} {f : Nat → Int32} {r : Nat → Nat → Int32} {a : Nat → Int32} (M : cp_ML sh R m) {v1 : Int32} {p : Nat} (h1 : v1 = nI p) (hp : p < 24) (hqo : cp_qo a p = -6) : cp_Fn lc E yX7_placeOf cX7_placeOf 4 (some .int) 2 [.ref m, .int v1] cnt sh (cp_ma J m f r a) R (some (.int (-6))) (cp_ma J m f r a) := by
  refine cp_Fn_i [some (.ref m), some (.int v1), none, none] (by decide +kernel) (Nat.le_of_ble_eq_true rfl) rfl rfl (fun x hxl O hr => ?_)
  subst hxl
  refine cp_aload_n O dX7_placeOf_0 cp_lg0 ?_
  refine cp_iload_n O dX7_placeOf_1 cp_lg1 ?_
  refine cp_cVi O me_X7_queueOf mi_X7_queueOf ml_X7_43 cp_cX7 M.s (c_X7_queueOf (p := p) M h1 (by omega)) dX7_placeOf_2 rfl rfl ⟨Nat.le_of_ble_eq_true rfl, Nat.le_of_ble_eq_true rfl⟩ ⟨Nat.le_refl _, Nat.le_refl _⟩ (Nat.le_of_ble_eq_true rfl) ?_
  refine cp_istore_n O dX7_placeOf_5 (by decide) (cp_ls2 rfl) ?_
  refine cp_iload_n O dX7_placeOf_6 cp_lg2 ?_
  refine cp_bipush O dX7_placeOf_7 (v := (-6)) rfl ?_
  refine cp_icmp_ne (tgt := 15) O dX7_placeOf_9 (by decide) (fun c_9 => ?_) (fun c_9 => ?_)
  · exact absurd hqo c_9
  · refine cp_bipush O dX7_placeOf_12 (v := (-6)) rfl ?_
    exact hr _ _ _ _ dX7_placeOf_14 rfl rfl
theorem c_X7_placeOf_p {lc : Launch} {E : cp_En} {cnt : Nat} {sh : cp_Shp} {R : cp_Rem} {J : cp_Mem} {m : Nat} {f : Nat → Int32} {r : Nat → Nat → Int32} {a : Nat → Int32} (M : cp_ML sh R m) {N : cp_Nt} {p : Nat} {v1 : Int32} (h1 : v1 = nI p) (hA : cp_MA a N) (hV : cp_NV N) (hp : p < cp_tn N) : cp_Fn lc E yX7_placeOf cX7_placeOf 4 (some .int) 2 [.ref m, .int v1] cnt sh (cp_ma J m f r a) R (some (.int (cp_pl N p))) (cp_ma J m f r a) := by
  obtain ⟨hAS, hA4, hA5, hAW, hAQ⟩ := hA
  have hV := hV.2.2.1
  have hn24 := hV.1
  have hp4 := hAW.1 p hp 4 (by decide)
  have hp0 : a (158 + 9 * p) = cp_tP N p 0 := hAW.1 p hp 0 (by decide)
  have go : ∀ q, q < 6 → cp_qo a p = nI q → p ∈ cp_LL (cp_tn N) (cp_tP N) (cp_tl N) q → (cp_LL (cp_tn N) (cp_tP N) (cp_tl N) q).Nodup → (∀ x ∈ cp_LL (cp_tn N) (cp_tP N) (cp_tl N) q, x < cp_tn N) → cp_Fn lc E yX7_placeOf cX7_placeOf 4 (some .int) 2 [.ref m, .int v1] cnt sh (cp_ma J m f r a) R (some (.int (nI ((cp_LL (cp_tn N) (cp_tP N) (cp_tl N) q).idxOf p)))) (cp_ma J m f r a) := by
    intro q hq hqo hm hnd hlt
    obtain ⟨hk, hkp⟩ := cp_idx hm
    exact c_X7_placeOf M h1 (by omega) hq hqo (hAW.2 q hq) (fun j hj => Nat.lt_of_lt_of_le (hlt _ (cp_getD_in hj)) hn24) hk hkp (cp_fstI hnd hk hkp)
  rcases (hV.2.1 p hp).2 with h | h | h | h
  · obtain ⟨d, hd, hd0⟩ := (hV.2.1 p hp).1
    have g := go d (by omega) (by unfold cp_qo; rw [hp4, h, if_pos rfl, hp0]; exact hd0) (by rw [cp_LLd _ _ _ hd]; exact cp_dq_in.mpr ⟨hp, h, hd0⟩) (by rw [cp_LLd _ _ _ hd]; exact cp_dq_nd _ _ _) (fun x hx => by rw [cp_LLd _ _ _ hd] at hx; exact (cp_dq_in.mp hx).1)
    refine cp_Fn_eq g ?_ rfl
    unfold cp_pl
    rw [if_pos h, cp_LLd _ _ _ hd, hd0, cp_nIt (by omega)]
  · have g := go 5 (by omega) (by unfold cp_qo; rw [hp4, h, if_neg (by decide), if_pos rfl]; rfl) (by rw [cp_LL5]; exact (hV.2.2.2 p).mpr ⟨hp, h⟩) (by rw [cp_LL5]; exact hV.2.2.1) (fun x hx => by rw [cp_LL5] at hx; exact ((hV.2.2.2 x).mp hx).1)
    refine cp_Fn_eq g ?_ rfl
    unfold cp_pl
    rw [h, if_neg (by decide), if_pos rfl, cp_LL5]
  · refine cp_Fn_eq (c_X7_placeOf_n M h1 (by omega) (by unfold cp_qo; rw [hp4, h, if_neg (by decide), if_neg (by decide)])) ?_ rfl
    unfold cp_pl
    rw [h, if_neg (by decide), if_neg (by decide)]
  · refine cp_Fn_eq (c_X7_placeOf_n M h1 (by omega) (by unfold cp_qo; rw [hp4, h, if_neg (by decide), if_neg (by decide)])) ?_ rfl
    unfold cp_pl
    rw [h, if_neg (by decide), if_neg (by decide)]
theorem sw_X7_ofPiece_30 {x : cp_Cx} {E : cp_En} {nL d mc ms cells slots cnt : Nat} {sh : cp_Shp} {I : cp_Mem} {R : cp_Rem} {L : List (Option Value)} {st : List Value} {v : Int32} (O : cp_Ok x E RX7 cX7_ofPiece nL d mc ms) (k0 : v = 8 → cp_G x E nL cells slots cnt sh I R 56 L st) (k1 : v = 9 → cp_G x E nL cells slots cnt sh I R 62 L st) (k2 : v = 10 → cp_G x E nL cells slots cnt sh I R 70 L st) (kd : (v.toInt < 8 ∨ 10 < v.toInt) → cp_G x E nL cells slots cnt sh I R 76 L st) : cp_G x E nL cells slots cnt sh I R 30 L (.int v :: st) := by
  by_cases h1 : v.toInt < 8
  · exact cp_tableOut O dX7_ofPiece_30 (Or.inl h1) (by decide) (kd (Or.inl h1))
  by_cases h2 : 10 < v.toInt
  · exact cp_tableOut O dX7_ofPiece_30 (Or.inr h2) (by decide) (kd (Or.inr h2))
  have h3 : v.toInt = 8 ∨ v.toInt = 9 ∨ v.toInt = 10 := by omega
  rcases h3 with h | h | h
  · exact cp_tableIn (tgt := 56) O dX7_ofPiece_30 h1 h2 (off := 26) (by rw [h]; rfl) (by decide) (k0 (Int32.toInt_inj.mp (by rw [h]; rfl)))
  · exact cp_tableIn (tgt := 62) O dX7_ofPiece_30 h1 h2 (off := 32) (by rw [h]; rfl) (by decide) (k1 (Int32.toInt_inj.mp (by rw [h]; rfl)))
  · exact cp_tableIn (tgt := 70) O dX7_ofPiece_30 h1 h2 (off := 40) (by rw [h]; rfl) (by decide) (k2 (Int32.toInt_inj.mp (by rw [h]; rfl)))
theorem sw_X7_isSetting_1 {x : cp_Cx} {E : cp_En} {nL d mc ms cells slots cnt : Nat} {sh : cp_Shp} {I : cp_Mem} {R : cp_Rem} {L : List (Option Value)} {st : List Value} {v : Int32} (O : cp_Ok x E RX7 cX7_isSetting nL d mc ms) (k0 : v = 0 → cp_G x E nL cells slots cnt sh I R 32 L st) (k1 : v = 1 → cp_G x E nL cells slots cnt sh I R 42 L st) (k2 : v = 2 → cp_G x E nL cells slots cnt sh I R 52 L st) (k3 : v = 3 → cp_G x E nL cells slots cnt sh I R 42 L st) (kd : (v.toInt < 0 ∨ 3 < v.toInt) → cp_G x E nL cells slots cnt sh I R 52 L st) : cp_G x E nL cells slots cnt sh I R 1 L (.int v :: st) := by
  by_cases h1 : v.toInt < 0
  · exact cp_tableOut O dX7_isSetting_1 (Or.inl h1) (by decide) (kd (Or.inl h1))
  by_cases h2 : 3 < v.toInt
  · exact cp_tableOut O dX7_isSetting_1 (Or.inr h2) (by decide) (kd (Or.inr h2))
  have h3 : v.toInt = 0 ∨ v.toInt = 1 ∨ v.toInt = 2 ∨ v.toInt = 3 := by omega
  rcases h3 with h | h | h | h
  · exact cp_tableIn (tgt := 32) O dX7_isSetting_1 h1 h2 (off := 31) (by rw [h]; rfl) (by decide) (k0 (Int32.toInt_inj.mp (by rw [h]; rfl)))
  · exact cp_tableIn (tgt := 42) O dX7_isSetting_1 h1 h2 (off := 41) (by rw [h]; rfl) (by decide) (k1 (Int32.toInt_inj.mp (by rw [h]; rfl)))
  · exact cp_tableIn (tgt := 52) O dX7_isSetting_1 h1 h2 (off := 51) (by rw [h]; rfl) (by decide) (k2 (Int32.toInt_inj.mp (by rw [h]; rfl)))
  · exact cp_tableIn (tgt := 42) O dX7_isSetting_1 h1 h2 (off := 41) (by rw [h]; rfl) (by decide) (k3 (Int32.toInt_inj.mp (by rw [h]; rfl)))
theorem cp_rg_f {l h k : Nat} {v : Int32} (hv : v = nI k) (hk : k < 2 ^ 31) (hr : k < l ∨ h < k) : cp_rg l h v = false := by
  unfold cp_rg
  apply decide_eq_false
  rw [hv, nI_toInt hk]
  omega
theorem cp_rg_t {l h k : Nat} {v : Int32} (hv : v = nI k) (hk : k < 2 ^ 31) (h1 : l ≤ k) (h2 : k ≤ h) : cp_rg l h v = true := by
  unfold cp_rg
  apply decide_eq_true
  rw [hv, nI_toInt hk]
  omega
set_option maxHeartbeats 4000000 in
set_option maxRecDepth 100000 in
theorem c_X7_ofPiece {lc : Launch} {E : cp_En} {cnt : Nat} {sh : cp_Shp} {R : cp_Rem} {J : cp_Mem} {m : Nat} {f : Nat → Int32} {r : Nat → Nat → Int32} {a : Nat → Int32} (M : cp_ML sh R m) {N : cp_Nt} (hA : cp_MA a N) (hV : cp_NV N) {v1 v2 : Int32} : cp_Fn lc E yX7_ofPiece cX7_ofPiece 3 (some .int) 3 [.ref m, .int v1, .int v2] cnt sh (cp_ma J m f r a) R (some (.int (cp_sOfPiece N v1 v2))) (cp_ma J m f r a) := by
  obtain ⟨hAS, hA4, hA5, hAW, hAQ⟩ := id hA
  obtain ⟨hVS, hVm, hVP, hVN, hVQ⟩ := id hV
  have hn24 := hVP.1
  have hnp8 := hAQ.1
  refine cp_Fn_i [some (.ref m), some (.int v1), some (.int v2)] (by decide +kernel) (Nat.le_of_ble_eq_true rfl) rfl rfl (fun x hxl O hr => ?_)
  subst hxl
  refine cp_aload_n O dX7_ofPiece_0 cp_lg0 ?_
  refine cp_iload_n O dX7_ofPiece_1 cp_lg1 ?_
  refine cp_cVi O me_X7_isPiece mi_X7_isPiece ml_X7_114 cp_cX7 M.s (c_X7_isPiece (n := cp_tn N) M hA5 hn24) dX7_ofPiece_2 rfl rfl ⟨Nat.le_of_ble_eq_true rfl, Nat.le_of_ble_eq_true rfl⟩ ⟨Nat.le_refl _, Nat.le_refl _⟩ (Nat.le_of_ble_eq_true rfl) ?_
  refine cp_if_neB (tgt := 10) O dX7_ofPiece_5 (by decide) (fun c_5 => ?_) (fun c_5 => ?_)
  · obtain ⟨p, hp, rfl⟩ := (cp_ip_iff (by omega)).mp c_5
    have hpp := hAW.1 p hp
    refine cp_iload_n O dX7_ofPiece_10 cp_lg2 ?_
    refine cp_i2l O dX7_ofPiece_11 ?_
    refine cp_lconst O dX7_ofPiece_12 (v := 0) rfl ?_
    refine cp_ldc2 O cl_X7_162 dX7_ofPiece_13 ?_
    refine cp_cSi O me_X7_in ms_X7_in ml_X7_35 (c_X7_in) dX7_ofPiece_16 rfl rfl ⟨Nat.le_of_ble_eq_true rfl, Nat.le_of_ble_eq_true rfl⟩ ⟨Nat.le_refl _, Nat.le_refl _⟩ (Nat.le_of_ble_eq_true rfl) ?_
    rw [cp_in_rg (l := 0) (h := 7) rfl rfl]
    refine cp_if_eqB (tgt := 29) O dX7_ofPiece_19 (by decide) (fun c_19 => ?_) (fun c_19 => ?_)
    · refine cp_iload_n O dX7_ofPiece_29 cp_lg2 ?_
      refine sw_X7_ofPiece_30 O (fun c_30 => ?_) (fun c_30 => ?_) (fun c_30 => ?_) (fun c_30 => ?_)
      · refine cp_aload_n O dX7_ofPiece_56 cp_lg0 ?_
        refine cp_iload_n O dX7_ofPiece_57 cp_lg1 ?_
        refine cp_cVi O me_X7_placeOf mi_X7_placeOf ml_X7_50 cp_cX7 M.s (c_X7_placeOf_p M rfl hA hV hp) dX7_ofPiece_58 rfl rfl ⟨Nat.le_of_ble_eq_true rfl, Nat.le_of_ble_eq_true rfl⟩ ⟨Nat.le_refl _, Nat.le_refl _⟩ (Nat.le_of_ble_eq_true rfl) ?_
        exact hr _ _ _ _ dX7_ofPiece_61 (by subst c_30; unfold cp_sOfPiece; rw [if_pos c_5, if_neg (by decide), if_pos rfl, cp_nIt (by omega)]) rfl
      · refine cp_aload_n O dX7_ofPiece_62 cp_lg0 ?_
        refine cp_iload_n O dX7_ofPiece_63 cp_lg1 ?_
        refine cp_bipush O dX7_ofPiece_64 (v := 8) rfl ?_
        refine cp_cVi O me_X7_of mi_X7_of ml_X7_39 cp_cX7 M.s (c_X7_ofe (w := cp_tP N p 8) (p := p) (q := 8) M rfl rfl (by omega) (by omega) (hpp 8 (by decide))) dX7_ofPiece_66 rfl rfl ⟨Nat.le_of_ble_eq_true rfl, Nat.le_of_ble_eq_true rfl⟩ ⟨Nat.le_refl _, Nat.le_refl _⟩ (Nat.le_of_ble_eq_true rfl) ?_
        exact hr _ _ _ _ dX7_ofPiece_69 (by subst c_30; unfold cp_sOfPiece; rw [if_pos c_5, if_neg (by decide), if_neg (by decide), if_pos rfl, cp_nIt (by omega)]) rfl
      · refine cp_aload_n O dX7_ofPiece_70 cp_lg0 ?_
        refine cp_iload_n O dX7_ofPiece_71 cp_lg1 ?_
        refine cp_cVi O me_X7_platesWith mi_X7_platesWith ml_X7_164 cp_cX7 M.s (c_X7_platesWith (p := p) (np := cp_tp N) (Q := cp_tQ N) M rfl hnp8 hAQ.2.1 (fun j hj => (hAQ.2.2.1 j hj).2.2.2.2)) dX7_ofPiece_72 rfl rfl ⟨Nat.le_of_ble_eq_true rfl, Nat.le_of_ble_eq_true rfl⟩ ⟨Nat.le_refl _, Nat.le_refl _⟩ (Nat.le_of_ble_eq_true rfl) ?_
        exact hr _ _ _ _ dX7_ofPiece_75 (by subst c_30; unfold cp_sOfPiece; rw [if_pos c_5, if_neg (by decide), if_neg (by decide), if_neg (by decide), if_pos rfl, cp_nIt (by omega)]) rfl
      · have h8 : v2 ≠ 8 := fun e => by subst e; exact absurd c_30 (by decide)
        have h9 : v2 ≠ 9 := fun e => by subst e; exact absurd c_30 (by decide)
        have h10 : v2 ≠ 10 := fun e => by subst e; exact absurd c_30 (by decide)
        refine cp_bipush O dX7_ofPiece_76 (v := (-2)) rfl ?_
        exact hr _ _ _ _ dX7_ofPiece_78 (by unfold cp_sOfPiece; rw [if_pos c_5, if_neg (by rw [c_19]; decide), if_neg h8, if_neg h9, if_neg h10]) rfl
    · obtain ⟨q, -, hq7, rfl⟩ := cp_rg_nI (l := 0) (h := 7) c_19
      refine cp_aload_n O dX7_ofPiece_22 cp_lg0 ?_
      refine cp_iload_n O dX7_ofPiece_23 cp_lg1 ?_
      refine cp_iload_n O dX7_ofPiece_24 cp_lg2 ?_
      refine cp_cVi O me_X7_of mi_X7_of ml_X7_39 cp_cX7 M.s (c_X7_ofe (w := cp_tP N p q) (p := p) (q := q) M rfl rfl (by omega) (by omega) (hpp q (by omega))) dX7_ofPiece_25 rfl rfl ⟨Nat.le_of_ble_eq_true rfl, Nat.le_of_ble_eq_true rfl⟩ ⟨Nat.le_refl _, Nat.le_refl _⟩ (Nat.le_of_ble_eq_true rfl) ?_
      exact hr _ _ _ _ dX7_ofPiece_28 (by unfold cp_sOfPiece; rw [if_pos c_5, if_pos c_19, cp_nIt (by omega), cp_nIt (by omega)]) rfl
  · refine cp_iconst O dX7_ofPiece_8 (v := (-1)) rfl ?_
    exact hr _ _ _ _ dX7_ofPiece_9 (by unfold cp_sOfPiece; rw [if_neg (by rw [c_5]; decide)]) rfl
