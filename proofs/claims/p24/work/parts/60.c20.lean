/-- the first c rows copied -/
def cp_cyP (c0 : Nat → Nat → Int32) (P : cp_PP) (c : Nat) : cp_PP := fun i => if i < c then cp_pcy (c0 i) (P i) else P i
def cp_cyQ (c0 : Nat → Nat → Int32) (Q : cp_PP) (c : Nat) : cp_PP := fun i => if i < c then cp_qcy (c0 i) (Q i) else Q i
theorem cp_cyP_0 (c0 : Nat → Nat → Int32) (P : cp_PP) : cp_cyP c0 P 0 = P := by
  funext i
  exact if_neg (Nat.not_lt_zero _)
theorem cp_cyQ_0 (c0 : Nat → Nat → Int32) (P : cp_PP) : cp_cyQ c0 P 0 = P := by
  funext i
  exact if_neg (Nat.not_lt_zero _)
theorem cp_cyP_s (c0 : Nat → Nat → Int32) (P : cp_PP) (c : Nat) : cp_row (cp_cyP c0 P c) c (cp_pcy (c0 c) (cp_cyP c0 P c c)) = cp_cyP c0 P (c + 1) := by
  funext i
  by_cases e : i = c
  · subst e
    rw [cp_row_s]
    unfold cp_cyP
    rw [if_neg (Nat.lt_irrefl _), if_pos (Nat.lt_succ_self _)]
  · rw [cp_row_n _ _ e]
    unfold cp_cyP
    by_cases g : i < c
    · rw [if_pos g, if_pos (by omega)]
    · rw [if_neg g, if_neg (by omega)]
theorem cp_cyQ_s (c0 : Nat → Nat → Int32) (P : cp_PP) (c : Nat) : cp_row (cp_cyQ c0 P c) c (cp_qcy (c0 c) (cp_cyQ c0 P c c)) = cp_cyQ c0 P (c + 1) := by
  funext i
  by_cases e : i = c
  · subst e
    rw [cp_row_s]
    unfold cp_cyQ
    rw [if_neg (Nat.lt_irrefl _), if_pos (Nat.lt_succ_self _)]
  · rw [cp_row_n _ _ e]
    unfold cp_cyQ
    by_cases g : i < c
    · rw [if_pos g, if_pos (by omega)]
    · rw [if_neg g, if_neg (by omega)]
def cp_far (b c : Nat) : Prop := c + 36 ≤ b ∨ b + 36 ≤ c
theorem cp_nn_pcy {lc : Launch} {E : cp_En} {cnt : Nat} {sh : cp_Shp} {R : cp_Rem} {J : cp_Mem} {b : Nat} {o S : Nat → Int32} {P Q : cp_PP} (N : cp_NL sh R b) {c : Nat} (N2 : cp_NL sh R c) (hx : cp_far b c) {i : Nat} (hi : i < 24) (g3 : J (c + 3 + i) 3 = 0 ∨ J (c + 3 + i) 3 = 1) (g5 : J (c + 3 + i) 5 = 0 ∨ J (c + 3 + i) 5 = 1) : cp_Fn lc E yX4_copyFrom cX4_copyFrom 2 none 0 [.ref (b + 3 + i), .ref (c + 3 + i)] cnt sh (cp_nn J b o S P Q) R none (cp_nn J b o S (cp_row P i (cp_pcy (J (c + 3 + i)) (P i))) Q) := by
  have e : cp_nn J b o S P Q (c + 3 + i) = J (c + 3 + i) := cp_nn_x _ _ _ _ _ _ (by unfold cp_far at hx; omega)
  have g := c_X4_copyFrom (lc := lc) (E := E) (cnt := cnt) (R := R) (I := cp_nn J b o S P Q) (g := P i) (o := c + 3 + i) (N.spc hi) (N2.spc hi) (by unfold cp_far at hx; omega) (by rw [e]; exact g3) (by rw [e]; exact g5)
  rw [cp_nn_rP _ _ _ _ _ _ hi, cp_nn_rP _ _ _ _ _ _ hi, cp_row_self, e] at g
  exact g
theorem cp_nn_qcz {lc : Launch} {E : cp_En} {cnt : Nat} {sh : cp_Shp} {R : cp_Rem} {J : cp_Mem} {b : Nat} {o S : Nat → Int32} {P Q : cp_PP} (N : cp_NL sh R b) {c : Nat} (N2 : cp_NL sh R c) (hx : cp_far b c) {i : Nat} (hi : i < 8) (g1 : J (c + 28 + i) 1 = 0 ∨ J (c + 28 + i) 1 = 1) : cp_Fn lc E yX5_copyFrom cX5_copyFrom 2 none 0 [.ref (b + 28 + i), .ref (c + 28 + i)] cnt sh (cp_nn J b o S P Q) R none (cp_nn J b o S P (cp_row Q i (cp_qcy (J (c + 28 + i)) (Q i)))) := by
  have e : cp_nn J b o S P Q (c + 28 + i) = J (c + 28 + i) := cp_nn_x _ _ _ _ _ _ (by unfold cp_far at hx; omega)
  have g := c_X5_copyFrom (lc := lc) (E := E) (cnt := cnt) (R := R) (I := cp_nn J b o S P Q) (g := Q i) (o := c + 28 + i) (N.spl hi) (N2.spl hi) (by unfold cp_far at hx; omega) (by rw [e]; exact g1)
  rw [cp_nn_rQ _ _ _ _ _ _ hi, cp_nn_rQ _ _ _ _ _ _ hi, cp_row_self, e] at g
  exact g
set_option maxHeartbeats 4000000 in
set_option maxRecDepth 100000 in
theorem c_X1_copyFrom {lc : Launch} {E : cp_En} {cnt : Nat} {sh : cp_Shp} {R : cp_Rem} {J : cp_Mem} {b : Nat} {o S : Nat → Int32} {P Q : cp_PP} (N : cp_NL sh R b) {c : Nat} (N2 : cp_NL sh R c) (hx : cp_far b c) {n np : Nat} (h3 : J c 3 = nI n) (hn : n ≤ 24) (h5 : J c 5 = nI np) (hq : np ≤ 8) (hb : ∀ i, i < n → (J (c + 3 + i) 3 = 0 ∨ J (c + 3 + i) 3 = 1) ∧ (J (c + 3 + i) 5 = 0 ∨ J (c + 3 + i) 5 = 1)) (hb1 : ∀ i, i < np → (J (c + 28 + i) 1 = 0 ∨ J (c + 28 + i) 1 = 1)) : cp_Fn lc E yX1_copyFrom cX1_copyFrom 3 none 1 [.ref b, .ref c] cnt sh (cp_nn J b o S P Q) R none (cp_nn J b (upd (upd (upd o 1 (J c 1)) 3 (nI n)) 5 (nI np)) (va_cpy (J (c + 1)) S 0 0 4) (cp_cyP (fun i => J (c + 3 + i)) P n) (cp_cyQ (fun i => J (c + 28 + i)) Q np)) := by
  refine cp_Fn_v [some (.ref b), some (.ref c), none] (by decide +kernel) (Nat.le_of_ble_eq_true rfl) rfl (fun x hxl O hr => ?_)
  subst hxl
  refine cp_aload_n O dX1_copyFrom_0 cp_lg1 ?_
  refine fg_X1_18 O N2.s N2.set dX1_copyFrom_1 ?_
  refine cp_iconst O dX1_copyFrom_4 (v := 0) rfl ?_
  refine cp_aload_n O dX1_copyFrom_5 cp_lg0 ?_
  refine fg_X1_18 O N.s N.set dX1_copyFrom_6 ?_
  refine cp_iconst O dX1_copyFrom_9 (v := 0) rfl ?_
  refine cp_iconst O dX1_copyFrom_10 (v := 4) rfl ?_
  refine cp_acpy O (Nat.le_refl 1) N2.sset N.sset (Nat.le_of_ble_eq_true rfl) dX1_copyFrom_11 ?_
  rw [cp_nn_rS, cp_nn_S, cp_nn_x _ _ _ _ _ _ (show c + 1 < b ∨ b + 36 ≤ c + 1 by unfold cp_far at hx; omega)]
  refine cp_aload_n O dX1_copyFrom_14 cp_lg0 ?_
  refine cp_aload_n O dX1_copyFrom_15 cp_lg1 ?_
  refine fg_X1_23 O N2.s dX1_copyFrom_16 ?_
  rw [cp_nn_x _ _ _ _ _ _ (show c < b ∨ b + 36 ≤ c by unfold cp_far at hx; omega)]
  refine np_X1_23 O N dX1_copyFrom_19 ?_
  refine cp_aload_n O dX1_copyFrom_22 cp_lg0 ?_
  refine cp_aload_n O dX1_copyFrom_23 cp_lg1 ?_
  refine fg_X1_34 O N2.s dX1_copyFrom_24 ?_
  rw [cp_nn_x _ _ _ _ _ _ (show c < b ∨ b + 36 ≤ c by unfold cp_far at hx; omega), h3]
  refine np_X1_34 O N dX1_copyFrom_27 ?_
  refine cp_iconst O dX1_copyFrom_30 (v := 0) rfl ?_
  refine cp_istore_n O dX1_copyFrom_31 (by decide) (cp_ls2 rfl) ?_
  have loop32 : ∀ k, k ≤ n → cp_G x E 3 0 0 cnt sh (cp_nn J b (upd (upd o 1 (J c 1)) 3 (nI n)) (va_cpy (J (c + 1)) S 0 0 4) (cp_cyP (fun i => J (c + 3 + i)) P k) Q) R 32 [some (.ref b), some (.ref c), some (.int (nI k))] [] := by
    refine cp_up (fun k hk ih => ?_)
    refine cp_iload_n O dX1_copyFrom_32 cp_lg2 ?_
    refine cp_aload_n O dX1_copyFrom_33 cp_lg0 ?_
    refine ng_X1_34 O N dX1_copyFrom_34 ?_
    refine cp_icmp_geN (tgt := 61) O dX1_copyFrom_37 (by decide) (a := k) (b := n) rfl cp_upd_s (by omega) (by omega) (fun c_37 => ?_) (fun c_37 => ?_)
    · refine cp_aload_n O dX1_copyFrom_61 cp_lg0 ?_
      refine cp_aload_n O dX1_copyFrom_62 cp_lg1 ?_
      refine fg_X1_44 O N2.s dX1_copyFrom_63 ?_
      rw [cp_nn_x _ _ _ _ _ _ (show c < b ∨ b + 36 ≤ c by unfold cp_far at hx; omega), h5]
      refine np_X1_44 O N dX1_copyFrom_66 ?_
      refine cp_iconst O dX1_copyFrom_69 (v := 0) rfl ?_
      refine cp_istore_n O dX1_copyFrom_70 (by decide) (cp_ls2 rfl) ?_
      have loop71 : ∀ k, k ≤ np → cp_G x E 3 0 0 cnt sh (cp_nn J b (upd (upd (upd o 1 (J c 1)) 3 (nI n)) 5 (nI np)) (va_cpy (J (c + 1)) S 0 0 4) (cp_cyP (fun i => J (c + 3 + i)) P n) (cp_cyQ (fun i => J (c + 28 + i)) Q k)) R 71 [some (.ref b), some (.ref c), some (.int (nI k))] [] := by
        refine cp_up (fun k hk ih => ?_)
        refine cp_iload_n O dX1_copyFrom_71 cp_lg2 ?_
        refine cp_aload_n O dX1_copyFrom_72 cp_lg0 ?_
        refine ng_X1_44 O N dX1_copyFrom_73 ?_
        refine cp_icmp_geN (tgt := 100) O dX1_copyFrom_76 (by decide) (a := k) (b := np) rfl cp_upd_s (by omega) (by omega) (fun c_76 => ?_) (fun c_76 => ?_)
        · exact hr _ _ _ dX1_copyFrom_100 (by rw [show np = k by omega])
        · refine cp_aload_n O dX1_copyFrom_79 cp_lg0 ?_
          refine fg_X1_39 O N.s N.pls dX1_copyFrom_80 ?_
          refine cp_iload_n O dX1_copyFrom_83 cp_lg2 ?_
          refine cp_aaldr O (Or.inr (Or.inr ⟨rfl, rfl⟩)) N.spls (j := k) rfl (by omega) (by decide) (N.pl (by omega)) dX1_copyFrom_84 ?_
          refine cp_aload_n O dX1_copyFrom_85 cp_lg1 ?_
          refine fg_X1_39 O N2.s N2.pls dX1_copyFrom_86 ?_
          refine cp_iload_n O dX1_copyFrom_89 cp_lg2 ?_
          refine cp_aaldr O (Or.inr (Or.inr ⟨rfl, rfl⟩)) N2.spls (j := k) rfl (by omega) (by decide) (N2.pl (by omega)) dX1_copyFrom_90 ?_
          refine cp_cVv O me_X5_copyFrom mi_X5_copyFrom ml_X1_57 cp_cX5 (N.spl (by omega)) (cp_nn_qcz N N2 hx (i := k) (by omega) (hb1 k (by omega))) dX1_copyFrom_91 rfl rfl ⟨Nat.le_of_ble_eq_true rfl, Nat.le_of_ble_eq_true rfl⟩ ⟨Nat.le_refl _, Nat.le_refl _⟩ (Nat.le_of_ble_eq_true rfl) ?_
          refine cp_iinc O dX1_copyFrom_94 cp_lg2 (cp_inc rfl) (by decide) (cp_ls2 rfl) ?_
          refine cp_goto (tgt := 71) O dX1_copyFrom_97 (by decide) ?_
          have ih := ih (by omega)
          rw [← cp_cyQ_s] at ih
          exact ih
      have l0 := loop71 0 (Nat.zero_le _)
      rw [cp_cyQ_0] at l0
      have e : (cp_cyP (fun i => J (c + 3 + i)) P n) = (cp_cyP (fun i => J (c + 3 + i)) P k) := by rw [show n = k by omega]
      rw [e] at l0
      exact l0
    · refine cp_aload_n O dX1_copyFrom_40 cp_lg0 ?_
      refine fg_X1_29 O N.s N.pcs dX1_copyFrom_41 ?_
      refine cp_iload_n O dX1_copyFrom_44 cp_lg2 ?_
      refine cp_aaldr O (Or.inr (Or.inl ⟨rfl, rfl⟩)) N.spcs (j := k) rfl (by omega) (by decide) (N.pc (by omega)) dX1_copyFrom_45 ?_
      refine cp_aload_n O dX1_copyFrom_46 cp_lg1 ?_
      refine fg_X1_29 O N2.s N2.pcs dX1_copyFrom_47 ?_
      refine cp_iload_n O dX1_copyFrom_50 cp_lg2 ?_
      refine cp_aaldr O (Or.inr (Or.inl ⟨rfl, rfl⟩)) N2.spcs (j := k) rfl (by omega) (by decide) (N2.pc (by omega)) dX1_copyFrom_51 ?_
      refine cp_cVv O me_X4_copyFrom mi_X4_copyFrom ml_X1_53 cp_cX4 (N.spc (by omega)) (cp_nn_pcy N N2 hx (i := k) (by omega) (hb k (by omega)).1 (hb k (by omega)).2) dX1_copyFrom_52 rfl rfl ⟨Nat.le_of_ble_eq_true rfl, Nat.le_of_ble_eq_true rfl⟩ ⟨Nat.le_refl _, Nat.le_refl _⟩ (Nat.le_of_ble_eq_true rfl) ?_
      refine cp_iinc O dX1_copyFrom_55 cp_lg2 (cp_inc rfl) (by decide) (cp_ls2 rfl) ?_
      refine cp_goto (tgt := 32) O dX1_copyFrom_58 (by decide) ?_
      have ih := ih (by omega)
      rw [← cp_cyP_s] at ih
      exact ih
  have l0 := loop32 0 (Nat.zero_le _)
  rw [cp_cyP_0] at l0
  exact l0

