theorem cp_Gz {x : cp_Cx} {E : cp_En} {nL cells slots cnt : Nat} {sh : cp_Shp} {I I' : cp_Mem} {R R' : cp_Rem} {pc : Nat} {L : List (Option Value)} {st : List Value} (h : ∀ a, a < cp_b0 E + cnt → I' a = I a ∧ R' a = R a) (k : cp_G x E nL cells slots cnt sh I' R' pc L st) : cp_G x E nL cells slots cnt sh I R pc L st := by
  intro H locs ls hW hS hl
  refine k H locs ls ⟨hW.1, hW.2.1, ?_⟩ hS hl
  have e : cp_WL E cnt sh I' R' = cp_WL E cnt sh I R := by
    apply List.ext_getElem?
    intro q
    by_cases hq : q < cnt
    · rw [cp_WL_get E cnt sh I R hq, cp_WL_get E cnt sh I' R' hq]
      obtain ⟨h1, h2⟩ := h (cp_b0 E + q) (by omega)
      rw [h1, h2]
    · rw [List.getElem?_eq_none (by rw [cp_WL_len]; omega), List.getElem?_eq_none (by rw [cp_WL_len]; omega)]
  rw [e]
  exact hW.2.2
def cp_rw (R : cp_Rem) (a : Nat) (f : Nat → Option Nat) : cp_Rem := fun x => if x = a then f else R x
theorem cp_rw_s {R : cp_Rem} {a : Nat} {f : Nat → Option Nat} : cp_rw R a f a = f := by simp [cp_rw]
theorem cp_rw_n {R : cp_Rem} {a x : Nat} {f : Nat → Option Nat} (h : x ≠ a) : cp_rw R a f x = R x := by simp [cp_rw, h]
theorem cp_wr_s (R : cp_Rem) (a j : Nat) (v : Option Nat) : cp_wr R a j v a j = v := by simp [cp_wr]
theorem cp_wr_j (R : cp_Rem) (a j : Nat) (v : Option Nat) {a' j' : Nat} (h : ¬ (a' = a ∧ j' = j)) : cp_wr R a j v a' j' = R a' j' := by
  unfold cp_wr
  rw [if_neg h]
/-- cells below b are as they were -/
def cp_old (b : Nat) (sh : cp_Shp) (I : cp_Mem) (R : cp_Rem) (s1 : cp_Shp) (i1 : cp_Mem) (r1 : cp_Rem) : Prop := ∀ x, x < b → s1 x = sh x ∧ i1 x = I x ∧ r1 x = R x
theorem cp_old.rf {b : Nat} {sh : cp_Shp} {I : cp_Mem} {R : cp_Rem} : cp_old b sh I R sh I R := fun _ _ => ⟨rfl, rfl, rfl⟩
theorem cp_old.tr {b b' : Nat} {sh s1 s2 : cp_Shp} {I i1 i2 : cp_Mem} {R r1 r2 : cp_Rem} (h : cp_old b sh I R s1 i1 r1) (g : cp_old b' s1 i1 r1 s2 i2 r2) (hb : b ≤ b') : cp_old b sh I R s2 i2 r2 := fun x hx => by
  obtain ⟨h1, h2, h3⟩ := h x hx
  obtain ⟨g1, g2, g3⟩ := g x (by omega)
  exact ⟨g1.trans h1, g2.trans h2, g3.trans h3⟩
/-- a fresh cell that a row then refers to -/
theorem cp_old.nw {b a : Nat} {sh s1 : cp_Shp} {I i1 : cp_Mem} {R r1 : cp_Rem} {k : Nat × Nat} {f : Nat → Int32} {g : Nat → Option Nat} (h : cp_old b sh I R s1 i1 r1) (ha : b ≤ a) : cp_old b sh I R (cp_sN s1 a k) (cp_row i1 a f) (cp_rw r1 a g) := fun x hx => by
  obtain ⟨h1, h2, h3⟩ := h x hx
  rw [cp_sN_n (by omega), cp_row_n _ _ (by omega), cp_rw_n (by omega)]
  exact ⟨h1, h2, h3⟩
theorem cp_old.wr {b a j : Nat} {v : Option Nat} {sh s1 : cp_Shp} {I i1 : cp_Mem} {R r1 : cp_Rem} (h : cp_old b sh I R s1 i1 r1) (ha : b ≤ a) : cp_old b sh I R s1 i1 (cp_wr r1 a j v) := fun x hx => by
  rw [cp_wr_a _ _ _ _ (by omega)]
  exact h x hx
theorem cp_old.wi {b a j : Nat} {v : Int32} {sh s1 : cp_Shp} {I i1 : cp_Mem} {R r1 : cp_Rem} (h : cp_old b sh I R s1 i1 r1) (ha : b ≤ a) : cp_old b sh I R s1 (cp_wi i1 a j v) r1 := fun x hx => by
  rw [cp_wi_a _ _ _ _ (by omega)]
  exact h x hx
/-- the night as it begins -/
def cp_N0 : cp_Nt := (fun j => cp_sv 0 j, 0, 0, fun _ _ => 0, 0, fun _ _ => 0, [])
set_option maxHeartbeats 4000000 in
set_option maxRecDepth 100000 in
theorem c_X4_init {lc : Launch} {E : cp_En} {cnt : Nat} {sh : cp_Shp} {I : cp_Mem} {R : cp_Rem} {a : Nat} : cp_Fn lc E yX4_init cX4_init 1 none 1 [.ref a] cnt sh I R none I := by
  refine cp_Fn_v [some (.ref a)] (by decide +kernel) (Nat.le_of_ble_eq_true rfl) rfl (fun x hxl O hr => ?_)
  subst hxl
  refine cp_aload_n O dX4_init_0 cp_lg0 ?_
  refine cp_oinit O (Nat.le_refl 1) ol_X4_3 (Nat.le_of_ble_eq_true rfl) dX4_init_1 ?_
  exact hr _ _ _ dX4_init_4 rfl
set_option maxHeartbeats 4000000 in
set_option maxRecDepth 100000 in
theorem c_X5_init {lc : Launch} {E : cp_En} {cnt : Nat} {sh : cp_Shp} {I : cp_Mem} {R : cp_Rem} {a : Nat} : cp_Fn lc E yX5_init cX5_init 1 none 1 [.ref a] cnt sh I R none I := by
  refine cp_Fn_v [some (.ref a)] (by decide +kernel) (Nat.le_of_ble_eq_true rfl) rfl (fun x hxl O hr => ?_)
  subst hxl
  refine cp_aload_n O dX5_init_0 cp_lg0 ?_
  refine cp_oinit O (Nat.le_refl 1) ol_X5_1 (Nat.le_of_ble_eq_true rfl) dX5_init_1 ?_
  exact hr _ _ _ dX5_init_4 rfl
/-- a night that is being made: c pieces, then the plates -/
def cp_M1 (b : Nat) (sh : cp_Shp) (I : cp_Mem) (R : cp_Rem) (k : Nat) (s1 : cp_Shp) (i1 : cp_Mem) (r1 : cp_Rem) : Prop := cp_old b sh I R s1 i1 r1 ∧ s1 b = (2, 0) ∧ r1 b 0 = some (b + 1) ∧ s1 (b + 1) = (9, 4) ∧ r1 b 2 = some (b + 2) ∧ s1 (b + 2) = (12, 24) ∧ (∀ i, i < k → r1 (b + 2) i = some (b + 3 + i) ∧ s1 (b + 3 + i) = (5, 0)) ∧ i1 b 1 = 0 ∧ ∀ j, j < 4 → i1 (b + 1) j = cp_sv 0 j
theorem cp_M1.nw {b k a : Nat} {sh s1 : cp_Shp} {I i1 : cp_Mem} {R r1 : cp_Rem} {q : Nat × Nat} {f : Nat → Int32} {g : Nat → Option Nat} (h : cp_M1 b sh I R k s1 i1 r1) (hk : k ≤ 24) (ha : b + 3 + k ≤ a) : cp_M1 b sh I R k (cp_sN s1 a q) (cp_row i1 a f) (cp_rw r1 a g) := by
  obtain ⟨h1, h2, h3, h4, h5, h6, h7, h8, h9⟩ := h
  refine ⟨h1.nw (by omega), by rw [cp_sN_n (by omega)]; exact h2, by rw [cp_rw_n (by omega)]; exact h3, by rw [cp_sN_n (by omega)]; exact h4, by rw [cp_rw_n (by omega)]; exact h5, by rw [cp_sN_n (by omega)]; exact h6, fun i hi => ?_, by rw [cp_row_n _ _ (by omega)]; exact h8, fun j hj => by rw [cp_row_n _ _ (by omega)]; exact h9 j hj⟩
  rw [cp_rw_n (by omega), cp_sN_n (by omega)]
  exact h7 i hi
theorem cp_M1.st {b k : Nat} {sh s1 : cp_Shp} {I i1 : cp_Mem} {R r1 : cp_Rem} (h : cp_M1 b sh I R k s1 i1 r1) (hn : s1 (b + 3 + k) = (5, 0)) : cp_M1 b sh I R (k + 1) s1 i1 (cp_wr r1 (b + 2) k (some (b + 3 + k))) := by
  obtain ⟨h1, h2, h3, h4, h5, h6, h7, h8, h9⟩ := h
  refine ⟨h1.wr (by omega), h2, by rw [cp_wr_a _ _ _ _ (by omega)]; exact h3, h4, by rw [cp_wr_a _ _ _ _ (by omega)]; exact h5, h6, fun i hi => ?_, h8, h9⟩
  by_cases e : i = k
  · subst e
    rw [cp_wr_s]
    exact ⟨rfl, hn⟩
  · rw [cp_wr_j _ _ _ _ (fun z => e z.2)]
    exact h7 i (by omega)
def cp_M2 (b : Nat) (sh : cp_Shp) (I : cp_Mem) (R : cp_Rem) (k : Nat) (s1 : cp_Shp) (i1 : cp_Mem) (r1 : cp_Rem) : Prop := cp_M1 b sh I R 24 s1 i1 r1 ∧ i1 b 3 = 0 ∧ r1 b 4 = some (b + 27) ∧ s1 (b + 27) = (13, 8) ∧ ∀ i, i < k → r1 (b + 27) i = some (b + 28 + i) ∧ s1 (b + 28 + i) = (6, 0)
theorem cp_M2.nw {b k a : Nat} {sh s1 : cp_Shp} {I i1 : cp_Mem} {R r1 : cp_Rem} {q : Nat × Nat} {f : Nat → Int32} {g : Nat → Option Nat} (h : cp_M2 b sh I R k s1 i1 r1) (hk : k ≤ 8) (ha : b + 28 + k ≤ a) : cp_M2 b sh I R k (cp_sN s1 a q) (cp_row i1 a f) (cp_rw r1 a g) := by
  obtain ⟨h1, h2, h3, h4, h5⟩ := h
  refine ⟨h1.nw (Nat.le_refl _) (by omega), by rw [cp_row_n _ _ (by omega)]; exact h2, by rw [cp_rw_n (by omega)]; exact h3, by rw [cp_sN_n (by omega)]; exact h4, fun i hi => ?_⟩
  rw [cp_rw_n (by omega), cp_sN_n (by omega)]
  exact h5 i hi
theorem cp_M1.wr {b k a j : Nat} {v : Option Nat} {sh s1 : cp_Shp} {I i1 : cp_Mem} {R r1 : cp_Rem} (h : cp_M1 b sh I R k s1 i1 r1) (ha : b ≤ a) (hb : a = b → j ≠ 0 ∧ j ≠ 2) (h2a : a ≠ b + 2) : cp_M1 b sh I R k s1 i1 (cp_wr r1 a j v) := by
  obtain ⟨h1, h2, h3, h4, h5, h6, h7, h8, h9⟩ := h
  refine ⟨h1.wr ha, h2, by rw [cp_wr_j _ _ _ _ (fun z => (hb z.1.symm).1 z.2.symm)]; exact h3, h4, by rw [cp_wr_j _ _ _ _ (fun z => (hb z.1.symm).2 z.2.symm)]; exact h5, h6, fun i hi => ?_, h8, h9⟩
  rw [cp_wr_a _ _ _ _ (Ne.symm h2a)]
  exact h7 i hi
theorem cp_M2.st {b k : Nat} {sh s1 : cp_Shp} {I i1 : cp_Mem} {R r1 : cp_Rem} (h : cp_M2 b sh I R k s1 i1 r1) (hn : s1 (b + 28 + k) = (6, 0)) : cp_M2 b sh I R (k + 1) s1 i1 (cp_wr r1 (b + 27) k (some (b + 28 + k))) := by
  obtain ⟨h1, h2, h3, h4, h5⟩ := h
  refine ⟨h1.wr (by omega) (fun z => by omega) (by omega), h2, by rw [cp_wr_a _ _ _ _ (by omega)]; exact h3, h4, fun i hi => ?_⟩
  by_cases e : i = k
  · subst e
    rw [cp_wr_s]
    exact ⟨rfl, hn⟩
  · rw [cp_wr_j _ _ _ _ (fun z => e z.2)]
    exact h5 i (by omega)
theorem cp_M2.fin {b : Nat} {sh s1 : cp_Shp} {I i1 : cp_Mem} {R r1 : cp_Rem} (h : cp_M2 b sh I R 8 s1 i1 r1) : cp_old b sh I R s1 (cp_wi i1 b 5 0) r1 ∧ cp_NL s1 r1 b ∧ cp_HN (cp_wi i1 b 5 0) b cp_N0 := by
  obtain ⟨⟨h1, h2, h3, h4, h5, h6, h7, h8, h9⟩, g2, g3, g4, g5⟩ := h
  refine ⟨h1.wi (Nat.le_refl _), ⟨h2, h3, h4, h5, h6, fun i hi => (h7 i hi).1, fun i hi => (h7 i hi).2, g3, g4, fun i hi => (g5 i hi).1, fun i hi => (g5 i hi).2⟩, ?_⟩
  refine ⟨by rw [cp_wi_j _ _ _ _ (fun z => absurd z.2 (by decide))]; exact h8, by rw [cp_wi_j _ _ _ _ (fun z => absurd z.2 (by decide))]; exact g2, cp_wi_s _ _ _ _, Nat.zero_le _, ⟨fun j hj => ?_, rfl, rfl, fun i hi => absurd hi (Nat.not_lt_zero _), rfl, fun i hi => absurd hi (Nat.not_lt_zero _), rfl⟩, fun i j _ hj => absurd hj (Nat.not_lt_zero _), fun i hi => absurd hi List.not_mem_nil⟩
  show cp_wi i1 b 5 0 (b + 1) j = cp_sv 0 j
  rw [cp_wi_a _ _ _ _ (by omega)]
  exact h9 j hj
set_option maxHeartbeats 4000000 in
set_option maxRecDepth 100000 in
theorem c_X1_init {lc : Launch} {E : cp_En} {cnt : Nat} {sh : cp_Shp} {I : cp_Mem} {R : cp_Rem} {b : Nat} (hb : b + 1 = cp_b0 E + cnt) (hs : sh b = (2, 0)) : cp_Ct lc E yX1_init cX1_init 2 none 2 35 300 [.ref b] cnt sh I R (fun v c' s' i' r' => v = none ∧ c' = cnt + 35 ∧ cp_old b sh I R s' i' r' ∧ cp_NL s' r' b ∧ cp_HN i' b cp_N0) := by
  refine cp_Ct_of (L0 := [some (.ref b), none]) (by decide +kernel) (Nat.le_of_ble_eq_true rfl) rfl (fun x hxl O hin0 _ hr => ?_)
  subst hxl
  have hin := hin0 rfl
  have out74 : ∀ s1 i1 r1, cp_M2 b sh I R 8 s1 i1 r1 → cp_G x E 2 (27 + 8) (276 + 3 * 8) (cnt + (27 + 8)) s1 i1 r1 99 [some (.ref b), some (.int (nI 8))] [] := fun s1 i1 r1 hM => by
    refine cp_aload_n O dX1_init_99 cp_lg0 ?_
    refine cp_iconst O dX1_init_100 (v := 0) rfl ?_
    refine fp_X1_44 O hM.1.2.1 dX1_init_101 ?_
    exact hr _ _ _ _ _ _ rfl dX1_init_104 ⟨rfl, rfl, hM.fin⟩
  have loop74 : ∀ k, k ≤ 8 → ∀ s1 i1 r1, cp_M2 b sh I R k s1 i1 r1 → cp_G x E 2 (27 + k) (276 + 3 * k) (cnt + (27 + k)) s1 i1 r1 74 [some (.ref b), some (.int (nI k))] [] := by
    refine cp_up (n := 8) (P := fun k => ∀ s1 i1 r1, cp_M2 b sh I R k s1 i1 r1 → cp_G x E 2 (27 + k) (276 + 3 * k) (cnt + (27 + k)) s1 i1 r1 74 [some (.ref b), some (.int (nI k))] []) (fun k hk ih s1 i1 r1 hM => ?_)
    refine cp_iload_n O dX1_init_74 cp_lg1 ?_
    refine cp_bipush O dX1_init_75 (v := 8) rfl ?_
    refine cp_icmp_geN (tgt := 99) O dX1_init_77 (by decide) (a := k) (b := 8) rfl rfl (by omega) (by omega) (fun c_x => ?_) (fun c_x => ?_)
    · have hk0 : k = 8 := by omega
      subst hk0
      exact out74 s1 i1 r1 hM
    · refine cp_aload_n O dX1_init_80 cp_lg0 ?_
      refine fg_X1_39 O hM.1.2.1 hM.2.2.1 dX1_init_81 ?_
      refine cp_iload_n O dX1_init_84 cp_lg1 ?_
      have ea : cp_b0 E + (cnt + (27 + k)) = b + 28 + k := by omega
      refine cp_Gz (I' := cp_row i1 (b + 28 + k) (fun _ => 0)) (R' := cp_rw r1 (b + 28 + k) (fun _ => none)) (fun a ha => ⟨cp_row_n _ _ (by omega), cp_rw_n (by omega)⟩) ?_
      refine cp_new O cp_cX5 cn_X1_37 ci_X5 cj_X5 cd_X5 (by rw [ea, cp_row_s]) (by rw [ea, cp_rw_s]) (by omega) dX1_init_85 ?_
      rw [ea]
      have hM2 := hM.nw (a := b + 28 + k) (q := (6, 0)) (f := fun _ => 0) (g := fun _ => none) (by omega) (Nat.le_refl _)
      refine cp_dup O dX1_init_88 rfl ?_
      refine cp_callIN O me_X5_init rfl in_X5_init ml_X1_43 (c_X5_init (a := b + 28 + k)) dX1_init_89 rfl rfl ⟨by omega, by omega⟩ (by omega) (Nat.le_of_ble_eq_true rfl) (fun v c' s' i' r' hp => ?_)
      obtain ⟨rfl, rfl, rfl, rfl, rfl⟩ := hp
      refine cp_aast O (q := 13) (n := 8) (j := k) (Or.inr (Or.inr ⟨rfl, rfl⟩)) cp_cX5 hM2.2.2.2.1 cp_sN_s rfl (by omega) (by omega) dX1_init_92 ?_
      refine cp_iinc O dX1_init_93 cp_lg1 (cp_inc rfl) (by decide) (cp_ls1 rfl) ?_
      refine cp_goto (tgt := 74) O dX1_init_96 (by decide) ?_
      have ih := ih (by omega) _ _ _ (hM2.st cp_sN_s)
      rw [show cnt + (27 + (k + 1)) = cnt + (27 + k) + 1 by omega] at ih
      exact cp_Gc (by omega) (by omega) ih
  have out33 : ∀ s1 i1 r1, cp_M1 b sh I R 24 s1 i1 r1 → cp_G x E 2 (2 + 24) (28 + 10 * 24) (cnt + (2 + 24)) s1 i1 r1 58 [some (.ref b), some (.int (nI 24))] [] := fun s1 i1 r1 hM => by
    refine cp_aload_n O dX1_init_58 cp_lg0 ?_
    refine cp_iconst O dX1_init_59 (v := 0) rfl ?_
    refine fp_X1_34 O hM.2.1 dX1_init_60 ?_
    refine cp_aload_n O dX1_init_63 cp_lg0 ?_
    refine cp_bipush O dX1_init_64 (v := 8) rfl ?_
    have ea : cp_b0 E + (cnt + (2 + 24)) = b + 27 := by omega
    refine cp_Gz (I' := cp_row (cp_wi i1 b 3 0) (b + 27) (fun _ => 0)) (R' := cp_rw r1 (b + 27) (fun _ => none)) (fun a ha => ⟨cp_row_n _ _ (by omega), cp_rw_n (by omega)⟩) ?_
    refine cp_newr O (q := 13) (n := 8) (Or.inr (Or.inr ⟨rfl, rfl⟩)) cn_X1_37 O.2.2.2.2.2.1.2.2.2.2.2.2 rfl (by omega) (by rw [ea, cp_rw_s]) (by omega) dX1_init_66 ?_
    rw [ea]
    have hM0 : cp_M1 b sh I R 24 s1 (cp_wi i1 b 3 0) r1 := ⟨hM.1.wi (Nat.le_refl _), hM.2.1, hM.2.2.1, hM.2.2.2.1, hM.2.2.2.2.1, hM.2.2.2.2.2.1, hM.2.2.2.2.2.2.1, by rw [cp_wi_j _ _ _ _ (fun z => absurd z.2 (by decide))]; exact hM.2.2.2.2.2.2.2.1, fun j hj => by rw [cp_wi_a _ _ _ _ (by omega)]; exact hM.2.2.2.2.2.2.2.2 j hj⟩
    have hM2 := hM0.nw (a := b + 27) (q := (13, 8)) (f := fun _ => 0) (g := fun _ => none) (Nat.le_refl _) (by omega)
    refine pf_X1_39 O hin hM2.2.1 dX1_init_69 ?_
    refine cp_iconst O dX1_init_72 (v := 0) rfl ?_
    refine cp_istore_n O dX1_init_73 (by decide) (cp_ls1 rfl) ?_
    have l0 := loop74 0 (Nat.zero_le _) _ _ _ (show cp_M2 b sh I R 0 _ _ (cp_wr _ b 4 (some (b + 27))) from ⟨hM2.wr (Nat.le_refl _) (fun _ => by decide) (by omega), by rw [cp_row_n _ _ (by omega), cp_wi_s], by rw [cp_wr_s], cp_sN_s, fun i hi => absurd hi (Nat.not_lt_zero _)⟩)
    exact cp_Gc (by omega) (by omega) l0
  have loop33 : ∀ k, k ≤ 24 → ∀ s1 i1 r1, cp_M1 b sh I R k s1 i1 r1 → cp_G x E 2 (2 + k) (28 + 10 * k) (cnt + (2 + k)) s1 i1 r1 33 [some (.ref b), some (.int (nI k))] [] := by
    refine cp_up (n := 24) (P := fun k => ∀ s1 i1 r1, cp_M1 b sh I R k s1 i1 r1 → cp_G x E 2 (2 + k) (28 + 10 * k) (cnt + (2 + k)) s1 i1 r1 33 [some (.ref b), some (.int (nI k))] []) (fun k hk ih s1 i1 r1 hM => ?_)
    refine cp_iload_n O dX1_init_33 cp_lg1 ?_
    refine cp_bipush O dX1_init_34 (v := 24) rfl ?_
    refine cp_icmp_geN (tgt := 58) O dX1_init_36 (by decide) (a := k) (b := 24) rfl rfl (by omega) (by omega) (fun c_x => ?_) (fun c_x => ?_)
    · have hk0 : k = 24 := by omega
      subst hk0
      exact out33 s1 i1 r1 hM
    · refine cp_aload_n O dX1_init_39 cp_lg0 ?_
      refine fg_X1_29 O hM.2.1 hM.2.2.2.2.1 dX1_init_40 ?_
      refine cp_iload_n O dX1_init_43 cp_lg1 ?_
      have ea : cp_b0 E + (cnt + (2 + k)) = b + 3 + k := by omega
      refine cp_Gz (I' := cp_row i1 (b + 3 + k) (fun _ => 0)) (R' := cp_rw r1 (b + 3 + k) (fun _ => none)) (fun a ha => ⟨cp_row_n _ _ (by omega), cp_rw_n (by omega)⟩) ?_
      refine cp_new O cp_cX4 cn_X1_27 ci_X4 cj_X4 cd_X4 (by rw [ea, cp_row_s]) (by rw [ea, cp_rw_s]) (by omega) dX1_init_44 ?_
      rw [ea]
      have hM2 := hM.nw (a := b + 3 + k) (q := (5, 0)) (f := fun _ => 0) (g := fun _ => none) (by omega) (Nat.le_refl _)
      refine cp_dup O dX1_init_47 rfl ?_
      refine cp_callIN O me_X4_init rfl in_X4_init ml_X1_33 (c_X4_init (a := b + 3 + k)) dX1_init_48 rfl rfl ⟨by omega, by omega⟩ (by omega) (Nat.le_of_ble_eq_true rfl) (fun v c' s' i' r' hp => ?_)
      obtain ⟨rfl, rfl, rfl, rfl, rfl⟩ := hp
      refine cp_aast O (q := 12) (n := 24) (j := k) (Or.inr (Or.inl ⟨rfl, rfl⟩)) cp_cX4 hM2.2.2.2.2.2.1 cp_sN_s rfl (by omega) (by omega) dX1_init_51 ?_
      refine cp_iinc O dX1_init_52 cp_lg1 (cp_inc rfl) (by decide) (cp_ls1 rfl) ?_
      refine cp_goto (tgt := 33) O dX1_init_55 (by decide) ?_
      have ih := ih (by omega) _ _ _ (hM2.st cp_sN_s)
      rw [show cnt + (2 + (k + 1)) = cnt + (2 + k) + 1 by omega] at ih
      exact cp_Gc (by omega) (by omega) ih
  refine cp_aload_n O dX1_init_0 cp_lg0 ?_
  refine cp_oinit O (by decide) ol_X1_3 (Nat.le_of_ble_eq_true rfl) dX1_init_1 ?_
  refine cp_aload_n O dX1_init_4 cp_lg0 ?_
  refine fs_X1_9 O dX1_init_5 ?_
  refine cp_Gz (I' := cp_row I (b + 1) (fun j => if j < 4 then cp_sv 0 j else 0)) (R' := cp_rw R (b + 1) (fun _ => none)) (fun a ha => ⟨cp_row_n _ _ (by omega), cp_rw_n (by omega)⟩) ?_
  refine cp_clone O (by decide) (by rw [← hb, cp_row_s]) (Nat.le_of_ble_eq_true rfl) (by omega) dX1_init_8 ?_
  rw [← hb]
  refine cp_castI O (n := 4) cp_sN_s dX1_init_11 ?_
  refine pf_X1_18 O hin (by rw [cp_sN_n (by omega)]; exact hs) dX1_init_14 ?_
  refine cp_aload_n O dX1_init_17 cp_lg0 ?_
  refine cp_iconst O dX1_init_18 (v := 0) rfl ?_
  refine fp_X1_23 O (by rw [cp_sN_n (by omega)]; exact hs) dX1_init_19 ?_
  refine cp_aload_n O dX1_init_22 cp_lg0 ?_
  refine cp_bipush O dX1_init_23 (v := 24) rfl ?_
  have ea : cp_b0 E + (cnt + 1) = b + 2 := by omega
  refine cp_Gz (I' := cp_row (cp_wi (cp_row I (b + 1) (fun j => if j < 4 then cp_sv 0 j else 0)) b 1 0) (b + 2) (fun _ => 0)) (R' := cp_rw (cp_wr (cp_rw R (b + 1) (fun _ => none)) b 0 (some (b + 1))) (b + 2) (fun _ => none)) (fun a ha => ⟨cp_row_n _ _ (by omega), cp_rw_n (by omega)⟩) ?_
  refine cp_newr O (q := 12) (n := 24) (Or.inr (Or.inl ⟨rfl, rfl⟩)) cn_X1_27 O.2.2.2.2.2.1.2.2.2.2.2.1 rfl (by omega) (by rw [ea, cp_rw_s]) (by omega) dX1_init_25 ?_
  rw [ea]
  refine pf_X1_29 O hin (by rw [cp_sN_n (by omega), cp_sN_n (by omega)]; exact hs) dX1_init_28 ?_
  refine cp_iconst O dX1_init_31 (v := 0) rfl ?_
  refine cp_istore_n O dX1_init_32 (by decide) (cp_ls1 rfl) ?_
  have o1 : cp_old b sh I R (cp_sN (cp_sN sh (b + 1) (9, 4)) (b + 2) (12, 24)) (cp_row (cp_wi (cp_row I (b + 1) (fun j => if j < 4 then cp_sv 0 j else 0)) b 1 0) (b + 2) (fun _ => 0)) (cp_wr (cp_rw (cp_wr (cp_rw R (b + 1) (fun _ => none)) b 0 (some (b + 1))) (b + 2) (fun _ => none)) b 2 (some (b + 2))) := cp_old.wr (cp_old.nw (cp_old.wr (cp_old.wi (cp_old.nw cp_old.rf (by omega)) (Nat.le_refl _)) (Nat.le_refl _)) (by omega)) (Nat.le_refl _)
  have l0 := loop33 0 (Nat.zero_le _) _ _ _ (⟨o1, by rw [cp_sN_n (by omega), cp_sN_n (by omega)]; exact hs, by rw [cp_wr_j _ _ _ _ (fun z => absurd z.2 (by decide)), cp_rw_n (by omega), cp_wr_s], by rw [cp_sN_n (by omega), cp_sN_s], by rw [cp_wr_s], cp_sN_s, fun i hi => absurd hi (Nat.not_lt_zero _), by rw [cp_row_n _ _ (by omega), cp_wi_s], fun j hj => by rw [cp_row_n _ _ (by omega), cp_wi_a _ _ _ _ (by omega), cp_row_s]; exact if_pos hj⟩)
  exact cp_Gc (by omega) (by omega) l0

