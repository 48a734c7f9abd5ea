theorem cp_MA_0 : cp_MA cp_a0 cp_N0 := by
  refine ⟨fun k hk => ?_, rfl, rfl, ⟨fun i hi => absurd hi (Nat.not_lt_zero _), fun q hq => ?_⟩, Nat.zero_le _, rfl, fun j hj => absurd hj (Nat.not_lt_zero _), rfl⟩
  · unfold cp_a0
    rw [if_pos hk]
    rfl
  · have e : cp_LL (cp_tn cp_N0) (cp_tP cp_N0) (cp_tl cp_N0) q = [] := by
      unfold cp_LL
      split <;> rfl
    rw [e]
    refine ⟨?_, Nat.zero_le _, fun k hk => absurd hk (Nat.not_lt_zero _)⟩
    unfold cp_a0
    rw [if_neg (by omega)]
    rfl
set_option maxHeartbeats 4000000 in
set_option maxRecDepth 100000 in
theorem law_loop {x : cp_Cx} {E : cp_En} {bS LS c : Nat} {xs : Nat → Int32} (O : cp_Ok x E RL cL_law 4 13 600000 7302250) (hS0 : cp_scr x E bS LS xs)
    (fin : ∀ cnt sh I R L, cp_G x E 4 600000 7302250 cnt sh I R 652 L [.int 1]) : ∀ (k q : Nat), q + k = 513 → 5 * q ≤ 2560 → ∀ (cnt : Nat) (sh : cp_Shp) (I : cp_Mem) (R : cp_Rem) (X : cp_St), cp_INV E c cnt sh I R X → cp_G x E 4 (7578 + 36 * q) (7578 + 306 * q) cnt sh I R 18 [some (.ref bS), some (.ref c), some (.ref (c + 331)), some (.int (nI (5 * q)))] [] := by
  intro k
  induction k with
  | zero => intro q h1 h2; omega
  | succ k ih =>
    intro q h1 h2 cnt sh I R X hI
    refine cp_iload_n O dL_law_18 cp_lg3 ?_
    refine cp_aload_n O dL_law_19 cp_lg0 ?_
    refine cp_slen O hS0 dL_law_20 ?_
    refine cp_iconst O dL_law_21 (v := 5) rfl ?_
    refine cp_isub O dL_law_22 ?_
    refine cp_icmp_gt (tgt := 651) O dL_law_23 (by decide) (fun cc => ?_) (fun cc => ?_)
    · refine cp_iconst O dL_law_651 (v := 1) rfl ?_
      exact cp_Gc (by omega) (by omega) (fin _ _ _ _ _)
    · have hL25 := hS0.2.2.2
      have hj := cp_l5 hL25 (show 5 * q < 100000 by omega) cc
      refine cp_aload_n O dL_law_26 cp_lg0 ?_
      refine cp_iload_n O dL_law_27 cp_lg3 ?_
      refine cp_sld O hS0 (j := 5 * q) rfl (by omega) dL_law_28 ?_
      refine cp_bipush O dL_law_29 (v := 31) rfl ?_
      refine cp_iand O dL_law_31 ?_
      obtain ⟨X', hI', hE⟩ := cp_INV_E hI
      have nx : ∀ (cnt' : Nat) (sh' : cp_Shp) (I' : cp_Mem) (R' : cp_Rem) (X' : cp_St), cp_INV E c cnt' sh' I' R' X' → cp_G x E 4 (7578 + 36 * q + 36) (7578 + 306 * q + 306) cnt' sh' I' R' 645 [some (.ref bS), some (.ref c), some (.ref (c + 331)), some (.int (nI (5 * q)))] [] := fun cnt' sh' I' R' X' h => by
        refine cp_iinc O dL_law_645 (v := nI (5 * (q + 1))) cp_lg3 (cp_ad rfl rfl) (by decide) (cp_ls3 rfl) ?_
        refine cp_goto (tgt := 18) O dL_law_648 (by decide) ?_
        exact cp_Gc (by omega) (by omega) (ih (q + 1) (by omega) (by omega) _ _ _ _ _ h)
      exact sw_L_law_32 O (fun _ => law_0 O hS0 hj (by omega) (by omega) hI' hE nx) (fun _ => law_1 O hS0 hj (by omega) (by omega) hI' hE nx) (fun _ => law_2 O hS0 hj (by omega) (by omega) hI' hE nx) (fun _ => law_3 O hS0 hj (by omega) (by omega) hI' hE nx) (fun _ => law_4 O hS0 hj (by omega) (by omega) hI' hE nx) (fun _ => law_5 O hS0 hj (by omega) (by omega) hI' hE nx) (fun _ => law_6 O hS0 hj (by omega) (by omega) hI' hE nx) (fun _ => law_7 O hS0 hj (by omega) (by omega) hI' hE nx) (fun _ => law_8 O hS0 hj (by omega) (by omega) hI' hE nx) (fun _ => law_9 O hS0 hj (by omega) (by omega) hI' hE nx) (fun _ => law_10 O hS0 hj (by omega) (by omega) hI' hE nx) (fun _ => law_11 O hS0 hj (by omega) (by omega) hI' hE nx) (fun _ => law_12 O hS0 hj (by omega) (by omega) hI' hE nx) (fun _ => law_13 O hS0 hj (by omega) (by omega) hI' hE nx) (fun _ => law_14 O hS0 hj (by omega) (by omega) hI' hE nx) (fun _ => law_15 O hS0 hj (by omega) (by omega) hI' hE nx) (fun _ => law_16 O hS0 hj (by omega) (by omega) hI' hE nx) (fun _ => law_17 O hS0 hj (by omega) (by omega) hI' hE nx) (fun _ => law_18 O hS0 hj (by omega) (by omega) hI' hE nx) (fun _ => law_19 O hS0 hj (by omega) (by omega) hI' hE nx) (fun _ => law_20 O hS0 hj (by omega) (by omega) hI' hE nx) (fun _ => cp_Gc (by omega) (by omega) (nx _ _ _ _ _ hI'))
set_option maxHeartbeats 4000000 in
set_option maxRecDepth 100000 in
theorem law_all {x : cp_Cx} {E : cp_En} {bS LS : Nat} {xs : Nat → Int32} (O : cp_Ok x E RL cL_law 4 13 600000 7302250) (hS0 : cp_scr x E bS LS xs)
    (fin : ∀ cnt sh I R L, cp_G x E 4 600000 7302250 cnt sh I R 652 L [.int 1]) : cp_G x E 4 0 0 0 (fun _ => (0, 0)) (fun _ _ => 0) (fun _ _ => none) 0 [some (.ref bS), none, none, none] [] := by
  refine cp_new O cp_cX6 cn_L_7 ci_X6 cj_X6 cd_X6 rfl rfl ⟨by decide, by decide⟩ dL_law_0 ?_
  have e1 : cp_b0 E + 0 = cp_b0 E := rfl
  rw [e1]
  refine cp_dup O dL_law_3 rfl ?_
  refine cp_callI O me_X6_init rfl in_X6_init ml_L_9 (c_X6_init (c := cp_b0 E) (by omega) cp_sN_s) dL_law_4 rfl rfl ⟨by decide, by decide⟩ ⟨by decide, by decide⟩ (Nat.le_of_ble_eq_true rfl) (fun v c' s1 i1 r1 hp => ?_)
  obtain ⟨rfl, rfl, ho1, hP1, hn1, hN1, hh1, hh2, hp1⟩ := hp
  refine cp_astore_n O dL_law_7 (by decide) (cp_ls1 rfl) ?_
  have e2 : cp_b0 E + (0 + 1 + 330) = cp_b0 E + 331 := rfl
  refine cp_Gz (I' := cp_row i1 (cp_b0 E + 331) (fun _ => 0)) (R' := cp_rw r1 (cp_b0 E + 331) (fun _ => none)) (fun a ha => ⟨cp_row_n _ _ (by omega), cp_rw_n (by omega)⟩) ?_
  refine cp_new O cp_cX7 cn_L_10 ci_X7 cj_X7 cd_X7 (by rw [e2, cp_row_s]) (by rw [e2, cp_rw_s]) ⟨by decide, by decide⟩ dL_law_8 ?_
  rw [e2]
  refine cp_dup O dL_law_11 rfl ?_
  refine cp_callI O me_X7_init rfl in_X7_init ml_L_12 (c_X7_init (m := cp_b0 E + 331) (by omega) cp_sN_s (by rw [cp_row_s])) dL_law_12 rfl rfl ⟨by decide, by decide⟩ ⟨by decide, by decide⟩ (Nat.le_of_ble_eq_true rfl) (fun v c' s2 i2 r2 hp => ?_)
  obtain ⟨rfl, rfl, ho2, hM2, hf2, ha2, hz2⟩ := hp
  have oO : cp_old (cp_b0 E + 331) s1 i1 r1 s2 i2 r2 := cp_old.tr (cp_old.nw cp_old.rf (Nat.le_refl _)) ho2 (Nat.le_refl _)
  refine cp_astore_n O dL_law_15 (by decide) (cp_ls2 rfl) ?_
  refine cp_iconst O dL_law_16 (v := 0) rfl ?_
  refine cp_istore_n O dL_law_17 (by decide) (cp_ls3 rfl) ?_
  have hnone : ∀ s, r2 (cp_b0 E + 327) s = none := fun s => by rw [(oO _ (by omega)).2.2]; exact hn1 s
  refine cp_Gc (cells' := 7578 + 36 * 0) (slots' := 7578 + 306 * 0) (by decide) (by decide) (law_loop (c := cp_b0 E) O hS0 fin 513 0 rfl (by decide) _ _ _ _ (cp_N0, 0, fun _ => cp_N0, fun _ => none, fun _ => 0, 0) ⟨?_, ?_, ?_, hM2, ?_, ?_, ?_⟩)
  · exact cp_PL_e hP1 (fun y h1 h2 => ⟨(oO y (by omega)).1, fun _ => (oO y (by omega)).2.2⟩)
  · exact ⟨fun s a _ h => (by rw [hnone s] at h; cases h), fun a0 a1 h => (by rw [hnone 0] at h; cases h)⟩
  · intro s a _ h
    rw [hnone s] at h
    cases h
  · omega
  · refine ⟨cp_HN_e hN1 cp_N0_V (fun y h1 h2 => (oO y (by omega)).2.1), ⟨0, by decide, ?_, ?_, fun i hi => absurd hi (Nat.not_lt_zero _)⟩, fun s _ => hnone s, ?_, fun i hi => absurd hi (Nat.not_lt_zero _)⟩
    · rw [(oO _ (by omega)).2.1]; exact hh1
    · rw [(oO _ (by omega)).2.1]; exact hh2
    · rw [(oO _ (by omega)).2.1]; exact hp1
  · refine ⟨?_, cp_N0_V, ⟨?_, Nat.zero_le _, fun i hi => absurd hi (Nat.not_lt_zero _)⟩, fun s _ => ?_, ?_, Nat.zero_le _, fun i hi => absurd hi (Nat.not_lt_zero _)⟩
    · show cp_MA (i2 (cp_b0 E + 331 + 1)) cp_N0
      rw [ha2]
      exact cp_MA_0
    · rw [hf2]; rfl
    · show i2 (cp_b0 E + 331 + 6) s = 0
      rw [hz2 6 (by decide) (by decide)]
    · rw [hf2]; rfl
