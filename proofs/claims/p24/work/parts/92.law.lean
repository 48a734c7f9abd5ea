theorem cp_H1_0 {I : cp_Mem} {R : cp_Rem} {c : Nat} (hn : cp_nz R c) (hN : cp_HN I (c + 1) cp_N0) (h1 : I (c + 73) 1 = 0) (h2 : I (c + 73) 2 = 0) (h3 : I (c + 328) 1 = 0) : cp_H1 I R c cp_N0 :=
  ⟨(cp_N0, 0, fun _ => cp_N0, fun _ => none, fun _ => 0, 0), rfl, ⟨cp_N0_V, Nat.zero_le _, fun i hi => absurd hi (Nat.not_lt_zero _), fun s Z _ h => (by cases h), Nat.zero_le _, fun i hi => absurd hi (Nat.not_lt_zero _)⟩,
    hN, ⟨0, by decide, h1, h2, fun i hi => absurd hi (Nat.not_lt_zero _)⟩, fun s _ => hn s, h3, fun i hi => absurd hi (Nat.not_lt_zero _)⟩
set_option maxHeartbeats 4000000 in
set_option maxRecDepth 100000 in
theorem law_73 {x : cp_Cx} {E : cp_En} {co cq : Nat} (O : cp_Ok x E RL cL_law 5 9 628374 7217125) (fin : ∀ cnt sh I R L, cp_G x E 5 628374 7217125 cnt sh I R 97 L [.int 1]) (cells slots cnt : Nat) (sh : cp_Shp) (I : cp_Mem) (R : cp_Rem) (hc : cells + 2 ≤ 628374 ∧ slots + 12 ≤ 7217125) (h1 : co + 331 ≤ cp_b0 E + cnt) (h2 : cq + 331 ≤ cp_b0 E + cnt) (hS : cp_ST sh R I co cq) {L4 : Option Value} : cp_G x E 5 cells slots cnt sh I R 73 [some (.ref (cp_ts E 3)), some (.ref co), some (.ref cq), some (.int 1), L4] [] := by
  obtain ⟨hc1, hc2⟩ := hc
  have hs0 : sh co = (7, 0) := by
    obtain ⟨N, hW, -⟩ := hS
    exact hW.s
  refine cp_iload_n O dL_law_73 cp_lg3 ?_
  refine cp_if_eq (tgt := 96) O dL_law_74 (by decide) (fun c => absurd c (by decide)) (fun _ => ?_)
  refine cp_aload_n O dL_law_77 cp_lg1 ?_
  refine cp_callS O me_L_isWell ms_L_isWell ml_L_71 (c_L_isWell hS h1 h2) dL_law_78 rfl rfl ⟨Nat.le_of_ble_eq_true rfl, Nat.le_of_ble_eq_true rfl⟩ ⟨by omega, by omega⟩ (Nat.le_of_ble_eq_true rfl) (fun v c' s' i' r' hp => ?_)
  obtain ⟨rfl, rfl, hS'⟩ := hp
  refine cp_if_eq (tgt := 96) O dL_law_81 (by decide) (fun c => absurd c (by decide)) (fun _ => ?_)
  refine cp_aload_n O dL_law_84 cp_lg1 ?_
  refine cp_aload_n O dL_law_85 cp_lg2 ?_
  refine cp_cSir O me_L_areAlike ms_L_areAlike ml_L_75 (c_L_areAlike hS') dL_law_86 rfl rfl ⟨Nat.le_of_ble_eq_true rfl, Nat.le_of_ble_eq_true rfl⟩ ⟨by omega, by omega⟩ (Nat.le_of_ble_eq_true rfl) (fun I86 hT86 => ?_)
  refine cp_if_eq (tgt := 96) O dL_law_89 (by decide) (fun c => absurd c (by decide)) (fun _ => ?_)
  refine cp_iconst O dL_law_92 (v := 1) rfl ?_
  refine cp_goto (tgt := 97) O dL_law_93 (by decide) ?_
  exact cp_Gc hc1 hc2 (fin _ _ _ _ _)
set_option maxHeartbeats 4000000 in
set_option maxRecDepth 100000 in
theorem law_61 {x : cp_Cx} {E : cp_En} {co cq : Nat} (O : cp_Ok x E RL cL_law 5 9 628374 7217125) {cells slots cnt k : Nat} {sh : cp_Shp} {I : cp_Mem} {R : cp_Rem} (K : cp_G x E 5 cells slots cnt sh I R 21 [some (.ref (cp_ts E 3)), some (.ref co), some (.ref cq), some (.int 1), some (.int (nI (k + 1)))] []) : cp_G x E 5 cells slots cnt sh I R 61 [some (.ref (cp_ts E 3)), some (.ref co), some (.ref cq), some (.int 1), some (.int (nI k))] [] := by
  refine cp_iconst O dL_law_61 (v := 1) rfl ?_
  refine cp_goto (tgt := 66) O dL_law_62 (by decide) ?_
  refine cp_istore_n O dL_law_66 (by decide) (cp_ls3 rfl) ?_
  refine cp_iinc O dL_law_67 cp_lg4 (cp_inc rfl) (by decide) (cp_ls4 rfl) ?_
  refine cp_goto (tgt := 21) O dL_law_70 (by decide) ?_
  exact K
set_option maxHeartbeats 4000000 in
set_option maxRecDepth 100000 in
theorem law_loop {x : cp_Cx} {E : cp_En} {co cq : Nat} (O : cp_Ok x E RL cL_law 5 9 628374 7217125) (fin : ∀ cnt sh I R L, cp_G x E 5 628374 7217125 cnt sh I R 97 L [.int 1]) : ∀ k, k ≤ 56 → ∀ (cnt : Nat) (sh : cp_Shp) (I : cp_Mem) (R : cp_Rem), co + 331 ≤ cp_b0 E + cnt → cq + 331 ≤ cp_b0 E + cnt → cp_ST sh R I co cq → cp_G x E 5 (662 + 2 * k) (5722 + 12 * k) cnt sh I R 21 [some (.ref (cp_ts E 3)), some (.ref co), some (.ref cq), some (.int 1), some (.int (nI k))] [] := by
  refine cp_up (n := 56) (P := fun k => ∀ (cnt : Nat) (sh : cp_Shp) (I : cp_Mem) (R : cp_Rem), co + 331 ≤ cp_b0 E + cnt → cq + 331 ≤ cp_b0 E + cnt → cp_ST sh R I co cq → cp_G x E 5 (662 + 2 * k) (5722 + 12 * k) cnt sh I R 21 [some (.ref (cp_ts E 3)), some (.ref co), some (.ref cq), some (.int 1), some (.int (nI k))] []) (fun k hk ih cnt sh I R h1 h2 hS => ?_)
  refine cp_iload O dL_law_21 cp_lg4 ?_
  refine cp_bipush O dL_law_23 (v := 56) rfl ?_
  refine cp_icmp_geN (tgt := 73) O dL_law_25 (by decide) (a := k) (b := 56) rfl rfl (by omega) (by omega) (fun c_25 => ?_) (fun c_25 => ?_)
  · exact law_73 O fin _ _ _ _ _ _ ⟨by omega, by omega⟩ h1 h2 hS
  · refine cp_iload_n O dL_law_28 cp_lg3 ?_
    refine cp_if_eq (tgt := 73) O dL_law_29 (by decide) (fun c => absurd c (by decide)) (fun _ => ?_)
    refine cp_aload_n O dL_law_32 cp_lg1 ?_
    refine cp_aload_n O dL_law_33 cp_lg2 ?_
    refine cp_aload_n O dL_law_34 cp_lg0 ?_
    refine cp_iload O dL_law_35 cp_lg4 ?_
    refine cp_callS O me_L_cell ms_L_cell ml_L_63 (c_L_cell (k := k) (by omega)) dL_law_37 rfl rfl ⟨Nat.le_of_ble_eq_true rfl, Nat.le_of_ble_eq_true rfl⟩ ⟨by omega, by omega⟩ (Nat.le_of_ble_eq_true rfl) (fun v c' s' i' r' hp => ?_)
    obtain ⟨⟨w, rfl⟩, rfl, rfl, rfl, rfl⟩ := hp
    refine cp_cSir O me_L_isStep ms_L_isStep ml_L_67 (c_L_isStep (v1 := w) hS) dL_law_40 rfl rfl ⟨Nat.le_of_ble_eq_true rfl, Nat.le_of_ble_eq_true rfl⟩ ⟨by omega, by omega⟩ (Nat.le_of_ble_eq_true rfl) (fun I40 hT40 => ?_)
    refine cp_if_eq (tgt := 65) O dL_law_43 (by decide) (fun c => absurd c (by decide)) (fun _ => ?_)
    refine cp_iload O dL_law_46 cp_lg4 ?_
    refine cp_bipush O dL_law_48 (v := 6) rfl ?_
    refine cp_irem O (by decide) dL_law_50 ?_
    refine cp_if_gt (tgt := 61) O dL_law_51 (by decide) (fun c_51 => ?_) (fun c_51 => ?_)
    · exact law_61 O (cp_Gc (by omega) (by omega) (ih c_25 _ _ _ _ h1 h2 hT40))
    · refine cp_aload_n O dL_law_54 cp_lg1 ?_
      refine cp_callS O me_L_isWell ms_L_isWell ml_L_71 (c_L_isWell hT40 h1 h2) dL_law_55 rfl rfl ⟨Nat.le_of_ble_eq_true rfl, Nat.le_of_ble_eq_true rfl⟩ ⟨by omega, by omega⟩ (Nat.le_of_ble_eq_true rfl) (fun v c' s' i' r' hp => ?_)
      obtain ⟨rfl, rfl, hS'⟩ := hp
      refine cp_if_eq (tgt := 65) O dL_law_58 (by decide) (fun c => absurd c (by decide)) (fun _ => ?_)
      exact law_61 O (cp_Gc (by omega) (by omega) (ih c_25 _ _ _ _ (by omega) (by omega) hS'))
set_option maxHeartbeats 4000000 in
set_option maxRecDepth 100000 in
theorem law_all {x : cp_Cx} {E : cp_En} (O : cp_Ok x E RL cL_law 5 9 628374 7217125) (fin : ∀ cnt sh I R L, cp_G x E 5 628374 7217125 cnt sh I R 97 L [.int 1]) : cp_G x E 5 0 0 0 (fun _ => (0, 0)) (fun _ _ => 0) (fun _ _ => none) 0 [some (.ref (cp_ts E 3)), none, none, none, none] [] := by
  refine cp_new O cp_cX6 cn_L_10 ci_X6 cj_X6 cd_X6 rfl rfl ⟨by decide, by decide⟩ dL_law_0 ?_
  have e1 : cp_b0 E + 0 = cp_b0 E := rfl
  rw [e1]
  refine cp_dup O dL_law_3 rfl ?_
  refine cp_callI O me_X6_init rfl in_X6_init ml_L_62 (c_X6_init (c := cp_b0 E) (by omega) cp_sN_s) dL_law_4 rfl rfl ⟨Nat.le_of_ble_eq_true rfl, Nat.le_of_ble_eq_true rfl⟩ ⟨by decide, by decide⟩ (Nat.le_of_ble_eq_true rfl) (fun v c' s1 i1 r1 hp => ?_)
  obtain ⟨rfl, rfl, ho1, hP1, hn1, hN1, hh1, hh2, hp1⟩ := hp
  refine cp_astore_n O dL_law_7 (by decide) (cp_ls1 rfl) ?_
  have e2 : cp_b0 E + (0 + 1 + 330) = cp_b0 E + 331 := rfl
  refine cp_Gz (I' := cp_row i1 (cp_b0 E + 331) (fun _ => 0)) (R' := cp_rw r1 (cp_b0 E + 331) (fun _ => none)) (fun a ha => ⟨cp_row_n _ _ (by omega), cp_rw_n (by omega)⟩) ?_
  refine cp_new O cp_cX6 cn_L_10 ci_X6 cj_X6 cd_X6 (by rw [e2, cp_row_s]) (by rw [e2, cp_rw_s]) ⟨by decide, by decide⟩ dL_law_8 ?_
  rw [e2]
  refine cp_dup O dL_law_11 rfl ?_
  refine cp_callI O me_X6_init rfl in_X6_init ml_L_62 (c_X6_init (c := cp_b0 E + 331) (by omega) cp_sN_s) dL_law_12 rfl rfl ⟨Nat.le_of_ble_eq_true rfl, Nat.le_of_ble_eq_true rfl⟩ ⟨by decide, by decide⟩ (Nat.le_of_ble_eq_true rfl) (fun v c' s2 i2 r2 hp => ?_)
  obtain ⟨rfl, rfl, ho2, hP2, hn2, hN2, hk1, hk2, hp2⟩ := hp
  have oO : cp_old (cp_b0 E + 331) s1 i1 r1 s2 i2 r2 := cp_old.tr (cp_old.nw cp_old.rf (Nat.le_refl _)) ho2 (Nat.le_refl _)
  refine cp_astore_n O dL_law_15 (by decide) (cp_ls2 rfl) ?_
  refine cp_iconst O dL_law_16 (v := 1) rfl ?_
  refine cp_istore_n O dL_law_17 (by decide) (cp_ls3 rfl) ?_
  refine cp_iconst O dL_law_18 (v := 0) rfl ?_
  refine cp_istore O dL_law_19 (by decide) (cp_ls4 rfl) ?_
  have hz1 : cp_nz r1 (cp_b0 E) := hn1
  have hz2 : cp_nz r2 (cp_b0 E) := fun s => by rw [(oO _ (by omega)).2.2]; exact hn1 s
  refine law_loop O fin 0 (Nat.zero_le _) _ _ _ _ (by omega) (by omega) ⟨cp_N0, ⟨cp_PL_e hP1 (fun y h1 h2 => ⟨(oO y (by omega)).1, fun _ => (oO y (by omega)).2.2⟩), hP2, hz2, hn2, Or.inl (Nat.le_refl _), ?_, cp_H1_0 hn2 hN2 hk1 hk2 hp2⟩, cp_WF_0⟩
  exact cp_H1_e hz1 (cp_H1_0 hz1 hN1 hh1 hh2 hp1) (fun y h1 h2 => (oO y (by omega)).2.1) (oO _ (by omega)).2.2
