theorem cp_NL_e {b : Nat} {sh s1 : cp_Shp} {R r1 : cp_Rem} (h : cp_NL sh R b) (e : ∀ x, b ≤ x → x < b + 36 → s1 x = sh x ∧ r1 x = R x) : cp_NL s1 r1 b :=
  ⟨by rw [(e b (by omega) (by omega)).1]; exact h.s, by rw [(e b (by omega) (by omega)).2]; exact h.set, by rw [(e (b + 1) (by omega) (by omega)).1]; exact h.sset, by rw [(e b (by omega) (by omega)).2]; exact h.pcs, by rw [(e (b + 2) (by omega) (by omega)).1]; exact h.spcs,
   fun i hi => by rw [(e (b + 2) (by omega) (by omega)).2]; exact h.pc hi, fun i hi => by rw [(e (b + 3 + i) (by omega) (by omega)).1]; exact h.spc hi, by rw [(e b (by omega) (by omega)).2]; exact h.pls, by rw [(e (b + 27) (by omega) (by omega)).1]; exact h.spls,
   fun i hi => by rw [(e (b + 27) (by omega) (by omega)).2]; exact h.pl hi, fun i hi => by rw [(e (b + 28 + i) (by omega) (by omega)).1]; exact h.spl hi⟩
theorem cp_N0_V : cp_NV cp_N0 := ⟨⟨⟨4, by decide, by decide, rfl⟩, ⟨10, by decide, by decide, rfl⟩, ⟨60, by decide, by decide, rfl⟩, ⟨5, by decide, by decide, rfl⟩⟩, Nat.zero_le _, ⟨Nat.zero_le _, fun i hi => absurd hi (Nat.not_lt_zero _), List.nodup_nil, fun i => ⟨fun z => absurd z List.not_mem_nil, fun z => absurd z.1 (Nat.not_lt_zero _)⟩⟩, fun i hi => absurd hi (Nat.not_lt_zero _), fun i j _ hj => absurd hj (Nat.not_lt_zero _), fun j hj => absurd hj (Nat.not_lt_zero _)⟩
/-- a history that is being made -/
def cp_M3 (h0 : Nat) (sh : cp_Shp) (I : cp_Mem) (R : cp_Rem) (k : Nat) (s1 : cp_Shp) (i1 : cp_Mem) (r1 : cp_Rem) : Prop := cp_old h0 sh I R s1 i1 r1 ∧ s1 h0 = (1, 0) ∧ r1 h0 0 = some (h0 + 1) ∧ s1 (h0 + 1) = (11, 7) ∧ ∀ i, i < k → r1 (h0 + 1) i = some (h0 + 2 + 36 * i) ∧ cp_NL s1 r1 (h0 + 2 + 36 * i)
theorem cp_M3.st {h0 k : Nat} {sh s1 s2 : cp_Shp} {I i1 i2 : cp_Mem} {R r1 r2 : cp_Rem} (h : cp_M3 h0 sh I R k s1 i1 r1) (ho : cp_old (h0 + 2 + 36 * k) s1 i1 r1 s2 i2 r2) (hN : cp_NL s2 r2 (h0 + 2 + 36 * k)) : cp_M3 h0 sh I R (k + 1) s2 i2 (cp_wr r2 (h0 + 1) k (some (h0 + 2 + 36 * k))) := by
  obtain ⟨h1, h2, h3, h4, h5⟩ := h
  refine ⟨(cp_old.tr h1 ho (by omega)).wr (by omega), (ho h0 (by omega)).1.trans h2, by rw [cp_wr_a _ _ _ _ (by omega), (ho h0 (by omega)).2.2]; exact h3, (ho (h0 + 1) (by omega)).1.trans h4, fun i hi => ?_⟩
  by_cases e : i = k
  · subst e
    rw [cp_wr_s]
    exact ⟨rfl, cp_NL_e hN (fun x h1 h2 => ⟨rfl, cp_wr_a _ _ _ _ (by omega)⟩)⟩
  · rw [cp_wr_j _ _ _ _ (fun z => e z.2), (ho (h0 + 1) (by omega)).2.2]
    obtain ⟨g1, g2⟩ := h5 i (by omega)
    exact ⟨g1, cp_NL_e g2 (fun x h1 h2 => ⟨(ho x (by omega)).1, (cp_wr_a _ _ _ _ (by omega)).trans (ho x (by omega)).2.2⟩)⟩
set_option maxHeartbeats 4000000 in
set_option maxRecDepth 100000 in
theorem c_X0_init {lc : Launch} {E : cp_En} {cnt : Nat} {sh : cp_Shp} {I : cp_Mem} {R : cp_Rem} {h0 : Nat} (hb : h0 + 1 = cp_b0 E + cnt) (hs : sh h0 = (1, 0)) : cp_Ct lc E yX0_init cX0_init 2 none 3 253 2149 [.ref h0] cnt sh I R (fun v c' s' i' r' => v = none ∧ c' = cnt + 253 ∧ cp_old h0 sh I R s' i' r' ∧ cp_HL s' r' h0 ∧ i' h0 1 = 0 ∧ i' h0 2 = 0) := by
  refine cp_Ct_of (L0 := [some (.ref h0), none]) (by decide +kernel) (Nat.le_of_ble_eq_true rfl) rfl (fun x hxl O hin0 _ hr => ?_)
  subst hxl
  have hin := hin0 rfl
  have out : ∀ s1 i1 r1, cp_M3 h0 sh I R 7 s1 i1 r1 → cp_G x E 2 (1 + 36 * 7) (7 + 306 * 7) (cnt + (1 + 36 * 7)) s1 i1 r1 40 [some (.ref h0), some (.int (nI 7))] [] := fun s1 i1 r1 hM => by
    refine cp_aload_n O dX0_init_40 cp_lg0 ?_
    refine cp_iconst O dX0_init_41 (v := 0) rfl ?_
    refine fp_X0_18 O hM.2.1 dX0_init_42 ?_
    refine cp_aload_n O dX0_init_45 cp_lg0 ?_
    refine cp_iconst O dX0_init_46 (v := 0) rfl ?_
    refine fp_X0_22 O hM.2.1 dX0_init_47 ?_
    obtain ⟨h1, h2, h3, h4, h5⟩ := hM
    exact hr _ _ _ _ _ _ rfl dX0_init_50 ⟨rfl, rfl, (h1.wi (Nat.le_refl _)).wi (Nat.le_refl _), ⟨h2, h3, h4, fun i hi => (h5 i hi).1, fun i hi => (h5 i hi).2⟩, by rw [cp_wi_j _ _ _ _ (fun z => absurd z.2 (by decide)), cp_wi_s], cp_wi_s _ _ _ _⟩
  have loop : ∀ k, k ≤ 7 → ∀ s1 i1 r1, cp_M3 h0 sh I R k s1 i1 r1 → cp_G x E 2 (1 + 36 * k) (7 + 306 * k) (cnt + (1 + 36 * k)) s1 i1 r1 15 [some (.ref h0), some (.int (nI k))] [] := by
    refine cp_up (n := 7) (P := fun k => ∀ s1 i1 r1, cp_M3 h0 sh I R k s1 i1 r1 → cp_G x E 2 (1 + 36 * k) (7 + 306 * k) (cnt + (1 + 36 * k)) s1 i1 r1 15 [some (.ref h0), some (.int (nI k))] []) (fun k hk ih s1 i1 r1 hM => ?_)
    refine cp_iload_n O dX0_init_15 cp_lg1 ?_
    refine cp_bipush O dX0_init_16 (v := 6) rfl ?_
    refine cp_icmp_gtN (tgt := 40) O dX0_init_18 (by decide) (a := k) (b := 6) rfl rfl (by omega) (by omega) (fun c_x => ?_) (fun c_x => ?_)
    · have hk0 : k = 7 := by omega
      subst hk0
      exact out s1 i1 r1 hM
    · refine cp_aload_n O dX0_init_21 cp_lg0 ?_
      refine fg_X0_11 O hM.2.1 hM.2.2.1 dX0_init_22 ?_
      refine cp_iload_n O dX0_init_25 cp_lg1 ?_
      have ea : cp_b0 E + (cnt + (1 + 36 * k)) = h0 + 2 + 36 * k := by omega
      refine cp_Gz (I' := cp_row i1 (h0 + 2 + 36 * k) (fun _ => 0)) (R' := cp_rw r1 (h0 + 2 + 36 * k) (fun _ => none)) (fun a ha => ⟨cp_row_n _ _ (by omega), cp_rw_n (by omega)⟩) ?_
      refine cp_new O cp_cX1 cn_X0_9 ci_X1 cj_X1 cd_X1 (by rw [ea, cp_row_s]) (by rw [ea, cp_rw_s]) (by omega) dX0_init_26 ?_
      rw [ea]
      refine cp_dup O dX0_init_29 rfl ?_
      refine cp_callI O me_X1_init rfl in_X1_init ml_X0_17 (c_X1_init (b := h0 + 2 + 36 * k) (by omega) cp_sN_s) dX0_init_30 rfl rfl ⟨by decide, by decide⟩ (by omega) (Nat.le_of_ble_eq_true rfl) (fun v c' s' i' r' hp => ?_)
      obtain ⟨rfl, rfl, ho, hNL, hHN⟩ := hp
      have ho2 : cp_old (h0 + 2 + 36 * k) s1 i1 r1 s' i' r' := cp_old.tr (cp_old.nw cp_old.rf (Nat.le_refl _)) ho (Nat.le_refl _)
      refine cp_aast O (q := 11) (n := 7) (j := k) (Or.inl ⟨rfl, rfl⟩) cp_cX1 ((ho2 (h0 + 1) (by omega)).1.trans hM.2.2.2.1) hNL.s rfl (by omega) (by omega) dX0_init_33 ?_
      refine cp_iinc O dX0_init_34 cp_lg1 (cp_inc rfl) (by decide) (cp_ls1 rfl) ?_
      refine cp_goto (tgt := 15) O dX0_init_37 (by decide) ?_
      have ih := ih (by omega) _ _ _ (hM.st ho2 hNL)
      rw [show cnt + (1 + 36 * (k + 1)) = cnt + (1 + 36 * k) + 1 + 35 by omega] at ih
      exact cp_Gc (by omega) (by omega) ih
  refine cp_aload_n O dX0_init_0 cp_lg0 ?_
  refine cp_oinit O (by decide) ol_X0_3 (Nat.le_of_ble_eq_true rfl) dX0_init_1 ?_
  refine cp_aload_n O dX0_init_4 cp_lg0 ?_
  refine cp_bipush O dX0_init_5 (v := 7) rfl ?_
  refine cp_Gz (I' := cp_row I (h0 + 1) (fun _ => 0)) (R' := cp_rw R (h0 + 1) (fun _ => none)) (fun a ha => ⟨cp_row_n _ _ (by omega), cp_rw_n (by omega)⟩) ?_
  refine cp_newr O (q := 11) (n := 7) (Or.inl ⟨rfl, rfl⟩) cn_X0_9 O.2.2.2.2.2.1.2.2.2.2.1 rfl (by omega) (by rw [← hb, cp_rw_s]) (by omega) dX0_init_7 ?_
  rw [← hb]
  refine pf_X0_11 O hin (by rw [cp_sN_n (by omega)]; exact hs) dX0_init_10 ?_
  refine cp_iconst O dX0_init_13 (v := 0) rfl ?_
  refine cp_istore_n O dX0_init_14 (by decide) (cp_ls1 rfl) ?_
  have l0 := loop 0 (Nat.zero_le _) _ _ _ (⟨(cp_old.nw cp_old.rf (by omega)).wr (Nat.le_refl _), by rw [cp_sN_n (by omega)]; exact hs, by rw [cp_wr_s], cp_sN_s, fun i hi => absurd hi (Nat.not_lt_zero _)⟩ : cp_M3 h0 sh I R 0 (cp_sN sh (h0 + 1) (11, 7)) (cp_row I (h0 + 1) (fun _ => 0)) (cp_wr (cp_rw R (h0 + 1) (fun _ => none)) h0 0 (some (h0 + 1))))
  exact cp_Gc (by omega) (by omega) l0
set_option maxHeartbeats 4000000 in
set_option maxRecDepth 100000 in
theorem c_X3_init {lc : Launch} {E : cp_En} {cnt : Nat} {sh : cp_Shp} {I : cp_Mem} {R : cp_Rem} {d0 : Nat} (hb : d0 + 1 = cp_b0 E + cnt) (hs : sh d0 = (4, 0)) : cp_Ct lc E yX3_init cX3_init 1 none 1 1 80 [.ref d0] cnt sh I R (fun v c' s' i' r' => v = none ∧ c' = cnt + 1 ∧ cp_old d0 sh I R s' i' r' ∧ cp_DL s' r' d0 ∧ i' d0 1 = 0) := by
  refine cp_Ct_of (L0 := [some (.ref d0)]) (by decide +kernel) (Nat.le_of_ble_eq_true rfl) rfl (fun x hxl O hin0 _ hr => ?_)
  subst hxl
  have hin := hin0 rfl
  refine cp_aload_n O dX3_init_0 cp_lg0 ?_
  refine cp_oinit O (by decide) ol_X3_3 (Nat.le_of_ble_eq_true rfl) dX3_init_1 ?_
  refine cp_aload_n O dX3_init_4 cp_lg0 ?_
  refine cp_bipush O dX3_init_5 (v := 80) rfl ?_
  refine cp_Gz (I' := cp_row I (d0 + 1) (fun _ => 0)) (R' := cp_rw R (d0 + 1) (fun _ => none)) (fun a ha => ⟨cp_row_n _ _ (by omega), cp_rw_n (by omega)⟩) ?_
  refine cp_newc O (n := 80) cp_ac_10 rfl (by omega) (by rw [← hb, cp_row_s]) (by omega) dX3_init_7 ?_
  rw [← hb]
  refine pf_X3_9 O hin (by rw [cp_sN_n (by omega)]; exact hs) dX3_init_9 ?_
  refine cp_aload_n O dX3_init_12 cp_lg0 ?_
  refine cp_iconst O dX3_init_13 (v := 0) rfl ?_
  refine fp_X3_15 O (by rw [cp_sN_n (by omega)]; exact hs) dX3_init_14 ?_
  exact cp_Gc (by omega) (by omega) (hr _ _ _ _ _ _ rfl dX3_init_17 ⟨rfl, rfl, ((cp_old.nw cp_old.rf (by omega)).wr (Nat.le_refl _)).wi (Nat.le_refl _), ⟨by rw [cp_sN_n (by omega)]; exact hs, by rw [cp_wr_s], cp_sN_s⟩, cp_wi_s _ _ _ _⟩)
set_option maxHeartbeats 4000000 in
set_option maxRecDepth 100000 in
theorem c_X2_init {lc : Launch} {E : cp_En} {cnt : Nat} {sh : cp_Shp} {I : cp_Mem} {R : cp_Rem} {r0 d0 : Nat} (hs : sh r0 = (3, 0)) : cp_Ct lc E yX2_init cX2_init 2 none 1 0 0 [.ref r0, .ref d0] cnt sh I R (fun v c' s' i' r' => v = none ∧ c' = cnt ∧ s' = sh ∧ i' = I ∧ r' = cp_wr R r0 0 (some d0)) := by
  refine cp_Ct_of (L0 := [some (.ref r0), some (.ref d0)]) (by decide +kernel) (Nat.le_of_ble_eq_true rfl) rfl (fun x hxl O hin0 _ hr => ?_)
  subst hxl
  have hin := hin0 rfl
  refine cp_aload_n O dX2_init_0 cp_lg0 ?_
  refine cp_oinit O (by decide) ol_X2_3 (Nat.le_of_ble_eq_true rfl) dX2_init_1 ?_
  refine cp_aload_n O dX2_init_4 cp_lg0 ?_
  refine cp_aload_n O dX2_init_5 cp_lg1 ?_
  refine pf_X2_9 O hin hs dX2_init_6 ?_
  exact hr _ _ _ _ _ _ rfl dX2_init_9 ⟨rfl, rfl, rfl, rfl, rfl⟩
set_option maxHeartbeats 4000000 in
set_option maxRecDepth 100000 in
theorem c_X6_init {lc : Launch} {E : cp_En} {cnt : Nat} {sh : cp_Shp} {I : cp_Mem} {R : cp_Rem} {c : Nat} (hb : c + 1 = cp_b0 E + cnt) (hs : sh c = (7, 0)) : cp_Ct lc E yX6_init cX6_init 1 none 4 330 2855 [.ref c] cnt sh I R (fun v c' s' i' r' => v = none ∧ c' = cnt + 330 ∧ cp_old c sh I R s' i' r' ∧ cp_PL s' r' c ∧ (∀ j, r' (c + 327) j = none) ∧ cp_HN i' (c + 1) cp_N0 ∧ i' (c + 73) 1 = 0 ∧ i' (c + 73) 2 = 0 ∧ i' (c + 328) 1 = 0) := by
  refine cp_Ct_of (L0 := [some (.ref c)]) (by decide +kernel) (Nat.le_of_ble_eq_true rfl) rfl (fun x hxl O hin0 _ hr => ?_)
  subst hxl
  have hin := hin0 rfl
  refine cp_aload_n O dX6_init_0 cp_lg0 ?_
  refine cp_oinit O (by decide) ol_X6_1 (Nat.le_of_ble_eq_true rfl) dX6_init_1 ?_
  refine cp_aload_n O dX6_init_4 cp_lg0 ?_
  refine cp_Gz (I' := cp_row I (c + 1) (fun _ => 0)) (R' := cp_rw R (c + 1) (fun _ => none)) (fun a ha => ⟨cp_row_n _ _ (by omega), cp_rw_n (by omega)⟩) ?_
  refine cp_new O cp_cX1 cn_X6_7 ci_X1 cj_X1 cd_X1 (by rw [← hb, cp_row_s]) (by rw [← hb, cp_rw_s]) (by omega) dX6_init_5 ?_
  rw [← hb]
  refine cp_dup O dX6_init_8 rfl ?_
  refine cp_callI O me_X1_init rfl in_X1_init ml_X6_9 (c_X1_init (b := c + 1) (by omega) cp_sN_s) dX6_init_9 rfl rfl ⟨by decide, by decide⟩ (by omega) (Nat.le_of_ble_eq_true rfl) (fun v c' s1 i1 r1 hp => ?_)
  obtain ⟨rfl, rfl, ho1, hN1, hH1⟩ := hp
  have oA : cp_old (c + 1) sh I R s1 i1 r1 := cp_old.tr (cp_old.nw cp_old.rf (Nat.le_refl _)) ho1 (Nat.le_refl _)
  have sA : s1 c = (7, 0) := (oA c (by omega)).1.trans hs
  refine pf_X6_10 O hin sA dX6_init_12 ?_
  refine cp_aload_n O dX6_init_15 cp_lg0 ?_
  have e2 : cp_b0 E + (cnt + 1 + 35) = c + 37 := by omega
  refine cp_Gz (I' := cp_row i1 (c + 37) (fun _ => 0)) (R' := cp_rw (cp_wr r1 c 0 (some (c + 1))) (c + 37) (fun _ => none)) (fun a ha => ⟨cp_row_n _ _ (by omega), cp_rw_n (by omega)⟩) ?_
  refine cp_new O cp_cX1 cn_X6_7 ci_X1 cj_X1 cd_X1 (by rw [e2, cp_row_s]) (by rw [e2, cp_rw_s]) (by omega) dX6_init_16 ?_
  rw [e2]
  refine cp_dup O dX6_init_19 rfl ?_
  refine cp_callI O me_X1_init rfl in_X1_init ml_X6_9 (c_X1_init (b := c + 37) (by omega) cp_sN_s) dX6_init_20 rfl rfl ⟨by decide, by decide⟩ (by omega) (Nat.le_of_ble_eq_true rfl) (fun v c' s2 i2 r2 hp => ?_)
  obtain ⟨rfl, rfl, ho2, hN2, hH2⟩ := hp
  have oB : cp_old (c + 37) s1 i1 (cp_wr r1 c 0 (some (c + 1))) s2 i2 r2 := cp_old.tr (cp_old.nw cp_old.rf (Nat.le_refl _)) ho2 (Nat.le_refl _)
  have sB : s2 c = (7, 0) := (oB c (by omega)).1.trans sA
  refine pf_X6_16 O hin sB dX6_init_23 ?_
  refine cp_aload_n O dX6_init_26 cp_lg0 ?_
  have e3 : cp_b0 E + (cnt + 1 + 35 + 1 + 35) = c + 73 := by omega
  refine cp_Gz (I' := cp_row i2 (c + 73) (fun _ => 0)) (R' := cp_rw (cp_wr r2 c 1 (some (c + 37))) (c + 73) (fun _ => none)) (fun a ha => ⟨cp_row_n _ _ (by omega), cp_rw_n (by omega)⟩) ?_
  refine cp_new O cp_cX0 cn_X6_19 ci_X0 cj_X0 cd_X0 (by rw [e3, cp_row_s]) (by rw [e3, cp_rw_s]) (by omega) dX6_init_27 ?_
  rw [e3]
  refine cp_dup O dX6_init_30 rfl ?_
  refine cp_callI O me_X0_init rfl in_X0_init ml_X6_21 (c_X0_init (h0 := c + 73) (by omega) cp_sN_s) dX6_init_31 rfl rfl ⟨by decide, by decide⟩ (by omega) (Nat.le_of_ble_eq_true rfl) (fun v c' s3 i3 r3 hp => ?_)
  obtain ⟨rfl, rfl, ho3, hH3, hn3, hc3⟩ := hp
  have oC : cp_old (c + 73) s2 i2 (cp_wr r2 c 1 (some (c + 37))) s3 i3 r3 := cp_old.tr (cp_old.nw cp_old.rf (Nat.le_refl _)) ho3 (Nat.le_refl _)
  have sC : s3 c = (7, 0) := (oC c (by omega)).1.trans sB
  refine pf_X6_22 O hin sC dX6_init_34 ?_
  refine cp_aload_n O dX6_init_37 cp_lg0 ?_
  refine cp_iconst O dX6_init_38 (v := 2) rfl ?_
  have e4 : cp_b0 E + (cnt + 1 + 35 + 1 + 35 + 1 + 253) = c + 327 := by omega
  refine cp_Gz (I' := cp_row i3 (c + 327) (fun _ => 0)) (R' := cp_rw (cp_wr r3 c 2 (some (c + 73))) (c + 327) (fun _ => none)) (fun a ha => ⟨cp_row_n _ _ (by omega), cp_rw_n (by omega)⟩) ?_
  refine cp_newr O (q := 11) (n := 2) (Or.inl ⟨rfl, rfl⟩) cn_X6_7 O.2.2.2.2.2.1.2.2.2.2.1 rfl (by omega) (by rw [e4, cp_rw_s]) (by omega) dX6_init_39 ?_
  rw [e4]
  refine pf_X6_26 O hin (by rw [cp_sN_n (by omega)]; exact sC) dX6_init_42 ?_
  refine cp_aload_n O dX6_init_45 cp_lg0 ?_
  have e5 : cp_b0 E + (cnt + 1 + 35 + 1 + 35 + 1 + 253 + 1) = c + 328 := by omega
  generalize hsD : cp_sN s3 (c + 327) (11, 2) = sD
  generalize hiD : cp_row i3 (c + 327) (fun _ => 0) = iD
  generalize hrD : cp_wr (cp_rw (cp_wr r3 c 2 (some (c + 73))) (c + 327) (fun _ => none)) c 3 (some (c + 327)) = rD
  refine cp_Gz (I' := cp_row iD (c + 328) (fun _ => 0)) (R' := cp_rw rD (c + 328) (fun _ => none)) (fun a ha => ⟨cp_row_n _ _ (by omega), cp_rw_n (by omega)⟩) ?_
  refine cp_new O cp_cX3 cn_X6_30 ci_X3 cj_X3 cd_X3 (by rw [e5, cp_row_s]) (by rw [e5, cp_rw_s]) (by omega) dX6_init_46 ?_
  rw [e5]
  refine cp_dup O dX6_init_49 rfl ?_
  refine cp_callI O me_X3_init rfl in_X3_init ml_X6_32 (c_X3_init (d0 := c + 328) (by omega) cp_sN_s) dX6_init_50 rfl rfl ⟨by decide, by decide⟩ (by omega) (Nat.le_of_ble_eq_true rfl) (fun v c' s5 i5 r5 hp => ?_)
  obtain ⟨rfl, rfl, ho5, hD5, hl5⟩ := hp
  have oE : cp_old (c + 328) sD iD rD s5 i5 r5 := cp_old.tr (cp_old.nw cp_old.rf (Nat.le_refl _)) ho5 (Nat.le_refl _)
  have sE : s5 c = (7, 0) := (oE c (by omega)).1.trans (by rw [← hsD, cp_sN_n (by omega)]; exact sC)
  refine pf_X6_33 O hin sE dX6_init_53 ?_
  refine cp_aload_n O dX6_init_56 cp_lg0 ?_
  have e6 : cp_b0 E + (cnt + 1 + 35 + 1 + 35 + 1 + 253 + 1 + 1 + 1) = c + 330 := by omega
  refine cp_Gz (I' := cp_row i5 (c + 330) (fun _ => 0)) (R' := cp_rw (cp_wr r5 c 4 (some (c + 328))) (c + 330) (fun _ => none)) (fun a ha => ⟨cp_row_n _ _ (by omega), cp_rw_n (by omega)⟩) ?_
  refine cp_new O cp_cX2 cn_X6_37 ci_X2 cj_X2 cd_X2 (by rw [e6, cp_row_s]) (by rw [e6, cp_rw_s]) (by omega) dX6_init_57 ?_
  rw [e6]
  refine cp_dup O dX6_init_60 rfl ?_
  refine cp_aload_n O dX6_init_61 cp_lg0 ?_
  refine fg_X6_33 O (by rw [cp_sN_n (by omega)]; exact sE) (by rw [cp_rw_n (by omega), cp_wr_s]) dX6_init_62 ?_
  refine cp_callI O (As := [.ref (c + 328)]) me_X2_init rfl in_X2_init ml_X6_39 (c_X2_init (r0 := c + 330) (d0 := c + 328) cp_sN_s) dX6_init_65 rfl rfl ⟨by decide, by decide⟩ (by omega) (Nat.le_of_ble_eq_true rfl) (fun v c' s6 i6 r6 hp => ?_)
  obtain ⟨rfl, rfl, rfl, rfl, rfl⟩ := hp
  refine pf_X6_42 O hin (by rw [cp_sN_n (by omega)]; exact sE) dX6_init_68 ?_
  refine cp_Gc (by omega) (by omega) (hr _ _ _ _ _ _ rfl dX6_init_71 ⟨rfl, by omega, ?_, ?_, ?_, ?_, ?_, ?_, ?_⟩)
  · intro q hq
    obtain ⟨a1, a2, a3⟩ := oA q (by omega)
    obtain ⟨b1, b2, b3⟩ := oB q (by omega)
    obtain ⟨g1, g2, g3⟩ := oC q (by omega)
    obtain ⟨k1, k2, k3⟩ := oE q (by omega)
    subst hsD hiD hrD
    rw [cp_wr_a _ _ _ _ (by omega)] at b3 g3
    rw [cp_wr_a _ _ _ _ (by omega), cp_rw_n (by omega), cp_wr_a _ _ _ _ (by omega)] at k3
    rw [cp_sN_n (by omega)] at k1
    rw [cp_row_n _ _ (by omega)] at k2
    rw [cp_sN_n (by omega), cp_row_n _ _ (by omega), cp_wr_a _ _ _ _ (by omega), cp_wr_a _ _ _ _ (by omega), cp_rw_n (by omega), cp_wr_a _ _ _ _ (by omega)]
    exact ⟨k1.trans (g1.trans (b1.trans a1)), k2.trans (g2.trans (b2.trans a2)), k3.trans (g3.trans (b3.trans a3))⟩
  · have fr : ∀ q, q ≠ c → q ≠ c + 330 → cp_wr (cp_wr (cp_rw (cp_wr r5 c 4 (some (c + 328))) (c + 330) (fun _ => none)) (c + 330) 0 (some (c + 328))) c 5 (some (c + 330)) q = r5 q := fun q h1 h2 => by
      rw [cp_wr_a _ _ _ _ h1, cp_wr_a _ _ _ _ h2, cp_rw_n h2, cp_wr_a _ _ _ _ h1]
    have fs : ∀ q, q ≠ c + 330 → cp_sN s5 (c + 330) (3, 0) q = s5 q := fun q h => cp_sN_n h
    have E3 : ∀ q, q < c + 327 → q ≠ c → s5 q = s3 q ∧ r5 q = r3 q := fun q h1 h2 => by
      obtain ⟨k1, k2, k3⟩ := oE q (by omega)
      subst hsD hrD
      rw [cp_sN_n (by omega)] at k1
      rw [cp_wr_a _ _ _ _ h2, cp_rw_n (by omega), cp_wr_a _ _ _ _ h2] at k3
      exact ⟨k1, k3⟩
    have E2 : ∀ q, q < c + 73 → q ≠ c → s5 q = s2 q ∧ r5 q = r2 q := fun q h1 h2 => by
      obtain ⟨k1, k3⟩ := E3 q (by omega) h2
      obtain ⟨g1, g2, g3⟩ := oC q (by omega)
      rw [cp_wr_a _ _ _ _ h2] at g3
      exact ⟨k1.trans g1, k3.trans g3⟩
    have E1 : ∀ q, q < c + 37 → q ≠ c → s5 q = s1 q ∧ r5 q = r1 q := fun q h1 h2 => by
      obtain ⟨k1, k3⟩ := E2 q (by omega) h2
      obtain ⟨g1, g2, g3⟩ := oB q (by omega)
      rw [cp_wr_a _ _ _ _ h2] at g3
      exact ⟨k1.trans g1, k3.trans g3⟩
    have rc : ∀ j, r5 c j = rD c j := fun j => by rw [(oE c (by omega)).2.2]
    have rc3 : ∀ j, j ≠ 3 → j ≠ 2 → r5 c j = r3 c j := fun j h3 h2 => by
      rw [rc j, ← hrD, cp_wr_j _ _ _ _ (fun z => h3 z.2), cp_rw_n (by omega), cp_wr_j _ _ _ _ (fun z => h2 z.2)]
    have rc2 : ∀ j, j ≠ 1 → r3 c j = r2 c j := fun j h => by rw [(oC c (by omega)).2.2, cp_wr_j _ _ _ _ (fun z => h z.2)]
    have rc1 : ∀ j, j ≠ 0 → r2 c j = r1 c j := fun j h => by rw [(oB c (by omega)).2.2, cp_wr_j _ _ _ _ (fun z => h z.2)]
    have f0 : r5 c 0 = some (c + 1) := by rw [rc3 0 (by decide) (by decide), rc2 0 (by decide), (oB c (by omega)).2.2, cp_wr_s]
    have f1 : r5 c 1 = some (c + 37) := by rw [rc3 1 (by decide) (by decide), (oC c (by omega)).2.2, cp_wr_s]
    have f2 : r5 c 2 = some (c + 73) := by rw [rc 2, ← hrD, cp_wr_j _ _ _ _ (fun z => absurd z.2 (by decide)), cp_rw_n (by omega), cp_wr_s]
    have f3 : r5 c 3 = some (c + 327) := by rw [rc 3, ← hrD, cp_wr_s]
    have cf : ∀ j, j ≠ 5 → j ≠ 4 → cp_wr (cp_wr (cp_rw (cp_wr r5 c 4 (some (c + 328))) (c + 330) (fun _ => none)) (c + 330) 0 (some (c + 328))) c 5 (some (c + 330)) c j = r5 c j := fun j h5 h4 => by
      rw [cp_wr_j _ _ _ _ (fun z => h5 z.2), cp_wr_a _ _ _ _ (by omega), cp_rw_n (by omega), cp_wr_j _ _ _ _ (fun z => h4 z.2)]
    have hNn : cp_NL (cp_sN s5 (c + 330) (3, 0)) (cp_wr (cp_wr (cp_rw (cp_wr r5 c 4 (some (c + 328))) (c + 330) (fun _ => none)) (c + 330) 0 (some (c + 328))) c 5 (some (c + 330))) (c + 1) := cp_NL_e hN1 (fun q h1 h2 => ⟨(fs q (by omega)).trans (E1 q (by omega) (by omega)).1, (fr q (by omega) (by omega)).trans (E1 q (by omega) (by omega)).2⟩)
    have hNa : cp_NL (cp_sN s5 (c + 330) (3, 0)) (cp_wr (cp_wr (cp_rw (cp_wr r5 c 4 (some (c + 328))) (c + 330) (fun _ => none)) (c + 330) 0 (some (c + 328))) c 5 (some (c + 330))) (c + 37) := cp_NL_e hN2 (fun q h1 h2 => ⟨(fs q (by omega)).trans (E2 q (by omega) (by omega)).1, (fr q (by omega) (by omega)).trans (E2 q (by omega) (by omega)).2⟩)
    have hHh : cp_HL (cp_sN s5 (c + 330) (3, 0)) (cp_wr (cp_wr (cp_rw (cp_wr r5 c 4 (some (c + 328))) (c + 330) (fun _ => none)) (c + 330) 0 (some (c + 328))) c 5 (some (c + 330))) (c + 73) :=
      ⟨by rw [fs _ (by omega), (E3 _ (by omega) (by omega)).1]; exact hH3.s, by rw [fr _ (by omega) (by omega), (E3 _ (by omega) (by omega)).2]; exact hH3.sts, by rw [fs _ (by omega), (E3 _ (by omega) (by omega)).1]; exact hH3.ssts,
       fun i hi => by rw [fr _ (by omega) (by omega), (E3 _ (by omega) (by omega)).2]; exact hH3.st hi,
       fun i hi => cp_NL_e (hH3.nt hi) (fun q h1 h2 => ⟨(fs q (by omega)).trans (E3 q (by omega) (by omega)).1, (fr q (by omega) (by omega)).trans (E3 q (by omega) (by omega)).2⟩)⟩
    have hDd : cp_DL (cp_sN s5 (c + 330) (3, 0)) (cp_wr (cp_wr (cp_rw (cp_wr r5 c 4 (some (c + 328))) (c + 330) (fun _ => none)) (c + 330) 0 (some (c + 328))) c 5 (some (c + 330))) (c + 328) :=
      ⟨by rw [fs _ (by omega)]; exact hD5.s, by rw [fr _ (by omega) (by omega)]; exact hD5.chs, by rw [fs _ (by omega)]; exact hD5.schs⟩
    refine ⟨by rw [fs _ (by omega)]; exact sE, by rw [cf 0 (by decide) (by decide)]; exact f0, by rw [cf 1 (by decide) (by decide)]; exact f1, by rw [cf 2 (by decide) (by decide)]; exact f2, by rw [cf 3 (by decide) (by decide)]; exact f3, ?_, cp_wr_s _ _ _ _, hNn, hNa, hHh, ?_, hDd, ⟨cp_sN_s, ?_, hDd⟩⟩
    · rw [cp_wr_j _ _ _ _ (fun z => absurd z.2 (by decide)), cp_wr_a _ _ _ _ (by omega), cp_rw_n (by omega), cp_wr_s]
    · rw [fs _ (by omega), (oE (c + 327) (by omega)).1, ← hsD, cp_sN_s]
    · rw [cp_wr_a _ _ _ _ (by omega), cp_wr_s]
  · intro j
    rw [cp_wr_a _ _ _ _ (by omega), cp_wr_a _ _ _ _ (by omega), cp_rw_n (by omega), cp_wr_a _ _ _ _ (by omega), (oE (c + 327) (by omega)).2.2, ← hrD, cp_wr_a _ _ _ _ (by omega), cp_rw_s]
  · refine cp_HN_e hH1 cp_N0_V (fun q h1 h2 => ?_)
    rw [cp_row_n _ _ (by omega), (oE q (by omega)).2.1, ← hiD, cp_row_n _ _ (by omega), (oC q (by omega)).2.1, (oB q (by omega)).2.1]
  · rw [cp_row_n _ _ (by omega), (oE _ (by omega)).2.1, ← hiD, cp_row_n _ _ (by omega)]
    exact hn3
  · rw [cp_row_n _ _ (by omega), (oE _ (by omega)).2.1, ← hiD, cp_row_n _ _ (by omega)]
    exact hc3
  · rw [cp_row_n _ _ (by omega)]
    exact hl5

