set_option maxHeartbeats 4000000 in
set_option maxRecDepth 100000 in
theorem c_X7_takes {lc : Launch} {E : cp_En} {cnt : Nat} {sh : cp_Shp} {R : cp_Rem} {J : cp_Mem} {m : Nat} {f : Nat → Int32} {r : Nat → Nat → Int32} {a : Nat → Int32} (M : cp_ML sh R m) {n : Nat} {P : cp_PP} (hn24 : n ≤ 24) (hp : ∀ i, i < n → ∀ f, f < 9 → a (158 + 9 * i + f) = P i f) (hN : cp_PN n P) (h5 : a 5 = nI n) {v1 : Int32} : cp_Fn lc E yX7_takes cX7_takes 4 none 3 [.ref m, .int v1] cnt sh (cp_ma J m f r a) R none (cp_ma J m (cp_tf f (cp_tk P v1 (cp_so n P))) r a) := by
  have hle := cp_so_le n P
  refine cp_Fn_v [some (.ref m), some (.int v1), none, none] (by decide +kernel) (Nat.le_of_ble_eq_true rfl) rfl (fun x hxl O hr => ?_)
  subst hxl
  refine cp_aload_n O dX7_takes_0 cp_lg0 ?_
  refine cp_iconst O dX7_takes_1 (v := 0) rfl ?_
  refine mp_X7_76 O M dX7_takes_2 ?_
  refine cp_aload_n O dX7_takes_5 cp_lg0 ?_
  refine cp_iconst O dX7_takes_6 (v := 0) rfl ?_
  refine mp_X7_79 O M dX7_takes_7 ?_
  refine cp_iconst O dX7_takes_10 (v := 0) rfl ?_
  refine cp_istore_n O dX7_takes_11 (by decide) (cp_ls2 rfl) ?_
  have loop12 : ∀ k, k ≤ (cp_so n P).length → cp_G x E 4 0 0 cnt sh (cp_ma J m (cp_tf f (cp_tk P v1 ((cp_so n P).take k))) r a) R 12 [some (.ref m), some (.int v1), some (.int (nI k)), none] [] := by
    refine cp_up (fun k hk ih => ?_)
    refine cp_aload_n O dX7_takes_12 cp_lg0 ?_
    refine cp_iload_n O dX7_takes_13 cp_lg2 ?_
    refine cp_cVi O me_X7_ranked mi_X7_ranked ml_X7_82 cp_cX7 M.s (c_X7_ranked (k := k) M hn24 hp hN h5 rfl (by omega)) dX7_takes_14 rfl rfl ⟨Nat.le_of_ble_eq_true rfl, Nat.le_of_ble_eq_true rfl⟩ ⟨Nat.le_refl _, Nat.le_refl _⟩ (Nat.le_of_ble_eq_true rfl) ?_
    refine cp_bipush O dX7_takes_17 (v := (-6)) rfl ?_
    refine cp_icmp_eq (tgt := 76) O dX7_takes_19 (by decide) (fun c_19 => ?_) (fun c_19 => ?_)
    · have hkl := (cp_so_6 hn24).mp c_19
      exact hr _ _ _ dX7_takes_76 (by rw [show k = (cp_so n P).length by omega, List.take_length])
    · have hkl : k < (cp_so n P).length := Nat.not_le.mp (fun h => c_19 ((cp_so_6 hn24).mpr h))
      have hpn := (cp_so_mem.mp (cp_getD_in hkl)).1
      refine cp_aload_n O dX7_takes_22 cp_lg0 ?_
      refine cp_iload_n O dX7_takes_23 cp_lg2 ?_
      refine cp_cVi O me_X7_ranked mi_X7_ranked ml_X7_82 cp_cX7 M.s (c_X7_ranked (k := k) M hn24 hp hN h5 rfl (by omega)) dX7_takes_24 rfl rfl ⟨Nat.le_of_ble_eq_true rfl, Nat.le_of_ble_eq_true rfl⟩ ⟨Nat.le_refl _, Nat.le_refl _⟩ (Nat.le_of_ble_eq_true rfl) ?_
      rw [cp_so_v hkl]
      refine cp_istore_n O dX7_takes_27 (by decide) (cp_ls3 rfl) ?_
      refine cp_aload_n O dX7_takes_28 cp_lg0 ?_
      refine mg_X7_79 O M dX7_takes_29 ?_
      rw [cp_tf_8]
      refine cp_aload_n O dX7_takes_32 cp_lg0 ?_
      refine cp_iload_n O dX7_takes_33 cp_lg3 ?_
      refine cp_iconst O dX7_takes_34 (v := 1) rfl ?_
      refine cp_cVi O me_X7_of mi_X7_of ml_X7_39 cp_cX7 M.s (c_X7_ofe (w := P ((cp_so n P).getD k 0) 1) (p := ((cp_so n P).getD k 0)) (q := 1) M rfl rfl (by omega) (by omega) (hp ((cp_so n P).getD k 0) (by omega) 1 (by decide))) dX7_takes_35 rfl rfl ⟨Nat.le_of_ble_eq_true rfl, Nat.le_of_ble_eq_true rfl⟩ ⟨Nat.le_refl _, Nat.le_refl _⟩ (Nat.le_of_ble_eq_true rfl) ?_
      refine cp_iadd O dX7_takes_38 ?_
      refine cp_iload_n O dX7_takes_39 cp_lg1 ?_
      refine cp_icmp_gt (tgt := 70) O dX7_takes_40 (by decide) (fun c_40 => ?_) (fun c_40 => ?_)
      · refine cp_iinc O dX7_takes_70 cp_lg2 (cp_inc rfl) (by decide) (cp_ls2 rfl) ?_
        refine cp_goto (tgt := 12) O dX7_takes_73 (by decide) ?_
        have e := cp_tk_s P v1 hkl
        unfold cp_ts1 at e
        first
          | (rw [if_neg (Int32.not_le.mpr c_40)] at e; have ih2 := ih hkl; rw [e] at ih2; exact cp_Gw (cp_lws (cp_lws (cp_lws (cp_lwn cp_lw0)))) ih2)
          | (rw [if_pos (Int32.not_lt.mp c_40)] at e; have ih2 := ih hkl; rw [e] at ih2; rw [cp_tf_2]; exact cp_Gw (cp_lws (cp_lws (cp_lws (cp_lwn cp_lw0)))) ih2)
      · refine cp_aload_n O dX7_takes_43 cp_lg0 ?_
        refine cp_dup O dX7_takes_44 rfl ?_
        refine mg_X7_76 O M dX7_takes_45 ?_
        rw [cp_tf_7]
        refine cp_iconst O dX7_takes_48 (v := 1) rfl ?_
        refine cp_iload_n O dX7_takes_49 cp_lg3 ?_
        refine cp_ishl O dX7_takes_50 ?_
        refine cp_ior O dX7_takes_51 ?_
        refine mp_X7_76 O M dX7_takes_52 ?_
        refine cp_aload_n O dX7_takes_55 cp_lg0 ?_
        refine cp_dup O dX7_takes_56 rfl ?_
        refine mg_X7_79 O M dX7_takes_57 ?_
        rw [cp_upd_n (show 8 ≠ 7 by decide), cp_tf_8]
        refine cp_aload_n O dX7_takes_60 cp_lg0 ?_
        refine cp_iload_n O dX7_takes_61 cp_lg3 ?_
        refine cp_iconst O dX7_takes_62 (v := 1) rfl ?_
        refine cp_cVi O me_X7_of mi_X7_of ml_X7_39 cp_cX7 M.s (c_X7_ofe (w := P ((cp_so n P).getD k 0) 1) (p := ((cp_so n P).getD k 0)) (q := 1) M rfl rfl (by omega) (by omega) (hp ((cp_so n P).getD k 0) (by omega) 1 (by decide))) dX7_takes_63 rfl rfl ⟨Nat.le_of_ble_eq_true rfl, Nat.le_of_ble_eq_true rfl⟩ ⟨Nat.le_refl _, Nat.le_refl _⟩ (Nat.le_of_ble_eq_true rfl) ?_
        refine cp_iadd O dX7_takes_66 ?_
        refine mp_X7_79 O M dX7_takes_67 ?_
        refine cp_iinc O dX7_takes_70 cp_lg2 (cp_inc rfl) (by decide) (cp_ls2 rfl) ?_
        refine cp_goto (tgt := 12) O dX7_takes_73 (by decide) ?_
        have e := cp_tk_s P v1 hkl
        unfold cp_ts1 at e
        first
          | (rw [if_neg (Int32.not_le.mpr c_40)] at e; have ih2 := ih hkl; rw [e] at ih2; exact cp_Gw (cp_lws (cp_lws (cp_lws (cp_lwn cp_lw0)))) ih2)
          | (rw [if_pos (Int32.not_lt.mp c_40)] at e; have ih2 := ih hkl; rw [e] at ih2; rw [cp_tf_2]; exact cp_Gw (cp_lws (cp_lws (cp_lws (cp_lwn cp_lw0)))) ih2)
  exact cp_Gw (cp_lws (cp_lws (cp_lws (cp_lwn cp_lw0)))) (loop12 0 (Nat.zero_le _))
/-- a minute passes -/
def cp_sMin (N : cp_Nt) : Int32 × cp_Nt := match cp_du (cp_tp N) (cp_tQ N) (nI (cp_tm N)) with
  | none => (0, (cp_tS N, cp_tm N + 1, cp_tn N, (cp_wk (cp_tS N) (nI (cp_tm N)) (cp_tn N) (cp_tP N, cp_tl N)).1, cp_tp N, cp_tQ N, (cp_wk (cp_tS N) (nI (cp_tm N)) (cp_tn N) (cp_tP N, cp_tl N)).2))
  | some j => (1, (cp_tS N, cp_tm N + 1, cp_tn N, (cp_wk (cp_tS N) (nI (cp_tm N)) (cp_tn N) (cp_tP N, cp_tl N)).1, cp_tp N, cp_wi (cp_tQ N) j 2 (cp_tk (cp_wk (cp_tS N) (nI (cp_tm N)) (cp_tn N) (cp_tP N, cp_tl N)).1 (cp_tS N 2) (cp_so (cp_tn N) (cp_wk (cp_tS N) (nI (cp_tm N)) (cp_tn N) (cp_tP N, cp_tl N)).1)).1, (cp_wk (cp_tS N) (nI (cp_tm N)) (cp_tn N) (cp_tP N, cp_tl N)).2))
theorem cp_MW_eq {a b : Nat → Int32} {n : Nat} {P : cp_PP} {L : Nat → List Nat} (h : cp_MW a n P L) (hn : n ≤ 24) (e : ∀ x, 8 ≤ x → x < 374 → b x = a x) : cp_MW b n P L :=
  ⟨fun i hi f hf => (e _ (by omega) (by omega)).trans (h.1 i hi f hf), fun q hq => cp_QL_eq (h.2 q hq) (e _ (by omega) (by omega)) (fun k hk => e _ (by omega) (by omega))⟩
theorem cp_du_some {np j : Nat} {Q : cp_PP} {v : Int32} (h : cp_du np Q v = some j) : j < np ∧ Q j 0 = v ∧ ∀ i, i < j → Q i 0 ≠ v := by
  unfold cp_du at h
  rw [List.find?_range_eq_some] at h
  exact ⟨List.mem_range.mp h.2.1, of_decide_eq_true h.1, fun i hi => by simpa using h.2.2 i hi⟩
theorem cp_du_none {np : Nat} {Q : cp_PP} {v : Int32} (h : cp_du np Q v = none) : ∀ j, j < np → Q j 0 ≠ v := by
  unfold cp_du at h
  rw [List.find?_eq_none] at h
  intro j hj
  simpa using h j (List.mem_range.mpr hj)
theorem cp_cnt_eq {q q' : Nat → Bool} : ∀ {n : Nat}, (∀ j, j < n → q j = q' j) → cp_cnt q n = cp_cnt q' n
  | 0, _ => rfl
  | n + 1, h => by
    show cp_cnt q n + (if q n = true then 1 else 0) = cp_cnt q' n + (if q' n = true then 1 else 0)
    rw [cp_cnt_eq (fun j hj => h j (by omega)), h n (by omega)]
theorem cp_cnt_one {q q' : Nat → Bool} {j : Nat} : ∀ {n : Nat}, j < n → q j = false → q' j = true → (∀ i, i < n → i ≠ j → q i = q' i) → cp_cnt q' n = cp_cnt q n + 1
  | 0, h, _, _, _ => absurd h (by omega)
  | n + 1, hj, h0, h1, h => by
    show cp_cnt q' n + (if q' n = true then 1 else 0) = cp_cnt q n + (if q n = true then 1 else 0) + 1
    by_cases e : j = n
    · subst e
      rw [cp_cnt_eq (q := q') (q' := q) (fun i hi => (h i (by omega) (by omega)).symm), h0, h1]
      simp
    · rw [cp_cnt_one (n := n) (by omega) h0 h1 (fun i hi hne => h i (by omega) hne), h n (by omega) (Ne.symm e)]
      omega
/-- the plates' part when the minute has passed -/
theorem cp_MQ_none {a b : Nat → Int32} {mi np : Nat} {Q : cp_PP} (h : cp_MQ a mi np Q) (hm : mi < 100000) (hd : cp_du np Q (nI mi) = none) (e : ∀ x, (374 ≤ x ∨ x = 6 ∨ x = 7) → b x = a x) : cp_MQ b (mi + 1) np Q := by
  obtain ⟨h1, h2, h3, h4⟩ := h
  have key : ∀ j, j < np → decide ((Q j 0).toInt < ((mi + 1 : Nat) : Int)) = decide ((Q j 0).toInt < (mi : Int)) := fun j hj => by
    have hne := cp_du_none hd j hj
    obtain ⟨⟨t, ht, et⟩, -⟩ := h3 j hj
    rw [et] at hne ⊢
    have : t ≠ mi := fun z => hne (by rw [z])
    rw [nI_toInt (by omega)]
    apply decide_eq_decide.mpr
    omega
  refine ⟨h1, (e 6 (by omega)).trans h2, fun j hj => ?_, ?_⟩
  · obtain ⟨g1, g2, g3, g4, g5⟩ := h3 j hj
    exact ⟨g1, (e _ (by omega)).trans g2, by rw [e _ (by omega), g3, key j hj], (e _ (by omega)).trans g4, (e _ (by omega)).trans g5⟩
  · rw [e 7 (by omega), h4]
    congr 1
    exact cp_cnt_eq (fun j hj => (key j hj).symm)
theorem cp_MQ_some {a : Nat → Int32} {mi np j : Nat} {Q : cp_PP} {s : Int32} (h : cp_MQ a mi np Q) (hm : mi < 100000) (hV : cp_QV mi np Q) (hd : cp_du np Q (nI mi) = some j) : cp_MQ (upd (upd (upd (upd a (374 + 4 * j + 1) 1) (374 + 4 * j + 3) s) 7 (a 7 + 1)) 4 (nI (mi + 1))) (mi + 1) np (cp_wi Q j 2 s) := by
  obtain ⟨h1, h2, h3, h4⟩ := h
  obtain ⟨hj, hjv, -⟩ := cp_du_some hd
  have h0 : ∀ i, cp_wi Q j 2 s i 0 = Q i 0 := fun i => cp_wi_j _ _ _ _ (fun z => absurd z.2 (by decide))
  have key : ∀ i, i < np → i ≠ j → decide ((Q i 0).toInt < ((mi + 1 : Nat) : Int)) = decide ((Q i 0).toInt < (mi : Int)) := fun i hi hne => by
    obtain ⟨⟨t, ht, et⟩, -⟩ := h3 i hi
    have hlt : (Q i 0).toInt ≠ (Q j 0).toInt := by
      rcases Nat.lt_or_gt_of_ne hne with q | q
      · have := hV.1 i j q hj; omega
      · have := hV.1 j i q hi; omega
    rw [hjv, nI_toInt (by omega)] at hlt
    apply decide_eq_decide.mpr
    omega
  have kj0 : decide ((Q j 0).toInt < (mi : Int)) = false := by rw [hjv, nI_toInt (by omega)]; simp
  have kj1 : decide ((Q j 0).toInt < ((mi + 1 : Nat) : Int)) = true := by rw [hjv, nI_toInt (by omega)]; apply decide_eq_true; omega
  refine ⟨h1, ?_, fun i hi => ?_, ?_⟩
  · rw [cp_upd_n (by omega), cp_upd_n (by omega), cp_upd_n (by omega), cp_upd_n (by omega)]; exact h2
  · obtain ⟨g1, g2, g3, g4, g5⟩ := h3 i hi
    by_cases hij : i = j
    · subst hij
      refine ⟨by rw [h0]; exact g1, ?_, ?_, ?_, ?_⟩
      · rw [h0, cp_upd_n (by omega), cp_upd_n (by omega), cp_upd_n (by omega), cp_upd_n (by omega)]; exact g2
      · rw [h0, kj1, cp_upd_n (by omega), cp_upd_n (by omega), cp_upd_n (by omega), cp_upd_s]; rfl
      · rw [cp_wi_j _ _ _ _ (fun z => absurd z.2 (by decide)), cp_upd_n (by omega), cp_upd_n (by omega), cp_upd_n (by omega), cp_upd_n (by omega)]; exact g4
      · rw [cp_wi_s, cp_upd_n (by omega), cp_upd_n (by omega), cp_upd_s]
    · refine ⟨by rw [h0]; exact g1, ?_, ?_, ?_, ?_⟩
      · rw [h0, cp_upd_n (by omega), cp_upd_n (by omega), cp_upd_n (by omega), cp_upd_n (by omega)]; exact g2
      · rw [h0, key i hi hij, cp_upd_n (by omega), cp_upd_n (by omega), cp_upd_n (by omega), cp_upd_n (by omega)]; exact g3
      · rw [cp_wi_j _ _ _ _ (fun z => hij z.1), cp_upd_n (by omega), cp_upd_n (by omega), cp_upd_n (by omega), cp_upd_n (by omega)]; exact g4
      · rw [cp_wi_j _ _ _ _ (fun z => hij z.1), cp_upd_n (by omega), cp_upd_n (by omega), cp_upd_n (by omega), cp_upd_n (by omega)]; exact g5
  · rw [cp_upd_n (by decide), cp_upd_s, h4, nI_1]
    congr 1
    refine (cp_cnt_one (j := j) hj kj0 (by rw [h0]; exact kj1) (fun i hi hne => ?_)).symm
    rw [h0, key i hi hne]
