def cp_ip (n : Nat) (v : Int32) : Bool := decide (0 ≤ v.toInt ∧ v.toInt < n)
theorem cp_ip_iff {n : Nat} {v : Int32} (hn : n < 2 ^ 31) : cp_ip n v = true ↔ ∃ p, p < n ∧ v = nI p := by
  unfold cp_ip
  rw [decide_eq_true_iff]
  constructor
  · rintro ⟨h1, h2⟩
    refine ⟨v.toInt.toNat, by omega, ?_⟩
    apply Int32.toInt_inj.mp
    rw [nI_toInt (by omega)]
    omega
  · rintro ⟨p, hp, rfl⟩
    rw [nI_toInt (by omega)]
    omega
theorem cp_ip_lit {n k : Nat} (hn : n < 2 ^ 31) (hk : k < n) : cp_ip n (nI k) = true := (cp_ip_iff hn).mpr ⟨k, hk, rfl⟩
theorem cp_in_ip {n : Nat} {v : Int32} (hn : n < 2 ^ 31) : (decide ((0 : Int64) ≤ v.toInt64 ∧ v.toInt64 ≤ (nI n).toInt64 - 1)) = cp_ip n v := by
  unfold cp_ip
  apply Bool.eq_iff_iff.mpr
  rw [decide_eq_true_iff, decide_eq_true_iff]
  simp only [Int64.le_iff_toInt_le, Int64.toInt_sub, Int32.toInt_toInt64, nI_toInt hn]
  have h0 : (0 : Int64).toInt = 0 := rfl
  have h1 : (1 : Int64).toInt = 1 := rfl
  rw [h0, h1]
  have hb : ((n : Int) - 1).bmod (2 ^ 64) = (n : Int) - 1 := by
    apply Int.bmod_eq_of_le <;> omega
  rw [hb]
  omega
def cp_qo (a : Nat → Int32) (p : Nat) : Int32 := if a (158 + 9 * p + 4) = 0 then a (158 + 9 * p) else if a (158 + 9 * p + 4) = 1 then 5 else -6
abbrev cp_ma (J : cp_Mem) (m : Nat) (f : Nat → Int32) (r : Nat → Nat → Int32) (a : Nat → Int32) : cp_Mem := cp_mm J m f (cp_row r 1 a)
theorem cp_ma_self (J : cp_Mem) (m : Nat) (f : Nat → Int32) (r : Nat → Nat → Int32) : cp_ma J m f r (r 1) = cp_mm J m f r := by unfold cp_ma; rw [cp_row_self]
section CPA
variable {x : cp_Cx} {E : cp_En} {own : String} {bc : ByteArray} {nL d mc ms cells slots cnt : Nat} {sh : cp_Shp} {R : cp_Rem} {pc : Nat} {L : List (Option Value)} {st : List Value} {J : cp_Mem} {m : Nat} {f : Nat → Int32} {r : Nat → Nat → Int32} {a : Nat → Int32}
theorem cp_ialdA (O : cp_Ok x E own bc nL d mc ms) {j : Nat} {i : Int32} (M : cp_ML sh R m) (hi : i = nI j) (hj : j < 420) (hd : decode bc pc = .ok (.iaload, 1)) (kk : cp_G x E nL cells slots cnt sh (cp_ma J m f r a) R (pc + 1) L (.int (a j) :: st)) : cp_G x E nL cells slots cnt sh (cp_ma J m f r a) R pc L (.int i :: .ref (m + 1) :: st) := by
  refine cp_ialdM (k := 1) O M.s0 (by decide) hi hj (by decide) hd ?_
  rw [cp_row_s]
  exact kk
theorem cp_iastA (O : cp_Ok x E own bc nL d mc ms) {j : Nat} {i v : Int32} (M : cp_ML sh R m) (hi : i = nI j) (hj : j < 420) (hd : decode bc pc = .ok (.iastore, 1)) (kk : cp_G x E nL cells slots cnt sh (cp_ma J m f r (upd a j v)) R (pc + 1) L st) : cp_G x E nL cells slots cnt sh (cp_ma J m f r a) R pc L (.int v :: .int i :: .ref (m + 1) :: st) := by
  refine cp_iastM (k := 1) O M.s0 (by decide) hi hj (by decide) hd ?_
  rw [cp_row_wi]
  exact kk
end CPA
set_option maxHeartbeats 4000000 in
set_option maxRecDepth 100000 in
theorem c_X7_in {lc : Launch} {E : cp_En} {cnt : Nat} {sh : cp_Shp} {R : cp_Rem} {I : cp_Mem} {v lo hi : Int64} : cp_Fn lc E yX7_in cX7_in 6 (some .boolean) 0 [.long v, .long lo, .long hi] cnt sh I R (some (.int (cp_bi (decide (lo ≤ v ∧ v ≤ hi))))) I := by
  refine cp_Fn_i [some (.long v), none, some (.long lo), none, some (.long hi), none] (by decide +kernel) (Nat.le_of_ble_eq_true rfl) rfl (cp_bin _) (fun x hxl O hr => ?_)
  subst hxl
  refine cp_lload_n O dX7_in_0 cp_lg0 ?_
  refine cp_lload_n O dX7_in_1 cp_lg2 ?_
  refine cp_lcmp O dX7_in_2 ?_
  refine cp_if_ltL (tgt := 17) O dX7_in_3 (by decide) (fun c_3 => ?_) (fun c_3 => ?_)
  · refine cp_iconst O dX7_in_17 (v := 0) rfl ?_
    exact hr _ _ _ _ dX7_in_18 (by first | exact cp_bi_fd (fun h => absurd c_3 (Int64.not_lt.mpr h.1)) | exact cp_bi_fd (fun h => absurd c_10 (Int64.not_lt.mpr h.2)) | exact cp_bi_td ⟨Int64.not_lt.mp c_3, Int64.not_lt.mp c_10⟩) rfl
  · refine cp_lload_n O dX7_in_6 cp_lg0 ?_
    refine cp_lload O dX7_in_7 cp_lg4 ?_
    refine cp_lcmp O dX7_in_9 ?_
    refine cp_if_gtL (tgt := 17) O dX7_in_10 (by decide) (fun c_10 => ?_) (fun c_10 => ?_)
    · refine cp_iconst O dX7_in_17 (v := 0) rfl ?_
      exact hr _ _ _ _ dX7_in_18 (by first | exact cp_bi_fd (fun h => absurd c_3 (Int64.not_lt.mpr h.1)) | exact cp_bi_fd (fun h => absurd c_10 (Int64.not_lt.mpr h.2)) | exact cp_bi_td ⟨Int64.not_lt.mp c_3, Int64.not_lt.mp c_10⟩) rfl
    · refine cp_iconst O dX7_in_13 (v := 1) rfl ?_
      refine cp_goto (tgt := 18) O dX7_in_14 (by decide) ?_
      exact hr _ _ _ _ dX7_in_18 (by first | exact cp_bi_fd (fun h => absurd c_3 (Int64.not_lt.mpr h.1)) | exact cp_bi_fd (fun h => absurd c_10 (Int64.not_lt.mpr h.2)) | exact cp_bi_td ⟨Int64.not_lt.mp c_3, Int64.not_lt.mp c_10⟩) rfl
def cp_cp420 (r : Nat → Nat → Int32) (i k c : Nat) : Nat → Nat → Int32 := fun q j => if q = k ∧ j < c then r i j else r q j
theorem cp_cp420_0 (r : Nat → Nat → Int32) (i k : Nat) : cp_cp420 r i k 0 = r := by funext q j; simp [cp_cp420]
theorem cp_cp420_s (r : Nat → Nat → Int32) {i k : Nat} (c : Nat) (h : i ≠ k) : cp_wi (cp_cp420 r i k c) k c (cp_cp420 r i k c i c) = cp_cp420 r i k (c + 1) := by
  funext q j
  unfold cp_wi cp_cp420
  by_cases hq : q = k
  · subst hq
    by_cases hj : j = c
    · subst hj; simp [h]
    · by_cases h2 : j < c
      · simp [hj, h2, show j < c + 1 by omega]
      · simp [hj, h2, show ¬ j < c + 1 by omega]
  · simp [hq]
set_option maxHeartbeats 4000000 in
set_option maxRecDepth 100000 in
theorem c_X7_copy {lc : Launch} {E : cp_En} {cnt : Nat} {sh : cp_Shp} {R : cp_Rem} {J : cp_Mem} {m : Nat} {f : Nat → Int32} {r : Nat → Nat → Int32} {i k : Nat} (hi : 0 < i ∧ i ≤ 7) (hk : 0 < k ∧ k ≤ 7) (hik : i ≠ k) (si : sh (m + i) = (9, 420)) (sk : sh (m + k) = (9, 420)) : cp_Fn lc E yX7_copy cX7_copy 3 none 0 [.ref (m + i), .ref (m + k)] cnt sh (cp_mm J m f r) R none (cp_mm J m f (cp_cp420 r i k 420)) := by
  refine cp_Fn_v [some (.ref (m + i)), some (.ref (m + k)), none] (by decide +kernel) (Nat.le_of_ble_eq_true rfl) rfl (fun x hxl O hr => ?_)
  subst hxl
  refine cp_iconst O dX7_copy_0 (v := 0) rfl ?_
  refine cp_istore_n O dX7_copy_1 (by decide) (cp_ls2 rfl) ?_
  have loop2 : ∀ c, c ≤ 420 → cp_G x E 3 0 0 cnt sh (cp_mm J m f (cp_cp420 r i k c)) R 2 [some (.ref (m + i)), some (.ref (m + k)), some (.int (nI c))] [] := by
    refine cp_up (fun c hc ih => ?_)
    refine cp_iload_n O dX7_copy_2 cp_lg2 ?_
    refine cp_sipush O dX7_copy_3 (v := 420) rfl ?_
    refine cp_icmp_geN (tgt := 21) O dX7_copy_6 (by decide) (a := c) (b := 420) rfl rfl (by omega) (by omega) (fun c_6 => ?_) (fun c_6 => ?_)
    · exact hr _ _ _ dX7_copy_21 (by rw [show c = 420 by omega])
    · refine cp_aload_n O dX7_copy_9 cp_lg1 ?_
      refine cp_iload_n O dX7_copy_10 cp_lg2 ?_
      refine cp_aload_n O dX7_copy_11 cp_lg0 ?_
      refine cp_iload_n O dX7_copy_12 cp_lg2 ?_
      refine cp_ialdM (k := i) O si hi (j := c) rfl (by omega) (by decide) dX7_copy_13 ?_
      refine cp_iastM (k := k) O sk hk (j := c) rfl (by omega) (by decide) dX7_copy_14 ?_
      refine cp_iinc O dX7_copy_15 cp_lg2 (cp_inc rfl) (by decide) (cp_ls2 rfl) ?_
      refine cp_goto (tgt := 2) O dX7_copy_18 (by decide) ?_
      rw [cp_cp420_s r _ hik]
      exact ih c_6
  rw [← cp_cp420_0 r i k]
  exact loop2 0 (Nat.zero_le _)
set_option maxHeartbeats 4000000 in
set_option maxRecDepth 100000 in
theorem c_X7_of {lc : Launch} {E : cp_En} {cnt : Nat} {sh : cp_Shp} {R : cp_Rem} {J : cp_Mem} {m : Nat} {f : Nat → Int32} {r : Nat → Nat → Int32} {a : Nat → Int32} (M : cp_ML sh R m) {v1 v2 : Int32} {p q : Nat} (h1 : v1 = nI p) (h2 : v2 = nI q) (hp : p < 24) (hq : q < 9) : cp_Fn lc E yX7_of cX7_of 3 (some .int) 0 [.ref m, .int v1, .int v2] cnt sh (cp_ma J m f r a) R (some (.int (a (158 + 9 * p + q)))) (cp_ma J m f r a) := by
  refine cp_Fn_i [some (.ref m), some (.int v1), some (.int v2)] (by decide +kernel) (Nat.le_of_ble_eq_true rfl) rfl rfl (fun x hxl O hr => ?_)
  subst hxl
  refine cp_aload_n O dX7_of_0 cp_lg0 ?_
  refine fg_X7_7 O M.s M.f0 dX7_of_1 ?_
  refine cp_sipush O dX7_of_4 (v := 158) rfl ?_
  refine cp_bipush O dX7_of_7 (v := 9) rfl ?_
  refine cp_iload_n O dX7_of_9 cp_lg1 ?_
  refine cp_imul O dX7_of_10 ?_
  refine cp_iadd O dX7_of_11 ?_
  refine cp_iload_n O dX7_of_12 cp_lg2 ?_
  refine cp_iadd O dX7_of_13 ?_
  refine cp_ialdA O M (j := ((158 + (9 * p)) + q)) (cp_ad (cp_ad rfl (cp_mu rfl h1)) h2) (by omega) dX7_of_14 ?_
  exact hr _ _ _ _ dX7_of_15 rfl rfl
set_option maxHeartbeats 4000000 in
set_option maxRecDepth 100000 in
theorem c_X7_sets {lc : Launch} {E : cp_En} {cnt : Nat} {sh : cp_Shp} {R : cp_Rem} {J : cp_Mem} {m : Nat} {f : Nat → Int32} {r : Nat → Nat → Int32} {a : Nat → Int32} (M : cp_ML sh R m) {v1 v2 v3 : Int32} {p q : Nat} (h1 : v1 = nI p) (h2 : v2 = nI q) (hp : p < 24) (hq : q < 9) : cp_Fn lc E yX7_sets cX7_sets 4 none 0 [.ref m, .int v1, .int v2, .int v3] cnt sh (cp_ma J m f r a) R none (cp_ma J m f r (upd a (158 + 9 * p + q) v3)) := by
  refine cp_Fn_v [some (.ref m), some (.int v1), some (.int v2), some (.int v3)] (by decide +kernel) (Nat.le_of_ble_eq_true rfl) rfl (fun x hxl O hr => ?_)
  subst hxl
  refine cp_aload_n O dX7_sets_0 cp_lg0 ?_
  refine fg_X7_7 O M.s M.f0 dX7_sets_1 ?_
  refine cp_sipush O dX7_sets_4 (v := 158) rfl ?_
  refine cp_bipush O dX7_sets_7 (v := 9) rfl ?_
  refine cp_iload_n O dX7_sets_9 cp_lg1 ?_
  refine cp_imul O dX7_sets_10 ?_
  refine cp_iadd O dX7_sets_11 ?_
  refine cp_iload_n O dX7_sets_12 cp_lg2 ?_
  refine cp_iadd O dX7_sets_13 ?_
  refine cp_iload_n O dX7_sets_14 cp_lg3 ?_
  refine cp_iastA O M (j := ((158 + (9 * p)) + q)) (cp_ad (cp_ad rfl (cp_mu rfl h1)) h2) (by omega) dX7_sets_15 ?_
  exact hr _ _ _ dX7_sets_16 rfl
set_option maxHeartbeats 4000000 in
set_option maxRecDepth 100000 in
theorem c_X7_inQueue {lc : Launch} {E : cp_En} {cnt : Nat} {sh : cp_Shp} {R : cp_Rem} {J : cp_Mem} {m : Nat} {f : Nat → Int32} {r : Nat → Nat → Int32} {a : Nat → Int32} (M : cp_ML sh R m) {v1 v2 : Int32} {q k : Nat} (h1 : v1 = nI q) (h2 : v2 = nI k) (hq : q < 6) (hk : k < 24) : cp_Fn lc E yX7_inQueue cX7_inQueue 3 (some .int) 0 [.ref m, .int v1, .int v2] cnt sh (cp_ma J m f r a) R (some (.int (a (14 + 24 * q + k)))) (cp_ma J m f r a) := by
  refine cp_Fn_i [some (.ref m), some (.int v1), some (.int v2)] (by decide +kernel) (Nat.le_of_ble_eq_true rfl) rfl rfl (fun x hxl O hr => ?_)
  subst hxl
  refine cp_aload_n O dX7_inQueue_0 cp_lg0 ?_
  refine fg_X7_7 O M.s M.f0 dX7_inQueue_1 ?_
  refine cp_bipush O dX7_inQueue_4 (v := 14) rfl ?_
  refine cp_bipush O dX7_inQueue_6 (v := 24) rfl ?_
  refine cp_iload_n O dX7_inQueue_8 cp_lg1 ?_
  refine cp_imul O dX7_inQueue_9 ?_
  refine cp_iadd O dX7_inQueue_10 ?_
  refine cp_iload_n O dX7_inQueue_11 cp_lg2 ?_
  refine cp_iadd O dX7_inQueue_12 ?_
  refine cp_ialdA O M (j := ((14 + (24 * q)) + k)) (cp_ad (cp_ad rfl (cp_mu rfl h1)) h2) (by omega) dX7_inQueue_13 ?_
  exact hr _ _ _ _ dX7_inQueue_14 rfl rfl
set_option maxHeartbeats 4000000 in
set_option maxRecDepth 100000 in
theorem c_X7_plateAt {lc : Launch} {E : cp_En} {cnt : Nat} {sh : cp_Shp} {R : cp_Rem} {J : cp_Mem} {m : Nat} {f : Nat → Int32} {r : Nat → Nat → Int32} {a : Nat → Int32} (M : cp_ML sh R m) {v1 v2 : Int32} {j q : Nat} (h1 : v1 = nI j) (h2 : v2 = nI q) (hj : j < 8) (hq : q < 4) : cp_Fn lc E yX7_plateAt cX7_plateAt 3 (some .int) 0 [.ref m, .int v1, .int v2] cnt sh (cp_ma J m f r a) R (some (.int (a (374 + 4 * j + q)))) (cp_ma J m f r a) := by
  refine cp_Fn_i [some (.ref m), some (.int v1), some (.int v2)] (by decide +kernel) (Nat.le_of_ble_eq_true rfl) rfl rfl (fun x hxl O hr => ?_)
  subst hxl
  refine cp_aload_n O dX7_plateAt_0 cp_lg0 ?_
  refine fg_X7_7 O M.s M.f0 dX7_plateAt_1 ?_
  refine cp_sipush O dX7_plateAt_4 (v := 374) rfl ?_
  refine cp_iconst O dX7_plateAt_7 (v := 4) rfl ?_
  refine cp_iload_n O dX7_plateAt_8 cp_lg1 ?_
  refine cp_imul O dX7_plateAt_9 ?_
  refine cp_iadd O dX7_plateAt_10 ?_
  refine cp_iload_n O dX7_plateAt_11 cp_lg2 ?_
  refine cp_iadd O dX7_plateAt_12 ?_
  refine cp_ialdA O M (j := ((374 + (4 * j)) + q)) (cp_ad (cp_ad rfl (cp_mu rfl h1)) h2) (by omega) dX7_plateAt_13 ?_
  exact hr _ _ _ _ dX7_plateAt_14 rfl rfl
set_option maxHeartbeats 4000000 in
set_option maxRecDepth 100000 in
theorem c_X7_isPiece {lc : Launch} {E : cp_En} {cnt : Nat} {sh : cp_Shp} {R : cp_Rem} {J : cp_Mem} {m : Nat} {f : Nat → Int32} {r : Nat → Nat → Int32} {a : Nat → Int32} (M : cp_ML sh R m) {v1 : Int32} {n : Nat} (hn : a 5 = nI n) (hn24 : n ≤ 24) : cp_Fn lc E yX7_isPiece cX7_isPiece 2 (some .boolean) 1 [.ref m, .int v1] cnt sh (cp_ma J m f r a) R (some (.int (cp_bi (cp_ip n v1)))) (cp_ma J m f r a) := by
  refine cp_Fn_i [some (.ref m), some (.int v1)] (by decide +kernel) (Nat.le_of_ble_eq_true rfl) rfl (cp_bin _) (fun x hxl O hr => ?_)
  subst hxl
  refine cp_iload_n O dX7_isPiece_0 cp_lg1 ?_
  refine cp_i2l O dX7_isPiece_1 ?_
  refine cp_lconst O dX7_isPiece_2 (v := 0) rfl ?_
  refine cp_aload_n O dX7_isPiece_3 cp_lg0 ?_
  refine fg_X7_7 O M.s M.f0 dX7_isPiece_4 ?_
  refine cp_iconst O dX7_isPiece_7 (v := 5) rfl ?_
  refine cp_ialdA O M (j := 5) rfl (by omega) dX7_isPiece_8 ?_
  refine cp_i2l O dX7_isPiece_9 ?_
  refine cp_lconst O dX7_isPiece_10 (v := 1) rfl ?_
  refine cp_lsub O dX7_isPiece_11 ?_
  refine cp_cSi O me_X7_in ms_X7_in ml_X7_35 (c_X7_in) dX7_isPiece_12 rfl rfl ⟨Nat.le_of_ble_eq_true rfl, Nat.le_of_ble_eq_true rfl⟩ ⟨Nat.le_refl _, Nat.le_refl _⟩ (Nat.le_of_ble_eq_true rfl) ?_
  rw [hn, cp_in_ip (by omega)]
  exact hr _ _ _ _ dX7_isPiece_15 rfl rfl
set_option maxHeartbeats 4000000 in
set_option maxRecDepth 100000 in
theorem c_X7_queueOf {lc : Launch} {E : cp_En} {cnt : Nat} {sh : cp_Shp} {R : cp_Rem} {J : cp_Mem} {m : Nat} {f : Nat → Int32} {r : Nat → Nat → Int32} {a : Nat → Int32} (M : cp_ML sh R m) {v1 : Int32} {p : Nat} (h1 : v1 = nI p) (hp : p < 24) : cp_Fn lc E yX7_queueOf cX7_queueOf 2 (some .int) 1 [.ref m, .int v1] cnt sh (cp_ma J m f r a) R (some (.int (cp_qo a p))) (cp_ma J m f r a) := by
  refine cp_Fn_i [some (.ref m), some (.int v1)] (by decide +kernel) (Nat.le_of_ble_eq_true rfl) rfl rfl (fun x hxl O hr => ?_)
  subst hxl
  refine cp_aload_n O dX7_queueOf_0 cp_lg0 ?_
  refine cp_iload_n O dX7_queueOf_1 cp_lg1 ?_
  refine cp_iconst O dX7_queueOf_2 (v := 4) rfl ?_
  refine cp_cVi O me_X7_of mi_X7_of ml_X7_39 cp_cX7 M.s (c_X7_of (p := p) (q := 4) M h1 rfl (by omega) (by omega)) dX7_queueOf_3 rfl rfl ⟨Nat.le_of_ble_eq_true rfl, Nat.le_of_ble_eq_true rfl⟩ ⟨Nat.le_refl _, Nat.le_refl _⟩ (Nat.le_of_ble_eq_true rfl) ?_
  refine cp_if_ne (tgt := 18) O dX7_queueOf_6 (by decide) (fun c_6 => ?_) (fun c_6 => ?_)
  · refine cp_aload_n O dX7_queueOf_18 cp_lg0 ?_
    refine cp_iload_n O dX7_queueOf_19 cp_lg1 ?_
    refine cp_iconst O dX7_queueOf_20 (v := 4) rfl ?_
    refine cp_cVi O me_X7_of mi_X7_of ml_X7_39 cp_cX7 M.s (c_X7_of (p := p) (q := 4) M h1 rfl (by omega) (by omega)) dX7_queueOf_21 rfl rfl ⟨Nat.le_of_ble_eq_true rfl, Nat.le_of_ble_eq_true rfl⟩ ⟨Nat.le_refl _, Nat.le_refl _⟩ (Nat.le_of_ble_eq_true rfl) ?_
    refine cp_iconst O dX7_queueOf_24 (v := 1) rfl ?_
    refine cp_icmp_ne (tgt := 32) O dX7_queueOf_25 (by decide) (fun c_25 => ?_) (fun c_25 => ?_)
    · refine cp_bipush O dX7_queueOf_32 (v := (-6)) rfl ?_
      exact hr _ _ _ _ dX7_queueOf_34 (by simp_all [cp_qo]) rfl
    · refine cp_iconst O dX7_queueOf_28 (v := 5) rfl ?_
      refine cp_goto (tgt := 34) O dX7_queueOf_29 (by decide) ?_
      exact hr _ _ _ _ dX7_queueOf_34 (by simp_all [cp_qo]) rfl
  · refine cp_aload_n O dX7_queueOf_9 cp_lg0 ?_
    refine cp_iload_n O dX7_queueOf_10 cp_lg1 ?_
    refine cp_iconst O dX7_queueOf_11 (v := 0) rfl ?_
    refine cp_cVi O me_X7_of mi_X7_of ml_X7_39 cp_cX7 M.s (c_X7_of (p := p) (q := 0) M h1 rfl (by omega) (by omega)) dX7_queueOf_12 rfl rfl ⟨Nat.le_of_ble_eq_true rfl, Nat.le_of_ble_eq_true rfl⟩ ⟨Nat.le_refl _, Nat.le_refl _⟩ (Nat.le_of_ble_eq_true rfl) ?_
    refine cp_goto (tgt := 34) O dX7_queueOf_15 (by decide) ?_
    exact hr _ _ _ _ dX7_queueOf_34 (by simp_all [cp_qo]) rfl
