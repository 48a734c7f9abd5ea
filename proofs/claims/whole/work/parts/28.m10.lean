theorem cp_Fr_of {l : Launch} {E : cp_En} {y : MethodName} {bc : ByteArray} {nL : Nat} {ret : Option FieldType} {d : Nat} {as : List Value} {cnt : Nat} {sh : cp_Shp} {I : cp_Mem} {R : cp_Rem} {v : Option Value} {I' : cp_Mem} {T : cp_Mem → Prop} (h : cp_Fn l E y bc nL ret d as cnt sh I R v I') (hT : T I') : cp_Fr l E y bc nL ret d as cnt sh I R v T := by
  intro p e h1 h2 h3 s m args below h4 h5 h6 h7
  obtain ⟨k, o, g1, g2, g3, ⟨⟨u, c', s', I1, R', q1, ⟨q2, q3, q4, q5, q6⟩, q7⟩, q8⟩, q9⟩ := h p e h1 h2 h3 s m args below h4 h5 h6 h7
  exact ⟨k, o, g1, g2, g3, ⟨⟨u, c', s', I1, R', q1, ⟨q2, q3, q4, by rw [q5]; exact hT, q6⟩, q7⟩, q8⟩, q9⟩
theorem cp_erI {l : List Nat} {k p : Nat} (hn : l.Nodup) (hk : k < l.length) (hp : l.getD k 0 = p) : l.eraseIdx k = l.filter (fun j => decide (j ≠ p)) := by
  induction l generalizing k with
  | nil => exact absurd hk (by simp)
  | cons x t ih =>
    cases k with
    | zero =>
      have hx : x = p := hp
      subst hx
      exact (cp_fil_hd hn).symm
    | succ k =>
      have hp2 : t.getD k 0 = p := by simpa using hp
      have hk2 : k < t.length := by simpa using hk
      have hm := cp_getD_in hk2
      rw [hp2] at hm
      have hne : x ≠ p := fun e => (List.nodup_cons.mp hn).1 (e ▸ hm)
      rw [List.filter_cons_of_pos (by simpa using hne)]
      show x :: t.eraseIdx k = _
      rw [ih (List.nodup_cons.mp hn).2 hk2 hp2]
theorem cp_erF {l : List Nat} {p : Nat} (hn : l.Nodup) : l.erase p = l.filter (fun j => decide (j ≠ p)) := by
  induction l with
  | nil => rfl
  | cons x t ih =>
    by_cases h : x = p
    · subst h
      rw [List.erase_cons_head, cp_fil_hd hn]
    · rw [List.erase_cons_tail (by simpa using h), List.filter_cons_of_pos (by simpa using h), ih (List.nodup_cons.mp hn).2]
theorem cp_fstI {l : List Nat} {p : Nat} (hn : l.Nodup) {k : Nat} (hk : k < l.length) (hp : l.getD k 0 = p) : ∀ j, j < k → l.getD j 0 ≠ p := fun j hj e => by
  rw [cp_gD hk] at hp
  rw [cp_gD (by omega)] at e
  exact List.pairwise_iff_getElem.mp hn j k (by omega) hk hj (e.trans hp.symm)
def cp_ol (mk : Nat) (Q : cp_PP) (p : Nat) : Bool := decide (0 < mk) && decide ((Q (mk - 1) 2 >>> (nI p &&& 31)) &&& 1 = 1)
def cp_any (q : Nat → Bool) : Nat → Bool
  | 0 => false
  | n + 1 => cp_any q n || q n
def cp_mkN (N : cp_Nt) : Nat := cp_cnt (fun j => decide ((cp_tQ N j 0).toInt < cp_tm N)) (cp_tp N)
def cp_dsN (N : cp_Nt) (e : Nat) : Bool := cp_any (fun j => cp_rg (cp_tm N) ((cp_tm N + e : Nat) : Int) (cp_tQ N j 0)) (cp_tp N)
def cp_sK (N : cp_Nt) (p : Nat) : cp_Nt := (cp_tS N, cp_tm N, cp_tn N, cp_wi (cp_tP N) p 4 3, cp_tp N, cp_tQ N, (cp_tl N).erase p)
def cp_kc (N : cp_Nt) (p : Nat) : Bool := cp_ol (cp_mkN N) (cp_tQ N) p && !(cp_dsN N (cp_tS N 3).toInt.toNat) && decide (cp_tp N ≠ 8) && decide (nI (cp_tm N) + cp_tS N 3 ≤ 599)
def cp_sKill (N : cp_Nt) (v : Int32) : Int32 × cp_Nt := if cp_ip (cp_tn N) v = true then (if cp_tP N v.toInt.toNat 4 = 3 then (-5, N) else if cp_kc N v.toInt.toNat = true then (1, (cp_sTell (cp_sK N v.toInt.toNat) (nI (cp_tm N) + cp_tS N 3) 1).2) else (0, cp_sK N v.toInt.toNat)) else (-1, N)
theorem cp_MA_K {a a1 : Nat → Int32} {N : cp_Nt} {p : Nat} (hA : cp_MA a N) (hV : cp_NV N) (hp : p < cp_tn N) (hW : cp_MW a1 (cp_tn N) (cp_tP N) (fun q => (cp_LL (cp_tn N) (cp_tP N) (cp_tl N) q).filter (fun j => decide (j ≠ p)))) (hx : ∀ x, (x < 8 ∨ 158 ≤ x) → a1 x = a x) : cp_MA (upd a1 (158 + 9 * p + 4) 3) (cp_sK N p) := by
  obtain ⟨hAS, hA4, hA5, hAW, hAQ⟩ := hA
  have hn24 := hV.2.2.1.1
  refine ⟨fun k hk => by rw [cp_upd_n (by omega), hx k (by omega)]; exact hAS k hk, by rw [cp_upd_n (by omega), hx 4 (by omega)]; exact hA4, by rw [cp_upd_n (by omega), hx 5 (by omega)]; exact hA5, cp_MW_L (cp_MW_set hW hn24 hp (by decide) 3) fun q hq => ?_, cp_MQ_of hAQ fun x hx2 => by rw [cp_upd_n (by omega), hx x (by omega)]⟩
  show cp_LL (cp_tn N) (cp_wi (cp_tP N) p 4 3) ((cp_tl N).erase p) q = _
  by_cases h5 : q = 5
  · subst h5
    rw [cp_LL5, cp_LL5, cp_erF hV.2.2.1.2.2.1]
  · rw [cp_LLd _ _ _ (by omega), cp_LLd _ _ _ (by omega), cp_dq_out _ _ _ _ _ (by decide)]
set_option maxHeartbeats 4000000 in
set_option maxRecDepth 100000 in
theorem c_X7_leaves_n {lc : Launch} {E : cp_En} {cnt : Nat} {sh : cp_Shp} {R : cp_Rem} {J : cp_Mem} {m : Nat} {f : Nat → Int32} {r : Nat → Nat → Int32} {a : Nat → Int32} (M : cp_ML sh R m) {v1 : Int32} {p : Nat} (h1 : v1 = nI p) (hp : p < 24) (hqo : cp_qo a p = -6) : cp_Fn lc E yX7_leaves cX7_leaves 6 none 3 [.ref m, .int v1] cnt sh (cp_ma J m f r a) R none (cp_ma J m f r a) := by
  refine cp_Fn_v [some (.ref m), some (.int v1), none, none, none, none] (by decide +kernel) (Nat.le_of_ble_eq_true rfl) rfl (fun x hxl O hr => ?_)
  subst hxl
  refine cp_aload_n O dX7_leaves_0 cp_lg0 ?_
  refine cp_iload_n O dX7_leaves_1 cp_lg1 ?_
  refine cp_cVi O me_X7_queueOf mi_X7_queueOf ml_X7_43 cp_cX7 M.s (c_X7_queueOf (p := p) M h1 (by omega)) dX7_leaves_2 rfl rfl ⟨Nat.le_of_ble_eq_true rfl, Nat.le_of_ble_eq_true rfl⟩ ⟨Nat.le_refl _, Nat.le_refl _⟩ (Nat.le_of_ble_eq_true rfl) ?_
  refine cp_istore_n O dX7_leaves_5 (by decide) (cp_ls2 rfl) ?_
  refine cp_iload_n O dX7_leaves_6 cp_lg2 ?_
  refine cp_bipush O dX7_leaves_7 (v := (-6)) rfl ?_
  refine cp_icmp_ne (tgt := 13) O dX7_leaves_9 (by decide) (fun c_9 => ?_) (fun c_9 => ?_)
  · exact absurd hqo c_9
  · exact hr _ _ _ dX7_leaves_12 rfl
theorem c_X7_leaves_p {lc : Launch} {E : cp_En} {cnt : Nat} {sh : cp_Shp} {R : cp_Rem} {J : cp_Mem} {m : Nat} {f : Nat → Int32} {r : Nat → Nat → Int32} {a : Nat → Int32} (M : cp_ML sh R m) {n p : Nat} {P : cp_PP} {lq : List Nat} {v1 : Int32} (h1 : v1 = nI p) (hW : cp_MW a n P (cp_LL n P lq)) (hV : cp_PV n P lq) (hp : p < n) (h3 : P p 4 ≠ 3) : cp_Fr lc E yX7_leaves cX7_leaves 6 none 3 [.ref m, .int v1] cnt sh (cp_ma J m f r a) R none (fun I' => ∃ a1, I' = cp_ma J m f r a1 ∧ cp_MW a1 n P (fun q => (cp_LL n P lq q).filter (fun j => decide (j ≠ p))) ∧ ∀ x, (x < 8 ∨ 158 ≤ x) → a1 x = a x) := by
  have hn24 := hV.1
  have hp4 := hW.1 p hp 4 (by decide)
  have hp0 : a (158 + 9 * p) = P p 0 := hW.1 p hp 0 (by decide)
  have go : ∀ (q k : Nat), q < 6 → cp_qo a p = nI q → (cp_LL n P lq q).Nodup → (∀ x ∈ cp_LL n P lq q, x < n) → k < (cp_LL n P lq q).length → (cp_LL n P lq q).getD k 0 = p → (∀ q', q' < 6 → q' ≠ q → p ∉ cp_LL n P lq q') → cp_Fr lc E yX7_leaves cX7_leaves 6 none 3 [.ref m, .int v1] cnt sh (cp_ma J m f r a) R none (fun I' => ∃ a1, I' = cp_ma J m f r a1 ∧ cp_MW a1 n P (fun q => (cp_LL n P lq q).filter (fun j => decide (j ≠ p))) ∧ ∀ x, (x < 8 ∨ 158 ≤ x) → a1 x = a x) := by
    intro q k hq hqo hnd hlt hk hkp hoth
    refine cp_Fr_of (c_X7_leaves M h1 (by omega) hq hqo (hW.2 q hq) (fun j hj => Nat.lt_of_lt_of_le (hlt _ (cp_getD_in hj)) hn24) hk hkp (cp_fstI hnd hk hkp)) ⟨_, rfl, cp_MW_L (cp_MW_lv hW hq hk) fun q' hq' => ?_, fun x hx => cp_lv_hi hq (by have := (hW.2 q hq).2.1; omega) hx⟩
    show (cp_LL n P lq q').filter _ = cp_uL _ q _ q'
    unfold cp_uL
    by_cases e : q' = q
    · subst e
      rw [if_pos rfl, cp_erI hnd hk hkp]
    · rw [if_neg e]
      exact cp_fil_no (hoth q' hq' e)
  rcases (hV.2.1 p hp).2 with h | h | h | h
  · obtain ⟨d, hd, hd0⟩ := (hV.2.1 p hp).1
    have hm : p ∈ cp_LL n P lq d := by rw [cp_LLd _ _ _ hd]; exact cp_dq_in.mpr ⟨hp, h, hd0⟩
    obtain ⟨k, hk, hkp⟩ := cp_mem_ix hm
    refine go d k (by omega) (by unfold cp_qo; rw [hp4, h, if_pos rfl, hp0]; exact hd0) (by rw [cp_LLd _ _ _ hd]; exact cp_dq_nd _ _ _) (fun x hx => by rw [cp_LLd _ _ _ hd] at hx; exact (cp_dq_in.mp hx).1) hk hkp fun q' hq' hne hm2 => ?_
    by_cases h5 : q' = 5
    · subst h5
      rw [cp_LL5] at hm2
      have := ((hV.2.2.2 p).mp hm2).2
      rw [h] at this
      exact absurd this (by decide)
    · rw [cp_LLd _ _ _ (by omega)] at hm2
      have h2 := (cp_dq_in.mp hm2).2.2
      exact hne ((nI_eq (by omega) (by omega)).mp (h2.symm.trans hd0))
  · have hm : p ∈ cp_LL n P lq 5 := by rw [cp_LL5]; exact (hV.2.2.2 p).mpr ⟨hp, h⟩
    obtain ⟨k, hk, hkp⟩ := cp_mem_ix hm
    refine go 5 k (by omega) (by unfold cp_qo; rw [hp4, h, if_neg (by decide), if_pos rfl]; rfl) (by rw [cp_LL5]; exact hV.2.2.1) (fun x hx => by rw [cp_LL5] at hx; exact ((hV.2.2.2 x).mp hx).1) hk hkp fun q' hq' hne hm2 => ?_
    rw [cp_LLd _ _ _ (by omega)] at hm2
    have h2 := (cp_dq_in.mp hm2).2.1
    rw [h] at h2
    exact absurd h2 (by decide)
  · refine cp_Fr_of (c_X7_leaves_n M h1 (by omega) (by unfold cp_qo; rw [hp4, h, if_neg (by decide), if_neg (by decide)])) ⟨a, rfl, cp_MW_L hW fun q hq => ?_, fun _ _ => rfl⟩
    refine cp_fil_no fun hm => ?_
    by_cases h5 : q = 5
    · subst h5
      rw [cp_LL5] at hm
      have := ((hV.2.2.2 p).mp hm).2
      rw [h] at this
      exact absurd this (by decide)
    · rw [cp_LLd _ _ _ (by omega)] at hm
      have h2 := (cp_dq_in.mp hm).2.1
      rw [h] at h2
      exact absurd h2 (by decide)
  · exact absurd h h3
set_option maxHeartbeats 4000000 in
set_option maxRecDepth 100000 in
theorem c_X7_isOnLatest {lc : Launch} {E : cp_En} {cnt : Nat} {sh : cp_Shp} {R : cp_Rem} {J : cp_Mem} {m : Nat} {f : Nat → Int32} {r : Nat → Nat → Int32} {a : Nat → Int32} (M : cp_ML sh R m) {v1 : Int32} {p np mk : Nat} {Q : cp_PP} (h1 : v1 = nI p) (hnp : np ≤ 8) (hmk : mk ≤ np) (h7 : a 7 = nI mk) (hQ : ∀ j, j < np → a (374 + 4 * j + 3) = Q j 2) : cp_Fn lc E yX7_isOnLatest cX7_isOnLatest 2 (some .boolean) 1 [.ref m, .int v1] cnt sh (cp_ma J m f r a) R (some (.int (cp_bi (cp_ol mk Q p)))) (cp_ma J m f r a) := by
  refine cp_Fn_i [some (.ref m), some (.int v1)] (by decide +kernel) (Nat.le_of_ble_eq_true rfl) rfl (cp_bin _) (fun x hxl O hr => ?_)
  subst hxl
  refine cp_aload_n O dX7_isOnLatest_0 cp_lg0 ?_
  refine fg_X7_7 O M.s M.f0 dX7_isOnLatest_1 ?_
  refine cp_bipush O dX7_isOnLatest_4 (v := 7) rfl ?_
  refine cp_ialdA O M (j := 7) rfl (by omega) dX7_isOnLatest_6 ?_
  rw [h7]
  refine cp_if_le (tgt := 36) O dX7_isOnLatest_7 (by decide) (fun c_7 => ?_) (fun c_7 => ?_)
  · have h0 : ¬ 0 < mk := fun h => nI_nle h (by omega) c_7
    refine cp_iconst O dX7_isOnLatest_36 (v := 0) rfl ?_
    exact hr _ _ _ _ dX7_isOnLatest_37 (by unfold cp_ol; first | (rw [decide_eq_false h0]; rfl) | (rw [decide_eq_true h0, decide_eq_true c_29]; rfl) | (rw [decide_eq_false c_29, Bool.and_false]; rfl)) rfl
  · have h0 : 0 < mk := Nat.pos_of_ne_zero (fun h => c_7 (by rw [h]; decide))
    refine cp_aload_n O dX7_isOnLatest_10 cp_lg0 ?_
    refine cp_aload_n O dX7_isOnLatest_11 cp_lg0 ?_
    refine fg_X7_7 O M.s M.f0 dX7_isOnLatest_12 ?_
    refine cp_bipush O dX7_isOnLatest_15 (v := 7) rfl ?_
    refine cp_ialdA O M (j := 7) rfl (by omega) dX7_isOnLatest_17 ?_
    refine cp_iconst O dX7_isOnLatest_18 (v := 1) rfl ?_
    refine cp_isub O dX7_isOnLatest_19 ?_
    refine cp_iconst O dX7_isOnLatest_20 (v := 3) rfl ?_
    refine cp_cVi O me_X7_plateAt mi_X7_plateAt ml_X7_85 cp_cX7 M.s (cp_Fn_eq (v' := some (.int (Q (mk - 1) 2))) (c_X7_plateAt (j := (mk - 1)) (q := 3) M (cp_sb h7 rfl (by omega)) rfl (by omega) (by omega)) (by rw [hQ (mk - 1) (by omega)]) rfl) dX7_isOnLatest_21 rfl rfl ⟨Nat.le_of_ble_eq_true rfl, Nat.le_of_ble_eq_true rfl⟩ ⟨Nat.le_refl _, Nat.le_refl _⟩ (Nat.le_of_ble_eq_true rfl) ?_
    refine cp_iload_n O dX7_isOnLatest_24 cp_lg1 ?_
    subst h1
    refine cp_ishr O dX7_isOnLatest_25 ?_
    refine cp_iconst O dX7_isOnLatest_26 (v := 1) rfl ?_
    refine cp_iand O dX7_isOnLatest_27 ?_
    refine cp_iconst O dX7_isOnLatest_28 (v := 1) rfl ?_
    refine cp_icmp_ne (tgt := 36) O dX7_isOnLatest_29 (by decide) (fun c_29 => ?_) (fun c_29 => ?_)
    · refine cp_iconst O dX7_isOnLatest_36 (v := 0) rfl ?_
      exact hr _ _ _ _ dX7_isOnLatest_37 (by unfold cp_ol; first | (rw [decide_eq_false h0]; rfl) | (rw [decide_eq_true h0, decide_eq_true c_29]; rfl) | (rw [decide_eq_false c_29, Bool.and_false]; rfl)) rfl
    · refine cp_iconst O dX7_isOnLatest_32 (v := 1) rfl ?_
      refine cp_goto (tgt := 37) O dX7_isOnLatest_33 (by decide) ?_
      exact hr _ _ _ _ dX7_isOnLatest_37 (by unfold cp_ol; first | (rw [decide_eq_false h0]; rfl) | (rw [decide_eq_true h0, decide_eq_true c_29]; rfl) | (rw [decide_eq_false c_29, Bool.and_false]; rfl)) rfl
set_option maxHeartbeats 4000000 in
set_option maxRecDepth 100000 in
theorem c_X7_isDueSoon {lc : Launch} {E : cp_En} {cnt : Nat} {sh : cp_Shp} {R : cp_Rem} {J : cp_Mem} {m : Nat} {f : Nat → Int32} {r : Nat → Nat → Int32} {a : Nat → Int32} (M : cp_ML sh R m) {np mi e : Nat} {Q : cp_PP} (hnp : np ≤ 8) (h6 : a 6 = nI np) (h4 : a 4 = nI mi) (h3 : a 3 = nI e) (hmi : mi ≤ 100000) (he : e ≤ 100000) (hQ : ∀ j, j < np → a (374 + 4 * j + 0) = Q j 0) : cp_Fn lc E yX7_isDueSoon cX7_isDueSoon 3 (some .boolean) 1 [.ref m] cnt sh (cp_ma J m f r a) R (some (.int (cp_bi (cp_any (fun j => cp_rg mi ((mi + e : Nat) : Int) (Q j 0)) np)))) (cp_ma J m f r a) := by
  refine cp_Fn_i [some (.ref m), none, none] (by decide +kernel) (Nat.le_of_ble_eq_true rfl) rfl (cp_bin _) (fun x hxl O hr => ?_)
  subst hxl
  refine cp_iconst O dX7_isDueSoon_0 (v := 0) rfl ?_
  refine cp_istore_n O dX7_isDueSoon_1 (by decide) (cp_ls1 rfl) ?_
  refine cp_iconst O dX7_isDueSoon_2 (v := 0) rfl ?_
  refine cp_istore_n O dX7_isDueSoon_3 (by decide) (cp_ls2 rfl) ?_
  have loop4 : ∀ c, c ≤ np → cp_G x E 3 0 0 cnt sh (cp_ma J m f r a) R 4 [some (.ref m), some (.int (cp_bi (cp_any (fun j => cp_rg mi ((mi + e : Nat) : Int) (Q j 0)) c))), some (.int (nI c))] [] := by
    refine cp_up (fun c hc ih => ?_)
    refine cp_iload_n O dX7_isDueSoon_4 cp_lg2 ?_
    refine cp_aload_n O dX7_isDueSoon_5 cp_lg0 ?_
    refine fg_X7_7 O M.s M.f0 dX7_isDueSoon_6 ?_
    refine cp_bipush O dX7_isDueSoon_9 (v := 6) rfl ?_
    refine cp_ialdA O M (j := 6) rfl (by omega) dX7_isDueSoon_11 ?_
    refine cp_icmp_geN (tgt := 65) O dX7_isDueSoon_12 (by decide) (a := c) (b := np) rfl h6 (by omega) (by omega) (fun c_12 => ?_) (fun c_12 => ?_)
    · obtain rfl : np = c := by omega
      refine cp_iload_n O dX7_isDueSoon_65 cp_lg1 ?_
      exact hr _ _ _ _ dX7_isDueSoon_66 rfl rfl
    · refine cp_iload_n O dX7_isDueSoon_15 cp_lg1 ?_
      refine cp_if_neB (tgt := 53) O dX7_isDueSoon_16 (by decide) (fun c_16 => ?_) (fun c_16 => ?_)
      · refine cp_iconst O dX7_isDueSoon_53 (v := 1) rfl ?_
        refine cp_goto (tgt := 58) O dX7_isDueSoon_54 (by decide) ?_
        refine cp_istore_n O dX7_isDueSoon_58 (by decide) (cp_ls1 rfl) ?_
        refine cp_iinc O dX7_isDueSoon_59 cp_lg2 (cp_inc rfl) (by decide) (cp_ls2 rfl) ?_
        refine cp_goto (tgt := 4) O dX7_isDueSoon_62 (by decide) ?_
        have hs : cp_any (fun j => cp_rg mi ((mi + e : Nat) : Int) (Q j 0)) (c + 1) = (cp_any (fun j => cp_rg mi ((mi + e : Nat) : Int) (Q j 0)) c || cp_rg mi ((mi + e : Nat) : Int) (Q c 0)) := rfl
        have ih2 := ih c_12
        rw [hs] at ih2
        first
          | (rw [c_16] at ih2; exact ih2)
          | (rw [c_50, Bool.or_true] at ih2; exact ih2)
          | (rw [c_16, c_50] at ih2; exact ih2)
      · refine cp_aload_n O dX7_isDueSoon_19 cp_lg0 ?_
        refine cp_iload_n O dX7_isDueSoon_20 cp_lg2 ?_
        refine cp_iconst O dX7_isDueSoon_21 (v := 0) rfl ?_
        refine cp_cVi O me_X7_plateAt mi_X7_plateAt ml_X7_85 cp_cX7 M.s (cp_Fn_eq (v' := some (.int (Q c 0))) (c_X7_plateAt (j := c) (q := 0) M rfl rfl (by omega) (by omega)) (by rw [hQ c (by omega)]) rfl) dX7_isDueSoon_22 rfl rfl ⟨Nat.le_of_ble_eq_true rfl, Nat.le_of_ble_eq_true rfl⟩ ⟨Nat.le_refl _, Nat.le_refl _⟩ (Nat.le_of_ble_eq_true rfl) ?_
        refine cp_i2l O dX7_isDueSoon_25 ?_
        refine cp_aload_n O dX7_isDueSoon_26 cp_lg0 ?_
        refine fg_X7_7 O M.s M.f0 dX7_isDueSoon_27 ?_
        refine cp_iconst O dX7_isDueSoon_30 (v := 4) rfl ?_
        refine cp_ialdA O M (j := 4) rfl (by omega) dX7_isDueSoon_31 ?_
        refine cp_i2l O dX7_isDueSoon_32 ?_
        refine cp_aload_n O dX7_isDueSoon_33 cp_lg0 ?_
        refine fg_X7_7 O M.s M.f0 dX7_isDueSoon_34 ?_
        refine cp_iconst O dX7_isDueSoon_37 (v := 4) rfl ?_
        refine cp_ialdA O M (j := 4) rfl (by omega) dX7_isDueSoon_38 ?_
        refine cp_aload_n O dX7_isDueSoon_39 cp_lg0 ?_
        refine fg_X7_7 O M.s M.f0 dX7_isDueSoon_40 ?_
        refine cp_iconst O dX7_isDueSoon_43 (v := 3) rfl ?_
        refine cp_ialdA O M (j := 3) rfl (by omega) dX7_isDueSoon_44 ?_
        refine cp_iadd O dX7_isDueSoon_45 ?_
        refine cp_i2l O dX7_isDueSoon_46 ?_
        refine cp_cSi O me_X7_in ms_X7_in ml_X7_35 (c_X7_in) dX7_isDueSoon_47 rfl rfl ⟨Nat.le_of_ble_eq_true rfl, Nat.le_of_ble_eq_true rfl⟩ ⟨Nat.le_refl _, Nat.le_refl _⟩ (Nat.le_of_ble_eq_true rfl) ?_
        rw [h4, h3, nI_add, cp_in_rg (l := mi) (h := ((mi + e : Nat) : Int)) (by rw [Int32.toInt_toInt64, nI_toInt (by omega)]) (by rw [Int32.toInt_toInt64, nI_toInt (by omega)])]
        refine cp_if_eqB (tgt := 57) O dX7_isDueSoon_50 (by decide) (fun c_50 => ?_) (fun c_50 => ?_)
        · refine cp_iconst O dX7_isDueSoon_57 (v := 0) rfl ?_
          refine cp_istore_n O dX7_isDueSoon_58 (by decide) (cp_ls1 rfl) ?_
          refine cp_iinc O dX7_isDueSoon_59 cp_lg2 (cp_inc rfl) (by decide) (cp_ls2 rfl) ?_
          refine cp_goto (tgt := 4) O dX7_isDueSoon_62 (by decide) ?_
          have hs : cp_any (fun j => cp_rg mi ((mi + e : Nat) : Int) (Q j 0)) (c + 1) = (cp_any (fun j => cp_rg mi ((mi + e : Nat) : Int) (Q j 0)) c || cp_rg mi ((mi + e : Nat) : Int) (Q c 0)) := rfl
          have ih2 := ih c_12
          rw [hs] at ih2
          first
            | (rw [c_16] at ih2; exact ih2)
            | (rw [c_50, Bool.or_true] at ih2; exact ih2)
            | (rw [c_16, c_50] at ih2; exact ih2)
        · refine cp_iconst O dX7_isDueSoon_53 (v := 1) rfl ?_
          refine cp_goto (tgt := 58) O dX7_isDueSoon_54 (by decide) ?_
          refine cp_istore_n O dX7_isDueSoon_58 (by decide) (cp_ls1 rfl) ?_
          refine cp_iinc O dX7_isDueSoon_59 cp_lg2 (cp_inc rfl) (by decide) (cp_ls2 rfl) ?_
          refine cp_goto (tgt := 4) O dX7_isDueSoon_62 (by decide) ?_
          have hs : cp_any (fun j => cp_rg mi ((mi + e : Nat) : Int) (Q j 0)) (c + 1) = (cp_any (fun j => cp_rg mi ((mi + e : Nat) : Int) (Q j 0)) c || cp_rg mi ((mi + e : Nat) : Int) (Q c 0)) := rfl
          have ih2 := ih c_12
          rw [hs] at ih2
          first
            | (rw [c_16] at ih2; exact ih2)
            | (rw [c_50, Bool.or_true] at ih2; exact ih2)
            | (rw [c_16, c_50] at ih2; exact ih2)
  exact loop4 0 (Nat.zero_le _)
theorem cp_NV_K {N : cp_Nt} (h : cp_NV N) {p : Nat} (hp : p < cp_tn N) : cp_NV (cp_sK N p) := by
  obtain ⟨h1, h2, h3, h4, h5⟩ := h
  refine ⟨h1, h2, ?_, cp_PN_wi h4 (Or.inl rfl), h5⟩
  show cp_PV (cp_tn N) (cp_wi (cp_tP N) p 4 3) ((cp_tl N).erase p)
  exact cp_PV_off h3 (Or.inr rfl)
set_option maxHeartbeats 4000000 in
set_option maxRecDepth 100000 in
theorem c_X7_doKill {lc : Launch} {E : cp_En} {cnt : Nat} {sh : cp_Shp} {R : cp_Rem} {J : cp_Mem} {m : Nat} {f : Nat → Int32} {r : Nat → Nat → Int32} {a : Nat → Int32} (M : cp_ML sh R m) {N : cp_Nt} (hA : cp_MA a N) (hV : cp_NV N) {v1 : Int32} : cp_Fr lc E yX7_doKill cX7_doKill 4 (some .int) 4 [.ref m, .int v1] cnt sh (cp_ma J m f r a) R (some (.int ((cp_sKill N v1).1))) (fun I' => ∃ a', I' = cp_ma J m f r a' ∧ cp_MA a' (cp_sKill N v1).2) := by
  obtain ⟨hAS, hA4, hA5, hAW, hAQ⟩ := id hA
  obtain ⟨hVS, hVm, hVP, hVN, hVQ⟩ := id hV
  have hn24 := hVP.1
  have hnp8 := hAQ.1
  obtain ⟨e, he1, he2, he3⟩ := hVS.2.2.2
  have hA3 : a 3 = nI e := (hAS 3 (by decide)).trans he3
  refine cp_Fn_iR [some (.ref m), some (.int v1), none, none] (by decide +kernel) (Nat.le_of_ble_eq_true rfl) rfl rfl (fun x hxl O hr => ?_)
  subst hxl
  refine cp_aload_n O dX7_doKill_0 cp_lg0 ?_
  refine cp_iload_n O dX7_doKill_1 cp_lg1 ?_
  refine cp_cVi O me_X7_isPiece mi_X7_isPiece ml_X7_114 cp_cX7 M.s (c_X7_isPiece (n := cp_tn N) M hA5 hn24) dX7_doKill_2 rfl rfl ⟨Nat.le_of_ble_eq_true rfl, Nat.le_of_ble_eq_true rfl⟩ ⟨Nat.le_refl _, Nat.le_refl _⟩ (Nat.le_of_ble_eq_true rfl) ?_
  refine cp_if_neB (tgt := 10) O dX7_doKill_5 (by decide) (fun c_5 => ?_) (fun c_5 => ?_)
  · obtain ⟨p, hp, rfl⟩ := (cp_ip_iff (by omega)).mp c_5
    have hpp := hAW.1 p hp
    refine cp_aload_n O dX7_doKill_10 cp_lg0 ?_
    refine cp_iload_n O dX7_doKill_11 cp_lg1 ?_
    refine cp_iconst O dX7_doKill_12 (v := 4) rfl ?_
    refine cp_cVi O me_X7_of mi_X7_of ml_X7_39 cp_cX7 M.s (c_X7_ofe (w := cp_tP N p 4) (p := p) (q := 4) M rfl rfl (by omega) (by omega) (hpp 4 (by decide))) dX7_doKill_13 rfl rfl ⟨Nat.le_of_ble_eq_true rfl, Nat.le_of_ble_eq_true rfl⟩ ⟨Nat.le_refl _, Nat.le_refl _⟩ (Nat.le_of_ble_eq_true rfl) ?_
    refine cp_iconst O dX7_doKill_16 (v := 3) rfl ?_
    refine cp_icmp_ne (tgt := 23) O dX7_doKill_17 (by decide) (fun c_17 => ?_) (fun c_17 => ?_)
    · refine cp_aload_n O dX7_doKill_23 cp_lg0 ?_
      refine cp_iload_n O dX7_doKill_24 cp_lg1 ?_
      refine cp_cVvr O me_X7_leaves mi_X7_leaves ml_X7_57 cp_cX7 M.s (c_X7_leaves_p M rfl hAW hVP hp c_17) dX7_doKill_25 rfl rfl ⟨Nat.le_of_ble_eq_true rfl, Nat.le_of_ble_eq_true rfl⟩ ⟨Nat.le_refl _, Nat.le_refl _⟩ (Nat.le_of_ble_eq_true rfl) (fun I25 hT25 => ?_)
      obtain ⟨a1, rfl, hW1, hx1⟩ := hT25
      refine cp_aload_n O dX7_doKill_28 cp_lg0 ?_
      refine cp_iload_n O dX7_doKill_29 cp_lg1 ?_
      refine cp_iconst O dX7_doKill_30 (v := 4) rfl ?_
      refine cp_iconst O dX7_doKill_31 (v := 3) rfl ?_
      refine cp_cVv O me_X7_sets mi_X7_sets ml_X7_53 cp_cX7 M.s (c_X7_sets (p := p) (q := 4) M rfl rfl (by omega) (by omega)) dX7_doKill_32 rfl rfl ⟨Nat.le_of_ble_eq_true rfl, Nat.le_of_ble_eq_true rfl⟩ ⟨Nat.le_refl _, Nat.le_refl _⟩ (Nat.le_of_ble_eq_true rfl) ?_
      have hB := cp_MA_K hA hV hp hW1 hx1
      have hVB := cp_NV_K hV hp
      generalize upd a1 (158 + 9 * p + 4) 3 = a2 at hB ⊢
      have hB4 : a2 4 = nI (cp_tm N) := hB.2.1
      have hB3 : a2 3 = cp_tS N 3 := hB.1 3 (by decide)
      have hB7 : a2 7 = nI (cp_mkN N) := hB.2.2.2.2.2.2.2
      have hmk : cp_mkN N ≤ cp_tp N := cp_cnt_le _ _
      have hBQ : ∀ j, j < cp_tp N → a2 (374 + 4 * j + 3) = cp_tQ N j 2 := fun j hj => (hB.2.2.2.2.2.2.1 j hj).2.2.2.2
      have hB0 : ∀ j, j < cp_tp N → a2 (374 + 4 * j + 0) = cp_tQ N j 0 := fun j hj => (hB.2.2.2.2.2.2.1 j hj).2.1
      have hB6 : a2 6 = nI (cp_tp N) := hB.2.2.2.2.2.1
      refine cp_aload_n O dX7_doKill_35 cp_lg0 ?_
      refine fg_X7_7 O M.s M.f0 dX7_doKill_36 ?_
      refine cp_iconst O dX7_doKill_39 (v := 4) rfl ?_
      refine cp_ialdA O M (j := 4) rfl (by omega) dX7_doKill_40 ?_
      refine cp_aload_n O dX7_doKill_41 cp_lg0 ?_
      refine fg_X7_7 O M.s M.f0 dX7_doKill_42 ?_
      refine cp_iconst O dX7_doKill_45 (v := 3) rfl ?_
      refine cp_ialdA O M (j := 3) rfl (by omega) dX7_doKill_46 ?_
      refine cp_iadd O dX7_doKill_47 ?_
      rw [hB4, hB3]
      refine cp_istore_n O dX7_doKill_48 (by decide) (cp_ls2 rfl) ?_
      refine cp_aload_n O dX7_doKill_49 cp_lg0 ?_
      refine cp_iload_n O dX7_doKill_50 cp_lg1 ?_
      refine cp_cVi O me_X7_isOnLatest mi_X7_isOnLatest ml_X7_117 cp_cX7 M.s (c_X7_isOnLatest (p := p) (np := cp_tp N) (mk := cp_mkN N) (Q := cp_tQ N) M rfl hnp8 hmk hB7 hBQ) dX7_doKill_51 rfl rfl ⟨Nat.le_of_ble_eq_true rfl, Nat.le_of_ble_eq_true rfl⟩ ⟨Nat.le_refl _, Nat.le_refl _⟩ (Nat.le_of_ble_eq_true rfl) ?_
      refine cp_if_eqB (tgt := 83) O dX7_doKill_54 (by decide) (fun c_54 => ?_) (fun c_54 => ?_)
      · have hds : cp_dsN N (cp_tS N 3).toInt.toNat = cp_any (fun j => cp_rg (cp_tm N) ((cp_tm N + e : Nat) : Int) (cp_tQ N j 0)) (cp_tp N) := by rw [he3, cp_nIt (by omega)]; rfl
        have e0 : cp_sKill N (nI p) = (0, cp_sK N p) := by
          unfold cp_sKill
          rw [if_pos c_5, cp_nIt (by omega), if_neg c_17, if_neg]
          unfold cp_kc
          rw [hds]
          first | (rw [c_54]; simp; done) | (rw [c_61]; simp; done) | (rw [c_73]; simp; done) | (rw [decide_eq_false (c_80)]; simp; done)
        rw [e0] at hr
        refine cp_iconst O dX7_doKill_83 (v := 0) rfl ?_
        exact hr _ _ _ _ dX7_doKill_84 rfl ⟨a2, rfl, hB⟩
      · refine cp_aload_n O dX7_doKill_57 cp_lg0 ?_
        refine cp_cVi O me_X7_isDueSoon mi_X7_isDueSoon ml_X7_120 cp_cX7 M.s (c_X7_isDueSoon (np := cp_tp N) (mi := cp_tm N) (e := e) (Q := cp_tQ N) M hnp8 hB6 hB4 (hB3.trans he3) (by omega) (by omega) hB0) dX7_doKill_58 rfl rfl ⟨Nat.le_of_ble_eq_true rfl, Nat.le_of_ble_eq_true rfl⟩ ⟨Nat.le_refl _, Nat.le_refl _⟩ (Nat.le_of_ble_eq_true rfl) ?_
        refine cp_if_neB (tgt := 83) O dX7_doKill_61 (by decide) (fun c_61 => ?_) (fun c_61 => ?_)
        · have hds : cp_dsN N (cp_tS N 3).toInt.toNat = cp_any (fun j => cp_rg (cp_tm N) ((cp_tm N + e : Nat) : Int) (cp_tQ N j 0)) (cp_tp N) := by rw [he3, cp_nIt (by omega)]; rfl
          have e0 : cp_sKill N (nI p) = (0, cp_sK N p) := by
            unfold cp_sKill
            rw [if_pos c_5, cp_nIt (by omega), if_neg c_17, if_neg]
            unfold cp_kc
            rw [hds]
            first | (rw [c_54]; simp; done) | (rw [c_61]; simp; done) | (rw [c_73]; simp; done) | (rw [decide_eq_false (c_80)]; simp; done)
          rw [e0] at hr
          refine cp_iconst O dX7_doKill_83 (v := 0) rfl ?_
          exact hr _ _ _ _ dX7_doKill_84 rfl ⟨a2, rfl, hB⟩
        · refine cp_aload_n O dX7_doKill_64 cp_lg0 ?_
          refine fg_X7_7 O M.s M.f0 dX7_doKill_65 ?_
          refine cp_bipush O dX7_doKill_68 (v := 6) rfl ?_
          refine cp_ialdA O M (j := 6) rfl (by omega) dX7_doKill_70 ?_
          refine cp_bipush O dX7_doKill_71 (v := 8) rfl ?_
          refine cp_icmp_eqN (tgt := 83) O dX7_doKill_73 (by decide) (a := (cp_tp N)) (b := 8) hB6 rfl (by omega) (by omega) (fun c_73 => ?_) (fun c_73 => ?_)
          · have hds : cp_dsN N (cp_tS N 3).toInt.toNat = cp_any (fun j => cp_rg (cp_tm N) ((cp_tm N + e : Nat) : Int) (cp_tQ N j 0)) (cp_tp N) := by rw [he3, cp_nIt (by omega)]; rfl
            have e0 : cp_sKill N (nI p) = (0, cp_sK N p) := by
              unfold cp_sKill
              rw [if_pos c_5, cp_nIt (by omega), if_neg c_17, if_neg]
              unfold cp_kc
              rw [hds]
              first | (rw [c_54]; simp; done) | (rw [c_61]; simp; done) | (rw [c_73]; simp; done) | (rw [decide_eq_false (c_80)]; simp; done)
            rw [e0] at hr
            refine cp_iconst O dX7_doKill_83 (v := 0) rfl ?_
            exact hr _ _ _ _ dX7_doKill_84 rfl ⟨a2, rfl, hB⟩
          · refine cp_iload_n O dX7_doKill_76 cp_lg2 ?_
            refine cp_sipush O dX7_doKill_77 (v := 599) rfl ?_
            refine cp_icmp_le (tgt := 85) O dX7_doKill_80 (by decide) (fun c_80 => ?_) (fun c_80 => ?_)
            · have hds : cp_dsN N (cp_tS N 3).toInt.toNat = cp_any (fun j => cp_rg (cp_tm N) ((cp_tm N + e : Nat) : Int) (cp_tQ N j 0)) (cp_tp N) := by rw [he3, cp_nIt (by omega)]; rfl
              have e1 : cp_sKill N (nI p) = (1, (cp_sTell (cp_sK N p) (nI (cp_tm N) + cp_tS N 3) 1).2) := by
                unfold cp_sKill
                rw [if_pos c_5, cp_nIt (by omega), if_neg c_17, if_pos]
                unfold cp_kc
                rw [hds, c_54, c_61, decide_eq_true c_73, decide_eq_true c_80]
                rfl
              rw [e1] at hr
              have hm9 : cp_tm N + e ≤ 599 := by
                have h := c_80
                rw [he3, nI_add, show (599 : Int32) = nI 599 from rfl, nI_leI (by omega) (by omega)] at h
                exact h
              have h8 : cp_tp (cp_sK N p) < 8 := by show cp_tp N < 8; omega
              refine cp_aload_n O dX7_doKill_85 cp_lg0 ?_
              refine cp_iload_n O dX7_doKill_86 cp_lg2 ?_
              refine cp_iconst O dX7_doKill_87 (v := 1) rfl ?_
              refine cp_cVi O me_X7_tells mi_X7_tells ml_X7_111 cp_cX7 M.s (c_X7_tells (N := cp_sK N p) M hB hVB h8) dX7_doKill_88 rfl rfl ⟨Nat.le_of_ble_eq_true rfl, Nat.le_of_ble_eq_true rfl⟩ ⟨Nat.le_refl _, Nat.le_refl _⟩ (Nat.le_of_ble_eq_true rfl) ?_
              refine cp_istore_n O dX7_doKill_91 (by decide) (cp_ls3 rfl) ?_
              refine cp_iconst O dX7_doKill_92 (v := 1) rfl ?_
              exact hr _ _ _ _ dX7_doKill_93 rfl ⟨_, rfl, cp_MA_tell hB hVB h8 ⟨cp_tm N + e, by omega, Nat.le_add_right _ _, by rw [he3, nI_add]⟩⟩
            · have hds : cp_dsN N (cp_tS N 3).toInt.toNat = cp_any (fun j => cp_rg (cp_tm N) ((cp_tm N + e : Nat) : Int) (cp_tQ N j 0)) (cp_tp N) := by rw [he3, cp_nIt (by omega)]; rfl
              have e0 : cp_sKill N (nI p) = (0, cp_sK N p) := by
                unfold cp_sKill
                rw [if_pos c_5, cp_nIt (by omega), if_neg c_17, if_neg]
                unfold cp_kc
                rw [hds]
                first | (rw [c_54]; simp; done) | (rw [c_61]; simp; done) | (rw [c_73]; simp; done) | (rw [decide_eq_false (c_80)]; simp; done)
              rw [e0] at hr
              refine cp_iconst O dX7_doKill_83 (v := 0) rfl ?_
              exact hr _ _ _ _ dX7_doKill_84 rfl ⟨a2, rfl, hB⟩
    · have e : cp_sKill N (nI p) = (-5, N) := by
        unfold cp_sKill
        rw [if_pos c_5, cp_nIt (by omega), if_pos c_17]
      rw [e] at hr
      refine cp_bipush O dX7_doKill_20 (v := (-5)) rfl ?_
      exact hr _ _ _ _ dX7_doKill_22 rfl ⟨a, rfl, hA⟩
  · have e : cp_sKill N v1 = (-1, N) := by
      unfold cp_sKill
      rw [if_neg (by rw [c_5]; decide)]
    rw [e] at hr
    refine cp_iconst O dX7_doKill_8 (v := (-1)) rfl ?_
    exact hr _ _ _ _ dX7_doKill_9 rfl ⟨a, rfl, hA⟩
