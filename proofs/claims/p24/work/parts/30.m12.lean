theorem cp_four {q : Nat} (h : q ≤ 3) : q = 0 ∨ q = 1 ∨ q = 2 ∨ q = 3 := by omega
theorem cp_opl {a : Nat → Int32} {N : cp_Nt} {j q : Nat} (hQ : cp_MQ a (cp_tm N) (cp_tp N) (cp_tQ N)) (hj : j < cp_tp N) (hq : q ≤ 3) (hip : cp_ip (cp_tp N) (nI j) = true) : a (374 + 4 * j + q) = cp_sOfPlate N (nI j) (nI q) := by
  obtain ⟨g1, g2, g3, g4, g5⟩ := hQ.2.2.1 j hj
  have h8 := hQ.1
  unfold cp_sOfPlate
  rw [if_pos hip, cp_nIt (by omega)]
  rcases cp_four hq with rfl | rfl | rfl | rfl
  · exact g2
  · exact g3
  · exact g4
  · exact g5
theorem cp_cnt0 {a : Nat → Int32} {N : cp_Nt} {pad his : Int32} {q : Nat} (hA : cp_MA a N) (hq : q ≤ 3) : a (4 + q) = cp_sCount N pad his (nI q) := by
  rcases cp_four hq with rfl | rfl | rfl | rfl
  · exact hA.2.1
  · exact hA.2.2.1
  · exact hA.2.2.2.2.2.1
  · exact hA.2.2.2.2.2.2.2
theorem cp_cnt4 {N : cp_Nt} {pad his : Int32} {q : Nat} (h4 : 4 ≤ q) (h7 : q ≤ 7) : nI (cp_cnt (fun i => decide (cp_tP N i 4 = nI q - 4)) (cp_tn N)) = cp_sCount N pad his (nI q) := by
  rcases (show q = 4 ∨ q = 5 ∨ q = 6 ∨ q = 7 by omega) with rfl | rfl | rfl | rfl <;> rfl
theorem cp_cnt10 {a : Nat → Int32} {N : cp_Nt} {pad his : Int32} {q : Nat} (hA : cp_MA a N) (h4 : 10 ≤ q) (h7 : q ≤ 13) : a (q - 10) = cp_sCount N pad his (nI q) := by
  rcases (show q = 10 ∨ q = 11 ∨ q = 12 ∨ q = 13 by omega) with rfl | rfl | rfl | rfl
  · exact hA.1 0 (by decide)
  · exact hA.1 1 (by decide)
  · exact hA.1 2 (by decide)
  · exact hA.1 3 (by decide)
theorem cp_rg_no {l h : Nat} {v : Int32} (hr : cp_rg l h v = false) (k : Nat) (hk : k < 2 ^ 31) (h1 : l ≤ k) (h2 : k ≤ h) : v ≠ nI k := fun e => by
  rw [cp_rg_t e hk h1 h2] at hr
  exact absurd hr (by decide)
def cp_lst (tk : Int32) (l : List Nat) : Int32 := l.foldl (fun s q => if cp_bit tk q = 1 then nI q else s) (-6)
theorem cp_lst_s (tk : Int32) {l : List Nat} {k : Nat} (h : k < l.length) : cp_lst tk (l.take (k + 1)) = if cp_bit tk (l.getD k 0) = 1 then nI (l.getD k 0) else cp_lst tk (l.take k) := by
  unfold cp_lst
  rw [List.take_add_one, List.getElem?_eq_getElem h, Option.toList_some, List.foldl_append, cp_gD h]
  rfl
def cp_rsn (P : cp_PP) (tk : Int32) (p : Nat) : Int32 := if P p 4 = 3 then 1 else if P p 5 = 1 then 2 else if P p 4 = 0 then 3 else if P p 4 = 1 then 4 else if cp_bit tk p = 1 then 0 else 5
/-- the first one of the queue in which a piece is -/
def cp_hd (N : cp_Nt) (p : Nat) : Int32 := if cp_tP N p 4 = 0 then nI ((cp_dq (cp_tn N) (cp_tP N) (cp_tP N p 0).toInt.toNat).getD 0 0) else nI ((cp_tl N).getD 0 0)
def cp_now (N : cp_Nt) : Int32 × Int32 := cp_tk (cp_tP N) (cp_tS N 2) (cp_so (cp_tn N) (cp_tP N))
def cp_cau (N : cp_Nt) (p : Nat) : Int32 := if cp_rsn (cp_tP N) (cp_now N).1 p = 3 ∨ cp_rsn (cp_tP N) (cp_now N).1 p = 4 then cp_hd N p else if cp_rsn (cp_tP N) (cp_now N).1 p = 5 then cp_lst (cp_now N).1 ((cp_so (cp_tn N) (cp_tP N)).take ((cp_so (cp_tn N) (cp_tP N)).idxOf p)) else -6
def cp_sWhy (N : cp_Nt) (v w : Int32) : Int32 := if cp_ip (cp_tn N) v = true then (if w = 0 then cp_rsn (cp_tP N) (cp_now N).1 v.toInt.toNat else if w = 1 then cp_cau N v.toInt.toNat else -2) else -1
theorem cp_rsn_34 {P : cp_PP} {tk : Int32} {p : Nat} (h : cp_rsn P tk p = 3 ∨ cp_rsn P tk p = 4) : P p 4 = 0 ∨ P p 4 = 1 := by
  unfold cp_rsn at h
  split at h
  · rcases h with h | h <;> exact absurd h (by decide)
  · split at h
    · rcases h with h | h <;> exact absurd h (by decide)
    · split at h
      · exact Or.inl (by assumption)
      · split at h
        · exact Or.inr (by assumption)
        · split at h <;> rcases h with h | h <;> exact absurd h (by decide)
theorem cp_rsn_5 {P : cp_PP} {tk : Int32} {p : Nat} (h : cp_rsn P tk p = 5) : ¬ P p 4 = 3 ∧ ¬ P p 5 = 1 ∧ ¬ P p 4 = 0 ∧ ¬ P p 4 = 1 := by
  unfold cp_rsn at h
  split at h
  · exact absurd h (by decide)
  · split at h
    · exact absurd h (by decide)
    · split at h
      · exact absurd h (by decide)
      · split at h
        · exact absurd h (by decide)
        · exact ⟨by assumption, by assumption, by assumption, by assumption⟩
theorem cp_rsn_free {n : Nat} {P : cp_PP} {lq : List Nat} {tk : Int32} {p : Nat} (hV : cp_PV n P lq) (hN : cp_PN n P) (hp : p < n) (h : cp_rsn P tk p = 5) : p ∈ cp_so n P := by
  obtain ⟨h1, h2, h3, h4⟩ := cp_rsn_5 h
  refine cp_so_mem.mpr ⟨hp, ?_⟩
  unfold cp_fr
  rw [show P p 4 = 2 by rcases (hV.2.1 p hp).2 with g | g | g | g <;> first | exact g | exact absurd g (by assumption), show P p 5 = 0 by rcases (hN p hp).2.2.2.1 with g | g; exact g; exact absurd g h2]
  rfl
theorem cp_hd_q {a : Nat → Int32} {N : cp_Nt} (hA : cp_MA a N) (hV : cp_NV N) {p : Nat} (hp : p < cp_tn N) (h : cp_tP N p 4 = 0 ∨ cp_tP N p 4 = 1) : ∃ q, q < 6 ∧ cp_qo a p = nI q ∧ a (14 + 24 * q + 0) = cp_hd N p := by
  obtain ⟨hAS, hA4, hA5, hAW, hAQ⟩ := hA
  have hV := hV.2.2.1
  have hp4 := hAW.1 p hp 4 (by decide)
  have hp0 : a (158 + 9 * p) = cp_tP N p 0 := hAW.1 p hp 0 (by decide)
  rcases h with h | h
  · obtain ⟨d, hd, hd0⟩ := (hV.2.1 p hp).1
    refine ⟨d, by omega, by unfold cp_qo; rw [hp4, h, if_pos rfl, hp0]; exact hd0, ?_⟩
    have hq := hAW.2 d (by omega)
    rw [cp_LLd _ _ _ hd] at hq
    have hm : p ∈ cp_dq (cp_tn N) (cp_tP N) d := cp_dq_in.mpr ⟨hp, h, hd0⟩
    rw [hq.2.2 0 (List.length_pos_of_mem hm)]
    unfold cp_hd
    rw [if_pos h, hd0, cp_nIt (by omega)]
  · refine ⟨5, by omega, by unfold cp_qo; rw [hp4, h, if_neg (by decide), if_pos rfl]; rfl, ?_⟩
    have hq := hAW.2 5 (by omega)
    rw [cp_LL5] at hq
    have hm : p ∈ cp_tl N := (hV.2.2.2 p).mpr ⟨hp, h⟩
    rw [hq.2.2 0 (List.length_pos_of_mem hm)]
    unfold cp_hd
    rw [h, if_neg (by decide)]
