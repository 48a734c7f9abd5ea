/-! QUEUES, SETS AND SUMS THAT THE LAW ADDS UP -/
theorem cp_b1z {n i : Nat} (hn : n < 32) (hi : i < 32) : bt ((1 : Int32) <<< (nI n &&& 31)) i = decide (i = n) := by
  rw [b_shl n hn 1 hi, cp_b1 _ (by omega)]
  by_cases h : n ≤ i
  · rw [decide_eq_true h, Bool.true_and]
    by_cases e : i = n
    · rw [decide_eq_true (by omega), decide_eq_true e]
    · rw [decide_eq_false (by omega), decide_eq_false e]
  · rw [decide_eq_false h, Bool.false_and, decide_eq_false (by omega)]
def cp_pls (L : List Nat) : Nat → Int32
  | 0 => 0
  | k + 1 => if k ∈ L then cp_pls L k ||| ((1 : Int32) <<< (nI (L.idxOf k) &&& 31)) else cp_pls L k
def cp_mny (L : List Nat) (k : Nat) : Nat := cp_cnt (fun i => decide (i ∈ L)) k
theorem cp_pls_i {L : List Nat} {k : Nat} (h : k ∈ L) : cp_pls L k ||| ((1 : Int32) <<< (nI (L.idxOf k) &&& 31)) = cp_pls L (k + 1) := by
  show _ = if k ∈ L then cp_pls L k ||| ((1 : Int32) <<< (nI (L.idxOf k) &&& 31)) else cp_pls L k
  rw [if_pos h]
theorem cp_pls_o {L : List Nat} {k : Nat} (h : k ∉ L) : cp_pls L k = cp_pls L (k + 1) := by
  show _ = if k ∈ L then cp_pls L k ||| ((1 : Int32) <<< (nI (L.idxOf k) &&& 31)) else cp_pls L k
  rw [if_neg h]
theorem cp_mny_i {L : List Nat} {k : Nat} (h : k ∈ L) : nI (cp_mny L k) + 1 = nI (cp_mny L (k + 1)) := cp_cnt_t (q := fun i => decide (i ∈ L)) (decide_eq_true h)
theorem cp_mny_o {L : List Nat} {k : Nat} (h : k ∉ L) : cp_mny L k = cp_mny L (k + 1) := by
  show _ = cp_cnt (fun i => decide (i ∈ L)) k + (if decide (k ∈ L) = true then 1 else 0)
  rw [decide_eq_false h]
  rfl
theorem cp_pls_bt {L : List Nat} (hL : L.length ≤ 24) : ∀ k b, b < 32 → (bt (cp_pls L k) b = true ↔ ∃ i, i < k ∧ i ∈ L ∧ L.idxOf i = b)
  | 0, b, _ => by
    rw [show cp_pls L 0 = 0 from rfl, b_0]
    constructor
    · intro h; cases h
    · rintro ⟨i, hi, -⟩; omega
  | k + 1, b, hb => by
    have ih := cp_pls_bt hL k b hb
    by_cases h : k ∈ L
    · have hx := (cp_idx h).1
      rw [← cp_pls_i h, b_or, cp_b1z (by omega) hb, Bool.or_eq_true, ih, decide_eq_true_iff]
      constructor
      · rintro (⟨i, h1, h2, h3⟩ | e)
        · exact ⟨i, by omega, h2, h3⟩
        · exact ⟨k, by omega, h, e.symm⟩
      · rintro ⟨i, h1, h2, h3⟩
        by_cases e : i = k
        · right; rw [← h3, e]
        · left; exact ⟨i, by omega, h2, h3⟩
    · rw [← cp_pls_o h, ih]
      constructor
      · rintro ⟨i, h1, h2, h3⟩; exact ⟨i, by omega, h2, h3⟩
      · rintro ⟨i, h1, h2, h3⟩
        have e : i ≠ k := fun e => h (e ▸ h2)
        exact ⟨i, by omega, h2, h3⟩
theorem cp_nd_ix {l : List Nat} (h : l.Nodup) {b : Nat} (hb : b < l.length) : l.idxOf (l.getD b 0) = b := by
  obtain ⟨h1, h2⟩ := cp_idx (cp_getD_in hb)
  generalize l.idxOf (l.getD b 0) = k at h1 h2 ⊢
  rw [cp_gD h1, cp_gD hb] at h2
  have h3 := List.pairwise_iff_getElem.mp h
  rcases Nat.lt_trichotomy k b with g | g | g
  · exact absurd h2 (h3 k b h1 hb g)
  · exact g
  · exact absurd h2.symm (h3 b k hb h1 g)
theorem cp_cnt_a1 {q q' : Nat → Bool} {x : Nat} (hq : q x = false) (hx : q' x = true) (ho : ∀ i, i ≠ x → q' i = q i) : ∀ n, cp_cnt q' n = cp_cnt q n + (if x < n then 1 else 0)
  | 0 => rfl
  | n + 1 => by
    show cp_cnt q' n + (if q' n = true then 1 else 0) = cp_cnt q n + (if q n = true then 1 else 0) + _
    rw [cp_cnt_a1 hq hx ho n]
    by_cases e : n = x
    · subst e
      rw [hx, hq, if_neg (Nat.lt_irrefl _), if_pos (Nat.lt_succ_self _)]
      rfl
    · rw [ho n e]
      by_cases g : x < n
      · rw [if_pos g, if_pos (show x < n + 1 by omega)]; omega
      · rw [if_neg g, if_neg (show ¬ x < n + 1 by omega)]; omega
theorem cp_mny_n {n : Nat} : ∀ {L : List Nat}, L.Nodup → (∀ x, x ∈ L → x < n) → cp_mny L n = L.length
  | [], _, _ => by
    have h : ∀ k, cp_mny [] k = 0 := fun k => by
      induction k with
      | zero => rfl
      | succ k ih => rw [← cp_mny_o (by simp)]; exact ih
    exact h n
  | x :: t, hn, hx => by
    obtain ⟨h1, h2⟩ := List.nodup_cons.mp hn
    have ih := cp_mny_n h2 (fun y hy => hx y (List.mem_cons_of_mem _ hy))
    have h3 := cp_cnt_a1 (q := fun i => decide (i ∈ t)) (q' := fun i => decide (i ∈ x :: t)) (x := x) (decide_eq_false h1) (decide_eq_true List.mem_cons_self) (fun i hi => by simp [hi]) n
    show cp_cnt (fun i => decide (i ∈ x :: t)) n = t.length + 1
    rw [h3, if_pos (hx x List.mem_cons_self)]
    exact congrArg (· + 1) ih
theorem cp_pw2 : ∀ m, m < 25 → ∀ b, b < 32 → bt (((1 : Int32) <<< (nI m &&& 31)) - 1) b = decide (b < m) := by decide +kernel
theorem cp_pls_n {n : Nat} {L : List Nat} (hn : L.Nodup) (hx : ∀ x, x ∈ L → x < n) (hl : L.length ≤ 24) : cp_pls L n = ((1 : Int32) <<< (nI (cp_mny L n) &&& 31)) - 1 := by
  rw [cp_mny_n hn hx]
  refine b_ext fun b hb => ?_
  rw [cp_pw2 _ (by omega) b hb]
  apply Bool.eq_iff_iff.mpr
  rw [cp_pls_bt hl n b hb, decide_eq_true_iff]
  constructor
  · rintro ⟨i, h1, h2, h3⟩
    have := (cp_idx h2).1
    omega
  · intro h
    exact ⟨L.getD b 0, hx _ (cp_getD_in h), cp_getD_in h, cp_nd_ix hn h⟩
/-- a queue of a night, and the place of a piece -/
abbrev cp_LQ (N : cp_Nt) (q : Nat) : List Nat := cp_LL (cp_tn N) (cp_tP N) (cp_tl N) q
theorem cp_LQ_ok {N : cp_Nt} (h : cp_PV (cp_tn N) (cp_tP N) (cp_tl N)) (q : Nat) : (cp_LQ N q).Nodup ∧ (∀ x, x ∈ cp_LQ N q → x < cp_tn N) ∧ (cp_LQ N q).length ≤ 24 := by
  refine ⟨?_, fun x hx => ?_, cp_LL_24 h q⟩
  · show (cp_LL _ _ _ q).Nodup
    unfold cp_LL
    split
    · exact h.2.2.1
    · exact cp_dq_nd _ _ _
  · have hx : x ∈ cp_LL (cp_tn N) (cp_tP N) (cp_tl N) q := hx
    unfold cp_LL at hx
    split at hx
    · exact ((h.2.2.2 x).mp hx).1
    · exact (cp_dq_in.mp hx).1
theorem cp_nIz {d : Nat} (h : d < 2 ^ 31) : (nI d).toInt.toNat = d := cp_nIt h
theorem cp_LQ_1 {N : cp_Nt} {p : Nat} (h : cp_PV (cp_tn N) (cp_tP N) (cp_tl N)) (hp : p < cp_tn N) (h1 : cp_tP N p 4 = 1) : p ∈ cp_LQ N 5 ∧ cp_pl N p = nI ((cp_LQ N 5).idxOf p) ∧ ∀ q, q < 6 → q ≠ 5 → p ∉ cp_LQ N q := by
  refine ⟨?_, ?_, fun q hq hq5 hm => ?_⟩
  · show p ∈ cp_LL _ _ _ 5
    unfold cp_LL
    rw [if_pos rfl]
    exact (h.2.2.2 p).mpr ⟨hp, h1⟩
  · unfold cp_pl
    rw [h1, if_neg (by decide), if_pos rfl]
    rfl
  · have hm : p ∈ cp_LL (cp_tn N) (cp_tP N) (cp_tl N) q := hm
    unfold cp_LL at hm
    rw [if_neg hq5] at hm
    have := (cp_dq_in.mp hm).2.1
    rw [h1] at this
    exact absurd this (by decide)
theorem cp_LQ_0 {N : cp_Nt} {p : Nat} (h : cp_PV (cp_tn N) (cp_tP N) (cp_tl N)) (hp : p < cp_tn N) (h0 : cp_tP N p 4 = 0) : ∃ d, d < 5 ∧ cp_tP N p 0 = nI d ∧ p ∈ cp_LQ N d ∧ cp_pl N p = nI ((cp_LQ N d).idxOf p) ∧ ∀ q, q < 6 → q ≠ d → p ∉ cp_LQ N q := by
  obtain ⟨⟨d, hd, e⟩, -⟩ := h.2.1 p hp
  have el : cp_LQ N d = cp_dq (cp_tn N) (cp_tP N) d := by
    show cp_LL _ _ _ d = _
    unfold cp_LL
    rw [if_neg (by omega)]
  refine ⟨d, hd, e, ?_, ?_, fun q hq hqd hm => ?_⟩
  · rw [el]
    exact cp_dq_in.mpr ⟨hp, h0, e⟩
  · unfold cp_pl
    rw [h0, if_pos rfl, e, cp_nIz (by omega), el]
  · have hm : p ∈ cp_LL (cp_tn N) (cp_tP N) (cp_tl N) q := hm
    unfold cp_LL at hm
    split at hm
    · have := ((h.2.2.2 p).mp hm).2
      rw [h0] at this
      exact absurd this (by decide)
    · have h2 := (cp_dq_in.mp hm).2.2
      rw [e] at h2
      have := (nI_eq (a := d) (b := q) (by omega) (by omega)).mp h2
      omega
theorem cp_LQ_2 {N : cp_Nt} {p : Nat} (h : cp_PV (cp_tn N) (cp_tP N) (cp_tl N)) (h0 : ¬ cp_tP N p 4 = 0) (h1 : ¬ cp_tP N p 4 = 1) : cp_pl N p = -6 ∧ ∀ q, p ∉ cp_LQ N q := by
  refine ⟨?_, fun q hm => ?_⟩
  · unfold cp_pl
    rw [if_neg h0, if_neg h1]
  · have hm : p ∈ cp_LL (cp_tn N) (cp_tP N) (cp_tl N) q := hm
    unfold cp_LL at hm
    split at hm
    · exact h1 ((h.2.2.2 p).mp hm).2
    · exact h0 (cp_dq_in.mp hm).2.1
/-- readyIn -/
theorem cp_f_rd {N : cp_Nt} {p : Nat} (hn : cp_tn N ≤ 24) (hp : p < cp_tn N) (h2 : ¬ cp_tP N p 4 = 2) (h3 : ¬ cp_tP N p 4 = 3) : cp_sReady N (nI p) = -6 ∨ ∃ k, 1 ≤ k ∧ k < 2001 ∧ cp_sReady N (nI p) = nI k := by
  rw [cp_sRd_k (by omega) ((cp_ip_iff (by omega)).mpr ⟨p, hp, rfl⟩) h3]
  cases hr : cp_rdf N p with
  | none => exact Or.inl rfl
  | some k =>
    right
    unfold cp_rdf at hr
    rw [List.find?_range_eq_some] at hr
    have hk := List.mem_range.mp hr.2.1
    refine ⟨k, ?_, hk, rfl⟩
    rcases Nat.eq_zero_or_pos k with e | e
    · subst e
      exact absurd (of_decide_eq_true hr.1) h2
    · exact e
theorem cp_f_rd0 {N : cp_Nt} {p : Nat} (hn : cp_tn N ≤ 24) (hp : p < cp_tn N) (h2 : cp_tP N p 4 = 2) : cp_sReady N (nI p) = 0 := by
  rw [cp_sRd_k (by omega) ((cp_ip_iff (by omega)).mpr ⟨p, hp, rfl⟩) (by rw [h2]; decide)]
  have e : cp_rdf N p = some 0 := cp_fnd_s (by decide) (decide_eq_true h2) (fun j hj => absurd hj (by omega))
  rw [e]
  rfl
/-- sums -/
theorem cp_f_cnt4 {P : cp_PP} : ∀ n, (∀ i, i < n → P i 4 = 0 ∨ P i 4 = 1 ∨ P i 4 = 2 ∨ P i 4 = 3) → cp_cnt (fun i => decide (P i 4 = 0)) n + cp_cnt (fun i => decide (P i 4 = 1)) n + cp_cnt (fun i => decide (P i 4 = 2)) n + cp_cnt (fun i => decide (P i 4 = 3)) n = n
  | 0, _ => rfl
  | n + 1, h => by
    have ih := cp_f_cnt4 n (fun i hi => h i (by omega))
    show (cp_cnt _ n + (if decide (P n 4 = 0) = true then 1 else 0)) + (cp_cnt _ n + (if decide (P n 4 = 1) = true then 1 else 0)) + (cp_cnt _ n + (if decide (P n 4 = 2) = true then 1 else 0)) + (cp_cnt _ n + (if decide (P n 4 = 3) = true then 1 else 0)) = n + 1
    have one : (if decide (P n 4 = 0) = true then 1 else 0) + (if decide (P n 4 = 1) = true then 1 else 0) + (if decide (P n 4 = 2) = true then 1 else 0) + (if decide (P n 4 = 3) = true then 1 else 0) = 1 := by
      rcases h n (by omega) with e | e | e | e <;> rw [e] <;> rfl
    omega
theorem cp_f_sum {N : cp_Nt} (h : cp_PV (cp_tn N) (cp_tP N) (cp_tl N)) : cp_sCount N 0 0 4 + cp_sCount N 0 0 5 + cp_sCount N 0 0 6 + cp_sCount N 0 0 7 = nI (cp_tn N) := by
  show nI (cp_cnt (fun i => decide (cp_tP N i 4 = 0)) (cp_tn N)) + nI (cp_cnt (fun i => decide (cp_tP N i 4 = 1)) (cp_tn N)) + nI (cp_cnt (fun i => decide (cp_tP N i 4 = 2)) (cp_tn N)) + nI (cp_cnt (fun i => decide (cp_tP N i 4 = 3)) (cp_tn N)) = _
  rw [nI_add, nI_add, nI_add, cp_f_cnt4 _ (fun i hi => (h.2.1 i hi).2)]
theorem cp_acc {q : Nat → Bool} {k : Nat} {v : Int32} (h : (q k = true ∧ v = 1) ∨ (q k = false ∧ v = 0)) : nI (cp_cnt q k) + v = nI (cp_cnt q (k + 1)) := by
  rcases h with ⟨h, rfl⟩ | ⟨h, rfl⟩
  · exact cp_cnt_t h
  · exact cp_cnt_f h
theorem cp_st_t {q : Nat → Bool} {k : Nat} (h : q k = true) : cp_st q k ||| ((1 : Int32) <<< (nI k &&& 31)) = cp_st q (k + 1) := by
  show _ = cp_st q k ||| (cp_bi (q k) <<< (nI k &&& 31))
  rw [h]
  rfl
theorem cp_st_f {q : Nat → Bool} {k : Nat} (hk : k < 32) (h : q k = false) : cp_st q k ||| 0 = cp_st q (k + 1) := by
  show _ = cp_st q k ||| (cp_bi (q k) <<< (nI k &&& 31))
  rw [h]
  refine b_ext fun i hi => ?_
  rw [b_or, b_or, b_0, b_shl k hk _ hi]
  show _ = (bt (cp_st q k) i || (decide (k ≤ i) && bt 0 (i - k)))
  rw [b_0, Bool.and_false]
/-- plates -/
theorem cp_pw_bt {Q : cp_PP} {p : Nat} (hp : p < 32) : ∀ np, np ≤ 32 → ∀ b, b < 32 → bt (cp_pw Q p np) b = (decide (b < np) && bt (Q b 2) p)
  | 0, _, b, hb => by rw [show cp_pw Q p 0 = 0 from rfl, b_0, decide_eq_false (Nat.not_lt_zero b), Bool.false_and]
  | n + 1, hn, b, hb => by
    show bt (cp_pw Q p n ||| (cp_bit (Q n 2) p <<< (nI n &&& 31))) b = _
    rw [b_or, cp_pw_bt hp n (by omega) b hb, b_shl n (by omega) _ hb, cp_bit_bt hp, cp_bbi _ (by omega)]
    by_cases e : b = n
    · subst e
      rw [decide_eq_false (Nat.lt_irrefl b), Bool.false_and, Bool.false_or, decide_eq_true (Nat.le_refl b), Bool.true_and, decide_eq_true (by omega), Bool.and_true, decide_eq_true (by omega), Bool.true_and]
    · by_cases g : b < n
      · rw [decide_eq_true g, Bool.true_and, decide_eq_false (show ¬ n ≤ b by omega), Bool.false_and, Bool.or_false, decide_eq_true (by omega), Bool.true_and]
      · rw [decide_eq_false g, Bool.false_and, Bool.false_or, decide_eq_false (show ¬ b - n = 0 by omega), Bool.and_false, Bool.and_false, decide_eq_false (by omega), Bool.false_and]
theorem cp_f_both {Q : cp_PP} {j k np : Nat} (hj : j < 24) (hk : k < np) (hnp : np ≤ 8) : cp_bit (Q k 2) j = cp_bit (cp_pw Q j np) k := by
  rw [cp_bit_bt (by omega), cp_bit_bt (by omega), cp_pw_bt (by omega) np (by omega) k (by omega), decide_eq_true hk, Bool.true_and]
/-- what a plate takes -/
theorem cp_lin_add {P : cp_PP} {s : Int32} {p : Nat} (hp : p < 32) (hb : bt s p = false) : ∀ k, k ≤ 32 → cp_lin P (s ||| ((1 : Int32) <<< (nI p &&& 31))) k = cp_lin P s k + (if p < k then P p 1 else 0)
  | 0, _ => rfl
  | k + 1, hk => by
    have ih := cp_lin_add (P := P) hp hb k (by omega)
    have eb : ∀ c, c < 32 → bt (s ||| ((1 : Int32) <<< (nI p &&& 31))) c = (bt s c || decide (c = p)) := fun c hc => by rw [b_or, cp_b1z hp hc]
    by_cases e : k = p
    · subst e
      have h1 : decide (cp_bit (s ||| ((1 : Int32) <<< (nI k &&& 31))) k = 1) = true := by rw [cp_bit_1 hp, eb k hp, decide_eq_true rfl, Bool.or_true]
      have h2 : decide (cp_bit s k = 1) = false := by rw [cp_bit_1 hp, hb]
      rw [← cp_lin_t h1, ih, ← cp_lin_f h2, if_neg (Nat.lt_irrefl _), if_pos (Nat.lt_succ_self _), Int32.add_zero]
    · have h0 : decide (cp_bit (s ||| ((1 : Int32) <<< (nI p &&& 31))) k = 1) = decide (cp_bit s k = 1) := by rw [cp_bit_1 (by omega), cp_bit_1 (by omega), eb k (by omega), decide_eq_false e, Bool.or_false]
      have e3 : (if p < k + 1 then P p 1 else 0) = (if p < k then P p 1 else 0) := by
        by_cases g : p < k
        · rw [if_pos g, if_pos (by omega)]
        · rw [if_neg g, if_neg (by omega)]
      rw [e3]
      cases h1 : decide (cp_bit s k = 1) with
      | true =>
        rw [← cp_lin_t (h0.trans h1), ih, ← cp_lin_t h1, Int32.add_assoc, Int32.add_assoc, Int32.add_comm (P k 1)]
      | false =>
        rw [← cp_lin_f (h0.trans h1), ih, ← cp_lin_f h1]
theorem cp_tk_ok {n : Nat} {P : cp_PP} {room : Int32} {A : Nat → Prop} (hn : n ≤ 24) : ∀ (l : List Nat) (s : Int32 × Int32), l.Nodup → (∀ x, x ∈ l → x < n ∧ bt s.1 x = false ∧ A x) → (cp_lin P s.1 n = s.2 ∧ s.2 ≤ room ∧ ∀ b, b < 32 → bt s.1 b = true → A b) → cp_lin P (l.foldl (cp_ts1 P room) s).1 n = (l.foldl (cp_ts1 P room) s).2 ∧ (l.foldl (cp_ts1 P room) s).2 ≤ room ∧ ∀ b, b < 32 → bt (l.foldl (cp_ts1 P room) s).1 b = true → A b
  | [], s, _, _, h => h
  | p :: t, s, hnd, hl, h => by
    obtain ⟨n1, n2⟩ := List.nodup_cons.mp hnd
    obtain ⟨hp, hb, hA⟩ := hl p List.mem_cons_self
    show cp_lin P (t.foldl (cp_ts1 P room) (cp_ts1 P room s p)).1 n = _ ∧ _
    refine cp_tk_ok hn t (cp_ts1 P room s p) n2 (fun x hx => ?_) ?_
    · obtain ⟨g1, g2, g3⟩ := hl x (List.mem_cons_of_mem _ hx)
      refine ⟨g1, ?_, g3⟩
      unfold cp_ts1
      split
      · show bt (s.1 ||| ((1 : Int32) <<< (nI p &&& 31))) x = false
        have e : x ≠ p := fun e => n1 (e ▸ hx)
        rw [b_or, cp_b1z (by omega) (by omega), g2, decide_eq_false e]
        rfl
      · exact g2
    · unfold cp_ts1
      split
      · rename_i hr
        refine ⟨?_, hr, fun b hb2 hbt => ?_⟩
        · show cp_lin P (s.1 ||| ((1 : Int32) <<< (nI p &&& 31))) n = s.2 + P p 1
          rw [cp_lin_add (by omega) hb n (by omega), if_pos hp, h.1]
        · have hbt : bt (s.1 ||| ((1 : Int32) <<< (nI p &&& 31))) b = true := hbt
          rw [b_or, cp_b1z (by omega) hb2, Bool.or_eq_true, decide_eq_true_iff] at hbt
          rcases hbt with g | g
          · exact h.2.2 b hb2 g
          · rw [g]; exact hA
      · exact h
theorem cp_lin_0 (P : cp_PP) : ∀ n, n ≤ 32 → cp_lin P 0 n = 0
  | 0, _ => rfl
  | n + 1, h => by
    have e : decide (cp_bit 0 n = 1) = false := by rw [cp_bit_1 (by omega), b_0]
    rw [← cp_lin_f e]
    exact cp_lin_0 P n (by omega)
theorem cp_f_now {N : cp_Nt} (hV : cp_NV N) : cp_lin (cp_tP N) (cp_now N).1 (cp_tn N) ≤ cp_sCount N 0 0 12 ∧ ((cp_now N).1 &&& ((cp_st (cp_fr (cp_tP N)) (cp_tn N)) ^^^ (-1))) = 0 := by
  have hn := hV.2.2.1.1
  obtain ⟨e, he1, he2, he3⟩ := hV.1.2.2.1
  have g := cp_tk_ok (n := cp_tn N) (P := cp_tP N) (room := cp_tS N 2) (A := fun x => x < cp_tn N ∧ cp_fr (cp_tP N) x = true) hn (cp_so (cp_tn N) (cp_tP N)) (0, 0) (cp_so_nd _ _) (fun x hx => ⟨(cp_so_mem.mp hx).1, b_0 x, cp_so_mem.mp hx⟩) ⟨cp_lin_0 _ _ (by omega), by
    show (0 : Int32) ≤ cp_tS N 2
    rw [he3]
    exact (nI_leI (a := 0) (by decide) (by omega)).mpr (Nat.zero_le _), fun b _ h => by
      have h : bt 0 b = true := h
      rw [b_0] at h
      cases h⟩
  refine ⟨?_, ?_⟩
  · show cp_lin (cp_tP N) (cp_now N).1 (cp_tn N) ≤ cp_tS N 2
    have g1 : cp_lin (cp_tP N) (cp_now N).1 (cp_tn N) = (cp_now N).2 := g.1
    rw [g1]
    exact g.2.1
  · refine b_ext fun i hi => ?_
    rw [b_and, b_xor, b_m1 i hi, b_0, cp_st_bt _ _ (by omega) i hi]
    cases hb : bt (cp_now N).1 i with
    | false => rfl
    | true =>
      obtain ⟨h1, h2⟩ := g.2.2 i hi hb
      rw [decide_eq_true h1, h2]
      rfl
