/-- numbers of pieces as they may be: lines, rank, legal, held, edited, and the minute in which one became ready -/
def cp_PN (n : Nat) (P : cp_PP) : Prop := ∀ i, i < n → (∃ k, 1 ≤ k ∧ k < 100 ∧ P i 1 = nI k ∧ ∃ e, e ≤ k ∧ P i 6 = nI e) ∧ (∃ k, k < 10 ∧ P i 2 = nI k) ∧ (P i 3 = 0 ∨ P i 3 = 1) ∧ (P i 5 = 0 ∨ P i 5 = 1) ∧ (P i 8 = -6 ∨ ∃ t, t < 100000 ∧ P i 8 = nI t)
theorem cp_cnt_t {q : Nat → Bool} {n : Nat} (h : q n = true) : nI (cp_cnt q n) + 1 = nI (cp_cnt q (n + 1)) := by
  rw [nI_1]
  show nI (cp_cnt q n + 1) = nI (cp_cnt q n + (if q n = true then 1 else 0))
  rw [if_pos h]
theorem cp_cnt_f {q : Nat → Bool} {n : Nat} (h : q n = false) : nI (cp_cnt q n) + 0 = nI (cp_cnt q (n + 1)) := by
  show nI (cp_cnt q n) + nI 0 = nI (cp_cnt q n + (if q n = true then 1 else 0))
  rw [if_neg (by rw [h]; decide), nI_add]
