/-! a minute at a desk and at the lawyer's, in the model's row -/
theorem cp_len_le : ∀ (n : Nat) (l : List Nat), l.Nodup → (∀ x ∈ l, x < n) → l.length ≤ n := by
  intro n
  induction n with
  | zero =>
    intro l _ h
    cases l with
    | nil => exact Nat.le_refl _
    | cons a t => exact absurd (h a List.mem_cons_self) (by omega)
  | succ n ih =>
    intro l hn h
    by_cases hm : n ∈ l
    · have h1 := ih (l.erase n) (hn.erase n) (fun x hx => by
        have h2 := (List.Nodup.mem_erase_iff hn).mp hx
        have h3 := h x h2.2
        have h4 : x ≠ n := h2.1
        omega)
      rw [List.length_erase_of_mem hm] at h1
      omega
    · have h1 := ih l hn (fun x hx => by
        have h3 := h x hx
        have h4 : x ≠ n := fun e => hm (e ▸ hx)
        omega)
      omega
section EDP
variable {a : Nat → Int32} {n : Nat} {P : cp_PP} {lq t : List Nat} {S : Nat → Int32} {mi : Int32} {d i : Nat}
theorem cp_ed_nil (h : cp_dq n P d = []) : cp_ed S mi n d (P, lq) = (P, lq) := by unfold cp_ed; simp [h]
theorem cp_ed_cons (h : cp_dq n P d = i :: t) : cp_ed S mi n d (P, lq) = if P i 6 + S 0 < P i 1 then (cp_wi P i 6 (P i 6 + S 0), lq) else if P i 3 = 1 then (cp_wi (cp_wi P i 6 (P i 1)) i 4 1, lq ++ [i]) else (cp_wi (cp_wi (cp_wi P i 6 (P i 1)) i 4 2) i 8 mi, lq) := by unfold cp_ed; simp [h]
theorem cp_ed_hd (h : cp_dq n P d = i :: t) : i < n ∧ P i 4 = 0 ∧ P i 0 = nI d := cp_dq_in.mp (by rw [h]; exact List.mem_cons_self)
theorem cp_rd_cons : cp_rd S mi (P, i :: t) = if S 1 ≤ P i 7 + 1 then (cp_wi (cp_wi (cp_wi P i 7 (P i 7 + 1)) i 4 2) i 8 mi, t) else (cp_wi P i 7 (P i 7 + 1), i :: t) := rfl
end EDP

