/-! THE NIGHT IN WORDS OF BOTH SIDES: settings S, pieces P (their fields as both have them), the lawyer's queue; desks' queues are read off P -/
abbrev cp_PP : Type := Nat → Nat → Int32
def cp_dq (n : Nat) (P : cp_PP) (d : Nat) : List Nat := (List.range n).filter (fun i => decide (P i 4 = 0) && decide (P i 0 = nI d))
/-- desk d edits for a minute -/
def cp_ed (S : Nat → Int32) (mi : Int32) (n d : Nat) (w : cp_PP × List Nat) : cp_PP × List Nat := match cp_dq n w.1 d with
  | [] => w
  | i :: _ => if w.1 i 6 + S 0 < w.1 i 1 then (cp_wi w.1 i 6 (w.1 i 6 + S 0), w.2) else if w.1 i 3 = 1 then (cp_wi (cp_wi w.1 i 6 (w.1 i 1)) i 4 1, w.2 ++ [i]) else (cp_wi (cp_wi (cp_wi w.1 i 6 (w.1 i 1)) i 4 2) i 8 mi, w.2)
/-- the lawyer reads for a minute -/
def cp_rd (S : Nat → Int32) (mi : Int32) (w : cp_PP × List Nat) : cp_PP × List Nat := match w.2 with
  | [] => w
  | i :: t => if S 1 ≤ w.1 i 7 + 1 then (cp_wi (cp_wi (cp_wi w.1 i 7 (w.1 i 7 + 1)) i 4 2) i 8 mi, t) else (cp_wi w.1 i 7 (w.1 i 7 + 1), w.2)
def cp_eds (S : Nat → Int32) (mi : Int32) (n : Nat) : Nat → cp_PP × List Nat → cp_PP × List Nat
  | 0, w => w
  | k + 1, w => cp_ed S mi n k (cp_eds S mi n k w)
def cp_wk (S : Nat → Int32) (mi : Int32) (n : Nat) (w : cp_PP × List Nat) : cp_PP × List Nat := cp_rd S mi (cp_eds S mi n 5 w)
/-- a queue of the model's row a -/
def cp_QL (a : Nat → Int32) (q : Nat) (l : List Nat) : Prop := a (8 + q) = nI l.length ∧ l.length ≤ 24 ∧ ∀ k, k < l.length → a (14 + 24 * q + k) = nI (l.getD k 0)
/-- pieces and queues of the model's row a -/
def cp_MW (a : Nat → Int32) (n : Nat) (P : cp_PP) (L : Nat → List Nat) : Prop := (∀ i, i < n → ∀ f, f < 9 → a (158 + 9 * i + f) = P i f) ∧ ∀ q, q < 6 → cp_QL a q (L q)
/-- pieces are as they may be: how they are, whose desk, what is in the lawyer's queue -/
def cp_PV (n : Nat) (P : cp_PP) (lq : List Nat) : Prop := n ≤ 24 ∧ (∀ i, i < n → (∃ d, d < 5 ∧ P i 0 = nI d) ∧ (P i 4 = 0 ∨ P i 4 = 1 ∨ P i 4 = 2 ∨ P i 4 = 3)) ∧ lq.Nodup ∧ ∀ i, i ∈ lq ↔ i < n ∧ P i 4 = 1
def cp_LL (n : Nat) (P : cp_PP) (lq : List Nat) (q : Nat) : List Nat := if q = 5 then lq else cp_dq n P q
theorem cp_gD {l : List Nat} {k : Nat} (h : k < l.length) : l.getD k 0 = l[k] := by simp [List.getD, List.getElem?_eq_getElem h]
theorem cp_getD_in {l : List Nat} {k : Nat} (h : k < l.length) : l.getD k 0 ∈ l := by
  rw [cp_gD h]
  exact List.getElem_mem h
theorem cp_dq_in {n : Nat} {P : cp_PP} {d i : Nat} : i ∈ cp_dq n P d ↔ i < n ∧ P i 4 = 0 ∧ P i 0 = nI d := by
  simp [cp_dq]
theorem cp_wi_j (I : cp_Mem) (a j : Nat) (v : Int32) {a' j' : Nat} (h : ¬ (a' = a ∧ j' = j)) : cp_wi I a j v a' j' = I a' j' := by
  unfold cp_wi
  rw [if_neg h]
theorem cp_upd_n {a : Nat → Int32} {k x : Nat} {v : Int32} (h : x ≠ k) : upd a k v x = a x := by unfold upd; rw [if_neg h]
theorem cp_upd_s {a : Nat → Int32} {k : Nat} {v : Int32} : upd a k v k = v := by unfold upd; rw [if_pos rfl]

