/-! THE ORDER IN WHICH A PLATE IS FILLED: a sorted list; a piece's place in it is how many go ahead of it -/
def cp_fr (P : cp_PP) (i : Nat) : Bool := decide (P i 4 = 2) && decide (P i 5 = 0)
def cp_ah (P : cp_PP) (i j : Nat) : Bool := decide ((P j 2).toInt < (P i 2).toInt ∨ ((P i 2).toInt = (P j 2).toInt ∧ ((P i 8).toInt < (P j 8).toInt ∨ ((P i 8).toInt = (P j 8).toInt ∧ i < j))))
def cp_ale (P : cp_PP) (i j : Nat) : Bool := cp_ah P i j || decide (i = j)
theorem cp_ale_iff {P : cp_PP} {i j : Nat} : cp_ale P i j = true ↔ ((P j 2).toInt < (P i 2).toInt ∨ ((P i 2).toInt = (P j 2).toInt ∧ ((P i 8).toInt < (P j 8).toInt ∨ ((P i 8).toInt = (P j 8).toInt ∧ i < j)))) ∨ i = j := by
  unfold cp_ale cp_ah
  rw [Bool.or_eq_true, decide_eq_true_iff, decide_eq_true_iff]
theorem cp_ah_iff {P : cp_PP} {i j : Nat} : cp_ah P i j = true ↔ ((P j 2).toInt < (P i 2).toInt ∨ ((P i 2).toInt = (P j 2).toInt ∧ ((P i 8).toInt < (P j 8).toInt ∨ ((P i 8).toInt = (P j 8).toInt ∧ i < j)))) := by
  unfold cp_ah
  rw [decide_eq_true_iff]
theorem cp_ale_tr (P : cp_PP) (i j k : Nat) (h1 : cp_ale P i j = true) (h2 : cp_ale P j k = true) : cp_ale P i k = true := by
  rw [cp_ale_iff] at *
  rcases h1 with h1 | rfl
  · rcases h2 with h2 | rfl
    · left; omega
    · exact Or.inl h1
  · exact h2
theorem cp_ale_to (P : cp_PP) (i j : Nat) : (cp_ale P i j || cp_ale P j i) = true := by
  rw [Bool.or_eq_true, cp_ale_iff, cp_ale_iff]
  omega
theorem cp_ah_ne {P : cp_PP} {i j : Nat} (h : cp_ah P i j = true) : i ≠ j := by
  rw [cp_ah_iff] at h
  intro e
  subst e
  omega
theorem cp_ah_as {P : cp_PP} {i j : Nat} (h : cp_ah P i j = true) : cp_ah P j i = false := by
  apply Bool.eq_false_iff.mpr
  intro h2
  rw [cp_ah_iff] at h h2
  omega
def cp_so (n : Nat) (P : cp_PP) : List Nat := ((List.range n).filter (cp_fr P)).mergeSort (cp_ale P)
theorem cp_so_perm (n : Nat) (P : cp_PP) : (cp_so n P).Perm ((List.range n).filter (cp_fr P)) := List.mergeSort_perm _ _
theorem cp_so_nd (n : Nat) (P : cp_PP) : (cp_so n P).Nodup := (cp_so_perm n P).nodup_iff.mpr (List.Pairwise.filter _ List.nodup_range)
theorem cp_so_mem {n : Nat} {P : cp_PP} {i : Nat} : i ∈ cp_so n P ↔ i < n ∧ cp_fr P i = true := by
  rw [(cp_so_perm n P).mem_iff, List.mem_filter, List.mem_range]
theorem cp_so_pw (n : Nat) (P : cp_PP) : (cp_so n P).Pairwise (fun i j => cp_ale P i j = true) := List.pairwise_mergeSort (cp_ale_tr P) (cp_ale_to P) _
theorem cp_so_lt {n : Nat} {P : cp_PP} {i j : Nat} (hj : j < (cp_so n P).length) (h : i < j) : cp_ah P ((cp_so n P).getD i 0) ((cp_so n P).getD j 0) = true := by
  have hi : i < (cp_so n P).length := by omega
  rw [cp_gD hi, cp_gD hj]
  have h1 := List.pairwise_iff_getElem.mp (cp_so_pw n P) i j hi hj h
  have h2 := List.pairwise_iff_getElem.mp (cp_so_nd n P) i j hi hj h
  unfold cp_ale at h1
  rw [Bool.or_eq_true, decide_eq_true_iff] at h1
  rcases h1 with h1 | h1
  · exact h1
  · exact absurd h1 h2
theorem cp_so_le (n : Nat) (P : cp_PP) : (cp_so n P).length ≤ n := cp_len_le n _ (cp_so_nd n P) (fun x hx => (cp_so_mem.mp hx).1)
theorem cp_cnt_fil (q : Nat → Bool) : ∀ n, cp_cnt q n = ((List.range n).filter q).length
  | 0 => rfl
  | n + 1 => by
    rw [List.range_succ, List.filter_append, List.length_append, ← cp_cnt_fil q n]
    show cp_cnt q n + (if q n = true then 1 else 0) = _
    by_cases h : q n = true
    · simp [h]
    · simp [h]
theorem cp_fil_len : ∀ (l : List Nat) (r : Nat → Bool) (k : Nat), k ≤ l.length → (∀ j, j < l.length → r (l.getD j 0) = decide (j < k)) → (l.filter r).length = k
  | [], r, k, hk, _ => by simp at hk; simp [hk]
  | x :: l, r, k, hk, h => by
    have h0 := h 0 (by simp)
    cases k with
    | zero =>
      have hr : r x = false := by simpa using h0
      rw [List.filter_cons_of_neg (by simp [hr])]
      exact cp_fil_len l r 0 (Nat.zero_le _) (fun j hj => by
        have h1 := h (j + 1) (by simpa using hj)
        simpa using h1)
    | succ k =>
      have hr : r x = true := by simpa using h0
      rw [List.filter_cons_of_pos hr, List.length_cons]
      congr 1
      exact cp_fil_len l r k (by simpa using hk) (fun j hj => by
        have h1 := h (j + 1) (by simpa using hj)
        simpa using h1)
/-- how many go ahead of p -/
def cp_ac (n : Nat) (P : cp_PP) (p : Nat) : Nat := cp_cnt (fun o => cp_fr P o && decide (o ≠ p) && cp_ah P o p) n
theorem cp_so_ac {n : Nat} {P : cp_PP} {k : Nat} (hk : k < (cp_so n P).length) : cp_ac n P ((cp_so n P).getD k 0) = k := by
  unfold cp_ac
  rw [cp_cnt_fil]
  have e : (List.range n).filter (fun o => cp_fr P o && decide (o ≠ (cp_so n P).getD k 0) && cp_ah P o ((cp_so n P).getD k 0)) = ((List.range n).filter (cp_fr P)).filter (fun o => decide (o ≠ (cp_so n P).getD k 0) && cp_ah P o ((cp_so n P).getD k 0)) := by
    rw [List.filter_filter]
    apply List.filter_congr
    intro x _
    cases cp_fr P x <;> simp
  rw [e, ← ((cp_so_perm n P).filter _).length_eq]
  refine cp_fil_len _ _ _ (by omega) fun j hj => ?_
  rcases Nat.lt_trichotomy j k with h | h | h
  · have h1 := cp_so_lt hk h
    rw [h1, decide_eq_true (cp_ah_ne h1)]; simp [h]
  · subst h; simp
  · have h1 := cp_ah_as (cp_so_lt hj h)
    rw [h1]
    simp; omega
theorem cp_mem_ix {l : List Nat} {p : Nat} (h : p ∈ l) : ∃ k, k < l.length ∧ l.getD k 0 = p := by
  obtain ⟨k, hk, e⟩ := List.getElem_of_mem h
  exact ⟨k, hk, by rw [cp_gD hk]; exact e⟩
/-- the model's search for the piece of a rank -/
theorem cp_rk_eq (n : Nat) (P : cp_PP) (k : Nat) : (List.range n).find? (fun p => cp_fr P p && decide (cp_ac n P p = k)) = (cp_so n P)[k]? := by
  by_cases hk : k < (cp_so n P).length
  · rw [List.getElem?_eq_getElem hk, ← cp_gD hk]
    have hm := cp_so_mem.mp (cp_getD_in hk)
    refine cp_fnd_s hm.1 ?_ fun j hj => ?_
    · rw [hm.2, cp_so_ac hk]; simp
    · cases hf : cp_fr P j with
      | false => rfl
      | true =>
        obtain ⟨k2, hk2, e⟩ := cp_mem_ix (cp_so_mem.mpr ⟨Nat.lt_trans hj hm.1, hf⟩)
        have h2 : cp_ac n P j = k2 := by rw [← e]; exact cp_so_ac hk2
        rw [h2, Bool.true_and]
        apply decide_eq_false
        intro e2
        subst e2
        omega
  · rw [List.getElem?_eq_none (by omega)]
    refine cp_fnd_n fun j hj => ?_
    cases hf : cp_fr P j with
    | false => rfl
    | true =>
      obtain ⟨k2, hk2, e⟩ := cp_mem_ix (cp_so_mem.mpr ⟨hj, hf⟩)
      have h2 : cp_ac n P j = k2 := by rw [← e]; exact cp_so_ac hk2
      rw [h2, Bool.true_and]
      apply decide_eq_false
      omega
/-- filling: the set that is taken, and its lines -/
def cp_ts1 (P : cp_PP) (room : Int32) (s : Int32 × Int32) (p : Nat) : Int32 × Int32 := if s.2 + P p 1 ≤ room then (s.1 ||| ((1 : Int32) <<< (nI p &&& 31)), s.2 + P p 1) else s
def cp_tk (P : cp_PP) (room : Int32) (l : List Nat) : Int32 × Int32 := l.foldl (cp_ts1 P room) (0, 0)
theorem cp_tk_s (P : cp_PP) (room : Int32) {l : List Nat} {k : Nat} (h : k < l.length) : cp_tk P room (l.take (k + 1)) = cp_ts1 P room (cp_tk P room (l.take k)) (l.getD k 0) := by
  unfold cp_tk
  rw [List.take_add_one, List.getElem?_eq_getElem h, Option.toList_some, List.foldl_append, cp_gD h]
  rfl

