/-! what stays valid of pieces and the lawyer's queue -/
theorem cp_PV_wi {n : Nat} {P : cp_PP} {lq : List Nat} (h : cp_PV n P lq) {i f : Nat} (v : Int32) (h4 : f ≠ 4) (h0 : f ≠ 0) : cp_PV n (cp_wi P i f v) lq := by
  refine ⟨h.1, fun j hj => ?_, h.2.2.1, fun j => ?_⟩
  · rw [cp_wi_j _ _ _ _ (fun z => h0 z.2.symm), cp_wi_j _ _ _ _ (fun z => h4 z.2.symm)]
    exact h.2.1 j hj
  · rw [cp_wi_j _ _ _ _ (fun z => h4 z.2.symm)]
    exact h.2.2.2 j
/-- a piece leaves the desk for the lawyer -/
theorem cp_PV_law {n : Nat} {P : cp_PP} {lq : List Nat} (h : cp_PV n P lq) {i : Nat} (hi : i < n) (h4 : P i 4 ≠ 1) : cp_PV n (cp_wi P i 4 1) (lq ++ [i]) := by
  have hm : i ∉ lq := fun z => h4 ((h.2.2.2 i).mp z).2
  refine ⟨h.1, fun j hj => ?_, ?_, fun j => ?_⟩
  · rw [cp_wi_j _ _ _ _ (fun z => absurd z.2 (by decide))]
    refine ⟨(h.2.1 j hj).1, ?_⟩
    by_cases hji : j = i
    · subst hji; rw [cp_wi_s]; exact Or.inr (Or.inl rfl)
    · rw [cp_wi_j _ _ _ _ (fun z => hji z.1)]; exact (h.2.1 j hj).2
  · refine List.nodup_append.mpr ⟨h.2.2.1, by simp, fun x hx y hy => ?_⟩
    rw [List.mem_singleton.mp hy]
    exact fun e => hm (e ▸ hx)
  · rw [List.mem_append, List.mem_singleton, h.2.2.2 j]
    by_cases hji : j = i
    · subst hji; rw [cp_wi_s]; simp [hi]
    · rw [cp_wi_j _ _ _ _ (fun z => hji z.1)]; simp [hji]
/-- a piece that isn't at the lawyer's comes to another state than there -/
theorem cp_PV_out {n : Nat} {P : cp_PP} {lq : List Nat} (h : cp_PV n P lq) {i : Nat} {v : Int32} (h4 : P i 4 ≠ 1) (hv : v = 2 ∨ v = 3) : cp_PV n (cp_wi P i 4 v) lq := by
  refine ⟨h.1, fun j hj => ?_, h.2.2.1, fun j => ?_⟩
  · rw [cp_wi_j _ _ _ _ (fun z => absurd z.2 (by decide))]
    refine ⟨(h.2.1 j hj).1, ?_⟩
    by_cases hji : j = i
    · subst hji; rw [cp_wi_s]; exact Or.inr (Or.inr hv)
    · rw [cp_wi_j _ _ _ _ (fun z => hji z.1)]; exact (h.2.1 j hj).2
  · rw [h.2.2.2 j]
    by_cases hji : j = i
    · subst hji
      rw [cp_wi_s]
      constructor
      · rintro ⟨-, z⟩; exact absurd z h4
      · rintro ⟨-, z⟩; rcases hv with rfl | rfl <;> exact absurd z (by decide)
    · rw [cp_wi_j _ _ _ _ (fun z => hji z.1)]
/-- a piece leaves the lawyer's queue -/
theorem cp_PV_off {n : Nat} {P : cp_PP} {lq : List Nat} (h : cp_PV n P lq) {i : Nat} {v : Int32} (hv : v = 2 ∨ v = 3) : cp_PV n (cp_wi P i 4 v) (lq.erase i) := by
  refine ⟨h.1, fun j hj => ?_, h.2.2.1.erase i, fun j => ?_⟩
  · rw [cp_wi_j _ _ _ _ (fun z => absurd z.2 (by decide))]
    refine ⟨(h.2.1 j hj).1, ?_⟩
    by_cases hji : j = i
    · subst hji; rw [cp_wi_s]; exact Or.inr (Or.inr hv)
    · rw [cp_wi_j _ _ _ _ (fun z => hji z.1)]; exact (h.2.1 j hj).2
  · rw [List.Nodup.mem_erase_iff h.2.2.1, h.2.2.2 j]
    by_cases hji : j = i
    · subst hji
      rw [cp_wi_s]
      constructor
      · rintro ⟨z, -⟩; exact absurd rfl z
      · rintro ⟨-, z⟩; rcases hv with rfl | rfl <;> exact absurd z (by decide)
    · rw [cp_wi_j _ _ _ _ (fun z => hji z.1)]; simp [hji]
theorem cp_PV_ed {n : Nat} {P : cp_PP} {lq : List Nat} {S : Nat → Int32} {mi : Int32} {d : Nat} (h : cp_PV n P lq) : cp_PV n (cp_ed S mi n d (P, lq)).1 (cp_ed S mi n d (P, lq)).2 := by
  cases hdq : cp_dq n P d with
  | nil => rw [cp_ed_nil hdq]; exact h
  | cons i t =>
    have hi := cp_ed_hd hdq
    rw [cp_ed_cons hdq]
    have h4 : ∀ v, cp_wi P i 6 v i 4 ≠ 1 := fun v => by rw [cp_wi_j _ _ _ _ (fun z => absurd z.2 (by decide)), hi.2.1]; decide
    split
    · exact cp_PV_wi h _ (by decide) (by decide)
    · split
      · exact cp_PV_law (cp_PV_wi h _ (by decide) (by decide)) hi.1 (h4 _)
      · exact cp_PV_wi (cp_PV_out (cp_PV_wi h _ (by decide) (by decide)) (h4 _) (Or.inl rfl)) _ (by decide) (by decide)
theorem cp_PV_rd {n : Nat} {P : cp_PP} {lq : List Nat} {S : Nat → Int32} {mi : Int32} (h : cp_PV n P lq) : cp_PV n (cp_rd S mi (P, lq)).1 (cp_rd S mi (P, lq)).2 := by
  cases lq with
  | nil => exact h
  | cons i t =>
    rw [cp_rd_cons]
    split
    · have h1 := cp_PV_off (cp_PV_wi h (i := i) (f := 7) (P i 7 + 1) (by decide) (by decide)) (i := i) (v := 2) (Or.inl rfl)
      rw [List.erase_cons_head] at h1
      exact cp_PV_wi h1 _ (by decide) (by decide)
    · exact cp_PV_wi h _ (by decide) (by decide)
theorem cp_PV_eds {n : Nat} {P : cp_PP} {lq : List Nat} {S : Nat → Int32} {mi : Int32} (h : cp_PV n P lq) : ∀ d, cp_PV n (cp_eds S mi n d (P, lq)).1 (cp_eds S mi n d (P, lq)).2
  | 0 => h
  | d + 1 => cp_PV_ed (d := d) (cp_PV_eds h d)
theorem cp_PV_wk {n : Nat} {P : cp_PP} {lq : List Nat} {S : Nat → Int32} {mi : Int32} (h : cp_PV n P lq) : cp_PV n (cp_wk S mi n (P, lq)).1 (cp_wk S mi n (P, lq)).2 := cp_PV_rd (cp_PV_eds h 5)
/-- first of n with a property, how many of n have one -/
def cp_o2i (o : Option Nat) : Int32 := match o with
  | some i => nI i
  | none => -6
def cp_cnt (q : Nat → Bool) : Nat → Nat
  | 0 => 0
  | n + 1 => cp_cnt q n + (if q n = true then 1 else 0)
theorem cp_cnt_le (q : Nat → Bool) : ∀ n, cp_cnt q n ≤ n
  | 0 => Nat.le_refl 0
  | n + 1 => by
    have h := cp_cnt_le q n
    unfold cp_cnt
    split <;> omega
theorem cp_fnd_s {n i : Nat} {q : Nat → Bool} (hi : i < n) (hq : q i = true) (h : ∀ j, j < i → q j = false) : (List.range n).find? q = some i := by
  rw [List.find?_range_eq_some]
  exact ⟨hq, List.mem_range.mpr hi, fun j hj => by simp [h j hj]⟩
theorem cp_fnd_n {n : Nat} {q : Nat → Bool} (h : ∀ j, j < n → q j = false) : (List.range n).find? q = none := by
  rw [List.find?_eq_none]
  intro j hj
  rw [h j (List.mem_range.mp hj)]
  decide
theorem cp_o2i_s {o : Option Nat} {i : Nat} (h : o = some i) : nI i = cp_o2i o := by rw [h]; rfl
theorem cp_o2i_n {o : Option Nat} (h : o = none) : (-6 : Int32) = cp_o2i o := by rw [h]; rfl
theorem cp_lts {i : Nat} {p : Nat → Prop} (h : ∀ j, j < i → p j) (hi : p i) : ∀ j, j < i + 1 → p j := fun j hj => by
  rcases Nat.lt_or_ge j i with h1 | h1
  · exact h j h1
  · rw [show j = i by omega]; exact hi

