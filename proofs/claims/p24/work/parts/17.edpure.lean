/-! a minute at a desk and at the lawyer's, in the model's row -/
theorem cp_len_le : ∀ (n : Nat) (l : List Nat), l.Nodup → (∀ x ∈ l, x < n) → l.length ≤ n := by
  intro n
  induction n with
  | zero =>
    intro l _ h
    cases l with
    | nil => exact Nat.le_refl _
    | cons a t => exact absurd (h a List.mem_cons_self) (by omega)
  | succ n ih =>
    intro l hn h
    by_cases hm : n ∈ l
    · have h1 := ih (l.erase n) (hn.erase n) (fun x hx => by
        have h2 := (List.Nodup.mem_erase_iff hn).mp hx
        have h3 := h x h2.2
        have h4 : x ≠ n := h2.1
        omega)
      rw [List.length_erase_of_mem hm] at h1
      omega
    · have h1 := ih l hn (fun x hx => by
        have h3 := h x hx
        have h4 : x ≠ n := fun e => hm (e ▸ hx)
        omega)
      omega
theorem cp_PV_len {n : Nat} {P : cp_PP} {lq : List Nat} (h : cp_PV n P lq) {i : Nat} (hi : i < n) (h4 : P i 4 ≠ 1) : lq.length < n := by
  have h1 := cp_len_le n (i :: lq) (List.nodup_cons.mpr ⟨fun hm => h4 ((h.2.2.2 i).mp hm).2, h.2.2.1⟩) (fun x hx => by
    rcases List.mem_cons.mp hx with e | e
    · rw [e]; exact hi
    · exact ((h.2.2.2 x).mp e).1)
  rw [List.length_cons] at h1
  exact h1
theorem cp_LL5 (n : Nat) (P : cp_PP) (lq : List Nat) : cp_LL n P lq 5 = lq := by unfold cp_LL; rw [if_pos rfl]
theorem cp_LLd (n : Nat) (P : cp_PP) (lq : List Nat) {d : Nat} (h : d < 5) : cp_LL n P lq d = cp_dq n P d := by unfold cp_LL; rw [if_neg (by omega)]
theorem cp_eraseIdx0 (i : Nat) (t : List Nat) : (i :: t).eraseIdx 0 = t := rfl
section EDP
variable {a : Nat → Int32} {n : Nat} {P : cp_PP} {lq t : List Nat} {S : Nat → Int32} {mi : Int32} {d i : Nat}
theorem cp_ed_nil (h : cp_dq n P d = []) : cp_ed S mi n d (P, lq) = (P, lq) := by unfold cp_ed; simp [h]
theorem cp_ed_cons (h : cp_dq n P d = i :: t) : cp_ed S mi n d (P, lq) = if P i 6 + S 0 < P i 1 then (cp_wi P i 6 (P i 6 + S 0), lq) else if P i 3 = 1 then (cp_wi (cp_wi P i 6 (P i 1)) i 4 1, lq ++ [i]) else (cp_wi (cp_wi (cp_wi P i 6 (P i 1)) i 4 2) i 8 mi, lq) := by unfold cp_ed; simp [h]
theorem cp_ed_hd (h : cp_dq n P d = i :: t) : i < n ∧ P i 4 = 0 ∧ P i 0 = nI d := cp_dq_in.mp (by rw [h]; exact List.mem_cons_self)
theorem cp_dq_tl (h : cp_dq n P d = i :: t) (hd : d < 5) {v w : Int32} (hw : w ≠ 0) {q : Nat} (hq : q < 5) : cp_dq n (cp_wi (cp_wi P i 6 v) i 4 w) q = if q = d then t else cp_dq n P q := by
  rw [cp_dq_out _ _ _ _ _ hw, cp_dq_wi _ _ _ _ _ _ (by decide) (by decide)]
  by_cases hqd : q = d
  · subst hqd
    rw [if_pos rfl, h]
    exact cp_fil_hd (h ▸ cp_dq_nd n P q)
  · rw [if_neg hqd]
    refine cp_fil_no fun hm => hqd ?_
    have h1 := (cp_dq_in.mp hm).2.2
    have h2 := (cp_ed_hd h).2.2
    exact (nI_eq (by omega) (by omega)).mp (h1.symm.trans h2)
theorem cp_ed_A (hW : cp_MW a n P (cp_LL n P lq)) (hV : cp_PV n P lq) (h : cp_dq n P d = i :: t) (v : Int32) : cp_MW (upd a (158 + 9 * i + 6) v) n (cp_wi P i 6 v) (cp_LL n (cp_wi P i 6 v) lq) := by
  refine cp_MW_L (cp_MW_set hW hV.1 (cp_ed_hd h).1 (by decide) v) fun q hq => ?_
  by_cases h5 : q = 5
  · subst h5; rw [cp_LL5, cp_LL5]
  · rw [cp_LLd _ _ _ (by omega), cp_LLd _ _ _ (by omega), cp_dq_wi _ _ _ _ _ _ (by decide) (by decide)]
theorem cp_ed_L (hW : cp_MW a n P (cp_LL n P lq)) (hV : cp_PV n P lq) (h : cp_dq n P d = i :: t) (hd : d < 5) (v : Int32) : cp_MW (cp_lv (upd a (158 + 9 * i + 6) v) d 0 (i :: t).length ((i :: t).length - 1)) n (cp_wi P i 6 v) (cp_uL (cp_LL n P lq) d t) := by
  have h1 := cp_MW_set hW hV.1 (cp_ed_hd h).1 (f := 6) (by decide) v
  have hL : cp_LL n P lq d = i :: t := by rw [cp_LLd _ _ _ hd]; exact h
  have h2 := cp_MW_lv h1 (q := d) (k := 0) (by omega) (by rw [hL]; simp)
  rw [hL] at h2
  exact h2
theorem cp_ed_B (hW : cp_MW a n P (cp_LL n P lq)) (hV : cp_PV n P lq) (h : cp_dq n P d = i :: t) (hd : d < 5) (v : Int32) :
    cp_MW (cp_cm (upd (cp_lv (upd a (158 + 9 * i + 6) v) d 0 (i :: t).length ((i :: t).length - 1)) (158 + 9 * i + 4) 1) 5 lq.length i) n (cp_wi (cp_wi P i 6 v) i 4 1) (cp_LL n (cp_wi (cp_wi P i 6 v) i 4 1) (lq ++ [i])) := by
  have hi := cp_ed_hd h
  have h3 := cp_MW_set (cp_ed_L hW hV h hd v) hV.1 hi.1 (f := 4) (by decide) 1
  have h5 : cp_uL (cp_LL n P lq) d t 5 = lq := by unfold cp_uL; rw [if_neg (by omega), cp_LL5]
  have hlen := cp_PV_len hV hi.1 (by rw [hi.2.1]; decide)
  have hn := hV.1
  have h4 := cp_MW_cm h3 (q := 5) (by decide) (by rw [h5]; omega) i
  rw [h5] at h4
  refine cp_MW_L h4 fun q hq => ?_
  by_cases hq5 : q = 5
  · subst hq5; rw [cp_LL5]; unfold cp_uL; rw [if_pos rfl]
  · rw [cp_LLd _ _ _ (by omega), cp_dq_tl h hd (by decide) (by omega)]
    unfold cp_uL
    rw [if_neg hq5]
    by_cases hqd : q = d
    · rw [if_pos hqd, if_pos hqd]
    · rw [if_neg hqd, if_neg hqd, cp_LLd _ _ _ (by omega)]
theorem cp_ed_C (hW : cp_MW a n P (cp_LL n P lq)) (hV : cp_PV n P lq) (h : cp_dq n P d = i :: t) (hd : d < 5) (v w : Int32) :
    cp_MW (upd (upd (cp_lv (upd a (158 + 9 * i + 6) v) d 0 (i :: t).length ((i :: t).length - 1)) (158 + 9 * i + 4) 2) (158 + 9 * i + 8) w) n (cp_wi (cp_wi (cp_wi P i 6 v) i 4 2) i 8 w) (cp_LL n (cp_wi (cp_wi (cp_wi P i 6 v) i 4 2) i 8 w) lq) := by
  have hi := cp_ed_hd h
  have h3 := cp_MW_set (cp_ed_L hW hV h hd v) hV.1 hi.1 (f := 4) (by decide) 2
  have h4 := cp_MW_set h3 hV.1 hi.1 (f := 8) (by decide) w
  refine cp_MW_L h4 fun q hq => ?_
  by_cases hq5 : q = 5
  · subst hq5; rw [cp_LL5]; unfold cp_uL; rw [if_neg (by omega), cp_LL5]
  · rw [cp_LLd _ _ _ (by omega), cp_dq_wi _ _ _ _ _ _ (by decide) (by decide), cp_dq_tl h hd (by decide) (by omega)]
    unfold cp_uL
    by_cases hqd : q = d
    · rw [if_pos hqd, if_pos hqd]
    · rw [if_neg hqd, if_neg hqd, cp_LLd _ _ _ (by omega)]
/-- the lawyer's -/
theorem cp_rd_nil : cp_rd S mi (P, []) = (P, []) := rfl
theorem cp_rd_cons : cp_rd S mi (P, i :: t) = if S 1 ≤ P i 7 + 1 then (cp_wi (cp_wi (cp_wi P i 7 (P i 7 + 1)) i 4 2) i 8 mi, t) else (cp_wi P i 7 (P i 7 + 1), i :: t) := rfl
theorem cp_rd_A (hW : cp_MW a n P (cp_LL n P (i :: t))) (hV : cp_PV n P (i :: t)) (v : Int32) : cp_MW (upd a (158 + 9 * i + 7) v) n (cp_wi P i 7 v) (cp_LL n (cp_wi P i 7 v) (i :: t)) := by
  refine cp_MW_L (cp_MW_set hW hV.1 ((hV.2.2.2 i).mp List.mem_cons_self).1 (by decide) v) fun q hq => ?_
  by_cases h5 : q = 5
  · subst h5; rw [cp_LL5, cp_LL5]
  · rw [cp_LLd _ _ _ (by omega), cp_LLd _ _ _ (by omega), cp_dq_wi _ _ _ _ _ _ (by decide) (by decide)]
theorem cp_rd_L (hW : cp_MW a n P (cp_LL n P (i :: t))) (hV : cp_PV n P (i :: t)) (v : Int32) : cp_MW (cp_lv (upd a (158 + 9 * i + 7) v) 5 0 (i :: t).length ((i :: t).length - 1)) n (cp_wi P i 7 v) (cp_uL (cp_LL n P (i :: t)) 5 t) := by
  have h1 := cp_MW_set hW hV.1 ((hV.2.2.2 i).mp List.mem_cons_self).1 (f := 7) (by decide) v
  have h2 := cp_MW_lv h1 (q := 5) (k := 0) (by omega) (by rw [cp_LL5]; simp)
  rw [cp_LL5] at h2
  exact h2
theorem cp_rd_C (hW : cp_MW a n P (cp_LL n P (i :: t))) (hV : cp_PV n P (i :: t)) (v w : Int32) :
    cp_MW (upd (upd (cp_lv (upd a (158 + 9 * i + 7) v) 5 0 (i :: t).length ((i :: t).length - 1)) (158 + 9 * i + 4) 2) (158 + 9 * i + 8) w) n (cp_wi (cp_wi (cp_wi P i 7 v) i 4 2) i 8 w) (cp_LL n (cp_wi (cp_wi (cp_wi P i 7 v) i 4 2) i 8 w) t) := by
  have hi := (hV.2.2.2 i).mp List.mem_cons_self
  have h3 := cp_MW_set (cp_rd_L hW hV v) hV.1 hi.1 (f := 4) (by decide) 2
  have h4 := cp_MW_set h3 hV.1 hi.1 (f := 8) (by decide) w
  refine cp_MW_L h4 fun q hq => ?_
  by_cases hq5 : q = 5
  · subst hq5; rw [cp_LL5]; unfold cp_uL; rw [if_pos rfl]
  · rw [cp_LLd _ _ _ (by omega), cp_dq_wi _ _ _ _ _ _ (by decide) (by decide), cp_dq_out _ _ _ _ _ (by decide), cp_dq_wi _ _ _ _ _ _ (by decide) (by decide)]
    unfold cp_uL
    rw [if_neg hq5, cp_LLd _ _ _ (by omega)]
    refine cp_fil_no fun hm => ?_
    have h1 := (cp_dq_in.mp hm).2.1
    rw [hi.2] at h1
    exact absurd h1 (by decide)
end EDP

