/-! THE NIGHT IN WORDS OF BOTH SIDES: settings S, pieces P (their fields as both have them), the lawyer's queue; desks' queues are read off P -/
abbrev cp_PP : Type := Nat → Nat → Int32
def cp_dq (n : Nat) (P : cp_PP) (d : Nat) : List Nat := (List.range n).filter (fun i => decide (P i 4 = 0) && decide (P i 0 = nI d))
/-- desk d edits for a minute -/
def cp_ed (S : Nat → Int32) (mi : Int32) (n d : Nat) (w : cp_PP × List Nat) : cp_PP × List Nat := match cp_dq n w.1 d with
  | [] => w
  | i :: _ => if w.1 i 6 + S 0 < w.1 i 1 then (cp_wi w.1 i 6 (w.1 i 6 + S 0), w.2) else if w.1 i 3 = 1 then (cp_wi (cp_wi w.1 i 6 (w.1 i 1)) i 4 1, w.2 ++ [i]) else (cp_wi (cp_wi (cp_wi w.1 i 6 (w.1 i 1)) i 4 2) i 8 mi, w.2)
/-- the lawyer reads for a minute -/
def cp_rd (S : Nat → Int32) (mi : Int32) (w : cp_PP × List Nat) : cp_PP × List Nat := match w.2 with
  | [] => w
  | i :: t => if S 1 ≤ w.1 i 7 + 1 then (cp_wi (cp_wi (cp_wi w.1 i 7 (w.1 i 7 + 1)) i 4 2) i 8 mi, t) else (cp_wi w.1 i 7 (w.1 i 7 + 1), w.2)
def cp_eds (S : Nat → Int32) (mi : Int32) (n : Nat) : Nat → cp_PP × List Nat → cp_PP × List Nat
  | 0, w => w
  | k + 1, w => cp_ed S mi n k (cp_eds S mi n k w)
def cp_wk (S : Nat → Int32) (mi : Int32) (n : Nat) (w : cp_PP × List Nat) : cp_PP × List Nat := cp_rd S mi (cp_eds S mi n 5 w)
/-- a queue of the model's row a -/
def cp_QL (a : Nat → Int32) (q : Nat) (l : List Nat) : Prop := a (8 + q) = nI l.length ∧ l.length ≤ 24 ∧ ∀ k, k < l.length → a (14 + 24 * q + k) = nI (l.getD k 0)
/-- pieces and queues of the model's row a -/
def cp_MW (a : Nat → Int32) (n : Nat) (P : cp_PP) (L : Nat → List Nat) : Prop := (∀ i, i < n → ∀ f, f < 9 → a (158 + 9 * i + f) = P i f) ∧ ∀ q, q < 6 → cp_QL a q (L q)
/-- pieces are as they may be: how they are, whose desk, what is in the lawyer's queue -/
def cp_PV (n : Nat) (P : cp_PP) (lq : List Nat) : Prop := n ≤ 24 ∧ (∀ i, i < n → (∃ d, d < 5 ∧ P i 0 = nI d) ∧ (P i 4 = 0 ∨ P i 4 = 1 ∨ P i 4 = 2 ∨ P i 4 = 3)) ∧ lq.Nodup ∧ ∀ i, i ∈ lq ↔ i < n ∧ P i 4 = 1
def cp_LL (n : Nat) (P : cp_PP) (lq : List Nat) (q : Nat) : List Nat := if q = 5 then lq else cp_dq n P q
/-- behind leaves: the piece at place k of the queue q of length n is gone; c: how far the shift is -/
def cp_lv (a : Nat → Int32) (q k n c : Nat) : Nat → Int32 := fun x => if x = 8 + q then nI (n - 1) else if 14 + 24 * q + k ≤ x ∧ x < 14 + 24 * q + c then a (x + 1) else a x
theorem cp_nm6 {q : Nat} (h : q < 2 ^ 31) : nI q ≠ -6 := fun e => by
  have h1 := congrArg Int32.toInt e
  rw [nI_toInt h] at h1
  have h2 : (-6 : Int32).toInt = -6 := rfl
  rw [h2] at h1
  omega
theorem cp_lv_0 (a : Nat → Int32) (q k n : Nat) (hn : a (8 + q) = nI n) (h0 : 0 < n) : upd a (8 + q) (a (8 + q) - 1) = cp_lv a q k n k := by
  rw [hn, show nI n - 1 = nI (n - 1) from pk_sub (b := 1) h0]
  funext x
  unfold upd cp_lv
  by_cases h : x = 8 + q
  · rw [if_pos h, if_pos h]
  · rw [if_neg h, if_neg h, if_neg (by omega)]
theorem cp_lv_s (a : Nat → Int32) (q k n c : Nat) (hk : k ≤ c) (hq : q < 6) (hc : c < 24) : upd (cp_lv a q k n c) (14 + 24 * q + c) (cp_lv a q k n c (14 + 24 * q + c + 1)) = cp_lv a q k n (c + 1) := by
  funext x
  unfold upd cp_lv
  by_cases h : x = 14 + 24 * q + c
  · subst h
    rw [if_pos rfl, if_neg (by omega), if_neg (by omega), if_neg (by omega), if_pos (by omega)]
  · rw [if_neg h]
    by_cases h1 : x = 8 + q
    · rw [if_pos h1, if_pos h1]
    · rw [if_neg h1, if_neg h1]
      by_cases h2 : 14 + 24 * q + k ≤ x ∧ x < 14 + 24 * q + c
      · rw [if_pos h2, if_pos (by omega)]
      · rw [if_neg h2, if_neg (by omega)]
theorem cp_gD {l : List Nat} {k : Nat} (h : k < l.length) : l.getD k 0 = l[k] := by simp [List.getD, List.getElem?_eq_getElem h]
theorem cp_getD_in {l : List Nat} {k : Nat} (h : k < l.length) : l.getD k 0 ∈ l := by
  rw [cp_gD h]
  exact List.getElem_mem h
theorem cp_dq_in {n : Nat} {P : cp_PP} {d i : Nat} : i ∈ cp_dq n P d ↔ i < n ∧ P i 4 = 0 ∧ P i 0 = nI d := by
  simp [cp_dq]
theorem cp_dq_nd (n : Nat) (P : cp_PP) (d : Nat) : (cp_dq n P d).Nodup := List.Pairwise.filter _ List.nodup_range
theorem cp_dq_le (n : Nat) (P : cp_PP) (d : Nat) : (cp_dq n P d).length ≤ n := by
  have h := List.length_filter_le (fun i => decide (P i 4 = 0) && decide (P i 0 = nI d)) (List.range n)
  rw [List.length_range] at h
  exact h
/-- the desks' queues don't ask for other fields -/
theorem cp_dq_wi (n : Nat) (P : cp_PP) (i f : Nat) (v : Int32) (d : Nat) (h4 : f ≠ 4) (h0 : f ≠ 0) : cp_dq n (cp_wi P i f v) d = cp_dq n P d := by
  unfold cp_dq
  apply List.filter_congr
  intro j _
  simp [cp_wi, Ne.symm h4, Ne.symm h0]
theorem cp_dq_out (n : Nat) (P : cp_PP) (i : Nat) (v : Int32) (d : Nat) (hv : v ≠ 0) : cp_dq n (cp_wi P i 4 v) d = (cp_dq n P d).filter (fun j => decide (j ≠ i)) := by
  unfold cp_dq
  rw [List.filter_filter]
  apply List.filter_congr
  intro j _
  by_cases hj : j = i
  · subst hj; simp [cp_wi, hv]
  · simp [cp_wi, hj]
theorem cp_fil_no {l : List Nat} {i : Nat} (h : i ∉ l) : l.filter (fun j => decide (j ≠ i)) = l := by
  apply List.filter_eq_self.mpr
  intro j hj
  simp only [decide_eq_true_eq]
  exact fun e => h (e ▸ hj)
theorem cp_fil_hd {i : Nat} {t : List Nat} (h : (i :: t).Nodup) : (i :: t).filter (fun j => decide (j ≠ i)) = t := by
  rw [List.filter_cons_of_neg (by simp)]
  exact cp_fil_no (List.nodup_cons.mp h).1
/-- queues of a changed row -/
theorem cp_QL_eq {a b : Nat → Int32} {q : Nat} {l : List Nat} (h : cp_QL a q l) (h8 : b (8 + q) = a (8 + q)) (hk : ∀ k, k < 24 → b (14 + 24 * q + k) = a (14 + 24 * q + k)) : cp_QL b q l :=
  ⟨h8.trans h.1, h.2.1, fun k hl => (hk k (Nat.lt_of_lt_of_le hl h.2.1)).trans (h.2.2 k hl)⟩
theorem cp_QL_lv {a : Nat → Int32} {q : Nat} {l : List Nat} (h : cp_QL a q l) (hq : q < 6) {k : Nat} (hk : k < l.length) : cp_QL (cp_lv a q k l.length (l.length - 1)) q (l.eraseIdx k) := by
  obtain ⟨h1, h2, h3⟩ := h
  have hlen : (l.eraseIdx k).length = l.length - 1 := by rw [List.length_eraseIdx, if_pos hk]
  refine ⟨?_, by omega, fun j hj => ?_⟩
  · rw [hlen]; simp [cp_lv]
  · rw [hlen] at hj
    unfold cp_lv
    rw [if_neg (by omega), cp_gD (by omega), List.getElem_eraseIdx]
    by_cases hjk : j < k
    · rw [if_neg (by omega), h3 j (by omega), dif_pos hjk, cp_gD (by omega)]
    · rw [if_pos (by omega), dif_neg hjk, show 14 + 24 * q + j + 1 = 14 + 24 * q + (j + 1) by omega, h3 (j + 1) (by omega), cp_gD (by omega)]
theorem cp_QL_lvo {a : Nat → Int32} {q q' k n c : Nat} {l : List Nat} (h : cp_QL a q' l) (hne : q' ≠ q) (hq : q < 6) (hq' : q' < 6) (hc : c ≤ 24) : cp_QL (cp_lv a q k n c) q' l := by
  refine cp_QL_eq h ?_ fun j hj => ?_
  · unfold cp_lv
    rw [if_neg (by omega), if_neg (by omega)]
  · unfold cp_lv
    rw [if_neg (by omega), if_neg (by omega)]
theorem cp_lv_hi {a : Nat → Int32} {q k n c x : Nat} (hq : q < 6) (hc : c ≤ 24) (h : x < 8 ∨ 158 ≤ x) : cp_lv a q k n c x = a x := by
  unfold cp_lv
  rw [if_neg (by omega), if_neg (by omega)]
/-- a piece comes to the end of a queue -/
def cp_cm (a : Nat → Int32) (q n : Nat) (p : Nat) : Nat → Int32 := upd (upd a (14 + 24 * q + n) (nI p)) (8 + q) (nI (n + 1))
theorem cp_QL_cm {a : Nat → Int32} {q : Nat} {l : List Nat} (h : cp_QL a q l) (hq : q < 6) (hl : l.length < 24) (p : Nat) : cp_QL (cp_cm a q l.length p) q (l ++ [p]) := by
  obtain ⟨h1, h2, h3⟩ := h
  refine ⟨by simp [cp_cm, upd], by simp; omega, fun k hk => ?_⟩
  have hk' : k < l.length + 1 := by simpa using hk
  unfold cp_cm upd
  rw [if_neg (by omega)]
  by_cases hkl : k = l.length
  · subst hkl
    rw [if_pos rfl]
    simp
  · rw [if_neg (by omega), h3 k (by omega)]
    congr 1
    rw [cp_gD (by omega), cp_gD hk, List.getElem_append_left (by omega)]
theorem cp_QL_cmo {a : Nat → Int32} {q q' n p : Nat} {l : List Nat} (h : cp_QL a q' l) (hne : q' ≠ q) (hq : q < 6) (hq' : q' < 6) (hn : n < 24) : cp_QL (cp_cm a q n p) q' l := by
  refine cp_QL_eq h ?_ fun j hj => ?_ <;> unfold cp_cm upd <;> rw [if_neg (by omega), if_neg (by omega)]
theorem cp_cm_hi {a : Nat → Int32} {q n p x : Nat} (hq : q < 6) (hn : n < 24) (h : x < 8 ∨ 158 ≤ x) : cp_cm a q n p x = a x := by
  unfold cp_cm upd
  rw [if_neg (by omega), if_neg (by omega)]

def cp_uL (L : Nat → List Nat) (q : Nat) (l : List Nat) : Nat → List Nat := fun x => if x = q then l else L x
theorem cp_MW_set {a : Nat → Int32} {n : Nat} {P : cp_PP} {L : Nat → List Nat} (h : cp_MW a n P L) (hn : n ≤ 24) {i f : Nat} (hi : i < n) (hf : f < 9) (v : Int32) : cp_MW (upd a (158 + 9 * i + f) v) n (cp_wi P i f v) L := by
  refine ⟨fun j hj g hg => ?_, fun q hq => cp_QL_eq (h.2 q hq) (by unfold upd; rw [if_neg (by omega)]) (fun k hk => by unfold upd; rw [if_neg (by omega)])⟩
  unfold upd cp_wi
  by_cases hji : j = i ∧ g = f
  · rw [if_pos hji, if_pos (by omega)]
  · rw [if_neg hji, if_neg (by omega)]
    exact h.1 j hj g hg
theorem cp_MW_lv {a : Nat → Int32} {n : Nat} {P : cp_PP} {L : Nat → List Nat} (h : cp_MW a n P L) {q k : Nat} (hq : q < 6) (hk : k < (L q).length) : cp_MW (cp_lv a q k (L q).length ((L q).length - 1)) n P (cp_uL L q ((L q).eraseIdx k)) := by
  have h24 := (h.2 q hq).2.1
  refine ⟨fun j hj g hg => ?_, fun q' hq' => ?_⟩
  · rw [cp_lv_hi hq (by omega) (by omega)]
    exact h.1 j hj g hg
  · unfold cp_uL
    by_cases hqq : q' = q
    · subst hqq
      rw [if_pos rfl]
      exact cp_QL_lv (h.2 q' hq) hq hk
    · rw [if_neg hqq]
      exact cp_QL_lvo (h.2 q' hq') hqq hq hq' (by omega)
theorem cp_MW_cm {a : Nat → Int32} {n : Nat} {P : cp_PP} {L : Nat → List Nat} (h : cp_MW a n P L) {q : Nat} (hq : q < 6) (hl : (L q).length < 24) (p : Nat) : cp_MW (cp_cm a q (L q).length p) n P (cp_uL L q (L q ++ [p])) := by
  refine ⟨fun j hj g hg => ?_, fun q' hq' => ?_⟩
  · rw [cp_cm_hi hq hl (by omega)]
    exact h.1 j hj g hg
  · unfold cp_uL
    by_cases hqq : q' = q
    · subst hqq
      rw [if_pos rfl]
      exact cp_QL_cm (h.2 q' hq) hq hl p
    · rw [if_neg hqq]
      exact cp_QL_cmo (h.2 q' hq') hqq hq hq' hl
theorem cp_MW_L {a : Nat → Int32} {n : Nat} {P : cp_PP} {L L' : Nat → List Nat} (h : cp_MW a n P L) (hL : ∀ q, q < 6 → L' q = L q) : cp_MW a n P L' := ⟨h.1, fun q hq => by rw [hL q hq]; exact h.2 q hq⟩
theorem cp_wi_j (I : cp_Mem) (a j : Nat) (v : Int32) {a' j' : Nat} (h : ¬ (a' = a ∧ j' = j)) : cp_wi I a j v a' j' = I a' j' := by
  unfold cp_wi
  rw [if_neg h]
theorem cp_upd_n {a : Nat → Int32} {k x : Nat} {v : Int32} (h : x ≠ k) : upd a k v x = a x := by unfold upd; rw [if_neg h]
theorem cp_upd_s {a : Nat → Int32} {k : Nat} {v : Int32} : upd a k v k = v := by unfold upd; rw [if_pos rfl]

