/-! WHAT THE DESKS LEAVE: cp_eP, all desks at once, is what the desks one by one leave; the lawyer's queue stays in the order of the turns -/
theorem cp_e1_0 (s mi : Int32) (g : Nat → Int32) : cp_e1 s mi g 0 = g 0 := by
  unfold cp_e1
  split
  · rfl
  · split
    · rfl
    · rfl
def cp_LB (B : Nat) (P : cp_PP) (l : List Nat) : Prop := (∀ i j, i < j → j < l.length → P (l.getD i 0) 9 < P (l.getD j 0) 9) ∧ ∀ i, i ∈ l → ∃ t, t < B ∧ P i 9 = nI t
theorem cp_LB_LT {mi : Nat} {P : cp_PP} {l : List Nat} : cp_LB (5 * mi) P l ↔ cp_LT mi P l := Iff.rfl
theorem cp_LB_up {B C : Nat} {P : cp_PP} {l : List Nat} (h : cp_LB B P l) (hB : B ≤ C) : cp_LB C P l := ⟨h.1, fun i hi => by
  obtain ⟨t, h1, h2⟩ := h.2 i hi
  exact ⟨t, by omega, h2⟩⟩
theorem cp_LB_P {B : Nat} {P P' : cp_PP} {l : List Nat} (h : cp_LB B P l) (e : ∀ i, i ∈ l → P' i 9 = P i 9) : cp_LB B P' l := ⟨fun i j hij hj => by
  rw [e _ (cp_getD_in (by omega)), e _ (cp_getD_in hj)]
  exact h.1 i j hij hj, fun i hi => by rw [e i hi]; exact h.2 i hi⟩
theorem cp_LB_ap {B i : Nat} {P : cp_PP} {l : List Nat} (h : cp_LB B P l) (hB : B < 1000000) (hi : P i 9 = nI B) : cp_LB (B + 1) P (l ++ [i]) := by
  refine ⟨fun a c hac hc => ?_, fun k hk => ?_⟩
  · rw [List.length_append, List.length_singleton] at hc
    have ga : (l ++ [i]).getD a 0 = l.getD a 0 := by
      rw [cp_gD (by rw [List.length_append, List.length_singleton]; omega), cp_gD (show a < l.length by omega), List.getElem_append_left]
    rw [ga]
    by_cases e : c = l.length
    · subst e
      have gc : (l ++ [i]).getD l.length 0 = i := by
        rw [cp_gD (by rw [List.length_append, List.length_singleton]; omega)]
        simp
      rw [gc, hi]
      obtain ⟨t, h1, h2⟩ := h.2 _ (cp_getD_in (show a < l.length from hac))
      rw [h2]
      exact (nI_ltI (by omega) (by omega)).mpr h1
    · have gc : (l ++ [i]).getD c 0 = l.getD c 0 := by
        rw [cp_gD (by rw [List.length_append, List.length_singleton]; omega), cp_gD (show c < l.length by omega), List.getElem_append_left]
      rw [gc]
      exact h.1 a c hac (by omega)
  · rcases List.mem_append.mp hk with g | g
    · obtain ⟨t, h1, h2⟩ := h.2 k g
      exact ⟨t, by omega, h2⟩
    · rw [List.mem_singleton.mp g]
      exact ⟨B, by omega, hi⟩
theorem cp_LB_tl {B i : Nat} {P : cp_PP} {t : List Nat} (h : cp_LB B P (i :: t)) : cp_LB B P t := ⟨fun a c hac hc => h.1 (a + 1) (c + 1) (by omega) (by rw [List.length_cons]; omega), fun k hk => h.2 k (List.mem_cons_of_mem _ hk)⟩
/-- of a desk's queue the first is the one that is first there -/
theorem cp_hdq_hd {n d i : Nat} {P : cp_PP} {t : List Nat} (h : cp_dq n P d = i :: t) : cp_hdq P i = true ∧ ∀ j, j < n → P j 0 = nI d → cp_hdq P j = true → j = i := by
  have hi := cp_ed_hd h
  have qi : cp_qd P (nI d) i = true := by unfold cp_qd; rw [decide_eq_true hi.2.1, decide_eq_true hi.2.2]; rfl
  refine ⟨?_, fun j hj hd hh => ?_⟩
  · have e := cp_idx_fil (q := cp_qd P (nI d)) qi hi.1
    rw [← cp_dq_qd, h] at e
    have z : (i :: t).idxOf i = 0 := by simp
    unfold cp_hdq
    rw [hi.2.2, decide_eq_true hi.2.1, decide_eq_true (e.symm.trans z)]
    rfl
  · unfold cp_hdq at hh
    rw [Bool.and_eq_true, decide_eq_true_iff, decide_eq_true_iff, hd] at hh
    have qj : cp_qd P (nI d) j = true := by unfold cp_qd; rw [decide_eq_true hh.1, decide_eq_true hd]; rfl
    have e := cp_idx_fil (q := cp_qd P (nI d)) qj hj
    rw [← cp_dq_qd, h, hh.2, List.idxOf_cons] at e
    by_cases g : i = j
    · exact g.symm
    · have g2 : (i == j) = false := by simp [g]
      rw [g2] at e
      simp at e
theorem cp_dq_nil {n d j : Nat} {P : cp_PP} (h : cp_dq n P d = []) (hj : j < n) (hd : P j 0 = nI d) : cp_hdq P j = false := by
  by_cases h4 : P j 4 = 0
  · exact absurd (cp_dq_in.mpr ⟨hj, h4, hd⟩) (by rw [h]; exact List.not_mem_nil)
  · unfold cp_hdq
    rw [decide_eq_false h4, Bool.false_and]
theorem cp_hdq_4 {j : Nat} {P : cp_PP} (h : cp_hdq P j = true) : P j 4 = 0 := by
  unfold cp_hdq at h
  rw [Bool.and_eq_true, decide_eq_true_iff] at h
  exact h.1
/-- what is so when k desks have edited -/
def cp_ek (s mi : Int32) (n : Nat) (P : cp_PP) (k : Nat) (P' : cp_PP) : Prop := ∀ i, i < n → ∀ d, P i 0 = nI d → d < 5 → ∀ f, f < 9 → P' i f = if cp_hdq P i = true ∧ d < k then cp_e1 s mi (P i) f else P i f
theorem cp_ek_dq {s mi : Int32} {n k : Nat} {P P' : cp_PP} {lq : List Nat} (hV : cp_PV n P lq) (h : cp_ek s mi n P k P') (hk : k < 5) : cp_dq n P' k = cp_dq n P k := by
  unfold cp_dq
  apply List.filter_congr
  intro i hi
  have hi := List.mem_range.mp hi
  obtain ⟨d, hd, e0⟩ := (hV.2.1 i hi).1
  have h4 := h i hi d e0 hd 4 (by decide)
  have h0 := h i hi d e0 hd 0 (by decide)
  rw [h4, h0]
  by_cases c : cp_hdq P i = true ∧ d < k
  · rw [if_pos c, if_pos c, cp_e1_0, e0, decide_eq_false (show ¬ nI d = nI k from fun z => by have := (nI_eq (by omega) (by omega)).mp z; omega), Bool.and_false, Bool.and_false]
  · rw [if_neg c, if_neg c]
theorem cp_eds_e {n mi s0 : Nat} {S : Nat → Int32} {P : cp_PP} {lq : List Nat} (hV : cp_PV n P lq) (hPN : cp_PN n P) (hL : cp_LT mi P lq) (hmi : mi < 100000) (hS : S 0 = nI s0) :
    ∀ k, k ≤ 5 → cp_ek (nI s0) (nI mi) n P k (cp_eds S (nI mi) n k (P, lq)).1 ∧ cp_LB (5 * mi + k) (cp_eP (nI s0) (nI mi) P n) (cp_eds S (nI mi) n k (P, lq)).2
  | 0, _ => by
    refine ⟨fun i hi d _ _ f _ => ?_, cp_LB_P (cp_LB_LT.mpr hL) (fun i hi => ?_)⟩
    · rw [if_neg (fun z => absurd z.2 (Nat.not_lt_zero _))]
      rfl
    · have h4 := ((hV.2.2.2 i).mp hi).2
      unfold cp_eP
      rw [if_neg (fun z => absurd ((cp_hdq_4 z.2).symm.trans h4) (by decide))]
  | k + 1, hk => by
    obtain ⟨h1, h2⟩ := cp_eds_e hV hPN hL hmi hS k (by omega)
    have hq := cp_ek_dq hV h1 (show k < 5 by omega)
    show cp_ek (nI s0) (nI mi) n P (k + 1) (cp_ed S (nI mi) n k ((cp_eds S (nI mi) n k (P, lq)).1, (cp_eds S (nI mi) n k (P, lq)).2)).1 ∧ cp_LB (5 * mi + (k + 1)) (cp_eP (nI s0) (nI mi) P n) (cp_ed S (nI mi) n k ((cp_eds S (nI mi) n k (P, lq)).1, (cp_eds S (nI mi) n k (P, lq)).2)).2
    generalize (cp_eds S (nI mi) n k (P, lq)).1 = Pk at h1 hq ⊢
    generalize (cp_eds S (nI mi) n k (P, lq)).2 = lk at h2 ⊢
    cases e : cp_dq n P k with
    | nil =>
      rw [cp_ed_nil (hq.trans e)]
      refine ⟨fun i hi d e0 hd f hf => ?_, cp_LB_up h2 (by omega)⟩
      show Pk i f = _
      rw [h1 i hi d e0 hd f hf]
      by_cases g : d = k
      · subst g
        rw [cp_dq_nil e hi e0, if_neg (fun z => absurd z.1 (by decide)), if_neg (fun z => absurd z.1 (by decide))]
      · by_cases c : cp_hdq P i = true ∧ d < k
        · rw [if_pos c, if_pos ⟨c.1, by omega⟩]
        · rw [if_neg c, if_neg (fun z => c ⟨z.1, by omega⟩)]
    | cons i0 t =>
      have hi0 := cp_ed_hd e
      obtain ⟨hh, hu⟩ := cp_hdq_hd e
      have row : ∀ f, f < 9 → Pk i0 f = P i0 f := fun f hf => by
        rw [h1 i0 hi0.1 k hi0.2.2 (by omega) f hf, if_neg (fun z => absurd z.2 (Nat.lt_irrefl _))]
      have oth : ∀ g : Nat → Int32, (∀ f, f < 9 → g f = cp_e1 (nI s0) (nI mi) (P i0) f) → cp_ek (nI s0) (nI mi) n P (k + 1) (cp_row Pk i0 g) := fun g hg i hi d e0 hd f hf => by
        by_cases c : i = i0
        · subst c
          have hdk : d = k := (nI_eq (by omega) (by omega)).mp (e0.symm.trans hi0.2.2)
          rw [cp_row_s, if_pos ⟨hh, by omega⟩]
          exact hg f hf
        · rw [cp_row_n _ _ c, h1 i hi d e0 hd f hf]
          by_cases c2 : cp_hdq P i = true ∧ d < k
          · rw [if_pos c2, if_pos ⟨c2.1, by omega⟩]
          · rw [if_neg c2, if_neg (fun z => by
              by_cases g2 : d = k
              · subst g2; exact c (hu i hi e0 z.1)
              · exact c2 ⟨z.1, by omega⟩)]
      obtain ⟨⟨q, hq1, hq2, hq3, ee, he, he6⟩, -⟩ := hPN i0 hi0.1
      rw [cp_ed_cons (hq.trans e), row 6 (by decide), row 1 (by decide), row 3 (by decide), hS]
      by_cases c1 : P i0 6 + nI s0 < P i0 1
      · rw [if_pos c1]
        refine ⟨?_, cp_LB_up h2 (by omega)⟩
        show cp_ek (nI s0) (nI mi) n P (k + 1) (cp_wi Pk i0 6 (P i0 6 + nI s0))
        rw [cp_wi_row]
        refine oth _ (fun f hf => ?_)
        unfold cp_e1
        rw [if_pos c1]
        unfold upd
        split
        · rfl
        · exact row f hf
      · rw [if_neg c1]
        by_cases c3 : P i0 3 = 1
        · rw [if_pos c3]
          refine ⟨?_, ?_⟩
          · show cp_ek (nI s0) (nI mi) n P (k + 1) (cp_wi (cp_wi Pk i0 6 (P i0 1)) i0 4 1)
            rw [cp_wi_row, cp_wi_row, cp_row_s, cp_row_row]
            refine oth _ (fun f hf => ?_)
            unfold cp_e1
            rw [if_neg c1, if_pos c3]
            unfold upd
            rw [if_neg (show ¬ f = 9 by omega)]
            split
            · rfl
            · split
              · rfl
              · exact row f hf
          · refine cp_LB_ap (B := 5 * mi + k) h2 (by omega) ?_
            unfold cp_eP
            rw [if_pos ⟨hi0.1, hh⟩]
            unfold cp_e1
            rw [if_neg c1, if_pos c3, cp_upd_s, hi0.2.2, show (5 : Int32) = nI 5 from rfl, pk_mul, nI_add]
            congr 1
            omega
        · rw [if_neg c3]
          refine ⟨?_, cp_LB_up h2 (by omega)⟩
          show cp_ek (nI s0) (nI mi) n P (k + 1) (cp_wi (cp_wi (cp_wi Pk i0 6 (P i0 1)) i0 4 2) i0 8 (nI mi))
          rw [cp_wi_row, cp_wi_row, cp_wi_row, cp_row_s, cp_row_row, cp_row_s, cp_row_row]
          refine oth _ (fun f hf => ?_)
          unfold cp_e1
          rw [if_neg c1, if_neg c3]
          unfold upd
          split
          · rfl
          · split
            · rfl
            · split
              · rfl
              · exact row f hf
theorem cp_eP_a {n mi s0 : Nat} {S : Nat → Int32} {P : cp_PP} {lq : List Nat} (hV : cp_PV n P lq) (hPN : cp_PN n P) (hL : cp_LT mi P lq) (hmi : mi < 100000) (hS : S 0 = nI s0) :
    cp_AP n (cp_eds S (nI mi) n 5 (P, lq)).1 (cp_eP (nI s0) (nI mi) P n) ∧ cp_LT (mi + 1) (cp_eP (nI s0) (nI mi) P n) (cp_eds S (nI mi) n 5 (P, lq)).2 := by
  obtain ⟨h1, h2⟩ := cp_eds_e hV hPN hL hmi hS 5 (Nat.le_refl _)
  refine ⟨fun i hi f hf => ?_, h2⟩
  obtain ⟨d, hd, e0⟩ := (hV.2.1 i hi).1
  rw [h1 i hi d e0 hd f hf]
  unfold cp_eP
  by_cases c : cp_hdq P i = true
  · rw [if_pos ⟨c, hd⟩, if_pos ⟨hi, c⟩]
  · rw [if_neg (fun z => c z.1), if_neg (fun z => c z.2)]
theorem cp_rd_LT {S : Nat → Int32} {mi : Int32} {m : Nat} {P : cp_PP} {lq : List Nat} (h : cp_LT m P lq) : cp_LT m (cp_rd S mi (P, lq)).1 (cp_rd S mi (P, lq)).2 := by
  cases lq with
  | nil => exact h
  | cons i t =>
    have h9 : ∀ k, (cp_rd S mi (P, i :: t)).1 k 9 = P k 9 := fun k => by
      rw [cp_rd_cons]
      split
      · show cp_wi (cp_wi (cp_wi P i 7 (P i 7 + 1)) i 4 2) i 8 mi k 9 = P k 9
        rw [cp_wi_j _ _ _ _ (fun z => absurd z.2 (by decide)), cp_wi_j _ _ _ _ (fun z => absurd z.2 (by decide)), cp_wi_j _ _ _ _ (fun z => absurd z.2 (by decide))]
      · show cp_wi P i 7 (P i 7 + 1) k 9 = P k 9
        rw [cp_wi_j _ _ _ _ (fun z => absurd z.2 (by decide))]
    have hl : (cp_rd S mi (P, i :: t)).2 = i :: t ∨ (cp_rd S mi (P, i :: t)).2 = t := by
      rw [cp_rd_cons]
      split
      · exact Or.inr rfl
      · exact Or.inl rfl
    have hb : cp_LB (5 * m) (cp_rd S mi (P, i :: t)).1 (i :: t) := cp_LB_P (cp_LB_LT.mpr h) (fun k _ => h9 k)
    rcases hl with g | g
    · rw [g]; exact cp_LB_LT.mp hb
    · rw [g]; exact cp_LB_LT.mp (cp_LB_tl hb)

