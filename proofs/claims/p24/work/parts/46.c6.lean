/-- the lawyer's queue is in the order of the turns -/
def cp_LT (mi : Nat) (P : cp_PP) (lq : List Nat) : Prop := (∀ i j, i < j → j < lq.length → P (lq.getD i 0) 9 < P (lq.getD j 0) 9) ∧ ∀ i, i ∈ lq → ∃ t, t < 5 * mi ∧ P i 9 = nI t
theorem cp_pal {n mi p : Nat} {P : cp_PP} {lq : List Nat} (hV : cp_PV n P lq) (hL : cp_LT mi P lq) (hp : p ∈ lq) : cp_cnt (fun i => decide (P i 4 = 1) && cp_l1 P i p) n = lq.idxOf p := by
  obtain ⟨k1, k2⟩ := cp_idx hp
  rw [cp_cnt_fil]
  have e : (List.range n).filter (fun i => decide (P i 4 = 1) && cp_l1 P i p) = ((List.range n).filter (fun i => decide (P i 4 = 1))).filter (fun i => cp_l1 P i p) := by
    rw [List.filter_filter]
    apply List.filter_congr
    intro x _
    exact Bool.and_comm _ _
  have pm : lq.Perm ((List.range n).filter (fun i => decide (P i 4 = 1))) := (List.perm_ext_iff_of_nodup hV.2.2.1 (List.Pairwise.filter _ List.nodup_range)).mpr fun a => by
    rw [hV.2.2.2 a]
    simp [List.mem_filter, List.mem_range]
  rw [e, ← (pm.filter _).length_eq]
  refine cp_fil_len _ _ _ (by omega) fun j hj => ?_
  unfold cp_l1
  rcases Nat.lt_trichotomy j (lq.idxOf p) with h | h | h
  · have h1 := hL.1 j _ h k1
    rw [k2] at h1
    rw [decide_eq_true h1, decide_eq_true h]
  · rw [h, k2, decide_eq_false Int32.lt_irrefl, decide_eq_false (Nat.lt_irrefl _)]
  · have h1 := hL.1 _ j h hj
    rw [k2] at h1
    rw [decide_eq_false (Int32.not_lt.mpr (Int32.le_of_lt h1)), decide_eq_false (show ¬ j < lq.idxOf p by omega)]
theorem cp_fal {n mi : Nat} {P : cp_PP} {lq : List Nat} (hV : cp_PV n P lq) (hL : cp_LT mi P lq) : cp_gf (cp_l1 P) (fun i => decide (P i 4 = 1)) n = lq.head? := by
  cases lq with
  | nil => exact cp_gf_n fun j hj => decide_eq_false fun z => absurd ((hV.2.2.2 j).mpr ⟨hj, z⟩) (by simp)
  | cons p t =>
    have hm := (hV.2.2.2 p).mp List.mem_cons_self
    refine cp_gf_s (n := n) (decide_eq_true hm.2) (fun j hj hq hne => ?_) (Nat.le_refl n) hm.1
    obtain ⟨k, k1, k2⟩ := cp_mem_ix ((hV.2.2.2 j).mpr ⟨hj, of_decide_eq_true hq⟩)
    have hk : 0 < k := by
      rcases Nat.eq_zero_or_pos k with g | g
      · subst g; exact absurd k2.symm hne
      · exact g
    have h1 := hL.1 0 k hk k1
    rw [k2] at h1
    exact ⟨decide_eq_true h1, decide_eq_false (Int32.not_lt.mpr (Int32.le_of_lt h1))⟩
theorem cp_idx_fil {q : Nat → Bool} {p : Nat} (hq : q p = true) : ∀ {n : Nat}, p < n → ((List.range n).filter q).idxOf p = cp_cnt q p
  | 0, hp => absurd hp (Nat.not_lt_zero _)
  | n + 1, hp => by
    rw [List.range_succ, List.filter_append, List.idxOf_append]
    by_cases h : p < n
    · rw [if_pos (List.mem_filter.mpr ⟨List.mem_range.mpr h, hq⟩)]
      exact cp_idx_fil hq h
    · obtain rfl : p = n := by omega
      rw [if_neg (fun z => absurd (List.mem_range.mp (List.mem_filter.mp z).1) (Nat.lt_irrefl _)), ← cp_cnt_fil]
      simp [hq]
theorem cp_dq_qd {n d : Nat} {P : cp_PP} : cp_dq n P d = (List.range n).filter (cp_qd P (nI d)) := rfl
theorem cp_hd0 {l : List Nat} (h : l ≠ []) : cp_o2i l.head? = nI (l.getD 0 0) := by
  cases l with
  | nil => exact absurd rfl h
  | cons x t => rfl
theorem cp_tk_in {P : cp_PP} {room : Int32} : ∀ (l : List Nat) (s : Int32 × Int32), (∀ x, x ∈ l → x < 32) → ∀ i, i < 32 → bt (l.foldl (cp_ts1 P room) s).1 i = true → bt s.1 i = true ∨ i ∈ l
  | [], s, _, i, _, h => Or.inl h
  | x :: t, s, hl, i, hi, h => by
    have hx := hl x List.mem_cons_self
    rcases cp_tk_in t (cp_ts1 P room s x) (fun y hy => hl y (List.mem_cons_of_mem x hy)) i hi h with g | g
    · by_cases hc : room < s.2 + P x 1
      · rw [cp_ts1_f hc] at g; exact Or.inl g
      · rw [cp_ts1_t hc] at g
        have g : bt (s.1 ||| ((1 : Int32) <<< (nI x &&& 31))) i = true := g
        rw [b_or, cp_b1s hx hi, Bool.or_eq_true] at g
        rcases g with g | g
        · exact Or.inl g
        · exact Or.inr (by rw [of_decide_eq_true g]; exact List.mem_cons_self)
    · exact Or.inr (List.mem_cons_of_mem x g)
theorem cp_lst_c {tk : Int32} {l : List Nat} : ∀ k, k ≤ l.length → ((∀ m, m < k → ¬ cp_bit tk (l.getD m 0) = 1) ∧ cp_lst tk (l.take k) = -6) ∨ ∃ m, m < k ∧ cp_bit tk (l.getD m 0) = 1 ∧ (∀ m', m < m' → m' < k → ¬ cp_bit tk (l.getD m' 0) = 1) ∧ cp_lst tk (l.take k) = nI (l.getD m 0)
  | 0, _ => Or.inl ⟨fun m hm => absurd hm (Nat.not_lt_zero _), rfl⟩
  | k + 1, hk => by
    rw [cp_lst_s tk (show k < l.length by omega)]
    by_cases hb : cp_bit tk (l.getD k 0) = 1
    · rw [if_pos hb]
      exact Or.inr ⟨k, by omega, hb, fun m' h1 h2 => by omega, rfl⟩
    · rw [if_neg hb]
      rcases cp_lst_c (tk := tk) (l := l) k (by omega) with ⟨h1, h2⟩ | ⟨m, h1, h2, h3, h4⟩
      · refine Or.inl ⟨fun m hm => ?_, h2⟩
        rcases Nat.lt_or_ge m k with g | g
        · exact h1 m g
        · rw [show m = k by omega]; exact hb
      · refine Or.inr ⟨m, by omega, h2, fun m' g1 g2 => ?_, h4⟩
        rcases Nat.lt_or_ge m' k with g | g
        · exact h3 m' g1 g
        · rw [show m' = k by omega]; exact hb
theorem cp_lta {n p : Nat} {P : cp_PP} {room : Int32} (hn : n ≤ 24) (hp : p ∈ cp_so n P) : cp_o2i (cp_gf (fun i j => cp_ah P j i) (fun i => decide (cp_bit (cp_tk P room (cp_so n P)).1 i = 1) && cp_ah P i p) n) = cp_lst (cp_tk P room (cp_so n P)).1 ((cp_so n P).take ((cp_so n P).idxOf p)) := by
  obtain ⟨k1, k2⟩ := cp_idx hp
  have hin : ∀ i, i < n → cp_bit (cp_tk P room (cp_so n P)).1 i = 1 → cp_ah P i p = true → ∃ m, m < (cp_so n P).idxOf p ∧ (cp_so n P).getD m 0 = i := fun i hi hb ha => by
    have hb2 : bt (cp_tk P room (cp_so n P)).1 i = true := by rw [← cp_bit_1 (by omega)]; exact decide_eq_true hb
    have hm : i ∈ cp_so n P := by
      rcases cp_tk_in (cp_so n P) (0, 0) (fun x hx => by have := (cp_so_mem.mp hx).1; omega) i (by omega) hb2 with g | g
      · rw [show ((0 : Int32), (0 : Int32)).1 = 0 from rfl, b_0] at g; exact absurd g (by decide)
      · exact g
    obtain ⟨m, m1, m2⟩ := cp_mem_ix hm
    refine ⟨m, ?_, m2⟩
    rcases Nat.lt_trichotomy m ((cp_so n P).idxOf p) with g | g | g
    · exact g
    · exact absurd (by rw [← m2, ← k2, g]) (cp_ah_ne ha)
    · have := cp_ah_as (cp_so_lt m1 g)
      rw [k2, m2, ha] at this
      exact absurd this (by decide)
  rcases cp_lst_c (tk := (cp_tk P room (cp_so n P)).1) (l := cp_so n P) ((cp_so n P).idxOf p) (by omega) with ⟨h1, h2⟩ | ⟨m, h1, h2, h3, h4⟩
  · rw [h2, cp_gf_n fun j hj => ?_]
    · rfl
    · apply Bool.eq_false_iff.mpr
      intro z
      rw [Bool.and_eq_true, decide_eq_true_iff] at z
      obtain ⟨m, m1, m2⟩ := hin j hj z.1 z.2
      exact h1 m m1 (by rw [m2]; exact z.1)
  · have hml : m < (cp_so n P).length := by omega
    have hmn := cp_so_mem.mp (cp_getD_in hml)
    have hma := cp_so_lt k1 h1
    rw [k2] at hma
    rw [h4, cp_gf_s (n := n) (p := (cp_so n P).getD m 0) ?_ (fun j hj hq hne => ?_) (Nat.le_refl n) hmn.1]
    · rfl
    · show (decide (cp_bit (cp_tk P room (cp_so n P)).1 ((cp_so n P).getD m 0) = 1) && cp_ah P ((cp_so n P).getD m 0) p) = true
      rw [decide_eq_true h2, hma]; rfl
    · rw [Bool.and_eq_true, decide_eq_true_iff] at hq
      obtain ⟨m', m1, m2⟩ := hin j hj hq.1 hq.2
      have hlt : m' < m := by
        rcases Nat.lt_trichotomy m' m with g | g | g
        · exact g
        · exact absurd (by rw [← m2, g]) hne
        · exact absurd (by rw [m2]; exact hq.1) (h3 m' g m1)
      have ha := cp_so_lt hml hlt
      rw [m2] at ha
      exact ⟨ha, cp_ah_as ha⟩

