/-! NIGHTS THAT ARE WELL: more than what is valid; it stays -/
def cp_W1 (m : Nat) (g : Nat → Int32) : Prop := (g 4 = 0 → g 6 ≠ g 1 ∧ g 8 = -6) ∧ (g 4 = 1 → g 6 = g 1 ∧ g 8 = -6 ∧ g 3 = 1) ∧ (g 4 = 2 → g 6 = g 1 ∧ ∃ t, t < m ∧ g 8 = nI t) ∧ (g 7 = 0 ∨ g 3 = 1)
def cp_WP (n m : Nat) (P : cp_PP) : Prop := ∀ i, i < n → cp_W1 m (P i)
def cp_WF (N : cp_Nt) : Prop := cp_QB N ∧ cp_WP (cp_tn N) (cp_tm N) (cp_tP N)
theorem cp_W1_m {m m' : Nat} {g : Nat → Int32} (h : cp_W1 m g) (hm : m ≤ m') : cp_W1 m' g := by
  obtain ⟨h0, h1, h2, h7⟩ := h
  refine ⟨h0, h1, fun e => ?_, h7⟩
  obtain ⟨e6, t, ht, e8⟩ := h2 e
  exact ⟨e6, t, by omega, e8⟩
theorem cp_WP_1 {n m i : Nat} {P P' : cp_PP} (h : cp_WP n m P) (ho : ∀ j, j ≠ i → P' j = P j) (hi : i < n → cp_W1 m (P' i)) : cp_WP n m P' := fun j hj => by
  by_cases e : j = i
  · rw [e]; exact hi (e ▸ hj)
  · rw [ho j e]; exact h j hj
theorem cp_WP_ed {n m d : Nat} {P : cp_PP} {l : List Nat} {S : Nat → Int32} (h : cp_WP n (m + 1) P) : cp_WP n (m + 1) (cp_ed S (nI m) n d (P, l)).1 := by
  cases hdq : cp_dq n P d with
  | nil => rw [cp_ed_nil hdq]; exact h
  | cons i t =>
    obtain ⟨hi, h4, -⟩ := cp_ed_hd hdq
    obtain ⟨w0, w1, w2, w7⟩ := h i hi
    obtain ⟨w6, w8⟩ := w0 h4
    rw [cp_ed_cons hdq]
    split
    · rename_i hlt
      refine cp_WP_1 (i := i) h (fun j hj => cp_wi_a _ _ _ _ hj) (fun _ => ?_)
      refine ⟨fun _ => ⟨?_, ?_⟩, fun e => ?_, fun e => ?_, ?_⟩
      · simp [cp_wi]
        intro e
        rw [e] at hlt
        exact Int32.lt_irrefl hlt
      · simp [cp_wi, w8]
      · simp [cp_wi, h4] at e
      · simp [cp_wi, h4] at e
      · simpa [cp_wi] using w7
    · split
      · rename_i h3
        refine cp_WP_1 (i := i) h (fun j hj => by dsimp only; rw [cp_wi_a _ _ _ _ hj, cp_wi_a _ _ _ _ hj]) (fun _ => ?_)
        refine ⟨fun e => ?_, fun _ => ⟨?_, ?_, ?_⟩, fun e => ?_, ?_⟩
        · simp [cp_wi] at e
        · simp [cp_wi]
        · simp [cp_wi, w8]
        · simp [cp_wi, h3]
        · simp [cp_wi] at e
        · right; simp [cp_wi, h3]
      · refine cp_WP_1 (i := i) h (fun j hj => by dsimp only; rw [cp_wi_a _ _ _ _ hj, cp_wi_a _ _ _ _ hj, cp_wi_a _ _ _ _ hj]) (fun _ => ?_)
        refine ⟨fun e => ?_, fun e => ?_, fun _ => ⟨?_, m, by omega, ?_⟩, ?_⟩
        · simp [cp_wi] at e
        · simp [cp_wi] at e
        · simp [cp_wi]
        · simp [cp_wi]
        · simpa [cp_wi] using w7
theorem cp_WP_eds {n m : Nat} {P : cp_PP} {l : List Nat} {S : Nat → Int32} (h : cp_WP n (m + 1) P) : ∀ d, cp_WP n (m + 1) (cp_eds S (nI m) n d (P, l)).1
  | 0 => h
  | d + 1 => cp_WP_ed (d := d) (l := (cp_eds S (nI m) n d (P, l)).2) (cp_WP_eds h d)
theorem cp_WP_rd {n m : Nat} {P : cp_PP} {l : List Nat} {S : Nat → Int32} (h : cp_WP n (m + 1) P) (hl : ∀ i, i ∈ l → i < n ∧ P i 4 = 1) : cp_WP n (m + 1) (cp_rd S (nI m) (P, l)).1 := by
  cases l with
  | nil => exact h
  | cons i t =>
    obtain ⟨hi, h4⟩ := hl i List.mem_cons_self
    obtain ⟨w0, w1, w2, w7⟩ := h i hi
    obtain ⟨w6, w8, w3⟩ := w1 h4
    rw [cp_rd_cons]
    split
    · refine cp_WP_1 (i := i) h (fun j hj => by dsimp only; rw [cp_wi_a _ _ _ _ hj, cp_wi_a _ _ _ _ hj, cp_wi_a _ _ _ _ hj]) (fun _ => ?_)
      refine ⟨fun e => ?_, fun e => ?_, fun _ => ⟨?_, m, by omega, ?_⟩, ?_⟩
      · simp [cp_wi] at e
      · simp [cp_wi] at e
      · simp [cp_wi, w6]
      · simp [cp_wi]
      · right; simp [cp_wi, w3]
    · refine cp_WP_1 (i := i) h (fun j hj => cp_wi_a _ _ _ _ hj) (fun _ => ?_)
      refine ⟨fun e => ?_, fun _ => ⟨?_, ?_, ?_⟩, fun e => ?_, ?_⟩
      · simp [cp_wi, h4] at e
      · simp [cp_wi, w6]
      · simp [cp_wi, w8]
      · simp [cp_wi, w3]
      · simp [cp_wi, h4] at e
      · right; simp [cp_wi, w3]
theorem cp_WP_wk {n m : Nat} {P : cp_PP} {l : List Nat} {S : Nat → Int32} (h : cp_WP n m P) (hV : cp_PV n P l) : cp_WP n (m + 1) (cp_wk S (nI m) n (P, l)).1 := by
  have h1 : cp_WP n (m + 1) P := fun i hi => cp_W1_m (h i hi) (by omega)
  have hV5 := cp_PV_eds (S := S) (mi := nI m) hV 5
  exact cp_WP_rd (l := (cp_eds S (nI m) n 5 (P, l)).2) (cp_WP_eds h1 5) (fun i hi => (hV5.2.2.2 i).mp hi)
theorem cp_WF_min {N : cp_Nt} (hV : cp_NV N) (h : cp_WF N) : cp_WF (cp_sMin N).2 := by
  obtain ⟨g1, g2, g3, g4, g5, g6⟩ := cp_sMin_k N
  refine ⟨fun j hj => ?_, ?_⟩
  · rw [g3] at hj
    rw [g6 j]
    exact h.1 j hj
  · rw [g2, cp_sMin_m, g4]
    exact cp_WP_wk h.2 hV.2.2.1
theorem cp_WF_mins {N : cp_Nt} (hV : cp_NV N) (h : cp_WF N) : ∀ k, cp_tm N + k ≤ 600 → cp_WF (cp_sMins k N).2
  | 0, _ => h
  | k + 1, hk => cp_WF_min (cp_sMins_V hV k (by omega)) (cp_WF_mins hV h k (by omega))
theorem cp_WF_pass {N : cp_Nt} {v : Int32} (hV : cp_NV N) (h : cp_WF N) : cp_WF (cp_sPass N v).2 := by
  unfold cp_sPass
  split
  · exact h
  · split
    · exact h
    · rename_i h1 h2
      obtain ⟨c, rfl, hc1, hc2⟩ := cp_pass_c hV.2.1 (Int32.not_lt.mp h1) (Int32.not_lt.mp h2)
      rw [cp_nIt (by omega)]
      exact cp_WF_mins hV h c hc2
theorem cp_WF_set {N : cp_Nt} {s v : Int32} (h : cp_WF N) : cp_WF (cp_sSet N s v).2 := by
  unfold cp_sSet
  split
  · exact h
  · exact h
theorem cp_WF_hold {N : cp_Nt} {v : Int32} (h : cp_WF N) : cp_WF (cp_sHold N v).2 := by
  unfold cp_sHold
  split
  · split
    · exact h
    · refine ⟨h.1, ?_⟩
      refine cp_WP_1 (i := v.toInt.toNat) h.2 (fun j hj => cp_wi_a _ _ _ _ hj) (fun hi => ?_)
      have w := h.2 _ hi
      show cp_W1 (cp_tm N) (cp_wi (cp_tP N) v.toInt.toNat 5 (1 - cp_tP N v.toInt.toNat 5) v.toInt.toNat)
      have e : ∀ f, f ≠ 5 → cp_wi (cp_tP N) v.toInt.toNat 5 (1 - cp_tP N v.toInt.toNat 5) v.toInt.toNat f = cp_tP N v.toInt.toNat f := fun f hf => cp_wi_j _ _ _ _ (fun z => hf z.2)
      unfold cp_W1 at w ⊢
      rw [e 4 (by decide), e 6 (by decide), e 1 (by decide), e 8 (by decide), e 3 (by decide), e 7 (by decide)]
      exact w
  · exact h
theorem cp_WF_piece {N : cp_Nt} {d l r g : Int32} (h : cp_WF N) : cp_WF (cp_sPiece N d l r g).2 := by
  unfold cp_sPiece
  split
  · split
    · split
      · exact h
      · rename_i h1 h2 h3
        simp only [Bool.and_eq_true] at h2
        obtain ⟨q, hq1, hq2, rfl⟩ := cp_rg_nI (l := 1) (h := 99) h2.1.1
        refine ⟨h.1, fun i hi => ?_⟩
        have hi : i < cp_tn N + 1 := hi
        show cp_W1 (cp_tm N) (cp_row (cp_tP N) (cp_tn N) _ i)
        by_cases e : i = cp_tn N
        · subst e
          rw [cp_row_s]
          refine ⟨fun _ => ⟨?_, rfl⟩, fun e => ?_, fun e => ?_, Or.inl rfl⟩
          · show (0 : Int32) ≠ nI q
            intro e0
            have := (nI_eq (a := 0) (b := q) (by decide) (by omega)).mp e0
            omega
          · exact absurd (show (0 : Int32) = 1 from e) (by decide)
          · exact absurd (show (0 : Int32) = 2 from e) (by decide)
        · rw [cp_row_n _ _ e]
          exact h.2 i (by omega)
    · exact h
  · exact h
theorem cp_QB_iq {np : Nat} {Q : cp_PP} {v rep : Int32} (h : ∀ j, j < np → ∃ t, t < 600 ∧ Q j 0 = nI t) (hv : ∃ t, t < 600 ∧ v = nI t) : ∀ j, j < np + 1 → ∃ t, t < 600 ∧ cp_iq Q (cp_at Q v np) v rep j 0 = nI t := fun j hj => by
  have hle := cp_at_le Q v np
  rcases Nat.lt_trichotomy j (cp_at Q v np) with b | b | b
  · rw [cp_iq_lo b]; exact h j (by omega)
  · rw [b, cp_iq_at]; exact hv
  · rw [cp_iq_hi b]; exact h (j - 1) (by omega)
theorem cp_WF_plate {N : cp_Nt} {v : Int32} (hV : cp_NV N) (h : cp_WF N) : cp_WF (cp_sPlate N v).2 := by
  unfold cp_sPlate
  split
  · split
    · exact h
    · rename_i h1 h2
      cases hd : cp_du (cp_tp N) (cp_tQ N) v with
      | some j => exact h
      | none =>
        obtain ⟨k, hk1, hk2, rfl⟩ := cp_rg_nI (l := cp_tm N) (h := 599) h1
        exact ⟨cp_QB_iq h.1 ⟨k, by omega, rfl⟩, h.2⟩
  · exact h
theorem cp_WF_K {N : cp_Nt} {p : Nat} (h : cp_WF N) : cp_WF (cp_sK N p) := by
  refine ⟨h.1, ?_⟩
  refine cp_WP_1 (i := p) h.2 (fun j hj => cp_wi_a _ _ _ _ hj) (fun hi => ?_)
  have w := h.2 _ hi
  show cp_W1 (cp_tm N) (cp_wi (cp_tP N) p 4 3 p)
  refine ⟨fun e => ?_, fun e => ?_, fun e => ?_, ?_⟩
  · simp [cp_wi] at e
  · simp [cp_wi] at e
  · simp [cp_wi] at e
  · simpa [cp_wi] using w.2.2.2
theorem cp_WF_kill {N : cp_Nt} {v : Int32} (hV : cp_NV N) (h : cp_WF N) : cp_WF (cp_sKill N v).2 := by
  unfold cp_sKill
  split
  · split
    · exact h
    · split
      · rename_i h1 h2 h3
        have hK := cp_WF_K (p := v.toInt.toNat) h
        obtain ⟨e, he1, he2, he3⟩ := hV.1.2.2.2
        have hm := hV.2.1
        unfold cp_kc at h3
        simp only [Bool.and_eq_true, Bool.not_eq_true', decide_eq_true_iff] at h3
        have h9 := h3.2
        rw [he3, nI_add, show (599 : Int32) = nI 599 from rfl, nI_leI (by omega) (by omega)] at h9
        refine ⟨?_, hK.2⟩
        show ∀ j, j < cp_tp N + 1 → ∃ t, t < 600 ∧ cp_iq (cp_tQ N) (cp_at (cp_tQ N) (nI (cp_tm N) + cp_tS N 3) (cp_tp N)) (nI (cp_tm N) + cp_tS N 3) 1 j 0 = nI t
        exact cp_QB_iq h.1 ⟨cp_tm N + e, by omega, by rw [he3, nI_add]⟩
      · exact cp_WF_K h
  · exact h
theorem cp_WF_0 : cp_WF cp_N0 := ⟨fun j hj => absurd hj (Nat.not_lt_zero _), fun i hi => absurd hi (Nat.not_lt_zero _)⟩
