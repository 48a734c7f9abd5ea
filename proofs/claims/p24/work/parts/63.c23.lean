/-! WHAT WILL BE: minutes of a night against the words of the questions -/
theorem cp_sMin_k (N : cp_Nt) : cp_tS (cp_sMin N).2 = cp_tS N ∧ cp_tn (cp_sMin N).2 = cp_tn N ∧ cp_tp (cp_sMin N).2 = cp_tp N ∧ cp_tP (cp_sMin N).2 = (cp_wk (cp_tS N) (nI (cp_tm N)) (cp_tn N) (cp_tP N, cp_tl N)).1 ∧ cp_tl (cp_sMin N).2 = (cp_wk (cp_tS N) (nI (cp_tm N)) (cp_tn N) (cp_tP N, cp_tl N)).2 ∧ ∀ j, cp_tQ (cp_sMin N).2 j 0 = cp_tQ N j 0 := by
  cases hd : cp_du (cp_tp N) (cp_tQ N) (nI (cp_tm N)) with
  | none =>
    rw [cp_sMin_0 hd]
    exact ⟨rfl, rfl, rfl, rfl, rfl, fun _ => rfl⟩
  | some j =>
    rw [cp_sMin_1 hd]
    refine ⟨rfl, rfl, rfl, rfl, rfl, fun i => ?_⟩
    exact cp_wi_j _ _ _ _ (fun z => absurd z.2 (by decide))
theorem cp_sMins_k (N : cp_Nt) : ∀ k, cp_tS (cp_sMins k N).2 = cp_tS N ∧ cp_tn (cp_sMins k N).2 = cp_tn N ∧ cp_tp (cp_sMins k N).2 = cp_tp N ∧ (cp_tP (cp_sMins k N).2, cp_tl (cp_sMins k N).2) = cp_wkm (cp_tS N) (cp_tm N) (cp_tn N) k (cp_tP N, cp_tl N) ∧ ∀ j, cp_tQ (cp_sMins k N).2 j 0 = cp_tQ N j 0
  | 0 => ⟨rfl, rfl, rfl, rfl, fun _ => rfl⟩
  | k + 1 => by
    obtain ⟨h1, h2, h3, h4, h5⟩ := cp_sMins_k N k
    obtain ⟨g1, g2, g3, g4, g5, g6⟩ := cp_sMin_k (cp_sMins k N).2
    have e : cp_sMins (k + 1) N = ((cp_sMins k N).1 + (if cp_du (cp_tp (cp_sMins k N).2) (cp_tQ (cp_sMins k N).2) (nI (cp_tm (cp_sMins k N).2)) = none then 0 else 1), (cp_sMin (cp_sMins k N).2).2) := rfl
    rw [e]
    refine ⟨g1.trans h1, g2.trans h2, g3.trans h3, ?_, fun j => (g6 j).trans (h5 j)⟩
    show (cp_tP (cp_sMin (cp_sMins k N).2).2, cp_tl (cp_sMin (cp_sMins k N).2).2) = cp_wk (cp_tS N) (nI (cp_tm N + k)) (cp_tn N) (cp_wkm (cp_tS N) (cp_tm N) (cp_tn N) k (cp_tP N, cp_tl N))
    rw [g4, g5, h1, h2, cp_sMins_m, h4]
/-- but for the minutes in which they became ready -/
def cp_A8 (n : Nat) (P P' : cp_PP) : Prop := ∀ i, i < n → ∀ f, f < 8 → P i f = P' i f
theorem cp_A8.wi {n i f : Nat} {P P' : cp_PP} {v : Int32} (h : cp_A8 n P P') : cp_A8 n (cp_wi P i f v) (cp_wi P' i f v) := fun j hj g hg => by
  unfold cp_wi
  split
  · rfl
  · exact h j hj g hg
theorem cp_A8.w8 {n i : Nat} {P P' : cp_PP} {v v' : Int32} (h : cp_A8 n P P') : cp_A8 n (cp_wi P i 8 v) (cp_wi P' i 8 v') := fun j hj g hg => by
  rw [cp_wi_j _ _ _ _ (fun z => by omega), cp_wi_j _ _ _ _ (fun z => by omega)]
  exact h j hj g hg
theorem cp_dq_8 {n d : Nat} {P P' : cp_PP} (h : cp_A8 n P P') : cp_dq n P d = cp_dq n P' d := by
  unfold cp_dq
  apply List.filter_congr
  intro i hi
  rw [h i (List.mem_range.mp hi) 4 (by decide), h i (List.mem_range.mp hi) 0 (by decide)]
theorem cp_ed_8 {S : Nat → Int32} {mi mi' : Int32} {n d : Nat} {P P' : cp_PP} {l : List Nat} (h : cp_A8 n P P') : cp_A8 n (cp_ed S mi n d (P, l)).1 (cp_ed S mi' n d (P', l)).1 ∧ (cp_ed S mi n d (P, l)).2 = (cp_ed S mi' n d (P', l)).2 := by
  have hd := cp_dq_8 (d := d) h
  cases e : cp_dq n P d with
  | nil =>
    rw [cp_ed_nil e, cp_ed_nil (hd.symm.trans e)]
    exact ⟨h, rfl⟩
  | cons i t =>
    have hi := (cp_ed_hd e).1
    rw [cp_ed_cons e, cp_ed_cons (hd.symm.trans e), h i hi 6 (by decide), h i hi 1 (by decide), h i hi 3 (by decide)]
    split
    · exact ⟨h.wi, rfl⟩
    · split
      · exact ⟨h.wi.wi, rfl⟩
      · exact ⟨h.wi.wi.w8, rfl⟩
theorem cp_eds_8 {S : Nat → Int32} {mi mi' : Int32} {n : Nat} {P P' : cp_PP} {l : List Nat} (h : cp_A8 n P P') : ∀ k, cp_A8 n (cp_eds S mi n k (P, l)).1 (cp_eds S mi' n k (P', l)).1 ∧ (cp_eds S mi n k (P, l)).2 = (cp_eds S mi' n k (P', l)).2
  | 0 => ⟨h, rfl⟩
  | k + 1 => by
    obtain ⟨h1, h2⟩ := cp_eds_8 (l := l) (mi := mi) (mi' := mi') (S := S) h k
    show cp_A8 n (cp_ed S mi n k ((cp_eds S mi n k (P, l)).1, (cp_eds S mi n k (P, l)).2)).1 (cp_ed S mi' n k ((cp_eds S mi' n k (P', l)).1, (cp_eds S mi' n k (P', l)).2)).1 ∧ (cp_ed S mi n k ((cp_eds S mi n k (P, l)).1, (cp_eds S mi n k (P, l)).2)).2 = (cp_ed S mi' n k ((cp_eds S mi' n k (P', l)).1, (cp_eds S mi' n k (P', l)).2)).2
    rw [h2]
    exact cp_ed_8 h1
theorem cp_rd_8 {S : Nat → Int32} {mi mi' : Int32} {n : Nat} {P P' : cp_PP} {l : List Nat} (h : cp_A8 n P P') (hl : ∀ i, i ∈ l → i < n) : cp_A8 n (cp_rd S mi (P, l)).1 (cp_rd S mi' (P', l)).1 ∧ (cp_rd S mi (P, l)).2 = (cp_rd S mi' (P', l)).2 := by
  cases l with
  | nil => exact ⟨h, rfl⟩
  | cons i t =>
    have hi := hl i List.mem_cons_self
    rw [cp_rd_cons, cp_rd_cons, h i hi 7 (by decide)]
    split
    · exact ⟨h.wi.wi.w8, rfl⟩
    · exact ⟨h.wi, rfl⟩
theorem cp_wk_8 {S : Nat → Int32} {mi mi' : Int32} {n : Nat} {P P' : cp_PP} {l : List Nat} (h : cp_A8 n P P') (hV : cp_PV n P l) : cp_A8 n (cp_wk S mi n (P, l)).1 (cp_wk S mi' n (P', l)).1 ∧ (cp_wk S mi n (P, l)).2 = (cp_wk S mi' n (P', l)).2 := by
  obtain ⟨h1, h2⟩ := cp_eds_8 (l := l) (mi := mi) (mi' := mi') (S := S) h 5
  have hV5 := cp_PV_eds (S := S) (mi := mi) hV 5
  show cp_A8 n (cp_rd S mi ((cp_eds S mi n 5 (P, l)).1, (cp_eds S mi n 5 (P, l)).2)).1 (cp_rd S mi' ((cp_eds S mi' n 5 (P', l)).1, (cp_eds S mi' n 5 (P', l)).2)).1 ∧ (cp_rd S mi ((cp_eds S mi n 5 (P, l)).1, (cp_eds S mi n 5 (P, l)).2)).2 = (cp_rd S mi' ((cp_eds S mi' n 5 (P', l)).1, (cp_eds S mi' n 5 (P', l)).2)).2
  rw [← h2]
  exact cp_rd_8 h1 (fun i hi => ((hV5.2.2.2 i).mp hi).1)
theorem cp_wks_m {S : Nat → Int32} {mi : Nat} {mj : Int32} {n : Nat} {P : cp_PP} {l : List Nat} (hV : cp_PV n P l) : ∀ k, cp_A8 n (cp_wks S mj n k (P, l)).1 (cp_wkm S mi n k (P, l)).1 ∧ (cp_wks S mj n k (P, l)).2 = (cp_wkm S mi n k (P, l)).2
  | 0 => ⟨fun _ _ _ _ => rfl, rfl⟩
  | k + 1 => by
    obtain ⟨h1, h2⟩ := cp_wks_m (S := S) (mi := mi) (mj := mj) hV k
    have g := cp_wk_8 (S := S) (mi := mj) (mi' := nI (mi + k)) (l := (cp_wks S mj n k (P, l)).2) h1 (cp_PV_wks hV k)
    rw [show cp_wk S (nI (mi + k)) n ((cp_wkm S mi n k (P, l)).1, (cp_wks S mj n k (P, l)).2) = cp_wk S (nI (mi + k)) n (cp_wkm S mi n k (P, l)) by rw [h2]] at g
    exact g
/-- a piece's state k minutes on -/
theorem cp_st_k {N : cp_Nt} {p k : Nat} (hV : cp_PV (cp_tn N) (cp_tP N) (cp_tl N)) (hp : p < cp_tn N) : (cp_wks (cp_tS N) (nI (cp_tm N)) (cp_tn N) k (cp_tP N, cp_tl N)).1 p 4 = cp_tP (cp_sMins k N).2 p 4 := by
  have h := (cp_wks_m (S := cp_tS N) (mi := cp_tm N) (mj := nI (cp_tm N)) hV k).1 p hp 4 (by decide)
  rw [h]
  have g := (cp_sMins_k N k).2.2.2.1
  rw [← g]
theorem cp_NU_mins {Z : cp_Nt} (h : cp_NU Z) : ∀ k, cp_tm Z + k < 50000 → cp_NU (cp_sMins k Z).2
  | 0, _ => h
  | k + 1, hk => cp_NU_min (cp_NU_mins h k (by omega)) (by rw [cp_sMins_m]; omega)
/-- lines of all that are for a plate -/
theorem cp_lin_fl {n : Nat} {P : cp_PP} (hn : n ≤ 24) : ∀ k, k ≤ n → cp_lin P (cp_st (cp_fr P) n) k = cp_fl P k
  | 0, _ => rfl
  | k + 1, hk => by
    have ih := cp_lin_fl (P := P) hn k (by omega)
    have hb : decide (cp_bit (cp_st (cp_fr P) n) k = 1) = cp_fr P k := by
      rw [show decide (cp_bit (cp_st (cp_fr P) n) k = 1) = bt (cp_st (cp_fr P) n) k from cp_bit_1 (by omega), cp_st_bt (cp_fr P) n (by omega) k (by omega), decide_eq_true (show k < n by omega), Bool.true_and]
    show _ = cp_fl P k + (if cp_fr P k = true then P k 1 else 0)
    cases hf : cp_fr P k with
    | true => rw [← cp_lin_t (by rw [hb]; exact hf), ih, if_pos rfl]
    | false => rw [← cp_lin_f (by rw [hb]; exact hf), ih, if_neg (by decide), Int32.add_zero]
theorem cp_fl_c {n : Nat} {P P' : cp_PP} (h : cp_AP n P P') : ∀ k, k ≤ n → cp_fl P k = cp_fl P' k
  | 0, _ => rfl
  | k + 1, hk => by
    show cp_fl P k + (if cp_fr P k = true then P k 1 else 0) = cp_fl P' k + (if cp_fr P' k = true then P' k 1 else 0)
    rw [cp_fl_c h k (by omega), cp_fr_c h (show k < n by omega), h k (by omega) 1 (by decide)]
/-- the next plate, when it is made -/
theorem cp_next_q {N : cp_Nt} {a : Nat → Int32} (hA : cp_MA a N) (hV : cp_NV N) (h : cp_mkN N < cp_tp N) : cp_tQ (cp_sMins (cp_due N - cp_tm N + 1) N).2 (cp_mkN N) 2 = (cp_tk (cp_nxt N).1 (cp_tS N 2) (cp_so (cp_tn N) (cp_nxt N).1)).1 := by
  obtain ⟨d1, d2, d3⟩ := cp_due_f hA hV h
  obtain ⟨h1, h2, h3, h4, h5⟩ := cp_sMins_k N (cp_due N - cp_tm N)
  have hm := cp_sMins_m N (cp_due N - cp_tm N)
  have hd : cp_du (cp_tp (cp_sMins (cp_due N - cp_tm N) N).2) (cp_tQ (cp_sMins (cp_due N - cp_tm N) N).2) (nI (cp_tm (cp_sMins (cp_due N - cp_tm N) N).2)) = some (cp_mkN N) := by
    rw [h3, hm, show cp_tm N + (cp_due N - cp_tm N) = cp_due N by omega]
    unfold cp_du
    refine cp_fnd_s h (decide_eq_true ((h5 _).trans d1)) (fun j hj => decide_eq_false (fun z => ?_))
    rw [h5 j] at z
    have := hV.2.2.2.2.1 j (cp_mkN N) hj h
    rw [z, d1] at this
    omega
  have e : (cp_sMins (cp_due N - cp_tm N + 1) N).2 = (cp_sMin (cp_sMins (cp_due N - cp_tm N) N).2).2 := rfl
  have hw : (cp_wk (cp_tS (cp_sMins (cp_due N - cp_tm N) N).2) (nI (cp_tm (cp_sMins (cp_due N - cp_tm N) N).2)) (cp_tn (cp_sMins (cp_due N - cp_tm N) N).2) (cp_tP (cp_sMins (cp_due N - cp_tm N) N).2, cp_tl (cp_sMins (cp_due N - cp_tm N) N).2)).1 = (cp_nxt N).1 := by
    unfold cp_nxt
    rw [h1, h2, hm, h4]
    rfl
  rw [e, cp_sMin_1 hd, hw, h1, h2]
  exact cp_wi_s _ _ _ _
theorem cp_next_P {N : cp_Nt} : cp_tP (cp_sMins (cp_due N - cp_tm N + 1) N).2 = (cp_nxt N).1 := by
  have g := (cp_sMins_k N (cp_due N - cp_tm N + 1)).2.2.2.1
  unfold cp_nxt
  rw [← g]

