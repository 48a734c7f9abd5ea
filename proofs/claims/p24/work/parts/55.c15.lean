/-! ALIKE NIGHTS: what the words of a night read of it; what the desks leave is what the words say -/
def cp_AP (n : Nat) (P P' : cp_PP) : Prop := ∀ i, i < n → ∀ f, f < 9 → P i f = P' i f
def cp_AQ (np : Nat) (Q Q' : cp_PP) : Prop := ∀ j, j < np → ∀ f, f < 3 → Q j f = Q' j f
def cp_AS (S S' : Nat → Int32) : Prop := ∀ k, k < 4 → S k = S' k
theorem cp_AP.rf {n : Nat} {P : cp_PP} : cp_AP n P P := fun _ _ _ _ => rfl
theorem cp_AP.sy {n : Nat} {P P' : cp_PP} (h : cp_AP n P P') : cp_AP n P' P := fun i hi f hf => (h i hi f hf).symm
theorem cp_AP.tr {n : Nat} {P P' P'' : cp_PP} (h : cp_AP n P P') (g : cp_AP n P' P'') : cp_AP n P P'' := fun i hi f hf => (h i hi f hf).trans (g i hi f hf)
theorem cp_AQ.rf {n : Nat} {P : cp_PP} : cp_AQ n P P := fun _ _ _ _ => rfl
theorem cp_AQ.sy {n : Nat} {P P' : cp_PP} (h : cp_AQ n P P') : cp_AQ n P' P := fun i hi f hf => (h i hi f hf).symm
theorem cp_AQ.tr {n : Nat} {P P' P'' : cp_PP} (h : cp_AQ n P P') (g : cp_AQ n P' P'') : cp_AQ n P P'' := fun i hi f hf => (h i hi f hf).trans (g i hi f hf)
theorem cp_AS.rf {S : Nat → Int32} : cp_AS S S := fun _ _ => rfl
theorem cp_AS.sy {S S' : Nat → Int32} (h : cp_AS S S') : cp_AS S' S := fun i hi => (h i hi).symm
theorem cp_AS.tr {S S' S'' : Nat → Int32} (h : cp_AS S S') (g : cp_AS S' S'') : cp_AS S S'' := fun i hi => (h i hi).trans (g i hi)
theorem cp_AP.wi {n i f : Nat} {P P' : cp_PP} {v : Int32} (h : cp_AP n P P') : cp_AP n (cp_wi P i f v) (cp_wi P' i f v) := fun j hj g hg => by
  unfold cp_wi
  split
  · rfl
  · exact h j hj g hg
theorem cp_AQ.wi {n i f : Nat} {P P' : cp_PP} {v : Int32} (h : cp_AQ n P P') : cp_AQ n (cp_wi P i f v) (cp_wi P' i f v) := fun j hj g hg => by
  unfold cp_wi
  split
  · rfl
  · exact h j hj g hg
theorem cp_find_c {p q : Nat → Bool} : ∀ {l : List Nat}, (∀ x, x ∈ l → p x = q x) → l.find? p = l.find? q
  | [], _ => rfl
  | a :: t, h => by
    rw [List.find?_cons, List.find?_cons, h a List.mem_cons_self, cp_find_c (l := t) (fun x hx => h x (List.mem_cons_of_mem _ hx))]
theorem cp_dq_c {n d : Nat} {P P' : cp_PP} (h : cp_AP n P P') : cp_dq n P d = cp_dq n P' d := by
  unfold cp_dq
  apply List.filter_congr
  intro i hi
  rw [h i (List.mem_range.mp hi) 4 (by decide), h i (List.mem_range.mp hi) 0 (by decide)]
theorem cp_ed_c {S S' : Nat → Int32} {mi : Int32} {n d : Nat} {P P' : cp_PP} {l : List Nat} (hS : cp_AS S S') (h : cp_AP n P P') : cp_AP n (cp_ed S mi n d (P, l)).1 (cp_ed S' mi n d (P', l)).1 ∧ (cp_ed S mi n d (P, l)).2 = (cp_ed S' mi n d (P', l)).2 := by
  have hd := cp_dq_c (d := d) h
  cases e : cp_dq n P d with
  | nil =>
    rw [cp_ed_nil e, cp_ed_nil (hd.symm.trans e)]
    exact ⟨h, rfl⟩
  | cons i t =>
    have hi := (cp_ed_hd e).1
    rw [cp_ed_cons e, cp_ed_cons (hd.symm.trans e), h i hi 6 (by decide), h i hi 1 (by decide), h i hi 3 (by decide), hS 0 (by decide)]
    split
    · exact ⟨h.wi, rfl⟩
    · split
      · exact ⟨h.wi.wi, rfl⟩
      · exact ⟨h.wi.wi.wi, rfl⟩
theorem cp_eds_a {S S' : Nat → Int32} {mi : Int32} {n : Nat} {P P' : cp_PP} {l : List Nat} (hS : cp_AS S S') (h : cp_AP n P P') : ∀ k, cp_AP n (cp_eds S mi n k (P, l)).1 (cp_eds S' mi n k (P', l)).1 ∧ (cp_eds S mi n k (P, l)).2 = (cp_eds S' mi n k (P', l)).2
  | 0 => ⟨h, rfl⟩
  | k + 1 => by
    obtain ⟨h1, h2⟩ := cp_eds_a (l := l) (mi := mi) hS h k
    show cp_AP n (cp_ed S mi n k ((cp_eds S mi n k (P, l)).1, (cp_eds S mi n k (P, l)).2)).1 (cp_ed S' mi n k ((cp_eds S' mi n k (P', l)).1, (cp_eds S' mi n k (P', l)).2)).1 ∧ (cp_ed S mi n k ((cp_eds S mi n k (P, l)).1, (cp_eds S mi n k (P, l)).2)).2 = (cp_ed S' mi n k ((cp_eds S' mi n k (P', l)).1, (cp_eds S' mi n k (P', l)).2)).2
    rw [h2]
    exact cp_ed_c hS h1
theorem cp_rd_c {S S' : Nat → Int32} {mi : Int32} {n : Nat} {P P' : cp_PP} {l : List Nat} (hS : cp_AS S S') (h : cp_AP n P P') (hl : ∀ i, i ∈ l → i < n) : cp_AP n (cp_rd S mi (P, l)).1 (cp_rd S' mi (P', l)).1 ∧ (cp_rd S mi (P, l)).2 = (cp_rd S' mi (P', l)).2 := by
  cases l with
  | nil => exact ⟨h, rfl⟩
  | cons i t =>
    have hi := hl i List.mem_cons_self
    rw [cp_rd_cons, cp_rd_cons, h i hi 7 (by decide), hS 1 (by decide)]
    split
    · exact ⟨h.wi.wi.wi, rfl⟩
    · exact ⟨h.wi, rfl⟩
theorem cp_wk_c {S S' : Nat → Int32} {mi : Int32} {n : Nat} {P P' : cp_PP} {l : List Nat} (hS : cp_AS S S') (h : cp_AP n P P') (hV : cp_PV n P l) : cp_AP n (cp_wk S mi n (P, l)).1 (cp_wk S' mi n (P', l)).1 ∧ (cp_wk S mi n (P, l)).2 = (cp_wk S' mi n (P', l)).2 := by
  obtain ⟨h1, h2⟩ := cp_eds_a (l := l) (mi := mi) hS h 5
  have hV5 := cp_PV_eds (S := S) (mi := mi) hV 5
  show cp_AP n (cp_rd S mi ((cp_eds S mi n 5 (P, l)).1, (cp_eds S mi n 5 (P, l)).2)).1 (cp_rd S' mi ((cp_eds S' mi n 5 (P', l)).1, (cp_eds S' mi n 5 (P', l)).2)).1 ∧ (cp_rd S mi ((cp_eds S mi n 5 (P, l)).1, (cp_eds S mi n 5 (P, l)).2)).2 = (cp_rd S' mi ((cp_eds S' mi n 5 (P', l)).1, (cp_eds S' mi n 5 (P', l)).2)).2
  rw [← h2]
  exact cp_rd_c hS h1 (fun i hi => ((hV5.2.2.2 i).mp hi).1)
theorem cp_fr_c {n i : Nat} {P P' : cp_PP} (h : cp_AP n P P') (hi : i < n) : cp_fr P i = cp_fr P' i := by
  unfold cp_fr
  rw [h i hi 4 (by decide), h i hi 5 (by decide)]
theorem cp_ah_c {n i j : Nat} {P P' : cp_PP} (h : cp_AP n P P') (hi : i < n) (hj : j < n) : cp_ah P i j = cp_ah P' i j := by
  unfold cp_ah
  rw [h i hi 2 (by decide), h i hi 8 (by decide), h j hj 2 (by decide), h j hj 8 (by decide)]
theorem cp_so_c {n : Nat} {P P' : cp_PP} (h : cp_AP n P P') : cp_so n P = cp_so n P' := by
  apply List.ext_getElem?
  intro k
  rw [← cp_rk_eq, ← cp_rk_eq]
  apply cp_find_c
  intro p hp
  have hp := List.mem_range.mp hp
  have e : cp_ac n P p = cp_ac n P' p := cp_cnt_eq (fun o ho => by rw [cp_fr_c h ho, cp_ah_c h ho hp])
  rw [cp_fr_c h hp, e]
theorem cp_tks_c {P P' : cp_PP} {room : Int32} (l : List Nat) : ∀ (s : Int32 × Int32), (∀ x, x ∈ l → P x 1 = P' x 1) → l.foldl (cp_ts1 P room) s = l.foldl (cp_ts1 P' room) s := by
  induction l with
  | nil =>
    intro s _
    rw [List.foldl_nil, List.foldl_nil]
  | cons a t ih =>
    intro s h
    rw [List.foldl_cons, List.foldl_cons]
    have e : cp_ts1 P room s a = cp_ts1 P' room s a := by
      have e1 := h a List.mem_cons_self
      by_cases c : room < s.2 + P a 1
      · rw [cp_ts1_f c, cp_ts1_f (show room < s.2 + P' a 1 from e1 ▸ c)]
      · rw [cp_ts1_t c, cp_ts1_t (show ¬ room < s.2 + P' a 1 from e1 ▸ c), e1]
    rw [e]
    exact ih _ (fun x hx => h x (List.mem_cons_of_mem _ hx))
theorem cp_tk_c {n : Nat} {P P' : cp_PP} {room : Int32} (h : cp_AP n P P') : cp_tk P room (cp_so n P) = cp_tk P' room (cp_so n P') := by
  rw [← cp_so_c h]
  exact cp_tks_c _ _ (fun x hx => h x (cp_so_mem.mp hx).1 1 (by decide))
theorem cp_du_c {np : Nat} {Q Q' : cp_PP} {v : Int32} (h : cp_AQ np Q Q') : cp_du np Q v = cp_du np Q' v := by
  unfold cp_du
  apply cp_find_c
  intro j hj
  rw [h j (List.mem_range.mp hj) 0 (by decide)]
theorem cp_at_c {np : Nat} {Q Q' : cp_PP} {v : Int32} (h : cp_AQ np Q Q') : ∀ k, k ≤ np → cp_at Q v k = cp_at Q' v k
  | 0, _ => rfl
  | k + 1, hk => by
    show (if v < Q k 0 then cp_at Q v k else k + 1) = (if v < Q' k 0 then cp_at Q' v k else k + 1)
    rw [h k (by omega) 0 (by decide), cp_at_c h k (by omega)]
theorem cp_iq_c {np t : Nat} {Q Q' : cp_PP} {v rep : Int32} (h : cp_AQ np Q Q') (ht : t ≤ np) : cp_AQ (np + 1) (cp_iq Q t v rep) (cp_iq Q' t v rep) := fun j hj f hf => by
  rcases Nat.lt_trichotomy j t with g | g | g
  · rw [cp_iq_lo g, cp_iq_lo g]; exact h j (by omega) f hf
  · subst g; rw [cp_iq_at, cp_iq_at]
  · rw [cp_iq_hi g, cp_iq_hi g]; exact h (j - 1) (by omega) f hf
/-- two nights that no call tells apart -/
def cp_AN (N N' : cp_Nt) : Prop := cp_AS (cp_tS N) (cp_tS N') ∧ cp_tm N = cp_tm N' ∧ cp_tn N = cp_tn N' ∧ cp_AP (cp_tn N) (cp_tP N) (cp_tP N') ∧ cp_tp N = cp_tp N' ∧ cp_AQ (cp_tp N) (cp_tQ N) (cp_tQ N') ∧ cp_tl N = cp_tl N'
theorem cp_AN.rf {N : cp_Nt} : cp_AN N N := ⟨cp_AS.rf, rfl, rfl, cp_AP.rf, rfl, cp_AQ.rf, rfl⟩
theorem cp_AN.sy {N N' : cp_Nt} (h : cp_AN N N') : cp_AN N' N := by
  obtain ⟨h1, h2, h3, h4, h5, h6, h7⟩ := h
  exact ⟨h1.sy, h2.symm, h3.symm, by rw [← h3]; exact h4.sy, h5.symm, by rw [← h5]; exact h6.sy, h7.symm⟩
theorem cp_AN.tr {N N' N'' : cp_Nt} (h : cp_AN N N') (g : cp_AN N' N'') : cp_AN N N'' := by
  obtain ⟨h1, h2, h3, h4, h5, h6, h7⟩ := h
  obtain ⟨g1, g2, g3, g4, g5, g6, g7⟩ := g
  exact ⟨h1.tr g1, h2.trans g2, h3.trans g3, h4.tr (by rw [h3]; exact g4), h5.trans g5, h6.tr (by rw [h5]; exact g6), h7.trans g7⟩
theorem cp_AN_i {S S' : Nat → Int32} {mi n np : Nat} {P P' Q Q' : cp_PP} {l : List Nat} (h1 : cp_AS S S') (h2 : cp_AP n P P') (h3 : cp_AQ np Q Q') : cp_AN (S, mi, n, P, np, Q, l) (S', mi, n, P', np, Q', l) := ⟨h1, rfl, rfl, h2, rfl, h3, rfl⟩
theorem cp_AN_e {N N' : cp_Nt} (h : cp_AN N N') : ∃ (S S' : Nat → Int32) (mi n np : Nat) (P P' Q Q' : cp_PP) (l : List Nat), N = (S, mi, n, P, np, Q, l) ∧ N' = (S', mi, n, P', np, Q', l) ∧ cp_AS S S' ∧ cp_AP n P P' ∧ cp_AQ np Q Q' := by
  obtain ⟨S, m, n, P, np, Q, l⟩ := N
  obtain ⟨S', m', n', P', np', Q', l'⟩ := N'
  obtain ⟨h1, h2, h3, h4, h5, h6, h7⟩ := h
  have h2 : m = m' := h2
  have h3 : n = n' := h3
  have h5 : np = np' := h5
  have h7 : l = l' := h7
  subst h2 h3 h5 h7
  exact ⟨_, _, _, _, _, _, _, _, _, _, rfl, rfl, h1, h4, h6⟩
theorem cp_PV_c {n : Nat} {P P' : cp_PP} {l : List Nat} (hV : cp_PV n P l) (h : cp_AP n P P') : cp_PV n P' l := by
  obtain ⟨h1, h2, h3, h4⟩ := hV
  refine ⟨h1, fun i hi => ?_, h3, fun i => ?_⟩
  · rw [← h i hi 0 (by decide), ← h i hi 4 (by decide)]; exact h2 i hi
  · rw [h4 i]
    constructor
    · rintro ⟨a, c⟩; exact ⟨a, (h i a 4 (by decide)).symm.trans c⟩
    · rintro ⟨a, c⟩; exact ⟨a, (h i a 4 (by decide)).trans c⟩
theorem cp_PN_c {n : Nat} {P P' : cp_PP} (hV : cp_PN n P) (h : cp_AP n P P') : cp_PN n P' := fun i hi => by
  rw [← h i hi 1 (by decide), ← h i hi 6 (by decide), ← h i hi 2 (by decide), ← h i hi 3 (by decide), ← h i hi 5 (by decide), ← h i hi 8 (by decide)]
  exact hV i hi
theorem cp_QV_c {mi np : Nat} {Q Q' : cp_PP} (hV : cp_QV mi np Q) (h : cp_AQ np Q Q') : cp_QV mi np Q' := by
  refine ⟨fun i j hij hj => ?_, fun j hj => ?_⟩
  · rw [← h i (by omega) 0 (by decide), ← h j hj 0 (by decide)]; exact hV.1 i j hij hj
  · rw [← h j hj 0 (by decide), ← h j hj 1 (by decide), ← h j hj 2 (by decide)]; exact hV.2 j hj
theorem cp_SV_c {S S' : Nat → Int32} (hV : cp_SV S) (h : cp_AS S S') : cp_SV S' := by
  unfold cp_SV at hV ⊢
  rw [← h 0 (by decide), ← h 1 (by decide), ← h 2 (by decide), ← h 3 (by decide)]
  exact hV
theorem cp_NV_c {N N' : cp_Nt} (hV : cp_NV N) (h : cp_AN N N') : cp_NV N' := by
  obtain ⟨S, S', mi, n, np, P, P', Q, Q', l, rfl, rfl, hS, hP, hQ⟩ := cp_AN_e h
  obtain ⟨h1, h2, h3, h4, h5⟩ := hV
  exact ⟨cp_SV_c h1 hS, h2, cp_PV_c h3 hP, cp_PN_c h4 hP, cp_QV_c h5 hQ⟩
theorem cp_MA_c {a : Nat → Int32} {N N' : cp_Nt} (hA : cp_MA a N) (h : cp_AN N N') : cp_MA a N' := by
  obtain ⟨S, S', mi, n, np, P, P', Q, Q', l, rfl, rfl, hS, hP, hQ⟩ := cp_AN_e h
  obtain ⟨h1, h2, h3, h4, h5⟩ := hA
  refine ⟨fun k hk => (h1 k hk).trans (hS k hk), h2, h3, ⟨fun i hi f hf => (h4.1 i hi f hf).trans (hP i hi f hf), fun q hq => ?_⟩, h5.1, h5.2.1, fun j hj => ?_, h5.2.2.2.trans ?_⟩
  · have h6 := h4.2 q hq
    have e : cp_LL n P' l q = cp_LL n P l q := by
      unfold cp_LL
      rw [cp_dq_c hP]
    show cp_QL a q (cp_LL n P' l q)
    rw [e]; exact h6
  · have h6 := h5.2.2.1 j hj
    have hQ' : ∀ f, f < 3 → Q j f = Q' j f := hQ j hj
    show (∃ t, t < 600 ∧ Q' j 0 = nI t) ∧ a (374 + 4 * j) = Q' j 0 ∧ a (374 + 4 * j + 1) = cp_bi (decide ((Q' j 0).toInt < mi)) ∧ a (374 + 4 * j + 2) = Q' j 1 ∧ a (374 + 4 * j + 3) = Q' j 2
    rw [← hQ' 0 (by decide), ← hQ' 1 (by decide), ← hQ' 2 (by decide)]
    exact h6
  · congr 1
    exact cp_cnt_eq (fun j hj => by
      show decide ((Q j 0).toInt < (mi : Int)) = decide ((Q' j 0).toInt < (mi : Int))
      rw [hQ j hj 0 (by decide)])
/-- the words say alike of alike nights -/
theorem cp_sMin_c {N N' : cp_Nt} (hV : cp_PV (cp_tn N) (cp_tP N) (cp_tl N)) (h : cp_AN N N') : (cp_sMin N).1 = (cp_sMin N').1 ∧ cp_AN (cp_sMin N).2 (cp_sMin N').2 := by
  obtain ⟨hS, hm, hn, hP, hp, hQ, hl⟩ := h
  have hd : cp_du (cp_tp N') (cp_tQ N') (nI (cp_tm N')) = cp_du (cp_tp N) (cp_tQ N) (nI (cp_tm N)) := by
    rw [← hp, ← hm]
    exact (cp_du_c hQ).symm
  have hw := cp_wk_c (S := cp_tS N) (S' := cp_tS N') (mi := nI (cp_tm N)) hS hP hV
  rw [show cp_wk (cp_tS N') (nI (cp_tm N)) (cp_tn N) (cp_tP N', cp_tl N) = cp_wk (cp_tS N') (nI (cp_tm N')) (cp_tn N') (cp_tP N', cp_tl N') by rw [hm, hn, hl]] at hw
  obtain ⟨w1, w2⟩ := hw
  cases e : cp_du (cp_tp N) (cp_tQ N) (nI (cp_tm N)) with
  | none =>
    rw [cp_sMin_0 e, cp_sMin_0 (hd.trans e)]
    exact ⟨rfl, hS, congrArg (· + 1) hm, hn, w1, hp, hQ, w2⟩
  | some j =>
    rw [cp_sMin_1 e, cp_sMin_1 (hd.trans e)]
    generalize cp_wk (cp_tS N) (nI (cp_tm N)) (cp_tn N) (cp_tP N, cp_tl N) = W at w1 w2 ⊢
    generalize cp_wk (cp_tS N') (nI (cp_tm N')) (cp_tn N') (cp_tP N', cp_tl N') = W' at w1 w2 ⊢
    have ek : (cp_tk W.1 (cp_tS N 2) (cp_so (cp_tn N) W.1)).1 = (cp_tk W'.1 (cp_tS N' 2) (cp_so (cp_tn N') W'.1)).1 := by
      rw [cp_tk_c w1, hS 2 (by decide), hn]
    generalize (cp_tk W.1 (cp_tS N 2) (cp_so (cp_tn N) W.1)).1 = A at ek ⊢
    generalize (cp_tk W'.1 (cp_tS N' 2) (cp_so (cp_tn N') W'.1)).1 = A' at ek ⊢
    subst ek
    exact ⟨rfl, hS, congrArg (· + 1) hm, hn, w1, hp, hQ.wi, w2⟩
theorem cp_sMins_c {N N' : cp_Nt} (hV : cp_NV N) (h : cp_AN N N') : ∀ k, cp_tm N + k ≤ 600 → (cp_sMins k N).1 = (cp_sMins k N').1 ∧ cp_AN (cp_sMins k N).2 (cp_sMins k N').2
  | 0, _ => ⟨rfl, h⟩
  | k + 1, hk => by
    obtain ⟨h1, h2⟩ := cp_sMins_c hV h k (by omega)
    have hd : cp_du (cp_tp (cp_sMins k N).2) (cp_tQ (cp_sMins k N).2) (nI (cp_tm (cp_sMins k N).2)) = cp_du (cp_tp (cp_sMins k N').2) (cp_tQ (cp_sMins k N').2) (nI (cp_tm (cp_sMins k N').2)) := by
      rw [← h2.2.2.2.2.1, ← h2.2.1]
      exact cp_du_c h2.2.2.2.2.2.1
    refine ⟨?_, (cp_sMin_c (cp_sMins_V hV k (by omega)).2.2.1 h2).2⟩
    show (cp_sMins k N).1 + (if _ then 0 else 1) = (cp_sMins k N').1 + (if _ then 0 else 1)
    rw [h1, hd]
theorem cp_sPass_c {N N' : cp_Nt} {v : Int32} (hV : cp_NV N) (h : cp_AN N N') : (cp_sPass N v).1 = (cp_sPass N' v).1 ∧ cp_AN (cp_sPass N v).2 (cp_sPass N' v).2 := by
  unfold cp_sPass
  rw [← h.2.1]
  split
  · exact ⟨rfl, h⟩
  · split
    · exact ⟨rfl, h⟩
    · rename_i h1 h2
      obtain ⟨c, rfl, hc1, hc2⟩ := cp_pass_c hV.2.1 (Int32.not_lt.mp h1) (Int32.not_lt.mp h2)
      rw [cp_nIt (by omega)]
      obtain ⟨g1, g2⟩ := cp_sMins_c hV h c hc2
      exact ⟨by rw [g1], g2⟩
theorem cp_sPiece_c {N N' : cp_Nt} {d l r g : Int32} (h : cp_AN N N') : (cp_sPiece N d l r g).1 = (cp_sPiece N' d l r g).1 ∧ cp_AN (cp_sPiece N d l r g).2 (cp_sPiece N' d l r g).2 := by
  obtain ⟨S, S', mi, n, np, P, P', Q, Q', lq, rfl, rfl, hS, hP, hQ⟩ := cp_AN_e h
  unfold cp_sPiece
  split
  · split
    · split
      · exact ⟨rfl, h⟩
      · refine ⟨rfl, cp_AN_i hS (fun i hi f hf => ?_) hQ⟩
        have hi : i < n + 1 := hi
        by_cases e : i = n
        · subst e
          show cp_row P i _ i f = cp_row P' i _ i f
          rw [cp_row_s, cp_row_s]
        · show cp_row P n _ i f = cp_row P' n _ i f
          rw [cp_row_n _ _ e, cp_row_n _ _ e]
          exact hP i (by omega) f hf
    · exact ⟨rfl, h⟩
  · exact ⟨rfl, h⟩
theorem cp_sHold_c {N N' : cp_Nt} {v : Int32} (hV : cp_NV N) (h : cp_AN N N') : (cp_sHold N v).1 = (cp_sHold N' v).1 ∧ cp_AN (cp_sHold N v).2 (cp_sHold N' v).2 := by
  have hn := hV.2.2.1.1
  obtain ⟨S, S', mi, n, np, P, P', Q, Q', lq, rfl, rfl, hS, hP, hQ⟩ := cp_AN_e h
  unfold cp_sHold
  by_cases c : cp_ip n v = true
  · obtain ⟨p, hp, rfl⟩ := (cp_ip_iff (by have : n ≤ 24 := hn; omega)).mp c
    have hp : p < n := hp
    have hn : n ≤ 24 := hn
    have e : (nI p).toInt.toNat = p := cp_nIt (by omega)
    rw [if_pos c, if_pos c, e]
    show (if P p 4 = 3 then _ else _ : Int32 × cp_Nt).1 = (if P' p 4 = 3 then _ else _ : Int32 × cp_Nt).1 ∧ cp_AN (if P p 4 = 3 then _ else _ : Int32 × cp_Nt).2 (if P' p 4 = 3 then _ else _ : Int32 × cp_Nt).2
    rw [← hP p hp 4 (by decide)]
    by_cases c2 : P p 4 = 3
    · rw [if_pos c2, if_pos c2]; exact ⟨rfl, h⟩
    · rw [if_neg c2, if_neg c2]
      show 1 - P p 5 = 1 - P' p 5 ∧ cp_AN (S, mi, n, cp_wi P p 5 (1 - P p 5), np, Q, lq) (S', mi, n, cp_wi P' p 5 (1 - P' p 5), np, Q', lq)
      rw [← hP p hp 5 (by decide)]
      exact ⟨rfl, cp_AN_i hS hP.wi hQ⟩
  · rw [if_neg c, if_neg c]; exact ⟨rfl, h⟩
theorem cp_sTell_c {N N' : cp_Nt} {v rep : Int32} (h : cp_AN N N') : (cp_sTell N v rep).1 = (cp_sTell N' v rep).1 ∧ cp_AN (cp_sTell N v rep).2 (cp_sTell N' v rep).2 := by
  obtain ⟨S, S', mi, n, np, P, P', Q, Q', lq, rfl, rfl, hS, hP, hQ⟩ := cp_AN_e h
  have e := cp_at_c (v := v) hQ np (Nat.le_refl _)
  have hle := cp_at_le Q v np
  refine ⟨?_, ?_⟩
  · show nI (cp_at Q v np) = nI (cp_at Q' v np)
    rw [e]
  · show cp_AN (S, mi, n, P, np + 1, cp_iq Q (cp_at Q v np) v rep, lq) (S', mi, n, P', np + 1, cp_iq Q' (cp_at Q' v np) v rep, lq)
    rw [← e]
    exact cp_AN_i hS hP (cp_iq_c hQ hle)
theorem cp_sPlate_c {N N' : cp_Nt} {v : Int32} (h : cp_AN N N') : (cp_sPlate N v).1 = (cp_sPlate N' v).1 ∧ cp_AN (cp_sPlate N v).2 (cp_sPlate N' v).2 := by
  unfold cp_sPlate
  rw [← h.2.1, ← h.2.2.2.2.1, ← cp_du_c h.2.2.2.2.2.1]
  split
  · split
    · exact ⟨rfl, h⟩
    · cases cp_du (cp_tp N) (cp_tQ N) v with
      | none => exact cp_sTell_c h
      | some j => exact ⟨rfl, h⟩
  · exact ⟨rfl, h⟩
theorem cp_any_c {q q' : Nat → Bool} : ∀ {n : Nat}, (∀ j, j < n → q j = q' j) → cp_any q n = cp_any q' n
  | 0, _ => rfl
  | n + 1, h => by
    show (cp_any q n || q n) = (cp_any q' n || q' n)
    rw [cp_any_c (fun j hj => h j (by omega)), h n (by omega)]
theorem cp_sK_c {N N' : cp_Nt} {p : Nat} (h : cp_AN N N') : cp_AN (cp_sK N p) (cp_sK N' p) := by
  obtain ⟨S, S', mi, n, np, P, P', Q, Q', lq, rfl, rfl, hS, hP, hQ⟩ := cp_AN_e h
  exact cp_AN_i hS hP.wi hQ
theorem cp_mkN_c {N N' : cp_Nt} (h : cp_AN N N') : cp_mkN N = cp_mkN N' := by
  unfold cp_mkN
  rw [← h.2.2.2.2.1, ← h.2.1]
  exact cp_cnt_eq (fun j hj => by rw [h.2.2.2.2.2.1 j hj 0 (by decide)])
theorem cp_dsN_c {N N' : cp_Nt} {e : Nat} (h : cp_AN N N') : cp_dsN N e = cp_dsN N' e := by
  unfold cp_dsN
  rw [← h.2.2.2.2.1, ← h.2.1]
  exact cp_any_c (fun j hj => by rw [h.2.2.2.2.2.1 j hj 0 (by decide)])
theorem cp_ol_c {np mk p : Nat} {Q Q' : cp_PP} (h : cp_AQ np Q Q') (hm : mk ≤ np) : cp_ol mk Q p = cp_ol mk Q' p := by
  unfold cp_ol
  rcases Nat.eq_zero_or_pos mk with z | z
  · rw [z, decide_eq_false (Nat.lt_irrefl 0), Bool.false_and, Bool.false_and]
  · rw [h (mk - 1) (by omega) 2 (by decide)]
theorem cp_kc_c {N N' : cp_Nt} {p : Nat} (h : cp_AN N N') : cp_kc N p = cp_kc N' p := by
  have e1 := cp_mkN_c h
  have hle : cp_mkN N ≤ cp_tp N := cp_cnt_le _ _
  have e2 : cp_ol (cp_mkN N) (cp_tQ N) p = cp_ol (cp_mkN N) (cp_tQ N') p := cp_ol_c h.2.2.2.2.2.1 hle
  have e3 := h.1 3 (by decide)
  have e4 : cp_dsN N (cp_tS N' 3).toInt.toNat = cp_dsN N' (cp_tS N' 3).toInt.toNat := cp_dsN_c h
  unfold cp_kc
  rw [e2, e1, e3, e4, h.2.2.2.2.1, h.2.1]
theorem cp_sKill_c {N N' : cp_Nt} {v : Int32} (hV : cp_NV N) (h : cp_AN N N') : (cp_sKill N v).1 = (cp_sKill N' v).1 ∧ cp_AN (cp_sKill N v).2 (cp_sKill N' v).2 := by
  have hn := hV.2.2.1.1
  unfold cp_sKill
  rw [← h.2.2.1]
  by_cases c : cp_ip (cp_tn N) v = true
  · obtain ⟨p, hp, rfl⟩ := (cp_ip_iff (by omega)).mp c
    have e : (nI p).toInt.toNat = p := cp_nIt (by omega)
    rw [if_pos c, if_pos c, e, ← h.2.2.2.1 p hp 4 (by decide), ← cp_kc_c h, ← h.2.1, ← h.1 3 (by decide)]
    by_cases c2 : cp_tP N p 4 = 3
    · rw [if_pos c2, if_pos c2]; exact ⟨rfl, h⟩
    · rw [if_neg c2, if_neg c2]
      by_cases c3 : cp_kc N p = true
      · rw [if_pos c3, if_pos c3]; exact ⟨rfl, (cp_sTell_c (cp_sK_c h)).2⟩
      · rw [if_neg c3, if_neg c3]; exact ⟨rfl, cp_sK_c h⟩
  · rw [if_neg c, if_neg c]; exact ⟨rfl, h⟩
theorem cp_sSet_c {N N' : cp_Nt} {s v : Int32} (h : cp_AN N N') : (cp_sSet N s v).1 = (cp_sSet N' s v).1 ∧ cp_AN (cp_sSet N s v).2 (cp_sSet N' s v).2 := by
  cases c : cp_iset s v with
  | false => rw [cp_iset_f c, cp_iset_f c]; exact ⟨rfl, h⟩
  | true =>
    obtain ⟨k, hk, rfl⟩ := cp_iset_n c
    rw [cp_iset_t c, cp_iset_t c, cp_nIt (by omega)]
    refine ⟨h.1 k hk, fun q hq => ?_, h.2⟩
    show upd (cp_tS N) k v q = upd (cp_tS N') k v q
    unfold upd
    split
    · rfl
    · exact h.1 q hq

