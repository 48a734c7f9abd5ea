/-! WHAT IS ASKED SAYS THE SAME OF NIGHTS THAT ARE ALIKE -/
theorem cp_lin_cc {n : Nat} {P P' : cp_PP} {s : Int32} (h : cp_AP n P P') : ∀ k, k ≤ n → cp_lin P s k = cp_lin P' s k
  | 0, _ => rfl
  | k + 1, hk => by
    show cp_lin P s k + cp_bit s k * P k 1 = cp_lin P' s k + cp_bit s k * P' k 1
    rw [cp_lin_cc h k (by omega), h k (by omega) 1 (by decide)]
theorem cp_pw_cc {n : Nat} {Q Q' : cp_PP} {p : Nat} (h : cp_AQ n Q Q') : ∀ k, k ≤ n → cp_pw Q p k = cp_pw Q' p k
  | 0, _ => rfl
  | k + 1, hk => by
    show cp_pw Q p k ||| (cp_bit (Q k 2) p <<< (nI k &&& 31)) = cp_pw Q' p k ||| (cp_bit (Q' k 2) p <<< (nI k &&& 31))
    rw [cp_pw_cc h k (by omega), h k (by omega) 2 (by decide)]
theorem cp_now_cc {N N' : cp_Nt} (h : cp_AN N N') : cp_now N = cp_now N' := by
  obtain ⟨S, S', mi, n, np, P, P', Q, Q', l, rfl, rfl, hS, hP, hQ⟩ := cp_AN_e h
  show cp_tk P (S 2) (cp_so n P) = cp_tk P' (S' 2) (cp_so n P')
  rw [hS 2 (by decide), cp_tk_c hP]
theorem cp_rg7 {w : Int32} (h : cp_rg 0 7 w = true) : ∃ f, f ≤ 7 ∧ w = nI f := by
  obtain ⟨k, -, hk, e⟩ := cp_rg_nI (l := 0) (h := 7) h
  exact ⟨k, hk, e⟩
theorem cp_sOfPiece_cc {N N' : cp_Nt} {v w : Int32} (hn : cp_tn N ≤ 24) (h : cp_AN N N') : cp_sOfPiece N v w = cp_sOfPiece N' v w := by
  obtain ⟨S, S', mi, n, np, P, P', Q, Q', l, rfl, rfl, hS, hP, hQ⟩ := cp_AN_e h
  have hn : n ≤ 24 := hn
  unfold cp_sOfPiece
  by_cases hv : cp_ip n v = true
  · rw [if_pos hv, if_pos hv]
    obtain ⟨p, hp, rfl⟩ := (cp_ip_iff (by omega)).mp hv
    rw [cp_nIt (by omega)]
    by_cases h7 : cp_rg 0 7 w = true
    · rw [if_pos h7, if_pos h7]
      obtain ⟨f, hf, rfl⟩ := cp_rg7 h7
      rw [cp_nIt (by omega)]
      exact hP p hp f (by omega)
    · rw [if_neg h7, if_neg h7]
      have e8 : cp_pl (S, mi, n, P, np, Q, l) p = cp_pl (S', mi, n, P', np, Q', l) p := by
        show (if P p 4 = 0 then nI ((cp_dq n P (P p 0).toInt.toNat).idxOf p) else if P p 4 = 1 then nI (l.idxOf p) else -6) = (if P' p 4 = 0 then nI ((cp_dq n P' (P' p 0).toInt.toNat).idxOf p) else if P' p 4 = 1 then nI (l.idxOf p) else -6)
        rw [hP p hp 4 (by decide), hP p hp 0 (by decide), cp_dq_c hP]
      have e9 : P p 8 = P' p 8 := hP p hp 8 (by decide)
      have e10 : cp_pw Q p np = cp_pw Q' p np := cp_pw_cc hQ np (Nat.le_refl _)
      show (if w = 8 then cp_pl (S, mi, n, P, np, Q, l) p else if w = 9 then P p 8 else if w = 10 then cp_pw Q p np else -2) = (if w = 8 then cp_pl (S', mi, n, P', np, Q', l) p else if w = 9 then P' p 8 else if w = 10 then cp_pw Q' p np else -2)
      rw [e8, e9, e10]
  · rw [if_neg hv, if_neg hv]
theorem cp_sOfPlate_cc {N N' : cp_Nt} {v w : Int32} (hn : cp_tp N ≤ 8) (h : cp_AN N N') : cp_sOfPlate N v w = cp_sOfPlate N' v w := by
  obtain ⟨S, S', mi, n, np, P, P', Q, Q', l, rfl, rfl, hS, hP, hQ⟩ := cp_AN_e h
  have hn : np ≤ 8 := hn
  unfold cp_sOfPlate
  by_cases hv : cp_ip np v = true
  · rw [if_pos hv, if_pos hv]
    obtain ⟨j, hj, rfl⟩ := (cp_ip_iff (by omega)).mp hv
    rw [cp_nIt (by omega)]
    show (if w = 0 then Q j 0 else if w = 1 then cp_bi (decide ((Q j 0).toInt < mi)) else if w = 2 then Q j 1 else if w = 3 then Q j 2 else if w = 4 then cp_lin P (Q j 2) n else -2) = (if w = 0 then Q' j 0 else if w = 1 then cp_bi (decide ((Q' j 0).toInt < mi)) else if w = 2 then Q' j 1 else if w = 3 then Q' j 2 else if w = 4 then cp_lin P' (Q' j 2) n else -2)
    rw [hQ j hj 0 (by decide), hQ j hj 1 (by decide), hQ j hj 2 (by decide), cp_lin_cc hP n (Nat.le_refl _)]
  · rw [if_neg hv, if_neg hv]
theorem cp_sCount_cc {N N' : cp_Nt} {a b w : Int32} (h : cp_AN N N') : cp_sCount N a b w = cp_sCount N' a b w := by
  have hk := cp_mkN_c h
  obtain ⟨S, S', mi, n, np, P, P', Q, Q', l, rfl, rfl, hS, hP, hQ⟩ := cp_AN_e h
  have hm : ∀ v, cp_many (S, mi, n, P, np, Q, l) v = cp_many (S', mi, n, P', np, Q', l) v := fun v => by
    show nI (cp_cnt (fun i => decide (P i 4 = v)) n) = nI (cp_cnt (fun i => decide (P' i 4 = v)) n)
    rw [cp_cnt_eq (fun j hj => by rw [hP j hj 4 (by decide)])]
  have hh : cp_held (S, mi, n, P, np, Q, l) = cp_held (S', mi, n, P', np, Q', l) := by
    show nI (cp_cnt (fun i => decide (P i 5 = 1) && decide (¬ P i 4 = 3)) n) = nI (cp_cnt (fun i => decide (P' i 5 = 1) && decide (¬ P' i 4 = 3)) n)
    rw [cp_cnt_eq (fun j hj => by rw [hP j hj 4 (by decide), hP j hj 5 (by decide)])]
  have hr : cp_reps (S, mi, n, P, np, Q, l) = cp_reps (S', mi, n, P', np, Q', l) := by
    show nI (cp_cnt (fun j => decide (Q j 1 = 1)) np) = nI (cp_cnt (fun j => decide (Q' j 1 = 1)) np)
    rw [cp_cnt_eq (fun j hj => by rw [hQ j hj 1 (by decide)])]
  have s0 : S 0 = S' 0 := hS 0 (by decide)
  have s1 : S 1 = S' 1 := hS 1 (by decide)
  have s2 : S 2 = S' 2 := hS 2 (by decide)
  have s3 : S 3 = S' 3 := hS 3 (by decide)
  unfold cp_sCount
  rw [hk, hm, hm, hm, hm, hh, hr]
  show (if w = 0 then nI mi else if w = 1 then nI n else if w = 2 then nI np else if w = 3 then _ else if w = 4 then _ else if w = 5 then _ else if w = 6 then _ else if w = 7 then _ else if w = 8 then _ else if w = 9 then _ else if w = 10 then S 0 else if w = 11 then S 1 else if w = 12 then S 2 else if w = 13 then S 3 else _) = _
  rw [s0, s1, s2, s3]
theorem cp_lst_cc (tk : Int32) (l : List Nat) : cp_lst tk l = cp_lst tk l := rfl
theorem cp_sWhy_cc {N N' : cp_Nt} {v w : Int32} (hn : cp_tn N ≤ 24) (h : cp_AN N N') : cp_sWhy N v w = cp_sWhy N' v w := by
  have hw := cp_now_cc h
  obtain ⟨S, S', mi, n, np, P, P', Q, Q', l, rfl, rfl, hS, hP, hQ⟩ := cp_AN_e h
  have hn : n ≤ 24 := hn
  unfold cp_sWhy
  by_cases hv : cp_ip n v = true
  · rw [if_pos hv, if_pos hv]
    obtain ⟨p, hp, rfl⟩ := (cp_ip_iff (by omega)).mp hv
    rw [cp_nIt (by omega)]
    have er : ∀ tk, cp_rsn P tk p = cp_rsn P' tk p := fun tk => by
      unfold cp_rsn
      rw [hP p hp 4 (by decide), hP p hp 5 (by decide)]
    have eh : cp_hd (S, mi, n, P, np, Q, l) p = cp_hd (S', mi, n, P', np, Q', l) p := by
      show (if P p 4 = 0 then nI ((cp_dq n P (P p 0).toInt.toNat).getD 0 0) else nI (l.getD 0 0)) = (if P' p 4 = 0 then nI ((cp_dq n P' (P' p 0).toInt.toNat).getD 0 0) else nI (l.getD 0 0))
      rw [hP p hp 4 (by decide), hP p hp 0 (by decide), cp_dq_c hP]
    have es : cp_so n P = cp_so n P' := cp_so_c hP
    have ec : cp_cau (S, mi, n, P, np, Q, l) p = cp_cau (S', mi, n, P', np, Q', l) p := by
      unfold cp_cau
      rw [hw, eh]
      show (if cp_rsn P _ p = 3 ∨ cp_rsn P _ p = 4 then _ else if cp_rsn P _ p = 5 then cp_lst _ ((cp_so n P).take ((cp_so n P).idxOf p)) else -6) = (if cp_rsn P' _ p = 3 ∨ cp_rsn P' _ p = 4 then _ else if cp_rsn P' _ p = 5 then cp_lst _ ((cp_so n P').take ((cp_so n P').idxOf p)) else -6)
      rw [er, es]
    show (if w = 0 then cp_rsn P (cp_now (S, mi, n, P, np, Q, l)).1 p else if w = 1 then cp_cau (S, mi, n, P, np, Q, l) p else -2) = (if w = 0 then cp_rsn P' (cp_now (S', mi, n, P', np, Q', l)).1 p else if w = 1 then cp_cau (S', mi, n, P', np, Q', l) p else -2)
    rw [hw, er, ec]
  · rw [if_neg hv, if_neg hv]
