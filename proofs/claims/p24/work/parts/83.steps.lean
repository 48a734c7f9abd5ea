/-! WHAT A STEP OF THE LAW ASKS OF NIGHTS -/
theorem cp_f_piece {N : cp_Nt} {d l r g : Nat} (hd : d < 5) (hl : 1 ≤ l ∧ l ≤ 99) (hr : r < 10) (hg : g < 2) : (cp_sPiece N (nI d) (nI l) (nI r) (nI g)).1 = if cp_tn N = 24 then -4 else nI (cp_tn N) := by
  unfold cp_sPiece
  have a1 : cp_rg 0 4 (nI d) = true := cp_rg_t (l := 0) (h := 4) rfl (by omega) (by omega) (by omega)
  have a2 : cp_rg 1 99 (nI l) = true := cp_rg_t (l := 1) (h := 99) rfl (by omega) (by omega) (by omega)
  have a3 : cp_rg 0 9 (nI r) = true := cp_rg_t (l := 0) (h := 9) rfl (by omega) (by omega) (by omega)
  have a4 : cp_rg 0 1 (nI g) = true := cp_rg_t (l := 0) (h := 1) rfl (by omega) (by omega) (by omega)
  rw [if_pos a1, if_pos (show (cp_rg 1 99 (nI l) && cp_rg 0 9 (nI r) && cp_rg 0 1 (nI g)) = true by rw [a2, a3, a4]; rfl)]
  split <;> rfl
theorem cp_f_pass_hi {N : cp_Nt} {c : Nat} (hm : cp_tm N ≤ 600) (h1 : 1 ≤ c) (hc : c < 1000) (h : 600 < cp_tm N + c) : cp_sPass N (nI c) = (-5, N) := by
  unfold cp_sPass
  rw [if_neg (by rw [show (1 : Int32) = nI 1 from rfl, nI_ltI (by omega) (by omega)]; omega), if_pos (by rw [pk_sub hm, nI_ltI (by omega) (by omega)]; omega)]
theorem cp_f_pass_lo {N : cp_Nt} {c : Nat} (h1 : 1 ≤ c) (h : cp_tm N + c ≤ 600) : cp_sPass N (nI c) = (nI (cp_sMins c N).1, (cp_sMins c N).2) := by
  unfold cp_sPass
  rw [if_neg (by rw [show (1 : Int32) = nI 1 from rfl, nI_ltI (by omega) (by omega)]; omega), if_neg (by rw [pk_sub (by omega), nI_ltI (by omega) (by omega)]; omega), cp_nIt (by omega)]
def cp_o1 (N : cp_Nt) : Nat := if cp_du (cp_tp N) (cp_tQ N) (nI (cp_tm N)) = none then 0 else 1
theorem cp_o1_le (N : cp_Nt) : cp_o1 N ≤ 1 := by
  unfold cp_o1
  split <;> omega
theorem cp_f_pass_1 {N : cp_Nt} (h : cp_tm N < 600) : cp_sPass N 1 = (nI (cp_o1 N), (cp_sMin N).2) := by
  have g := cp_f_pass_lo (N := N) (c := 1) (by omega) (by omega)
  have e : (cp_sMins 1 N).1 = cp_o1 N := by
    show 0 + cp_o1 N = cp_o1 N
    omega
  rw [e] at g
  exact g
theorem cp_sMins_s1 (N : cp_Nt) (k : Nat) : (cp_sMins (k + 1) N).1 = (cp_sMins k N).1 + cp_o1 (cp_sMins k N).2 := rfl
theorem cp_sMins_s2 (N : cp_Nt) (k : Nat) : (cp_sMins (k + 1) N).2 = (cp_sMin (cp_sMins k N).2).2 := rfl
theorem cp_f_next {N : cp_Nt} (hV : cp_NV N) (h8 : cp_tp N ≤ 8) (hQ : cp_QB N) (hm : cp_tm N < 600) (h : cp_o1 N ≠ 0) : 1 ≤ cp_mkN (cp_sMin N).2 ∧ cp_mkN (cp_sMin N).2 ≤ cp_tp (cp_sMin N).2 ∧ cp_tQ (cp_sMin N).2 (cp_mkN (cp_sMin N).2 - 1) 2 = cp_sNext N := by
  obtain ⟨a, hA⟩ := cp_MA_ex hV h8 hQ
  have hV' := cp_NV_min hV (by omega)
  obtain ⟨g1, g2, g3, g4, g5, g6⟩ := cp_sMin_k N
  have gm := cp_sMin_m N
  cases hd : cp_du (cp_tp N) (cp_tQ N) (nI (cp_tm N)) with
  | none => exact absurd (by unfold cp_o1; rw [if_pos hd]) h
  | some j =>
    obtain ⟨hj, hj0, hji⟩ := cp_du_some hd
    have hjt : (cp_tQ N j 0).toInt = cp_tm N := by rw [hj0, nI_toInt (by omega)]
    have iff1 := fun i (hi : i < cp_tp N) => cp_mk_iff hV.2.2.2.2 hi
    have iff2 := fun i (hi : i < cp_tp (cp_sMin N).2) => cp_mk_iff hV'.2.2.2.2 hi
    have hinc := hV.2.2.2.2.1
    have le1 : cp_mkN N ≤ cp_tp N := cp_cnt_le _ _
    have le2 : cp_mkN (cp_sMin N).2 ≤ cp_tp (cp_sMin N).2 := cp_cnt_le _ _
    have hmk : cp_mkN N = j := by
      have a1 : ¬ j < cp_mkN N := fun z => by
        have := (iff1 j hj).mpr z
        omega
      rcases Nat.lt_or_ge (cp_mkN N) j with z | z
      · exfalso
        have h2 := hinc _ _ z hj
        have h3 := (iff1 _ (show cp_mkN N < cp_tp N by omega)).mp (by omega)
        omega
      · omega
    have hmk' : cp_mkN (cp_sMin N).2 = j + 1 := by
      rw [g3] at le2 iff2
      rw [gm] at iff2
      have a1 : j < cp_mkN (cp_sMin N).2 := (iff2 j hj).mp (by rw [g6]; omega)
      rcases Nat.lt_or_ge (j + 1) (cp_mkN (cp_sMin N).2) with z | z
      · exfalso
        have h2 := hinc j (j + 1) (by omega) (by omega)
        have h3 := (iff2 (j + 1) (by omega)).mpr z
        rw [g6] at h3
        omega
      · omega
    refine ⟨by omega, le2, ?_⟩
    rw [hmk', show j + 1 - 1 = cp_mkN N by omega]
    have hlt : cp_mkN N < cp_tp N := by omega
    have q := cp_next_q hA hV hlt
    have hdue : cp_due N = cp_tm N := by
      unfold cp_due
      rw [hmk, hjt]
      rfl
    have e0 : (cp_sMins (cp_due N - cp_tm N + 1) N).2 = (cp_sMin N).2 := by
      rw [hdue, Nat.sub_self]
      rfl
    rw [e0] at q
    rw [q]
    unfold cp_sNext
    rw [if_pos hlt]
theorem cp_f_hold2 {N : cp_Nt} {p : Nat} (hV : cp_NV N) (hp : p < cp_tn N) (h3 : ¬ cp_tP N p 4 = 3) : (cp_sHold N (nI p)).1 + (cp_sHold (cp_sHold N (nI p)).2 (nI p)).1 = 1 ∧ (cp_sHold (cp_sHold N (nI p)).2 (nI p)).2 = N := by
  have hn := hV.2.2.1.1
  have hip : cp_ip (cp_tn N) (nI p) = true := (cp_ip_iff (by omega)).mpr ⟨p, hp, rfl⟩
  have e1 : cp_sHold N (nI p) = (1 - cp_tP N p 5, (cp_tS N, cp_tm N, cp_tn N, cp_wi (cp_tP N) p 5 (1 - cp_tP N p 5), cp_tp N, cp_tQ N, cp_tl N)) := by
    unfold cp_sHold
    rw [if_pos hip, cp_nIt (by omega), if_neg h3]
  have e2 : cp_sHold (cp_tS N, cp_tm N, cp_tn N, cp_wi (cp_tP N) p 5 (1 - cp_tP N p 5), cp_tp N, cp_tQ N, cp_tl N) (nI p) = (1 - (1 - cp_tP N p 5), (cp_tS N, cp_tm N, cp_tn N, cp_wi (cp_wi (cp_tP N) p 5 (1 - cp_tP N p 5)) p 5 (1 - (1 - cp_tP N p 5)), cp_tp N, cp_tQ N, cp_tl N)) := by
    unfold cp_sHold
    show (if cp_ip (cp_tn N) (nI p) = true then (if cp_wi (cp_tP N) p 5 (1 - cp_tP N p 5) (nI p).toInt.toNat 4 = 3 then _ else (1 - cp_wi (cp_tP N) p 5 (1 - cp_tP N p 5) (nI p).toInt.toNat 5, _)) else _) = _
    rw [if_pos hip, cp_nIt (by omega), if_neg (by rw [cp_wi_j _ _ _ _ (fun z => absurd z.2 (by decide))]; exact h3)]
    show (1 - cp_wi (cp_tP N) p 5 (1 - cp_tP N p 5) p 5, (cp_tS N, cp_tm N, cp_tn N, cp_wi (cp_wi (cp_tP N) p 5 (1 - cp_tP N p 5)) p 5 (1 - cp_wi (cp_tP N) p 5 (1 - cp_tP N p 5) p 5), cp_tp N, cp_tQ N, cp_tl N)) = _
    rw [cp_wi_s]
  rw [e1]
  dsimp only
  rw [e2]
  have e5 : (1 : Int32) - (1 - cp_tP N p 5) = cp_tP N p 5 := by
    rcases (hV.2.2.2.1 p hp).2.2.2.1 with e | e <;> rw [e] <;> rfl
  refine ⟨?_, ?_⟩
  · show 1 - cp_tP N p 5 + (1 - (1 - cp_tP N p 5)) = 1
    rcases (hV.2.2.2.1 p hp).2.2.2.1 with e | e <;> rw [e] <;> rfl
  · dsimp only
    rw [e5]
    have : cp_wi (cp_wi (cp_tP N) p 5 (1 - cp_tP N p 5)) p 5 (cp_tP N p 5) = cp_tP N := by
      funext i f
      unfold cp_wi
      split
      · rename_i h; rw [h.1, h.2]
      · rfl
    rw [this]
theorem cp_f_plate {N : cp_Nt} {v : Int32} (hV : cp_NV N) (h8 : cp_tp N ≤ 8) (h : ¬ (cp_sPlate N v).1 < 0) : ∃ j, (cp_sPlate N v).1 = nI j ∧ j < cp_tp (cp_sPlate N v).2 ∧ cp_tp (cp_sPlate N v).2 ≤ 8 ∧ cp_tQ (cp_sPlate N v).2 j 0 = v ∧ cp_tQ (cp_sPlate N v).2 j 1 = 0 ∧ cp_madeN (cp_sPlate N v).2 j = 0 ∧ cp_mkN (cp_sPlate N v).2 ≤ j := by
  have hV' := cp_NV_plate (v := v) hV
  unfold cp_sPlate at h hV' ⊢
  by_cases h1 : cp_rg (cp_tm N) 599 v = true
  · rw [if_pos h1] at h hV' ⊢
    by_cases h2 : cp_tp N = 8
    · rw [if_pos h2] at h
      exact absurd (show (-4 : Int32) < 0 by decide) h
    · rw [if_neg h2] at h hV' ⊢
      cases hd : cp_du (cp_tp N) (cp_tQ N) v with
      | some j =>
        rw [hd] at h
        exact absurd (show (-5 : Int32) < 0 by decide) h
      | none =>
        rw [hd] at hV'
        obtain ⟨k, hk1, hk2, rfl⟩ := cp_rg_nI (l := cp_tm N) (h := 599) h1
        have hle := cp_at_le (cp_tQ N) (nI k) (cp_tp N)
        have e0 : cp_tQ (cp_sTell N (nI k) 0).2 (cp_at (cp_tQ N) (nI k) (cp_tp N)) = cp_pq 0 (nI k) := cp_iq_at
        have et : cp_tp (cp_sTell N (nI k) 0).2 = cp_tp N + 1 := rfl
        have em : cp_tm (cp_sTell N (nI k) 0).2 = cp_tm N := rfl
        have hge : ¬ (cp_tQ (cp_sTell N (nI k) 0).2 (cp_at (cp_tQ N) (nI k) (cp_tp N)) 0).toInt < cp_tm (cp_sTell N (nI k) 0).2 := by
          rw [e0, em]
          show ¬ (nI k).toInt < _
          rw [nI_toInt (by omega)]
          omega
        refine ⟨cp_at (cp_tQ N) (nI k) (cp_tp N), rfl, ?_, ?_, ?_, ?_, ?_, ?_⟩
        · show cp_at (cp_tQ N) (nI k) (cp_tp N) < cp_tp N + 1; omega
        · show cp_tp N + 1 ≤ 8; omega
        · show cp_tQ (cp_sTell N (nI k) 0).2 (cp_at (cp_tQ N) (nI k) (cp_tp N)) 0 = nI k
          rw [e0]; rfl
        · show cp_tQ (cp_sTell N (nI k) 0).2 (cp_at (cp_tQ N) (nI k) (cp_tp N)) 1 = 0
          rw [e0]; rfl
        · show cp_bi (decide _) = 0
          rw [decide_eq_false hge]
          rfl
        · have := cp_mk_iff (N := (cp_sTell N (nI k) 0).2) hV'.2.2.2.2 (j := cp_at (cp_tQ N) (nI k) (cp_tp N)) (by rw [et]; omega)
          rcases Nat.lt_or_ge (cp_at (cp_tQ N) (nI k) (cp_tp N)) (cp_mkN (cp_sTell N (nI k) 0).2) with z | z
          · exact absurd (this.mpr z) hge
          · exact z
  · rw [if_neg h1] at h
    exact absurd (show (-2 : Int32) < 0 by decide) h
theorem cp_f_set {N : cp_Nt} {s k : Nat} (hs : s < 4) (h : (s = 0 → 1 ≤ k ∧ k ≤ 20) ∧ (s = 1 → 1 ≤ k ∧ k ≤ 60) ∧ (s = 2 → 10 ≤ k ∧ k ≤ 400) ∧ (s = 3 → 1 ≤ k ∧ k ≤ 60)) : cp_sCount (cp_sSet N (nI s) (nI k)).2 0 0 (10 + nI s) = nI k := by
  have e : cp_sSet N (nI s) (nI k) = (cp_tS N (nI s).toInt.toNat, (upd (cp_tS N) (nI s).toInt.toNat (nI k), N.2)) := by
    unfold cp_sSet
    rw [if_pos]
    rcases (show s = 0 ∨ s = 1 ∨ s = 2 ∨ s = 3 by omega) with rfl | rfl | rfl | rfl
    · exact Or.inl ⟨rfl, cp_rg_t (l := 1) (h := 20) rfl (by have := h.1 rfl; omega) (h.1 rfl).1 (h.1 rfl).2⟩
    · exact Or.inr (Or.inl ⟨rfl, cp_rg_t (l := 1) (h := 60) rfl (by have := h.2.1 rfl; omega) (h.2.1 rfl).1 (h.2.1 rfl).2⟩)
    · exact Or.inr (Or.inr (Or.inl ⟨rfl, cp_rg_t (l := 10) (h := 400) rfl (by have := h.2.2.1 rfl; omega) (h.2.2.1 rfl).1 (h.2.2.1 rfl).2⟩))
    · exact Or.inr (Or.inr (Or.inr ⟨rfl, cp_rg_t (l := 1) (h := 60) rfl (by have := h.2.2.2 rfl; omega) (h.2.2.2 rfl).1 (h.2.2.2 rfl).2⟩))
  rw [e]
  unfold cp_sCount
  rcases (show s = 0 ∨ s = 1 ∨ s = 2 ∨ s = 3 by omega) with rfl | rfl | rfl | rfl <;> rfl
theorem cp_ipn (n : Nat) (h : n < 2 ^ 31) : ¬ cp_ip n (nI n) = true := fun z => by
  obtain ⟨p, hp, e⟩ := (cp_ip_iff h).mp z
  have := (nI_eq (a := n) (b := p) (by omega) (by omega)).mp e
  omega
theorem cp_f_hold_n {N : cp_Nt} (hn : cp_tn N ≤ 24) : (cp_sHold N (nI (cp_tn N))).1 = -1 := by
  unfold cp_sHold
  rw [if_neg (cp_ipn _ (by omega))]
theorem cp_f_ofP {N : cp_Nt} {p f : Nat} (hn : cp_tn N ≤ 24) (hp : p < cp_tn N) (hf : f ≤ 7) : cp_sOfPiece N (nI p) (nI f) = cp_tP N p f := by
  unfold cp_sOfPiece
  rw [if_pos ((cp_ip_iff (by omega)).mpr ⟨p, hp, rfl⟩), if_pos (show cp_rg 0 7 (nI f) = true from cp_rg_t (l := 0) (h := 7) rfl (by omega) (by omega) hf), cp_nIt (by omega), cp_nIt (by omega)]
theorem cp_f_ofP8 {N : cp_Nt} {p : Nat} (hn : cp_tn N ≤ 24) (hp : p < cp_tn N) : cp_sOfPiece N (nI p) 8 = cp_pl N p := by
  unfold cp_sOfPiece
  rw [if_pos ((cp_ip_iff (by omega)).mpr ⟨p, hp, rfl⟩), if_neg (by decide), if_pos rfl, cp_nIt (by omega)]
theorem cp_f_ofP9 {N : cp_Nt} {p : Nat} (hn : cp_tn N ≤ 24) (hp : p < cp_tn N) : cp_sOfPiece N (nI p) 9 = cp_tP N p 8 := by
  unfold cp_sOfPiece
  rw [if_pos ((cp_ip_iff (by omega)).mpr ⟨p, hp, rfl⟩), if_neg (by decide), if_neg (by decide), if_pos rfl, cp_nIt (by omega)]
theorem cp_f_ofP10 {N : cp_Nt} {p : Nat} (hn : cp_tn N ≤ 24) (hp : p < cp_tn N) : cp_sOfPiece N (nI p) 10 = cp_pw (cp_tQ N) p (cp_tp N) := by
  unfold cp_sOfPiece
  rw [if_pos ((cp_ip_iff (by omega)).mpr ⟨p, hp, rfl⟩), if_neg (by decide), if_neg (by decide), if_neg (by decide), if_pos rfl, cp_nIt (by omega)]
theorem cp_f_ofQ {N : cp_Nt} {j : Nat} (h8 : cp_tp N ≤ 8) (hj : j < cp_tp N) : cp_sOfPlate N (nI j) 0 = cp_tQ N j 0 ∧ cp_sOfPlate N (nI j) 1 = cp_madeN N j ∧ cp_sOfPlate N (nI j) 2 = cp_tQ N j 1 ∧ cp_sOfPlate N (nI j) 3 = cp_tQ N j 2 ∧ cp_sOfPlate N (nI j) 4 = cp_lin (cp_tP N) (cp_tQ N j 2) (cp_tn N) := by
  have hip := (cp_ip_iff (n := cp_tp N) (by omega)).mpr ⟨j, hj, rfl⟩
  unfold cp_sOfPlate
  rw [if_pos hip, if_pos hip, if_pos hip, if_pos hip, if_pos hip, cp_nIt (by omega)]
  exact ⟨rfl, rfl, rfl, rfl, rfl⟩
theorem cp_f_hold {N : cp_Nt} {p : Nat} (hV : cp_NV N) (hp : p < cp_tn N) : ((cp_sHold N (nI p)).1 < 0 → (cp_sHold N (nI p)).1 = -5 ∧ cp_sOfPiece (cp_sHold N (nI p)).2 (nI p) 4 = 3) ∧ (¬ (cp_sHold N (nI p)).1 < 0 → cp_sOfPiece (cp_sHold N (nI p)).2 (nI p) 5 = (cp_sHold N (nI p)).1) := by
  have hn := hV.2.2.1.1
  have hip : cp_ip (cp_tn N) (nI p) = true := (cp_ip_iff (by omega)).mpr ⟨p, hp, rfl⟩
  unfold cp_sHold
  rw [if_pos hip, cp_nIt (by omega)]
  by_cases h3 : cp_tP N p 4 = 3
  · rw [if_pos h3]
    exact ⟨fun _ => ⟨rfl, (cp_f_ofP (f := 4) hn hp (by decide)).trans h3⟩, fun z => absurd (show (-5 : Int32) < 0 by decide) z⟩
  · rw [if_neg h3]
    refine ⟨fun z => ?_, fun _ => ?_⟩
    · exfalso
      have z : 1 - cp_tP N p 5 < 0 := z
      rcases (hV.2.2.2.1 p hp).2.2.2.1 with e | e <;> rw [e] at z
      · exact absurd z (by decide)
      · exact absurd z (by decide)
    · refine (cp_f_ofP (N := (cp_tS N, cp_tm N, cp_tn N, cp_wi (cp_tP N) p 5 (1 - cp_tP N p 5), cp_tp N, cp_tQ N, cp_tl N)) (f := 5) hn hp (by decide)).trans ?_
      exact cp_wi_s _ _ _ _
theorem cp_cnt_iq {Q : cp_PP} {t : Nat} {v rep : Int32} : ∀ np, t ≤ np → cp_cnt (fun j => decide (cp_iq Q t v rep j 1 = 1)) (np + 1) = cp_cnt (fun j => decide (Q j 1 = 1)) np + (if rep = 1 then 1 else 0) := by
  intro np
  induction np with
  | zero =>
    intro h
    have : t = 0 := by omega
    subst this
    show 0 + (if decide (cp_iq Q 0 v rep 0 1 = 1) = true then 1 else 0) = 0 + _
    rw [cp_iq_at]
    show 0 + (if decide (rep = 1) = true then 1 else 0) = _
    by_cases e : rep = 1
    · rw [decide_eq_true e]; simp [e]
    · rw [decide_eq_false e]; simp [e]
  | succ k ih =>
    intro h
    show cp_cnt (fun j => decide (cp_iq Q t v rep j 1 = 1)) (k + 1) + (if decide (cp_iq Q t v rep (k + 1) 1 = 1) = true then 1 else 0) = cp_cnt (fun j => decide (Q j 1 = 1)) k + (if decide (Q k 1 = 1) = true then 1 else 0) + _
    rcases Nat.lt_or_ge k t with g | g
    · have e : t = k + 1 := by omega
      subst e
      rw [cp_iq_at]
      have e2 : cp_cnt (fun j => decide (cp_iq Q (k + 1) v rep j 1 = 1)) (k + 1) = cp_cnt (fun j => decide (Q j 1 = 1)) (k + 1) := cp_cnt_eq (fun j hj => by rw [cp_iq_lo hj])
      rw [e2]
      show cp_cnt (fun j => decide (Q j 1 = 1)) k + (if decide (Q k 1 = 1) = true then 1 else 0) + (if decide (rep = 1) = true then 1 else 0) = _
      by_cases e : rep = 1
      · rw [decide_eq_true e]; simp [e]
      · rw [decide_eq_false e]; simp [e]
    · rw [ih g, cp_iq_hi (show t < k + 1 by omega), show k + 1 - 1 = k by omega]
      omega
theorem cp_f_kill_n {N : cp_Nt} (hn : cp_tn N ≤ 24) : (cp_sKill N (nI (cp_tn N))).1 = -1 := by
  unfold cp_sKill
  rw [if_neg (cp_ipn _ (by omega))]
theorem cp_f_kill {N : cp_Nt} {p : Nat} (hV : cp_NV N) (hp : p < cp_tn N) : ((cp_sKill N (nI p)).1 < 0 → (cp_sKill N (nI p)).1 = -5) ∧ (¬ (cp_sKill N (nI p)).1 < 0 → cp_sOfPiece (cp_sKill N (nI p)).2 (nI p) 4 = 3 ∧ cp_sCount (cp_sKill N (nI p)).2 0 0 2 = cp_sCount N 0 0 2 + (cp_sKill N (nI p)).1 ∧ cp_sCount (cp_sKill N (nI p)).2 0 0 9 = cp_sCount N 0 0 9 + (cp_sKill N (nI p)).1 ∧ cp_sOfPiece (cp_sKill N (nI p)).2 (nI p) 8 = -6) := by
  have hn := hV.2.2.1.1
  have hip : cp_ip (cp_tn N) (nI p) = true := (cp_ip_iff (by omega)).mpr ⟨p, hp, rfl⟩
  have k4 : ∀ (tp : Nat) (Q : cp_PP), cp_sOfPiece (cp_tS N, cp_tm N, cp_tn N, cp_wi (cp_tP N) p 4 3, tp, Q, (cp_tl N).erase p) (nI p) 4 = 3 := fun tp Q => (cp_f_ofP (N := (cp_tS N, cp_tm N, cp_tn N, cp_wi (cp_tP N) p 4 3, tp, Q, (cp_tl N).erase p)) (f := 4) hn hp (by decide)).trans (cp_wi_s _ _ _ _)
  have k8 : ∀ (tp : Nat) (Q : cp_PP), cp_sOfPiece (cp_tS N, cp_tm N, cp_tn N, cp_wi (cp_tP N) p 4 3, tp, Q, (cp_tl N).erase p) (nI p) 8 = -6 := fun tp Q => by
    rw [cp_f_ofP8 (N := (cp_tS N, cp_tm N, cp_tn N, cp_wi (cp_tP N) p 4 3, tp, Q, (cp_tl N).erase p)) hn hp]
    show (if cp_wi (cp_tP N) p 4 3 p 4 = 0 then _ else if cp_wi (cp_tP N) p 4 3 p 4 = 1 then _ else -6) = (-6 : Int32)
    rw [cp_wi_s, if_neg (by decide), if_neg (by decide)]
  unfold cp_sKill
  rw [if_pos hip, cp_nIt (by omega)]
  by_cases h3 : cp_tP N p 4 = 3
  · rw [if_pos h3]
    exact ⟨fun _ => rfl, fun z => absurd (show (-5 : Int32) < 0 by decide) z⟩
  · rw [if_neg h3]
    by_cases hk : cp_kc N p = true
    · rw [if_pos hk]
      refine ⟨fun z => absurd (show (1 : Int32) < 0 from z) (by decide), fun _ => ⟨k4 _ _, ?_, ?_, k8 _ _⟩⟩
      · show nI (cp_tp N + 1) = nI (cp_tp N) + 1
        exact (nI_1 _).symm
      · show nI (cp_cnt (fun j => decide (cp_iq (cp_tQ N) (cp_at (cp_tQ N) (nI (cp_tm N) + cp_tS N 3) (cp_tp N)) (nI (cp_tm N) + cp_tS N 3) 1 j 1 = 1)) (cp_tp N + 1)) = nI (cp_cnt (fun j => decide (cp_tQ N j 1 = 1)) (cp_tp N)) + 1
        rw [cp_cnt_iq _ (cp_at_le _ _ _), if_pos rfl]
        exact (nI_1 _).symm
    · rw [if_neg hk]
      refine ⟨fun z => absurd (show (0 : Int32) < 0 from z) (by decide), fun _ => ⟨k4 _ _, ?_, ?_, k8 _ _⟩⟩
      · show nI (cp_tp N) = nI (cp_tp N) + 0
        rw [Int32.add_zero]
      · show cp_reps N = cp_reps N + 0
        rw [Int32.add_zero]
