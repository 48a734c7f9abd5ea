/-! WHAT THE CHANGES LEAVE: valid nights; an error changes nothing; the whole state of a run -/
theorem cp_nn0 {k : Nat} (h : k < 2 ^ 31) : ¬ nI k < 0 := nI_pos h
theorem cp_err_piece {N : cp_Nt} {d l r g : Int32} (hV : cp_NV N) (h : (cp_sPiece N d l r g).1 < 0) : (cp_sPiece N d l r g).2 = N := by
  have hn := hV.2.2.1.1
  unfold cp_sPiece at h ⊢
  split
  · split
    · split
      · rfl
      · rename_i h1 h2 h3
        rw [if_pos h1, if_pos h2, if_neg h3] at h
        exact absurd h (cp_nn0 (by omega))
    · rfl
  · rfl
theorem cp_err_hold {N : cp_Nt} {v : Int32} (hV : cp_NV N) (h : (cp_sHold N v).1 < 0) : (cp_sHold N v).2 = N := by
  have hn := hV.2.2.1.1
  unfold cp_sHold at h ⊢
  split
  · split
    · rfl
    · rename_i h1 h2
      rw [if_pos h1, if_neg h2] at h
      obtain ⟨p, hp, rfl⟩ := (cp_ip_iff (by omega)).mp h1
      rw [cp_nIt (by omega)] at h
      rcases (hV.2.2.2.1 p hp).2.2.2.1 with e | e <;> rw [e] at h
      · exact absurd (show (1 - 0 : Int32) < 0 from h) (by decide)
      · exact absurd (show (1 - 1 : Int32) < 0 from h) (by decide)
  · rfl
theorem cp_err_kill {N : cp_Nt} {v : Int32} (h : (cp_sKill N v).1 < 0) : (cp_sKill N v).2 = N := by
  unfold cp_sKill at h ⊢
  split
  · split
    · rfl
    · split
      · rename_i h1 h2 h3
        rw [if_pos h1, if_neg h2, if_pos h3] at h
        exact absurd (show (1 : Int32) < 0 from h) (by decide)
      · rename_i h1 h2 h3
        rw [if_pos h1, if_neg h2, if_neg h3] at h
        exact absurd (show (0 : Int32) < 0 from h) (by decide)
  · rfl
theorem cp_sMins_le (N : cp_Nt) : ∀ k, (cp_sMins k N).1 ≤ k
  | 0 => Nat.le_refl 0
  | k + 1 => by
    have h := cp_sMins_le N k
    show (cp_sMins k N).1 + (if _ = none then 0 else 1) ≤ k + 1
    split <;> omega
theorem cp_err_pass {N : cp_Nt} {v : Int32} (hV : cp_NV N) (h : (cp_sPass N v).1 < 0) : (cp_sPass N v).2 = N := by
  unfold cp_sPass at h ⊢
  split
  · rfl
  · split
    · rfl
    · rename_i h1 h2
      rw [if_neg h1, if_neg h2] at h
      have h3 := cp_sMins_le N v.toInt.toNat
      have h4 : v.toInt < 2 ^ 31 := Int32.toInt_lt v
      exact absurd h (cp_nn0 (by omega))
theorem cp_err_plate {N : cp_Nt} {v : Int32} (hnp : cp_tp N ≤ 8) (h : (cp_sPlate N v).1 < 0) : (cp_sPlate N v).2 = N := by
  unfold cp_sPlate at h ⊢
  split
  · split
    · rfl
    · rename_i h1 h2
      rw [if_pos h1, if_neg h2] at h
      cases hd : cp_du (cp_tp N) (cp_tQ N) v with
      | none =>
        rw [hd] at h
        have h5 := cp_at_le (cp_tQ N) v (cp_tp N)
        exact absurd h (cp_nn0 (by omega))
      | some j => rfl
  · rfl
/-- valid nights -/
theorem cp_NV_piece {N : cp_Nt} {d l r g : Int32} (hV : cp_NV N) : cp_NV (cp_sPiece N d l r g).2 := by
  unfold cp_sPiece
  split
  · split
    · split
      · exact hV
      · rename_i h1 h2 h3
        obtain ⟨k, -, hk, rfl⟩ := cp_rg_nI (l := 0) (h := 4) h1
        simp only [Bool.and_eq_true] at h2
        obtain ⟨q, hq1, hq2, rfl⟩ := cp_rg_nI (l := 1) (h := 99) h2.1.1
        obtain ⟨rk, -, hr2, rfl⟩ := cp_rg_nI (l := 0) (h := 9) h2.1.2
        obtain ⟨lg, -, hl2, rfl⟩ := cp_rg_nI (l := 0) (h := 1) h2.2
        obtain ⟨g1, g2, g3, g4, g5⟩ := hV
        have hn := g3.1
        refine ⟨g1, g2, ⟨?_, fun i hi => ?_, g3.2.2.1, fun i => ?_⟩, fun i hi => ?_, g5⟩
        · show cp_tn N + 1 ≤ 24; omega
        · have hi : i < cp_tn N + 1 := hi
          show (∃ d, d < 5 ∧ cp_row (cp_tP N) (cp_tn N) _ i 0 = nI d) ∧ (cp_row (cp_tP N) (cp_tn N) _ i 4 = 0 ∨ cp_row (cp_tP N) (cp_tn N) _ i 4 = 1 ∨ cp_row (cp_tP N) (cp_tn N) _ i 4 = 2 ∨ cp_row (cp_tP N) (cp_tn N) _ i 4 = 3)
          by_cases e : i = cp_tn N
          · subst e
            rw [cp_row_s]
            exact ⟨⟨k, by omega, rfl⟩, Or.inl rfl⟩
          · rw [cp_row_n _ _ e]
            exact g3.2.1 i (by omega)
        · show i ∈ cp_tl N ↔ i < cp_tn N + 1 ∧ cp_row (cp_tP N) (cp_tn N) _ i 4 = 1
          rw [g3.2.2.2 i]
          by_cases e : i = cp_tn N
          · subst e
            rw [cp_row_s]
            constructor
            · rintro ⟨z, -⟩; omega
            · rintro ⟨-, z⟩; exact absurd (show (0 : Int32) = 1 from z) (by decide)
          · rw [cp_row_n _ _ e]
            constructor
            · rintro ⟨z, z2⟩; exact ⟨by omega, z2⟩
            · rintro ⟨z, z2⟩; exact ⟨by omega, z2⟩
        · have hi : i < cp_tn N + 1 := hi
          show (∃ k, 1 ≤ k ∧ k < 100 ∧ cp_row (cp_tP N) (cp_tn N) _ i 1 = nI k ∧ ∃ e, e ≤ k ∧ cp_row (cp_tP N) (cp_tn N) _ i 6 = nI e) ∧ (∃ k, k < 10 ∧ cp_row (cp_tP N) (cp_tn N) _ i 2 = nI k) ∧ (cp_row (cp_tP N) (cp_tn N) _ i 3 = 0 ∨ cp_row (cp_tP N) (cp_tn N) _ i 3 = 1) ∧ (cp_row (cp_tP N) (cp_tn N) _ i 5 = 0 ∨ cp_row (cp_tP N) (cp_tn N) _ i 5 = 1) ∧ (cp_row (cp_tP N) (cp_tn N) _ i 8 = -6 ∨ ∃ t, t < 100000 ∧ cp_row (cp_tP N) (cp_tn N) _ i 8 = nI t)
          by_cases e : i = cp_tn N
          · subst e
            rw [cp_row_s]
            refine ⟨⟨q, hq1, by omega, rfl, 0, by omega, rfl⟩, ⟨rk, by omega, rfl⟩, ?_, Or.inl rfl, Or.inl rfl⟩
            show nI lg = 0 ∨ nI lg = 1
            rcases (show lg = 0 ∨ lg = 1 by omega) with rfl | rfl
            · exact Or.inl rfl
            · exact Or.inr rfl
          · rw [cp_row_n _ _ e]
            exact g4 i (by omega)
    · exact hV
  · exact hV
theorem cp_NV_hold {N : cp_Nt} {v : Int32} (hV : cp_NV N) : cp_NV (cp_sHold N v).2 := by
  unfold cp_sHold
  split
  · split
    · exact hV
    · rename_i h1 h2
      have hn := hV.2.2.1.1
      obtain ⟨p, hp, rfl⟩ := (cp_ip_iff (by omega)).mp h1
      rw [cp_nIt (by omega)]
      obtain ⟨g1, g2, g3, g4, g5⟩ := hV
      refine ⟨g1, g2, cp_PV_wi g3 _ (by decide) (by decide), cp_PN_wi g4 (Or.inr (Or.inr (Or.inr (Or.inr (Or.inl ⟨rfl, ?_⟩))))), g5⟩
      rcases (g4 p hp).2.2.2.1 with e | e <;> rw [e]
      · exact Or.inr rfl
      · exact Or.inl rfl
  · exact hV
theorem cp_QV_iq {mi np : Nat} {Q : cp_PP} {v rep : Int32} (h : cp_QV mi np Q) (hv : ¬ v.toInt < mi) (hd : ∀ j, j < np → Q j 0 ≠ v) (hrep : rep = 0 ∨ rep = 1) : cp_QV mi (np + 1) (cp_iq Q (cp_at Q v np) v rep) := by
  have hle := cp_at_le Q v np
  have hhi := cp_at_hi Q v np
  have hlo := cp_at_lo Q v np
  generalize cp_at Q v np = t at hle hhi hlo ⊢
  have lo : ∀ j, j < t → (Q j 0).toInt < v.toInt := fun j hj => by
    have h1 := hlo (by omega)
    rw [Int32.lt_iff_toInt_lt] at h1
    have h2 : (Q (t - 1) 0).toInt ≠ v.toInt := fun e => hd (t - 1) (by omega) (Int32.toInt_inj.mp e)
    rcases Nat.lt_or_ge j (t - 1) with g | g
    · have := h.1 j (t - 1) g (by omega)
      omega
    · rw [show j = t - 1 by omega]; omega
  have hi : ∀ j, t ≤ j → j < np → v.toInt < (Q j 0).toInt := fun j h1 h2 => Int32.lt_iff_toInt_lt.mp (hhi j h1 h2)
  refine ⟨fun i j hij hj => ?_, fun j hj => ?_⟩
  · rcases Nat.lt_trichotomy i t with a | a | a
    · rw [cp_iq_lo a]
      rcases Nat.lt_trichotomy j t with b | b | b
      · rw [cp_iq_lo b]; exact h.1 i j hij (by omega)
      · subst b; rw [cp_iq_at]; exact lo i a
      · rw [cp_iq_hi b]
        have h1 := lo i a
        have h2 := hi (j - 1) (by omega) (by omega)
        omega
    · subst a
      rw [cp_iq_at, cp_iq_hi hij]
      exact hi (j - 1) (by omega) (by omega)
    · rw [cp_iq_hi a, cp_iq_hi (by omega)]
      exact h.1 (i - 1) (j - 1) (by omega) (by omega)
  · rcases Nat.lt_trichotomy j t with b | b | b
    · rw [cp_iq_lo b]; exact h.2 j (by omega)
    · subst b
      rw [cp_iq_at]
      exact ⟨hrep, fun _ => rfl⟩
    · rw [cp_iq_hi b]; exact h.2 (j - 1) (by omega)
theorem cp_NV_plate {N : cp_Nt} {v : Int32} (hV : cp_NV N) : cp_NV (cp_sPlate N v).2 := by
  unfold cp_sPlate
  split
  · split
    · exact hV
    · rename_i h1 h2
      cases hd : cp_du (cp_tp N) (cp_tQ N) v with
      | some j => exact hV
      | none =>
        obtain ⟨g1, g2, g3, g4, g5⟩ := hV
        obtain ⟨k, hk1, hk2, rfl⟩ := cp_rg_nI (l := cp_tm N) (h := 599) h1
        refine ⟨g1, g2, g3, g4, ?_⟩
        show cp_QV (cp_tm N) (cp_tp N + 1) (cp_iq (cp_tQ N) (cp_at (cp_tQ N) (nI k) (cp_tp N)) (nI k) 0)
        exact cp_QV_iq g5 (by rw [nI_toInt (by omega)]; omega) (cp_du_none hd) (Or.inl rfl)
  · exact hV
theorem cp_any_f {q : Nat → Bool} : ∀ {n : Nat}, cp_any q n = false → ∀ j, j < n → q j = false
  | 0, _, j, hj => absurd hj (by omega)
  | n + 1, h, j, hj => by
    have h : (cp_any q n || q n) = false := h
    rw [Bool.or_eq_false_iff] at h
    rcases Nat.lt_or_ge j n with g | g
    · exact cp_any_f h.1 j g
    · rw [show j = n by omega]; exact h.2
theorem cp_NV_kill {N : cp_Nt} {v : Int32} (hV : cp_NV N) : cp_NV (cp_sKill N v).2 := by
  unfold cp_sKill
  split
  · split
    · exact hV
    · rename_i h1 h2
      have hn := hV.2.2.1.1
      obtain ⟨p, hp, rfl⟩ := (cp_ip_iff (by omega)).mp h1
      rw [cp_nIt (by omega)]
      have hK := cp_NV_K hV hp
      split
      · rename_i h3
        obtain ⟨g1, g2, g3, g4, g5⟩ := hK
        obtain ⟨e, he1, he2, he3⟩ := hV.1.2.2.2
        have hm := hV.2.1
        unfold cp_kc at h3
        simp only [Bool.and_eq_true, Bool.not_eq_true', decide_eq_true_iff] at h3
        have hds := h3.1.1.2
        rw [he3, cp_nIt (by omega)] at hds
        unfold cp_dsN at hds
        refine ⟨g1, g2, g3, g4, ?_⟩
        show cp_QV (cp_tm N) (cp_tp N + 1) (cp_iq (cp_tQ N) (cp_at (cp_tQ N) (nI (cp_tm N) + cp_tS N 3) (cp_tp N)) (nI (cp_tm N) + cp_tS N 3) 1)
        rw [he3, nI_add]
        refine cp_QV_iq g5 (by rw [nI_toInt (by omega)]; omega) (fun j hj ej => ?_) (Or.inr rfl)
        have h4 := cp_any_f hds j hj
        have ej : cp_tQ N j 0 = nI (cp_tm N + e) := ej
        rw [ej, cp_rg_t (l := cp_tm N) (h := cp_tm N + e) rfl (by omega) (by omega) (Nat.le_refl _)] at h4
        exact absurd h4 (by decide)
      · exact hK
  · exact hV
theorem cp_NV_pass {N : cp_Nt} {v : Int32} (hV : cp_NV N) : cp_NV (cp_sPass N v).2 := by
  unfold cp_sPass
  split
  · exact hV
  · split
    · exact hV
    · rename_i h1 h2
      obtain ⟨c, rfl, hc1, hc2⟩ := cp_pass_c hV.2.1 (Int32.not_lt.mp h1) (Int32.not_lt.mp h2)
      rw [cp_nIt (by omega)]
      exact cp_sMins_V hV c hc2
/-- a setting -/
def cp_sSet (N : cp_Nt) (s v : Int32) : Int32 × cp_Nt := if (s = 0 ∧ cp_rg 1 20 v = true) ∨ (s = 1 ∧ cp_rg 1 60 v = true) ∨ (s = 2 ∧ cp_rg 10 400 v = true) ∨ (s = 3 ∧ cp_rg 1 60 v = true) then (cp_tS N s.toInt.toNat, (upd (cp_tS N) s.toInt.toNat v, N.2)) else (-2, N)
theorem cp_NV_set {N : cp_Nt} {s v : Int32} (hV : cp_NV N) : cp_NV (cp_sSet N s v).2 := by
  unfold cp_sSet
  split
  · rename_i h
    obtain ⟨⟨h0, h1, h2, h3⟩, g⟩ := hV
    rcases h with ⟨rfl, h⟩ | ⟨rfl, h⟩ | ⟨rfl, h⟩ | ⟨rfl, h⟩
    · obtain ⟨k, k1, k2, rfl⟩ := cp_rg_nI (l := 1) (h := 20) h
      exact ⟨⟨⟨k, k1, k2, rfl⟩, h1, h2, h3⟩, g⟩
    · obtain ⟨k, k1, k2, rfl⟩ := cp_rg_nI (l := 1) (h := 60) h
      exact ⟨⟨h0, ⟨k, k1, k2, rfl⟩, h2, h3⟩, g⟩
    · obtain ⟨k, k1, k2, rfl⟩ := cp_rg_nI (l := 10) (h := 400) h
      exact ⟨⟨h0, h1, ⟨k, k1, k2, rfl⟩, h3⟩, g⟩
    · obtain ⟨k, k1, k2, rfl⟩ := cp_rg_nI (l := 1) (h := 60) h
      exact ⟨⟨h0, h1, h2, ⟨k, k1, k2, rfl⟩⟩, g⟩
  · exact hV
/-- the state of a run: the night, how many states are kept and which, the slots, the pad -/
abbrev cp_St : Type := cp_Nt × Nat × (Nat → cp_Nt) × (Nat → Option cp_Nt) × (Nat → Int32) × Nat
abbrev cp_xN (X : cp_St) : cp_Nt := X.1
abbrev cp_xL (X : cp_St) : Nat := X.2.1
abbrev cp_xH (X : cp_St) : Nat → cp_Nt := X.2.2.1
abbrev cp_xZ (X : cp_St) : Nat → Option cp_Nt := X.2.2.2.1
abbrev cp_xT (X : cp_St) : Nat → Int32 := X.2.2.2.2.1
abbrev cp_xn (X : cp_St) : Nat := X.2.2.2.2.2
def cp_L1 (L : Nat) : Nat := if L = 6 then 5 else L
def cp_L0 (L : Nat) : Nat := if L = 6 then 1 else 0
/-- a change: its state ahead of it is kept -/
def cp_psh (X : cp_St) (N : cp_Nt) : cp_St := (N, cp_L1 (cp_xL X) + 1, (fun i => if i < cp_L1 (cp_xL X) then cp_xH X (i + cp_L0 (cp_xL X)) else cp_xN X), cp_xZ X, cp_xT X, cp_xn X)
def cp_chg (X : cp_St) (o : Int32 × cp_Nt) : Int32 × cp_St := if o.1 < 0 then (o.1, X) else (o.1, cp_psh X o.2)

