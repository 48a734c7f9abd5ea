/-- a plate's place by its minute -/
def cp_at (Q : cp_PP) (v : Int32) : Nat → Nat
  | 0 => 0
  | k + 1 => if v < Q k 0 then cp_at Q v k else k + 1
theorem cp_at_le (Q : cp_PP) (v : Int32) : ∀ k, cp_at Q v k ≤ k
  | 0 => Nat.le_refl 0
  | k + 1 => by
    show (if v < Q k 0 then cp_at Q v k else k + 1) ≤ k + 1
    split
    · exact Nat.le_succ_of_le (cp_at_le Q v k)
    · exact Nat.le_refl _
theorem cp_at_hi (Q : cp_PP) (v : Int32) : ∀ k j, cp_at Q v k ≤ j → j < k → v < Q j 0
  | 0, j, _, h => absurd h (by omega)
  | k + 1, j, h1, h2 => by
    have e : cp_at Q v (k + 1) = if v < Q k 0 then cp_at Q v k else k + 1 := rfl
    rw [e] at h1
    split at h1
    · rename_i hlt
      by_cases hj : j = k
      · rw [hj]; exact hlt
      · exact cp_at_hi Q v k j h1 (by omega)
    · omega
theorem cp_at_lo (Q : cp_PP) (v : Int32) : ∀ k, 0 < cp_at Q v k → ¬ v < Q (cp_at Q v k - 1) 0
  | 0, h => absurd h (by show ¬ 0 < 0; omega)
  | k + 1, h => by
    have e : cp_at Q v (k + 1) = if v < Q k 0 then cp_at Q v k else k + 1 := rfl
    rw [e] at h ⊢
    split at h
    · rename_i hlt
      rw [if_pos hlt]
      exact cp_at_lo Q v k h
    · rename_i hlt
      rw [if_neg hlt]
      exact hlt
/-- the plates with one put in at its place -/
def cp_pq (rep v : Int32) : Nat → Int32 := fun f => if f = 0 then v else if f = 1 then rep else 0
def cp_iq (Q : cp_PP) (t : Nat) (v rep : Int32) : cp_PP := fun j => if j < t then Q j else if j = t then cp_pq rep v else Q (j - 1)
theorem cp_iq_lo {Q : cp_PP} {t j : Nat} {v rep : Int32} (h : j < t) : cp_iq Q t v rep j = Q j := by unfold cp_iq; rw [if_pos h]
theorem cp_iq_at {Q : cp_PP} {t : Nat} {v rep : Int32} : cp_iq Q t v rep t = cp_pq rep v := by unfold cp_iq; rw [if_neg (by omega), if_pos rfl]
theorem cp_iq_hi {Q : cp_PP} {t j : Nat} {v rep : Int32} (h : t < j) : cp_iq Q t v rep j = Q (j - 1) := by unfold cp_iq; rw [if_neg (by omega), if_neg (by omega)]
def cp_sTell (N : cp_Nt) (v rep : Int32) : Int32 × cp_Nt := (nI (cp_at (cp_tQ N) v (cp_tp N)), (cp_tS N, cp_tm N, cp_tn N, cp_tP N, cp_tp N + 1, cp_iq (cp_tQ N) (cp_at (cp_tQ N) v (cp_tp N)) v rep, cp_tl N))
def cp_sPlate (N : cp_Nt) (v : Int32) : Int32 × cp_Nt := if cp_rg (cp_tm N) 599 v = true then (if cp_tp N = 8 then (-4, N) else match cp_du (cp_tp N) (cp_tQ N) v with
  | none => cp_sTell N v 0
  | some _ => (-5, N)) else (-2, N)
