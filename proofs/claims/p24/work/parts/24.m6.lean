/-- a minute passes -/
def cp_sMin (N : cp_Nt) : Int32 × cp_Nt := match cp_du (cp_tp N) (cp_tQ N) (nI (cp_tm N)) with
  | none => (0, (cp_tS N, cp_tm N + 1, cp_tn N, (cp_wk (cp_tS N) (nI (cp_tm N)) (cp_tn N) (cp_tP N, cp_tl N)).1, cp_tp N, cp_tQ N, (cp_wk (cp_tS N) (nI (cp_tm N)) (cp_tn N) (cp_tP N, cp_tl N)).2))
  | some j => (1, (cp_tS N, cp_tm N + 1, cp_tn N, (cp_wk (cp_tS N) (nI (cp_tm N)) (cp_tn N) (cp_tP N, cp_tl N)).1, cp_tp N, cp_wi (cp_tQ N) j 2 (cp_tk (cp_wk (cp_tS N) (nI (cp_tm N)) (cp_tn N) (cp_tP N, cp_tl N)).1 (cp_tS N 2) (cp_so (cp_tn N) (cp_wk (cp_tS N) (nI (cp_tm N)) (cp_tn N) (cp_tP N, cp_tl N)).1)).1, (cp_wk (cp_tS N) (nI (cp_tm N)) (cp_tn N) (cp_tP N, cp_tl N)).2))
theorem cp_du_some {np j : Nat} {Q : cp_PP} {v : Int32} (h : cp_du np Q v = some j) : j < np ∧ Q j 0 = v ∧ ∀ i, i < j → Q i 0 ≠ v := by
  unfold cp_du at h
  rw [List.find?_range_eq_some] at h
  exact ⟨List.mem_range.mp h.2.1, of_decide_eq_true h.1, fun i hi => by simpa using h.2.2 i hi⟩
theorem cp_du_none {np : Nat} {Q : cp_PP} {v : Int32} (h : cp_du np Q v = none) : ∀ j, j < np → Q j 0 ≠ v := by
  unfold cp_du at h
  rw [List.find?_eq_none] at h
  intro j hj
  simpa using h j (List.mem_range.mpr hj)
theorem cp_cnt_eq {q q' : Nat → Bool} : ∀ {n : Nat}, (∀ j, j < n → q j = q' j) → cp_cnt q n = cp_cnt q' n
  | 0, _ => rfl
  | n + 1, h => by
    show cp_cnt q n + (if q n = true then 1 else 0) = cp_cnt q' n + (if q' n = true then 1 else 0)
    rw [cp_cnt_eq (fun j hj => h j (by omega)), h n (by omega)]
