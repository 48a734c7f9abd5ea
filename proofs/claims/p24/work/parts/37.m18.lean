theorem cp_nle0 {k : Nat} (h : nI k ≤ 0) (hk : k < 2 ^ 31) : k = 0 := by
  have h2 : nI k ≤ nI 0 := h
  have := (nI_leI hk (by omega)).mp h2
  omega
