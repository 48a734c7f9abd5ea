theorem cp_sMin_0 {N : cp_Nt} (h : cp_du (cp_tp N) (cp_tQ N) (nI (cp_tm N)) = none) : cp_sMin N = (0, (cp_tS N, cp_tm N + 1, cp_tn N, (cp_wk (cp_tS N) (nI (cp_tm N)) (cp_tn N) (cp_tP N, cp_tl N)).1, cp_tp N, cp_tQ N, (cp_wk (cp_tS N) (nI (cp_tm N)) (cp_tn N) (cp_tP N, cp_tl N)).2)) := by
  unfold cp_sMin; rw [h]
theorem cp_sMin_1 {N : cp_Nt} {j : Nat} (h : cp_du (cp_tp N) (cp_tQ N) (nI (cp_tm N)) = some j) : cp_sMin N = (1, (cp_tS N, cp_tm N + 1, cp_tn N, (cp_wk (cp_tS N) (nI (cp_tm N)) (cp_tn N) (cp_tP N, cp_tl N)).1, cp_tp N, cp_wi (cp_tQ N) j 2 (cp_tk (cp_wk (cp_tS N) (nI (cp_tm N)) (cp_tn N) (cp_tP N, cp_tl N)).1 (cp_tS N 2) (cp_so (cp_tn N) (cp_wk (cp_tS N) (nI (cp_tm N)) (cp_tn N) (cp_tP N, cp_tl N)).1)).1, (cp_wk (cp_tS N) (nI (cp_tm N)) (cp_tn N) (cp_tP N, cp_tl N)).2)) := by
  unfold cp_sMin; rw [h]
theorem cp_QV_min {mi np : Nat} {Q : cp_PP} (h : cp_QV mi np Q) : cp_QV (mi + 1) np Q := ⟨h.1, fun j hj => ⟨(h.2 j hj).1, fun hn => (h.2 j hj).2 (by omega)⟩⟩
theorem cp_QV_set {mi np j : Nat} {Q : cp_PP} (h : cp_QV mi np Q) (hm : mi < 100000) (hj : Q j 0 = nI mi) (s : Int32) : cp_QV (mi + 1) np (cp_wi Q j 2 s) := by
  have h0 : ∀ i, cp_wi Q j 2 s i 0 = Q i 0 := fun i => cp_wi_j _ _ _ _ (fun z => absurd z.2 (by decide))
  refine ⟨fun i k hik hk => by rw [h0, h0]; exact h.1 i k hik hk, fun i hi => ⟨?_, fun hn => ?_⟩⟩
  · rw [cp_wi_j _ _ _ _ (fun z => absurd z.2 (by decide))]; exact (h.2 i hi).1
  · rw [h0] at hn
    have hne : i ≠ j := fun e => by
      rw [e, hj, nI_toInt (by omega)] at hn
      omega
    rw [cp_wi_j _ _ _ _ (fun z => hne z.1)]
    exact (h.2 i hi).2 (by omega)
theorem cp_NV_min {N : cp_Nt} (h : cp_NV N) (hm : cp_tm N ≤ 599) : cp_NV (cp_sMin N).2 := by
  obtain ⟨h1, h2, h3, h4, h5⟩ := h
  cases hd : cp_du (cp_tp N) (cp_tQ N) (nI (cp_tm N)) with
  | none =>
    rw [cp_sMin_0 hd]
    exact ⟨h1, by show cp_tm N + 1 ≤ 600; omega, cp_PV_wk h3, cp_PN_wk h4 h1 (by omega), cp_QV_min h5⟩
  | some j =>
    rw [cp_sMin_1 hd]
    exact ⟨h1, by show cp_tm N + 1 ≤ 600; omega, cp_PV_wk h3, cp_PN_wk h4 h1 (by omega), cp_QV_set h5 (by omega) (cp_du_some hd).2.1 _⟩
def cp_sMins : Nat → cp_Nt → Nat × cp_Nt
  | 0, N => (0, N)
  | k + 1, N => ((cp_sMins k N).1 + (if cp_du (cp_tp (cp_sMins k N).2) (cp_tQ (cp_sMins k N).2) (nI (cp_tm (cp_sMins k N).2)) = none then 0 else 1), (cp_sMin (cp_sMins k N).2).2)
theorem cp_sMin_m (N : cp_Nt) : cp_tm (cp_sMin N).2 = cp_tm N + 1 := by
  cases hd : cp_du (cp_tp N) (cp_tQ N) (nI (cp_tm N)) with
  | none => rw [cp_sMin_0 hd]
  | some j => rw [cp_sMin_1 hd]
theorem cp_sMins_m (N : cp_Nt) : ∀ k, cp_tm (cp_sMins k N).2 = cp_tm N + k
  | 0 => rfl
  | k + 1 => by
    show cp_tm (cp_sMin (cp_sMins k N).2).2 = _
    rw [cp_sMin_m, cp_sMins_m N k]; omega
theorem cp_sMins_V {N : cp_Nt} (h : cp_NV N) : ∀ k, cp_tm N + k ≤ 600 → cp_NV (cp_sMins k N).2
  | 0, _ => h
  | k + 1, hk => cp_NV_min (cp_sMins_V h k (by omega)) (by rw [cp_sMins_m]; omega)
/-- pass -/
def cp_sPass (N : cp_Nt) (v : Int32) : Int32 × cp_Nt := if v < 1 then (-2, N) else if nI 600 - nI (cp_tm N) < v then (-5, N) else (nI (cp_sMins v.toInt.toNat N).1, (cp_sMins v.toInt.toNat N).2)
