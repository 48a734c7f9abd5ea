/-- is it a setting -/
def cp_iset (s v : Int32) : Bool := if s = 0 then cp_rg 1 20 v else if s = 1 then cp_rg 1 60 v else if s = 2 then cp_rg 10 400 v else if s = 3 then cp_rg 1 60 v else false
theorem cp_iset_o {s v : Int32} (h : s.toInt < 0 ∨ 3 < s.toInt) : cp_iset s v = false := by
  unfold cp_iset
  rw [if_neg (fun e => by subst e; rcases h with h | h <;> exact absurd h (by decide)), if_neg (fun e => by subst e; rcases h with h | h <;> exact absurd h (by decide)), if_neg (fun e => by subst e; rcases h with h | h <;> exact absurd h (by decide)), if_neg (fun e => by subst e; rcases h with h | h <;> exact absurd h (by decide))]
theorem cp_iset_p {s v : Int32} : ((s = 0 ∧ cp_rg 1 20 v = true) ∨ (s = 1 ∧ cp_rg 1 60 v = true) ∨ (s = 2 ∧ cp_rg 10 400 v = true) ∨ (s = 3 ∧ cp_rg 1 60 v = true)) ↔ cp_iset s v = true := by
  unfold cp_iset
  by_cases h0 : s = 0
  · subst h0; simp
  · by_cases h1 : s = 1
    · subst h1; simp
    · by_cases h2 : s = 2
      · subst h2; simp
      · by_cases h3 : s = 3
        · subst h3; simp
        · simp [h0, h1, h2, h3]
theorem cp_iset_t {N : cp_Nt} {s v : Int32} (h : cp_iset s v = true) : cp_sSet N s v = (cp_tS N s.toInt.toNat, (upd (cp_tS N) s.toInt.toNat v, N.2)) := by
  unfold cp_sSet
  rw [if_pos (cp_iset_p.mpr h)]
theorem cp_iset_f {N : cp_Nt} {s v : Int32} (h : cp_iset s v = false) : cp_sSet N s v = (-2, N) := by
  unfold cp_sSet
  rw [if_neg (fun z => by rw [cp_iset_p.mp z] at h; exact absurd h (by decide))]
theorem cp_iset_n {s v : Int32} (h : cp_iset s v = true) : ∃ k, k < 4 ∧ s = nI k := by
  rcases cp_iset_p.mpr h with ⟨h, _⟩ | ⟨h, _⟩ | ⟨h, _⟩ | ⟨h, _⟩
  · exact ⟨0, by omega, h⟩
  · exact ⟨1, by omega, h⟩
  · exact ⟨2, by omega, h⟩
  · exact ⟨3, by omega, h⟩
theorem cp_SV_n {S : Nat → Int32} (h : cp_SV S) {k : Nat} (hk : k < 4) : ∃ e, e ≤ 400 ∧ S k = nI e := by
  obtain ⟨⟨a, a1, a2, a3⟩, ⟨b, b1, b2, b3⟩, ⟨c, c1, c2, c3⟩, d, d1, d2, d3⟩ := h
  rcases (by omega : k = 0 ∨ k = 1 ∨ k = 2 ∨ k = 3) with rfl | rfl | rfl | rfl
  · exact ⟨a, by omega, a3⟩
  · exact ⟨b, by omega, b3⟩
  · exact ⟨c, by omega, c3⟩
  · exact ⟨d, by omega, d3⟩
theorem cp_nI_le0 {e : Nat} (h : e < 2 ^ 31) : (0 : Int32) ≤ nI e := by
  rw [Int32.le_iff_toInt_le, nI_toInt h]
  exact Int.natCast_nonneg _
