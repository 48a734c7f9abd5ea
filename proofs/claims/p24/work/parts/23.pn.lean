/-! numbers stay as they may be; the whole night -/
theorem cp_PN_wi {n : Nat} {P : cp_PP} (h : cp_PN n P) {i f : Nat} {v : Int32} (hf : f = 4 ∨ f = 7 ∨ f = 9 ∨ (f = 8 ∧ (v = -6 ∨ ∃ t, t < 100000 ∧ v = nI t)) ∨ (f = 5 ∧ (v = 0 ∨ v = 1)) ∨ (f = 6 ∧ ∀ k, P i 1 = nI k → k < 100 → ∃ e, e ≤ k ∧ v = nI e)) : cp_PN n (cp_wi P i f v) := by
  intro j hj
  obtain ⟨⟨k, k1, k2, k3, e, e1, e2⟩, h2, h3, h5, h8⟩ := h j hj
  have hn : ∀ g, ¬ (j = i ∧ g = f) → cp_wi P i f v j g = P j g := fun g hg => cp_wi_j _ _ _ _ hg
  refine ⟨⟨k, k1, k2, ?_, ?_⟩, ?_, ?_, ?_, ?_⟩
  · rw [hn 1 (by omega)]; exact k3
  · by_cases hc : j = i ∧ 6 = f
    · obtain ⟨rfl, rfl⟩ := hc
      rw [cp_wi_s]
      rcases hf with hf | hf | hf | hf | hf | hf
      · omega
      · omega
      · omega
      · omega
      · omega
      · exact hf.2 k k3 k2
    · rw [hn 6 hc]; exact ⟨e, e1, e2⟩
  · rw [hn 2 (by omega)]; exact h2
  · rw [hn 3 (by omega)]; exact h3
  · by_cases hc : j = i ∧ 5 = f
    · obtain ⟨rfl, rfl⟩ := hc
      rw [cp_wi_s]
      rcases hf with hf | hf | hf | hf | hf | hf
      · omega
      · omega
      · omega
      · omega
      · exact hf.2
      · omega
    · rw [hn 5 hc]; exact h5
  · by_cases hc : j = i ∧ 8 = f
    · obtain ⟨rfl, rfl⟩ := hc
      rw [cp_wi_s]
      rcases hf with hf | hf | hf | hf | hf | hf
      · omega
      · omega
      · omega
      · exact hf.2
      · omega
      · omega
    · rw [hn 8 hc]; exact h8
def cp_SV (S : Nat → Int32) : Prop := (∃ e, 1 ≤ e ∧ e ≤ 20 ∧ S 0 = nI e) ∧ (∃ e, 1 ≤ e ∧ e ≤ 60 ∧ S 1 = nI e) ∧ (∃ e, 10 ≤ e ∧ e ≤ 400 ∧ S 2 = nI e) ∧ ∃ e, 1 ≤ e ∧ e ≤ 60 ∧ S 3 = nI e
theorem cp_PN_ed {n : Nat} {P : cp_PP} {lq : List Nat} {S : Nat → Int32} {t d : Nat} (h : cp_PN n P) (hS : cp_SV S) (ht : t < 100000) : cp_PN n (cp_ed S (nI t) n d (P, lq)).1 := by
  cases hdq : cp_dq n P d with
  | nil => rw [cp_ed_nil hdq]; exact h
  | cons i tl =>
    have hi := cp_ed_hd hdq
    rw [cp_ed_cons hdq]
    obtain ⟨e0, he0, he1, he⟩ := hS.1
    obtain ⟨k0, k1, k2, k3, e4, e5, e6⟩ := (h i hi.1).1
    have h6 : cp_PN n (cp_wi P i 6 (P i 1)) := cp_PN_wi h (Or.inr (Or.inr (Or.inr (Or.inr (Or.inr ⟨rfl, fun k hk _ => ⟨k, Nat.le_refl _, hk⟩⟩)))))
    split
    · rename_i hlt
      refine cp_PN_wi h (Or.inr (Or.inr (Or.inr (Or.inr (Or.inr ⟨rfl, fun k hk hk2 => ⟨e4 + e0, ?_, ?_⟩⟩)))))
      · rw [e6, he, nI_add, hk, nI_ltI (by omega) (by omega)] at hlt
        omega
      · rw [e6, he, nI_add]
    · split
      · exact cp_PN_wi h6 (Or.inl rfl)
      · exact cp_PN_wi (cp_PN_wi h6 (Or.inl rfl)) (Or.inr (Or.inr (Or.inr (Or.inl ⟨rfl, Or.inr ⟨t, ht, rfl⟩⟩))))
theorem cp_PN_rd {n : Nat} {P : cp_PP} {lq : List Nat} {S : Nat → Int32} {t : Nat} (h : cp_PN n P) (ht : t < 100000) : cp_PN n (cp_rd S (nI t) (P, lq)).1 := by
  cases lq with
  | nil => exact h
  | cons i tl =>
    rw [cp_rd_cons]
    split
    · exact cp_PN_wi (cp_PN_wi (cp_PN_wi h (Or.inr (Or.inl rfl))) (Or.inl rfl)) (Or.inr (Or.inr (Or.inr (Or.inl ⟨rfl, Or.inr ⟨t, ht, rfl⟩⟩))))
    · exact cp_PN_wi h (Or.inr (Or.inl rfl))
theorem cp_PN_eds {n : Nat} {P : cp_PP} {lq : List Nat} {S : Nat → Int32} {t : Nat} (h : cp_PN n P) (hS : cp_SV S) (ht : t < 100000) : ∀ d, cp_PN n (cp_eds S (nI t) n d (P, lq)).1
  | 0 => h
  | d + 1 => cp_PN_ed (d := d) (lq := (cp_eds S (nI t) n d (P, lq)).2) (cp_PN_eds h hS ht d) hS ht
theorem cp_PN_wk {n : Nat} {P : cp_PP} {lq : List Nat} {S : Nat → Int32} {t : Nat} (h : cp_PN n P) (hS : cp_SV S) (ht : t < 100000) : cp_PN n (cp_wk S (nI t) n (P, lq)).1 := cp_PN_rd (lq := (cp_eds S (nI t) n 5 (P, lq)).2) (cp_PN_eds h hS ht 5) ht
/-- a night: settings, minute, pieces (how many, their fields), plates (how many, minute, replate, set), the lawyer's queue -/
abbrev cp_Nt : Type := (Nat → Int32) × Nat × Nat × cp_PP × Nat × cp_PP × List Nat
abbrev cp_tS (N : cp_Nt) : Nat → Int32 := N.1
abbrev cp_tm (N : cp_Nt) : Nat := N.2.1
abbrev cp_tn (N : cp_Nt) : Nat := N.2.2.1
abbrev cp_tP (N : cp_Nt) : cp_PP := N.2.2.2.1
abbrev cp_tp (N : cp_Nt) : Nat := N.2.2.2.2.1
abbrev cp_tQ (N : cp_Nt) : cp_PP := N.2.2.2.2.2.1
abbrev cp_tl (N : cp_Nt) : List Nat := N.2.2.2.2.2.2
/-- what the model's row holds -/
def cp_MA (a : Nat → Int32) (N : cp_Nt) : Prop := (∀ k, k < 4 → a k = cp_tS N k) ∧ a 4 = nI (cp_tm N) ∧ a 5 = nI (cp_tn N) ∧ cp_MW a (cp_tn N) (cp_tP N) (cp_LL (cp_tn N) (cp_tP N) (cp_tl N)) ∧ cp_MQ a (cp_tm N) (cp_tp N) (cp_tQ N)
/-- plates: by their minutes; those that aren't made are empty -/
def cp_QV (mi np : Nat) (Q : cp_PP) : Prop := (∀ i j, i < j → j < np → (Q i 0).toInt < (Q j 0).toInt) ∧ ∀ j, j < np → (Q j 1 = 0 ∨ Q j 1 = 1) ∧ (¬ (Q j 0).toInt < mi → Q j 2 = 0)
def cp_NV (N : cp_Nt) : Prop := cp_SV (cp_tS N) ∧ cp_tm N ≤ 600 ∧ cp_PV (cp_tn N) (cp_tP N) (cp_tl N) ∧ cp_PN (cp_tn N) (cp_tP N) ∧ cp_QV (cp_tm N) (cp_tp N) (cp_tQ N)
/-- taking: the model's two fields -/
def cp_tf (f : Nat → Int32) (s : Int32 × Int32) : Nat → Int32 := upd (upd f 7 s.1) 8 s.2
theorem cp_tf_7 (f : Nat → Int32) (s : Int32 × Int32) : cp_tf f s 7 = s.1 := by simp [cp_tf, upd]
theorem cp_tf_8 (f : Nat → Int32) (s : Int32 × Int32) : cp_tf f s 8 = s.2 := by simp [cp_tf, upd]
theorem cp_tf_o (f : Nat → Int32) (s : Int32 × Int32) {k : Nat} (h7 : k ≠ 7) (h8 : k ≠ 8) : cp_tf f s k = f k := by simp [cp_tf, upd, h7, h8]
theorem cp_tf_2 (f : Nat → Int32) (s : Int32 × Int32) (x y : Int32) : upd (upd (cp_tf f s) 7 x) 8 y = cp_tf f (x, y) := by
  funext k
  unfold cp_tf upd
  by_cases h8 : k = 8
  · simp [h8]
  · by_cases h7 : k = 7
    · simp [h7]
    · simp [h8, h7]
theorem cp_so_v {n : Nat} {P : cp_PP} {k : Nat} (h : k < (cp_so n P).length) : cp_o2i ((cp_so n P)[k]?) = nI ((cp_so n P).getD k 0) := by
  rw [List.getElem?_eq_getElem h, cp_gD h]; rfl
theorem cp_so_6 {n : Nat} {P : cp_PP} {k : Nat} (hn : n ≤ 24) : cp_o2i ((cp_so n P)[k]?) = -6 ↔ (cp_so n P).length ≤ k := by
  constructor
  · intro h
    rcases Nat.lt_or_ge k (cp_so n P).length with h1 | h1
    · rw [cp_so_v h1] at h
      have h2 := (cp_so_mem.mp (cp_getD_in h1)).1
      exact absurd h (cp_nm6 (by omega))
    · exact h1
  · intro h
    rw [List.getElem?_eq_none h]; rfl

