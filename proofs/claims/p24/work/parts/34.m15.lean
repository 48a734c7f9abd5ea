theorem cp_chg_n {X : cp_St} {o : Int32 × cp_Nt} (h : o.1 < 0) : cp_chg X o = (o.1, X) := by unfold cp_chg; rw [if_pos h]
theorem cp_chg_p {X : cp_St} {o : Int32 × cp_Nt} (h : ¬ o.1 < 0) : cp_chg X o = (o.1, cp_psh X o.2) := by unfold cp_chg; rw [if_neg h]
theorem cp_chg_1 (X : cp_St) (o : Int32 × cp_Nt) : (cp_chg X o).1 = o.1 := by unfold cp_chg; split <;> rfl
