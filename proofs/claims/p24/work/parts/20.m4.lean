/-- the plates of the model's row: Q j 0 its minute, Q j 1 whether it is a replate, Q j 2 its pieces; those ahead of the minute mi are made -/
def cp_MQ (a : Nat → Int32) (mi np : Nat) (Q : cp_PP) : Prop := np ≤ 8 ∧ a 6 = nI np ∧ (∀ j, j < np → (∃ t, t < 600 ∧ Q j 0 = nI t) ∧ a (374 + 4 * j) = Q j 0 ∧ a (374 + 4 * j + 1) = cp_bi (decide ((Q j 0).toInt < mi)) ∧ a (374 + 4 * j + 2) = Q j 1 ∧ a (374 + 4 * j + 3) = Q j 2) ∧ a 7 = nI (cp_cnt (fun j => decide ((Q j 0).toInt < mi)) np)
def cp_du (np : Nat) (Q : cp_PP) (v : Int32) : Option Nat := (List.range np).find? (fun j => decide (Q j 0 = v))
