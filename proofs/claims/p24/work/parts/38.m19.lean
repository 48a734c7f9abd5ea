theorem cp_bF {b : Bool} (h : b = false) : ¬ b = true := by rw [h]; decide
section CPP
variable {w : Nat → Nat} {len s : Nat}
end CPP
