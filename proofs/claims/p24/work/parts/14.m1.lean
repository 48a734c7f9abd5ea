def cp_ip (n : Nat) (v : Int32) : Bool := decide (0 ≤ v.toInt ∧ v.toInt < n)
theorem cp_ip_iff {n : Nat} {v : Int32} (hn : n < 2 ^ 31) : cp_ip n v = true ↔ ∃ p, p < n ∧ v = nI p := by
  unfold cp_ip
  rw [decide_eq_true_iff]
  constructor
  · rintro ⟨h1, h2⟩
    refine ⟨v.toInt.toNat, by omega, ?_⟩
    apply Int32.toInt_inj.mp
    rw [nI_toInt (by omega)]
    omega
  · rintro ⟨p, hp, rfl⟩
    rw [nI_toInt (by omega)]
    omega
def cp_qo (a : Nat → Int32) (p : Nat) : Int32 := if a (158 + 9 * p + 4) = 0 then a (158 + 9 * p) else if a (158 + 9 * p + 4) = 1 then 5 else -6
section CPA
variable {x : cp_Cx} {E : cp_En} {own : String} {bc : ByteArray} {nL d mc ms cells slots cnt : Nat} {sh : cp_Shp} {R : cp_Rem} {pc : Nat} {L : List (Option Value)} {st : List Value} {J : cp_Mem} {m : Nat} {f : Nat → Int32} {r : Nat → Nat → Int32} {a : Nat → Int32}
end CPA
def cp_cp420 (r : Nat → Nat → Int32) (i k c : Nat) : Nat → Nat → Int32 := fun q j => if q = k ∧ j < c then r i j else r q j
