theorem cp_pass_c {N : cp_Nt} {v : Int32} (hm : cp_tm N ≤ 600) (h1 : 1 ≤ v) (h2 : v ≤ 600 - nI (cp_tm N)) : ∃ c, v = nI c ∧ 1 ≤ c ∧ cp_tm N + c ≤ 600 := by
  have h3 : (600 : Int32) - nI (cp_tm N) = nI (600 - cp_tm N) := pk_sub (a := 600) hm
  rw [h3, Int32.le_iff_toInt_le, nI_toInt (by omega)] at h2
  rw [Int32.le_iff_toInt_le, show (1 : Int32).toInt = 1 from rfl] at h1
  refine ⟨v.toInt.toNat, ?_, by omega, by omega⟩
  apply Int32.toInt_inj.mp
  rw [nI_toInt (by omega)]
  omega
/-- hold -/
def cp_sHold (N : cp_Nt) (v : Int32) : Int32 × cp_Nt := if cp_ip (cp_tn N) v = true then (if cp_tP N v.toInt.toNat 4 = 3 then (-5, N) else (1 - cp_tP N v.toInt.toNat 5, (cp_tS N, cp_tm N, cp_tn N, cp_wi (cp_tP N) v.toInt.toNat 5 (1 - cp_tP N v.toInt.toNat 5), cp_tp N, cp_tQ N, cp_tl N))) else (-1, N)
theorem cp_nIt {p : Nat} (h : p < 2 ^ 31) : (nI p).toInt.toNat = p := by rw [nI_toInt h]; rfl
/-- piece -/
def cp_rg (l h : Int) (v : Int32) : Bool := decide (l ≤ v.toInt ∧ v.toInt ≤ h)
theorem cp_rg_nI {l h : Nat} {v : Int32} (hr : cp_rg l h v = true) : ∃ k, l ≤ k ∧ k ≤ h ∧ v = nI k := by
  unfold cp_rg at hr
  have h1 := of_decide_eq_true hr
  have h2 : v.toInt < 2 ^ 31 := Int32.toInt_lt v
  refine ⟨v.toInt.toNat, by omega, by omega, ?_⟩
  apply Int32.toInt_inj.mp
  rw [nI_toInt (by omega)]
  omega
def cp_np (d l r g : Int32) : Nat → Int32 := fun f => if f = 0 then d else if f = 1 then l else if f = 2 then r else if f = 3 then g else if f = 8 then -6 else 0
def cp_sPiece (N : cp_Nt) (d l r g : Int32) : Int32 × cp_Nt := if cp_rg 0 4 d = true then (if (cp_rg 1 99 l && cp_rg 0 9 r && cp_rg 0 1 g) = true then (if cp_tn N = 24 then (-4, N) else (nI (cp_tn N), (cp_tS N, cp_tm N, cp_tn N + 1, cp_row (cp_tP N) (cp_tn N) (cp_np d l r g), cp_tp N, cp_tQ N, cp_tl N))) else (-2, N)) else (-1, N)
