def cp_bit (s : Int32) (p : Nat) : Int32 := (s >>> (nI p &&& 31)) &&& 1
def cp_lin (P : cp_PP) (s : Int32) : Nat → Int32
  | 0 => 0
  | n + 1 => cp_lin P s n + cp_bit s n * P n 1
def cp_pw (Q : cp_PP) (p : Nat) : Nat → Int32
  | 0 => 0
  | n + 1 => cp_pw Q p n ||| (cp_bit (Q n 2) p <<< (nI n &&& 31))
/-- a piece's place in its queue -/
def cp_pl (N : cp_Nt) (p : Nat) : Int32 := if cp_tP N p 4 = 0 then nI ((cp_dq (cp_tn N) (cp_tP N) (cp_tP N p 0).toInt.toNat).idxOf p) else if cp_tP N p 4 = 1 then nI ((cp_tl N).idxOf p) else -6
def cp_sOfPiece (N : cp_Nt) (v w : Int32) : Int32 := if cp_ip (cp_tn N) v = true then (if cp_rg 0 7 w = true then cp_tP N v.toInt.toNat w.toInt.toNat else if w = 8 then cp_pl N v.toInt.toNat else if w = 9 then cp_tP N v.toInt.toNat 8 else if w = 10 then cp_pw (cp_tQ N) v.toInt.toNat (cp_tp N) else -2) else -1
def cp_madeN (N : cp_Nt) (j : Nat) : Int32 := cp_bi (decide ((cp_tQ N j 0).toInt < cp_tm N))
def cp_sOfPlate (N : cp_Nt) (v w : Int32) : Int32 := if cp_ip (cp_tp N) v = true then (if w = 0 then cp_tQ N v.toInt.toNat 0 else if w = 1 then cp_madeN N v.toInt.toNat else if w = 2 then cp_tQ N v.toInt.toNat 1 else if w = 3 then cp_tQ N v.toInt.toNat 2 else if w = 4 then cp_lin (cp_tP N) (cp_tQ N v.toInt.toNat 2) (cp_tn N) else -2) else -1
def cp_many (N : cp_Nt) (h : Int32) : Int32 := nI (cp_cnt (fun i => decide (cp_tP N i 4 = h)) (cp_tn N))
def cp_held (N : cp_Nt) : Int32 := nI (cp_cnt (fun i => decide (cp_tP N i 5 = 1) && decide (¬ cp_tP N i 4 = 3)) (cp_tn N))
def cp_reps (N : cp_Nt) : Int32 := nI (cp_cnt (fun j => decide (cp_tQ N j 1 = 1)) (cp_tp N))
def cp_sCount (N : cp_Nt) (pad his w : Int32) : Int32 := if w = 0 then nI (cp_tm N) else if w = 1 then nI (cp_tn N) else if w = 2 then nI (cp_tp N) else if w = 3 then nI (cp_mkN N) else if w = 4 then cp_many N 0 else if w = 5 then cp_many N 1 else if w = 6 then cp_many N 2 else if w = 7 then cp_many N 3 else if w = 8 then cp_held N else if w = 9 then cp_reps N else if w = 10 then cp_tS N 0 else if w = 11 then cp_tS N 1 else if w = 12 then cp_tS N 2 else if w = 13 then cp_tS N 3 else if w = 14 then pad else if w = 15 then his else -2
theorem cp_idx {l : List Nat} {p : Nat} (h : p ∈ l) : l.idxOf p < l.length ∧ l.getD (l.idxOf p) 0 = p := by
  have h1 := List.idxOf_lt_length_of_mem h
  exact ⟨h1, by rw [cp_gD h1]; exact List.getElem_idxOf h1⟩
theorem cp_rg_f {l h k : Nat} {v : Int32} (hv : v = nI k) (hk : k < 2 ^ 31) (hr : k < l ∨ h < k) : cp_rg l h v = false := by
  unfold cp_rg
  apply decide_eq_false
  rw [hv, nI_toInt hk]
  omega
theorem cp_rg_t {l h k : Nat} {v : Int32} (hv : v = nI k) (hk : k < 2 ^ 31) (h1 : l ≤ k) (h2 : k ≤ h) : cp_rg l h v = true := by
  unfold cp_rg
  apply decide_eq_true
  rw [hv, nI_toInt hk]
  omega
