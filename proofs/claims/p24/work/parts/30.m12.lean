def cp_lst (tk : Int32) (l : List Nat) : Int32 := l.foldl (fun s q => if cp_bit tk q = 1 then nI q else s) (-6)
theorem cp_lst_s (tk : Int32) {l : List Nat} {k : Nat} (h : k < l.length) : cp_lst tk (l.take (k + 1)) = if cp_bit tk (l.getD k 0) = 1 then nI (l.getD k 0) else cp_lst tk (l.take k) := by
  unfold cp_lst
  rw [List.take_add_one, List.getElem?_eq_getElem h, Option.toList_some, List.foldl_append, cp_gD h]
  rfl
def cp_rsn (P : cp_PP) (tk : Int32) (p : Nat) : Int32 := if P p 4 = 3 then 1 else if P p 5 = 1 then 2 else if P p 4 = 0 then 3 else if P p 4 = 1 then 4 else if cp_bit tk p = 1 then 0 else 5
/-- the first one of the queue in which a piece is -/
def cp_hd (N : cp_Nt) (p : Nat) : Int32 := if cp_tP N p 4 = 0 then nI ((cp_dq (cp_tn N) (cp_tP N) (cp_tP N p 0).toInt.toNat).getD 0 0) else nI ((cp_tl N).getD 0 0)
def cp_now (N : cp_Nt) : Int32 × Int32 := cp_tk (cp_tP N) (cp_tS N 2) (cp_so (cp_tn N) (cp_tP N))
def cp_cau (N : cp_Nt) (p : Nat) : Int32 := if cp_rsn (cp_tP N) (cp_now N).1 p = 3 ∨ cp_rsn (cp_tP N) (cp_now N).1 p = 4 then cp_hd N p else if cp_rsn (cp_tP N) (cp_now N).1 p = 5 then cp_lst (cp_now N).1 ((cp_so (cp_tn N) (cp_tP N)).take ((cp_so (cp_tn N) (cp_tP N)).idxOf p)) else -6
def cp_sWhy (N : cp_Nt) (v w : Int32) : Int32 := if cp_ip (cp_tn N) v = true then (if w = 0 then cp_rsn (cp_tP N) (cp_now N).1 v.toInt.toNat else if w = 1 then cp_cau N v.toInt.toNat else -2) else -1
