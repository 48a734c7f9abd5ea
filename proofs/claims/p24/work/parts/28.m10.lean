theorem cp_Fr_of {l : Launch} {E : cp_En} {y : MethodName} {bc : ByteArray} {nL : Nat} {ret : Option FieldType} {d : Nat} {as : List Value} {cnt : Nat} {sh : cp_Shp} {I : cp_Mem} {R : cp_Rem} {v : Option Value} {I' : cp_Mem} {T : cp_Mem → Prop} (h : cp_Fn l E y bc nL ret d as cnt sh I R v I') (hT : T I') : cp_Fr l E y bc nL ret d as cnt sh I R v T := by
  intro p e h1 h2 h3 s m args below h4 h5 h6 h7
  obtain ⟨k, o, g1, g2, g3, ⟨⟨u, c', s', I1, R', q1, ⟨q2, q3, q4, q5, q6⟩, q7⟩, q8⟩, q9⟩ := h p e h1 h2 h3 s m args below h4 h5 h6 h7
  exact ⟨k, o, g1, g2, g3, ⟨⟨u, c', s', I1, R', q1, ⟨q2, q3, q4, by rw [q5]; exact hT, q6⟩, q7⟩, q8⟩, q9⟩
def cp_ol (mk : Nat) (Q : cp_PP) (p : Nat) : Bool := decide (0 < mk) && decide ((Q (mk - 1) 2 >>> (nI p &&& 31)) &&& 1 = 1)
def cp_any (q : Nat → Bool) : Nat → Bool
  | 0 => false
  | n + 1 => cp_any q n || q n
def cp_mkN (N : cp_Nt) : Nat := cp_cnt (fun j => decide ((cp_tQ N j 0).toInt < cp_tm N)) (cp_tp N)
def cp_dsN (N : cp_Nt) (e : Nat) : Bool := cp_any (fun j => cp_rg (cp_tm N) ((cp_tm N + e : Nat) : Int) (cp_tQ N j 0)) (cp_tp N)
def cp_sK (N : cp_Nt) (p : Nat) : cp_Nt := (cp_tS N, cp_tm N, cp_tn N, cp_wi (cp_tP N) p 4 3, cp_tp N, cp_tQ N, (cp_tl N).erase p)
def cp_kc (N : cp_Nt) (p : Nat) : Bool := cp_ol (cp_mkN N) (cp_tQ N) p && !(cp_dsN N (cp_tS N 3).toInt.toNat) && decide (cp_tp N ≠ 8) && decide (nI (cp_tm N) + cp_tS N 3 ≤ 599)
def cp_sKill (N : cp_Nt) (v : Int32) : Int32 × cp_Nt := if cp_ip (cp_tn N) v = true then (if cp_tP N v.toInt.toNat 4 = 3 then (-5, N) else if cp_kc N v.toInt.toNat = true then (1, (cp_sTell (cp_sK N v.toInt.toNat) (nI (cp_tm N) + cp_tS N 3) 1).2) else (0, cp_sK N v.toInt.toNat)) else (-1, N)
theorem cp_NV_K {N : cp_Nt} (h : cp_NV N) {p : Nat} (hp : p < cp_tn N) : cp_NV (cp_sK N p) := by
  obtain ⟨h1, h2, h3, h4, h5⟩ := h
  refine ⟨h1, h2, ?_, cp_PN_wi h4 (Or.inl rfl), h5⟩
  show cp_PV (cp_tn N) (cp_wi (cp_tP N) p 4 3) ((cp_tl N).erase p)
  exact cp_PV_off h3 (Or.inr rfl)
