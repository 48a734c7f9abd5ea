/-! MEMORY: fields, arrays, tables -/
def cp_clf (ci : Nat) (C : String) (T : u_T) (N : Nat) (ty0 : Nat → FieldType) : Prop := vwCl[ci]? = some (C, T, N) ∧ (∀ w ∈ u_ws C T N, w ∈ cp_TG) ∧ (∀ k, k < N → parseFieldDescriptor (T k).2.2.1 = some (ty0 k)) ∧ (∀ a, a < N → ∀ b, b < N → a ≠ b → (T a).2.1 ≠ (T b).2.1) ∧ ci < 8 ∧ cp_nf ci = N
def cp_lk (own : String) (index : Nat) (T : u_T) (j : Nat) : Prop := Cond.fieldLink own index (T j).1 (T j).2.1 (T j).2.2.1 ∈ cp_TG
theorem cp_e_obj (cs : Nat → ClassId) (ci : Nat) (i : Nat → Int32) (r : Nat → Option Nat) (h : ci < 8) : cp_e cs (ci + 1, 0) i r = .inr (ci, cp_fs ci i r) := by
  unfold cp_e
  rw [if_pos (show (ci + 1, 0).1 ≤ 8 from h)]
  rfl
theorem cp_narb {v : Int32} (h : v = 0 ∨ v = 1) : narrow .boolean (.int v) = .int v ∧ fits .boolean (.int v) = true := by
  rcases h with rfl | rfl <;> exact ⟨rfl, rfl⟩
section CPM
variable {x : cp_Cx} {E : cp_En} {own : String} {bc : ByteArray} {nL d mc ms : Nat} {cells slots cnt : Nat} {sh : cp_Shp} {I : cp_Mem} {R : cp_Rem} {pc : Nat} {L : List (Option Value)} {st : List Value}
theorem cp_PW_in {H : Heap} (hW : cp_PW E cnt sh I R H) {a k n : Nat} (hs : sh a = (k + 1, n)) : cp_b0 E ≤ a ∧ a < cp_b0 E + cnt := (hW.1 a).mp (by rw [hs]; simp)
theorem cp_get (O : cp_Ok x E own bc nL d mc ms) {ci j index a : Nat} {C : String} {T : u_T} {N : Nat} {ty0 : Nat → FieldType} (hc : cp_clf ci C T N ty0) (hj : j < N) (hlk : cp_lk own index T j) (hs : sh a = (ci + 1, 0)) (hd : decode bc pc = .ok (.getfield index, 3))
    (k : cp_G x E nL cells slots cnt sh I R (pc + 3) L (cp_fv ci (I a) (R a) j :: st)) : cp_G x E nL cells slots cnt sh I R pc L (.ref a :: st) := by
  intro H locs ls hW hS hl
  obtain ⟨c1, c2, c3, c4, c5, c6⟩ := hc
  have ha := cp_PW_in hW hs
  have he := cp_WL_at E cnt sh I R ha
  rw [hs, cp_e_obj _ _ _ _ c5] at he
  exact va_get O.1 O.2.1 O.2.2.2.2.1 c2 O.2.2.2.1 O.2.2.2.2.2.1.1 hW.2.2 _ he c1 j hj (O.2.2.2.2.1 _ hlk) (fun _ h => h) (cp_fs_get ci _ _ (by rw [c6]; exact hj)) hd (k H locs ls hW hS hl)
theorem cp_getr (O : cp_Ok x E own bc nL d mc ms) {ci j index a y : Nat} {C : String} {T : u_T} {N : Nat} {ty0 : Nat → FieldType} (hc : cp_clf ci C T N ty0) (hj : j < N) (hlk : cp_lk own index T j) (hrf : cp_rf ci j = true) (hs : sh a = (ci + 1, 0)) (hr : R a j = some y) (hd : decode bc pc = .ok (.getfield index, 3))
    (k : cp_G x E nL cells slots cnt sh I R (pc + 3) L (.ref y :: st)) : cp_G x E nL cells slots cnt sh I R pc L (.ref a :: st) := by
  refine cp_get O hc hj hlk hs hd ?_
  rw [show cp_fv ci (I a) (R a) j = .ref y by unfold cp_fv; rw [if_pos hrf, hr]; rfl]
  exact k
/-- a number in a field -/
theorem cp_put (O : cp_Ok x E own bc nL d mc ms) {ci j index a : Nat} {v : Int32} {C : String} {T : u_T} {N : Nat} {ty0 : Nat → FieldType} (hc : cp_clf ci C T N ty0) (hj : j < N) (hlk : cp_lk own index T j) (hfin : (T j).2.2.2 = false) {ty : FieldType} (hd0 : parseFieldDescriptor (T j).2.2.1 = some ty) (hn : narrow ty (.int v) = .int v ∧ fits ty (.int v) = true) (hrf : cp_rf ci j = false) (hs : sh a = (ci + 1, 0)) (hd : decode bc pc = .ok (.putfield index, 3))
    (k : cp_G x E nL cells slots cnt sh (cp_wi I a j v) R (pc + 3) L st) : cp_G x E nL cells slots cnt sh I R pc L (.int v :: .ref a :: st) := by
  intro H locs ls hW hS hl
  obtain ⟨c1, c2, c3, c4, c5, c6⟩ := hc
  have ha := cp_PW_in hW hs
  have he := cp_WL_at E cnt sh I R ha
  rw [hs, cp_e_obj _ _ _ _ c5] at he
  have hK := O.2.2.2.2.2.1.1
  have hts := O.2.2.2.2.1
  have hD := cp_WL_D E cnt sh I R
  have hap := va_apart (own := own) hts c2 ty0 c3 c4 hK c1
  obtain ⟨r, h1, cell, q1, q2, q3, q4⟩ := hW.2.2 _ _ he
  have hr : r = (C, T, N) := Option.some.inj (h1.symm.trans c1)
  subst hr
  obtain ⟨hSl, hfc, kC, hkC, hkind⟩ := hK.1 ci _ c1
  obtain ⟨cf, kf, fi, f, hi, hsl⟩ := hSl j hj
  have hlay := hts _ (c2 _ (u_in_lay hj))
  unfold u_lay at hlay
  rw [if_neg (by rw [hfin]; decide)] at hlay
  have hst := (u_facts hfc hkC (u_lays hts c2 hj) hi).1
  have h6 := u_store hfc hkC hkind hlay hi hd0 hn.1 hn.2
  refine W.putK O.1 O.2.1 (f := f) ⟨O.2.2.2.1, O.2.2.2.2.1 _ hlk, ⟨_, _, _, hi⟩, hst⟩ (by rw [q2]; exact h6) q1 q3 (by rw [hsl]; exact k2_hasslot (q4 j hj)) rfl rfl hd fun H' e1 e2 e3 => ?_
  rw [hsl] at e1 ⊢
  have hlen : j < (cp_fs ci (I a) (R a)).length := by rw [cp_fs_len, c6]; exact hj
  have hP := hW.2.2.set (H1 := H') (e := .inr (ci, (cp_fs ci (I a) (R a)).set j (.int v))) hD he ⟨_, c1, t_OB.to (V := updV (vp_V (cp_fs ci (I a) (R a))) j (.int v)) ⟨_, e1, q2, q3, t_set q4 hap hj (.int v)⟩ (fun i _ => vp_updV_set hlen (.int v) i)⟩ e3
  rw [cp_WL_set (I' := cp_wi I a j v) (R' := R) ha (by
    rw [hs, cp_e_obj _ _ _ _ c5, cp_fs_set ci (i' := cp_wi I a j v a) (r' := R a) (by unfold cp_fv; rw [if_neg (by rw [hrf]; decide), cp_wi_s]) (fun q hq => by unfold cp_fv; simp [cp_wi, hq])]) (fun q hq => ⟨cp_wi_a I a j v hq, rfl⟩)] at hP
  exact k H' _ ls ⟨hW.1, by rw [e2]; exact hW.2.1, hP⟩ (hS.put e2 e3 ha.1) hl
/-- arrays of numbers -/
theorem cp_e_int (cs : Nat → ClassId) (n : Nat) (i : Nat → Int32) (r : Nat → Option Nat) : cp_e cs (9, n) i r = .inl (cs 9, n, .inl i) := by
  simp [cp_e]
theorem cp_e_chr (cs : Nat → ClassId) (n : Nat) (i : Nat → Int32) (r : Nat → Option Nat) : cp_e cs (10, n) i r = .inl (cs 10, n, .inl i) := by
  simp [cp_e]
theorem cp_e_ref (cs : Nat → ClassId) (k n : Nat) (i : Nat → Int32) (r : Nat → Option Nat) (h : 10 < k) : cp_e cs (k, n) i r = .inl (cs k, n, .inr (.inr (.inr (.inr r)))) := by
  simp [cp_e, show ¬ k ≤ 8 by omega, show ¬ k ≤ 10 by omega]
theorem cp_iald (O : cp_Ok x E own bc nL d mc ms) {a n j : Nat} {i : Int32} (hs : sh a = (9, n)) (hi : i = nI j) (hj : j < n) (hn : n < 2 ^ 31) (hd : decode bc pc = .ok (.iaload, 1))
    (k : cp_G x E nL cells slots cnt sh I R (pc + 1) L (.int (I a j) :: st)) : cp_G x E nL cells slots cnt sh I R pc L (.int i :: .ref a :: st) := by
  intro H locs ls hW hS hl
  have ha := cp_PW_in hW hs
  have he := cp_WL_at E cnt sh I R ha
  rw [hs, cp_e_int] at he
  subst hi
  refine va_iald O.1 O.2.1 O.2.2.2.2.2.1.1 hW.2.2 _ 0 he rfl (vp_in_nI hj hn) hd ?_
  rw [nI_clamp (Nat.lt_trans hj hn)]
  exact k H locs ls hW hS hl
theorem cp_cald (O : cp_Ok x E own bc nL d mc ms) {a n j : Nat} {i : Int32} (hs : sh a = (10, n)) (hi : i = nI j) (hj : j < n) (hn : n < 2 ^ 31) (hd : decode bc pc = .ok (.caload, 1))
    (k : cp_G x E nL cells slots cnt sh I R (pc + 1) L (.int (I a j) :: st)) : cp_G x E nL cells slots cnt sh I R pc L (.int i :: .ref a :: st) := by
  intro H locs ls hW hS hl
  have ha := cp_PW_in hW hs
  have he := cp_WL_at E cnt sh I R ha
  rw [hs, cp_e_chr] at he
  subst hi
  refine va_cald O.1 O.2.1 O.2.2.2.2.2.1.1 hW.2.2 _ 1 he rfl (vp_in_nI hj hn) hd ?_
  rw [nI_clamp (Nat.lt_trans hj hn)]
  exact k H locs ls hW hS hl
theorem cp_refT {E : cp_En} {k : Nat} {C : String} (hk : (k = 11 ∧ C = "CopyPlates$Night") ∨ (k = 12 ∧ C = "CopyPlates$Piece") ∨ (k = 13 ∧ C = "CopyPlates$Plate")) : (cp_ty E)[k - 9]? = some (cp_cs E k, .object C) := by
  rcases hk with ⟨rfl, rfl⟩ | ⟨rfl, rfl⟩ | ⟨rfl, rfl⟩ <;> rfl
theorem cp_aald (O : cp_Ok x E own bc nL d mc ms) {a k n j : Nat} {i : Int32} {C : String} (hk : (k = 11 ∧ C = "CopyPlates$Night") ∨ (k = 12 ∧ C = "CopyPlates$Piece") ∨ (k = 13 ∧ C = "CopyPlates$Plate")) (hs : sh a = (k, n)) (hi : i = nI j) (hj : j < n) (hn : n < 2 ^ 31) (hd : decode bc pc = .ok (.aaload, 1))
    (kk : cp_G x E nL cells slots cnt sh I R (pc + 1) L (va_rf (R a j) :: st)) : cp_G x E nL cells slots cnt sh I R pc L (.int i :: .ref a :: st) := by
  intro H locs ls hW hS hl
  have h10 : 10 < k := by omega
  have ha := (hW.1 a).mp (by rw [hs]; show k ≠ 0; omega)
  have he := cp_WL_at E cnt sh I R ha
  rw [hs, cp_e_ref _ _ _ _ _ h10] at he
  subst hi
  refine va_aldq O.1 O.2.1 O.2.2.2.2.2.1.1 hW.2.2 _ (k - 9) he (cp_refT hk) (vp_in_nI hj hn) hd ?_
  rw [nI_clamp (Nat.lt_trans hj hn)]
  exact kk H locs ls hW hS hl
theorem cp_aaldr (O : cp_Ok x E own bc nL d mc ms) {a k n j y : Nat} {i : Int32} {C : String} (hk : (k = 11 ∧ C = "CopyPlates$Night") ∨ (k = 12 ∧ C = "CopyPlates$Piece") ∨ (k = 13 ∧ C = "CopyPlates$Plate")) (hs : sh a = (k, n)) (hi : i = nI j) (hj : j < n) (hn : n < 2 ^ 31) (hr : R a j = some y) (hd : decode bc pc = .ok (.aaload, 1))
    (kk : cp_G x E nL cells slots cnt sh I R (pc + 1) L (.ref y :: st)) : cp_G x E nL cells slots cnt sh I R pc L (.int i :: .ref a :: st) := by
  refine cp_aald O hk hs hi hj hn hd ?_
  rw [hr]
  exact kk
theorem cp_iast (O : cp_Ok x E own bc nL d mc ms) {a n j : Nat} {i v : Int32} (hs : sh a = (9, n)) (hi : i = nI j) (hj : j < n) (hn : n < 2 ^ 31) (hd : decode bc pc = .ok (.iastore, 1))
    (k : cp_G x E nL cells slots cnt sh (cp_wi I a j v) R (pc + 1) L st) : cp_G x E nL cells slots cnt sh I R pc L (.int v :: .int i :: .ref a :: st) := by
  intro H locs ls hW hS hl
  have ha := cp_PW_in hW hs
  have he := cp_WL_at E cnt sh I R ha
  rw [hs, cp_e_int] at he
  subst hi
  refine W.iast O.1 O.2.1 (hW.2.2 _ _ he) ((O.2.2.2.2.2.1.1.2 0 _ rfl).1 n (fun q => .int (I a q))) (fun q => by cases q) (by show ¬ (nI j < 0 ∨ (arrV _ _ _).slots.size ≤ _); rw [arrV_size]; exact vp_in_nI hj hn) rfl rfl hd fun H1 e z oq => ?_
  have hc : (nI j).toNatClampNeg = j := nI_clamp (Nat.lt_trans hj hn)
  have hP := hW.2.2.set (e := .inl (cp_cs E 9, n, .inl (cp_wi I a j v a))) (cp_WL_D E cnt sh I R) he (by
    show H1[a]? = some (vp_cell _ _)
    rw [e, vp_cell_i, vp_cell_i, arrV_store]
    congr 2
    funext q
    rw [hc]
    by_cases hq : q = j
    · subst hq; simp [updV, cp_wi]
    · simp [updV, cp_wi, hq]) oq
  rw [cp_WL_set (I' := cp_wi I a j v) (R' := R) ha (by rw [hs, cp_e_int]) (fun q hq => ⟨cp_wi_a I a j v hq, rfl⟩)] at hP
  exact k H1 _ ls ⟨hW.1, by rw [z]; exact hW.2.1, hP⟩ (hS.put z oq ha.1) hl
theorem cp_cast (O : cp_Ok x E own bc nL d mc ms) {a n j q0 : Nat} {i v : Int32} (hs : sh a = (10, n)) (hi : i = nI j) (hj : j < n) (hn : n < 2 ^ 31) (hv : v = nI q0) (hq0 : q0 < 65536) (hd : decode bc pc = .ok (.castore, 1))
    (k : cp_G x E nL cells slots cnt sh (cp_wi I a j v) R (pc + 1) L st) : cp_G x E nL cells slots cnt sh I R pc L (.int v :: .int i :: .ref a :: st) := by
  intro H locs ls hW hS hl
  have ha := cp_PW_in hW hs
  have he := cp_WL_at E cnt sh I R ha
  rw [hs, cp_e_chr] at he
  subst hi
  refine W.cast O.1 O.2.1 (hW.2.2 _ _ he) ((O.2.2.2.2.2.1.1.2 1 _ rfl).1 n (fun q => .int (I a q))) (fun q => by cases q) (by show ¬ (nI j < 0 ∨ (arrV _ _ _).slots.size ≤ _); rw [arrV_size]; exact vp_in_nI hj hn) rfl rfl hd fun H1 e z oq => ?_
  have hc : (nI j).toNatClampNeg = j := nI_clamp (Nat.lt_trans hj hn)
  have hP := hW.2.2.set (e := .inl (cp_cs E 10, n, .inl (cp_wi I a j v a))) (cp_WL_D E cnt sh I R) he (by
    show H1[a]? = some (vp_cell _ _)
    rw [e, hv, (pk_charN hq0).1, vp_cell_i, vp_cell_i, arrV_store]
    congr 2
    funext q
    rw [hc]
    by_cases hq : q = j
    · subst hq; simp [updV, cp_wi]
    · simp [updV, cp_wi, hq]) oq
  rw [cp_WL_set (I' := cp_wi I a j v) (R' := R) ha (by rw [hs, cp_e_chr]) (fun q hq => ⟨cp_wi_a I a j v hq, rfl⟩)] at hP
  exact k H1 _ ls ⟨hW.1, by rw [z]; exact hW.2.1, hP⟩ (hS.put z oq ha.1) hl
/-- the tables of numbers that nobody writes -/
theorem cp_gets (O : cp_Ok x E own bc nL d mc ms) {q index : Nat} (hq : q < 3) (hlk : Cond.fieldLink own index "CopyPlates" (cp_sn q) "[I" ∈ cp_TG) (hd : decode bc pc = .ok (.getstatic index, 3))
    (k : cp_G x E nL cells slots cnt sh I R (pc + 3) L (.ref (cp_ts E q) :: st)) : cp_G x E nL cells slots cnt sh I R pc L st := fun H locs ls hW hS hl =>
  va_gets O.1 O.2.1 (O.2.2.2.2.2.2.1.1 q hq).1 hS O.2.2.2.1 (O.2.2.2.2.1 _ hlk) (fun _ h => h) hd (k H locs ls hW hS hl)
theorem cp_getsN (O : cp_Ok x E own bc nL d mc ms) {q index : Nat} (hq : q < 3) (hlk : (own, index, cp_sn q) ∈ cp_nF) (hd : decode bc pc = .ok (.getstatic index, 3))
    (k : cp_G x E nL cells slots cnt sh I R (pc + 3) L (.ref (cp_ts E q) :: st)) : cp_G x E nL cells slots cnt sh I R pc L st := fun H locs ls hW hS hl =>
  va_getsN O.1 O.2.1 (O.2.2.2.2.2.2.1.1 q hq).1 hS O.2.2.2.1 (va_Nw.use rfl (O.2.2.2.2.2.1.2.1 _ hlk)) (fun _ h => h) hd (k H locs ls hW hS hl)
theorem cp_tald (O : cp_Ok x E own bc nL d mc ms) {q j : Nat} {i : Int32} (hq : q < 3) (hi : i = nI j) (hj : j < 4) (hd : decode bc pc = .ok (.iaload, 1))
    (k : cp_G x E nL cells slots cnt sh I R (pc + 1) L (.int (cp_sv q j) :: st)) : cp_G x E nL cells slots cnt sh I R pc L (.int i :: .ref (cp_ts E q) :: st) := fun H locs ls hW hS hl => by
  subst hi
  refine va_ti O.1 O.2.1 (O.2.2.2.2.2.2.1.1 q hq).2 hS (vp_in_nI hj (by decide)) (v := .int (cp_sv q j)) (by rw [nI_clamp (by omega)]) hd (k H locs ls hW hS hl)
end CPM

