theorem cp_nn00 {k : Nat} (h : k < 2 ^ 31) : ¬ nI k < 0 := nI_pos h
theorem cp_oi_i : Cond.instanceMethod Lib.objectInit ∈ cp_TG := cp_TG_in (i := 40) (by decide +kernel) (by decide +kernel)
theorem cp_oi_c : Cond.code Lib.objectInit ⟨#[0xb1]⟩ 1 none ∈ cp_TG := cp_TG_in (i := 41) (by decide +kernel) (by decide +kernel)
theorem cp_cl_l : Cond.methodLink RX1 13 ⟨"[I", "clone", "()Ljava/lang/Object;"⟩ ∈ cp_TG := cp_TG_in (i := 50) (by decide +kernel) (by decide +kernel)
theorem cp_cl_s : Cond.sameMethod "[I" "java/lang/Object" "clone" "()Ljava/lang/Object;" ∈ cp_TG := cp_TG_in (i := 51) (by decide +kernel) (by decide +kernel)
theorem cp_cl_n : Cond.native ⟨"java/lang/Object", "clone", "()Ljava/lang/Object;"⟩ ∈ cp_TG := cp_TG_in (i := 52) (by decide +kernel) (by decide +kernel)
theorem cp_cl_i : Cond.instanceMethod ⟨"java/lang/Object", "clone", "()Ljava/lang/Object;"⟩ ∈ cp_TG := cp_TG_in (i := 53) (by decide +kernel) (by decide +kernel)
theorem cp_cl_e : Cond.selects "[I" ⟨"[I", "clone", "()Ljava/lang/Object;"⟩ ⟨"java/lang/Object", "clone", "()Ljava/lang/Object;"⟩ ∈ cp_TG := cp_TG_in (i := 54) (by decide +kernel) (by decide +kernel)
theorem cp_ca_l : Cond.classLink RX1 14 "[I" ∈ cp_TG := cp_TG_in (i := 56) (by decide +kernel) (by decide +kernel)
theorem cp_ac_9 : Cond.arrayClass .int ∈ cp_TG := cp_TG_in (i := 105) (by decide +kernel) (by decide +kernel)
theorem cp_ac_10 : Cond.arrayClass .char ∈ cp_TG := cp_TG_in (i := 179) (by decide +kernel) (by decide +kernel)
/-! MAKING: new objects and arrays come behind all cells; where nothing lies yet numbers are 0 and references null -/
def cp_sN (sh : cp_Shp) (a : Nat) (k : Nat × Nat) : cp_Shp := fun x => if x = a then k else sh x
theorem cp_sN_s {sh : cp_Shp} {a : Nat} {k : Nat × Nat} : cp_sN sh a k a = k := by simp [cp_sN]
theorem cp_sN_n {sh : cp_Shp} {a x : Nat} {k : Nat × Nat} (h : x ≠ a) : cp_sN sh a k x = sh x := by simp [cp_sN, h]
section CPMK
variable {x : cp_Cx} {E : cp_En} {own : String} {bc : ByteArray} {nL d mc ms : Nat} {cells slots cnt : Nat} {sh : cp_Shp} {I : cp_Mem} {R : cp_Rem} {pc : Nat} {L : List (Option Value)} {st : List Value}
theorem cp_PW_push {H H1 : Heap} {k : Nat × Nat} (hW : cp_PW E cnt sh I R H) (hk : k.1 ≠ 0) (z1 : H1.size = H.size + 1) (o1 : ∀ q : Nat, q < H.size → H1[q]? = H[q]?) (hat : va_at (cp_D E) vwCl (cp_b0 E + cnt, cp_e (cp_cs E) k (I (cp_b0 E + cnt)) (R (cp_b0 E + cnt))) H1) : cp_PW E (cnt + 1) (cp_sN sh (cp_b0 E + cnt) k) I R H1 := by
  refine ⟨fun a => ?_, by rw [z1, hW.2.1]; omega, fun q p hq => ?_⟩
  · by_cases e : a = cp_b0 E + cnt
    · subst e
      rw [cp_sN_s]
      exact ⟨fun _ => by omega, fun _ => hk⟩
    · rw [cp_sN_n e, hW.1 a]
      omega
  · have hl := (List.getElem?_eq_some_iff.mp hq).1
    rw [cp_WL_len] at hl
    rw [cp_WL_get E (cnt + 1) _ I R hl] at hq
    cases hq
    by_cases e : q = cnt
    · subst e
      rw [cp_sN_s]
      exact hat
    · rw [cp_sN_n (by omega)]
      exact (hW.2.2 q _ (cp_WL_get E cnt sh I R (show q < cnt by omega))).kept (o1 _ (by rw [hW.2.1]; show cp_b0 E + q < _; omega))
theorem cp_S_push {H H1 : Heap} {locs : List Loc} (hS : va_S (cp_A E) (cp_xs x).heap H locs) (z1 : H1.size = H.size + 1) (o1 : ∀ q : Nat, q < H.size → H1[q]? = H[q]?) : va_S (cp_A E) (cp_xs x).heap H1 locs :=
  ⟨Nat.le_trans hS.1 (by omega), fun q h1 h2 => (o1 q (Nat.lt_of_lt_of_le h1 hS.1)).trans (hS.2.1 q h1 h2), hS.2.2⟩
theorem cp_new (O : cp_Ok x E own bc nL d mc ms) {ci index : Nat} {C : String} {T : u_T} {N : Nat} {ty0 : Nat → FieldType} (hc : cp_clf ci C T N ty0) (hcl : Cond.classLink own index C ∈ cp_TG) (hins : Cond.instantiable C N ∈ cp_TG) (hini : Cond.initialized C ∈ cp_TG) (hdf : ∀ j, j < N → defaultValue (ty0 j) = cp_fv ci (fun _ => 0) (fun _ => none) j) (hI : I (cp_b0 E + cnt) = fun _ => 0) (hR : R (cp_b0 E + cnt) = fun _ => none) (hcs : cells + 1 ≤ mc ∧ slots + N ≤ ms) (hd : decode bc pc = .ok (.new index, 3))
    (k : cp_G x E nL (cells + 1) (slots + N) (cnt + 1) (cp_sN sh (cp_b0 E + cnt) (ci + 1, 0)) I R (pc + 3) L (.ref (cp_b0 E + cnt) :: st)) : cp_G x E nL cells slots cnt sh I R pc L st := by
  intro H locs ls hW hS hl
  obtain ⟨c1, c2, c3, c4, c5, c6⟩ := hc
  have hKn := O.2.2.2.2.2.1.1.1 ci _ c1
  refine W.newcK O.1 O.2.1 O.2.2.2.1 (O.2.2.2.2.1 _ hcl) (O.2.2.2.2.1 _ hins) (O.2.2.2.2.1 _ hini) rfl hd (Nat.le_trans hcs.1 O.2.2.2.2.2.2.2.2.2.2.1) (Nat.le_trans hcs.2 O.2.2.2.2.2.2.2.2.2.2.2) hKn.2.1 hW.2.1 fun H1 kC hkC e1 z1 o1 => ?_
  have z2 : H1.size = H.size + 1 := by rw [z1, hW.2.1]
  have o2 : ∀ q : Nat, q < H.size → H1[q]? = H[q]? := fun q hq => o1 q (by rw [← hW.2.1]; exact hq)
  have hat : va_at (cp_D E) vwCl (cp_b0 E + cnt, cp_e (cp_cs E) (ci + 1, 0) (I (cp_b0 E + cnt)) (R (cp_b0 E + cnt))) H1 := by
    rw [cp_e_obj _ _ _ _ c5]
    refine ⟨_, c1, (u_born ty0 O.2.2.2.2.1 c2 hKn hkC e1 c3).to (fun j hj => ?_)⟩
    have h1 := cp_fs_get ci (I (cp_b0 E + cnt)) (R (cp_b0 E + cnt)) (show j < cp_nf ci by rw [c6]; exact hj)
    rw [hdf j hj, ← hI, ← hR]
    unfold vp_V
    rw [List.getD_eq_getElem?_getD, h1]
    rfl
  exact k H1 locs ls (cp_PW_push hW (Nat.succ_ne_zero _) z2 o2 hat) (cp_S_push hS z2 o2) hl
theorem cp_newi (O : cp_Ok x E own bc nL d mc ms) {n : Nat} {v : Int32} (harr : Cond.arrayClass .int ∈ cp_TG) (hv : v = nI n) (hn : n < 100000) (hI : I (cp_b0 E + cnt) = fun _ => 0) (hcs : cells + 1 ≤ mc ∧ slots + n ≤ ms) (hd : decode bc pc = .ok (.newarray .int, 2))
    (k : cp_G x E nL (cells + 1) (slots + n) (cnt + 1) (cp_sN sh (cp_b0 E + cnt) (9, n)) I R (pc + 2) L (.ref (cp_b0 E + cnt) :: st)) : cp_G x E nL cells slots cnt sh I R pc L (.int v :: st) := by
  intro H locs ls hW hS hl
  subst hv
  refine va_newaK O.1 O.2.1 (atype := .int) (O.2.2.2.2.1 _ harr) rfl hd rfl (cp_nn00 (by omega)) (nI_clamp (by omega)) (by show n * 4 ≤ 536870912; omega) (Nat.le_trans hcs.1 O.2.2.2.2.2.2.2.2.2.2.1) (Nat.le_trans hcs.2 O.2.2.2.2.2.2.2.2.2.2.2) hW.2.1 fun H1 cA e1 z1 o1 hAr hNm => ?_
  have z2 : H1.size = H.size + 1 := by rw [z1, hW.2.1]
  have o2 : ∀ q : Nat, q < H.size → H1[q]? = H[q]? := fun q hq => o1 q (by rw [← hW.2.1]; exact hq)
  have hcA : cp_cs E 9 = cA := Option.some.inj (((O.2.2.2.2.2.1.1.2 0 _ rfl).2).symm.trans hNm)
  subst hcA
  refine k H1 locs ls (cp_PW_push hW (Nat.succ_ne_zero 8) z2 o2 ?_) (cp_S_push hS z2 o2) hl
  rw [cp_e_int, hI]
  exact e1
theorem cp_newc (O : cp_Ok x E own bc nL d mc ms) {n : Nat} {v : Int32} (harr : Cond.arrayClass .char ∈ cp_TG) (hv : v = nI n) (hn : n < 100000) (hI : I (cp_b0 E + cnt) = fun _ => 0) (hcs : cells + 1 ≤ mc ∧ slots + n ≤ ms) (hd : decode bc pc = .ok (.newarray .char, 2))
    (k : cp_G x E nL (cells + 1) (slots + n) (cnt + 1) (cp_sN sh (cp_b0 E + cnt) (10, n)) I R (pc + 2) L (.ref (cp_b0 E + cnt) :: st)) : cp_G x E nL cells slots cnt sh I R pc L (.int v :: st) := by
  intro H locs ls hW hS hl
  subst hv
  refine va_newaK O.1 O.2.1 (atype := .char) (O.2.2.2.2.1 _ harr) rfl hd rfl (cp_nn00 (by omega)) (nI_clamp (by omega)) (by show n * 2 ≤ 536870912; omega) (Nat.le_trans hcs.1 O.2.2.2.2.2.2.2.2.2.2.1) (Nat.le_trans hcs.2 O.2.2.2.2.2.2.2.2.2.2.2) hW.2.1 fun H1 cA e1 z1 o1 hAr hNm => ?_
  have z2 : H1.size = H.size + 1 := by rw [z1, hW.2.1]
  have o2 : ∀ q : Nat, q < H.size → H1[q]? = H[q]? := fun q hq => o1 q (by rw [← hW.2.1]; exact hq)
  have hcA : cp_cs E 10 = cA := Option.some.inj (((O.2.2.2.2.2.1.1.2 1 _ rfl).2).symm.trans hNm)
  subst hcA
  refine k H1 locs ls (cp_PW_push hW (Nat.succ_ne_zero 9) z2 o2 ?_) (cp_S_push hS z2 o2) hl
  rw [cp_e_chr, hI]
  exact e1
theorem cp_newr (O : cp_Ok x E own bc nL d mc ms) {q n index : Nat} {v : Int32} {C : String} (hk : (q = 11 ∧ C = "CopyPlates$Night") ∨ (q = 12 ∧ C = "CopyPlates$Piece") ∨ (q = 13 ∧ C = "CopyPlates$Plate")) (hcl : Cond.classLink own index C ∈ cp_TG) (hAO : va_AO C (cp_xs x)) (hv : v = nI n) (hn : n < 100000) (hR : R (cp_b0 E + cnt) = fun _ => none) (hcs : cells + 1 ≤ mc ∧ slots + n ≤ ms) (hd : decode bc pc = .ok (.anewarray index, 3))
    (k : cp_G x E nL (cells + 1) (slots + n) (cnt + 1) (cp_sN sh (cp_b0 E + cnt) (q, n)) I R (pc + 3) L (.ref (cp_b0 E + cnt) :: st)) : cp_G x E nL cells slots cnt sh I R pc L (.int v :: st) := by
  intro H locs ls hW hS hl
  subst hv
  have hcl0 : (nI n).toNatClampNeg = n := nI_clamp (by omega)
  refine W.anew O.1 O.2.1 O.2.2.2.1 (O.2.2.2.2.1 _ hcl) (va_AO.use hAO) rfl hd rfl (cp_nn00 (by omega)) (by rw [hcl0]; omega) (Nat.le_trans hcs.1 O.2.2.2.2.2.2.2.2.2.2.1) (by rw [hcl0]; exact Nat.le_trans hcs.2 O.2.2.2.2.2.2.2.2.2.2.2) fun cA kA comp f1 f2 f3 f4 => ?_
  rw [hcl0]
  generalize hH1 : H.push ({ cls := cA, slots := Array.replicate n .null, vm := .none } : Cell) = H1
  have z2 : H1.size = H.size + 1 := by rw [← hH1, Array.size_push]
  have e1 : H1[H.size]? = some (arrV cA n (fun _ => .null)) := by rw [← hH1, Array.getElem?_push_size, ← arrV_new]
  have o2 : ∀ q : Nat, q < H.size → H1[q]? = H[q]? := fun q hq => by rw [← hH1, Array.getElem?_push, if_neg (Nat.ne_of_lt hq)]
  have hcA : cp_cs E q = cA := by
    obtain ⟨-, -, -, -, -, f5⟩ := (O.2.2.2.2.2.1.1.2 (q - 9) _ (cp_refT hk)).2
    exact Option.some.inj (f5.symm.trans f1)
  subst hcA
  rw [hW.2.1] at e1 ⊢
  refine k H1 locs ls (cp_PW_push hW (by show q ≠ 0; omega) z2 o2 ?_) (cp_S_push hS z2 o2) hl
  rw [cp_e_ref _ _ _ _ _ (show 10 < q by omega), hR]
  exact e1
/-- a reference into a row -/
theorem cp_aast (O : cp_Ok x E own bc nL d mc ms) {a q n j v : Nat} {i : Int32} {ci : Nat} {C : String} {T : u_T} {N : Nat} {ty0 : Nat → FieldType} (hk : (q = 11 ∧ C = "CopyPlates$Night") ∨ (q = 12 ∧ C = "CopyPlates$Piece") ∨ (q = 13 ∧ C = "CopyPlates$Plate")) (hc : cp_clf ci C T N ty0) (hs : sh a = (q, n)) (hv : sh v = (ci + 1, 0)) (hi : i = nI j) (hj : j < n) (hn : n < 2 ^ 31) (hd : decode bc pc = .ok (.aastore, 1))
    (k : cp_G x E nL cells slots cnt sh I (cp_wr R a j (some v)) (pc + 1) L st) : cp_G x E nL cells slots cnt sh I R pc L (.ref v :: .int i :: .ref a :: st) := by
  intro H locs ls hW hS hl
  obtain ⟨c1, c2, c3, c4, c5, c6⟩ := hc
  have h10 : 10 < q := by omega
  have ha := (hW.1 a).mp (by rw [hs]; show q ≠ 0; omega)
  have hva := cp_PW_in hW hv
  have he := cp_WL_at E cnt sh I R ha
  have hve := cp_WL_at E cnt sh I R hva
  rw [hs, cp_e_ref _ _ _ _ _ h10] at he
  rw [hv, cp_e_obj _ _ _ _ c5] at hve
  subst hi
  have hK := O.2.2.2.2.2.1.1
  obtain ⟨r', hr', cellV, g1, g2, g3, -⟩ := hW.2.2 _ _ hve
  have hr' : r' = (C, T, N) := Option.some.inj (hr'.symm.trans c1)
  subst hr'
  have hcls := (hK.1 ci _ c1).2
  obtain ⟨kA, comp, k1, k2, k3, -⟩ := (hK.2 (q - 9) _ (cp_refT hk)).2
  have hcomp : comp = (cp_D E).1 ci := Option.some.inj (k3.symm.trans hcls.1)
  subst hcomp
  obtain ⟨kC, hkC, -⟩ := hcls.2
  have hc0 : (nI j).toNatClampNeg = j := nI_clamp (Nat.lt_trans hj hn)
  refine W.aast O.1 O.2.1 (hW.2.2 _ _ he) (fun q h => by cases h) (fun h => by cases h) k1 k2 rfl hkC ⟨cp_nn00 (Nat.lt_trans hj hn), by rw [hc0]; show _ < (arrV _ _ _).slots.size; rw [arrV_size]; exact hj⟩ g1 (fun q h => by rw [g3] at h; cases h) (by rw [g2]; exact hkC) (by rw [g2]; exact va_assign hcls) rfl rfl hd fun H1 e z oq => ?_
  have hP := hW.2.2.set (H1 := H1) (e := .inl (cp_cs E q, n, .inr (.inr (.inr (.inr (cp_wr R a j (some v) a)))))) (cp_WL_D E cnt sh I R) he (by
    show H1[a]? = some (vp_cell _ _)
    rw [e, vp_cell_q, vp_cell_q, arrV_store]
    congr 2
    funext p
    rw [hc0]
    by_cases hp : p = j
    · subst hp; simp [updV, cp_wr, va_rf]
    · simp [updV, cp_wr, hp]) oq
  rw [cp_WL_set (I' := I) (R' := cp_wr R a j (some v)) ha (by rw [hs, cp_e_ref _ _ _ _ _ h10]) (fun p hp => ⟨rfl, cp_wr_a R a j _ hp⟩)] at hP
  exact k H1 _ ls ⟨hW.1, by rw [z]; exact hW.2.1, hP⟩ (hS.put z oq ha.1) hl
/-- a reference into a final field, in a constructor -/
theorem cp_putF (O : cp_Ok x E own bc nL d mc ms) (hin : (cp_xk x).name = "<init>") {ci j index a y : Nat} {T : u_T} {N : Nat} {ty0 : Nat → FieldType} (hc : cp_clf ci own T N ty0) (hj : j < N) (hlk : cp_lk own index T j) (hfin : (T j).2.2.2 = true) (hdecl : (T j).1 = own) {ty : FieldType} (hd0 : parseFieldDescriptor (T j).2.2.1 = some ty) (hn : narrow ty (.ref y) = .ref y ∧ fits ty (.ref y) = true) (hrf : cp_rf ci j = true) (hs : sh a = (ci + 1, 0)) (hd : decode bc pc = .ok (.putfield index, 3))
    (k : cp_G x E nL cells slots cnt sh I (cp_wr R a j (some y)) (pc + 3) L st) : cp_G x E nL cells slots cnt sh I R pc L (.ref y :: .ref a :: st) := by
  intro H locs ls hW hS hl
  obtain ⟨c1, c2, c3, c4, c5, c6⟩ := hc
  have ha := cp_PW_in hW hs
  have he := cp_WL_at E cnt sh I R ha
  rw [hs, cp_e_obj _ _ _ _ c5] at he
  have hK := O.2.2.2.2.2.1.1
  have hts := O.2.2.2.2.1
  have hown := O.2.2.2.1
  have hD := cp_WL_D E cnt sh I R
  have hap := va_apart (own := own) hts c2 ty0 c3 c4 hK c1
  obtain ⟨r, h1, cell, q1, q2, q3, q4⟩ := hW.2.2 _ _ he
  have hr : r = (own, T, N) := Option.some.inj (h1.symm.trans c1)
  subst hr
  obtain ⟨hSl, hfc, kC, hkC, hkind⟩ := hK.1 ci _ c1
  obtain ⟨cf, kf, fi, f, hi, hsl⟩ := hSl j hj
  have hlay := hts _ (c2 _ (u_in_lay hj))
  unfold u_lay at hlay
  rw [if_pos hfin] at hlay
  have hst := (u_facts hfc hkC (u_lays hts c2 hj) hi).1
  have hcf : (cp_xm x).cls = cf := by
    obtain ⟨_, _, c', _, _, _, -, -, hf', -, -, -, hown2, -⟩ := Cond.laysFinal_spec hlay
    have e1 : c' = cf := by have := hi.symm.trans hf'; simp at this; exact this.1.symm
    rw [hdecl] at hown2
    rw [← e1]; exact Option.some.inj (hown.symm.trans hown2)
  have h6 := u_fits hfc hkC hkind (Or.inr hlay) hi hd0 hn.1 hn.2
  refine W.putFinK O.1 O.2.1 hown (hts _ hlk) hi hst hcf hin (by rw [q2]; exact h6) q1 q3 (by rw [hsl]; exact k2_hasslot (q4 j hj)) rfl rfl hd fun H' e1 e2 e3 => ?_
  rw [hsl] at e1 ⊢
  have hlen : j < (cp_fs ci (I a) (R a)).length := by rw [cp_fs_len, c6]; exact hj
  have hP := hW.2.2.set (H1 := H') (e := .inr (ci, (cp_fs ci (I a) (R a)).set j (.ref y))) hD he ⟨_, c1, t_OB.to (V := updV (vp_V (cp_fs ci (I a) (R a))) j (.ref y)) ⟨_, e1, q2, q3, t_set q4 hap hj (.ref y)⟩ (fun i _ => vp_updV_set hlen (.ref y) i)⟩ e3
  rw [cp_WL_set (I' := I) (R' := cp_wr R a j (some y)) ha (by
    rw [hs, cp_e_obj _ _ _ _ c5, cp_fs_set ci (i' := I a) (r' := cp_wr R a j (some y) a) (by unfold cp_fv; rw [if_pos hrf]; simp [cp_wr, va_rf]) (fun q hq => by unfold cp_fv; simp [cp_wr, hq])]) (fun q hq => ⟨rfl, cp_wr_a R a j _ hq⟩)] at hP
  exact k H' _ ls ⟨hW.1, by rw [e2]; exact hW.2.1, hP⟩ (hS.put e2 e3 ha.1) hl
theorem cp_oinit (O : cp_Ok x E own bc nL d mc ms) (hd1 : 1 ≤ d) {index a : Nat} (hlk : Cond.methodLink own index Lib.objectInit ∈ cp_TG) (hrest : (st.map fun v => v.category).sum ≤ 8) (hd : decode bc pc = .ok (.invokespecial index, 3)) (k : cp_G x E nL cells slots cnt sh I R (pc + 3) L st) : cp_G x E nL cells slots cnt sh I R pc L (.ref a :: st) := fun H locs ls hW hS hl =>
  W.objInit O.1 O.2.1 O.2.2.2.1 (O.2.2.2.2.1 _ hlk) (O.2.2.2.2.1 _ cp_oi_i) (O.2.2.2.2.1 _ cp_oi_c) rfl (by rw [O.2.2.1]; exact hl.1) rfl hd (Nat.le_trans hd1 O.2.2.2.2.2.2.2.2.1) (Nat.le_trans (show _ ≤ 44 by show 2 * 0 + _ + 12 ≤ 44; omega) (Nat.le_trans (show 44 ≤ 12 + 32 * d by omega) O.2.2.2.2.2.2.2.2.2.1)) (k H locs ls hW hS hl)
/-- the first table, again -/
theorem cp_clone (O : cp_Ok x E RX1 bc nL d mc ms) (hd1 : 1 ≤ d) (hI : I (cp_b0 E + cnt) = fun j => if j < 4 then cp_sv 0 j else 0) (hrest : (st.map fun v => v.category).sum ≤ 8) (hcs : cells + 1 ≤ mc ∧ slots + 4 ≤ ms) (hd : decode bc pc = .ok (.invokevirtual 13, 3))
    (k : cp_G x E nL (cells + 1) (slots + 4) (cnt + 1) (cp_sN sh (cp_b0 E + cnt) (9, 4)) I R (pc + 3) L (.ref (cp_b0 E + cnt) :: st)) : cp_G x E nL cells slots cnt sh I R pc L (.ref (cp_ts E 0) :: st) := by
  intro H locs ls hW hS hl
  obtain ⟨hZ, hF, -⟩ := O.2.2.2.2.2.2.1
  obtain ⟨cell, f1, f2, f3⟩ := hF
  obtain ⟨cell', t1, t2, t3, t4, t5, t6, t7⟩ := (hZ 0 (by decide)).2
  have hcc : cell = cell' := Option.some.inj (f1.symm.trans t1)
  subst hcc
  have hlt : cp_ts E 0 < (cp_xs x).heap.size := (Array.getElem?_eq_some_iff.mp f1).1
  have hcH : H[cp_ts E 0]? = some cell := (hS.2.1 _ hlt t7).trans f1
  have hK := O.2.2.2.2.2.1.1
  have hnm : (cp_xs x).vm.findClass "[I" = some cell.cls := by
    rw [f3]
    exact (hK.2 0 _ rfl).2
  have hcast := O.2.2.2.2.2.1.2.2.2.1
  obtain ⟨c0, t0', g1, g2, g3⟩ := Cond.castable_spec (va_Nw.use (A := cp_xa x) rfl hcast)
  have hc0 : cell.cls = c0 := Option.some.inj (hnm.symm.trans g1)
  subst hc0
  intro T hT X
  obtain ⟨-, kS, hkS, compS, hkindS⟩ := id t2
  obtain ⟨-, kA, hkA, comp, hkind⟩ := State.isArrayOf_alike X.warmed.alike t2
  obtain ⟨vm', X', step⟩ := X.cloneArray O.1 O.2.2.2.1 (O.2.2.2.2.1 _ cp_cl_l) (O.2.2.2.2.1 _ cp_cl_s) (O.2.2.2.2.1 _ cp_cl_n) (O.2.2.2.2.1 _ cp_cl_i) (O.2.2.2.2.1 _ cp_cl_e) (a := cp_ts E 0) (cell := cell) (by rw [hT]; exact hcH) t2.1 t3 hnm g2 g3
    (fun i v hv => by
      have hk' : T.vm.classes[cell.cls]? = some kA := hkA
      have hi : i < 4 := by rw [← f2]; exact (Array.getElem?_eq_some_iff.mp hv).1
      have hvv : (Value.int (cp_sv 0 i)) = v := Option.some.inj ((t6 i hi).symm.trans hv)
      rw [← hvv]
      simp [State.fitsSlot, State.slotType?, hk', hkind, fits])
    (g := F0 (cp_xm x) pc ls (.ref (cp_ts E 0) :: st)) rfl (by rw [O.2.2.1]; exact hl.1) rfl (by rw [O.2.1]; exact hd) (Nat.le_trans hd1 O.2.2.2.2.2.2.2.2.1) (Nat.le_trans (show _ ≤ 44 by show 2 * 0 + _ + 14 ≤ 44; omega) (Nat.le_trans (show 44 ≤ 12 + 32 * d by omega) O.2.2.2.2.2.2.2.2.2.1)) (Nat.le_trans hcs.1 O.2.2.2.2.2.2.2.2.2.2.1) (by rw [f2]; exact Nat.le_trans hcs.2 O.2.2.2.2.2.2.2.2.2.2.2) (hloader := Vm.clonesLoader_of_array hkS hkindS)
  have ecell : ({ cls := cell.cls, slots := cell.slots } : Cell) = arrV (cp_cs E 9) 4 (fun j => .int (cp_sv 0 j)) := by
    rw [f3]
    unfold arrV
    congr 1
    apply Array.ext
    · rw [f2]; simp
    · intro i h1 h2
      have hi : i < 4 := by rw [← f2]; exact h1
      have h3 := t6 i hi
      rw [Array.getElem?_eq_getElem h1] at h3
      rw [Option.some.inj h3]
      simp
  rw [ecell, f2] at X'
  rw [ecell] at step
  generalize hH1 : H.push (arrV (cp_cs E 9) 4 (fun j => .int (cp_sv 0 j))) = H1
  have z2 : H1.size = H.size + 1 := by rw [← hH1, Array.size_push]
  have e1 : H1[H.size]? = some (arrV (cp_cs E 9) 4 (fun j => .int (cp_sv 0 j))) := by rw [← hH1, Array.getElem?_push_size]
  have o2 : ∀ q : Nat, q < H.size → H1[q]? = H[q]? := fun q hq => by rw [← hH1, Array.getElem?_push, if_neg (Nat.ne_of_lt hq)]
  rw [hW.2.1] at e1
  have hat : va_at (cp_D E) vwCl (cp_b0 E + cnt, cp_e (cp_cs E) (9, 4) (I (cp_b0 E + cnt)) (R (cp_b0 E + cnt))) H1 := by
    rw [cp_e_int]
    show H1[cp_b0 E + cnt]? = some (vp_cell _ _)
    rw [e1, vp_cell_i]
    unfold arrV
    congr 2
    apply Array.ext
    · simp
    · intro i h1 h2
      have hi : i < 4 := by simpa using h1
      simp [hI, hi]
  obtain ⟨t, b1, b2⟩ := k H1 locs ls (cp_PW_push hW (by decide) z2 o2 hat) (cp_S_push hS z2 o2) hl ((T.setVm vm').pushCell (arrV (cp_cs E 9) 4 (fun j => .int (cp_sv 0 j)))) (by rw [← hH1, ← hT]; rfl) X'
  refine ⟨t, step t ?_, b2⟩
  rw [hT, hW.2.1]
  exact b1
theorem cp_castI (O : cp_Ok x E RX1 bc nL d mc ms) {a n : Nat} (hs : sh a = (9, n)) (hd : decode bc pc = .ok (.checkcast 14, 3)) (k : cp_G x E nL cells slots cnt sh I R (pc + 3) L (.ref a :: st)) : cp_G x E nL cells slots cnt sh I R pc L (.ref a :: st) := by
  intro H locs ls hW hS hl
  have ha := cp_PW_in hW hs
  have he := cp_WL_at E cnt sh I R ha
  rw [hs, cp_e_int] at he
  exact va_castA O.1 O.2.1 O.2.2.2.1 (O.2.2.2.2.1 _ cp_ca_l) hW.2.2 _ he ((O.2.2.2.2.2.1.1.2 0 _ rfl).2) hd (k H locs ls hW hS hl)
end CPMK
section CPMC
variable {x : cp_Cx} {E : cp_En} {own : String} {bc : ByteArray} {nL d mc ms : Nat} {cells slots cnt : Nat} {sh : cp_Shp} {I : cp_Mem} {R : cp_Rem} {pc : Nat} {L : List (Option Value)} {st stk rest As : List Value} {y : MethodName} {cb : ByteArray} {nLc n index dc mcc msc b : Nat} {ret : Option FieldType} {Post : Option Value → Nat → cp_Shp → cp_Mem → cp_Rem → Prop}
theorem cp_callI (O : cp_Ok x E own bc nL d mc ms) (hM : cp_me y cb nLc none n) (hy1 : y.name = "<init>") (hIM : Cond.instanceMethod y ∈ cp_TG) (hlk : Cond.methodLink own index y ∈ cp_TG)
    (hC : cp_Ct (cp_xl x) E y cb nLc none dc mcc msc (.ref b :: As) cnt sh I R Post) (hd : decode bc pc = .ok (.invokespecial index, 3)) (hn : As.length = n) (hst : stk = As.reverse ++ .ref b :: rest) (hr : cp_rl d nLc dc) (hcs : cells + mcc ≤ mc ∧ slots + msc ≤ ms) (hrest : (rest.map fun v => v.category).sum ≤ 8)
    (k : ∀ v cnt' sh' I' R', Post v cnt' sh' I' R' → cp_G x E nL (cells + mcc) (slots + msc) cnt' sh' I' R' (pc + 3) L (v.toList ++ rest)) : cp_G x E nL cells slots cnt sh I R pc L stk := by
  intro H locs ls hW hS hl
  subst hst
  exact cp_after O (a := (Value.ref b :: As).toArray) hW hS hl (va_runI (As := As) (rest := rest) ⟨O.1, O.2.1, O.2.2.1, O.2.2.2.1, O.2.2.2.2.1⟩ hC (cwI n O.2.2.2.2.1 (cp_goodIn hM.1) rfl rfl rfl (O.2.2.2.2.1 _ hM.2.1) (O.2.2.2.2.1 _ hlk) (O.2.2.2.2.1 _ hIM) hy1 ⟨hM.2.2.1, hM.2.2.2.1, hM.2.2.2.2⟩ (cp_room O hr)) ⟨cp_blind, cp_pre O hW hS⟩ rfl hn hl.1 rfl (lv_room hrest) hd ⟨Nat.le_trans hcs.1 O.2.2.2.2.2.2.2.2.2.2.1, Nat.le_trans hcs.2 O.2.2.2.2.2.2.2.2.2.2.2⟩) k
theorem cp_callIN (O : cp_Ok x E own bc nL d mc ms) (hM : cp_me y cb nLc none n) (hy1 : y.name = "<init>") (hIM : Cond.instanceMethod y ∈ cp_TG) (hlk : (own, index, y) ∈ cp_nM)
    (hC : cp_Ct (cp_xl x) E y cb nLc none dc mcc msc (.ref b :: As) cnt sh I R Post) (hd : decode bc pc = .ok (.invokespecial index, 3)) (hn : As.length = n) (hst : stk = As.reverse ++ .ref b :: rest) (hr : cp_rl d nLc dc) (hcs : cells + mcc ≤ mc ∧ slots + msc ≤ ms) (hrest : (rest.map fun v => v.category).sum ≤ 8)
    (k : ∀ v cnt' sh' I' R', Post v cnt' sh' I' R' → cp_G x E nL (cells + mcc) (slots + msc) cnt' sh' I' R' (pc + 3) L (v.toList ++ rest)) : cp_G x E nL cells slots cnt sh I R pc L stk := by
  intro H locs ls hW hS hl
  subst hst
  exact cp_after O (a := (Value.ref b :: As).toArray) hW hS hl (va_runIN (As := As) (rest := rest) ⟨O.1, O.2.1, O.2.2.1, O.2.2.2.1, O.2.2.2.2.1⟩ hC ⟨va_cnB n O.2.2.2.2.1 (cp_goodIn hM.1) rfl rfl rfl (O.2.2.2.2.2.1.2.2.1 _ hlk) (O.2.2.2.2.1 _ hM.2.1) ⟨hM.2.2.1, hM.2.2.2.1, hM.2.2.2.2⟩ (cp_room O hr), hy1, O.2.2.2.2.1 _ hIM⟩ ⟨cp_blind, cp_pre O hW hS⟩ rfl hn hl.1 rfl (lv_room hrest) hd ⟨Nat.le_trans hcs.1 O.2.2.2.2.2.2.2.2.2.2.1, Nat.le_trans hcs.2 O.2.2.2.2.2.2.2.2.2.2.2⟩) k
end CPMC
theorem cn_X6_7 : Cond.classLink RX6 7 RX1 ∈ cp_TG := cp_TG_in (i := 42) (by decide +kernel) (by decide +kernel)
theorem cn_X1_27 : Cond.classLink RX1 27 RX4 ∈ cp_TG := cp_TG_in (i := 57) (by decide +kernel) (by decide +kernel)
theorem cn_X1_37 : Cond.classLink RX1 37 RX5 ∈ cp_TG := cp_TG_in (i := 106) (by decide +kernel) (by decide +kernel)
theorem cn_X6_19 : Cond.classLink RX6 19 RX0 ∈ cp_TG := cp_TG_in (i := 145) (by decide +kernel) (by decide +kernel)
theorem cn_X0_9 : Cond.classLink RX0 9 RX1 ∈ cp_TG := cp_TG_in (i := 151) (by decide +kernel) (by decide +kernel)
theorem cn_X6_30 : Cond.classLink RX6 30 RX3 ∈ cp_TG := cp_TG_in (i := 165) (by decide +kernel) (by decide +kernel)
theorem cn_X6_37 : Cond.classLink RX6 37 RX2 ∈ cp_TG := cp_TG_in (i := 180) (by decide +kernel) (by decide +kernel)
theorem ci_X6 : Cond.instantiable RX6 6 ∈ cp_TG := cp_TG_in (i := 35) (by decide +kernel) (by decide +kernel)
theorem cj_X6 : Cond.initialized RX6 ∈ cp_TG := cp_TG_in (i := 25) (by decide +kernel) (by decide +kernel)
theorem cd_X6 : ∀ j, j < 6 → defaultValue (tyX6 j) = cp_fv 6 (fun _ => 0) (fun _ => none) j := by decide +kernel
theorem ci_X1 : Cond.instantiable RX1 6 ∈ cp_TG := cp_TG_in (i := 43) (by decide +kernel) (by decide +kernel)
theorem cj_X1 : Cond.initialized RX1 ∈ cp_TG := cp_TG_in (i := 26) (by decide +kernel) (by decide +kernel)
theorem cd_X1 : ∀ j, j < 6 → defaultValue (tyX1 j) = cp_fv 1 (fun _ => 0) (fun _ => none) j := by decide +kernel
theorem ci_X4 : Cond.instantiable RX4 10 ∈ cp_TG := cp_TG_in (i := 59) (by decide +kernel) (by decide +kernel)
theorem cj_X4 : Cond.initialized RX4 ∈ cp_TG := cp_TG_in (i := 27) (by decide +kernel) (by decide +kernel)
theorem cd_X4 : ∀ j, j < 10 → defaultValue (tyX4 j) = cp_fv 4 (fun _ => 0) (fun _ => none) j := by decide +kernel
theorem ci_X5 : Cond.instantiable RX5 3 ∈ cp_TG := cp_TG_in (i := 108) (by decide +kernel) (by decide +kernel)
theorem cj_X5 : Cond.initialized RX5 ∈ cp_TG := cp_TG_in (i := 28) (by decide +kernel) (by decide +kernel)
theorem cd_X5 : ∀ j, j < 3 → defaultValue (tyX5 j) = cp_fv 5 (fun _ => 0) (fun _ => none) j := by decide +kernel
theorem ci_X0 : Cond.instantiable RX0 3 ∈ cp_TG := cp_TG_in (i := 146) (by decide +kernel) (by decide +kernel)
theorem cj_X0 : Cond.initialized RX0 ∈ cp_TG := cp_TG_in (i := 29) (by decide +kernel) (by decide +kernel)
theorem cd_X0 : ∀ j, j < 3 → defaultValue (tyX0 j) = cp_fv 0 (fun _ => 0) (fun _ => none) j := by decide +kernel
theorem ci_X3 : Cond.instantiable RX3 2 ∈ cp_TG := cp_TG_in (i := 166) (by decide +kernel) (by decide +kernel)
theorem cj_X3 : Cond.initialized RX3 ∈ cp_TG := cp_TG_in (i := 30) (by decide +kernel) (by decide +kernel)
theorem cd_X3 : ∀ j, j < 2 → defaultValue (tyX3 j) = cp_fv 3 (fun _ => 0) (fun _ => none) j := by decide +kernel
theorem ci_X2 : Cond.instantiable RX2 7 ∈ cp_TG := cp_TG_in (i := 181) (by decide +kernel) (by decide +kernel)
theorem cj_X2 : Cond.initialized RX2 ∈ cp_TG := cp_TG_in (i := 31) (by decide +kernel) (by decide +kernel)
theorem cd_X2 : ∀ j, j < 7 → defaultValue (tyX2 j) = cp_fv 2 (fun _ => 0) (fun _ => none) j := by decide +kernel
theorem ol_X6_1 : Cond.methodLink RX6 1 Lib.objectInit ∈ cp_TG := cp_TG_in (i := 39) (by decide +kernel) (by decide +kernel)
theorem ol_X1_3 : Cond.methodLink RX1 3 Lib.objectInit ∈ cp_TG := cp_TG_in (i := 47) (by decide +kernel) (by decide +kernel)
theorem ol_X4_3 : Cond.methodLink RX4 3 Lib.objectInit ∈ cp_TG := cp_TG_in (i := 63) (by decide +kernel) (by decide +kernel)
theorem ol_X5_1 : Cond.methodLink RX5 1 Lib.objectInit ∈ cp_TG := cp_TG_in (i := 112) (by decide +kernel) (by decide +kernel)
theorem ol_X0_3 : Cond.methodLink RX0 3 Lib.objectInit ∈ cp_TG := cp_TG_in (i := 150) (by decide +kernel) (by decide +kernel)
theorem ol_X3_3 : Cond.methodLink RX3 3 Lib.objectInit ∈ cp_TG := cp_TG_in (i := 170) (by decide +kernel) (by decide +kernel)
theorem ol_X2_3 : Cond.methodLink RX2 3 Lib.objectInit ∈ cp_TG := cp_TG_in (i := 185) (by decide +kernel) (by decide +kernel)
theorem in_X0_init : Cond.instanceMethod yX0_init ∈ cp_TG := cp_TG_in (i := 148) (by decide +kernel) (by decide +kernel)
theorem inn_X0_init : yX0_init.name = "<init>" := rfl
theorem in_X1_init : Cond.instanceMethod yX1_init ∈ cp_TG := cp_TG_in (i := 45) (by decide +kernel) (by decide +kernel)
theorem inn_X1_init : yX1_init.name = "<init>" := rfl
theorem in_X2_init : Cond.instanceMethod yX2_init ∈ cp_TG := cp_TG_in (i := 183) (by decide +kernel) (by decide +kernel)
theorem inn_X2_init : yX2_init.name = "<init>" := rfl
theorem in_X3_init : Cond.instanceMethod yX3_init ∈ cp_TG := cp_TG_in (i := 168) (by decide +kernel) (by decide +kernel)
theorem inn_X3_init : yX3_init.name = "<init>" := rfl
theorem in_X4_init : Cond.instanceMethod yX4_init ∈ cp_TG := cp_TG_in (i := 61) (by decide +kernel) (by decide +kernel)
theorem inn_X4_init : yX4_init.name = "<init>" := rfl
theorem in_X5_init : Cond.instanceMethod yX5_init ∈ cp_TG := cp_TG_in (i := 110) (by decide +kernel) (by decide +kernel)
theorem inn_X5_init : yX5_init.name = "<init>" := rfl
theorem in_X6_init : Cond.instanceMethod yX6_init ∈ cp_TG := cp_TG_in (i := 37) (by decide +kernel) (by decide +kernel)
theorem inn_X6_init : yX6_init.name = "<init>" := rfl
section CPPF
variable {x : cp_Cx} {E : cp_En} {bc : ByteArray} {nL d mc ms cells slots cnt : Nat} {sh : cp_Shp} {I : cp_Mem} {R : cp_Rem} {pc : Nat} {L : List (Option Value)} {st : List Value}
theorem pf_X1_18 (O : cp_Ok x E RX1 bc nL d mc ms) (hin : (cp_xk x).name = "<init>") {a y : Nat} (hs : sh a = (2, 0)) (hd : decode bc pc = .ok (.putfield 18, 3)) (k : cp_G x E nL cells slots cnt sh I (cp_wr R a 0 (some y)) (pc + 3) L st) : cp_G x E nL cells slots cnt sh I R pc L (.ref y :: .ref a :: st) := cp_putF O hin cp_cX1 (j := 0) (by decide) fl_X1_18 rfl rfl (ty := (.array .int)) (by decide +kernel) ⟨rfl, rfl⟩ rfl hs hd k
theorem pf_X1_29 (O : cp_Ok x E RX1 bc nL d mc ms) (hin : (cp_xk x).name = "<init>") {a y : Nat} (hs : sh a = (2, 0)) (hd : decode bc pc = .ok (.putfield 29, 3)) (k : cp_G x E nL cells slots cnt sh I (cp_wr R a 2 (some y)) (pc + 3) L st) : cp_G x E nL cells slots cnt sh I R pc L (.ref y :: .ref a :: st) := cp_putF O hin cp_cX1 (j := 2) (by decide) fl_X1_29 rfl rfl (ty := (.array (.object "CopyPlates$Piece"))) (by decide +kernel) ⟨rfl, rfl⟩ rfl hs hd k
theorem pf_X1_39 (O : cp_Ok x E RX1 bc nL d mc ms) (hin : (cp_xk x).name = "<init>") {a y : Nat} (hs : sh a = (2, 0)) (hd : decode bc pc = .ok (.putfield 39, 3)) (k : cp_G x E nL cells slots cnt sh I (cp_wr R a 4 (some y)) (pc + 3) L st) : cp_G x E nL cells slots cnt sh I R pc L (.ref y :: .ref a :: st) := cp_putF O hin cp_cX1 (j := 4) (by decide) fl_X1_39 rfl rfl (ty := (.array (.object "CopyPlates$Plate"))) (by decide +kernel) ⟨rfl, rfl⟩ rfl hs hd k
theorem pf_X0_11 (O : cp_Ok x E RX0 bc nL d mc ms) (hin : (cp_xk x).name = "<init>") {a y : Nat} (hs : sh a = (1, 0)) (hd : decode bc pc = .ok (.putfield 11, 3)) (k : cp_G x E nL cells slots cnt sh I (cp_wr R a 0 (some y)) (pc + 3) L st) : cp_G x E nL cells slots cnt sh I R pc L (.ref y :: .ref a :: st) := cp_putF O hin cp_cX0 (j := 0) (by decide) fl_X0_11 rfl rfl (ty := (.array (.object "CopyPlates$Night"))) (by decide +kernel) ⟨rfl, rfl⟩ rfl hs hd k
theorem pf_X3_9 (O : cp_Ok x E RX3 bc nL d mc ms) (hin : (cp_xk x).name = "<init>") {a y : Nat} (hs : sh a = (4, 0)) (hd : decode bc pc = .ok (.putfield 9, 3)) (k : cp_G x E nL cells slots cnt sh I (cp_wr R a 0 (some y)) (pc + 3) L st) : cp_G x E nL cells slots cnt sh I R pc L (.ref y :: .ref a :: st) := cp_putF O hin cp_cX3 (j := 0) (by decide) fl_X3_9 rfl rfl (ty := (.array .char)) (by decide +kernel) ⟨rfl, rfl⟩ rfl hs hd k
theorem pf_X2_9 (O : cp_Ok x E RX2 bc nL d mc ms) (hin : (cp_xk x).name = "<init>") {a y : Nat} (hs : sh a = (3, 0)) (hd : decode bc pc = .ok (.putfield 9, 3)) (k : cp_G x E nL cells slots cnt sh I (cp_wr R a 0 (some y)) (pc + 3) L st) : cp_G x E nL cells slots cnt sh I R pc L (.ref y :: .ref a :: st) := cp_putF O hin cp_cX2 (j := 0) (by decide) fl_X2_9 rfl rfl (ty := (.object "CopyPlates$Pad")) (by decide +kernel) ⟨rfl, rfl⟩ rfl hs hd k
theorem pf_X6_10 (O : cp_Ok x E RX6 bc nL d mc ms) (hin : (cp_xk x).name = "<init>") {a y : Nat} (hs : sh a = (7, 0)) (hd : decode bc pc = .ok (.putfield 10, 3)) (k : cp_G x E nL cells slots cnt sh I (cp_wr R a 0 (some y)) (pc + 3) L st) : cp_G x E nL cells slots cnt sh I R pc L (.ref y :: .ref a :: st) := cp_putF O hin cp_cX6 (j := 0) (by decide) fl_X6_10 rfl rfl (ty := (.object "CopyPlates$Night")) (by decide +kernel) ⟨rfl, rfl⟩ rfl hs hd k
theorem pf_X6_16 (O : cp_Ok x E RX6 bc nL d mc ms) (hin : (cp_xk x).name = "<init>") {a y : Nat} (hs : sh a = (7, 0)) (hd : decode bc pc = .ok (.putfield 16, 3)) (k : cp_G x E nL cells slots cnt sh I (cp_wr R a 1 (some y)) (pc + 3) L st) : cp_G x E nL cells slots cnt sh I R pc L (.ref y :: .ref a :: st) := cp_putF O hin cp_cX6 (j := 1) (by decide) fl_X6_16 rfl rfl (ty := (.object "CopyPlates$Night")) (by decide +kernel) ⟨rfl, rfl⟩ rfl hs hd k
theorem pf_X6_22 (O : cp_Ok x E RX6 bc nL d mc ms) (hin : (cp_xk x).name = "<init>") {a y : Nat} (hs : sh a = (7, 0)) (hd : decode bc pc = .ok (.putfield 22, 3)) (k : cp_G x E nL cells slots cnt sh I (cp_wr R a 2 (some y)) (pc + 3) L st) : cp_G x E nL cells slots cnt sh I R pc L (.ref y :: .ref a :: st) := cp_putF O hin cp_cX6 (j := 2) (by decide) fl_X6_22 rfl rfl (ty := (.object "CopyPlates$History")) (by decide +kernel) ⟨rfl, rfl⟩ rfl hs hd k
theorem pf_X6_26 (O : cp_Ok x E RX6 bc nL d mc ms) (hin : (cp_xk x).name = "<init>") {a y : Nat} (hs : sh a = (7, 0)) (hd : decode bc pc = .ok (.putfield 26, 3)) (k : cp_G x E nL cells slots cnt sh I (cp_wr R a 3 (some y)) (pc + 3) L st) : cp_G x E nL cells slots cnt sh I R pc L (.ref y :: .ref a :: st) := cp_putF O hin cp_cX6 (j := 3) (by decide) fl_X6_26 rfl rfl (ty := (.array (.object "CopyPlates$Night"))) (by decide +kernel) ⟨rfl, rfl⟩ rfl hs hd k
theorem pf_X6_33 (O : cp_Ok x E RX6 bc nL d mc ms) (hin : (cp_xk x).name = "<init>") {a y : Nat} (hs : sh a = (7, 0)) (hd : decode bc pc = .ok (.putfield 33, 3)) (k : cp_G x E nL cells slots cnt sh I (cp_wr R a 4 (some y)) (pc + 3) L st) : cp_G x E nL cells slots cnt sh I R pc L (.ref y :: .ref a :: st) := cp_putF O hin cp_cX6 (j := 4) (by decide) fl_X6_33 rfl rfl (ty := (.object "CopyPlates$Pad")) (by decide +kernel) ⟨rfl, rfl⟩ rfl hs hd k
theorem pf_X6_42 (O : cp_Ok x E RX6 bc nL d mc ms) (hin : (cp_xk x).name = "<init>") {a y : Nat} (hs : sh a = (7, 0)) (hd : decode bc pc = .ok (.putfield 42, 3)) (k : cp_G x E nL cells slots cnt sh I (cp_wr R a 5 (some y)) (pc + 3) L st) : cp_G x E nL cells slots cnt sh I R pc L (.ref y :: .ref a :: st) := cp_putF O hin cp_cX6 (j := 5) (by decide) fl_X6_42 rfl rfl (ty := (.object "CopyPlates$OrderReader")) (by decide +kernel) ⟨rfl, rfl⟩ rfl hs hd k
end CPPF

