/-! CONTRACTS AND CALLS -/
def cp_Pre (E : cp_En) (cnt : Nat) (sh : cp_Shp) (I : cp_Mem) (R : cp_Rem) (U : State) : Prop := cp_PW E cnt sh I R U.heap ∧ cp_K E U ∧ cp_Z E U U.heap
def cp_Qc (E : cp_En) (Post : Option Value → Nat → cp_Shp → cp_Mem → cp_Rem → Prop) : Array Value → State → Outcome → State → Prop := fun _ st oc t => (∃ (v : Option Value) (cnt' : Nat) (sh' : cp_Shp) (I' : cp_Mem) (R' : cp_Rem), oc = .returned v ∧ Post v cnt' sh' I' R' ∧ cp_PW E cnt' sh' I' R' t.heap) ∧ va_F (cp_A E) st t
def cp_Ct (l : Launch) (E : cp_En) (y : MethodName) (bc : ByteArray) (nL : Nat) (ret : Option FieldType) (d mc ms : Nat) (as : List Value) (cnt : Nat) (sh : cp_Shp) (I : cp_Mem) (R : cp_Rem) (Post : Option Value → Nat → cp_Shp → cp_Mem → cp_Rem → Prop) : Prop :=
  Met l y (.code y bc nL ret :: cp_TG) (cp_rm d mc ms) (va_Pc as (cp_Pre E cnt sh I R)) (cp_Qc E Post) mc ms (cp_A E)
/-- a method that makes nothing: its answer and the numbers behind it -/
def cp_Fn (l : Launch) (E : cp_En) (y : MethodName) (bc : ByteArray) (nL : Nat) (ret : Option FieldType) (d : Nat) (as : List Value) (cnt : Nat) (sh : cp_Shp) (I : cp_Mem) (R : cp_Rem) (v : Option Value) (I' : cp_Mem) : Prop :=
  cp_Ct l E y bc nL ret d 0 0 as cnt sh I R (fun v' c s i r => v' = v ∧ c = cnt ∧ s = sh ∧ i = I' ∧ r = R)
theorem cp_Ct_of {l : Launch} {E : cp_En} {y : MethodName} {bc : ByteArray} {nL : Nat} {ret : Option FieldType} {d mc ms : Nat} {as : List Value} {cnt : Nat} {sh : cp_Shp} {I : cp_Mem} {R : cp_Rem} {Post : Option Value → Nat → cp_Shp → cp_Mem → cp_Rem → Prop} {L0 : List (Option Value)}
    (hy : plainName y.cls = true) (hlen : (lg_sl as).length ≤ nL) (hL : cp_lq 0 L0 = lv_args 0 as)
    (body : ∀ x : cp_Cx, cp_xl x = l → cp_Ok x E y.cls bc nL d mc ms → (y.name = "<init>" → (cp_xk x).name = "<init>") →
      (∀ (rt : FieldType) (v : Int32) (cnt' : Nat) (sh' : cp_Shp) (I' : cp_Mem) (R' : cp_Rem) (pc : Nat) (L : List (Option Value)), ret = some rt → narrow rt (.int v) = .int v → decode bc pc = .ok (.ireturn, 1) → Post (some (.int v)) cnt' sh' I' R' → cp_G x E nL mc ms cnt' sh' I' R' pc L [.int v]) →
      (∀ (cnt' : Nat) (sh' : cp_Shp) (I' : cp_Mem) (R' : cp_Rem) (pc : Nat) (L : List (Option Value)), ret = none → decode bc pc = .ok (.return_, 1) → Post none cnt' sh' I' R' → cp_G x E nL mc ms cnt' sh' I' R' pc L []) →
      cp_G x E nL 0 0 cnt sh I R 0 L0 []) : cp_Ct l E y bc nL ret d mc ms as cnt sh I R Post := by
  refine Met.ofW (cc := bc) (maxL := nL) (ret := ret) hy rfl ?_
  intro p e s m args below meth c s₁ B hml hv
  obtain ⟨rfl, hW, hK, hZ⟩ := hv
  have hts := atoms_spec (ws := .code y bc nL ret :: cp_TG) B.pre
  have hown : s.vm.findClass y.cls = some m.cls := findClass_of_methodNamed B.named
  have hlocks := B.notSynchronized
  rw [lg_entry_eq]
  have hl := lv_entry as hlen
  generalize (lg_sl as ++ List.replicate (nL - (lg_sl as).length) Slot.unset).toArray = ls at hl ⊢
  refine body (p, l, e, (headSpec (.code y bc nL ret :: cp_TG) (cp_rm d mc ms)).room, s, m, as.toArray, below, meth, c, MQ below (cp_Qc E Post) as.toArray s mc ms (cp_A E)) rfl
    ⟨B.exec, B.bytes, hml, hown, fun w hw => hts w (List.mem_cons_of_mem _ hw), hK, hZ, by rw [hW.2.1]; exact Nat.le_add_right _ _, Nat.le_refl _, Nat.le_refl _, Nat.le_refl _, Nat.le_refl _⟩ (fun hi => (name_of_methodNamed B.named B.method).1.trans hi) ?_ ?_ s.heap [] ls hW va_S.rf (by show lv_has ls nL (cp_lq 0 L0); rw [hL]; exact hl)
  · intro rt v cnt' sh' I' R' pc L hrt hn hd hp H locs ls' hW' hS hl'
    exact W.zret (Qc := cp_Qc E Post) B.exec B.bytes (B.returns.trans hrt) hn (fun t ht hw => ⟨⟨_, _, _, _, _, rfl, hp, by rw [ht]; exact hW'⟩, hS.F ht⟩) hS.2.2 hd
  · intro cnt' sh' I' R' pc L hrt hd hp H locs ls' hW' hS hl'
    exact W.vret (Qc := cp_Qc E Post) B.exec B.bytes (B.returns.trans hrt) (fun t ht hw => ⟨⟨_, _, _, _, _, rfl, hp, by rw [ht]; exact hW'⟩, hS.F ht⟩) hS.2.2 hd
/-- the same for a method that makes nothing: an int (a boolean, a character) comes back -/
theorem cp_Fn_i {l : Launch} {E : cp_En} {y : MethodName} {bc : ByteArray} {nL : Nat} {rt : FieldType} {d : Nat} {as : List Value} {cnt : Nat} {sh : cp_Shp} {I : cp_Mem} {R : cp_Rem} {r : Int32} {I' : cp_Mem} (L0 : List (Option Value))
    (hy : plainName y.cls = true) (hlen : (lg_sl as).length ≤ nL) (hL : cp_lq 0 L0 = lv_args 0 as) (hn : narrow rt (.int r) = .int r)
    (body : ∀ x : cp_Cx, cp_xl x = l → cp_Ok x E y.cls bc nL d 0 0 →
      (∀ (v : Int32) (I1 : cp_Mem) (pc : Nat) (L : List (Option Value)), decode bc pc = .ok (.ireturn, 1) → v = r → I1 = I' → cp_G x E nL 0 0 cnt sh I1 R pc L [.int v]) →
      cp_G x E nL 0 0 cnt sh I R 0 L0 []) : cp_Fn l E y bc nL (some rt) d as cnt sh I R (some (.int r)) I' :=
  cp_Ct_of hy hlen hL fun x h1 h2 _ h4 _ => body x h1 h2 fun v I1 pc L hd hv hI => h4 rt v cnt sh I1 R pc L rfl (by rw [hv]; exact hn) hd ⟨by rw [hv], rfl, rfl, hI, rfl⟩
theorem cp_Fn_v {l : Launch} {E : cp_En} {y : MethodName} {bc : ByteArray} {nL : Nat} {d : Nat} {as : List Value} {cnt : Nat} {sh : cp_Shp} {I : cp_Mem} {R : cp_Rem} {I' : cp_Mem} (L0 : List (Option Value))
    (hy : plainName y.cls = true) (hlen : (lg_sl as).length ≤ nL) (hL : cp_lq 0 L0 = lv_args 0 as)
    (body : ∀ x : cp_Cx, cp_xl x = l → cp_Ok x E y.cls bc nL d 0 0 →
      (∀ (I1 : cp_Mem) (pc : Nat) (L : List (Option Value)), decode bc pc = .ok (.return_, 1) → I1 = I' → cp_G x E nL 0 0 cnt sh I1 R pc L []) →
      cp_G x E nL 0 0 cnt sh I R 0 L0 []) : cp_Fn l E y bc nL none d as cnt sh I R none I' :=
  cp_Ct_of hy hlen hL fun x h1 h2 _ _ h5 => body x h1 h2 fun I1 pc L hd hI => h5 cnt sh I1 R pc L rfl hd ⟨rfl, rfl, rfl, hI, rfl⟩
/-- what the words say of a method that is called: its code; of a call of it -/
def cp_me (y : MethodName) (cb : ByteArray) (nLc : Nat) (ret : Option FieldType) (n : Nat) : Prop := Cond.code y cb nLc ret ∈ cp_TG ∧ Cond.initialized y.cls ∈ cp_TG ∧ y.cls ≠ "java/lang/invoke/MethodHandle" ∧ y.cls ≠ "java/lang/invoke/VarHandle" ∧ (parseMethodDescriptor y.desc).map (fun d => d.parameters.length) = some n
def cp_mi (y : MethodName) : Prop := Cond.instanceMethod y ∈ cp_TG ∧ Cond.selects y.cls y y ∈ cp_TG
def cp_rl (d nLc dc : Nat) : Prop := dc + 1 ≤ d ∧ 8 + (nLc + 11) + (12 + 32 * dc) ≤ 12 + 32 * d
section CPC
variable {x : cp_Cx} {E : cp_En} {own : String} {bc : ByteArray} {nL d mc ms : Nat} {cells slots cnt : Nat} {sh : cp_Shp} {I : cp_Mem} {R : cp_Rem} {pc : Nat} {L : List (Option Value)} {st stk rest As : List Value} {y : MethodName} {cb : ByteArray} {nLc n index dc mcc msc b : Nat} {ret : Option FieldType} {Post : Option Value → Nat → cp_Shp → cp_Mem → cp_Rem → Prop}
theorem cp_good {w : Cond} (h : w ∈ cp_TG) : w ∈ cp_TG ∧ ((w.onTables && w.keeps) = true ∨ ∃ ty, w = .arrayClass ty) := ⟨h, good_of_word (List.mem_filter.mp h).2⟩
theorem cp_goodIn (hc : Cond.code y cb nLc ret ∈ cp_TG) : GoodIn cp_TG (.code y cb nLc ret :: cp_TG) := fun w hw => by
  rcases List.mem_cons.mp hw with h | h
  · subst h; exact cp_good hc
  · exact cp_good h
theorem cp_room (O : cp_Ok x E own bc nL d mc ms) (hr : cp_rl d nLc dc) : (cp_rm dc mcc msc).frames + 1 ≤ (cp_xR x).frames ∧ 8 + (nLc + 11) + (cp_rm dc mcc msc).locals ≤ (cp_xR x).locals :=
  ⟨Nat.le_trans hr.1 O.2.2.2.2.2.2.2.2.1, Nat.le_trans hr.2 O.2.2.2.2.2.2.2.2.2.1⟩
theorem cp_blind {as : List Value} : FrameBlind (va_Pc as (cp_Pre E cnt sh I R)) := fun a U g mk q => by
  obtain ⟨q1, q2, q3, q4⟩ := q
  exact ⟨q1, q2, ⟨va_K.moved (u := U) (U := U.calling g mk a) (Vm.Alike.refl U.vm) q3.1, cp_nw_same rfl q3.2⟩, cp_Z_moved (u := U) (U := U.calling g mk a) (Vm.Alike.refl U.vm) q4⟩
theorem cp_pre (O : cp_Ok x E own bc nL d mc ms) {H : Heap} {locs : List Loc} (hW : cp_PW E cnt sh I R H) (hS : va_S (cp_A E) (cp_xs x).heap H locs) {as : List Value} : ∀ U : State, U.heap = H → (cp_xs x).WarmedH U.vm → va_Pc as (cp_Pre E cnt sh I R) as.toArray U := fun U hU hw => by
  refine ⟨rfl, by rw [hU]; exact hW, cp_K_warm hw O.2.2.2.2.2.1, ?_⟩
  rw [hU]
  exact cp_Z_kept (fun a h1 h2 => hS.2.1 a h1 h2) (cp_Z_moved hw.alike O.2.2.2.2.2.2.1)
theorem cp_after (O : cp_Ok x E own bc nL d mc ms) {H : Heap} {locs : List Loc} {ls : Array Slot} {a : Array Value} {st0 : List Value} (hW : cp_PW E cnt sh I R H) (hS : va_S (cp_A E) (cp_xs x).heap H locs) (hl : cp_lH ls nL L)
    (hr : va_Run (cp_xp x) (cp_xl x) (cp_xe x) (cp_xR x) (cp_xs x) (cp_xm x) (cp_xa x) (cp_xb x) (cp_xk x) (cp_xc x) H locs cells slots mcc msc (F0 (cp_xm x) pc ls st0) rest (cp_Qc E Post a) (cp_A E))
    (k : ∀ v cnt' sh' I' R', Post v cnt' sh' I' R' → cp_G x E nL (cells + mcc) (slots + msc) cnt' sh' I' R' (pc + 3) L (v.toList ++ rest)) : cp_W x H locs cells slots (F0 (cp_xm x) pc ls st0) := by
  intro T hT X
  obtain ⟨v, st₀, t, T', L', h0, X', hL, e1, e2, ⟨⟨v', cnt', sh', I', R', hv, hp, hW'⟩, hz, hk⟩, stp⟩ := hr T hT X
  cases hv
  rw [h0] at hz hk
  obtain ⟨t2, a1, b1⟩ := k v cnt' sh' I' R' hp T'.heap (locs ++ L') ls (by rw [e1]; exact hW') ⟨Nat.le_trans hS.1 (by rw [e1]; exact hz), fun q h1 h2 => by rw [e1, hk q (Nat.lt_of_lt_of_le h1 hS.1) h2]; exact hS.2.1 q h1 h2, fun q hq => by
      rcases List.mem_append.mp hq with h | h
      · exact hS.2.2 q h
      · exact hL q h⟩ hl T' rfl X'
  exact ⟨t2, stp t2 a1, b1⟩
theorem cp_recv (O : cp_Ok x E own bc nL d mc ms) {H : Heap} (hW : cp_PW E cnt sh I R H) {ci : Nat} {C : String} {T : u_T} {N : Nat} {ty0 : Nat → FieldType} (hc : cp_clf ci C T N ty0) (hs : sh b = (ci + 1, 0)) : ∃ cell : Cell, H[b]? = some cell ∧ cell.vm.isStatics = false ∧ (cp_xs x).vm.findClass C = some cell.cls := by
  obtain ⟨c1, c2, c3, c4, c5, c6⟩ := hc
  have he := cp_WL_at E cnt sh I R (cp_PW_in hW hs)
  rw [hs, cp_e_obj _ _ _ _ c5] at he
  exact va_recv O.2.2.2.2.2.1.1 hW.2.2 c1 he
theorem cp_callV (O : cp_Ok x E own bc nL d mc ms) (hM : cp_me y cb nLc ret n) (hI : cp_mi y) (hlk : Cond.methodLink own index y ∈ cp_TG) {ci : Nat} {T : u_T} {N : Nat} {ty0 : Nat → FieldType} (hc : cp_clf ci y.cls T N ty0) (hs : sh b = (ci + 1, 0))
    (hC : cp_Ct (cp_xl x) E y cb nLc ret dc mcc msc (.ref b :: As) cnt sh I R Post) (hd : decode bc pc = .ok (.invokevirtual index, 3)) (hn : As.length = n) (hst : stk = As.reverse ++ .ref b :: rest) (hr : cp_rl d nLc dc) (hcs : cells + mcc ≤ mc ∧ slots + msc ≤ ms) (hrest : (rest.map fun v => v.category).sum ≤ 8)
    (k : ∀ v cnt' sh' I' R', Post v cnt' sh' I' R' → cp_G x E nL (cells + mcc) (slots + msc) cnt' sh' I' R' (pc + 3) L (v.toList ++ rest)) : cp_G x E nL cells slots cnt sh I R pc L stk := by
  intro H locs ls hW hS hl
  subst hst
  refine cp_after O (a := (Value.ref b :: As).toArray) hW hS hl (va_runV (As := As) (rest := rest) ⟨O.1, O.2.1, O.2.2.1, O.2.2.2.1, O.2.2.2.2.1⟩ hC (cwV n O.2.2.2.2.1 (fun w hw => ?_) rfl rfl rfl ⟨rfl, hM.2.2.1, hM.2.2.2.1, hM.2.2.2.2⟩ (cp_room O hr)) ⟨cp_blind, cp_recv O hW hc hs, cp_pre O hW hS⟩ rfl hn hl.1 rfl (lv_room hrest) hd ⟨Nat.le_trans hcs.1 O.2.2.2.2.2.2.2.2.2.2.1, Nat.le_trans hcs.2 O.2.2.2.2.2.2.2.2.2.2.2⟩) k
  unfold wsV at hw
  rcases List.mem_append.mp hw with h | h
  · simp only [List.mem_cons, List.not_mem_nil, or_false] at h
    rcases h with h | h | h | h <;> subst h
    · exact cp_good hlk
    · exact cp_good hI.1
    · exact cp_good hI.2
    · exact cp_good hM.2.1
  · exact cp_goodIn hM.1 w h
theorem cp_callS (O : cp_Ok x E own bc nL d mc ms) (hM : cp_me y cb nLc ret n) (hst0 : Cond.static y ∈ cp_TG) (hlk : Cond.methodLink own index y ∈ cp_TG)
    (hC : cp_Ct (cp_xl x) E y cb nLc ret dc mcc msc As cnt sh I R Post) (hd : decode bc pc = .ok (.invokestatic index, 3)) (hn : As.length = n) (hst : stk = As.reverse ++ rest) (hr : cp_rl d nLc dc) (hcs : cells + mcc ≤ mc ∧ slots + msc ≤ ms) (hrest : (rest.map fun v => v.category).sum ≤ 8)
    (k : ∀ v cnt' sh' I' R', Post v cnt' sh' I' R' → cp_G x E nL (cells + mcc) (slots + msc) cnt' sh' I' R' (pc + 3) L (v.toList ++ rest)) : cp_G x E nL cells slots cnt sh I R pc L stk := by
  intro H locs ls hW hS hl
  subst hst
  refine cp_after O (a := As.toArray) hW hS hl (va_runS (As := As) (rest := rest) ⟨O.1, O.2.1, O.2.2.1, O.2.2.2.1, O.2.2.2.2.1⟩ hC (va_cwS n O.2.2.2.2.1 (fun w hw => ?_) rfl rfl rfl ⟨hM.2.2.1, hM.2.2.2.1, hM.2.2.2.2⟩ (cp_room O hr)) ⟨cp_blind, cp_pre O hW hS⟩ rfl hn hl.1 rfl (lv_room hrest) hd ⟨Nat.le_trans hcs.1 O.2.2.2.2.2.2.2.2.2.2.1, Nat.le_trans hcs.2 O.2.2.2.2.2.2.2.2.2.2.2⟩) k
  unfold va_wsS at hw
  rcases List.mem_append.mp hw with h | h
  · simp only [List.mem_cons, List.not_mem_nil, or_false] at h
    rcases h with h | h | h <;> subst h
    · exact cp_good hlk
    · exact cp_good hst0
    · exact cp_good hM.2.1
  · exact cp_goodIn hM.1 w h
theorem cp_callSN (O : cp_Ok x E own bc nL d mc ms) (hM : cp_me y cb nLc ret n) (hst0 : Cond.static y ∈ cp_TG) (hlk : (own, index, y) ∈ cp_nM)
    (hC : cp_Ct (cp_xl x) E y cb nLc ret dc mcc msc As cnt sh I R Post) (hd : decode bc pc = .ok (.invokestatic index, 3)) (hn : As.length = n) (hst : stk = As.reverse ++ rest) (hr : cp_rl d nLc dc) (hcs : cells + mcc ≤ mc ∧ slots + msc ≤ ms) (hrest : (rest.map fun v => v.category).sum ≤ 8)
    (k : ∀ v cnt' sh' I' R', Post v cnt' sh' I' R' → cp_G x E nL (cells + mcc) (slots + msc) cnt' sh' I' R' (pc + 3) L (v.toList ++ rest)) : cp_G x E nL cells slots cnt sh I R pc L stk := by
  intro H locs ls hW hS hl
  subst hst
  exact cp_after O (a := As.toArray) hW hS hl (va_runSN (As := As) (rest := rest) ⟨O.1, O.2.1, O.2.2.1, O.2.2.2.1, O.2.2.2.2.1⟩ hC ⟨va_cnB n O.2.2.2.2.1 (cp_goodIn hM.1) rfl rfl rfl (O.2.2.2.2.2.1.2.2.1 _ hlk) (O.2.2.2.2.1 _ hM.2.1) ⟨hM.2.2.1, hM.2.2.2.1, hM.2.2.2.2⟩ (cp_room O hr), O.2.2.2.2.1 _ hst0, trivial⟩ ⟨cp_blind, cp_pre O hW hS⟩ rfl hn hl.1 rfl (lv_room hrest) hd ⟨Nat.le_trans hcs.1 O.2.2.2.2.2.2.2.2.2.2.1, Nat.le_trans hcs.2 O.2.2.2.2.2.2.2.2.2.2.2⟩) k
/-- calls of methods that make nothing -/
theorem cp_cVi (O : cp_Ok x E own bc nL d mc ms) {r : Int32} {I' : cp_Mem} (hM : cp_me y cb nLc ret n) (hI : cp_mi y) (hlk : Cond.methodLink own index y ∈ cp_TG) {ci : Nat} {T : u_T} {N : Nat} {ty0 : Nat → FieldType} (hc : cp_clf ci y.cls T N ty0) (hs : sh b = (ci + 1, 0))
    (hC : cp_Fn (cp_xl x) E y cb nLc ret dc (.ref b :: As) cnt sh I R (some (.int r)) I') (hd : decode bc pc = .ok (.invokevirtual index, 3)) (hn : As.length = n) (hst : stk = As.reverse ++ .ref b :: rest) (hr : cp_rl d nLc dc) (hcs : cells ≤ mc ∧ slots ≤ ms) (hrest : (rest.map fun v => v.category).sum ≤ 8)
    (k : cp_G x E nL cells slots cnt sh I' R (pc + 3) L (.int r :: rest)) : cp_G x E nL cells slots cnt sh I R pc L stk :=
  cp_callV O hM hI hlk hc hs hC hd hn hst hr hcs hrest fun v c s i r h => by
    obtain ⟨rfl, rfl, rfl, rfl, rfl⟩ := h
    exact k
theorem cp_cVv (O : cp_Ok x E own bc nL d mc ms) {I' : cp_Mem} (hM : cp_me y cb nLc ret n) (hI : cp_mi y) (hlk : Cond.methodLink own index y ∈ cp_TG) {ci : Nat} {T : u_T} {N : Nat} {ty0 : Nat → FieldType} (hc : cp_clf ci y.cls T N ty0) (hs : sh b = (ci + 1, 0))
    (hC : cp_Fn (cp_xl x) E y cb nLc ret dc (.ref b :: As) cnt sh I R none I') (hd : decode bc pc = .ok (.invokevirtual index, 3)) (hn : As.length = n) (hst : stk = As.reverse ++ .ref b :: rest) (hr : cp_rl d nLc dc) (hcs : cells ≤ mc ∧ slots ≤ ms) (hrest : (rest.map fun v => v.category).sum ≤ 8)
    (k : cp_G x E nL cells slots cnt sh I' R (pc + 3) L rest) : cp_G x E nL cells slots cnt sh I R pc L stk :=
  cp_callV O hM hI hlk hc hs hC hd hn hst hr hcs hrest fun v c s i r h => by
    obtain ⟨rfl, rfl, rfl, rfl, rfl⟩ := h
    exact k
theorem cp_cSi (O : cp_Ok x E own bc nL d mc ms) {r : Int32} {I' : cp_Mem} (hM : cp_me y cb nLc ret n) (hst0 : Cond.static y ∈ cp_TG) (hlk : Cond.methodLink own index y ∈ cp_TG)
    (hC : cp_Fn (cp_xl x) E y cb nLc ret dc As cnt sh I R (some (.int r)) I') (hd : decode bc pc = .ok (.invokestatic index, 3)) (hn : As.length = n) (hst : stk = As.reverse ++ rest) (hr : cp_rl d nLc dc) (hcs : cells ≤ mc ∧ slots ≤ ms) (hrest : (rest.map fun v => v.category).sum ≤ 8)
    (k : cp_G x E nL cells slots cnt sh I' R (pc + 3) L (.int r :: rest)) : cp_G x E nL cells slots cnt sh I R pc L stk :=
  cp_callS O hM hst0 hlk hC hd hn hst hr hcs hrest fun v c s i r h => by
    obtain ⟨rfl, rfl, rfl, rfl, rfl⟩ := h
    exact k
theorem cp_cSv (O : cp_Ok x E own bc nL d mc ms) {I' : cp_Mem} (hM : cp_me y cb nLc ret n) (hst0 : Cond.static y ∈ cp_TG) (hlk : Cond.methodLink own index y ∈ cp_TG)
    (hC : cp_Fn (cp_xl x) E y cb nLc ret dc As cnt sh I R none I') (hd : decode bc pc = .ok (.invokestatic index, 3)) (hn : As.length = n) (hst : stk = As.reverse ++ rest) (hr : cp_rl d nLc dc) (hcs : cells ≤ mc ∧ slots ≤ ms) (hrest : (rest.map fun v => v.category).sum ≤ 8)
    (k : cp_G x E nL cells slots cnt sh I' R (pc + 3) L rest) : cp_G x E nL cells slots cnt sh I R pc L stk :=
  cp_callS O hM hst0 hlk hC hd hn hst hr hcs hrest fun v c s i r h => by
    obtain ⟨rfl, rfl, rfl, rfl, rfl⟩ := h
    exact k
theorem cp_cSNi (O : cp_Ok x E own bc nL d mc ms) {r : Int32} {I' : cp_Mem} (hM : cp_me y cb nLc ret n) (hst0 : Cond.static y ∈ cp_TG) (hlk : (own, index, y) ∈ cp_nM)
    (hC : cp_Fn (cp_xl x) E y cb nLc ret dc As cnt sh I R (some (.int r)) I') (hd : decode bc pc = .ok (.invokestatic index, 3)) (hn : As.length = n) (hst : stk = As.reverse ++ rest) (hr : cp_rl d nLc dc) (hcs : cells ≤ mc ∧ slots ≤ ms) (hrest : (rest.map fun v => v.category).sum ≤ 8)
    (k : cp_G x E nL cells slots cnt sh I' R (pc + 3) L (.int r :: rest)) : cp_G x E nL cells slots cnt sh I R pc L stk :=
  cp_callSN O hM hst0 hlk hC hd hn hst hr hcs hrest fun v c s i r h => by
    obtain ⟨rfl, rfl, rfl, rfl, rfl⟩ := h
    exact k
end CPC

