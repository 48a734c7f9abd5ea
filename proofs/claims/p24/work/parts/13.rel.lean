/-- a method that makes nothing: its answer, and what holds of the numbers behind it -/
def cp_Fr (l : Launch) (E : cp_En) (y : MethodName) (bc : ByteArray) (nL : Nat) (ret : Option FieldType) (d : Nat) (as : List Value) (cnt : Nat) (sh : cp_Shp) (I : cp_Mem) (R : cp_Rem) (v : Option Value) (T : cp_Mem → Prop) : Prop :=
  cp_Ct l E y bc nL ret d 0 0 as cnt sh I R (fun v' c s i r => v' = v ∧ c = cnt ∧ s = sh ∧ T i ∧ r = R)
theorem cp_Fn_iR {l : Launch} {E : cp_En} {y : MethodName} {bc : ByteArray} {nL : Nat} {rt : FieldType} {d : Nat} {as : List Value} {cnt : Nat} {sh : cp_Shp} {I : cp_Mem} {R : cp_Rem} {r : Int32} {T : cp_Mem → Prop} (L0 : List (Option Value))
    (hy : plainName y.cls = true) (hlen : (lg_sl as).length ≤ nL) (hL : cp_lq 0 L0 = lv_args 0 as) (hn : narrow rt (.int r) = .int r)
    (body : ∀ x : cp_Cx, cp_xl x = l → cp_Ok x E y.cls bc nL d 0 0 →
      (∀ (v : Int32) (I1 : cp_Mem) (pc : Nat) (L : List (Option Value)), decode bc pc = .ok (.ireturn, 1) → v = r → T I1 → cp_G x E nL 0 0 cnt sh I1 R pc L [.int v]) →
      cp_G x E nL 0 0 cnt sh I R 0 L0 []) : cp_Fr l E y bc nL (some rt) d as cnt sh I R (some (.int r)) T :=
  cp_Ct_of hy hlen hL fun x h1 h2 _ h4 _ => body x h1 h2 fun v I1 pc L hd hv hI => h4 rt v cnt sh I1 R pc L rfl (by rw [hv]; exact hn) hd ⟨by rw [hv], rfl, rfl, hI, rfl⟩
theorem cp_Fn_vR {l : Launch} {E : cp_En} {y : MethodName} {bc : ByteArray} {nL : Nat} {d : Nat} {as : List Value} {cnt : Nat} {sh : cp_Shp} {I : cp_Mem} {R : cp_Rem} {T : cp_Mem → Prop} (L0 : List (Option Value))
    (hy : plainName y.cls = true) (hlen : (lg_sl as).length ≤ nL) (hL : cp_lq 0 L0 = lv_args 0 as)
    (body : ∀ x : cp_Cx, cp_xl x = l → cp_Ok x E y.cls bc nL d 0 0 →
      (∀ (I1 : cp_Mem) (pc : Nat) (L : List (Option Value)), decode bc pc = .ok (.return_, 1) → T I1 → cp_G x E nL 0 0 cnt sh I1 R pc L []) →
      cp_G x E nL 0 0 cnt sh I R 0 L0 []) : cp_Fr l E y bc nL none d as cnt sh I R none T :=
  cp_Ct_of hy hlen hL fun x h1 h2 _ _ h5 => body x h1 h2 fun I1 pc L hd hI => h5 cnt sh I1 R pc L rfl hd ⟨rfl, rfl, rfl, hI, rfl⟩
theorem cp_Fr_mono {l : Launch} {E : cp_En} {y : MethodName} {bc : ByteArray} {nL : Nat} {ret : Option FieldType} {d : Nat} {as : List Value} {cnt : Nat} {sh : cp_Shp} {I : cp_Mem} {R : cp_Rem} {v v' : Option Value} {T T' : cp_Mem → Prop} (h : cp_Fr l E y bc nL ret d as cnt sh I R v T) (hv : v = v') (hT : ∀ i, T i → T' i) : cp_Fr l E y bc nL ret d as cnt sh I R v' T' := by
  subst hv
  intro p e h1 h2 h3 s m args below h4 h5 h6 h7
  obtain ⟨k, o, g1, g2, g3, ⟨⟨u, c', s', I', R', q1, ⟨q2, q3, q4, q5, q6⟩, q7⟩, q8⟩, q9⟩ := h p e h1 h2 h3 s m args below h4 h5 h6 h7
  exact ⟨k, o, g1, g2, g3, ⟨⟨u, c', s', I', R', q1, ⟨q2, q3, q4, hT _ q5, q6⟩, q7⟩, q8⟩, q9⟩
section CPR2
variable {x : cp_Cx} {E : cp_En} {own : String} {bc : ByteArray} {nL d mc ms : Nat} {cells slots cnt : Nat} {sh : cp_Shp} {I : cp_Mem} {R : cp_Rem} {pc : Nat} {L : List (Option Value)} {st stk rest As : List Value} {y : MethodName} {cb : ByteArray} {nLc n index dc mcc msc b : Nat} {ret : Option FieldType} {T : cp_Mem → Prop}
theorem cp_cVir (O : cp_Ok x E own bc nL d mc ms) {r : Int32} (hM : cp_me y cb nLc ret n) (hI : cp_mi y) (hlk : Cond.methodLink own index y ∈ cp_TG) {ci : Nat} {TT : u_T} {N : Nat} {ty0 : Nat → FieldType} (hc : cp_clf ci y.cls TT N ty0) (hs : sh b = (ci + 1, 0)) (hC : cp_Fr (cp_xl x) E y cb nLc ret dc (.ref b :: As) cnt sh I R (some (.int r)) T) (hd : decode bc pc = .ok (.invokevirtual index, 3)) (hn : As.length = n) (hst : stk = As.reverse ++ .ref b :: rest) (hr : cp_rl d nLc dc) (hcs : cells ≤ mc ∧ slots ≤ ms) (hrest : (rest.map fun v => v.category).sum ≤ 8) (k : ∀ I', T I' → cp_G x E nL cells slots cnt sh I' R (pc + 3) L (.int r :: rest)) : cp_G x E nL cells slots cnt sh I R pc L stk :=
  cp_callV O hM hI hlk hc hs hC hd hn hst hr hcs hrest fun v c s i r h => by
    obtain ⟨rfl, rfl, rfl, hT, rfl⟩ := h
    exact k _ hT
theorem cp_cVvr (O : cp_Ok x E own bc nL d mc ms) (hM : cp_me y cb nLc ret n) (hI : cp_mi y) (hlk : Cond.methodLink own index y ∈ cp_TG) {ci : Nat} {TT : u_T} {N : Nat} {ty0 : Nat → FieldType} (hc : cp_clf ci y.cls TT N ty0) (hs : sh b = (ci + 1, 0)) (hC : cp_Fr (cp_xl x) E y cb nLc ret dc (.ref b :: As) cnt sh I R none T) (hd : decode bc pc = .ok (.invokevirtual index, 3)) (hn : As.length = n) (hst : stk = As.reverse ++ .ref b :: rest) (hr : cp_rl d nLc dc) (hcs : cells ≤ mc ∧ slots ≤ ms) (hrest : (rest.map fun v => v.category).sum ≤ 8) (k : ∀ I', T I' → cp_G x E nL cells slots cnt sh I' R (pc + 3) L rest) : cp_G x E nL cells slots cnt sh I R pc L stk :=
  cp_callV O hM hI hlk hc hs hC hd hn hst hr hcs hrest fun v c s i r h => by
    obtain ⟨rfl, rfl, rfl, hT, rfl⟩ := h
    exact k _ hT
theorem cp_cSir (O : cp_Ok x E own bc nL d mc ms) {r : Int32} (hM : cp_me y cb nLc ret n) (hst0 : Cond.static y ∈ cp_TG) (hlk : Cond.methodLink own index y ∈ cp_TG) (hC : cp_Fr (cp_xl x) E y cb nLc ret dc As cnt sh I R (some (.int r)) T) (hd : decode bc pc = .ok (.invokestatic index, 3)) (hn : As.length = n) (hst : stk = As.reverse ++ rest) (hr : cp_rl d nLc dc) (hcs : cells ≤ mc ∧ slots ≤ ms) (hrest : (rest.map fun v => v.category).sum ≤ 8) (k : ∀ I', T I' → cp_G x E nL cells slots cnt sh I' R (pc + 3) L (.int r :: rest)) : cp_G x E nL cells slots cnt sh I R pc L stk :=
  cp_callS O hM hst0 hlk hC hd hn hst hr hcs hrest fun v c s i r h => by
    obtain ⟨rfl, rfl, rfl, hT, rfl⟩ := h
    exact k _ hT
theorem cp_cSvr (O : cp_Ok x E own bc nL d mc ms) (hM : cp_me y cb nLc ret n) (hst0 : Cond.static y ∈ cp_TG) (hlk : Cond.methodLink own index y ∈ cp_TG) (hC : cp_Fr (cp_xl x) E y cb nLc ret dc As cnt sh I R none T) (hd : decode bc pc = .ok (.invokestatic index, 3)) (hn : As.length = n) (hst : stk = As.reverse ++ rest) (hr : cp_rl d nLc dc) (hcs : cells ≤ mc ∧ slots ≤ ms) (hrest : (rest.map fun v => v.category).sum ≤ 8) (k : ∀ I', T I' → cp_G x E nL cells slots cnt sh I' R (pc + 3) L rest) : cp_G x E nL cells slots cnt sh I R pc L stk :=
  cp_callS O hM hst0 hlk hC hd hn hst hr hcs hrest fun v c s i r h => by
    obtain ⟨rfl, rfl, rfl, hT, rfl⟩ := h
    exact k _ hT
theorem cp_if_ltL (O : cp_Ok x E own bc nL d mc ms) {a b : Int64} {off : Int} {tgt : Nat} (hd : decode bc pc = .ok (.ifCond .lt off, 3)) (ht : (pc : Int) + off = (tgt : Int)) (kt : a < b → cp_G x E nL cells slots cnt sh I R tgt L st) (kf : ¬ a < b → cp_G x E nL cells slots cnt sh I R (pc + 3) L st) : cp_G x E nL cells slots cnt sh I R pc L (.int (lg_cmp a b) :: st) := cp_if_lt O hd ht (fun h => kt ((lg_cmp_lt a b).mp h)) (fun h => kf (fun e => h ((lg_cmp_lt a b).mpr e)))
theorem cp_if_geL (O : cp_Ok x E own bc nL d mc ms) {a b : Int64} {off : Int} {tgt : Nat} (hd : decode bc pc = .ok (.ifCond .ge off, 3)) (ht : (pc : Int) + off = (tgt : Int)) (kt : b ≤ a → cp_G x E nL cells slots cnt sh I R tgt L st) (kf : ¬ b ≤ a → cp_G x E nL cells slots cnt sh I R (pc + 3) L st) : cp_G x E nL cells slots cnt sh I R pc L (.int (lg_cmp a b) :: st) := cp_if_ge O hd ht (fun h => kt ((lg_cmp_ge a b).mp h)) (fun h => kf (fun e => h ((lg_cmp_ge a b).mpr e)))
theorem cp_if_gtL (O : cp_Ok x E own bc nL d mc ms) {a b : Int64} {off : Int} {tgt : Nat} (hd : decode bc pc = .ok (.ifCond .gt off, 3)) (ht : (pc : Int) + off = (tgt : Int)) (kt : b < a → cp_G x E nL cells slots cnt sh I R tgt L st) (kf : ¬ b < a → cp_G x E nL cells slots cnt sh I R (pc + 3) L st) : cp_G x E nL cells slots cnt sh I R pc L (.int (lg_cmp a b) :: st) := cp_if_gt O hd ht (fun h => kt ((lg_cmp_gt a b).mp h)) (fun h => kf (fun e => h ((lg_cmp_gt a b).mpr e)))
theorem cp_if_leL (O : cp_Ok x E own bc nL d mc ms) {a b : Int64} {off : Int} {tgt : Nat} (hd : decode bc pc = .ok (.ifCond .le off, 3)) (ht : (pc : Int) + off = (tgt : Int)) (kt : a ≤ b → cp_G x E nL cells slots cnt sh I R tgt L st) (kf : ¬ a ≤ b → cp_G x E nL cells slots cnt sh I R (pc + 3) L st) : cp_G x E nL cells slots cnt sh I R pc L (.int (lg_cmp a b) :: st) := cp_if_le O hd ht (fun h => kt ((lg_cmp_le a b).mp h)) (fun h => kf (fun e => h ((lg_cmp_le a b).mpr e)))
theorem cp_if_eqL (O : cp_Ok x E own bc nL d mc ms) {a b : Int64} {off : Int} {tgt : Nat} (hd : decode bc pc = .ok (.ifCond .eq off, 3)) (ht : (pc : Int) + off = (tgt : Int)) (kt : a = b → cp_G x E nL cells slots cnt sh I R tgt L st) (kf : ¬ a = b → cp_G x E nL cells slots cnt sh I R (pc + 3) L st) : cp_G x E nL cells slots cnt sh I R pc L (.int (lg_cmp a b) :: st) := cp_if_eq O hd ht (fun h => kt ((lg_cmp_eq a b).mp h)) (fun h => kf (fun e => h ((lg_cmp_eq a b).mpr e)))
theorem cp_if_neL (O : cp_Ok x E own bc nL d mc ms) {a b : Int64} {off : Int} {tgt : Nat} (hd : decode bc pc = .ok (.ifCond .ne off, 3)) (ht : (pc : Int) + off = (tgt : Int)) (kt : ¬ a = b → cp_G x E nL cells slots cnt sh I R tgt L st) (kf : a = b → cp_G x E nL cells slots cnt sh I R (pc + 3) L st) : cp_G x E nL cells slots cnt sh I R pc L (.int (lg_cmp a b) :: st) := cp_if_ne O hd ht (fun h => kt (fun e => h ((lg_cmp_eq a b).mpr e))) (fun h => kf ((lg_cmp_eq a b).mp h))
end CPR2

