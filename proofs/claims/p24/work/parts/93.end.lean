theorem cp_mW {i : Nat} {w : Cond} {args : Array Value} {s : State} (hts : ∀ w ∈ lw_tbl, w.before args s = true) (h : lw_tbl[i]? = some w) : w.before args s = true := hts w (List.mem_of_getElem? h)
theorem cp_nw_of {args : Array Value} {s : State} (hts : ∀ w ∈ lw_tbl, w.before args s = true) : cp_nw s := by
  refine ⟨fun q hq => ?_, fun q hq => ?_, va_Nw.of rfl (cp_mW (i := 55) hts (by decide +kernel)), va_AO.of (cp_mW (i := 152) hts (by decide +kernel)), va_AO.of (cp_mW (i := 58) hts (by decide +kernel)), va_AO.of (cp_mW (i := 107) hts (by decide +kernel))⟩
  · simp only [cp_nF, List.mem_cons, List.not_mem_nil, or_false] at hq
    rcases hq with rfl | rfl | rfl
    · exact va_Nw.of rfl (cp_mW (i := 48) hts (by decide +kernel))
    · exact va_Nw.of rfl (cp_mW (i := 454) hts (by decide +kernel))
    · exact va_Nw.of rfl (cp_mW (i := 456) hts (by decide +kernel))
  · simp only [cp_nM, List.mem_cons, List.not_mem_nil, or_false] at hq
    rcases hq with rfl | rfl | rfl | rfl
    · exact va_Nw.of rfl (cp_mW (i := 60) hts (by decide +kernel))
    · exact va_Nw.of rfl (cp_mW (i := 109) hts (by decide +kernel))
    · exact va_Nw.of rfl (cp_mW (i := 244) hts (by decide +kernel))
    · exact va_Nw.of rfl (cp_mW (i := 317) hts (by decide +kernel))
theorem cp_arrC {args : Array Value} {s : State} {ty : FieldType} (h : (Cond.arrayClass ty).before args s = true) : ∃ cA : ClassId, ArrOfT s cA ty ∧ s.vm.findClass ("[" ++ ty.toString) = some cA := by
  obtain ⟨c, k, comp, h1, h2, h3⟩ := Cond.arrayClass_spec h
  exact ⟨c, fun n z => ⟨fun k h => (by cases h), k, h2, comp, h3⟩, h1⟩
theorem cp_arrO {args : Array Value} {s : State} {C : String} (h : (Cond.arrayOver (.object C)).before args s = true) : ∃ cA : ClassId, ArrOfT s cA (.object C) ∧ va_RA s cA (.object C) := by
  obtain ⟨comp, c, k, h1, h2, h3, h4, h5⟩ := Cond.arrayOver_spec h
  exact ⟨c, fun n z => ⟨fun k h => (by cases h), k, h3, comp, h4⟩, k, comp, h3, h4, h1, h5⟩
theorem cp_tab {args : Array Value} {s : State} {n : String} {z : Nat → Int32} {A : Nat → Prop} (hl : (Cond.laysStatic "CopyPlates" n "[I").before args s = true) (hini : (Cond.initialized "CopyPlates").before args s = true)
    (harr : (Cond.arrayOf (.static "CopyPlates" n "[I") .int).before args s = true) (hlen : (Cond.eq (.length (.static "CopyPlates" n "[I")) (.int 4)).before args s = true)
    (h0 : (Cond.eq (.elem (.static "CopyPlates" n "[I") (.int 0)) (.int (z 0))).before args s = true) (h1 : (Cond.eq (.elem (.static "CopyPlates" n "[I") (.int 1)) (.int (z 1))).before args s = true)
    (h2 : (Cond.eq (.elem (.static "CopyPlates" n "[I") (.int 2)) (.int (z 2))).before args s = true) (h3 : (Cond.eq (.elem (.static "CopyPlates" n "[I") (.int 3)) (.int (z 3))).before args s = true)
    (hA : ∀ a : Nat, a < s.heap.size → ¬ A a) : ∃ t : Nat, (Term.static "CopyPlates" n "[I").eval args s none [] s = some (.ref t) ∧ va_Z "CopyPlates" n "[I" (.ref t) A s s.heap ∧ va_T .int t 4 (fun j => .int (z j)) A s s.heap := by
  have hel : ∀ j : Nat, j < 4 → (Term.elem (.static "CopyPlates" n "[I") (.int (Int32.ofNat j))).eval args s none [] s = some (.int (z j)) := fun j hj => match j, hj with
    | 0, _ => va_eqt h0
    | 1, _ => va_eqt h1
    | 2, _ => va_eqt h2
    | 3, _ => va_eqt h3
    | j + 4, h => absurd h (by omega)
  obtain ⟨t, e, hT⟩ := va_Tof (N := 4) (f := fun j => .int (z j)) (A := A) (by decide) harr (va_eqt hlen) hel hA
  exact ⟨t, e, va_Zof hl hini e hA, hT⟩
theorem cp_len4 {args : Array Value} {s : State} {tm : Term} {t : Nat} {cI : ClassId} (hlen : (Term.length tm).eval args s none [] s = some (.int 4)) (e : tm.eval args s none [] s = some (.ref t)) (hex : (Cond.exactly tm "[I").before args s = true) (hc : s.vm.findClass "[I" = some cI) : ∃ cell : Cell, s.heap[t]? = some cell ∧ cell.slots.size = 4 ∧ cell.cls = cI := by
  obtain ⟨a, cell, ht, hat, hv⟩ := Term.length_spec hlen
  cases e.symm.trans ht
  have hcell := (State.arrayAt?_spec hat).1
  have hn : cell.slots.size < 2147483648 := by
    by_cases hn : cell.slots.size < 2147483648
    · exact hn
    · exfalso
      simp [Term.eval, e, hat, hn] at hlen
  have h4 : cell.slots.size = 4 := by
    have h := Value.int.inj hv
    exact (nI_eq (a := cell.slots.size) (b := 4) (by omega) (by decide)).mp h.symm
  obtain ⟨a', c', cell', k', e1, e2, e3, e4, -, e6, -⟩ := Cond.exactly_spec hex
  cases e.symm.trans e1
  cases hcell.symm.trans e3
  cases hc.symm.trans e2
  exact ⟨cell, hcell, h4, e6⟩
set_option maxHeartbeats 4000000 in
set_option maxRecDepth 100000 in
theorem cp_start_K {args : Array Value} {s : State} (hts : ∀ w ∈ lw_tbl, w.before args s = true) (b0 : Nat) (ts : Nat → Nat) : ∃ (D : va_G) (cs : Nat → ClassId), cp_K (D, cs, b0, ts) s ∧ s.vm.findClass "[I" = some (cs 9) := by
  have ht : ∀ w ∈ cp_TG, w.before args s = true := fun w hw => hts w (List.mem_filter.mp hw).1
  obtain ⟨d0, i0, k0⟩ := u_known ht cp_cX0.2.1 (ht _ ci_X0)
  obtain ⟨d1, i1, k1⟩ := u_known ht cp_cX1.2.1 (ht _ ci_X1)
  obtain ⟨d2, i2, k2⟩ := u_known ht cp_cX2.2.1 (ht _ ci_X2)
  obtain ⟨d3, i3, k3⟩ := u_known ht cp_cX3.2.1 (ht _ ci_X3)
  obtain ⟨d4, i4, k4⟩ := u_known ht cp_cX4.2.1 (ht _ ci_X4)
  obtain ⟨d5, i5, k5⟩ := u_known ht cp_cX5.2.1 (ht _ ci_X5)
  obtain ⟨d6, i6, k6⟩ := u_known ht cp_cX6.2.1 (ht _ ci_X6)
  obtain ⟨c9, a9, f9⟩ := cp_arrC (ht _ cp_ac_9)
  obtain ⟨c10, a10, f10⟩ := cp_arrC (ht _ cp_ac_10)
  obtain ⟨c11, a11, f11⟩ := cp_arrO (C := "CopyPlates$Night") (cp_mW (i := 152) hts (by decide +kernel))
  obtain ⟨c12, a12, f12⟩ := cp_arrO (C := "CopyPlates$Piece") (cp_mW (i := 58) hts (by decide +kernel))
  obtain ⟨c13, a13, f13⟩ := cp_arrO (C := "CopyPlates$Plate") (cp_mW (i := 107) hts (by decide +kernel))
  refine ⟨((fun c => match c with
    | 0 => d0
    | 1 => d1
    | 2 => d2
    | 3 => d3
    | 4 => d4
    | 5 => d5
    | _ => d6), (fun c => match c with
    | 0 => i0
    | 1 => i1
    | 2 => i2
    | 3 => i3
    | 4 => i4
    | 5 => i5
    | _ => i6)), (fun k => match k with
    | 9 => c9
    | 10 => c10
    | 11 => c11
    | 12 => c12
    | _ => c13), ⟨⟨fun c q hq => ?_, fun k q hq => ?_⟩, cp_nw_of hts⟩, f9⟩
  · match c, hq with
    | 0, hq => cases hq; exact k0
    | 1, hq => cases hq; exact k1
    | 2, hq => cases hq; exact k2
    | 3, hq => cases hq; exact k3
    | 4, hq => cases hq; exact k4
    | 5, hq => cases hq; exact k5
    | 6, hq => cases hq; exact k6
    | n + 7, hq => simp [vwCl] at hq
  · match k, hq with
    | 0, hq => cases hq; exact ⟨a9, f9⟩
    | 1, hq => cases hq; exact ⟨a10, f10⟩
    | 2, hq => cases hq; exact ⟨a11, f11⟩
    | 3, hq => cases hq; exact ⟨a12, f12⟩
    | 4, hq => cases hq; exact ⟨a13, f13⟩
    | n + 5, hq => simp [cp_ty] at hq
set_option maxHeartbeats 4000000 in
set_option maxRecDepth 100000 in
theorem cp_start_T {args : Array Value} {s : State} (hts : ∀ w ∈ lw_tbl, w.before args s = true) (hs : ∀ c ∈ flatC (Jvm.Cond.and given_1 narrow_1), c.before args s = true) {A : Nat → Prop} (hA : ∀ a : Nat, a < s.heap.size → ¬ A a) (b L : Nat) :
    ∃ ts : Nat → Nat, ts 3 = b ∧ ts 4 = L ∧ (∀ k, k < 3 → va_Z "CopyPlates" (cp_sn k) "[I" (.ref (ts k)) A s s.heap ∧ va_T .int (ts k) 4 (fun j => .int (cp_sv k j)) A s s.heap) ∧ (Term.static "CopyPlates" "FIRST_VALUES" "[I").eval args s none [] s = some (.ref (ts 0)) := by
  have hini := cp_mW (i := 25) (w := .initialized "CopyPlates") hts (by decide +kernel)
  obtain ⟨t0, e0, z0, v0⟩ := cp_tab (n := "FIRST_VALUES") (z := cp_sv 0) (A := A) (cp_mW (i := 49) hts (by decide +kernel)) hini (hs _ (by decide +kernel)) (hs _ (by decide +kernel)) (hs _ (by decide +kernel)) (hs _ (by decide +kernel)) (hs _ (by decide +kernel)) (hs _ (by decide +kernel)) hA
  obtain ⟨t1, e1, z1, v1⟩ := cp_tab (n := "LEAST_VALUES") (z := cp_sv 1) (A := A) (cp_mW (i := 455) hts (by decide +kernel)) hini (hs _ (by decide +kernel)) (hs _ (by decide +kernel)) (hs _ (by decide +kernel)) (hs _ (by decide +kernel)) (hs _ (by decide +kernel)) (hs _ (by decide +kernel)) hA
  obtain ⟨t2, e2, z2, v2⟩ := cp_tab (n := "GREATEST_VALUES") (z := cp_sv 2) (A := A) (cp_mW (i := 457) hts (by decide +kernel)) hini (hs _ (by decide +kernel)) (hs _ (by decide +kernel)) (hs _ (by decide +kernel)) (hs _ (by decide +kernel)) (hs _ (by decide +kernel)) (hs _ (by decide +kernel)) hA
  refine ⟨fun k => match k with
    | 0 => t0
    | 1 => t1
    | 2 => t2
    | 3 => b
    | _ => L, rfl, rfl, fun k hk => ?_, e0⟩
  match k, hk with
  | 0, _ => exact ⟨z0, v0⟩
  | 1, _ => exact ⟨z1, v1⟩
  | 2, _ => exact ⟨z2, v2⟩
  | n + 3, h => omega
/-! THE CLAIM OUT OF ONE WALK OF THE LAW'S BODY. Your part is whole_start (and what it stands on); all else here is the same for every law, but numbers. -/
def R_law : String := "CopyPlatesLaw"
def lw_P (b : Addr) (xs : List Int32) (args : Array Value) (s : State) : Prop := args = #[.ref b] ∧ s.IntsAt b xs ∧ xs.length ≤ 260 ∧ (Jvm.Cond.and given_1 narrow_1).before args s = true
def lw_Q (_ : Array Value) (s : State) (o : Outcome) (t : State) : Prop := o = .returned (some (.int 1)) ∧ Framed s o t [] 628374 7217125
def lw_Z (below : List Frame) (a : Array Value) (s : State) : State → Prop := fun t => ∃ o, t.status = .running ∧ Ended t below o ∧ lw_Q a s o t
/-- the law's own end, with 1 on the stack, nothing written that was there before, its room as the claim has it -/
theorem lw_ret {p : Program} {l : Launch} {e : Env} {s : State} {m : MethodId} {below : List Frame} {meth : Method} {c : Code} {b : Nat} (hx : p.tables.exec = Jvm.exec) (hb : c.code = code) (hr : meth.sig.returnType = ret) (hlocks : meth.locks = false) {pc : Nat} {H : Heap} {ls : Array Slot} (hdg : decode code pc = .ok (.ireturn, 1)) : W p l e room_1 s m #[Value.ref b] below meth c H [] 628374 7217125 (lw_Z below #[Value.ref b] s) (F0 m pc ls [.int 1]) := by
  intro T hT X
  obtain ⟨fs, hret, hrun, hended, hW, hframe⟩ := X.leave (v := some (.int 1)) (hlocks := hlocks) (fun h => by rw [hr] at h; cases h)
  have hmeth' : T.vm.method? m = some meth := X.method'
  refine ⟨T.setFrames fs, ?_, .returned (some (.int 1)), hrun, hended, rfl, ⟨_, rfl⟩, hW, hframe⟩
  jvm_step X.here [X.here.top, hx, hb, hdg, hmeth', hr, ret, narrow_b1]
  (try refine ⟨rfl, ?_⟩); (try refine ⟨rfl, ?_⟩)
  first | (intro acts; rw [hret _ acts rfl rfl rfl]) | rw [hret _ _ rfl rfl rfl]
  exact Steps.refl _
/-- what holds at the law's entry: the machine, the code, the tables' words (any of lw_tbl by 'hts w (by decide +kernel)'), the script of L ints xs at the cell b, what the Statement gives of the start (any of its parts by flat_of_before) -/
def lw_At (p : Program) (s : State) (m : MethodId) (meth : Method) (c : Code) (b L : Nat) (xs : Nat → Int32) : Prop :=
  p.tables.exec = Jvm.exec ∧ c.code = code ∧ meth.sig.returnType = ret ∧ c.maxLocals = 5 ∧ s.vm.findClass R_law = some m.cls ∧ (∀ w ∈ lw_tbl, w.before #[Value.ref b] s = true) ∧ va_X b L xs s s.heap ∧ b < s.heap.size ∧ meth.locks = false ∧ (Jvm.Cond.and given_1 narrow_1).before #[Value.ref b] s = true
set_option maxHeartbeats 4000000 in
set_option maxRecDepth 100000 in
theorem whole_start {p : Program} {e : Env} {s : State} {m : MethodId} {below : List Frame} {meth : Method} {c : Code} (l : Launch) (hflags : l.flags = flags0) {b L : Nat} {xs : Nat → Int32} (hL : L ≤ 260) (C0 : lw_At p s m meth c b L xs) : W p l e room_1 s m #[Value.ref b] below meth c s.heap [] 0 0 (lw_Z below #[Value.ref b] s) (entryFrame m ([Value.ref b] : List Value).toArray 5) := by
  obtain ⟨hx, hcb, hret, hml, hown, hts, hX, hbl, hlk, hgv⟩ := C0
  have hs := flat_of_before _ hgv
  obtain ⟨ts, t3, t4, hZ, e0⟩ := cp_start_T hts hs (A := fun q => s.heap.size ≤ q) (fun a h => Nat.not_le.mpr h) b L
  obtain ⟨D, cs, hK, f9⟩ := cp_start_K hts s.heap.size ts
  have hFX : cp_FX (D, cs, s.heap.size, ts) s.heap := cp_len4 (va_eqt (hs _ (by decide +kernel))) e0 (hs _ (by decide +kernel)) f9
  have hSX : cp_SX (D, cs, s.heap.size, ts) s s.heap := ⟨xs, by
    show va_X (ts 3) (ts 4) xs s s.heap
    rw [t3, t4]
    exact hX, by
    show ¬ s.heap.size ≤ ts 3
    rw [t3]
    exact Nat.not_le.mpr hbl, by
    show ts 4 < 100000
    rw [t4]
    omega⟩
  have O : cp_Ok (p, l, e, room_1, s, m, #[Value.ref b], below, meth, c, lw_Z below #[Value.ref b] s) (D, cs, s.heap.size, ts) RL cL_law 5 9 628374 7217125 :=
    ⟨hx, hcb, hml, hown, fun w hw => hts w (List.mem_filter.mp hw).1, hK, ⟨hZ, hFX, hSX⟩, Nat.le_refl _, Nat.le_of_ble_eq_true rfl, Nat.le_of_ble_eq_true rfl, Nat.le_of_ble_eq_true rfl, Nat.le_of_ble_eq_true rfl⟩
  have fin : ∀ cnt sh I R L, cp_G (p, l, e, room_1, s, m, #[Value.ref b], below, meth, c, lw_Z below #[Value.ref b] s) (D, cs, s.heap.size, ts) 5 628374 7217125 cnt sh I R 97 L [.int 1] := fun cnt sh I R L H locs ls hW hS hl =>
    va_forget (fun q hq => hS.2.2 q hq) (lw_ret hx hcb hret hlk dL_law_97)
  rw [lg_entry_eq]
  have hl := lv_entry [Value.ref b] (n := 5) (Nat.le_of_ble_eq_true rfl)
  generalize (lg_sl [Value.ref b] ++ List.replicate (5 - (lg_sl [Value.ref b]).length) Slot.unset).toArray = ls at hl ⊢
  have K := law_all O fin
  have K : cp_G (p, l, e, room_1, s, m, #[Value.ref b], below, meth, c, lw_Z below #[Value.ref b] s) (D, cs, s.heap.size, ts) 5 0 0 0 (fun _ => (0, 0)) (fun _ _ => 0) (fun _ _ => none) 0 [some (.ref (ts 3)), none, none, none, none] [] := K
  rw [t3] at K
  refine K s.heap [] ls ⟨fun a => ⟨fun h => absurd rfl h, fun h => ?_⟩, rfl, fun k q hk => ?_⟩ va_S.rf hl
  · exfalso
    have h1 : s.heap.size ≤ a := h.1
    have h2 : a < s.heap.size + 0 := h.2
    omega
  · simp [cp_WL, va_pl] at hk
set_option maxHeartbeats 4000000 in
theorem lw_walk (l : Launch) (hflags : l.flags = flags0) (b : Addr) (xs : List Int32) : MetFree l x (headSpec (Jvm.Cond.code x code maxLocals ret :: tables_1) room_1) (lw_P b xs) (fun _ _ _ _ _ => True) lw_Q := by
  refine MetFree.of_bodyS (code := code) (maxLocals := maxLocals) (ret := ret) (by decide) ?_ ?_
  · intro args s m h hn
    obtain ⟨meth, c, h1, h2, h3, h4, h5, h6, -, -⟩ := Cond.code_spec hn (atoms_spec (ws := Jvm.Cond.code x code maxLocals ret :: tables_1) h _ List.mem_cons_self)
    exact ⟨meth, c, h1, h2, h3, h4, h5, h6⟩
  · intro p e s m args below meth c s₁ B hml0 hP _
    obtain ⟨rfl, hx, hbd, hgv⟩ := hP
    obtain ⟨scr, harrAt, hlist, hof, hsmall⟩ := hx
    obtain ⟨hcb, hkn, -, -⟩ := State.arrayAt?_spec harrAt
    have hown : s.vm.findClass R_law = some m.cls := findClass_of_methodNamed B.named
    have hts0 : ∀ c ∈ (Jvm.Cond.code x code maxLocals ret :: tables_1), c.before #[Value.ref b] s = true := atoms_spec (ws := Jvm.Cond.code x code maxLocals ret :: tables_1) B.pre
    have hts : ∀ w ∈ lw_tbl, w.before #[Value.ref b] s = true := k2_hts_sels lw_privs (fun w hw => hts0 w (List.mem_cons_of_mem _ hw)) lw_privs_ok
    have hml : c.maxLocals = 5 := B.maxLocals_eq (hts0 _ List.mem_cons_self)
    have X₀ : Stand p l e room_1 s m #[Value.ref b] below meth c s₁ [] 0 0 := Stand.of_body B
    have hh0 : s₁.heap = s.heap := by rw [B.state]; rfl
    have hsz : scr.slots.size = xs.length := by rw [← Array.length_toList, hlist, List.length_map]
    have hval : ∀ j : Nat, j < xs.length → scr.slots[j]? = some (.int (xs.getD j 0)) := fun j hj => by
      rw [← Array.getElem?_toList, hlist]
      simp [hj]
    have hbl : b < s.heap.size := (Array.getElem?_eq_some_iff.mp hcb).1
    have hX : va_X b xs.length (fun j => xs.getD j 0) s s.heap := ⟨scr, hcb, hof, hkn, hsz, hval⟩
    have K : W p l e room_1 s m #[Value.ref b] below meth c s₁.heap [] 0 0 (lw_Z below #[Value.ref b] s) (entryFrame m ([Value.ref b] : List Value).toArray 5) := by
      rw [hh0]
      exact whole_start l hflags hbd ⟨B.exec, B.bytes, B.returns, hml, hown, hts, hX, hbl, B.notSynchronized, hgv⟩
    obtain ⟨t, a1, o, b1, b2, b3⟩ := K s₁ rfl X₀
    exact ⟨t, o, a1, b1, b2, b3⟩
theorem lw_pre_spec {args : Array Value} {s : State} (h : (Jvm.Cond.and given_1 narrow_1).before args s = true) (hr : rest_1_c.before args s = true) : ∃ (b : Addr) (xs : List Int32), lw_P b xs args s := by
  have hs := flat_of_before _ h
  have hq := flat_of_before _ hr
  have hc : (Cond.count 1).before args s = true := hs _ (by decide +kernel)
  have harr : (Cond.arrayOf (.arg 0) .int).before args s = true := hs _ (by decide +kernel)
  have hle : (Cond.le (.length (.arg 0)) (.int 260)).before args s = true := hs _ (by decide +kernel)
  have hlen : (Cond.isInt (.length (.arg 0))).before args s = true := hq _ (by decide +kernel)
  have hall : (Cond.all (.arg 0) (.isInt (.elem (.arg 0) (.index 0)))).before args s = true := hq _ (by decide +kernel)
  obtain ⟨b, xs, hb, hx⟩ := State.ints_of_pre rfl harr hlen hall
  have hsm : xs.length < 2 ^ 31 := hx.choose_spec.2.2.2
  have hev : (Term.length (.arg 0)).eval args s none [] s = some (.int xs.length.toInt32) := hx.length_eval hb
  have hv := Cond.le_ints hev (show (Term.int 260).eval args s none [] s = some (.int 260) from rfl)
  have hd : xs.length.toInt32 ≤ 260 := by
    simpa [Cond.before, Cond.holds, hv] using hle
  have hN : xs.length ≤ 260 := (Int32.ofNat_le_ofNat hsm (by decide)).mp (show Int32.ofNat xs.length ≤ Int32.ofNat 260 from hd)
  exact ⟨b, xs, Cond.one_arg hc (show args[0]? = some (.ref b) from hb), hx, hN, h⟩
theorem lw_comes (l : Launch) (hflags : l.flags = flags0) : Comes l x (Jvm.Cond.code x code maxLocals ret :: tables_1) room_1 (fun tb e args s => Calls_1 tb e args s ∧ rest_1 tb e args s ∧ Pre_1 tb e args s)
    (fun _ _ args s o t => lw_Q args s o t) := by
  intro p e ha hc hk s m args below hf hfit hheap happ hpre
  obtain ⟨b, xs, hP⟩ := lw_pre_spec hpre.2.2 hpre.2.1
  obtain ⟨k, o, h1, h2, h3, hQ⟩ := lw_walk l hflags b xs p e ha hc hk s m args below hf ((Spec.applies_iff_loose hf).mp happ).1 hP trivial
  exact ⟨k, o, h1, h2, h3, hQ⟩
theorem lw_frame {s t : State} {o : Outcome} {args : Array Value} (h : Framed s o t [] 628374 7217125) :
    Framed s o t (fieldLocs frame_1_writes args s ++ arrayLocs frame_1_arrays args s ++ staticLocs frame_1_statics s) 628374 7217125 := h
theorem lw_limb (L : Cond) (hL : ∀ (args : Array Value) (s t : State), L.after args s (.returned (some (.int 1))) t = true) :
    ArmFor flags0 classFile x code maxLocals ret World_1 tables_1 room_1 Calls_1 rest_1 Pre_1
      (fun tb e a s o t => postC L tb e a s o t ∧ Framed s o t (fieldLocs frame_1_writes a s ++ arrayLocs frame_1_arrays a s ++ staticLocs frame_1_statics s) 628374 7217125) := by
  intro l hflags _ _ p e ha hc hk s m args below hf hfit hheap happ hpre
  obtain ⟨k, o, h1, h2, h3, rfl, hF⟩ := lw_comes l hflags p e ha hc hk s m args below hf hfit hheap happ hpre
  exact ⟨k, _, h1, h2, h3, hL args s _, lw_frame hF⟩
theorem i_vc : Claimed_1_1 ∧ Claimed_1_2 := ⟨lw_limb limb_1_1 (fun args s t => by simp [limb_1_1, Cond.after, Cond.holds, Cond.value]), lw_limb limb_1_2 (fun args s t => Cond.after_iff.mpr (by
  first | (rw [show limb_1_2 = Cond.eq .result (.int 1) from rfl, Cond.eq_ints (x := 1) (y := 1) rfl rfl]; simp; done) | (simp [limb_1_2, Cond.value, Term.eval]; done)))⟩
