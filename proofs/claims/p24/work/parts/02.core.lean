/-! CORE: one memory of numbers and one of references for all cells that the law makes; a judgement cp_G at a frame over them; rows for the instructions -/
abbrev cp_Mem : Type := Nat → Nat → Int32
abbrev cp_Rem : Type := Nat → Nat → Option Nat
abbrev cp_Shp : Type := Nat → Nat × Nat
/-- the fixed numbers of a run: classes and slots, array classes, the first cell of ours, the cells of the three tables -/
abbrev cp_En : Type := va_G × (Nat → ClassId) × Nat × (Nat → Nat)
abbrev cp_D (E : cp_En) : va_G := E.1
abbrev cp_cs (E : cp_En) : Nat → ClassId := E.2.1
abbrev cp_b0 (E : cp_En) : Nat := E.2.2.1
abbrev cp_ts (E : cp_En) : Nat → Nat := E.2.2.2
def cp_A (E : cp_En) : Nat → Prop := fun q => cp_b0 E ≤ q
def cp_ty (E : cp_En) : List (ClassId × FieldType) := [(cp_cs E 9, .int), (cp_cs E 10, .char), (cp_cs E 11, .object "CopyPlates$Night"), (cp_cs E 12, .object "CopyPlates$Piece"), (cp_cs E 13, .object "CopyPlates$Plate")]
/-- which fields are references -/
def cp_rf (ci j : Nat) : Bool := match ci with
  | 0 => j == 0
  | 1 => j == 0 || j == 2 || j == 4
  | 2 => j == 0
  | 3 => j == 0
  | 6 => true
  | 7 => j == 0 || j == 1 || j == 2 || j == 3 || j == 5 || j == 6 || j == 9
  | _ => false
def cp_nf (ci : Nat) : Nat := match ci with
  | 0 => 3
  | 1 => 6
  | 2 => 7
  | 3 => 2
  | 4 => 10
  | 5 => 3
  | 6 => 6
  | _ => 15
def cp_fv (ci : Nat) (i : Nat → Int32) (r : Nat → Option Nat) (j : Nat) : Value := if cp_rf ci j = true then va_rf (r j) else .int (i j)
def cp_fs (ci : Nat) (i : Nat → Int32) (r : Nat → Option Nat) : List Value := (List.range (cp_nf ci)).map (cp_fv ci i r)
/-- what a cell of kind k holds: 1 to 8 an object of class k - 1, 9 numbers, 10 characters, 11 to 13 references -/
def cp_e (cs : Nat → ClassId) (k : Nat × Nat) (i : Nat → Int32) (r : Nat → Option Nat) : va_E :=
  if k.1 ≤ 8 then .inr (k.1 - 1, cp_fs (k.1 - 1) i r) else if k.1 ≤ 10 then .inl (cs k.1, k.2, .inl i) else .inl (cs k.1, k.2, .inr (.inr (.inr (.inr r))))
def cp_WL (E : cp_En) (cnt : Nat) (sh : cp_Shp) (I : cp_Mem) (R : cp_Rem) : va_W := va_pl (List.range' (cp_b0 E) cnt) (fun a => cp_e (cp_cs E) (sh a) (I a) (R a))
def cp_own (E : cp_En) (cnt : Nat) (sh : cp_Shp) : Prop := ∀ a, (sh a).1 ≠ 0 ↔ (cp_b0 E ≤ a ∧ a < cp_b0 E + cnt)
def cp_PW (E : cp_En) (cnt : Nat) (sh : cp_Shp) (I : cp_Mem) (R : cp_Rem) (H : Heap) : Prop := cp_own E cnt sh ∧ H.size = cp_b0 E + cnt ∧ va_P (cp_D E) vwCl (cp_WL E cnt sh I R) H
theorem cp_WL_get (E : cp_En) (cnt : Nat) (sh : cp_Shp) (I : cp_Mem) (R : cp_Rem) {k : Nat} (h : k < cnt) : (cp_WL E cnt sh I R)[k]? = some (cp_b0 E + k, cp_e (cp_cs E) (sh (cp_b0 E + k)) (I (cp_b0 E + k)) (R (cp_b0 E + k))) := by
  unfold cp_WL va_pl
  rw [List.getElem?_map, List.getElem?_range' h]
  simp
theorem cp_WL_len (E : cp_En) (cnt : Nat) (sh : cp_Shp) (I : cp_Mem) (R : cp_Rem) : (cp_WL E cnt sh I R).length = cnt := by
  simp [cp_WL, va_pl]
theorem cp_WL_at (E : cp_En) (cnt : Nat) (sh : cp_Shp) (I : cp_Mem) (R : cp_Rem) {a : Nat} (h : cp_b0 E ≤ a ∧ a < cp_b0 E + cnt) : (cp_WL E cnt sh I R)[a - cp_b0 E]? = some (a, cp_e (cp_cs E) (sh a) (I a) (R a)) := by
  have h1 := cp_WL_get E cnt sh I R (k := a - cp_b0 E) (by omega)
  rw [show cp_b0 E + (a - cp_b0 E) = a by omega] at h1
  exact h1
theorem cp_WL_D (E : cp_En) (cnt : Nat) (sh : cp_Shp) (I : cp_Mem) (R : cp_Rem) : va_D (cp_A E) (cp_WL E cnt sh I R) := by
  have key : ∀ (k : Nat) (q : Nat × va_E), (cp_WL E cnt sh I R)[k]? = some q → q.1 = cp_b0 E + k := by
    intro k q hk
    have hl := (List.getElem?_eq_some_iff.mp hk).1
    rw [cp_WL_len] at hl
    rw [cp_WL_get E cnt sh I R hl] at hk
    cases hk
    rfl
  refine ⟨fun i j p q hi hj hpq => ?_, fun k q hk => ?_⟩
  · have h1 := key i p hi
    have h2 := key j q hj
    omega
  · have h1 := key k q hk
    show cp_b0 E ≤ q.1
    omega
theorem cp_WL_set {E : cp_En} {cnt : Nat} {sh : cp_Shp} {I I' : cp_Mem} {R R' : cp_Rem} {a : Nat} {e : va_E} (h : cp_b0 E ≤ a ∧ a < cp_b0 E + cnt) (he : e = cp_e (cp_cs E) (sh a) (I' a) (R' a)) (ho : ∀ q, q ≠ a → I' q = I q ∧ R' q = R q) : (cp_WL E cnt sh I R).set (a - cp_b0 E) (a, e) = cp_WL E cnt sh I' R' := by
  apply List.ext_getElem?
  intro k
  by_cases hk : k = a - cp_b0 E
  · subst hk
    rw [List.getElem?_set_self (by rw [cp_WL_len]; omega), cp_WL_at E cnt sh I' R' h, he]
  · rw [List.getElem?_set_ne (Ne.symm hk)]
    by_cases hl : k < cnt
    · rw [cp_WL_get E cnt sh I R hl, cp_WL_get E cnt sh I' R' hl]
      obtain ⟨h1, h2⟩ := ho (cp_b0 E + k) (by omega)
      rw [h1, h2]
    · rw [List.getElem?_eq_none (by rw [cp_WL_len]; omega), List.getElem?_eq_none (by rw [cp_WL_len]; omega)]
/-- writing one number, one reference -/
def cp_wi (I : cp_Mem) (a j : Nat) (v : Int32) : cp_Mem := fun a' j' => if a' = a ∧ j' = j then v else I a' j'
def cp_wr (R : cp_Rem) (a j : Nat) (v : Option Nat) : cp_Rem := fun a' j' => if a' = a ∧ j' = j then v else R a' j'
theorem cp_wi_s (I : cp_Mem) (a j : Nat) (v : Int32) : cp_wi I a j v a j = v := by simp [cp_wi]
theorem cp_wi_a (I : cp_Mem) (a j : Nat) (v : Int32) {a' : Nat} (h : a' ≠ a) : cp_wi I a j v a' = I a' := by
  funext q
  simp [cp_wi, h]
theorem cp_wr_a (R : cp_Rem) (a j : Nat) (v : Option Nat) {a' : Nat} (h : a' ≠ a) : cp_wr R a j v a' = R a' := by
  funext q
  simp [cp_wr, h]
theorem cp_fs_len (ci : Nat) (i : Nat → Int32) (r : Nat → Option Nat) : (cp_fs ci i r).length = cp_nf ci := by simp [cp_fs]
theorem cp_fs_get (ci : Nat) (i : Nat → Int32) (r : Nat → Option Nat) {j : Nat} (h : j < cp_nf ci) : (cp_fs ci i r)[j]? = some (cp_fv ci i r j) := by
  unfold cp_fs
  rw [List.getElem?_map, List.getElem?_range h]
  rfl
theorem cp_fs_set (ci : Nat) {i i' : Nat → Int32} {r r' : Nat → Option Nat} {j : Nat} {v : Value} (hv : v = cp_fv ci i' r' j) (ho : ∀ q, q ≠ j → cp_fv ci i' r' q = cp_fv ci i r q) : (cp_fs ci i r).set j v = cp_fs ci i' r' := by
  apply List.ext_getElem?
  intro k
  by_cases hl : k < cp_nf ci
  · by_cases hk : k = j
    · subst hk
      rw [List.getElem?_set_self (by rw [cp_fs_len]; exact hl), cp_fs_get ci i' r' hl, hv]
    · rw [List.getElem?_set_ne (Ne.symm hk), cp_fs_get ci i r hl, cp_fs_get ci i' r' hl, ho k hk]
  · rw [List.getElem?_eq_none (by rw [List.length_set, cp_fs_len]; omega), List.getElem?_eq_none (by rw [cp_fs_len]; omega)]
/-- the tables' words that stay good -/
def cp_TG : List Cond := lw_tbl.filter goodWord
theorem cp_TG_in {i : Nat} {w : Cond} (h : lw_tbl[i]? = some w) (hg : goodWord w = true) : w ∈ cp_TG := List.mem_filter.mpr ⟨List.mem_of_getElem? h, hg⟩
theorem cp_TG_good : GoodIn cp_TG cp_TG := fun w hw => ⟨hw, good_of_word (List.mem_filter.mp hw).2⟩
/-- words of nest mates, which are carried apart -/
def cp_nF : List (String × Nat × String) := [(RX1, 9, "FIRST_VALUES"), (RX1, 67, "LEAST_VALUES"), (RX1, 70, "GREATEST_VALUES")]
def cp_nM : List (String × Nat × MethodName) := [(RX1, 33, yX4_init), (RX1, 43, yX5_init), (RX1, 89, yX6_oneIf), (RX1, 118, yX6_isInSet)]
def cp_nw (U : State) : Prop := (∀ q ∈ cp_nF, va_Nw (.fieldLinkNest q.1 q.2.1 "CopyPlates" q.2.2 "[I" "CopyPlates") U) ∧ (∀ q ∈ cp_nM, va_Nw (.methodLinkNest q.1 q.2.1 q.2.2 "CopyPlates") U) ∧ va_Nw (.castable "[I" "java/lang/Cloneable") U ∧ va_AO "CopyPlates$Night" U ∧ va_AO "CopyPlates$Piece" U ∧ va_AO "CopyPlates$Plate" U
theorem cp_nw_warm {s U : State} (hW : s.WarmedH U.vm) (h : cp_nw s) : cp_nw U := ⟨fun q hq => va_Nw.warmF hW (h.1 q hq), fun q hq => va_Nw.warmM hW (h.2.1 q hq), va_Nw.warmC hW h.2.2.1, h.2.2.2.1.moved hW.alike, h.2.2.2.2.1.moved hW.alike, h.2.2.2.2.2.moved hW.alike⟩
theorem cp_nw_same {u U : State} (hv : u.vm = U.vm) (h : cp_nw u) : cp_nw U := ⟨fun q hq => va_Nw.same rfl hv (h.1 q hq), fun q hq => va_Nw.same rfl hv (h.2.1 q hq), va_Nw.same rfl hv h.2.2.1, h.2.2.2.1.moved (hv ▸ Vm.Alike.refl u.vm), h.2.2.2.2.1.moved (hv ▸ Vm.Alike.refl u.vm), h.2.2.2.2.2.moved (hv ▸ Vm.Alike.refl u.vm)⟩
def cp_sn : Nat → String
  | 0 => "FIRST_VALUES"
  | 1 => "LEAST_VALUES"
  | _ => "GREATEST_VALUES"
def cp_sv (k j : Nat) : Int32 := match k, j with
  | 0, 0 => 4
  | 0, 1 => 10
  | 0, 2 => 60
  | 0, _ => 5
  | 1, 2 => 10
  | 1, _ => 1
  | _, 0 => 20
  | _, 2 => 400
  | _, _ => 60
/-- the first table is as long as it was, and an array of ints -/
def cp_FX (E : cp_En) (H : Heap) : Prop := ∃ cell : Cell, H[cp_ts E 0]? = some cell ∧ cell.slots.size = 4 ∧ cell.cls = cp_cs E 9
/-- the script: an array of ints that isn't ours -/
def cp_SX (E : cp_En) (U : State) (H : Heap) : Prop := ∃ xs : Nat → Int32, va_X (cp_ts E 3) (cp_ts E 4) xs U H ∧ ¬ cp_A E (cp_ts E 3) ∧ cp_ts E 4 < 100000
theorem cp_SX_moved {E : cp_En} {u U : State} {H : Heap} (hv : u.vm.Alike U.vm) (h : cp_SX E u H) : cp_SX E U H := by
  obtain ⟨xs, h1, h2, h3⟩ := h
  exact ⟨xs, h1.moved hv, h2, h3⟩
theorem cp_SX_kept {E : cp_En} {U : State} {H H1 : Heap} (hq : ∀ a : Nat, a < H.size → ¬ cp_A E a → H1[a]? = H[a]?) (h : cp_SX E U H) : cp_SX E U H1 := by
  obtain ⟨xs, h1, h2, h3⟩ := h
  obtain ⟨scr, e, -⟩ := id h1
  exact ⟨xs, h1.kept (hq _ (Array.getElem?_eq_some_iff.mp e).1 h2), h2, h3⟩
def cp_Z (E : cp_En) (U : State) (H : Heap) : Prop := (∀ k, k < 3 → va_Z "CopyPlates" (cp_sn k) "[I" (.ref (cp_ts E k)) (cp_A E) U H ∧ va_T .int (cp_ts E k) 4 (fun j => .int (cp_sv k j)) (cp_A E) U H) ∧ cp_FX E H ∧ cp_SX E U H
theorem cp_Z_moved {E : cp_En} {u U : State} {H : Heap} (hv : u.vm.Alike U.vm) (h : cp_Z E u H) : cp_Z E U H := ⟨fun k hk => ⟨(h.1 k hk).1.moved hv, (h.1 k hk).2.moved hv⟩, h.2.1, cp_SX_moved hv h.2.2⟩
theorem cp_Z_kept {E : cp_En} {U : State} {H H1 : Heap} (hq : ∀ a : Nat, a < H.size → ¬ cp_A E a → H1[a]? = H[a]?) (h : cp_Z E U H) : cp_Z E U H1 := by
  refine ⟨fun k hk => ⟨(h.1 k hk).1.kept hq, (h.1 k hk).2.kept hq⟩, ?_, cp_SX_kept hq h.2.2⟩
  obtain ⟨cell, h1, h2, h3⟩ := h.2.1
  exact ⟨cell, by rw [hq _ (Array.getElem?_eq_some_iff.mp h1).1 (h.1 0 (by decide)).2.out]; exact h1, h2, h3⟩
def cp_K (E : cp_En) (U : State) : Prop := va_K (cp_D E) vwCl (cp_ty E) U ∧ cp_nw U
theorem cp_K_warm {E : cp_En} {s U : State} (hW : s.WarmedH U.vm) (h : cp_K E s) : cp_K E U := ⟨h.1.moved hW.alike, cp_nw_warm hW h.2⟩
/-- a method's room: d calls below it -/
def cp_rm (d mc ms : Nat) : Room := { frames := d, cells := mc, slots := ms, locals := 12 + 32 * d }
abbrev cp_Cx : Type := Program × Launch × Env × Room × State × MethodId × Array Value × List Frame × Method × Code × (State → Prop)
abbrev cp_xp (x : cp_Cx) : Program := x.1
abbrev cp_xl (x : cp_Cx) : Launch := x.2.1
abbrev cp_xe (x : cp_Cx) : Env := x.2.2.1
abbrev cp_xR (x : cp_Cx) : Room := x.2.2.2.1
abbrev cp_xs (x : cp_Cx) : State := x.2.2.2.2.1
abbrev cp_xm (x : cp_Cx) : MethodId := x.2.2.2.2.2.1
abbrev cp_xa (x : cp_Cx) : Array Value := x.2.2.2.2.2.2.1
abbrev cp_xb (x : cp_Cx) : List Frame := x.2.2.2.2.2.2.2.1
abbrev cp_xk (x : cp_Cx) : Method := x.2.2.2.2.2.2.2.2.1
abbrev cp_xc (x : cp_Cx) : Code := x.2.2.2.2.2.2.2.2.2.1
abbrev cp_xQ (x : cp_Cx) : State → Prop := x.2.2.2.2.2.2.2.2.2.2
abbrev cp_W (x : cp_Cx) (H : Heap) (locs : List Loc) (cells slots : Nat) (g : JFrame) : Prop := W (cp_xp x) (cp_xl x) (cp_xe x) (cp_xR x) (cp_xs x) (cp_xm x) (cp_xa x) (cp_xb x) (cp_xk x) (cp_xc x) H locs cells slots (cp_xQ x) g
/-- the locals as a list, a place each -/
def cp_lq : Nat → List (Option Value) → List (Nat × Value)
  | _, [] => []
  | k, none :: t => cp_lq (k + 1) t
  | k, some v :: t => (k, v) :: cp_lq (k + 1) t
theorem cp_lq_in : ∀ (L : List (Option Value)) (k i : Nat) (v : Value), (i, v) ∈ cp_lq k L ↔ k ≤ i ∧ L[i - k]? = some (some v)
  | [], k, i, v => by simp [cp_lq]
  | none :: t, k, i, v => by
    rw [cp_lq, cp_lq_in t (k + 1) i v]
    constructor
    · rintro ⟨h1, h2⟩
      refine ⟨by omega, ?_⟩
      rw [show i - k = (i - (k + 1)) + 1 by omega]
      simpa using h2
    · rintro ⟨h1, h2⟩
      rcases Nat.eq_or_lt_of_le h1 with h | h
      · subst h; simp at h2
      · refine ⟨h, ?_⟩
        rw [show i - k = (i - (k + 1)) + 1 by omega] at h2
        simpa using h2
  | some w :: t, k, i, v => by
    rw [cp_lq, List.mem_cons, cp_lq_in t (k + 1) i v]
    constructor
    · rintro (h | ⟨h1, h2⟩)
      · cases h; simp
      · refine ⟨by omega, ?_⟩
        rw [show i - k = (i - (k + 1)) + 1 by omega]
        simpa using h2
    · rintro ⟨h1, h2⟩
      rcases Nat.eq_or_lt_of_le h1 with h | h
      · subst h; left; simp at h2; rw [h2]
      · right
        refine ⟨h, ?_⟩
        rw [show i - k = (i - (k + 1)) + 1 by omega] at h2
        simpa using h2
def cp_lH (ls : Array Slot) (nL : Nat) (L : List (Option Value)) : Prop := lv_has ls nL (cp_lq 0 L)
theorem cp_lH_at {ls : Array Slot} {nL : Nat} {L : List (Option Value)} (h : cp_lH ls nL L) {i : Nat} {v : Value} (hv : L[i]? = some (some v)) : ls[i]? = some (.val v) := h.2.2 (i, v) ((cp_lq_in L 0 i v).mpr ⟨Nat.zero_le _, hv⟩)
/-- the judgement at a frame -/
def cp_G (x : cp_Cx) (E : cp_En) (nL cells slots cnt : Nat) (sh : cp_Shp) (I : cp_Mem) (R : cp_Rem) (pc : Nat) (L : List (Option Value)) (st : List Value) : Prop :=
  ∀ (H : Heap) (locs : List Loc) (ls : Array Slot), cp_PW E cnt sh I R H → va_S (cp_A E) (cp_xs x).heap H locs → cp_lH ls nL L → cp_W x H locs cells slots (F0 (cp_xm x) pc ls st)
/-- what holds all through a method's run -/
def cp_Ok (x : cp_Cx) (E : cp_En) (own : String) (bc : ByteArray) (nL d mc ms : Nat) : Prop :=
  (cp_xp x).tables.exec = Jvm.exec ∧ (cp_xc x).code = bc ∧ (cp_xc x).maxLocals = nL ∧ (cp_xs x).vm.findClass own = some (cp_xm x).cls ∧ (∀ w ∈ cp_TG, w.before (cp_xa x) (cp_xs x) = true) ∧ cp_K E (cp_xs x) ∧ cp_Z E (cp_xs x) (cp_xs x).heap ∧ cp_b0 E ≤ (cp_xs x).heap.size ∧
  (d ≤ (cp_xR x).frames ∧ 12 + 32 * d ≤ (cp_xR x).locals ∧ mc ≤ (cp_xR x).cells ∧ ms ≤ (cp_xR x).slots)

