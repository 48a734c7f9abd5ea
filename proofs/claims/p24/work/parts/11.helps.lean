theorem cp_up {n : Nat} {P : Nat → Prop} (h : ∀ i, i ≤ n → (i < n → P (i + 1)) → P i) : ∀ i, i ≤ n → P i := by
  have key : ∀ k i, i + k = n → P i := by
    intro k
    induction k with
    | zero => intro i hi; exact h i (by omega) (fun hl => absurd hl (by omega))
    | succ k ih => intro i hi; exact h i (by omega) (fun _ => ih (i + 1) (by omega))
  intro i hi
  exact key (n - i) i (by omega)
theorem cp_down {P : Nat → Prop} (h : ∀ i, (0 < i → P (i - 1)) → P i) : ∀ i, P i := by
  intro i
  induction i with
  | zero => exact h 0 (fun q => absurd q (by omega))
  | succ k ih => exact h (k + 1) (fun _ => ih)
theorem cp_ad {x y : Int32} {a b : Nat} (hx : x = nI a) (hy : y = nI b) : x + y = nI (a + b) := by rw [hx, hy, nI_add]
theorem cp_mu {x y : Int32} {a b : Nat} (hx : x = nI a) (hy : y = nI b) : x * y = nI (a * b) := by rw [hx, hy, pk_mul]
theorem cp_sb {x y : Int32} {a b : Nat} (hx : x = nI a) (hy : y = nI b) (h : b ≤ a) : x - y = nI (a - b) := by rw [hx, hy, pk_sub h]
theorem cp_inc {x : Int32} {i : Nat} (hx : x = nI i) : x + Int32.ofInt 1 = nI (i + 1) := by rw [hx]; exact nI_1 i
theorem cp_dec {x : Int32} {i : Nat} (hx : x = nI i) (h : 0 < i) : x + Int32.ofInt (-1) = nI (i - 1) := by
  obtain ⟨j, rfl⟩ : ∃ j, i = j + 1 := ⟨i - 1, by omega⟩
  rw [hx]
  exact pk_m1 j
def cp_bi (b : Bool) : Int32 := if b = true then 1 else 0
theorem cp_bi01 (b : Bool) : cp_bi b = 0 ∨ cp_bi b = 1 := by cases b <;> simp [cp_bi]
theorem cp_bin (b : Bool) : narrow .boolean (.int (cp_bi b)) = .int (cp_bi b) := (cp_narb (cp_bi01 b)).1
theorem cp_bi_t {b : Bool} (h : b = true) : (1 : Int32) = cp_bi b := by rw [h]; rfl
theorem cp_bi_f {b : Bool} (h : b = false) : (0 : Int32) = cp_bi b := by rw [h]; rfl
theorem cp_bi_td {p : Prop} [Decidable p] (h : p) : (1 : Int32) = cp_bi (decide p) := cp_bi_t (decide_eq_true h)
theorem cp_bi_fd {p : Prop} [Decidable p] (h : ¬ p) : (0 : Int32) = cp_bi (decide p) := cp_bi_f (decide_eq_false h)
theorem cp_bi0 {b : Bool} : cp_bi b = 0 ↔ b = false := by cases b <;> simp [cp_bi]
theorem cp_bi1 {b : Bool} : cp_bi b = 1 ↔ b = true := by cases b <;> simp [cp_bi]
def cp_LW (L L' : List (Option Value)) : Prop := ∀ (i : Nat) (v : Value), L'[i]? = some (some v) → L[i]? = some (some v)
theorem cp_lw0 : cp_LW [] [] := fun _ _ h => h
theorem cp_lws {a : Option Value} {L L' : List (Option Value)} (h : cp_LW L L') : cp_LW (a :: L) (a :: L') := fun i v hv => by
  cases i with
  | zero => simpa using hv
  | succ i => simp only [List.getElem?_cons_succ] at hv ⊢; exact h i v hv
theorem cp_lwn {a : Option Value} {L L' : List (Option Value)} (h : cp_LW L L') : cp_LW (a :: L) (none :: L') := fun i v hv => by
  cases i with
  | zero => simp at hv
  | succ i => simp only [List.getElem?_cons_succ] at hv ⊢; exact h i v hv
section CPH
variable {x : cp_Cx} {E : cp_En} {own : String} {bc : ByteArray} {nL d mc ms : Nat} {cells slots cnt : Nat} {sh : cp_Shp} {I : cp_Mem} {R : cp_Rem} {pc : Nat} {L : List (Option Value)} {st : List Value}
theorem cp_Gw {L' : List (Option Value)} (h : cp_LW L L') (k : cp_G x E nL cells slots cnt sh I R pc L' st) : cp_G x E nL cells slots cnt sh I R pc L st := fun H locs ls hW hS hl => k H locs ls hW hS ⟨hl.1, hl.2.1, fun q hq => by
  obtain ⟨i, v⟩ := q
  have h1 := ((cp_lq_in L' 0 i v).mp hq).2
  exact hl.2.2 (i, v) ((cp_lq_in L 0 i v).mpr ⟨Nat.zero_le _, h i v h1⟩)⟩
theorem cp_GI {I' : cp_Mem} (h : I = I') (k : cp_G x E nL cells slots cnt sh I' R pc L st) : cp_G x E nL cells slots cnt sh I R pc L st := h ▸ k
theorem cp_GL {L' : List (Option Value)} (h : L = L') (k : cp_G x E nL cells slots cnt sh I R pc L' st) : cp_G x E nL cells slots cnt sh I R pc L st := h ▸ k
theorem cp_GS {st' : List Value} (h : st = st') (k : cp_G x E nL cells slots cnt sh I R pc L st') : cp_G x E nL cells slots cnt sh I R pc L st := h ▸ k
theorem cp_Gc {cells' slots' : Nat} (h1 : cells ≤ cells') (h2 : slots ≤ slots') (k : cp_G x E nL cells' slots' cnt sh I R pc L st) : cp_G x E nL cells slots cnt sh I R pc L st := fun H locs ls hW hS hl => W.widen h1 h2 (k H locs ls hW hS hl)
theorem cp_icmp_eqN (O : cp_Ok x E own bc nL d mc ms) {x0 y0 : Int32} {a b : Nat} {off : Int} {tgt : Nat} (hd : decode bc pc = .ok (.if_icmp .eq off, 3)) (ht : (pc : Int) + off = (tgt : Int)) (hx : x0 = nI a) (hy : y0 = nI b) (ha : a < 2 ^ 31) (hb : b < 2 ^ 31) (kt : a = b → cp_G x E nL cells slots cnt sh I R tgt L st) (kf : a ≠ b → cp_G x E nL cells slots cnt sh I R (pc + 3) L st) : cp_G x E nL cells slots cnt sh I R pc L (.int y0 :: .int x0 :: st) := cp_icmp_eq O hd ht (fun h => kt ((nI_eq ha hb).mp (by rw [← hx, ← hy]; exact h))) (fun h => kf (fun e => h (by rw [hx, hy, e])))
theorem cp_icmp_neN (O : cp_Ok x E own bc nL d mc ms) {x0 y0 : Int32} {a b : Nat} {off : Int} {tgt : Nat} (hd : decode bc pc = .ok (.if_icmp .ne off, 3)) (ht : (pc : Int) + off = (tgt : Int)) (hx : x0 = nI a) (hy : y0 = nI b) (ha : a < 2 ^ 31) (hb : b < 2 ^ 31) (kt : a ≠ b → cp_G x E nL cells slots cnt sh I R tgt L st) (kf : a = b → cp_G x E nL cells slots cnt sh I R (pc + 3) L st) : cp_G x E nL cells slots cnt sh I R pc L (.int y0 :: .int x0 :: st) := cp_icmp_ne O hd ht (fun h => kt (fun e => h (by rw [hx, hy, e]))) (fun h => kf ((nI_eq ha hb).mp (by rw [← hx, ← hy]; exact h)))
theorem cp_icmp_ltN (O : cp_Ok x E own bc nL d mc ms) {x0 y0 : Int32} {a b : Nat} {off : Int} {tgt : Nat} (hd : decode bc pc = .ok (.if_icmp .lt off, 3)) (ht : (pc : Int) + off = (tgt : Int)) (hx : x0 = nI a) (hy : y0 = nI b) (ha : a < 2 ^ 31) (hb : b < 2 ^ 31) (kt : a < b → cp_G x E nL cells slots cnt sh I R tgt L st) (kf : b ≤ a → cp_G x E nL cells slots cnt sh I R (pc + 3) L st) : cp_G x E nL cells slots cnt sh I R pc L (.int y0 :: .int x0 :: st) := cp_icmp_lt O hd ht (fun h => kt ((nI_ltI ha hb).mp (by rw [← hx, ← hy]; exact h))) (fun h => kf (Nat.not_lt.mp (fun e => h (by rw [hx, hy]; exact (nI_ltI ha hb).mpr e))))
theorem cp_icmp_geN (O : cp_Ok x E own bc nL d mc ms) {x0 y0 : Int32} {a b : Nat} {off : Int} {tgt : Nat} (hd : decode bc pc = .ok (.if_icmp .ge off, 3)) (ht : (pc : Int) + off = (tgt : Int)) (hx : x0 = nI a) (hy : y0 = nI b) (ha : a < 2 ^ 31) (hb : b < 2 ^ 31) (kt : b ≤ a → cp_G x E nL cells slots cnt sh I R tgt L st) (kf : a < b → cp_G x E nL cells slots cnt sh I R (pc + 3) L st) : cp_G x E nL cells slots cnt sh I R pc L (.int y0 :: .int x0 :: st) := cp_icmp_ge O hd ht (fun h => kt ((nI_leI hb ha).mp (by rw [← hx, ← hy]; exact h))) (fun h => kf (Nat.not_le.mp (fun e => h (by rw [hx, hy]; exact (nI_leI hb ha).mpr e))))
theorem cp_icmp_gtN (O : cp_Ok x E own bc nL d mc ms) {x0 y0 : Int32} {a b : Nat} {off : Int} {tgt : Nat} (hd : decode bc pc = .ok (.if_icmp .gt off, 3)) (ht : (pc : Int) + off = (tgt : Int)) (hx : x0 = nI a) (hy : y0 = nI b) (ha : a < 2 ^ 31) (hb : b < 2 ^ 31) (kt : b < a → cp_G x E nL cells slots cnt sh I R tgt L st) (kf : a ≤ b → cp_G x E nL cells slots cnt sh I R (pc + 3) L st) : cp_G x E nL cells slots cnt sh I R pc L (.int y0 :: .int x0 :: st) := cp_icmp_gt O hd ht (fun h => kt ((nI_ltI hb ha).mp (by rw [← hx, ← hy]; exact h))) (fun h => kf (Nat.not_lt.mp (fun e => h (by rw [hx, hy]; exact (nI_ltI hb ha).mpr e))))
theorem cp_icmp_leN (O : cp_Ok x E own bc nL d mc ms) {x0 y0 : Int32} {a b : Nat} {off : Int} {tgt : Nat} (hd : decode bc pc = .ok (.if_icmp .le off, 3)) (ht : (pc : Int) + off = (tgt : Int)) (hx : x0 = nI a) (hy : y0 = nI b) (ha : a < 2 ^ 31) (hb : b < 2 ^ 31) (kt : a ≤ b → cp_G x E nL cells slots cnt sh I R tgt L st) (kf : b < a → cp_G x E nL cells slots cnt sh I R (pc + 3) L st) : cp_G x E nL cells slots cnt sh I R pc L (.int y0 :: .int x0 :: st) := cp_icmp_le O hd ht (fun h => kt ((nI_leI ha hb).mp (by rw [← hx, ← hy]; exact h))) (fun h => kf (Nat.not_le.mp (fun e => h (by rw [hx, hy]; exact (nI_leI ha hb).mpr e))))
theorem cp_if_eqB (O : cp_Ok x E own bc nL d mc ms) {b : Bool} {off : Int} {tgt : Nat} (hd : decode bc pc = .ok (.ifCond .eq off, 3)) (ht : (pc : Int) + off = (tgt : Int)) (kt : b = false → cp_G x E nL cells slots cnt sh I R tgt L st) (kf : b = true → cp_G x E nL cells slots cnt sh I R (pc + 3) L st) : cp_G x E nL cells slots cnt sh I R pc L (.int (cp_bi b) :: st) := cp_if_eq O hd ht (fun h => kt (cp_bi0.mp h)) (fun h => kf (by cases b; exact absurd rfl h; rfl))
theorem cp_if_neB (O : cp_Ok x E own bc nL d mc ms) {b : Bool} {off : Int} {tgt : Nat} (hd : decode bc pc = .ok (.ifCond .ne off, 3)) (ht : (pc : Int) + off = (tgt : Int)) (kt : b = true → cp_G x E nL cells slots cnt sh I R tgt L st) (kf : b = false → cp_G x E nL cells slots cnt sh I R (pc + 3) L st) : cp_G x E nL cells slots cnt sh I R pc L (.int (cp_bi b) :: st) := cp_if_ne O hd ht (fun h => kt (by cases b; exact absurd rfl h; rfl)) (fun h => kf (cp_bi0.mp h))
end CPH
def cp_NL (sh : cp_Shp) (R : cp_Rem) (b : Nat) : Prop := (sh b = (2, 0)) ∧ (R b 0 = some (b + 1)) ∧ (sh (b + 1) = (9, 4)) ∧ (R b 2 = some (b + 2)) ∧ (sh (b + 2) = (12, 24)) ∧ (∀ i, i < 24 → R (b + 2) i = some (b + 3 + i)) ∧ (∀ i, i < 24 → sh (b + 3 + i) = (5, 0)) ∧ (R b 4 = some (b + 27)) ∧ (sh (b + 27) = (13, 8)) ∧ (∀ i, i < 8 → R (b + 27) i = some (b + 28 + i)) ∧ (∀ i, i < 8 → sh (b + 28 + i) = (6, 0))
theorem cp_NL.s {sh : cp_Shp} {R : cp_Rem} {b : Nat} (h : cp_NL sh R b) : sh b = (2, 0) := h.1
theorem cp_NL.set {sh : cp_Shp} {R : cp_Rem} {b : Nat} (h : cp_NL sh R b) : R b 0 = some (b + 1) := h.2.1
theorem cp_NL.sset {sh : cp_Shp} {R : cp_Rem} {b : Nat} (h : cp_NL sh R b) : sh (b + 1) = (9, 4) := h.2.2.1
theorem cp_NL.pcs {sh : cp_Shp} {R : cp_Rem} {b : Nat} (h : cp_NL sh R b) : R b 2 = some (b + 2) := h.2.2.2.1
theorem cp_NL.spcs {sh : cp_Shp} {R : cp_Rem} {b : Nat} (h : cp_NL sh R b) : sh (b + 2) = (12, 24) := h.2.2.2.2.1
theorem cp_NL.pc {sh : cp_Shp} {R : cp_Rem} {b : Nat} (h : cp_NL sh R b) {i : Nat} (hi : i < 24) : R (b + 2) i = some (b + 3 + i) := h.2.2.2.2.2.1 i hi
theorem cp_NL.spc {sh : cp_Shp} {R : cp_Rem} {b : Nat} (h : cp_NL sh R b) {i : Nat} (hi : i < 24) : sh (b + 3 + i) = (5, 0) := h.2.2.2.2.2.2.1 i hi
theorem cp_NL.pls {sh : cp_Shp} {R : cp_Rem} {b : Nat} (h : cp_NL sh R b) : R b 4 = some (b + 27) := h.2.2.2.2.2.2.2.1
theorem cp_NL.spls {sh : cp_Shp} {R : cp_Rem} {b : Nat} (h : cp_NL sh R b) : sh (b + 27) = (13, 8) := h.2.2.2.2.2.2.2.2.1
theorem cp_NL.pl {sh : cp_Shp} {R : cp_Rem} {b : Nat} (h : cp_NL sh R b) {i : Nat} (hi : i < 8) : R (b + 27) i = some (b + 28 + i) := h.2.2.2.2.2.2.2.2.2.1 i hi
theorem cp_NL.spl {sh : cp_Shp} {R : cp_Rem} {b : Nat} (h : cp_NL sh R b) {i : Nat} (hi : i < 8) : sh (b + 28 + i) = (6, 0) := h.2.2.2.2.2.2.2.2.2.2 i hi
def cp_ML (sh : cp_Shp) (R : cp_Rem) (m : Nat) : Prop := (sh m = (8, 0)) ∧ (R m 0 = some (m + 1)) ∧ (R m 1 = some (m + 2)) ∧ (R m 2 = some (m + 3)) ∧ (R m 3 = some (m + 4)) ∧ (R m 5 = some (m + 5)) ∧ (R m 6 = some (m + 6)) ∧ (R m 9 = some (m + 7)) ∧ (sh (m + 1) = (9, 420)) ∧ (sh (m + 2) = (9, 420)) ∧ (sh (m + 3) = (9, 420)) ∧ (sh (m + 4) = (9, 2520)) ∧ (sh (m + 5) = (9, 840)) ∧ (sh (m + 6) = (9, 2)) ∧ (sh (m + 7) = (9, 80))
theorem cp_ML.s {sh : cp_Shp} {R : cp_Rem} {m : Nat} (h : cp_ML sh R m) : sh m = (8, 0) := h.1
theorem cp_ML.f0 {sh : cp_Shp} {R : cp_Rem} {m : Nat} (h : cp_ML sh R m) : R m 0 = some (m + 1) := h.2.1
theorem cp_ML.f1 {sh : cp_Shp} {R : cp_Rem} {m : Nat} (h : cp_ML sh R m) : R m 1 = some (m + 2) := h.2.2.1
theorem cp_ML.f2 {sh : cp_Shp} {R : cp_Rem} {m : Nat} (h : cp_ML sh R m) : R m 2 = some (m + 3) := h.2.2.2.1
theorem cp_ML.f3 {sh : cp_Shp} {R : cp_Rem} {m : Nat} (h : cp_ML sh R m) : R m 3 = some (m + 4) := h.2.2.2.2.1
theorem cp_ML.f5 {sh : cp_Shp} {R : cp_Rem} {m : Nat} (h : cp_ML sh R m) : R m 5 = some (m + 5) := h.2.2.2.2.2.1
theorem cp_ML.f6 {sh : cp_Shp} {R : cp_Rem} {m : Nat} (h : cp_ML sh R m) : R m 6 = some (m + 6) := h.2.2.2.2.2.2.1
theorem cp_ML.f9 {sh : cp_Shp} {R : cp_Rem} {m : Nat} (h : cp_ML sh R m) : R m 9 = some (m + 7) := h.2.2.2.2.2.2.2.1
theorem cp_ML.s0 {sh : cp_Shp} {R : cp_Rem} {m : Nat} (h : cp_ML sh R m) : sh (m + 1) = (9, 420) := h.2.2.2.2.2.2.2.2.1
theorem cp_ML.s1 {sh : cp_Shp} {R : cp_Rem} {m : Nat} (h : cp_ML sh R m) : sh (m + 2) = (9, 420) := h.2.2.2.2.2.2.2.2.2.1
theorem cp_ML.s2 {sh : cp_Shp} {R : cp_Rem} {m : Nat} (h : cp_ML sh R m) : sh (m + 3) = (9, 420) := h.2.2.2.2.2.2.2.2.2.2.1
theorem cp_ML.s3 {sh : cp_Shp} {R : cp_Rem} {m : Nat} (h : cp_ML sh R m) : sh (m + 4) = (9, 2520) := h.2.2.2.2.2.2.2.2.2.2.2.1
theorem cp_ML.s5 {sh : cp_Shp} {R : cp_Rem} {m : Nat} (h : cp_ML sh R m) : sh (m + 5) = (9, 840) := h.2.2.2.2.2.2.2.2.2.2.2.2.1
theorem cp_ML.s6 {sh : cp_Shp} {R : cp_Rem} {m : Nat} (h : cp_ML sh R m) : sh (m + 6) = (9, 2) := h.2.2.2.2.2.2.2.2.2.2.2.2.2.1
theorem cp_ML.s9 {sh : cp_Shp} {R : cp_Rem} {m : Nat} (h : cp_ML sh R m) : sh (m + 7) = (9, 80) := h.2.2.2.2.2.2.2.2.2.2.2.2.2.2

