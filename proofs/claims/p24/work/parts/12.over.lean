/-! OVERLAYS: a row; the model (its fields f, its arrays r 1 to r 7); a night (its fields o, settings S, pieces P, plates Q) -/
def cp_row (I : cp_Mem) (a : Nat) (f : Nat → Int32) : cp_Mem := fun x => if x = a then f else I x
theorem cp_row_s (I : cp_Mem) (a : Nat) (f : Nat → Int32) : cp_row I a f a = f := by simp [cp_row]
theorem cp_row_n (I : cp_Mem) {a x : Nat} (f : Nat → Int32) (h : x ≠ a) : cp_row I a f x = I x := by simp [cp_row, h]
theorem cp_row_self (I : cp_Mem) (a : Nat) : cp_row I a (I a) = I := by funext x; by_cases h : x = a <;> simp [cp_row, h]
theorem cp_row_row (I : cp_Mem) (a : Nat) (f g : Nat → Int32) : cp_row (cp_row I a f) a g = cp_row I a g := by funext x; by_cases h : x = a <;> simp [cp_row, h]
theorem cp_row_wi (I : cp_Mem) (a j : Nat) (f : Nat → Int32) (v : Int32) : cp_wi (cp_row I a f) a j v = cp_row I a (upd f j v) := by
  funext x q
  by_cases h : x = a
  · subst h; simp [cp_wi, cp_row, upd]
  · simp [cp_wi, cp_row, h]
theorem cp_wi_row (I : cp_Mem) (a j : Nat) (v : Int32) : cp_wi I a j v = cp_row I a (upd (I a) j v) := by
  funext x q
  by_cases h : x = a
  · subst h; simp [cp_wi, cp_row, upd]
  · simp [cp_wi, cp_row, h]
def cp_nn (J : cp_Mem) (b : Nat) (o S : Nat → Int32) (P Q : Nat → Nat → Int32) : cp_Mem := fun x => if x = b then o else if x = b + 1 then S else if b + 3 ≤ x ∧ x < b + 27 then P (x - (b + 3)) else if b + 28 ≤ x ∧ x < b + 36 then Q (x - (b + 28)) else J x
section CPN
variable (J : cp_Mem) (b : Nat) (o S : Nat → Int32) (P Q : Nat → Nat → Int32)
theorem cp_nn_o : cp_nn J b o S P Q b = o := by simp [cp_nn]
theorem cp_nn_S : cp_nn J b o S P Q (b + 1) = S := by simp [cp_nn]
theorem cp_nn_P {i : Nat} (h : i < 24) : cp_nn J b o S P Q (b + 3 + i) = P i := by
  unfold cp_nn
  rw [if_neg (by omega), if_neg (by omega), if_pos (by omega), show b + 3 + i - (b + 3) = i by omega]
theorem cp_nn_Q {i : Nat} (h : i < 8) : cp_nn J b o S P Q (b + 28 + i) = Q i := by
  unfold cp_nn
  rw [if_neg (by omega), if_neg (by omega), if_neg (by omega), if_pos (by omega), show b + 28 + i - (b + 28) = i by omega]
theorem cp_nn_x {x : Nat} (h : x < b ∨ b + 36 ≤ x) : cp_nn J b o S P Q x = J x := by
  unfold cp_nn
  rw [if_neg (by omega), if_neg (by omega), if_neg (by omega), if_neg (by omega)]
theorem cp_nn_self : cp_nn J b (J b) (J (b + 1)) (fun i => J (b + 3 + i)) (fun i => J (b + 28 + i)) = J := by
  funext x
  unfold cp_nn
  by_cases h : x = b
  · rw [if_pos h, h]
  · rw [if_neg h]
    by_cases h1 : x = b + 1
    · rw [if_pos h1, h1]
    · rw [if_neg h1]
      by_cases h2 : b + 3 ≤ x ∧ x < b + 27
      · rw [if_pos h2]
        exact congrArg J (by omega)
      · rw [if_neg h2]
        by_cases h3 : b + 28 ≤ x ∧ x < b + 36
        · rw [if_pos h3]
          exact congrArg J (by omega)
        · rw [if_neg h3]
theorem cp_nn_ro (f : Nat → Int32) : cp_row (cp_nn J b o S P Q) b f = cp_nn J b f S P Q := by
  funext x
  unfold cp_row cp_nn
  by_cases h : x = b
  · rw [if_pos h, if_pos h]
  · rw [if_neg h, if_neg h, if_neg h]
theorem cp_nn_rS (f : Nat → Int32) : cp_row (cp_nn J b o S P Q) (b + 1) f = cp_nn J b o f P Q := by
  funext x
  unfold cp_row cp_nn
  by_cases h : x = b + 1
  · rw [if_pos h, if_neg (by omega), if_pos h]
  · rw [if_neg h, if_neg h, if_neg h]
theorem cp_nn_rP {i : Nat} (hi : i < 24) (f : Nat → Int32) : cp_row (cp_nn J b o S P Q) (b + 3 + i) f = cp_nn J b o S (cp_row P i f) Q := by
  funext x
  unfold cp_row cp_nn
  by_cases h : x = b + 3 + i
  · rw [if_pos h, if_neg (by omega), if_neg (by omega), if_pos (by omega)]
    exact (if_pos (by omega)).symm
  · rw [if_neg h]
    by_cases h1 : x = b
    · rw [if_pos h1, if_pos h1]
    · rw [if_neg h1, if_neg h1]
      by_cases h2 : x = b + 1
      · rw [if_pos h2, if_pos h2]
      · rw [if_neg h2, if_neg h2]
        by_cases h3 : b + 3 ≤ x ∧ x < b + 27
        · rw [if_pos h3, if_pos h3]
          exact (if_neg (by omega)).symm
        · rw [if_neg h3, if_neg h3]
theorem cp_nn_rQ {i : Nat} (hi : i < 8) (f : Nat → Int32) : cp_row (cp_nn J b o S P Q) (b + 28 + i) f = cp_nn J b o S P (cp_row Q i f) := by
  funext x
  unfold cp_row cp_nn
  by_cases h : x = b + 28 + i
  · rw [if_pos h, if_neg (by omega), if_neg (by omega), if_neg (by omega), if_pos (by omega)]
    exact (if_pos (by omega)).symm
  · rw [if_neg h]
    by_cases h1 : x = b
    · rw [if_pos h1, if_pos h1]
    · rw [if_neg h1, if_neg h1]
      by_cases h2 : x = b + 1
      · rw [if_pos h2, if_pos h2]
      · rw [if_neg h2, if_neg h2]
        by_cases h3 : b + 3 ≤ x ∧ x < b + 27
        · rw [if_pos h3, if_pos h3]
        · rw [if_neg h3, if_neg h3]
          by_cases h4 : b + 28 ≤ x ∧ x < b + 36
          · rw [if_pos h4, if_pos h4]
            exact (if_neg (by omega)).symm
          · rw [if_neg h4, if_neg h4]
end CPN
theorem cp_Fn_eq {l : Launch} {E : cp_En} {y : MethodName} {bc : ByteArray} {nL : Nat} {ret : Option FieldType} {d : Nat} {as : List Value} {cnt : Nat} {sh : cp_Shp} {I : cp_Mem} {R : cp_Rem} {v v' : Option Value} {I' I'' : cp_Mem} (h : cp_Fn l E y bc nL ret d as cnt sh I R v I') (hv : v = v') (hI : I' = I'') : cp_Fn l E y bc nL ret d as cnt sh I R v' I'' := by
  subst hv; subst hI; exact h
section CPV
variable {x : cp_Cx} {E : cp_En} {bc : ByteArray} {nL d mc ms cells slots cnt : Nat} {sh : cp_Shp} {R : cp_Rem} {pc : Nat} {L : List (Option Value)} {st : List Value} {own : String} {J : cp_Mem} {m b : Nat} {f o S : Nat → Int32} {r P Q : Nat → Nat → Int32}
theorem cp_ialdS (O : cp_Ok x E own bc nL d mc ms) {j : Nat} {i : Int32} (N : cp_NL sh R b) (hi : i = nI j) (hj : j < 4) (hd : decode bc pc = .ok (.iaload, 1)) (kk : cp_G x E nL cells slots cnt sh (cp_nn J b o S P Q) R (pc + 1) L (.int (S j) :: st)) : cp_G x E nL cells slots cnt sh (cp_nn J b o S P Q) R pc L (.int i :: .ref (b + 1) :: st) := by
  refine cp_iald O N.sset hi hj (by decide) hd ?_
  rw [cp_nn_S]
  exact kk
theorem cp_iastS (O : cp_Ok x E own bc nL d mc ms) {j : Nat} {i v : Int32} (N : cp_NL sh R b) (hi : i = nI j) (hj : j < 4) (hd : decode bc pc = .ok (.iastore, 1)) (kk : cp_G x E nL cells slots cnt sh (cp_nn J b o (upd S j v) P Q) R (pc + 1) L st) : cp_G x E nL cells slots cnt sh (cp_nn J b o S P Q) R pc L (.int v :: .int i :: .ref (b + 1) :: st) := by
  refine cp_iast O N.sset hi hj (by decide) hd ?_
  rw [cp_wi_row, cp_nn_S, cp_nn_rS]
  exact kk
theorem rg_X4_9 (O : cp_Ok x E RX4 bc nL d mc ms) {a : Nat} {g : Nat → Int32} (hs : sh a = (5, 0)) (hd : decode bc pc = .ok (.getfield 9, 3)) (k : cp_G x E nL cells slots cnt sh (cp_row J a g) R (pc + 3) L (.int (g 0) :: st)) : cp_G x E nL cells slots cnt sh (cp_row J a g) R pc L (.ref a :: st) := by
  refine fg_X4_9 O hs hd ?_
  rw [cp_row_s]
  exact k
theorem rp_X4_9 (O : cp_Ok x E RX4 bc nL d mc ms) {v : Int32} {a : Nat} {g : Nat → Int32} (hs : sh a = (5, 0)) (hd : decode bc pc = .ok (.putfield 9, 3)) (k : cp_G x E nL cells slots cnt sh (cp_row J a (upd g 0 v)) R (pc + 3) L st) : cp_G x E nL cells slots cnt sh (cp_row J a g) R pc L (.int v :: .ref a :: st) := by
  refine fp_X4_9 O hs hd ?_
  rw [cp_row_wi]
  exact k
theorem pg_X1_115 (O : cp_Ok x E RX1 bc nL d mc ms) (N : cp_NL sh R b) {i : Nat} (hi : i < 24) (hd : decode bc pc = .ok (.getfield 115, 3)) (k : cp_G x E nL cells slots cnt sh (cp_nn J b o S P Q) R (pc + 3) L (.int (P i 0) :: st)) : cp_G x E nL cells slots cnt sh (cp_nn J b o S P Q) R pc L (.ref (b + 3 + i) :: st) := by
  refine fg_X1_115 O (N.spc hi) hd ?_
  rw [cp_nn_P _ _ _ _ _ _ hi]
  exact k
theorem rg_X4_15 (O : cp_Ok x E RX4 bc nL d mc ms) {a : Nat} {g : Nat → Int32} (hs : sh a = (5, 0)) (hd : decode bc pc = .ok (.getfield 15, 3)) (k : cp_G x E nL cells slots cnt sh (cp_row J a g) R (pc + 3) L (.int (g 1) :: st)) : cp_G x E nL cells slots cnt sh (cp_row J a g) R pc L (.ref a :: st) := by
  refine fg_X4_15 O hs hd ?_
  rw [cp_row_s]
  exact k
theorem rp_X4_15 (O : cp_Ok x E RX4 bc nL d mc ms) {v : Int32} {a : Nat} {g : Nat → Int32} (hs : sh a = (5, 0)) (hd : decode bc pc = .ok (.putfield 15, 3)) (k : cp_G x E nL cells slots cnt sh (cp_row J a (upd g 1 v)) R (pc + 3) L st) : cp_G x E nL cells slots cnt sh (cp_row J a g) R pc L (.int v :: .ref a :: st) := by
  refine fp_X4_15 O hs hd ?_
  rw [cp_row_wi]
  exact k
theorem pg_X1_144 (O : cp_Ok x E RX1 bc nL d mc ms) (N : cp_NL sh R b) {i : Nat} (hi : i < 24) (hd : decode bc pc = .ok (.getfield 144, 3)) (k : cp_G x E nL cells slots cnt sh (cp_nn J b o S P Q) R (pc + 3) L (.int (P i 1) :: st)) : cp_G x E nL cells slots cnt sh (cp_nn J b o S P Q) R pc L (.ref (b + 3 + i) :: st) := by
  refine fg_X1_144 O (N.spc hi) hd ?_
  rw [cp_nn_P _ _ _ _ _ _ hi]
  exact k
theorem rp_X4_18 (O : cp_Ok x E RX4 bc nL d mc ms) {v : Int32} {a : Nat} {g : Nat → Int32} (hs : sh a = (5, 0)) (hd : decode bc pc = .ok (.putfield 18, 3)) (k : cp_G x E nL cells slots cnt sh (cp_row J a (upd g 2 v)) R (pc + 3) L st) : cp_G x E nL cells slots cnt sh (cp_row J a g) R pc L (.int v :: .ref a :: st) := by
  refine fp_X4_18 O hs hd ?_
  rw [cp_row_wi]
  exact k
theorem pg_X1_156 (O : cp_Ok x E RX1 bc nL d mc ms) (N : cp_NL sh R b) {i : Nat} (hi : i < 24) (hd : decode bc pc = .ok (.getfield 156, 3)) (k : cp_G x E nL cells slots cnt sh (cp_nn J b o S P Q) R (pc + 3) L (.int (P i 2) :: st)) : cp_G x E nL cells slots cnt sh (cp_nn J b o S P Q) R pc L (.ref (b + 3 + i) :: st) := by
  refine fg_X1_156 O (N.spc hi) hd ?_
  rw [cp_nn_P _ _ _ _ _ _ hi]
  exact k
theorem rg_X4_21 (O : cp_Ok x E RX4 bc nL d mc ms) {a : Nat} {g : Nat → Int32} (hs : sh a = (5, 0)) (hd : decode bc pc = .ok (.getfield 21, 3)) (k : cp_G x E nL cells slots cnt sh (cp_row J a g) R (pc + 3) L (.int (g 3) :: st)) : cp_G x E nL cells slots cnt sh (cp_row J a g) R pc L (.ref a :: st) := by
  refine fg_X4_21 O hs hd ?_
  rw [cp_row_s]
  exact k
theorem rp_X4_21 (O : cp_Ok x E RX4 bc nL d mc ms) {v : Int32} {a : Nat} {g : Nat → Int32} (hs : sh a = (5, 0)) (hv : v = 0 ∨ v = 1) (hd : decode bc pc = .ok (.putfield 21, 3)) (k : cp_G x E nL cells slots cnt sh (cp_row J a (upd g 3 v)) R (pc + 3) L st) : cp_G x E nL cells slots cnt sh (cp_row J a g) R pc L (.int v :: .ref a :: st) := by
  refine fp_X4_21 O hs hv hd ?_
  rw [cp_row_wi]
  exact k
theorem pg_X1_188 (O : cp_Ok x E RX1 bc nL d mc ms) (N : cp_NL sh R b) {i : Nat} (hi : i < 24) (hd : decode bc pc = .ok (.getfield 188, 3)) (k : cp_G x E nL cells slots cnt sh (cp_nn J b o S P Q) R (pc + 3) L (.int (P i 3) :: st)) : cp_G x E nL cells slots cnt sh (cp_nn J b o S P Q) R pc L (.ref (b + 3 + i) :: st) := by
  refine fg_X1_188 O (N.spc hi) hd ?_
  rw [cp_nn_P _ _ _ _ _ _ hi]
  exact k
theorem rg_X4_25 (O : cp_Ok x E RX4 bc nL d mc ms) {a : Nat} {g : Nat → Int32} (hs : sh a = (5, 0)) (hd : decode bc pc = .ok (.getfield 25, 3)) (k : cp_G x E nL cells slots cnt sh (cp_row J a g) R (pc + 3) L (.int (g 4) :: st)) : cp_G x E nL cells slots cnt sh (cp_row J a g) R pc L (.ref a :: st) := by
  refine fg_X4_25 O hs hd ?_
  rw [cp_row_s]
  exact k
theorem rp_X4_25 (O : cp_Ok x E RX4 bc nL d mc ms) {v : Int32} {a : Nat} {g : Nat → Int32} (hs : sh a = (5, 0)) (hd : decode bc pc = .ok (.putfield 25, 3)) (k : cp_G x E nL cells slots cnt sh (cp_row J a (upd g 4 v)) R (pc + 3) L st) : cp_G x E nL cells slots cnt sh (cp_row J a g) R pc L (.int v :: .ref a :: st) := by
  refine fp_X4_25 O hs hd ?_
  rw [cp_row_wi]
  exact k
theorem pg_X1_64 (O : cp_Ok x E RX1 bc nL d mc ms) (N : cp_NL sh R b) {i : Nat} (hi : i < 24) (hd : decode bc pc = .ok (.getfield 64, 3)) (k : cp_G x E nL cells slots cnt sh (cp_nn J b o S P Q) R (pc + 3) L (.int (P i 4) :: st)) : cp_G x E nL cells slots cnt sh (cp_nn J b o S P Q) R pc L (.ref (b + 3 + i) :: st) := by
  refine fg_X1_64 O (N.spc hi) hd ?_
  rw [cp_nn_P _ _ _ _ _ _ hi]
  exact k
theorem pp_X1_64 (O : cp_Ok x E RX1 bc nL d mc ms) {v : Int32} (N : cp_NL sh R b) {i : Nat} (hi : i < 24) (hd : decode bc pc = .ok (.putfield 64, 3)) (k : cp_G x E nL cells slots cnt sh (cp_nn J b o S (cp_wi P i 4 v) Q) R (pc + 3) L st) : cp_G x E nL cells slots cnt sh (cp_nn J b o S P Q) R pc L (.int v :: .ref (b + 3 + i) :: st) := by
  refine fp_X1_64 O (N.spc hi) hd ?_
  rw [cp_wi_row, cp_nn_P _ _ _ _ _ _ hi, cp_nn_rP _ _ _ _ _ _ hi, ← cp_wi_row]
  exact k
theorem rg_X4_28 (O : cp_Ok x E RX4 bc nL d mc ms) {a : Nat} {g : Nat → Int32} (hs : sh a = (5, 0)) (hd : decode bc pc = .ok (.getfield 28, 3)) (k : cp_G x E nL cells slots cnt sh (cp_row J a g) R (pc + 3) L (.int (g 5) :: st)) : cp_G x E nL cells slots cnt sh (cp_row J a g) R pc L (.ref a :: st) := by
  refine fg_X4_28 O hs hd ?_
  rw [cp_row_s]
  exact k
theorem rp_X4_28 (O : cp_Ok x E RX4 bc nL d mc ms) {v : Int32} {a : Nat} {g : Nat → Int32} (hs : sh a = (5, 0)) (hv : v = 0 ∨ v = 1) (hd : decode bc pc = .ok (.putfield 28, 3)) (k : cp_G x E nL cells slots cnt sh (cp_row J a (upd g 5 v)) R (pc + 3) L st) : cp_G x E nL cells slots cnt sh (cp_row J a g) R pc L (.int v :: .ref a :: st) := by
  refine fp_X4_28 O hs hv hd ?_
  rw [cp_row_wi]
  exact k
theorem pg_X1_85 (O : cp_Ok x E RX1 bc nL d mc ms) (N : cp_NL sh R b) {i : Nat} (hi : i < 24) (hd : decode bc pc = .ok (.getfield 85, 3)) (k : cp_G x E nL cells slots cnt sh (cp_nn J b o S P Q) R (pc + 3) L (.int (P i 5) :: st)) : cp_G x E nL cells slots cnt sh (cp_nn J b o S P Q) R pc L (.ref (b + 3 + i) :: st) := by
  refine fg_X1_85 O (N.spc hi) hd ?_
  rw [cp_nn_P _ _ _ _ _ _ hi]
  exact k
theorem pp_X1_85 (O : cp_Ok x E RX1 bc nL d mc ms) {v : Int32} (N : cp_NL sh R b) {i : Nat} (hi : i < 24) (hv : v = 0 ∨ v = 1) (hd : decode bc pc = .ok (.putfield 85, 3)) (k : cp_G x E nL cells slots cnt sh (cp_nn J b o S (cp_wi P i 5 v) Q) R (pc + 3) L st) : cp_G x E nL cells slots cnt sh (cp_nn J b o S P Q) R pc L (.int v :: .ref (b + 3 + i) :: st) := by
  refine fp_X1_85 O (N.spc hi) hv hd ?_
  rw [cp_wi_row, cp_nn_P _ _ _ _ _ _ hi, cp_nn_rP _ _ _ _ _ _ hi, ← cp_wi_row]
  exact k
theorem rg_X4_31 (O : cp_Ok x E RX4 bc nL d mc ms) {a : Nat} {g : Nat → Int32} (hs : sh a = (5, 0)) (hd : decode bc pc = .ok (.getfield 31, 3)) (k : cp_G x E nL cells slots cnt sh (cp_row J a g) R (pc + 3) L (.int (g 6) :: st)) : cp_G x E nL cells slots cnt sh (cp_row J a g) R pc L (.ref a :: st) := by
  refine fg_X4_31 O hs hd ?_
  rw [cp_row_s]
  exact k
theorem rp_X4_31 (O : cp_Ok x E RX4 bc nL d mc ms) {v : Int32} {a : Nat} {g : Nat → Int32} (hs : sh a = (5, 0)) (hd : decode bc pc = .ok (.putfield 31, 3)) (k : cp_G x E nL cells slots cnt sh (cp_row J a (upd g 6 v)) R (pc + 3) L st) : cp_G x E nL cells slots cnt sh (cp_row J a g) R pc L (.int v :: .ref a :: st) := by
  refine fp_X4_31 O hs hd ?_
  rw [cp_row_wi]
  exact k
theorem pg_X1_191 (O : cp_Ok x E RX1 bc nL d mc ms) (N : cp_NL sh R b) {i : Nat} (hi : i < 24) (hd : decode bc pc = .ok (.getfield 191, 3)) (k : cp_G x E nL cells slots cnt sh (cp_nn J b o S P Q) R (pc + 3) L (.int (P i 6) :: st)) : cp_G x E nL cells slots cnt sh (cp_nn J b o S P Q) R pc L (.ref (b + 3 + i) :: st) := by
  refine fg_X1_191 O (N.spc hi) hd ?_
  rw [cp_nn_P _ _ _ _ _ _ hi]
  exact k
theorem rg_X4_34 (O : cp_Ok x E RX4 bc nL d mc ms) {a : Nat} {g : Nat → Int32} (hs : sh a = (5, 0)) (hd : decode bc pc = .ok (.getfield 34, 3)) (k : cp_G x E nL cells slots cnt sh (cp_row J a g) R (pc + 3) L (.int (g 7) :: st)) : cp_G x E nL cells slots cnt sh (cp_row J a g) R pc L (.ref a :: st) := by
  refine fg_X4_34 O hs hd ?_
  rw [cp_row_s]
  exact k
theorem rp_X4_34 (O : cp_Ok x E RX4 bc nL d mc ms) {v : Int32} {a : Nat} {g : Nat → Int32} (hs : sh a = (5, 0)) (hd : decode bc pc = .ok (.putfield 34, 3)) (k : cp_G x E nL cells slots cnt sh (cp_row J a (upd g 7 v)) R (pc + 3) L st) : cp_G x E nL cells slots cnt sh (cp_row J a g) R pc L (.int v :: .ref a :: st) := by
  refine fp_X4_34 O hs hd ?_
  rw [cp_row_wi]
  exact k
theorem pg_X1_194 (O : cp_Ok x E RX1 bc nL d mc ms) (N : cp_NL sh R b) {i : Nat} (hi : i < 24) (hd : decode bc pc = .ok (.getfield 194, 3)) (k : cp_G x E nL cells slots cnt sh (cp_nn J b o S P Q) R (pc + 3) L (.int (P i 7) :: st)) : cp_G x E nL cells slots cnt sh (cp_nn J b o S P Q) R pc L (.ref (b + 3 + i) :: st) := by
  refine fg_X1_194 O (N.spc hi) hd ?_
  rw [cp_nn_P _ _ _ _ _ _ hi]
  exact k
theorem rp_X4_37 (O : cp_Ok x E RX4 bc nL d mc ms) {v : Int32} {a : Nat} {g : Nat → Int32} (hs : sh a = (5, 0)) (hd : decode bc pc = .ok (.putfield 37, 3)) (k : cp_G x E nL cells slots cnt sh (cp_row J a (upd g 8 v)) R (pc + 3) L st) : cp_G x E nL cells slots cnt sh (cp_row J a g) R pc L (.int v :: .ref a :: st) := by
  refine fp_X4_37 O hs hd ?_
  rw [cp_row_wi]
  exact k
theorem pg_X1_159 (O : cp_Ok x E RX1 bc nL d mc ms) (N : cp_NL sh R b) {i : Nat} (hi : i < 24) (hd : decode bc pc = .ok (.getfield 159, 3)) (k : cp_G x E nL cells slots cnt sh (cp_nn J b o S P Q) R (pc + 3) L (.int (P i 8) :: st)) : cp_G x E nL cells slots cnt sh (cp_nn J b o S P Q) R pc L (.ref (b + 3 + i) :: st) := by
  refine fg_X1_159 O (N.spc hi) hd ?_
  rw [cp_nn_P _ _ _ _ _ _ hi]
  exact k
theorem rp_X4_40 (O : cp_Ok x E RX4 bc nL d mc ms) {v : Int32} {a : Nat} {g : Nat → Int32} (hs : sh a = (5, 0)) (hd : decode bc pc = .ok (.putfield 40, 3)) (k : cp_G x E nL cells slots cnt sh (cp_row J a (upd g 9 v)) R (pc + 3) L st) : cp_G x E nL cells slots cnt sh (cp_row J a g) R pc L (.int v :: .ref a :: st) := by
  refine fp_X4_40 O hs hd ?_
  rw [cp_row_wi]
  exact k
theorem pg_X1_132 (O : cp_Ok x E RX1 bc nL d mc ms) (N : cp_NL sh R b) {i : Nat} (hi : i < 24) (hd : decode bc pc = .ok (.getfield 132, 3)) (k : cp_G x E nL cells slots cnt sh (cp_nn J b o S P Q) R (pc + 3) L (.int (P i 9) :: st)) : cp_G x E nL cells slots cnt sh (cp_nn J b o S P Q) R pc L (.ref (b + 3 + i) :: st) := by
  refine fg_X1_132 O (N.spc hi) hd ?_
  rw [cp_nn_P _ _ _ _ _ _ hi]
  exact k
theorem rp_X5_7 (O : cp_Ok x E RX5 bc nL d mc ms) {v : Int32} {a : Nat} {g : Nat → Int32} (hs : sh a = (6, 0)) (hd : decode bc pc = .ok (.putfield 7, 3)) (k : cp_G x E nL cells slots cnt sh (cp_row J a (upd g 0 v)) R (pc + 3) L st) : cp_G x E nL cells slots cnt sh (cp_row J a g) R pc L (.int v :: .ref a :: st) := by
  refine fp_X5_7 O hs hd ?_
  rw [cp_row_wi]
  exact k
theorem qg_X1_174 (O : cp_Ok x E RX1 bc nL d mc ms) (N : cp_NL sh R b) {i : Nat} (hi : i < 8) (hd : decode bc pc = .ok (.getfield 174, 3)) (k : cp_G x E nL cells slots cnt sh (cp_nn J b o S P Q) R (pc + 3) L (.int (Q i 0) :: st)) : cp_G x E nL cells slots cnt sh (cp_nn J b o S P Q) R pc L (.ref (b + 28 + i) :: st) := by
  refine fg_X1_174 O (N.spl hi) hd ?_
  rw [cp_nn_Q _ _ _ _ _ _ hi]
  exact k
theorem rp_X5_13 (O : cp_Ok x E RX5 bc nL d mc ms) {v : Int32} {a : Nat} {g : Nat → Int32} (hs : sh a = (6, 0)) (hv : v = 0 ∨ v = 1) (hd : decode bc pc = .ok (.putfield 13, 3)) (k : cp_G x E nL cells slots cnt sh (cp_row J a (upd g 1 v)) R (pc + 3) L st) : cp_G x E nL cells slots cnt sh (cp_row J a g) R pc L (.int v :: .ref a :: st) := by
  refine fp_X5_13 O hs hv hd ?_
  rw [cp_row_wi]
  exact k
theorem qg_X1_203 (O : cp_Ok x E RX1 bc nL d mc ms) (N : cp_NL sh R b) {i : Nat} (hi : i < 8) (hd : decode bc pc = .ok (.getfield 203, 3)) (k : cp_G x E nL cells slots cnt sh (cp_nn J b o S P Q) R (pc + 3) L (.int (Q i 1) :: st)) : cp_G x E nL cells slots cnt sh (cp_nn J b o S P Q) R pc L (.ref (b + 28 + i) :: st) := by
  refine fg_X1_203 O (N.spl hi) hd ?_
  rw [cp_nn_Q _ _ _ _ _ _ hi]
  exact k
theorem rp_X5_17 (O : cp_Ok x E RX5 bc nL d mc ms) {v : Int32} {a : Nat} {g : Nat → Int32} (hs : sh a = (6, 0)) (hd : decode bc pc = .ok (.putfield 17, 3)) (k : cp_G x E nL cells slots cnt sh (cp_row J a (upd g 2 v)) R (pc + 3) L st) : cp_G x E nL cells slots cnt sh (cp_row J a g) R pc L (.int v :: .ref a :: st) := by
  refine fp_X5_17 O hs hd ?_
  rw [cp_row_wi]
  exact k
theorem qg_X1_113 (O : cp_Ok x E RX1 bc nL d mc ms) (N : cp_NL sh R b) {i : Nat} (hi : i < 8) (hd : decode bc pc = .ok (.getfield 113, 3)) (k : cp_G x E nL cells slots cnt sh (cp_nn J b o S P Q) R (pc + 3) L (.int (Q i 2) :: st)) : cp_G x E nL cells slots cnt sh (cp_nn J b o S P Q) R pc L (.ref (b + 28 + i) :: st) := by
  refine fg_X1_113 O (N.spl hi) hd ?_
  rw [cp_nn_Q _ _ _ _ _ _ hi]
  exact k
theorem qp_X1_113 (O : cp_Ok x E RX1 bc nL d mc ms) {v : Int32} (N : cp_NL sh R b) {i : Nat} (hi : i < 8) (hd : decode bc pc = .ok (.putfield 113, 3)) (k : cp_G x E nL cells slots cnt sh (cp_nn J b o S P (cp_wi Q i 2 v)) R (pc + 3) L st) : cp_G x E nL cells slots cnt sh (cp_nn J b o S P Q) R pc L (.int v :: .ref (b + 28 + i) :: st) := by
  refine fp_X1_113 O (N.spl hi) hd ?_
  rw [cp_wi_row, cp_nn_Q _ _ _ _ _ _ hi, cp_nn_rQ _ _ _ _ _ _ hi, ← cp_wi_row]
  exact k
theorem ng_X1_23 (O : cp_Ok x E RX1 bc nL d mc ms) (N : cp_NL sh R b) (hd : decode bc pc = .ok (.getfield 23, 3)) (k : cp_G x E nL cells slots cnt sh (cp_nn J b o S P Q) R (pc + 3) L (.int (o 1) :: st)) : cp_G x E nL cells slots cnt sh (cp_nn J b o S P Q) R pc L (.ref b :: st) := by
  refine fg_X1_23 O N.s hd ?_
  rw [cp_nn_o]
  exact k
theorem np_X1_23 (O : cp_Ok x E RX1 bc nL d mc ms) {v : Int32} (N : cp_NL sh R b) (hd : decode bc pc = .ok (.putfield 23, 3)) (k : cp_G x E nL cells slots cnt sh (cp_nn J b (upd o 1 v) S P Q) R (pc + 3) L st) : cp_G x E nL cells slots cnt sh (cp_nn J b o S P Q) R pc L (.int v :: .ref b :: st) := by
  refine fp_X1_23 O N.s hd ?_
  rw [cp_wi_row, cp_nn_o, cp_nn_ro]
  exact k
theorem ng_X1_34 (O : cp_Ok x E RX1 bc nL d mc ms) (N : cp_NL sh R b) (hd : decode bc pc = .ok (.getfield 34, 3)) (k : cp_G x E nL cells slots cnt sh (cp_nn J b o S P Q) R (pc + 3) L (.int (o 3) :: st)) : cp_G x E nL cells slots cnt sh (cp_nn J b o S P Q) R pc L (.ref b :: st) := by
  refine fg_X1_34 O N.s hd ?_
  rw [cp_nn_o]
  exact k
theorem np_X1_34 (O : cp_Ok x E RX1 bc nL d mc ms) {v : Int32} (N : cp_NL sh R b) (hd : decode bc pc = .ok (.putfield 34, 3)) (k : cp_G x E nL cells slots cnt sh (cp_nn J b (upd o 3 v) S P Q) R (pc + 3) L st) : cp_G x E nL cells slots cnt sh (cp_nn J b o S P Q) R pc L (.int v :: .ref b :: st) := by
  refine fp_X1_34 O N.s hd ?_
  rw [cp_wi_row, cp_nn_o, cp_nn_ro]
  exact k
theorem ng_X1_44 (O : cp_Ok x E RX1 bc nL d mc ms) (N : cp_NL sh R b) (hd : decode bc pc = .ok (.getfield 44, 3)) (k : cp_G x E nL cells slots cnt sh (cp_nn J b o S P Q) R (pc + 3) L (.int (o 5) :: st)) : cp_G x E nL cells slots cnt sh (cp_nn J b o S P Q) R pc L (.ref b :: st) := by
  refine fg_X1_44 O N.s hd ?_
  rw [cp_nn_o]
  exact k
theorem np_X1_44 (O : cp_Ok x E RX1 bc nL d mc ms) {v : Int32} (N : cp_NL sh R b) (hd : decode bc pc = .ok (.putfield 44, 3)) (k : cp_G x E nL cells slots cnt sh (cp_nn J b (upd o 5 v) S P Q) R (pc + 3) L st) : cp_G x E nL cells slots cnt sh (cp_nn J b o S P Q) R pc L (.int v :: .ref b :: st) := by
  refine fp_X1_44 O N.s hd ?_
  rw [cp_wi_row, cp_nn_o, cp_nn_ro]
  exact k
end CPV

