/-! OVERLAYS: a row; the model (its fields f, its arrays r 1 to r 7); a night (its fields o, settings S, pieces P, plates Q) -/
def cp_row (I : cp_Mem) (a : Nat) (f : Nat → Int32) : cp_Mem := fun x => if x = a then f else I x
theorem cp_row_s (I : cp_Mem) (a : Nat) (f : Nat → Int32) : cp_row I a f a = f := by simp [cp_row]
theorem cp_row_n (I : cp_Mem) {a x : Nat} (f : Nat → Int32) (h : x ≠ a) : cp_row I a f x = I x := by simp [cp_row, h]
theorem cp_row_self (I : cp_Mem) (a : Nat) : cp_row I a (I a) = I := by funext x; by_cases h : x = a <;> simp [cp_row, h]
theorem cp_row_row (I : cp_Mem) (a : Nat) (f g : Nat → Int32) : cp_row (cp_row I a f) a g = cp_row I a g := by funext x; by_cases h : x = a <;> simp [cp_row, h]
theorem cp_row_wi (I : cp_Mem) (a j : Nat) (f : Nat → Int32) (v : Int32) : cp_wi (cp_row I a f) a j v = cp_row I a (upd f j v) := by
  funext x q
  by_cases h : x = a
  · subst h; simp [cp_wi, cp_row, upd]
  · simp [cp_wi, cp_row, h]
theorem cp_wi_row (I : cp_Mem) (a j : Nat) (v : Int32) : cp_wi I a j v = cp_row I a (upd (I a) j v) := by
  funext x q
  by_cases h : x = a
  · subst h; simp [cp_wi, cp_row, upd]
  · simp [cp_wi, cp_row, h]
def cp_mm (J : cp_Mem) (m : Nat) (f : Nat → Int32) (r : Nat → Nat → Int32) : cp_Mem := fun x => if x = m then f else if m < x ∧ x ≤ m + 7 then r (x - m) else J x
theorem cp_mm_f (J : cp_Mem) (m : Nat) (f : Nat → Int32) (r : Nat → Nat → Int32) : cp_mm J m f r m = f := by simp [cp_mm]
theorem cp_mm_r (J : cp_Mem) (m : Nat) (f : Nat → Int32) (r : Nat → Nat → Int32) {k : Nat} (h : 0 < k ∧ k ≤ 7) : cp_mm J m f r (m + k) = r k := by
  unfold cp_mm
  rw [if_neg (by omega), if_pos (by omega), show m + k - m = k by omega]
theorem cp_mm_o (J : cp_Mem) {m x : Nat} (f : Nat → Int32) (r : Nat → Nat → Int32) (h : x < m ∨ m + 7 < x) : cp_mm J m f r x = J x := by
  unfold cp_mm
  rw [if_neg (by omega), if_neg (by omega)]
theorem cp_mm_self (I : cp_Mem) (m : Nat) : cp_mm I m (I m) (fun k => I (m + k)) = I := by
  funext x
  unfold cp_mm
  by_cases h : x = m
  · rw [if_pos h, h]
  · rw [if_neg h]
    by_cases h2 : m < x ∧ x ≤ m + 7
    · rw [if_pos h2]
      exact congrArg I (by omega)
    · rw [if_neg h2]
theorem cp_mm_wf (J : cp_Mem) (m : Nat) (f : Nat → Int32) (r : Nat → Nat → Int32) (j : Nat) (v : Int32) : cp_wi (cp_mm J m f r) m j v = cp_mm J m (upd f j v) r := by
  funext x q
  by_cases h : x = m
  · subst h; simp [cp_wi, cp_mm, upd]
  · simp [cp_wi, cp_mm, h]
theorem cp_mm_wr (J : cp_Mem) (m : Nat) (f : Nat → Int32) (r : Nat → Nat → Int32) {k : Nat} (hk : 0 < k ∧ k ≤ 7) (j : Nat) (v : Int32) : cp_wi (cp_mm J m f r) (m + k) j v = cp_mm J m f (cp_wi r k j v) := by
  funext x q
  unfold cp_wi cp_mm
  by_cases h : x = m + k
  · subst h
    rw [if_neg (show ¬ m + k = m by omega), if_neg (show ¬ m + k = m by omega), if_pos (show m < m + k ∧ m + k ≤ m + 7 by omega), if_pos (show m < m + k ∧ m + k ≤ m + 7 by omega), show m + k - m = k by omega]
    simp
  · have h1 : ¬ (x = m + k ∧ q = j) := fun z => h z.1
    rw [if_neg h1]
    by_cases h2 : x = m
    · rw [if_pos h2, if_pos h2]
    · rw [if_neg h2, if_neg h2]
      by_cases h3 : m < x ∧ x ≤ m + 7
      · rw [if_pos h3, if_pos h3]
        exact (if_neg (fun z => by omega)).symm
      · rw [if_neg h3, if_neg h3]
def cp_nn (J : cp_Mem) (b : Nat) (o S : Nat → Int32) (P Q : Nat → Nat → Int32) : cp_Mem := fun x => if x = b then o else if x = b + 1 then S else if b + 3 ≤ x ∧ x < b + 27 then P (x - (b + 3)) else if b + 28 ≤ x ∧ x < b + 36 then Q (x - (b + 28)) else J x
section CPN
variable (J : cp_Mem) (b : Nat) (o S : Nat → Int32) (P Q : Nat → Nat → Int32)
theorem cp_nn_o : cp_nn J b o S P Q b = o := by simp [cp_nn]
theorem cp_nn_S : cp_nn J b o S P Q (b + 1) = S := by simp [cp_nn]
theorem cp_nn_P {i : Nat} (h : i < 24) : cp_nn J b o S P Q (b + 3 + i) = P i := by
  unfold cp_nn
  rw [if_neg (by omega), if_neg (by omega), if_pos (by omega), show b + 3 + i - (b + 3) = i by omega]
theorem cp_nn_Q {i : Nat} (h : i < 8) : cp_nn J b o S P Q (b + 28 + i) = Q i := by
  unfold cp_nn
  rw [if_neg (by omega), if_neg (by omega), if_neg (by omega), if_pos (by omega), show b + 28 + i - (b + 28) = i by omega]
theorem cp_nn_x {x : Nat} (h : x < b ∨ b + 36 ≤ x) : cp_nn J b o S P Q x = J x := by
  unfold cp_nn
  rw [if_neg (by omega), if_neg (by omega), if_neg (by omega), if_neg (by omega)]
theorem cp_nn_self : cp_nn J b (J b) (J (b + 1)) (fun i => J (b + 3 + i)) (fun i => J (b + 28 + i)) = J := by
  funext x
  unfold cp_nn
  by_cases h : x = b
  · rw [if_pos h, h]
  · rw [if_neg h]
    by_cases h1 : x = b + 1
    · rw [if_pos h1, h1]
    · rw [if_neg h1]
      by_cases h2 : b + 3 ≤ x ∧ x < b + 27
      · rw [if_pos h2]
        exact congrArg J (by omega)
      · rw [if_neg h2]
        by_cases h3 : b + 28 ≤ x ∧ x < b + 36
        · rw [if_pos h3]
          exact congrArg J (by omega)
        · rw [if_neg h3]
theorem cp_nn_ro (f : Nat → Int32) : cp_row (cp_nn J b o S P Q) b f = cp_nn J b f S P Q := by
  funext x
  unfold cp_row cp_nn
  by_cases h : x = b
  · rw [if_pos h, if_pos h]
  · rw [if_neg h, if_neg h, if_neg h]
theorem cp_nn_rS (f : Nat → Int32) : cp_row (cp_nn J b o S P Q) (b + 1) f = cp_nn J b o f P Q := by
  funext x
  unfold cp_row cp_nn
  by_cases h : x = b + 1
  · rw [if_pos h, if_neg (by omega), if_pos h]
  · rw [if_neg h, if_neg h, if_neg h]
theorem cp_nn_rP {i : Nat} (hi : i < 24) (f : Nat → Int32) : cp_row (cp_nn J b o S P Q) (b + 3 + i) f = cp_nn J b o S (cp_row P i f) Q := by
  funext x
  unfold cp_row cp_nn
  by_cases h : x = b + 3 + i
  · rw [if_pos h, if_neg (by omega), if_neg (by omega), if_pos (by omega)]
    exact (if_pos (by omega)).symm
  · rw [if_neg h]
    by_cases h1 : x = b
    · rw [if_pos h1, if_pos h1]
    · rw [if_neg h1, if_neg h1]
      by_cases h2 : x = b + 1
      · rw [if_pos h2, if_pos h2]
      · rw [if_neg h2, if_neg h2]
        by_cases h3 : b + 3 ≤ x ∧ x < b + 27
        · rw [if_pos h3, if_pos h3]
          exact (if_neg (by omega)).symm
        · rw [if_neg h3, if_neg h3]
theorem cp_nn_rQ {i : Nat} (hi : i < 8) (f : Nat → Int32) : cp_row (cp_nn J b o S P Q) (b + 28 + i) f = cp_nn J b o S P (cp_row Q i f) := by
  funext x
  unfold cp_row cp_nn
  by_cases h : x = b + 28 + i
  · rw [if_pos h, if_neg (by omega), if_neg (by omega), if_neg (by omega), if_pos (by omega)]
    exact (if_pos (by omega)).symm
  · rw [if_neg h]
    by_cases h1 : x = b
    · rw [if_pos h1, if_pos h1]
    · rw [if_neg h1, if_neg h1]
      by_cases h2 : x = b + 1
      · rw [if_pos h2, if_pos h2]
      · rw [if_neg h2, if_neg h2]
        by_cases h3 : b + 3 ≤ x ∧ x < b + 27
        · rw [if_pos h3, if_pos h3]
        · rw [if_neg h3, if_neg h3]
          by_cases h4 : b + 28 ≤ x ∧ x < b + 36
          · rw [if_pos h4, if_pos h4]
            exact (if_neg (by omega)).symm
          · rw [if_neg h4, if_neg h4]
end CPN
theorem cp_Fn_eq {l : Launch} {E : cp_En} {y : MethodName} {bc : ByteArray} {nL : Nat} {ret : Option FieldType} {d : Nat} {as : List Value} {cnt : Nat} {sh : cp_Shp} {I : cp_Mem} {R : cp_Rem} {v v' : Option Value} {I' I'' : cp_Mem} (h : cp_Fn l E y bc nL ret d as cnt sh I R v I') (hv : v = v') (hI : I' = I'') : cp_Fn l E y bc nL ret d as cnt sh I R v' I'' := by
  subst hv; subst hI; exact h
section CPV
variable {x : cp_Cx} {E : cp_En} {bc : ByteArray} {nL d mc ms cells slots cnt : Nat} {sh : cp_Shp} {R : cp_Rem} {pc : Nat} {L : List (Option Value)} {st : List Value} {own : String} {J : cp_Mem} {m b : Nat} {f o S : Nat → Int32} {r P Q : Nat → Nat → Int32}
theorem cp_ialdM (O : cp_Ok x E own bc nL d mc ms) {k n j : Nat} {i : Int32} (hs : sh (m + k) = (9, n)) (hk : 0 < k ∧ k ≤ 7) (hi : i = nI j) (hj : j < n) (hn : n < 2 ^ 31) (hd : decode bc pc = .ok (.iaload, 1)) (kk : cp_G x E nL cells slots cnt sh (cp_mm J m f r) R (pc + 1) L (.int (r k j) :: st)) : cp_G x E nL cells slots cnt sh (cp_mm J m f r) R pc L (.int i :: .ref (m + k) :: st) := by
  refine cp_iald O hs hi hj hn hd ?_
  rw [cp_mm_r J m f r hk]
  exact kk
theorem cp_iastM (O : cp_Ok x E own bc nL d mc ms) {k n j : Nat} {i v : Int32} (hs : sh (m + k) = (9, n)) (hk : 0 < k ∧ k ≤ 7) (hi : i = nI j) (hj : j < n) (hn : n < 2 ^ 31) (hd : decode bc pc = .ok (.iastore, 1)) (kk : cp_G x E nL cells slots cnt sh (cp_mm J m f (cp_wi r k j v)) R (pc + 1) L st) : cp_G x E nL cells slots cnt sh (cp_mm J m f r) R pc L (.int v :: .int i :: .ref (m + k) :: st) := by
  refine cp_iast O hs hi hj hn hd ?_
  rw [cp_mm_wr J m f r hk]
  exact kk
theorem cp_ialdS (O : cp_Ok x E own bc nL d mc ms) {j : Nat} {i : Int32} (N : cp_NL sh R b) (hi : i = nI j) (hj : j < 4) (hd : decode bc pc = .ok (.iaload, 1)) (kk : cp_G x E nL cells slots cnt sh (cp_nn J b o S P Q) R (pc + 1) L (.int (S j) :: st)) : cp_G x E nL cells slots cnt sh (cp_nn J b o S P Q) R pc L (.int i :: .ref (b + 1) :: st) := by
  refine cp_iald O N.sset hi hj (by decide) hd ?_
  rw [cp_nn_S]
  exact kk
theorem cp_iastS (O : cp_Ok x E own bc nL d mc ms) {j : Nat} {i v : Int32} (N : cp_NL sh R b) (hi : i = nI j) (hj : j < 4) (hd : decode bc pc = .ok (.iastore, 1)) (kk : cp_G x E nL cells slots cnt sh (cp_nn J b o (upd S j v) P Q) R (pc + 1) L st) : cp_G x E nL cells slots cnt sh (cp_nn J b o S P Q) R pc L (.int v :: .int i :: .ref (b + 1) :: st) := by
  refine cp_iast O N.sset hi hj (by decide) hd ?_
  rw [cp_wi_row, cp_nn_S, cp_nn_rS]
  exact kk
theorem rg_X4_9 (O : cp_Ok x E RX4 bc nL d mc ms) {a : Nat} {g : Nat → Int32} (hs : sh a = (5, 0)) (hd : decode bc pc = .ok (.getfield 9, 3)) (k : cp_G x E nL cells slots cnt sh (cp_row J a g) R (pc + 3) L (.int (g 0) :: st)) : cp_G x E nL cells slots cnt sh (cp_row J a g) R pc L (.ref a :: st) := by
  refine fg_X4_9 O hs hd ?_
  rw [cp_row_s]
  exact k
theorem rp_X4_9 (O : cp_Ok x E RX4 bc nL d mc ms) {v : Int32} {a : Nat} {g : Nat → Int32} (hs : sh a = (5, 0)) (hd : decode bc pc = .ok (.putfield 9, 3)) (k : cp_G x E nL cells slots cnt sh (cp_row J a (upd g 0 v)) R (pc + 3) L st) : cp_G x E nL cells slots cnt sh (cp_row J a g) R pc L (.int v :: .ref a :: st) := by
  refine fp_X4_9 O hs hd ?_
  rw [cp_row_wi]
  exact k
theorem pg_X1_115 (O : cp_Ok x E RX1 bc nL d mc ms) (N : cp_NL sh R b) {i : Nat} (hi : i < 24) (hd : decode bc pc = .ok (.getfield 115, 3)) (k : cp_G x E nL cells slots cnt sh (cp_nn J b o S P Q) R (pc + 3) L (.int (P i 0) :: st)) : cp_G x E nL cells slots cnt sh (cp_nn J b o S P Q) R pc L (.ref (b + 3 + i) :: st) := by
  refine fg_X1_115 O (N.spc hi) hd ?_
  rw [cp_nn_P _ _ _ _ _ _ hi]
  exact k
theorem pp_X1_115 (O : cp_Ok x E RX1 bc nL d mc ms) {v : Int32} (N : cp_NL sh R b) {i : Nat} (hi : i < 24) (hd : decode bc pc = .ok (.putfield 115, 3)) (k : cp_G x E nL cells slots cnt sh (cp_nn J b o S (cp_wi P i 0 v) Q) R (pc + 3) L st) : cp_G x E nL cells slots cnt sh (cp_nn J b o S P Q) R pc L (.int v :: .ref (b + 3 + i) :: st) := by
  refine fp_X1_115 O (N.spc hi) hd ?_
  rw [cp_wi_row, cp_nn_P _ _ _ _ _ _ hi, cp_nn_rP _ _ _ _ _ _ hi, ← cp_wi_row]
  exact k
theorem rg_X1_115 (O : cp_Ok x E RX1 bc nL d mc ms) {a : Nat} {g : Nat → Int32} (hs : sh a = (5, 0)) (hd : decode bc pc = .ok (.getfield 115, 3)) (k : cp_G x E nL cells slots cnt sh (cp_row J a g) R (pc + 3) L (.int (g 0) :: st)) : cp_G x E nL cells slots cnt sh (cp_row J a g) R pc L (.ref a :: st) := by
  refine fg_X1_115 O hs hd ?_
  rw [cp_row_s]
  exact k
theorem rp_X1_115 (O : cp_Ok x E RX1 bc nL d mc ms) {v : Int32} {a : Nat} {g : Nat → Int32} (hs : sh a = (5, 0)) (hd : decode bc pc = .ok (.putfield 115, 3)) (k : cp_G x E nL cells slots cnt sh (cp_row J a (upd g 0 v)) R (pc + 3) L st) : cp_G x E nL cells slots cnt sh (cp_row J a g) R pc L (.int v :: .ref a :: st) := by
  refine fp_X1_115 O hs hd ?_
  rw [cp_row_wi]
  exact k
theorem rg_X4_15 (O : cp_Ok x E RX4 bc nL d mc ms) {a : Nat} {g : Nat → Int32} (hs : sh a = (5, 0)) (hd : decode bc pc = .ok (.getfield 15, 3)) (k : cp_G x E nL cells slots cnt sh (cp_row J a g) R (pc + 3) L (.int (g 1) :: st)) : cp_G x E nL cells slots cnt sh (cp_row J a g) R pc L (.ref a :: st) := by
  refine fg_X4_15 O hs hd ?_
  rw [cp_row_s]
  exact k
theorem rp_X4_15 (O : cp_Ok x E RX4 bc nL d mc ms) {v : Int32} {a : Nat} {g : Nat → Int32} (hs : sh a = (5, 0)) (hd : decode bc pc = .ok (.putfield 15, 3)) (k : cp_G x E nL cells slots cnt sh (cp_row J a (upd g 1 v)) R (pc + 3) L st) : cp_G x E nL cells slots cnt sh (cp_row J a g) R pc L (.int v :: .ref a :: st) := by
  refine fp_X4_15 O hs hd ?_
  rw [cp_row_wi]
  exact k
theorem pg_X1_144 (O : cp_Ok x E RX1 bc nL d mc ms) (N : cp_NL sh R b) {i : Nat} (hi : i < 24) (hd : decode bc pc = .ok (.getfield 144, 3)) (k : cp_G x E nL cells slots cnt sh (cp_nn J b o S P Q) R (pc + 3) L (.int (P i 1) :: st)) : cp_G x E nL cells slots cnt sh (cp_nn J b o S P Q) R pc L (.ref (b + 3 + i) :: st) := by
  refine fg_X1_144 O (N.spc hi) hd ?_
  rw [cp_nn_P _ _ _ _ _ _ hi]
  exact k
theorem pp_X1_144 (O : cp_Ok x E RX1 bc nL d mc ms) {v : Int32} (N : cp_NL sh R b) {i : Nat} (hi : i < 24) (hd : decode bc pc = .ok (.putfield 144, 3)) (k : cp_G x E nL cells slots cnt sh (cp_nn J b o S (cp_wi P i 1 v) Q) R (pc + 3) L st) : cp_G x E nL cells slots cnt sh (cp_nn J b o S P Q) R pc L (.int v :: .ref (b + 3 + i) :: st) := by
  refine fp_X1_144 O (N.spc hi) hd ?_
  rw [cp_wi_row, cp_nn_P _ _ _ _ _ _ hi, cp_nn_rP _ _ _ _ _ _ hi, ← cp_wi_row]
  exact k
theorem rg_X1_144 (O : cp_Ok x E RX1 bc nL d mc ms) {a : Nat} {g : Nat → Int32} (hs : sh a = (5, 0)) (hd : decode bc pc = .ok (.getfield 144, 3)) (k : cp_G x E nL cells slots cnt sh (cp_row J a g) R (pc + 3) L (.int (g 1) :: st)) : cp_G x E nL cells slots cnt sh (cp_row J a g) R pc L (.ref a :: st) := by
  refine fg_X1_144 O hs hd ?_
  rw [cp_row_s]
  exact k
theorem rp_X1_144 (O : cp_Ok x E RX1 bc nL d mc ms) {v : Int32} {a : Nat} {g : Nat → Int32} (hs : sh a = (5, 0)) (hd : decode bc pc = .ok (.putfield 144, 3)) (k : cp_G x E nL cells slots cnt sh (cp_row J a (upd g 1 v)) R (pc + 3) L st) : cp_G x E nL cells slots cnt sh (cp_row J a g) R pc L (.int v :: .ref a :: st) := by
  refine fp_X1_144 O hs hd ?_
  rw [cp_row_wi]
  exact k
theorem rg_X4_18 (O : cp_Ok x E RX4 bc nL d mc ms) {a : Nat} {g : Nat → Int32} (hs : sh a = (5, 0)) (hd : decode bc pc = .ok (.getfield 18, 3)) (k : cp_G x E nL cells slots cnt sh (cp_row J a g) R (pc + 3) L (.int (g 2) :: st)) : cp_G x E nL cells slots cnt sh (cp_row J a g) R pc L (.ref a :: st) := by
  refine fg_X4_18 O hs hd ?_
  rw [cp_row_s]
  exact k
theorem rp_X4_18 (O : cp_Ok x E RX4 bc nL d mc ms) {v : Int32} {a : Nat} {g : Nat → Int32} (hs : sh a = (5, 0)) (hd : decode bc pc = .ok (.putfield 18, 3)) (k : cp_G x E nL cells slots cnt sh (cp_row J a (upd g 2 v)) R (pc + 3) L st) : cp_G x E nL cells slots cnt sh (cp_row J a g) R pc L (.int v :: .ref a :: st) := by
  refine fp_X4_18 O hs hd ?_
  rw [cp_row_wi]
  exact k
theorem pg_X1_156 (O : cp_Ok x E RX1 bc nL d mc ms) (N : cp_NL sh R b) {i : Nat} (hi : i < 24) (hd : decode bc pc = .ok (.getfield 156, 3)) (k : cp_G x E nL cells slots cnt sh (cp_nn J b o S P Q) R (pc + 3) L (.int (P i 2) :: st)) : cp_G x E nL cells slots cnt sh (cp_nn J b o S P Q) R pc L (.ref (b + 3 + i) :: st) := by
  refine fg_X1_156 O (N.spc hi) hd ?_
  rw [cp_nn_P _ _ _ _ _ _ hi]
  exact k
theorem pp_X1_156 (O : cp_Ok x E RX1 bc nL d mc ms) {v : Int32} (N : cp_NL sh R b) {i : Nat} (hi : i < 24) (hd : decode bc pc = .ok (.putfield 156, 3)) (k : cp_G x E nL cells slots cnt sh (cp_nn J b o S (cp_wi P i 2 v) Q) R (pc + 3) L st) : cp_G x E nL cells slots cnt sh (cp_nn J b o S P Q) R pc L (.int v :: .ref (b + 3 + i) :: st) := by
  refine fp_X1_156 O (N.spc hi) hd ?_
  rw [cp_wi_row, cp_nn_P _ _ _ _ _ _ hi, cp_nn_rP _ _ _ _ _ _ hi, ← cp_wi_row]
  exact k
theorem rg_X1_156 (O : cp_Ok x E RX1 bc nL d mc ms) {a : Nat} {g : Nat → Int32} (hs : sh a = (5, 0)) (hd : decode bc pc = .ok (.getfield 156, 3)) (k : cp_G x E nL cells slots cnt sh (cp_row J a g) R (pc + 3) L (.int (g 2) :: st)) : cp_G x E nL cells slots cnt sh (cp_row J a g) R pc L (.ref a :: st) := by
  refine fg_X1_156 O hs hd ?_
  rw [cp_row_s]
  exact k
theorem rp_X1_156 (O : cp_Ok x E RX1 bc nL d mc ms) {v : Int32} {a : Nat} {g : Nat → Int32} (hs : sh a = (5, 0)) (hd : decode bc pc = .ok (.putfield 156, 3)) (k : cp_G x E nL cells slots cnt sh (cp_row J a (upd g 2 v)) R (pc + 3) L st) : cp_G x E nL cells slots cnt sh (cp_row J a g) R pc L (.int v :: .ref a :: st) := by
  refine fp_X1_156 O hs hd ?_
  rw [cp_row_wi]
  exact k
theorem rg_X4_21 (O : cp_Ok x E RX4 bc nL d mc ms) {a : Nat} {g : Nat → Int32} (hs : sh a = (5, 0)) (hd : decode bc pc = .ok (.getfield 21, 3)) (k : cp_G x E nL cells slots cnt sh (cp_row J a g) R (pc + 3) L (.int (g 3) :: st)) : cp_G x E nL cells slots cnt sh (cp_row J a g) R pc L (.ref a :: st) := by
  refine fg_X4_21 O hs hd ?_
  rw [cp_row_s]
  exact k
theorem rp_X4_21 (O : cp_Ok x E RX4 bc nL d mc ms) {v : Int32} {a : Nat} {g : Nat → Int32} (hs : sh a = (5, 0)) (hv : v = 0 ∨ v = 1) (hd : decode bc pc = .ok (.putfield 21, 3)) (k : cp_G x E nL cells slots cnt sh (cp_row J a (upd g 3 v)) R (pc + 3) L st) : cp_G x E nL cells slots cnt sh (cp_row J a g) R pc L (.int v :: .ref a :: st) := by
  refine fp_X4_21 O hs hv hd ?_
  rw [cp_row_wi]
  exact k
theorem pg_X1_188 (O : cp_Ok x E RX1 bc nL d mc ms) (N : cp_NL sh R b) {i : Nat} (hi : i < 24) (hd : decode bc pc = .ok (.getfield 188, 3)) (k : cp_G x E nL cells slots cnt sh (cp_nn J b o S P Q) R (pc + 3) L (.int (P i 3) :: st)) : cp_G x E nL cells slots cnt sh (cp_nn J b o S P Q) R pc L (.ref (b + 3 + i) :: st) := by
  refine fg_X1_188 O (N.spc hi) hd ?_
  rw [cp_nn_P _ _ _ _ _ _ hi]
  exact k
theorem pp_X1_188 (O : cp_Ok x E RX1 bc nL d mc ms) {v : Int32} (N : cp_NL sh R b) {i : Nat} (hi : i < 24) (hv : v = 0 ∨ v = 1) (hd : decode bc pc = .ok (.putfield 188, 3)) (k : cp_G x E nL cells slots cnt sh (cp_nn J b o S (cp_wi P i 3 v) Q) R (pc + 3) L st) : cp_G x E nL cells slots cnt sh (cp_nn J b o S P Q) R pc L (.int v :: .ref (b + 3 + i) :: st) := by
  refine fp_X1_188 O (N.spc hi) hv hd ?_
  rw [cp_wi_row, cp_nn_P _ _ _ _ _ _ hi, cp_nn_rP _ _ _ _ _ _ hi, ← cp_wi_row]
  exact k
theorem rg_X1_188 (O : cp_Ok x E RX1 bc nL d mc ms) {a : Nat} {g : Nat → Int32} (hs : sh a = (5, 0)) (hd : decode bc pc = .ok (.getfield 188, 3)) (k : cp_G x E nL cells slots cnt sh (cp_row J a g) R (pc + 3) L (.int (g 3) :: st)) : cp_G x E nL cells slots cnt sh (cp_row J a g) R pc L (.ref a :: st) := by
  refine fg_X1_188 O hs hd ?_
  rw [cp_row_s]
  exact k
theorem rp_X1_188 (O : cp_Ok x E RX1 bc nL d mc ms) {v : Int32} {a : Nat} {g : Nat → Int32} (hs : sh a = (5, 0)) (hv : v = 0 ∨ v = 1) (hd : decode bc pc = .ok (.putfield 188, 3)) (k : cp_G x E nL cells slots cnt sh (cp_row J a (upd g 3 v)) R (pc + 3) L st) : cp_G x E nL cells slots cnt sh (cp_row J a g) R pc L (.int v :: .ref a :: st) := by
  refine fp_X1_188 O hs hv hd ?_
  rw [cp_row_wi]
  exact k
theorem rg_X4_25 (O : cp_Ok x E RX4 bc nL d mc ms) {a : Nat} {g : Nat → Int32} (hs : sh a = (5, 0)) (hd : decode bc pc = .ok (.getfield 25, 3)) (k : cp_G x E nL cells slots cnt sh (cp_row J a g) R (pc + 3) L (.int (g 4) :: st)) : cp_G x E nL cells slots cnt sh (cp_row J a g) R pc L (.ref a :: st) := by
  refine fg_X4_25 O hs hd ?_
  rw [cp_row_s]
  exact k
theorem rp_X4_25 (O : cp_Ok x E RX4 bc nL d mc ms) {v : Int32} {a : Nat} {g : Nat → Int32} (hs : sh a = (5, 0)) (hd : decode bc pc = .ok (.putfield 25, 3)) (k : cp_G x E nL cells slots cnt sh (cp_row J a (upd g 4 v)) R (pc + 3) L st) : cp_G x E nL cells slots cnt sh (cp_row J a g) R pc L (.int v :: .ref a :: st) := by
  refine fp_X4_25 O hs hd ?_
  rw [cp_row_wi]
  exact k
theorem pg_X1_64 (O : cp_Ok x E RX1 bc nL d mc ms) (N : cp_NL sh R b) {i : Nat} (hi : i < 24) (hd : decode bc pc = .ok (.getfield 64, 3)) (k : cp_G x E nL cells slots cnt sh (cp_nn J b o S P Q) R (pc + 3) L (.int (P i 4) :: st)) : cp_G x E nL cells slots cnt sh (cp_nn J b o S P Q) R pc L (.ref (b + 3 + i) :: st) := by
  refine fg_X1_64 O (N.spc hi) hd ?_
  rw [cp_nn_P _ _ _ _ _ _ hi]
  exact k
theorem pp_X1_64 (O : cp_Ok x E RX1 bc nL d mc ms) {v : Int32} (N : cp_NL sh R b) {i : Nat} (hi : i < 24) (hd : decode bc pc = .ok (.putfield 64, 3)) (k : cp_G x E nL cells slots cnt sh (cp_nn J b o S (cp_wi P i 4 v) Q) R (pc + 3) L st) : cp_G x E nL cells slots cnt sh (cp_nn J b o S P Q) R pc L (.int v :: .ref (b + 3 + i) :: st) := by
  refine fp_X1_64 O (N.spc hi) hd ?_
  rw [cp_wi_row, cp_nn_P _ _ _ _ _ _ hi, cp_nn_rP _ _ _ _ _ _ hi, ← cp_wi_row]
  exact k
theorem rg_X1_64 (O : cp_Ok x E RX1 bc nL d mc ms) {a : Nat} {g : Nat → Int32} (hs : sh a = (5, 0)) (hd : decode bc pc = .ok (.getfield 64, 3)) (k : cp_G x E nL cells slots cnt sh (cp_row J a g) R (pc + 3) L (.int (g 4) :: st)) : cp_G x E nL cells slots cnt sh (cp_row J a g) R pc L (.ref a :: st) := by
  refine fg_X1_64 O hs hd ?_
  rw [cp_row_s]
  exact k
theorem rp_X1_64 (O : cp_Ok x E RX1 bc nL d mc ms) {v : Int32} {a : Nat} {g : Nat → Int32} (hs : sh a = (5, 0)) (hd : decode bc pc = .ok (.putfield 64, 3)) (k : cp_G x E nL cells slots cnt sh (cp_row J a (upd g 4 v)) R (pc + 3) L st) : cp_G x E nL cells slots cnt sh (cp_row J a g) R pc L (.int v :: .ref a :: st) := by
  refine fp_X1_64 O hs hd ?_
  rw [cp_row_wi]
  exact k
theorem rg_X4_28 (O : cp_Ok x E RX4 bc nL d mc ms) {a : Nat} {g : Nat → Int32} (hs : sh a = (5, 0)) (hd : decode bc pc = .ok (.getfield 28, 3)) (k : cp_G x E nL cells slots cnt sh (cp_row J a g) R (pc + 3) L (.int (g 5) :: st)) : cp_G x E nL cells slots cnt sh (cp_row J a g) R pc L (.ref a :: st) := by
  refine fg_X4_28 O hs hd ?_
  rw [cp_row_s]
  exact k
theorem rp_X4_28 (O : cp_Ok x E RX4 bc nL d mc ms) {v : Int32} {a : Nat} {g : Nat → Int32} (hs : sh a = (5, 0)) (hv : v = 0 ∨ v = 1) (hd : decode bc pc = .ok (.putfield 28, 3)) (k : cp_G x E nL cells slots cnt sh (cp_row J a (upd g 5 v)) R (pc + 3) L st) : cp_G x E nL cells slots cnt sh (cp_row J a g) R pc L (.int v :: .ref a :: st) := by
  refine fp_X4_28 O hs hv hd ?_
  rw [cp_row_wi]
  exact k
theorem pg_X1_85 (O : cp_Ok x E RX1 bc nL d mc ms) (N : cp_NL sh R b) {i : Nat} (hi : i < 24) (hd : decode bc pc = .ok (.getfield 85, 3)) (k : cp_G x E nL cells slots cnt sh (cp_nn J b o S P Q) R (pc + 3) L (.int (P i 5) :: st)) : cp_G x E nL cells slots cnt sh (cp_nn J b o S P Q) R pc L (.ref (b + 3 + i) :: st) := by
  refine fg_X1_85 O (N.spc hi) hd ?_
  rw [cp_nn_P _ _ _ _ _ _ hi]
  exact k
theorem pp_X1_85 (O : cp_Ok x E RX1 bc nL d mc ms) {v : Int32} (N : cp_NL sh R b) {i : Nat} (hi : i < 24) (hv : v = 0 ∨ v = 1) (hd : decode bc pc = .ok (.putfield 85, 3)) (k : cp_G x E nL cells slots cnt sh (cp_nn J b o S (cp_wi P i 5 v) Q) R (pc + 3) L st) : cp_G x E nL cells slots cnt sh (cp_nn J b o S P Q) R pc L (.int v :: .ref (b + 3 + i) :: st) := by
  refine fp_X1_85 O (N.spc hi) hv hd ?_
  rw [cp_wi_row, cp_nn_P _ _ _ _ _ _ hi, cp_nn_rP _ _ _ _ _ _ hi, ← cp_wi_row]
  exact k
theorem rg_X1_85 (O : cp_Ok x E RX1 bc nL d mc ms) {a : Nat} {g : Nat → Int32} (hs : sh a = (5, 0)) (hd : decode bc pc = .ok (.getfield 85, 3)) (k : cp_G x E nL cells slots cnt sh (cp_row J a g) R (pc + 3) L (.int (g 5) :: st)) : cp_G x E nL cells slots cnt sh (cp_row J a g) R pc L (.ref a :: st) := by
  refine fg_X1_85 O hs hd ?_
  rw [cp_row_s]
  exact k
theorem rp_X1_85 (O : cp_Ok x E RX1 bc nL d mc ms) {v : Int32} {a : Nat} {g : Nat → Int32} (hs : sh a = (5, 0)) (hv : v = 0 ∨ v = 1) (hd : decode bc pc = .ok (.putfield 85, 3)) (k : cp_G x E nL cells slots cnt sh (cp_row J a (upd g 5 v)) R (pc + 3) L st) : cp_G x E nL cells slots cnt sh (cp_row J a g) R pc L (.int v :: .ref a :: st) := by
  refine fp_X1_85 O hs hv hd ?_
  rw [cp_row_wi]
  exact k
theorem rg_X4_31 (O : cp_Ok x E RX4 bc nL d mc ms) {a : Nat} {g : Nat → Int32} (hs : sh a = (5, 0)) (hd : decode bc pc = .ok (.getfield 31, 3)) (k : cp_G x E nL cells slots cnt sh (cp_row J a g) R (pc + 3) L (.int (g 6) :: st)) : cp_G x E nL cells slots cnt sh (cp_row J a g) R pc L (.ref a :: st) := by
  refine fg_X4_31 O hs hd ?_
  rw [cp_row_s]
  exact k
theorem rp_X4_31 (O : cp_Ok x E RX4 bc nL d mc ms) {v : Int32} {a : Nat} {g : Nat → Int32} (hs : sh a = (5, 0)) (hd : decode bc pc = .ok (.putfield 31, 3)) (k : cp_G x E nL cells slots cnt sh (cp_row J a (upd g 6 v)) R (pc + 3) L st) : cp_G x E nL cells slots cnt sh (cp_row J a g) R pc L (.int v :: .ref a :: st) := by
  refine fp_X4_31 O hs hd ?_
  rw [cp_row_wi]
  exact k
theorem pg_X1_191 (O : cp_Ok x E RX1 bc nL d mc ms) (N : cp_NL sh R b) {i : Nat} (hi : i < 24) (hd : decode bc pc = .ok (.getfield 191, 3)) (k : cp_G x E nL cells slots cnt sh (cp_nn J b o S P Q) R (pc + 3) L (.int (P i 6) :: st)) : cp_G x E nL cells slots cnt sh (cp_nn J b o S P Q) R pc L (.ref (b + 3 + i) :: st) := by
  refine fg_X1_191 O (N.spc hi) hd ?_
  rw [cp_nn_P _ _ _ _ _ _ hi]
  exact k
theorem pp_X1_191 (O : cp_Ok x E RX1 bc nL d mc ms) {v : Int32} (N : cp_NL sh R b) {i : Nat} (hi : i < 24) (hd : decode bc pc = .ok (.putfield 191, 3)) (k : cp_G x E nL cells slots cnt sh (cp_nn J b o S (cp_wi P i 6 v) Q) R (pc + 3) L st) : cp_G x E nL cells slots cnt sh (cp_nn J b o S P Q) R pc L (.int v :: .ref (b + 3 + i) :: st) := by
  refine fp_X1_191 O (N.spc hi) hd ?_
  rw [cp_wi_row, cp_nn_P _ _ _ _ _ _ hi, cp_nn_rP _ _ _ _ _ _ hi, ← cp_wi_row]
  exact k
theorem rg_X1_191 (O : cp_Ok x E RX1 bc nL d mc ms) {a : Nat} {g : Nat → Int32} (hs : sh a = (5, 0)) (hd : decode bc pc = .ok (.getfield 191, 3)) (k : cp_G x E nL cells slots cnt sh (cp_row J a g) R (pc + 3) L (.int (g 6) :: st)) : cp_G x E nL cells slots cnt sh (cp_row J a g) R pc L (.ref a :: st) := by
  refine fg_X1_191 O hs hd ?_
  rw [cp_row_s]
  exact k
theorem rp_X1_191 (O : cp_Ok x E RX1 bc nL d mc ms) {v : Int32} {a : Nat} {g : Nat → Int32} (hs : sh a = (5, 0)) (hd : decode bc pc = .ok (.putfield 191, 3)) (k : cp_G x E nL cells slots cnt sh (cp_row J a (upd g 6 v)) R (pc + 3) L st) : cp_G x E nL cells slots cnt sh (cp_row J a g) R pc L (.int v :: .ref a :: st) := by
  refine fp_X1_191 O hs hd ?_
  rw [cp_row_wi]
  exact k
theorem rg_X4_34 (O : cp_Ok x E RX4 bc nL d mc ms) {a : Nat} {g : Nat → Int32} (hs : sh a = (5, 0)) (hd : decode bc pc = .ok (.getfield 34, 3)) (k : cp_G x E nL cells slots cnt sh (cp_row J a g) R (pc + 3) L (.int (g 7) :: st)) : cp_G x E nL cells slots cnt sh (cp_row J a g) R pc L (.ref a :: st) := by
  refine fg_X4_34 O hs hd ?_
  rw [cp_row_s]
  exact k
theorem rp_X4_34 (O : cp_Ok x E RX4 bc nL d mc ms) {v : Int32} {a : Nat} {g : Nat → Int32} (hs : sh a = (5, 0)) (hd : decode bc pc = .ok (.putfield 34, 3)) (k : cp_G x E nL cells slots cnt sh (cp_row J a (upd g 7 v)) R (pc + 3) L st) : cp_G x E nL cells slots cnt sh (cp_row J a g) R pc L (.int v :: .ref a :: st) := by
  refine fp_X4_34 O hs hd ?_
  rw [cp_row_wi]
  exact k
theorem pg_X1_194 (O : cp_Ok x E RX1 bc nL d mc ms) (N : cp_NL sh R b) {i : Nat} (hi : i < 24) (hd : decode bc pc = .ok (.getfield 194, 3)) (k : cp_G x E nL cells slots cnt sh (cp_nn J b o S P Q) R (pc + 3) L (.int (P i 7) :: st)) : cp_G x E nL cells slots cnt sh (cp_nn J b o S P Q) R pc L (.ref (b + 3 + i) :: st) := by
  refine fg_X1_194 O (N.spc hi) hd ?_
  rw [cp_nn_P _ _ _ _ _ _ hi]
  exact k
theorem pp_X1_194 (O : cp_Ok x E RX1 bc nL d mc ms) {v : Int32} (N : cp_NL sh R b) {i : Nat} (hi : i < 24) (hd : decode bc pc = .ok (.putfield 194, 3)) (k : cp_G x E nL cells slots cnt sh (cp_nn J b o S (cp_wi P i 7 v) Q) R (pc + 3) L st) : cp_G x E nL cells slots cnt sh (cp_nn J b o S P Q) R pc L (.int v :: .ref (b + 3 + i) :: st) := by
  refine fp_X1_194 O (N.spc hi) hd ?_
  rw [cp_wi_row, cp_nn_P _ _ _ _ _ _ hi, cp_nn_rP _ _ _ _ _ _ hi, ← cp_wi_row]
  exact k
theorem rg_X1_194 (O : cp_Ok x E RX1 bc nL d mc ms) {a : Nat} {g : Nat → Int32} (hs : sh a = (5, 0)) (hd : decode bc pc = .ok (.getfield 194, 3)) (k : cp_G x E nL cells slots cnt sh (cp_row J a g) R (pc + 3) L (.int (g 7) :: st)) : cp_G x E nL cells slots cnt sh (cp_row J a g) R pc L (.ref a :: st) := by
  refine fg_X1_194 O hs hd ?_
  rw [cp_row_s]
  exact k
theorem rp_X1_194 (O : cp_Ok x E RX1 bc nL d mc ms) {v : Int32} {a : Nat} {g : Nat → Int32} (hs : sh a = (5, 0)) (hd : decode bc pc = .ok (.putfield 194, 3)) (k : cp_G x E nL cells slots cnt sh (cp_row J a (upd g 7 v)) R (pc + 3) L st) : cp_G x E nL cells slots cnt sh (cp_row J a g) R pc L (.int v :: .ref a :: st) := by
  refine fp_X1_194 O hs hd ?_
  rw [cp_row_wi]
  exact k
theorem rg_X4_37 (O : cp_Ok x E RX4 bc nL d mc ms) {a : Nat} {g : Nat → Int32} (hs : sh a = (5, 0)) (hd : decode bc pc = .ok (.getfield 37, 3)) (k : cp_G x E nL cells slots cnt sh (cp_row J a g) R (pc + 3) L (.int (g 8) :: st)) : cp_G x E nL cells slots cnt sh (cp_row J a g) R pc L (.ref a :: st) := by
  refine fg_X4_37 O hs hd ?_
  rw [cp_row_s]
  exact k
theorem rp_X4_37 (O : cp_Ok x E RX4 bc nL d mc ms) {v : Int32} {a : Nat} {g : Nat → Int32} (hs : sh a = (5, 0)) (hd : decode bc pc = .ok (.putfield 37, 3)) (k : cp_G x E nL cells slots cnt sh (cp_row J a (upd g 8 v)) R (pc + 3) L st) : cp_G x E nL cells slots cnt sh (cp_row J a g) R pc L (.int v :: .ref a :: st) := by
  refine fp_X4_37 O hs hd ?_
  rw [cp_row_wi]
  exact k
theorem pg_X1_159 (O : cp_Ok x E RX1 bc nL d mc ms) (N : cp_NL sh R b) {i : Nat} (hi : i < 24) (hd : decode bc pc = .ok (.getfield 159, 3)) (k : cp_G x E nL cells slots cnt sh (cp_nn J b o S P Q) R (pc + 3) L (.int (P i 8) :: st)) : cp_G x E nL cells slots cnt sh (cp_nn J b o S P Q) R pc L (.ref (b + 3 + i) :: st) := by
  refine fg_X1_159 O (N.spc hi) hd ?_
  rw [cp_nn_P _ _ _ _ _ _ hi]
  exact k
theorem pp_X1_159 (O : cp_Ok x E RX1 bc nL d mc ms) {v : Int32} (N : cp_NL sh R b) {i : Nat} (hi : i < 24) (hd : decode bc pc = .ok (.putfield 159, 3)) (k : cp_G x E nL cells slots cnt sh (cp_nn J b o S (cp_wi P i 8 v) Q) R (pc + 3) L st) : cp_G x E nL cells slots cnt sh (cp_nn J b o S P Q) R pc L (.int v :: .ref (b + 3 + i) :: st) := by
  refine fp_X1_159 O (N.spc hi) hd ?_
  rw [cp_wi_row, cp_nn_P _ _ _ _ _ _ hi, cp_nn_rP _ _ _ _ _ _ hi, ← cp_wi_row]
  exact k
theorem rg_X1_159 (O : cp_Ok x E RX1 bc nL d mc ms) {a : Nat} {g : Nat → Int32} (hs : sh a = (5, 0)) (hd : decode bc pc = .ok (.getfield 159, 3)) (k : cp_G x E nL cells slots cnt sh (cp_row J a g) R (pc + 3) L (.int (g 8) :: st)) : cp_G x E nL cells slots cnt sh (cp_row J a g) R pc L (.ref a :: st) := by
  refine fg_X1_159 O hs hd ?_
  rw [cp_row_s]
  exact k
theorem rp_X1_159 (O : cp_Ok x E RX1 bc nL d mc ms) {v : Int32} {a : Nat} {g : Nat → Int32} (hs : sh a = (5, 0)) (hd : decode bc pc = .ok (.putfield 159, 3)) (k : cp_G x E nL cells slots cnt sh (cp_row J a (upd g 8 v)) R (pc + 3) L st) : cp_G x E nL cells slots cnt sh (cp_row J a g) R pc L (.int v :: .ref a :: st) := by
  refine fp_X1_159 O hs hd ?_
  rw [cp_row_wi]
  exact k
theorem rg_X4_40 (O : cp_Ok x E RX4 bc nL d mc ms) {a : Nat} {g : Nat → Int32} (hs : sh a = (5, 0)) (hd : decode bc pc = .ok (.getfield 40, 3)) (k : cp_G x E nL cells slots cnt sh (cp_row J a g) R (pc + 3) L (.int (g 9) :: st)) : cp_G x E nL cells slots cnt sh (cp_row J a g) R pc L (.ref a :: st) := by
  refine fg_X4_40 O hs hd ?_
  rw [cp_row_s]
  exact k
theorem rp_X4_40 (O : cp_Ok x E RX4 bc nL d mc ms) {v : Int32} {a : Nat} {g : Nat → Int32} (hs : sh a = (5, 0)) (hd : decode bc pc = .ok (.putfield 40, 3)) (k : cp_G x E nL cells slots cnt sh (cp_row J a (upd g 9 v)) R (pc + 3) L st) : cp_G x E nL cells slots cnt sh (cp_row J a g) R pc L (.int v :: .ref a :: st) := by
  refine fp_X4_40 O hs hd ?_
  rw [cp_row_wi]
  exact k
theorem pg_X1_132 (O : cp_Ok x E RX1 bc nL d mc ms) (N : cp_NL sh R b) {i : Nat} (hi : i < 24) (hd : decode bc pc = .ok (.getfield 132, 3)) (k : cp_G x E nL cells slots cnt sh (cp_nn J b o S P Q) R (pc + 3) L (.int (P i 9) :: st)) : cp_G x E nL cells slots cnt sh (cp_nn J b o S P Q) R pc L (.ref (b + 3 + i) :: st) := by
  refine fg_X1_132 O (N.spc hi) hd ?_
  rw [cp_nn_P _ _ _ _ _ _ hi]
  exact k
theorem pp_X1_132 (O : cp_Ok x E RX1 bc nL d mc ms) {v : Int32} (N : cp_NL sh R b) {i : Nat} (hi : i < 24) (hd : decode bc pc = .ok (.putfield 132, 3)) (k : cp_G x E nL cells slots cnt sh (cp_nn J b o S (cp_wi P i 9 v) Q) R (pc + 3) L st) : cp_G x E nL cells slots cnt sh (cp_nn J b o S P Q) R pc L (.int v :: .ref (b + 3 + i) :: st) := by
  refine fp_X1_132 O (N.spc hi) hd ?_
  rw [cp_wi_row, cp_nn_P _ _ _ _ _ _ hi, cp_nn_rP _ _ _ _ _ _ hi, ← cp_wi_row]
  exact k
theorem rg_X1_132 (O : cp_Ok x E RX1 bc nL d mc ms) {a : Nat} {g : Nat → Int32} (hs : sh a = (5, 0)) (hd : decode bc pc = .ok (.getfield 132, 3)) (k : cp_G x E nL cells slots cnt sh (cp_row J a g) R (pc + 3) L (.int (g 9) :: st)) : cp_G x E nL cells slots cnt sh (cp_row J a g) R pc L (.ref a :: st) := by
  refine fg_X1_132 O hs hd ?_
  rw [cp_row_s]
  exact k
theorem rp_X1_132 (O : cp_Ok x E RX1 bc nL d mc ms) {v : Int32} {a : Nat} {g : Nat → Int32} (hs : sh a = (5, 0)) (hd : decode bc pc = .ok (.putfield 132, 3)) (k : cp_G x E nL cells slots cnt sh (cp_row J a (upd g 9 v)) R (pc + 3) L st) : cp_G x E nL cells slots cnt sh (cp_row J a g) R pc L (.int v :: .ref a :: st) := by
  refine fp_X1_132 O hs hd ?_
  rw [cp_row_wi]
  exact k
theorem rg_X5_7 (O : cp_Ok x E RX5 bc nL d mc ms) {a : Nat} {g : Nat → Int32} (hs : sh a = (6, 0)) (hd : decode bc pc = .ok (.getfield 7, 3)) (k : cp_G x E nL cells slots cnt sh (cp_row J a g) R (pc + 3) L (.int (g 0) :: st)) : cp_G x E nL cells slots cnt sh (cp_row J a g) R pc L (.ref a :: st) := by
  refine fg_X5_7 O hs hd ?_
  rw [cp_row_s]
  exact k
theorem rp_X5_7 (O : cp_Ok x E RX5 bc nL d mc ms) {v : Int32} {a : Nat} {g : Nat → Int32} (hs : sh a = (6, 0)) (hd : decode bc pc = .ok (.putfield 7, 3)) (k : cp_G x E nL cells slots cnt sh (cp_row J a (upd g 0 v)) R (pc + 3) L st) : cp_G x E nL cells slots cnt sh (cp_row J a g) R pc L (.int v :: .ref a :: st) := by
  refine fp_X5_7 O hs hd ?_
  rw [cp_row_wi]
  exact k
theorem qg_X1_174 (O : cp_Ok x E RX1 bc nL d mc ms) (N : cp_NL sh R b) {i : Nat} (hi : i < 8) (hd : decode bc pc = .ok (.getfield 174, 3)) (k : cp_G x E nL cells slots cnt sh (cp_nn J b o S P Q) R (pc + 3) L (.int (Q i 0) :: st)) : cp_G x E nL cells slots cnt sh (cp_nn J b o S P Q) R pc L (.ref (b + 28 + i) :: st) := by
  refine fg_X1_174 O (N.spl hi) hd ?_
  rw [cp_nn_Q _ _ _ _ _ _ hi]
  exact k
theorem qp_X1_174 (O : cp_Ok x E RX1 bc nL d mc ms) {v : Int32} (N : cp_NL sh R b) {i : Nat} (hi : i < 8) (hd : decode bc pc = .ok (.putfield 174, 3)) (k : cp_G x E nL cells slots cnt sh (cp_nn J b o S P (cp_wi Q i 0 v)) R (pc + 3) L st) : cp_G x E nL cells slots cnt sh (cp_nn J b o S P Q) R pc L (.int v :: .ref (b + 28 + i) :: st) := by
  refine fp_X1_174 O (N.spl hi) hd ?_
  rw [cp_wi_row, cp_nn_Q _ _ _ _ _ _ hi, cp_nn_rQ _ _ _ _ _ _ hi, ← cp_wi_row]
  exact k
theorem rg_X1_174 (O : cp_Ok x E RX1 bc nL d mc ms) {a : Nat} {g : Nat → Int32} (hs : sh a = (6, 0)) (hd : decode bc pc = .ok (.getfield 174, 3)) (k : cp_G x E nL cells slots cnt sh (cp_row J a g) R (pc + 3) L (.int (g 0) :: st)) : cp_G x E nL cells slots cnt sh (cp_row J a g) R pc L (.ref a :: st) := by
  refine fg_X1_174 O hs hd ?_
  rw [cp_row_s]
  exact k
theorem rp_X1_174 (O : cp_Ok x E RX1 bc nL d mc ms) {v : Int32} {a : Nat} {g : Nat → Int32} (hs : sh a = (6, 0)) (hd : decode bc pc = .ok (.putfield 174, 3)) (k : cp_G x E nL cells slots cnt sh (cp_row J a (upd g 0 v)) R (pc + 3) L st) : cp_G x E nL cells slots cnt sh (cp_row J a g) R pc L (.int v :: .ref a :: st) := by
  refine fp_X1_174 O hs hd ?_
  rw [cp_row_wi]
  exact k
theorem rg_X5_13 (O : cp_Ok x E RX5 bc nL d mc ms) {a : Nat} {g : Nat → Int32} (hs : sh a = (6, 0)) (hd : decode bc pc = .ok (.getfield 13, 3)) (k : cp_G x E nL cells slots cnt sh (cp_row J a g) R (pc + 3) L (.int (g 1) :: st)) : cp_G x E nL cells slots cnt sh (cp_row J a g) R pc L (.ref a :: st) := by
  refine fg_X5_13 O hs hd ?_
  rw [cp_row_s]
  exact k
theorem rp_X5_13 (O : cp_Ok x E RX5 bc nL d mc ms) {v : Int32} {a : Nat} {g : Nat → Int32} (hs : sh a = (6, 0)) (hv : v = 0 ∨ v = 1) (hd : decode bc pc = .ok (.putfield 13, 3)) (k : cp_G x E nL cells slots cnt sh (cp_row J a (upd g 1 v)) R (pc + 3) L st) : cp_G x E nL cells slots cnt sh (cp_row J a g) R pc L (.int v :: .ref a :: st) := by
  refine fp_X5_13 O hs hv hd ?_
  rw [cp_row_wi]
  exact k
theorem qg_X1_203 (O : cp_Ok x E RX1 bc nL d mc ms) (N : cp_NL sh R b) {i : Nat} (hi : i < 8) (hd : decode bc pc = .ok (.getfield 203, 3)) (k : cp_G x E nL cells slots cnt sh (cp_nn J b o S P Q) R (pc + 3) L (.int (Q i 1) :: st)) : cp_G x E nL cells slots cnt sh (cp_nn J b o S P Q) R pc L (.ref (b + 28 + i) :: st) := by
  refine fg_X1_203 O (N.spl hi) hd ?_
  rw [cp_nn_Q _ _ _ _ _ _ hi]
  exact k
theorem qp_X1_203 (O : cp_Ok x E RX1 bc nL d mc ms) {v : Int32} (N : cp_NL sh R b) {i : Nat} (hi : i < 8) (hv : v = 0 ∨ v = 1) (hd : decode bc pc = .ok (.putfield 203, 3)) (k : cp_G x E nL cells slots cnt sh (cp_nn J b o S P (cp_wi Q i 1 v)) R (pc + 3) L st) : cp_G x E nL cells slots cnt sh (cp_nn J b o S P Q) R pc L (.int v :: .ref (b + 28 + i) :: st) := by
  refine fp_X1_203 O (N.spl hi) hv hd ?_
  rw [cp_wi_row, cp_nn_Q _ _ _ _ _ _ hi, cp_nn_rQ _ _ _ _ _ _ hi, ← cp_wi_row]
  exact k
theorem rg_X1_203 (O : cp_Ok x E RX1 bc nL d mc ms) {a : Nat} {g : Nat → Int32} (hs : sh a = (6, 0)) (hd : decode bc pc = .ok (.getfield 203, 3)) (k : cp_G x E nL cells slots cnt sh (cp_row J a g) R (pc + 3) L (.int (g 1) :: st)) : cp_G x E nL cells slots cnt sh (cp_row J a g) R pc L (.ref a :: st) := by
  refine fg_X1_203 O hs hd ?_
  rw [cp_row_s]
  exact k
theorem rp_X1_203 (O : cp_Ok x E RX1 bc nL d mc ms) {v : Int32} {a : Nat} {g : Nat → Int32} (hs : sh a = (6, 0)) (hv : v = 0 ∨ v = 1) (hd : decode bc pc = .ok (.putfield 203, 3)) (k : cp_G x E nL cells slots cnt sh (cp_row J a (upd g 1 v)) R (pc + 3) L st) : cp_G x E nL cells slots cnt sh (cp_row J a g) R pc L (.int v :: .ref a :: st) := by
  refine fp_X1_203 O hs hv hd ?_
  rw [cp_row_wi]
  exact k
theorem rg_X5_17 (O : cp_Ok x E RX5 bc nL d mc ms) {a : Nat} {g : Nat → Int32} (hs : sh a = (6, 0)) (hd : decode bc pc = .ok (.getfield 17, 3)) (k : cp_G x E nL cells slots cnt sh (cp_row J a g) R (pc + 3) L (.int (g 2) :: st)) : cp_G x E nL cells slots cnt sh (cp_row J a g) R pc L (.ref a :: st) := by
  refine fg_X5_17 O hs hd ?_
  rw [cp_row_s]
  exact k
theorem rp_X5_17 (O : cp_Ok x E RX5 bc nL d mc ms) {v : Int32} {a : Nat} {g : Nat → Int32} (hs : sh a = (6, 0)) (hd : decode bc pc = .ok (.putfield 17, 3)) (k : cp_G x E nL cells slots cnt sh (cp_row J a (upd g 2 v)) R (pc + 3) L st) : cp_G x E nL cells slots cnt sh (cp_row J a g) R pc L (.int v :: .ref a :: st) := by
  refine fp_X5_17 O hs hd ?_
  rw [cp_row_wi]
  exact k
theorem qg_X1_113 (O : cp_Ok x E RX1 bc nL d mc ms) (N : cp_NL sh R b) {i : Nat} (hi : i < 8) (hd : decode bc pc = .ok (.getfield 113, 3)) (k : cp_G x E nL cells slots cnt sh (cp_nn J b o S P Q) R (pc + 3) L (.int (Q i 2) :: st)) : cp_G x E nL cells slots cnt sh (cp_nn J b o S P Q) R pc L (.ref (b + 28 + i) :: st) := by
  refine fg_X1_113 O (N.spl hi) hd ?_
  rw [cp_nn_Q _ _ _ _ _ _ hi]
  exact k
theorem qp_X1_113 (O : cp_Ok x E RX1 bc nL d mc ms) {v : Int32} (N : cp_NL sh R b) {i : Nat} (hi : i < 8) (hd : decode bc pc = .ok (.putfield 113, 3)) (k : cp_G x E nL cells slots cnt sh (cp_nn J b o S P (cp_wi Q i 2 v)) R (pc + 3) L st) : cp_G x E nL cells slots cnt sh (cp_nn J b o S P Q) R pc L (.int v :: .ref (b + 28 + i) :: st) := by
  refine fp_X1_113 O (N.spl hi) hd ?_
  rw [cp_wi_row, cp_nn_Q _ _ _ _ _ _ hi, cp_nn_rQ _ _ _ _ _ _ hi, ← cp_wi_row]
  exact k
theorem rg_X1_113 (O : cp_Ok x E RX1 bc nL d mc ms) {a : Nat} {g : Nat → Int32} (hs : sh a = (6, 0)) (hd : decode bc pc = .ok (.getfield 113, 3)) (k : cp_G x E nL cells slots cnt sh (cp_row J a g) R (pc + 3) L (.int (g 2) :: st)) : cp_G x E nL cells slots cnt sh (cp_row J a g) R pc L (.ref a :: st) := by
  refine fg_X1_113 O hs hd ?_
  rw [cp_row_s]
  exact k
theorem rp_X1_113 (O : cp_Ok x E RX1 bc nL d mc ms) {v : Int32} {a : Nat} {g : Nat → Int32} (hs : sh a = (6, 0)) (hd : decode bc pc = .ok (.putfield 113, 3)) (k : cp_G x E nL cells slots cnt sh (cp_row J a (upd g 2 v)) R (pc + 3) L st) : cp_G x E nL cells slots cnt sh (cp_row J a g) R pc L (.int v :: .ref a :: st) := by
  refine fp_X1_113 O hs hd ?_
  rw [cp_row_wi]
  exact k
theorem ng_X1_23 (O : cp_Ok x E RX1 bc nL d mc ms) (N : cp_NL sh R b) (hd : decode bc pc = .ok (.getfield 23, 3)) (k : cp_G x E nL cells slots cnt sh (cp_nn J b o S P Q) R (pc + 3) L (.int (o 1) :: st)) : cp_G x E nL cells slots cnt sh (cp_nn J b o S P Q) R pc L (.ref b :: st) := by
  refine fg_X1_23 O N.s hd ?_
  rw [cp_nn_o]
  exact k
theorem np_X1_23 (O : cp_Ok x E RX1 bc nL d mc ms) {v : Int32} (N : cp_NL sh R b) (hd : decode bc pc = .ok (.putfield 23, 3)) (k : cp_G x E nL cells slots cnt sh (cp_nn J b (upd o 1 v) S P Q) R (pc + 3) L st) : cp_G x E nL cells slots cnt sh (cp_nn J b o S P Q) R pc L (.int v :: .ref b :: st) := by
  refine fp_X1_23 O N.s hd ?_
  rw [cp_wi_row, cp_nn_o, cp_nn_ro]
  exact k
theorem ng_X1_34 (O : cp_Ok x E RX1 bc nL d mc ms) (N : cp_NL sh R b) (hd : decode bc pc = .ok (.getfield 34, 3)) (k : cp_G x E nL cells slots cnt sh (cp_nn J b o S P Q) R (pc + 3) L (.int (o 3) :: st)) : cp_G x E nL cells slots cnt sh (cp_nn J b o S P Q) R pc L (.ref b :: st) := by
  refine fg_X1_34 O N.s hd ?_
  rw [cp_nn_o]
  exact k
theorem np_X1_34 (O : cp_Ok x E RX1 bc nL d mc ms) {v : Int32} (N : cp_NL sh R b) (hd : decode bc pc = .ok (.putfield 34, 3)) (k : cp_G x E nL cells slots cnt sh (cp_nn J b (upd o 3 v) S P Q) R (pc + 3) L st) : cp_G x E nL cells slots cnt sh (cp_nn J b o S P Q) R pc L (.int v :: .ref b :: st) := by
  refine fp_X1_34 O N.s hd ?_
  rw [cp_wi_row, cp_nn_o, cp_nn_ro]
  exact k
theorem ng_X6_182 (O : cp_Ok x E RX6 bc nL d mc ms) (N : cp_NL sh R b) (hd : decode bc pc = .ok (.getfield 182, 3)) (k : cp_G x E nL cells slots cnt sh (cp_nn J b o S P Q) R (pc + 3) L (.int (o 3) :: st)) : cp_G x E nL cells slots cnt sh (cp_nn J b o S P Q) R pc L (.ref b :: st) := by
  refine fg_X6_182 O N.s hd ?_
  rw [cp_nn_o]
  exact k
theorem np_X6_182 (O : cp_Ok x E RX6 bc nL d mc ms) {v : Int32} (N : cp_NL sh R b) (hd : decode bc pc = .ok (.putfield 182, 3)) (k : cp_G x E nL cells slots cnt sh (cp_nn J b (upd o 3 v) S P Q) R (pc + 3) L st) : cp_G x E nL cells slots cnt sh (cp_nn J b o S P Q) R pc L (.int v :: .ref b :: st) := by
  refine fp_X6_182 O N.s hd ?_
  rw [cp_wi_row, cp_nn_o, cp_nn_ro]
  exact k
theorem ng_X1_44 (O : cp_Ok x E RX1 bc nL d mc ms) (N : cp_NL sh R b) (hd : decode bc pc = .ok (.getfield 44, 3)) (k : cp_G x E nL cells slots cnt sh (cp_nn J b o S P Q) R (pc + 3) L (.int (o 5) :: st)) : cp_G x E nL cells slots cnt sh (cp_nn J b o S P Q) R pc L (.ref b :: st) := by
  refine fg_X1_44 O N.s hd ?_
  rw [cp_nn_o]
  exact k
theorem np_X1_44 (O : cp_Ok x E RX1 bc nL d mc ms) {v : Int32} (N : cp_NL sh R b) (hd : decode bc pc = .ok (.putfield 44, 3)) (k : cp_G x E nL cells slots cnt sh (cp_nn J b (upd o 5 v) S P Q) R (pc + 3) L st) : cp_G x E nL cells slots cnt sh (cp_nn J b o S P Q) R pc L (.int v :: .ref b :: st) := by
  refine fp_X1_44 O N.s hd ?_
  rw [cp_wi_row, cp_nn_o, cp_nn_ro]
  exact k
theorem mg_X7_31 (O : cp_Ok x E RX7 bc nL d mc ms) (M : cp_ML sh R m) (hd : decode bc pc = .ok (.getfield 31, 3)) (k : cp_G x E nL cells slots cnt sh (cp_mm J m f r) R (pc + 3) L (.int (f 4) :: st)) : cp_G x E nL cells slots cnt sh (cp_mm J m f r) R pc L (.ref m :: st) := by
  refine fg_X7_31 O M.s hd ?_
  rw [cp_mm_f]
  exact k
theorem mp_X7_31 (O : cp_Ok x E RX7 bc nL d mc ms) {v : Int32} (M : cp_ML sh R m) (hd : decode bc pc = .ok (.putfield 31, 3)) (k : cp_G x E nL cells slots cnt sh (cp_mm J m (upd f 4 v) r) R (pc + 3) L st) : cp_G x E nL cells slots cnt sh (cp_mm J m f r) R pc L (.int v :: .ref m :: st) := by
  refine fp_X7_31 O M.s hd ?_
  rw [cp_mm_wf]
  exact k
theorem mg_X7_76 (O : cp_Ok x E RX7 bc nL d mc ms) (M : cp_ML sh R m) (hd : decode bc pc = .ok (.getfield 76, 3)) (k : cp_G x E nL cells slots cnt sh (cp_mm J m f r) R (pc + 3) L (.int (f 7) :: st)) : cp_G x E nL cells slots cnt sh (cp_mm J m f r) R pc L (.ref m :: st) := by
  refine fg_X7_76 O M.s hd ?_
  rw [cp_mm_f]
  exact k
theorem mp_X7_76 (O : cp_Ok x E RX7 bc nL d mc ms) {v : Int32} (M : cp_ML sh R m) (hd : decode bc pc = .ok (.putfield 76, 3)) (k : cp_G x E nL cells slots cnt sh (cp_mm J m (upd f 7 v) r) R (pc + 3) L st) : cp_G x E nL cells slots cnt sh (cp_mm J m f r) R pc L (.int v :: .ref m :: st) := by
  refine fp_X7_76 O M.s hd ?_
  rw [cp_mm_wf]
  exact k
theorem mg_X7_79 (O : cp_Ok x E RX7 bc nL d mc ms) (M : cp_ML sh R m) (hd : decode bc pc = .ok (.getfield 79, 3)) (k : cp_G x E nL cells slots cnt sh (cp_mm J m f r) R (pc + 3) L (.int (f 8) :: st)) : cp_G x E nL cells slots cnt sh (cp_mm J m f r) R pc L (.ref m :: st) := by
  refine fg_X7_79 O M.s hd ?_
  rw [cp_mm_f]
  exact k
theorem mp_X7_79 (O : cp_Ok x E RX7 bc nL d mc ms) {v : Int32} (M : cp_ML sh R m) (hd : decode bc pc = .ok (.putfield 79, 3)) (k : cp_G x E nL cells slots cnt sh (cp_mm J m (upd f 8 v) r) R (pc + 3) L st) : cp_G x E nL cells slots cnt sh (cp_mm J m f r) R pc L (.int v :: .ref m :: st) := by
  refine fp_X7_79 O M.s hd ?_
  rw [cp_mm_wf]
  exact k
theorem mg_X7_183 (O : cp_Ok x E RX7 bc nL d mc ms) (M : cp_ML sh R m) (hd : decode bc pc = .ok (.getfield 183, 3)) (k : cp_G x E nL cells slots cnt sh (cp_mm J m f r) R (pc + 3) L (.int (f 10) :: st)) : cp_G x E nL cells slots cnt sh (cp_mm J m f r) R pc L (.ref m :: st) := by
  refine fg_X7_183 O M.s hd ?_
  rw [cp_mm_f]
  exact k
theorem mp_X7_183 (O : cp_Ok x E RX7 bc nL d mc ms) {v : Int32} (M : cp_ML sh R m) (hd : decode bc pc = .ok (.putfield 183, 3)) (k : cp_G x E nL cells slots cnt sh (cp_mm J m (upd f 10 v) r) R (pc + 3) L st) : cp_G x E nL cells slots cnt sh (cp_mm J m f r) R pc L (.int v :: .ref m :: st) := by
  refine fp_X7_183 O M.s hd ?_
  rw [cp_mm_wf]
  exact k
theorem mg_X7_201 (O : cp_Ok x E RX7 bc nL d mc ms) (M : cp_ML sh R m) (hd : decode bc pc = .ok (.getfield 201, 3)) (k : cp_G x E nL cells slots cnt sh (cp_mm J m f r) R (pc + 3) L (.int (f 11) :: st)) : cp_G x E nL cells slots cnt sh (cp_mm J m f r) R pc L (.ref m :: st) := by
  refine fg_X7_201 O M.s hd ?_
  rw [cp_mm_f]
  exact k
theorem mp_X7_201 (O : cp_Ok x E RX7 bc nL d mc ms) {v : Int32} (M : cp_ML sh R m) (hd : decode bc pc = .ok (.putfield 201, 3)) (k : cp_G x E nL cells slots cnt sh (cp_mm J m (upd f 11 v) r) R (pc + 3) L st) : cp_G x E nL cells slots cnt sh (cp_mm J m f r) R pc L (.int v :: .ref m :: st) := by
  refine fp_X7_201 O M.s hd ?_
  rw [cp_mm_wf]
  exact k
theorem mg_X7_219 (O : cp_Ok x E RX7 bc nL d mc ms) (M : cp_ML sh R m) (hd : decode bc pc = .ok (.getfield 219, 3)) (k : cp_G x E nL cells slots cnt sh (cp_mm J m f r) R (pc + 3) L (.int (f 12) :: st)) : cp_G x E nL cells slots cnt sh (cp_mm J m f r) R pc L (.ref m :: st) := by
  refine fg_X7_219 O M.s hd ?_
  rw [cp_mm_f]
  exact k
theorem mp_X7_219 (O : cp_Ok x E RX7 bc nL d mc ms) {v : Int32} (M : cp_ML sh R m) (hv : v = 0 ∨ v = 1) (hd : decode bc pc = .ok (.putfield 219, 3)) (k : cp_G x E nL cells slots cnt sh (cp_mm J m (upd f 12 v) r) R (pc + 3) L st) : cp_G x E nL cells slots cnt sh (cp_mm J m f r) R pc L (.int v :: .ref m :: st) := by
  refine fp_X7_219 O M.s hv hd ?_
  rw [cp_mm_wf]
  exact k
theorem mg_X7_223 (O : cp_Ok x E RX7 bc nL d mc ms) (M : cp_ML sh R m) (hd : decode bc pc = .ok (.getfield 223, 3)) (k : cp_G x E nL cells slots cnt sh (cp_mm J m f r) R (pc + 3) L (.int (f 13) :: st)) : cp_G x E nL cells slots cnt sh (cp_mm J m f r) R pc L (.ref m :: st) := by
  refine fg_X7_223 O M.s hd ?_
  rw [cp_mm_f]
  exact k
theorem mp_X7_223 (O : cp_Ok x E RX7 bc nL d mc ms) {v : Int32} (M : cp_ML sh R m) (hd : decode bc pc = .ok (.putfield 223, 3)) (k : cp_G x E nL cells slots cnt sh (cp_mm J m (upd f 13 v) r) R (pc + 3) L st) : cp_G x E nL cells slots cnt sh (cp_mm J m f r) R pc L (.int v :: .ref m :: st) := by
  refine fp_X7_223 O M.s hd ?_
  rw [cp_mm_wf]
  exact k
theorem mg_X7_207 (O : cp_Ok x E RX7 bc nL d mc ms) (M : cp_ML sh R m) (hd : decode bc pc = .ok (.getfield 207, 3)) (k : cp_G x E nL cells slots cnt sh (cp_mm J m f r) R (pc + 3) L (.int (f 14) :: st)) : cp_G x E nL cells slots cnt sh (cp_mm J m f r) R pc L (.ref m :: st) := by
  refine fg_X7_207 O M.s hd ?_
  rw [cp_mm_f]
  exact k
theorem mp_X7_207 (O : cp_Ok x E RX7 bc nL d mc ms) {v : Int32} (M : cp_ML sh R m) (hd : decode bc pc = .ok (.putfield 207, 3)) (k : cp_G x E nL cells slots cnt sh (cp_mm J m (upd f 14 v) r) R (pc + 3) L st) : cp_G x E nL cells slots cnt sh (cp_mm J m f r) R pc L (.int v :: .ref m :: st) := by
  refine fp_X7_207 O M.s hd ?_
  rw [cp_mm_wf]
  exact k
end CPV
