def bt (x : Int32) (i : Nat) : Bool := x.toBitVec.getLsbD i
theorem b_ext {x y : Int32} (h : ∀ i, i < 32 → bt x i = bt y i) : x = y := Int32.toBitVec_inj.mp (BitVec.eq_of_getLsbD_eq (fun i hi => h i hi))
theorem b_or (x y : Int32) (i : Nat) : bt (x ||| y) i = (bt x i || bt y i) := by unfold bt; rw [Int32.toBitVec_or, BitVec.getLsbD_or]
theorem b_and (x y : Int32) (i : Nat) : bt (x &&& y) i = (bt x i && bt y i) := by unfold bt; rw [Int32.toBitVec_and, BitVec.getLsbD_and]
theorem b_xor (x y : Int32) (i : Nat) : bt (x ^^^ y) i = (bt x i ^^ bt y i) := by unfold bt; rw [Int32.toBitVec_xor, BitVec.getLsbD_xor]
theorem b_big {x : Int32} {i : Nat} (h : 32 ≤ i) : bt x i = false := BitVec.getLsbD_of_ge _ _ h
theorem b_255 (i : Nat) : bt 255 i = decide (i < 8) := by
  rcases Nat.lt_or_ge i 32 with h | h
  · exact (by decide +kernel : ∀ i, i < 32 → bt 255 i = decide (i < 8)) i h
  · rw [b_big h, decide_eq_false (by omega)]
theorem b_65535 (i : Nat) : bt 65535 i = decide (i < 16) := by
  rcases Nat.lt_or_ge i 32 with h | h
  · exact (by decide +kernel : ∀ i, i < 32 → bt 65535 i = decide (i < 16)) i h
  · rw [b_big h, decide_eq_false (by omega)]
theorem b_m1 : ∀ i, i < 32 → bt (-1) i = true := by decide +kernel
theorem b_0 (i : Nat) : bt 0 i = false := BitVec.getLsbD_zero
theorem s_l : ∀ n, n < 32 → ((nI n &&& 31).toBitVec.smod 32).toNat = n := by decide +kernel
theorem s_u : ∀ n, n < 32 → (((nI n).toUInt32 &&& Int32.toUInt32 31).toBitVec % 32).toNat = n := by decide +kernel
theorem b_shl (n : Nat) (hn : n < 32) (x : Int32) {i : Nat} (hi : i < 32) : bt (x <<< (nI n &&& 31)) i = (decide (n ≤ i) && bt x (i - n)) := by
  unfold bt
  rw [Int32.toBitVec_shiftLeft]
  show (x.toBitVec <<< ((nI n &&& 31).toBitVec.smod 32).toNat).getLsbD i = _
  rw [s_l n hn, BitVec.getLsbD_shiftLeft]
  rcases Nat.lt_or_ge i n with h | h
  · simp [h, Nat.not_le.mpr h]
  · simp [hi, h, Nat.not_lt.mpr h]
theorem b_ushr (n : Nat) (hn : n < 32) (x : Int32) (i : Nat) : bt ((x.toUInt32 >>> ((nI n).toUInt32 &&& Int32.toUInt32 31)).toInt32) i = bt x (n + i) := by
  show (x.toUInt32 >>> ((nI n).toUInt32 &&& Int32.toUInt32 31)).toBitVec.getLsbD i = x.toUInt32.toBitVec.getLsbD (n + i)
  rw [UInt32.toBitVec_shiftRight]
  show (x.toUInt32.toBitVec >>> (((nI n).toUInt32 &&& Int32.toUInt32 31).toBitVec % 32).toNat).getLsbD i = _
  rw [s_u n hn, BitVec.getLsbD_ushiftRight]
theorem b_sshr (n : Nat) (hn : n < 32) (x : Int32) {i : Nat} (hi : i < 32) : bt (x >>> (nI n &&& 31)) i = if n + i < 32 then bt x (n + i) else bt x 31 := by
  unfold bt
  rw [Int32.toBitVec_shiftRight]
  show (x.toBitVec.sshiftRight ((nI n &&& 31).toBitVec.smod 32).toNat).getLsbD i = _
  rw [s_l n hn, BitVec.getLsbD_sshiftRight, BitVec.msb_eq_getLsbD_last]
  simp [hi]
theorem cp_b1 : ∀ i, i < 32 → bt 1 i = decide (i = 0) := by decide +kernel
theorem cp_bbi (b : Bool) {i : Nat} (hi : i < 32) : bt (cp_bi b) i = (b && decide (i = 0)) := by
  cases b with
  | true => rw [show cp_bi true = 1 from rfl, cp_b1 i hi, Bool.true_and]
  | false => rw [show cp_bi false = 0 from rfl, b_0, Bool.false_and]
theorem cp_bit_bt {s : Int32} {p : Nat} (hp : p < 32) : cp_bit s p = cp_bi (bt s p) := by
  refine b_ext fun i hi => ?_
  unfold cp_bit
  rw [b_and, cp_b1 i hi, cp_bbi _ hi, b_sshr p hp s hi]
  by_cases h : i = 0
  · subst h; rw [if_pos (by omega), Nat.add_zero]
  · rw [decide_eq_false h, Bool.and_false, Bool.and_false]
theorem cp_bit_1 {s : Int32} {p : Nat} (hp : p < 32) : decide (cp_bit s p = 1) = bt s p := by
  rw [cp_bit_bt hp]
  cases bt s p <;> rfl
/-- the set of those of the first c that are q -/
def cp_st (q : Nat → Bool) : Nat → Int32
  | 0 => 0
  | c + 1 => cp_st q c ||| (cp_bi (q c) <<< (nI c &&& 31))
theorem cp_st_bt (q : Nat → Bool) : ∀ c, c ≤ 32 → ∀ i, i < 32 → bt (cp_st q c) i = (decide (i < c) && q i)
  | 0, _, i, hi => by rw [show cp_st q 0 = 0 from rfl, b_0, decide_eq_false (Nat.not_lt_zero i), Bool.false_and]
  | c + 1, hc, i, hi => by
    show bt (cp_st q c ||| (cp_bi (q c) <<< (nI c &&& 31))) i = _
    rw [b_or, cp_st_bt q c (by omega) i hi, b_shl c (by omega) _ hi, cp_bbi _ (by omega)]
    rcases Nat.lt_trichotomy i c with h | h | h
    · rw [decide_eq_true h, decide_eq_true (show i < c + 1 by omega), decide_eq_false (show ¬ c ≤ i by omega), Bool.false_and, Bool.or_false]
    · subst h
      rw [decide_eq_false (show ¬ i < i by omega), decide_eq_true (show i < i + 1 by omega), decide_eq_true (Nat.le_refl i), Nat.sub_self, decide_eq_true (rfl : 0 = 0), Bool.false_and, Bool.false_or, Bool.true_and, Bool.true_and, Bool.and_true]
    · rw [decide_eq_false (show ¬ i < c by omega), decide_eq_false (show ¬ i < c + 1 by omega), decide_eq_false (show ¬ i - c = 0 by omega)]
      simp
theorem cp_pw_st (Q : cp_PP) (p : Nat) : ∀ n, cp_pw Q p n = cp_st (fun j => decide (cp_bit (Q j 2) p = 1)) n
  | 0 => rfl
  | n + 1 => by
    show cp_pw Q p n ||| (cp_bit (Q n 2) p <<< (nI n &&& 31)) = cp_st _ n ||| (cp_bi (decide (cp_bit (Q n 2) p = 1)) <<< (nI n &&& 31))
    rw [cp_pw_st Q p n, cp_bit_bi]
theorem cp_lin_t {P : cp_PP} {s : Int32} {c : Nat} (h : decide (cp_bit s c = 1) = true) : cp_lin P s c + P c 1 = cp_lin P s (c + 1) := by
  show _ = cp_lin P s c + cp_bit s c * P c 1
  rw [of_decide_eq_true h, Int32.one_mul]
theorem cp_lin_f {P : cp_PP} {s : Int32} {c : Nat} (h : decide (cp_bit s c = 1) = false) : cp_lin P s c = cp_lin P s (c + 1) := by
  show _ = cp_lin P s c + cp_bit s c * P c 1
  rcases cp_and1 (s >>> (nI c &&& 31)) with e | e
  · have e2 : cp_bit s c = 0 := e
    rw [e2, Int32.zero_mul, Int32.add_zero]
  · exact absurd (show cp_bit s c = 1 from e) (of_decide_eq_false h)
/-- the first by rank of those of the first c that are q -/
def cp_fbk (P : cp_PP) (q : Nat → Bool) : Nat → Option Nat
  | 0 => none
  | c + 1 => if q c = true then (match cp_fbk P q c with
    | none => some c
    | some f => if cp_ah P c f = true then some c else some f) else cp_fbk P q c
theorem cp_fbk_lt {P : cp_PP} {q : Nat → Bool} : ∀ {c f : Nat}, cp_fbk P q c = some f → f < c ∧ q f = true
  | 0, f, h => by exact absurd h (by simp [cp_fbk])
  | c + 1, f, h => by
    by_cases hq : q c = true
    · have h : (if q c = true then (match cp_fbk P q c with
        | none => some c
        | some f => if cp_ah P c f = true then some c else some f) else cp_fbk P q c) = some f := h
      rw [if_pos hq] at h
      cases hg : cp_fbk P q c with
      | none => rw [hg] at h; obtain rfl := Option.some.inj h; exact ⟨by omega, hq⟩
      | some g =>
        rw [hg] at h
        have h : (if cp_ah P c g = true then some c else some g) = some f := h
        split at h
        · obtain rfl := Option.some.inj h; exact ⟨by omega, hq⟩
        · obtain rfl := Option.some.inj h
          have := cp_fbk_lt hg
          exact ⟨by omega, this.2⟩
    · have h : (if q c = true then (match cp_fbk P q c with
        | none => some c
        | some f => if cp_ah P c f = true then some c else some f) else cp_fbk P q c) = some f := h
      rw [if_neg hq] at h
      have := cp_fbk_lt h
      exact ⟨by omega, this.2⟩
theorem cp_fbk_1 {P : cp_PP} {q : Nat → Bool} {c : Nat} (hq : q c = false) : cp_fbk P q (c + 1) = cp_fbk P q c := by
  show (if q c = true then _ else _) = _
  rw [if_neg (cp_bF hq)]
theorem cp_fbk_2 {P : cp_PP} {q : Nat → Bool} {c : Nat} (hq : q c = true) (h : cp_fbk P q c = none) : cp_fbk P q (c + 1) = some c := by
  show (if q c = true then (match cp_fbk P q c with
    | none => some c
    | some f => if cp_ah P c f = true then some c else some f) else cp_fbk P q c) = _
  rw [if_pos hq, h]
theorem cp_fbk_3 {P : cp_PP} {q : Nat → Bool} {c f : Nat} (hq : q c = true) (h : cp_fbk P q c = some f) (ha : cp_ah P c f = true) : cp_fbk P q (c + 1) = some c := by
  show (if q c = true then (match cp_fbk P q c with
    | none => some c
    | some f => if cp_ah P c f = true then some c else some f) else cp_fbk P q c) = _
  rw [if_pos hq, h]
  exact if_pos ha
theorem cp_fbk_4 {P : cp_PP} {q : Nat → Bool} {c f : Nat} (h : cp_fbk P q c = some f) (ha : cp_ah P c f = false) : cp_fbk P q (c + 1) = some f := by
  by_cases hq : q c = true
  · show (if q c = true then (match cp_fbk P q c with
      | none => some c
      | some f => if cp_ah P c f = true then some c else some f) else cp_fbk P q c) = _
    rw [if_pos hq, h]
    exact if_neg (cp_bF ha)
  · rw [cp_fbk_1 (Bool.eq_false_iff.mpr hq), h]
theorem cp_fbk_n {P : cp_PP} {q : Nat → Bool} : ∀ {c : Nat}, (∀ j, j < c → q j = false) → cp_fbk P q c = none
  | 0, _ => rfl
  | c + 1, h => by rw [cp_fbk_1 (h c (by omega))]; exact cp_fbk_n fun j hj => h j (by omega)
theorem cp_fbk_s {P : cp_PP} {q : Nat → Bool} {p n : Nat} (hp : q p = true) (h : ∀ j, j < n → q j = true → j ≠ p → cp_ah P p j = true) : ∀ {c : Nat}, c ≤ n → p < c → cp_fbk P q c = some p
  | 0, _, hc => absurd hc (Nat.not_lt_zero _)
  | c + 1, hn, hc => by
    by_cases e : p = c
    · subst e
      cases hg : cp_fbk P q p with
      | none => exact cp_fbk_2 hp hg
      | some g =>
        have h2 := cp_fbk_lt hg
        exact cp_fbk_3 hp hg (h g (by omega) h2.2 (by omega))
    · have ih := cp_fbk_s hp h (c := c) (by omega) (by omega)
      by_cases hq : q c = true
      · exact cp_fbk_4 ih (cp_ah_as (h c (by omega) hq (fun z => e z.symm)))
      · rw [cp_fbk_1 (Bool.eq_false_iff.mpr hq), ih]
theorem cp_o2i_neg {o : Option Nat} {n : Nat} (ho : ∀ f, o = some f → f < n) (hn : n ≤ 2 ^ 31) : (cp_o2i o < 0 → o = none) ∧ (¬ cp_o2i o < 0 → ∃ f, o = some f) := by
  cases o with
  | none => exact ⟨fun _ => rfl, fun z => absurd (show (-6 : Int32) < 0 by decide) z⟩
  | some f =>
    have := ho f rfl
    exact ⟨fun z => absurd z (cp_nn0 (by omega)), fun _ => ⟨f, rfl⟩⟩
theorem cp_nn_pc {lc : Launch} {E : cp_En} {cnt : Nat} {sh : cp_Shp} {R : cp_Rem} {J : cp_Mem} {b : Nat} {o S : Nat → Int32} {P Q : cp_PP} (N : cp_NL sh R b) {i : Nat} (hi : i < 24) : cp_Fn lc E yX4_isForPlate cX4_isForPlate 1 (some .boolean) 0 [.ref (b + 3 + i)] cnt sh (cp_nn J b o S P Q) R (some (.int (cp_bi (cp_fr P i)))) (cp_nn J b o S P Q) := by
  have g := c_X4_isForPlate (lc := lc) (E := E) (cnt := cnt) (R := R) (I := cp_nn J b o S P Q) (g := P i) (N.spc hi)
  rw [cp_nn_rP _ _ _ _ _ _ hi, cp_row_self] at g
  exact g
set_option maxHeartbeats 4000000 in
set_option maxRecDepth 100000 in
theorem c_X1_piecesForPlate {lc : Launch} {E : cp_En} {cnt : Nat} {sh : cp_Shp} {R : cp_Rem} {J : cp_Mem} {b : Nat} {o S : Nat → Int32} {P Q : cp_PP} (N : cp_NL sh R b) {n : Nat} (h3 : o 3 = nI n) (hn : n ≤ 24) : cp_Fn lc E yX1_piecesForPlate cX1_piecesForPlate 3 (some .int) 1 [.ref b] cnt sh (cp_nn J b o S P Q) R (some (.int (cp_st (cp_fr P) n))) (cp_nn J b o S P Q) := by
  refine cp_Fn_i [some (.ref b), none, none] (by decide +kernel) (Nat.le_of_ble_eq_true rfl) rfl rfl (fun x hxl O hr => ?_)
  subst hxl
  refine cp_iconst O dX1_piecesForPlate_0 (v := 0) rfl ?_
  refine cp_istore_n O dX1_piecesForPlate_1 (by decide) (cp_ls1 rfl) ?_
  refine cp_iconst O dX1_piecesForPlate_2 (v := 0) rfl ?_
  refine cp_istore_n O dX1_piecesForPlate_3 (by decide) (cp_ls2 rfl) ?_
  have loop4 : ∀ c, c ≤ n → cp_G x E 3 0 0 cnt sh (cp_nn J b o S P Q) R 4 [some (.ref b), some (.int (cp_st (cp_fr P) c)), some (.int (nI c))] [] := by
    refine cp_up (fun c hc ih => ?_)
    refine cp_iload_n O dX1_piecesForPlate_4 cp_lg2 ?_
    refine cp_aload_n O dX1_piecesForPlate_5 cp_lg0 ?_
    refine ng_X1_34 O N dX1_piecesForPlate_6 ?_
    refine cp_icmp_geN (tgt := 35) O dX1_piecesForPlate_9 (by decide) (a := c) (b := n) rfl h3 (by omega) (by omega) (fun c_9 => ?_) (fun c_9 => ?_)
    · refine cp_iload_n O dX1_piecesForPlate_35 cp_lg1 ?_
      exact hr _ _ _ _ dX1_piecesForPlate_36 (by rw [show c = n by omega]) rfl
    · refine cp_iload_n O dX1_piecesForPlate_12 cp_lg1 ?_
      refine cp_aload_n O dX1_piecesForPlate_13 cp_lg0 ?_
      refine fg_X1_29 O N.s N.pcs dX1_piecesForPlate_14 ?_
      refine cp_iload_n O dX1_piecesForPlate_17 cp_lg2 ?_
      refine cp_aaldr O (Or.inr (Or.inl ⟨rfl, rfl⟩)) N.spcs (j := c) rfl (by omega) (by decide) (N.pc (by omega)) dX1_piecesForPlate_18 ?_
      refine cp_cVi O me_X4_isForPlate mi_X4_isForPlate ml_X1_141 cp_cX4 (N.spc (by omega)) (cp_nn_pc N (by omega)) dX1_piecesForPlate_19 rfl rfl ⟨Nat.le_of_ble_eq_true rfl, Nat.le_of_ble_eq_true rfl⟩ ⟨Nat.le_refl _, Nat.le_refl _⟩ (Nat.le_of_ble_eq_true rfl) ?_
      refine cp_cSNi O me_X6_oneIf ms_X6_oneIf ml_X1_89 (c_X6_oneIf) dX1_piecesForPlate_22 rfl rfl ⟨Nat.le_of_ble_eq_true rfl, Nat.le_of_ble_eq_true rfl⟩ ⟨Nat.le_refl _, Nat.le_refl _⟩ (Nat.le_of_ble_eq_true rfl) ?_
      refine cp_iload_n O dX1_piecesForPlate_25 cp_lg2 ?_
      refine cp_ishl O dX1_piecesForPlate_26 ?_
      refine cp_ior O dX1_piecesForPlate_27 ?_
      refine cp_istore_n O dX1_piecesForPlate_28 (by decide) (cp_ls1 rfl) ?_
      refine cp_iinc O dX1_piecesForPlate_29 cp_lg2 (cp_inc rfl) (by decide) (cp_ls2 rfl) ?_
      refine cp_goto (tgt := 4) O dX1_piecesForPlate_32 (by decide) ?_
      exact ih (by omega)
  exact loop4 0 (Nat.zero_le _)
set_option maxHeartbeats 4000000 in
set_option maxRecDepth 100000 in
theorem c_X1_linesOf {lc : Launch} {E : cp_En} {cnt : Nat} {sh : cp_Shp} {R : cp_Rem} {J : cp_Mem} {b : Nat} {o S : Nat → Int32} {P Q : cp_PP} (N : cp_NL sh R b) {n : Nat} (h3 : o 3 = nI n) (hn : n ≤ 24) {v1 : Int32} : cp_Fn lc E yX1_linesOf cX1_linesOf 4 (some .int) 1 [.ref b, .int v1] cnt sh (cp_nn J b o S P Q) R (some (.int (cp_lin P v1 n))) (cp_nn J b o S P Q) := by
  refine cp_Fn_i [some (.ref b), some (.int v1), none, none] (by decide +kernel) (Nat.le_of_ble_eq_true rfl) rfl rfl (fun x hxl O hr => ?_)
  subst hxl
  refine cp_iconst O dX1_linesOf_0 (v := 0) rfl ?_
  refine cp_istore_n O dX1_linesOf_1 (by decide) (cp_ls2 rfl) ?_
  refine cp_iconst O dX1_linesOf_2 (v := 0) rfl ?_
  refine cp_istore_n O dX1_linesOf_3 (by decide) (cp_ls3 rfl) ?_
  have loop4 : ∀ c, c ≤ n → cp_G x E 4 0 0 cnt sh (cp_nn J b o S P Q) R 4 [some (.ref b), some (.int v1), some (.int (cp_lin P v1 c)), some (.int (nI c))] [] := by
    refine cp_up (fun c hc ih => ?_)
    refine cp_iload_n O dX1_linesOf_4 cp_lg3 ?_
    refine cp_aload_n O dX1_linesOf_5 cp_lg0 ?_
    refine ng_X1_34 O N dX1_linesOf_6 ?_
    refine cp_icmp_geN (tgt := 38) O dX1_linesOf_9 (by decide) (a := c) (b := n) rfl h3 (by omega) (by omega) (fun c_9 => ?_) (fun c_9 => ?_)
    · refine cp_iload_n O dX1_linesOf_38 cp_lg2 ?_
      exact hr _ _ _ _ dX1_linesOf_39 (by rw [show c = n by omega]) rfl
    · refine cp_iload_n O dX1_linesOf_12 cp_lg3 ?_
      refine cp_iload_n O dX1_linesOf_13 cp_lg1 ?_
      refine cp_cSNi O me_X6_isInSet ms_X6_isInSet ml_X1_118 (c_X6_isInSet) dX1_linesOf_14 rfl rfl ⟨Nat.le_of_ble_eq_true rfl, Nat.le_of_ble_eq_true rfl⟩ ⟨Nat.le_refl _, Nat.le_refl _⟩ (Nat.le_of_ble_eq_true rfl) ?_
      refine cp_if_eqB (tgt := 32) O dX1_linesOf_17 (by decide) (fun c_17 => ?_) (fun c_17 => ?_)
      · refine cp_iinc O dX1_linesOf_32 cp_lg3 (cp_inc rfl) (by decide) (cp_ls3 rfl) ?_
        refine cp_goto (tgt := 4) O dX1_linesOf_35 (by decide) ?_
        rw [cp_lin_f c_17]
        exact ih (by omega)
      · refine cp_iload_n O dX1_linesOf_20 cp_lg2 ?_
        refine cp_aload_n O dX1_linesOf_21 cp_lg0 ?_
        refine fg_X1_29 O N.s N.pcs dX1_linesOf_22 ?_
        refine cp_iload_n O dX1_linesOf_25 cp_lg3 ?_
        refine cp_aaldr O (Or.inr (Or.inl ⟨rfl, rfl⟩)) N.spcs (j := c) rfl (by omega) (by decide) (N.pc (by omega)) dX1_linesOf_26 ?_
        refine pg_X1_144 O N (by omega) dX1_linesOf_27 ?_
        refine cp_iadd O dX1_linesOf_30 ?_
        refine cp_istore_n O dX1_linesOf_31 (by decide) (cp_ls2 rfl) ?_
        refine cp_iinc O dX1_linesOf_32 cp_lg3 (cp_inc rfl) (by decide) (cp_ls3 rfl) ?_
        refine cp_goto (tgt := 4) O dX1_linesOf_35 (by decide) ?_
        rw [cp_lin_t c_17]
        exact ih (by omega)
  exact loop4 0 (Nat.zero_le _)
set_option maxHeartbeats 4000000 in
set_option maxRecDepth 100000 in
theorem c_X1_firstByRank {lc : Launch} {E : cp_En} {cnt : Nat} {sh : cp_Shp} {R : cp_Rem} {J : cp_Mem} {b : Nat} {o S : Nat → Int32} {P Q : cp_PP} (N : cp_NL sh R b) {n : Nat} (h3 : o 3 = nI n) (hn : n ≤ 24) {v1 : Int32} : cp_Fn lc E yX1_firstByRank cX1_firstByRank 4 (some .int) 1 [.ref b, .int v1] cnt sh (cp_nn J b o S P Q) R (some (.int (cp_o2i (cp_fbk P (fun i => decide (cp_bit v1 i = 1)) n)))) (cp_nn J b o S P Q) := by
  refine cp_Fn_i [some (.ref b), some (.int v1), none, none] (by decide +kernel) (Nat.le_of_ble_eq_true rfl) rfl rfl (fun x hxl O hr => ?_)
  subst hxl
  refine cp_bipush O dX1_firstByRank_0 (v := (-6)) rfl ?_
  refine cp_istore_n O dX1_firstByRank_2 (by decide) (cp_ls2 rfl) ?_
  refine cp_iconst O dX1_firstByRank_3 (v := 0) rfl ?_
  refine cp_istore_n O dX1_firstByRank_4 (by decide) (cp_ls3 rfl) ?_
  have loop5 : ∀ c, c ≤ n → cp_G x E 4 0 0 cnt sh (cp_nn J b o S P Q) R 5 [some (.ref b), some (.int v1), some (.int (cp_o2i (cp_fbk P (fun i => decide (cp_bit v1 i = 1)) c))), some (.int (nI c))] [] := by
    refine cp_up (fun c hc ih => ?_)
    have hol := cp_o2i_neg (o := cp_fbk P (fun i => decide (cp_bit v1 i = 1)) c) (n := c) (fun f hf => (cp_fbk_lt hf).1) (by omega)
    refine cp_iload_n O dX1_firstByRank_5 cp_lg3 ?_
    refine cp_aload_n O dX1_firstByRank_6 cp_lg0 ?_
    refine ng_X1_34 O N dX1_firstByRank_7 ?_
    refine cp_icmp_geN (tgt := 42) O dX1_firstByRank_10 (by decide) (a := c) (b := n) rfl h3 (by omega) (by omega) (fun c_10 => ?_) (fun c_10 => ?_)
    · refine cp_iload_n O dX1_firstByRank_42 cp_lg2 ?_
      exact hr _ _ _ _ dX1_firstByRank_43 (by rw [show c = n by omega]) rfl
    · refine cp_iload_n O dX1_firstByRank_13 cp_lg3 ?_
      refine cp_iload_n O dX1_firstByRank_14 cp_lg1 ?_
      refine cp_cSNi O me_X6_isInSet ms_X6_isInSet ml_X1_118 (c_X6_isInSet) dX1_firstByRank_15 rfl rfl ⟨Nat.le_of_ble_eq_true rfl, Nat.le_of_ble_eq_true rfl⟩ ⟨Nat.le_refl _, Nat.le_refl _⟩ (Nat.le_of_ble_eq_true rfl) ?_
      refine cp_if_eqB (tgt := 36) O dX1_firstByRank_18 (by decide) (fun c_18 => ?_) (fun c_18 => ?_)
      · refine cp_iinc O dX1_firstByRank_36 cp_lg3 (cp_inc rfl) (by decide) (cp_ls3 rfl) ?_
        refine cp_goto (tgt := 5) O dX1_firstByRank_39 (by decide) ?_
        have ih := ih (by omega)
        rw [cp_fbk_1 c_18] at ih
        exact ih
      · refine cp_iload_n O dX1_firstByRank_21 cp_lg2 ?_
        refine cp_if_lt (tgt := 34) O dX1_firstByRank_22 (by decide) (fun c_22 => ?_) (fun c_22 => ?_)
        · refine cp_iload_n O dX1_firstByRank_34 cp_lg3 ?_
          refine cp_istore_n O dX1_firstByRank_35 (by decide) (cp_ls2 rfl) ?_
          refine cp_iinc O dX1_firstByRank_36 cp_lg3 (cp_inc rfl) (by decide) (cp_ls3 rfl) ?_
          refine cp_goto (tgt := 5) O dX1_firstByRank_39 (by decide) ?_
          have ih := ih (by omega)
          rw [cp_fbk_2 c_18 (hol.1 c_22)] at ih
          exact ih
        · obtain ⟨f, hf⟩ := hol.2 c_22
          have hfl := (cp_fbk_lt hf).1
          refine cp_aload_n O dX1_firstByRank_25 cp_lg0 ?_
          refine cp_iload_n O dX1_firstByRank_26 cp_lg3 ?_
          refine cp_iload_n O dX1_firstByRank_27 cp_lg2 ?_
          refine cp_cVi O me_X1_goesAhead mi_X1_goesAhead ml_X1_153 cp_cX1 N.s (c_X1_goesAhead (k := f) N rfl (by rw [hf]; rfl) (by omega) (by omega)) dX1_firstByRank_28 rfl rfl ⟨Nat.le_of_ble_eq_true rfl, Nat.le_of_ble_eq_true rfl⟩ ⟨Nat.le_refl _, Nat.le_refl _⟩ (Nat.le_of_ble_eq_true rfl) ?_
          refine cp_if_eqB (tgt := 36) O dX1_firstByRank_31 (by decide) (fun c_31 => ?_) (fun c_31 => ?_)
          · refine cp_iinc O dX1_firstByRank_36 cp_lg3 (cp_inc rfl) (by decide) (cp_ls3 rfl) ?_
            refine cp_goto (tgt := 5) O dX1_firstByRank_39 (by decide) ?_
            have ih := ih (by omega)
            rw [cp_fbk_4 hf c_31] at ih
            rw [hf]
            exact ih
          · refine cp_iload_n O dX1_firstByRank_34 cp_lg3 ?_
            refine cp_istore_n O dX1_firstByRank_35 (by decide) (cp_ls2 rfl) ?_
            refine cp_iinc O dX1_firstByRank_36 cp_lg3 (cp_inc rfl) (by decide) (cp_ls3 rfl) ?_
            refine cp_goto (tgt := 5) O dX1_firstByRank_39 (by decide) ?_
            have ih := ih (by omega)
            rw [cp_fbk_3 c_18 hf c_31] at ih
            exact ih
  exact loop5 0 (Nat.zero_le _)
set_option maxHeartbeats 4000000 in
set_option maxRecDepth 100000 in
theorem c_X1_platesWith {lc : Launch} {E : cp_En} {cnt : Nat} {sh : cp_Shp} {R : cp_Rem} {J : cp_Mem} {b : Nat} {o S : Nat → Int32} {P Q : cp_PP} (N : cp_NL sh R b) {np : Nat} (h5 : o 5 = nI np) (hq : np ≤ 8) {p : Nat} : cp_Fn lc E yX1_platesWith cX1_platesWith 4 (some .int) 1 [.ref b, .int (nI p)] cnt sh (cp_nn J b o S P Q) R (some (.int (cp_pw Q p np))) (cp_nn J b o S P Q) := by
  refine cp_Fn_i [some (.ref b), some (.int (nI p)), none, none] (by decide +kernel) (Nat.le_of_ble_eq_true rfl) rfl rfl (fun x hxl O hr => ?_)
  subst hxl
  refine cp_iconst O dX1_platesWith_0 (v := 0) rfl ?_
  refine cp_istore_n O dX1_platesWith_1 (by decide) (cp_ls2 rfl) ?_
  refine cp_iconst O dX1_platesWith_2 (v := 0) rfl ?_
  refine cp_istore_n O dX1_platesWith_3 (by decide) (cp_ls3 rfl) ?_
  have loop4 : ∀ c, c ≤ np → cp_G x E 4 0 0 cnt sh (cp_nn J b o S P Q) R 4 [some (.ref b), some (.int (nI p)), some (.int (cp_pw Q p c)), some (.int (nI c))] [] := by
    refine cp_up (fun c hc ih => ?_)
    refine cp_iload_n O dX1_platesWith_4 cp_lg3 ?_
    refine cp_aload_n O dX1_platesWith_5 cp_lg0 ?_
    refine ng_X1_44 O N dX1_platesWith_6 ?_
    refine cp_icmp_geN (tgt := 39) O dX1_platesWith_9 (by decide) (a := c) (b := np) rfl h5 (by omega) (by omega) (fun c_9 => ?_) (fun c_9 => ?_)
    · refine cp_iload_n O dX1_platesWith_39 cp_lg2 ?_
      exact hr _ _ _ _ dX1_platesWith_40 (by rw [show c = np by omega]) rfl
    · refine cp_iload_n O dX1_platesWith_12 cp_lg2 ?_
      refine cp_iload_n O dX1_platesWith_13 cp_lg1 ?_
      refine cp_aload_n O dX1_platesWith_14 cp_lg0 ?_
      refine fg_X1_39 O N.s N.pls dX1_platesWith_15 ?_
      refine cp_iload_n O dX1_platesWith_18 cp_lg3 ?_
      refine cp_aaldr O (Or.inr (Or.inr ⟨rfl, rfl⟩)) N.spls (j := c) rfl (by omega) (by decide) (N.pl (by omega)) dX1_platesWith_19 ?_
      refine qg_X1_113 O N (by omega) dX1_platesWith_20 ?_
      refine cp_cSNi O me_X6_isInSet ms_X6_isInSet ml_X1_118 (c_X6_isInSet) dX1_platesWith_23 rfl rfl ⟨Nat.le_of_ble_eq_true rfl, Nat.le_of_ble_eq_true rfl⟩ ⟨Nat.le_refl _, Nat.le_refl _⟩ (Nat.le_of_ble_eq_true rfl) ?_
      refine cp_cSNi O me_X6_oneIf ms_X6_oneIf ml_X1_89 (c_X6_oneIf (b := decide (cp_bit (Q c 2) p = 1))) dX1_platesWith_26 rfl rfl ⟨Nat.le_of_ble_eq_true rfl, Nat.le_of_ble_eq_true rfl⟩ ⟨Nat.le_refl _, Nat.le_refl _⟩ (Nat.le_of_ble_eq_true rfl) ?_
      rw [cp_bit_bi]
      refine cp_iload_n O dX1_platesWith_29 cp_lg3 ?_
      refine cp_ishl O dX1_platesWith_30 ?_
      refine cp_ior O dX1_platesWith_31 ?_
      refine cp_istore_n O dX1_platesWith_32 (by decide) (cp_ls2 rfl) ?_
      refine cp_iinc O dX1_platesWith_33 cp_lg3 (cp_inc rfl) (by decide) (cp_ls3 rfl) ?_
      refine cp_goto (tgt := 4) O dX1_platesWith_36 (by decide) ?_
      exact ih (by omega)
  exact loop4 0 (Nat.zero_le _)

