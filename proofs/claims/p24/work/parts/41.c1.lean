theorem mt_min_s : Cond.static Lib.Math.min.name ∈ cp_TG := cp_TG_in (i := 299) (by decide +kernel) (by decide +kernel)
theorem mt_min_c : Cond.code Lib.Math.min.name Lib.Math.min.code 2 (some .int) ∈ cp_TG := cp_TG_in (i := 300) (by decide +kernel) (by decide +kernel)
theorem mt_max_s : Cond.static Lib.Math.max.name ∈ cp_TG := cp_TG_in (i := 492) (by decide +kernel) (by decide +kernel)
theorem mt_max_c : Cond.code Lib.Math.max.name Lib.Math.max.code 2 (some .int) ∈ cp_TG := cp_TG_in (i := 493) (by decide +kernel) (by decide +kernel)
theorem mt_i : Cond.initialized "java/lang/Math" ∈ cp_TG := cp_TG_in (i := 33) (by decide +kernel) (by decide +kernel)
theorem ml_X0_29 : Cond.methodLink RX0 29 Lib.Math.min.name ∈ cp_TG := cp_TG_in (i := 298) (by decide +kernel) (by decide +kernel)
theorem ml_X4_43 : Cond.methodLink RX4 43 Lib.Math.min.name ∈ cp_TG := cp_TG_in (i := 324) (by decide +kernel) (by decide +kernel)
theorem ml_X6_132 : Cond.methodLink RX6 132 Lib.Math.max.name ∈ cp_TG := cp_TG_in (i := 491) (by decide +kernel) (by decide +kernel)
theorem cp_mmin {x : cp_Cx} {E : cp_En} {own : String} {bc : ByteArray} {nL d mc ms cells slots cnt : Nat} {sh : cp_Shp} {I : cp_Mem} {R : cp_Rem} {pc : Nat} {L : List (Option Value)} {st : List Value} {a b : Int32} {n : Nat} (O : cp_Ok x E own bc nL d mc ms) (hd1 : 1 ≤ d) (hlk : Cond.methodLink own n Lib.Math.min.name ∈ cp_TG) (hd : decode bc pc = .ok (.invokestatic n, 3)) (hrest : (st.map fun v => v.category).sum ≤ 8) (hcs : cells ≤ mc ∧ slots ≤ ms) (k : cp_G x E nL cells slots cnt sh I R (pc + 3) L (.int (if b < a then b else a) :: st)) : cp_G x E nL cells slots cnt sh I R pc L (.int b :: .int a :: st) := fun H locs ls hW hS hl =>
  va_mmin O.1 O.2.1 (O.2.2.1.trans hl.1.symm) O.2.2.2.1 (O.2.2.2.2.1 _ hlk) (O.2.2.2.2.1 _ mt_min_s) (O.2.2.2.2.1 _ mt_i) (O.2.2.2.2.1 _ mt_min_c) (Nat.le_trans hd1 O.2.2.2.2.2.2.2.2.1) (Nat.le_trans (by omega) O.2.2.2.2.2.2.2.2.2.1) (Nat.le_trans hcs.1 O.2.2.2.2.2.2.2.2.2.2.1) (Nat.le_trans hcs.2 O.2.2.2.2.2.2.2.2.2.2.2) hd (k H locs ls hW hS hl)
theorem cp_mmax {x : cp_Cx} {E : cp_En} {own : String} {bc : ByteArray} {nL d mc ms cells slots cnt : Nat} {sh : cp_Shp} {I : cp_Mem} {R : cp_Rem} {pc : Nat} {L : List (Option Value)} {st : List Value} {a b : Int32} {n : Nat} (O : cp_Ok x E own bc nL d mc ms) (hd1 : 1 ≤ d) (hlk : Cond.methodLink own n Lib.Math.max.name ∈ cp_TG) (hd : decode bc pc = .ok (.invokestatic n, 3)) (hrest : (st.map fun v => v.category).sum ≤ 8) (hcs : cells ≤ mc ∧ slots ≤ ms) (k : cp_G x E nL cells slots cnt sh I R (pc + 3) L (.int (if a < b then b else a) :: st)) : cp_G x E nL cells slots cnt sh I R pc L (.int b :: .int a :: st) := fun H locs ls hW hS hl =>
  va_mmax O.1 O.2.1 (O.2.2.1.trans hl.1.symm) O.2.2.2.1 (O.2.2.2.2.1 _ hlk) (O.2.2.2.2.1 _ mt_max_s) (O.2.2.2.2.1 _ mt_i) (O.2.2.2.2.1 _ mt_max_c) (Nat.le_trans hd1 O.2.2.2.2.2.2.2.2.1) (Nat.le_trans (by omega) O.2.2.2.2.2.2.2.2.2.1) (Nat.le_trans hcs.1 O.2.2.2.2.2.2.2.2.2.2.1) (Nat.le_trans hcs.2 O.2.2.2.2.2.2.2.2.2.2.2) hd (k H locs ls hW hS hl)
set_option maxHeartbeats 4000000 in
set_option maxRecDepth 100000 in
theorem c_X6_isInSet {lc : Launch} {E : cp_En} {cnt : Nat} {sh : cp_Shp} {R : cp_Rem} {I : cp_Mem} {v1 v2 : Int32} : cp_Fn lc E yX6_isInSet cX6_isInSet 2 (some .boolean) 0 [.int v1, .int v2] cnt sh I R (some (.int (cp_bi (decide ((v2 >>> (v1 &&& 31)) &&& 1 = 1))))) I := by
  refine cp_Fn_i [some (.int v1), some (.int v2)] (by decide +kernel) (Nat.le_of_ble_eq_true rfl) rfl (cp_bin _) (fun x hxl O hr => ?_)
  subst hxl
  refine cp_iload_n O dX6_isInSet_0 cp_lg1 ?_
  refine cp_iload_n O dX6_isInSet_1 cp_lg0 ?_
  refine cp_ishr O dX6_isInSet_2 ?_
  refine cp_iconst O dX6_isInSet_3 (v := 1) rfl ?_
  refine cp_iand O dX6_isInSet_4 ?_
  refine cp_iconst O dX6_isInSet_5 (v := 1) rfl ?_
  refine cp_icmp_ne (tgt := 13) O dX6_isInSet_6 (by decide) (fun c_6 => ?_) (fun c_6 => ?_)
  · refine cp_iconst O dX6_isInSet_13 (v := 0) rfl ?_
    exact hr _ _ _ _ dX6_isInSet_14 (cp_bi_fd c_6) rfl
  · refine cp_iconst O dX6_isInSet_9 (v := 1) rfl ?_
    refine cp_goto (tgt := 14) O dX6_isInSet_10 (by decide) ?_
    exact hr _ _ _ _ dX6_isInSet_14 (cp_bi_td c_6) rfl
set_option maxHeartbeats 4000000 in
set_option maxRecDepth 100000 in
theorem c_X6_oneIf {lc : Launch} {E : cp_En} {cnt : Nat} {sh : cp_Shp} {R : cp_Rem} {I : cp_Mem} {b : Bool} : cp_Fn lc E yX6_oneIf cX6_oneIf 1 (some .int) 0 [.int (cp_bi b)] cnt sh I R (some (.int (cp_bi b))) I := by
  refine cp_Fn_i [some (.int (cp_bi b))] (by decide +kernel) (Nat.le_of_ble_eq_true rfl) rfl rfl (fun x hxl O hr => ?_)
  subst hxl
  refine cp_iload_n O dX6_oneIf_0 cp_lg0 ?_
  refine cp_if_eqB (tgt := 8) O dX6_oneIf_1 (by decide) (fun c_1 => ?_) (fun c_1 => ?_)
  · refine cp_iconst O dX6_oneIf_8 (v := 0) rfl ?_
    exact hr _ _ _ _ dX6_oneIf_9 (cp_bi_f c_1) rfl
  · refine cp_iconst O dX6_oneIf_4 (v := 1) rfl ?_
    refine cp_goto (tgt := 9) O dX6_oneIf_5 (by decide) ?_
    exact hr _ _ _ _ dX6_oneIf_9 (cp_bi_t c_1) rfl
set_option maxHeartbeats 4000000 in
set_option maxRecDepth 100000 in
theorem c_X4_becomeReady {lc : Launch} {E : cp_En} {cnt : Nat} {sh : cp_Shp} {R : cp_Rem} {I : cp_Mem} {a : Nat} {g : Nat → Int32} (hs : sh a = (5, 0)) {v1 : Int32} : cp_Fn lc E yX4_becomeReady cX4_becomeReady 2 none 0 [.ref a, .int v1] cnt sh (cp_row I a g) R none (cp_row I a (upd (upd g 4 2) 8 v1)) := by
  refine cp_Fn_v [some (.ref a), some (.int v1)] (by decide +kernel) (Nat.le_of_ble_eq_true rfl) rfl (fun x hxl O hr => ?_)
  subst hxl
  refine cp_aload_n O dX4_becomeReady_0 cp_lg0 ?_
  refine cp_iconst O dX4_becomeReady_1 (v := 2) rfl ?_
  refine rp_X4_25 O hs dX4_becomeReady_2 ?_
  refine cp_aload_n O dX4_becomeReady_5 cp_lg0 ?_
  refine cp_iload_n O dX4_becomeReady_6 cp_lg1 ?_
  refine rp_X4_37 O hs dX4_becomeReady_7 ?_
  exact hr _ _ _ dX4_becomeReady_10 rfl
set_option maxHeartbeats 4000000 in
set_option maxRecDepth 100000 in
theorem c_X4_isForPlate {lc : Launch} {E : cp_En} {cnt : Nat} {sh : cp_Shp} {R : cp_Rem} {I : cp_Mem} {a : Nat} {g : Nat → Int32} (hs : sh a = (5, 0)) : cp_Fn lc E yX4_isForPlate cX4_isForPlate 1 (some .boolean) 0 [.ref a] cnt sh (cp_row I a g) R (some (.int (cp_bi (decide (g 4 = 2) && decide (g 5 = 0))))) (cp_row I a g) := by
  refine cp_Fn_i [some (.ref a)] (by decide +kernel) (Nat.le_of_ble_eq_true rfl) rfl (cp_bin _) (fun x hxl O hr => ?_)
  subst hxl
  refine cp_aload_n O dX4_isForPlate_0 cp_lg0 ?_
  refine rg_X4_25 O hs dX4_isForPlate_1 ?_
  refine cp_iconst O dX4_isForPlate_4 (v := 2) rfl ?_
  refine cp_icmp_ne (tgt := 19) O dX4_isForPlate_5 (by decide) (fun c_5 => ?_) (fun c_5 => ?_)
  · refine cp_iconst O dX4_isForPlate_19 (v := 0) rfl ?_
    exact hr _ _ _ _ dX4_isForPlate_20 (cp_bi_f (by rw [decide_eq_false c_5]; rfl)) rfl
  · refine cp_aload_n O dX4_isForPlate_8 cp_lg0 ?_
    refine rg_X4_28 O hs dX4_isForPlate_9 ?_
    refine cp_if_ne (tgt := 19) O dX4_isForPlate_12 (by decide) (fun c_12 => ?_) (fun c_12 => ?_)
    · refine cp_iconst O dX4_isForPlate_19 (v := 0) rfl ?_
      exact hr _ _ _ _ dX4_isForPlate_20 (cp_bi_f (by rw [decide_eq_false c_12, Bool.and_false])) rfl
    · refine cp_iconst O dX4_isForPlate_15 (v := 1) rfl ?_
      refine cp_goto (tgt := 20) O dX4_isForPlate_16 (by decide) ?_
      exact hr _ _ _ _ dX4_isForPlate_20 (cp_bi_t (by rw [decide_eq_true c_5, decide_eq_true c_12]; rfl)) rfl
/-- a piece that comes, into a row of any numbers -/
def cp_pcr (d l r : Int32) (b : Bool) (g : Nat → Int32) : Nat → Int32 := upd (upd (upd (upd (upd (upd (upd (upd (upd (upd g 0 d) 1 l) 2 r) 3 (cp_bi b)) 4 0) 5 0) 6 0) 7 0) 8 (-6)) 9 0
theorem cp_pcr_np {d l r : Int32} {b : Bool} {g : Nat → Int32} : ∀ f, f < 9 → cp_pcr d l r b g f = cp_np d l r (cp_bi b) f := by
  intro f hf
  rcases (by omega : f = 0 ∨ f = 1 ∨ f = 2 ∨ f = 3 ∨ f = 4 ∨ f = 5 ∨ f = 6 ∨ f = 7 ∨ f = 8) with h | h | h | h | h | h | h | h | h <;> subst h <;> rfl
def cp_pcy (o : Nat → Int32) (g : Nat → Int32) : Nat → Int32 := upd (upd (upd (upd (upd (upd (upd (upd (upd (upd g 0 (o 0)) 1 (o 1)) 2 (o 2)) 3 (o 3)) 4 (o 4)) 5 (o 5)) 6 (o 6)) 7 (o 7)) 8 (o 8)) 9 (o 9)
theorem cp_pcy_f {o g : Nat → Int32} : ∀ f, f < 10 → cp_pcy o g f = o f := by
  intro f hf
  rcases (by omega : f = 0 ∨ f = 1 ∨ f = 2 ∨ f = 3 ∨ f = 4 ∨ f = 5 ∨ f = 6 ∨ f = 7 ∨ f = 8 ∨ f = 9) with h | h | h | h | h | h | h | h | h | h <;> subst h <;> rfl
def cp_qcy (o : Nat → Int32) (g : Nat → Int32) : Nat → Int32 := upd (upd (upd g 0 (o 0)) 1 (o 1)) 2 (o 2)
theorem cp_qcy_f {o g : Nat → Int32} : ∀ f, f < 3 → cp_qcy o g f = o f := by
  intro f hf
  rcases (by omega : f = 0 ∨ f = 1 ∨ f = 2) with h | h | h <;> subst h <;> rfl
def cp_qtl (v : Int32) (b : Bool) (g : Nat → Int32) : Nat → Int32 := upd (upd (upd g 0 v) 1 (cp_bi b)) 2 0
/-- the row of a piece that its desk edits -/
def cp_e1 (s mi : Int32) (g : Nat → Int32) : Nat → Int32 := if g 6 + s < g 1 then upd g 6 (g 6 + s) else if g 3 = 1 then upd (upd (upd g 6 (g 1)) 4 1) 9 (mi * 5 + g 0) else upd (upd (upd g 6 (g 1)) 4 2) 8 mi
/-- the row of a piece that the lawyer reads -/
def cp_r1 (s mi : Int32) (g : Nat → Int32) : Nat → Int32 := if s ≤ g 7 + 1 then upd (upd (upd g 7 (g 7 + 1)) 4 2) 8 mi else upd g 7 (g 7 + 1)
set_option maxHeartbeats 4000000 in
set_option maxRecDepth 100000 in
theorem c_X4_come {lc : Launch} {E : cp_En} {cnt : Nat} {sh : cp_Shp} {R : cp_Rem} {I : cp_Mem} {a : Nat} {g : Nat → Int32} (hs : sh a = (5, 0)) {v1 v2 v3 : Int32} {b : Bool} : cp_Fn lc E yX4_come cX4_come 5 none 0 [.ref a, .int v1, .int v2, .int v3, .int (cp_bi b)] cnt sh (cp_row I a g) R none (cp_row I a (cp_pcr v1 v2 v3 b g)) := by
  refine cp_Fn_v [some (.ref a), some (.int v1), some (.int v2), some (.int v3), some (.int (cp_bi b))] (by decide +kernel) (Nat.le_of_ble_eq_true rfl) rfl (fun x hxl O hr => ?_)
  subst hxl
  refine cp_aload_n O dX4_come_0 cp_lg0 ?_
  refine cp_iload_n O dX4_come_1 cp_lg1 ?_
  refine rp_X4_9 O hs dX4_come_2 ?_
  refine cp_aload_n O dX4_come_5 cp_lg0 ?_
  refine cp_iload_n O dX4_come_6 cp_lg2 ?_
  refine rp_X4_15 O hs dX4_come_7 ?_
  refine cp_aload_n O dX4_come_10 cp_lg0 ?_
  refine cp_iload_n O dX4_come_11 cp_lg3 ?_
  refine rp_X4_18 O hs dX4_come_12 ?_
  refine cp_aload_n O dX4_come_15 cp_lg0 ?_
  refine cp_iload O dX4_come_16 cp_lg4 ?_
  refine rp_X4_21 O hs (by first | exact Or.inl rfl | exact Or.inr rfl | exact cp_bi01 _ | assumption) dX4_come_18 ?_
  refine cp_aload_n O dX4_come_21 cp_lg0 ?_
  refine cp_iconst O dX4_come_22 (v := 0) rfl ?_
  refine rp_X4_25 O hs dX4_come_23 ?_
  refine cp_aload_n O dX4_come_26 cp_lg0 ?_
  refine cp_iconst O dX4_come_27 (v := 0) rfl ?_
  refine rp_X4_28 O hs (by first | exact Or.inl rfl | exact Or.inr rfl | exact cp_bi01 _ | assumption) dX4_come_28 ?_
  refine cp_aload_n O dX4_come_31 cp_lg0 ?_
  refine cp_iconst O dX4_come_32 (v := 0) rfl ?_
  refine rp_X4_31 O hs dX4_come_33 ?_
  refine cp_aload_n O dX4_come_36 cp_lg0 ?_
  refine cp_iconst O dX4_come_37 (v := 0) rfl ?_
  refine rp_X4_34 O hs dX4_come_38 ?_
  refine cp_aload_n O dX4_come_41 cp_lg0 ?_
  refine cp_bipush O dX4_come_42 (v := (-6)) rfl ?_
  refine rp_X4_37 O hs dX4_come_44 ?_
  refine cp_aload_n O dX4_come_47 cp_lg0 ?_
  refine cp_iconst O dX4_come_48 (v := 0) rfl ?_
  refine rp_X4_40 O hs dX4_come_49 ?_
  exact hr _ _ _ dX4_come_52 rfl
set_option maxHeartbeats 4000000 in
set_option maxRecDepth 100000 in
theorem c_X4_copyFrom {lc : Launch} {E : cp_En} {cnt : Nat} {sh : cp_Shp} {R : cp_Rem} {I : cp_Mem} {a : Nat} {g : Nat → Int32} (hs : sh a = (5, 0)) {o : Nat} (ho : sh o = (5, 0)) (hne : a ≠ o) (h3 : I o 3 = 0 ∨ I o 3 = 1) (h5 : I o 5 = 0 ∨ I o 5 = 1) : cp_Fn lc E yX4_copyFrom cX4_copyFrom 2 none 0 [.ref a, .ref o] cnt sh (cp_row I a g) R none (cp_row I a (cp_pcy (I o) g)) := by
  refine cp_Fn_v [some (.ref a), some (.ref o)] (by decide +kernel) (Nat.le_of_ble_eq_true rfl) rfl (fun x hxl O hr => ?_)
  subst hxl
  refine cp_aload_n O dX4_copyFrom_0 cp_lg0 ?_
  refine cp_aload_n O dX4_copyFrom_1 cp_lg1 ?_
  refine fg_X4_9 O ho dX4_copyFrom_2 ?_
  rw [cp_row_n _ _ (Ne.symm hne)]
  refine rp_X4_9 O hs dX4_copyFrom_5 ?_
  refine cp_aload_n O dX4_copyFrom_8 cp_lg0 ?_
  refine cp_aload_n O dX4_copyFrom_9 cp_lg1 ?_
  refine fg_X4_15 O ho dX4_copyFrom_10 ?_
  rw [cp_row_n _ _ (Ne.symm hne)]
  refine rp_X4_15 O hs dX4_copyFrom_13 ?_
  refine cp_aload_n O dX4_copyFrom_16 cp_lg0 ?_
  refine cp_aload_n O dX4_copyFrom_17 cp_lg1 ?_
  refine fg_X4_18 O ho dX4_copyFrom_18 ?_
  rw [cp_row_n _ _ (Ne.symm hne)]
  refine rp_X4_18 O hs dX4_copyFrom_21 ?_
  refine cp_aload_n O dX4_copyFrom_24 cp_lg0 ?_
  refine cp_aload_n O dX4_copyFrom_25 cp_lg1 ?_
  refine fg_X4_21 O ho dX4_copyFrom_26 ?_
  rw [cp_row_n _ _ (Ne.symm hne)]
  refine rp_X4_21 O hs (by first | exact Or.inl rfl | exact Or.inr rfl | exact cp_bi01 _ | assumption) dX4_copyFrom_29 ?_
  refine cp_aload_n O dX4_copyFrom_32 cp_lg0 ?_
  refine cp_aload_n O dX4_copyFrom_33 cp_lg1 ?_
  refine fg_X4_25 O ho dX4_copyFrom_34 ?_
  rw [cp_row_n _ _ (Ne.symm hne)]
  refine rp_X4_25 O hs dX4_copyFrom_37 ?_
  refine cp_aload_n O dX4_copyFrom_40 cp_lg0 ?_
  refine cp_aload_n O dX4_copyFrom_41 cp_lg1 ?_
  refine fg_X4_28 O ho dX4_copyFrom_42 ?_
  rw [cp_row_n _ _ (Ne.symm hne)]
  refine rp_X4_28 O hs (by first | exact Or.inl rfl | exact Or.inr rfl | exact cp_bi01 _ | assumption) dX4_copyFrom_45 ?_
  refine cp_aload_n O dX4_copyFrom_48 cp_lg0 ?_
  refine cp_aload_n O dX4_copyFrom_49 cp_lg1 ?_
  refine fg_X4_31 O ho dX4_copyFrom_50 ?_
  rw [cp_row_n _ _ (Ne.symm hne)]
  refine rp_X4_31 O hs dX4_copyFrom_53 ?_
  refine cp_aload_n O dX4_copyFrom_56 cp_lg0 ?_
  refine cp_aload_n O dX4_copyFrom_57 cp_lg1 ?_
  refine fg_X4_34 O ho dX4_copyFrom_58 ?_
  rw [cp_row_n _ _ (Ne.symm hne)]
  refine rp_X4_34 O hs dX4_copyFrom_61 ?_
  refine cp_aload_n O dX4_copyFrom_64 cp_lg0 ?_
  refine cp_aload_n O dX4_copyFrom_65 cp_lg1 ?_
  refine fg_X4_37 O ho dX4_copyFrom_66 ?_
  rw [cp_row_n _ _ (Ne.symm hne)]
  refine rp_X4_37 O hs dX4_copyFrom_69 ?_
  refine cp_aload_n O dX4_copyFrom_72 cp_lg0 ?_
  refine cp_aload_n O dX4_copyFrom_73 cp_lg1 ?_
  refine fg_X4_40 O ho dX4_copyFrom_74 ?_
  rw [cp_row_n _ _ (Ne.symm hne)]
  refine rp_X4_40 O hs dX4_copyFrom_77 ?_
  exact hr _ _ _ dX4_copyFrom_80 rfl
set_option maxHeartbeats 4000000 in
set_option maxRecDepth 100000 in
theorem c_X5_copyFrom {lc : Launch} {E : cp_En} {cnt : Nat} {sh : cp_Shp} {R : cp_Rem} {I : cp_Mem} {a : Nat} {g : Nat → Int32} (hs : sh a = (6, 0)) {o : Nat} (ho : sh o = (6, 0)) (hne : a ≠ o) (h1 : I o 1 = 0 ∨ I o 1 = 1) : cp_Fn lc E yX5_copyFrom cX5_copyFrom 2 none 0 [.ref a, .ref o] cnt sh (cp_row I a g) R none (cp_row I a (cp_qcy (I o) g)) := by
  refine cp_Fn_v [some (.ref a), some (.ref o)] (by decide +kernel) (Nat.le_of_ble_eq_true rfl) rfl (fun x hxl O hr => ?_)
  subst hxl
  refine cp_aload_n O dX5_copyFrom_0 cp_lg0 ?_
  refine cp_aload_n O dX5_copyFrom_1 cp_lg1 ?_
  refine fg_X5_7 O ho dX5_copyFrom_2 ?_
  rw [cp_row_n _ _ (Ne.symm hne)]
  refine rp_X5_7 O hs dX5_copyFrom_5 ?_
  refine cp_aload_n O dX5_copyFrom_8 cp_lg0 ?_
  refine cp_aload_n O dX5_copyFrom_9 cp_lg1 ?_
  refine fg_X5_13 O ho dX5_copyFrom_10 ?_
  rw [cp_row_n _ _ (Ne.symm hne)]
  refine rp_X5_13 O hs (by first | exact Or.inl rfl | exact Or.inr rfl | exact cp_bi01 _ | assumption) dX5_copyFrom_13 ?_
  refine cp_aload_n O dX5_copyFrom_16 cp_lg0 ?_
  refine cp_aload_n O dX5_copyFrom_17 cp_lg1 ?_
  refine fg_X5_17 O ho dX5_copyFrom_18 ?_
  rw [cp_row_n _ _ (Ne.symm hne)]
  refine rp_X5_17 O hs dX5_copyFrom_21 ?_
  exact hr _ _ _ dX5_copyFrom_24 rfl
set_option maxHeartbeats 4000000 in
set_option maxRecDepth 100000 in
theorem c_X5_tell {lc : Launch} {E : cp_En} {cnt : Nat} {sh : cp_Shp} {R : cp_Rem} {I : cp_Mem} {a : Nat} {g : Nat → Int32} (hs : sh a = (6, 0)) {v1 : Int32} {b : Bool} : cp_Fn lc E yX5_tell cX5_tell 3 none 0 [.ref a, .int v1, .int (cp_bi b)] cnt sh (cp_row I a g) R none (cp_row I a (cp_qtl v1 b g)) := by
  refine cp_Fn_v [some (.ref a), some (.int v1), some (.int (cp_bi b))] (by decide +kernel) (Nat.le_of_ble_eq_true rfl) rfl (fun x hxl O hr => ?_)
  subst hxl
  refine cp_aload_n O dX5_tell_0 cp_lg0 ?_
  refine cp_iload_n O dX5_tell_1 cp_lg1 ?_
  refine rp_X5_7 O hs dX5_tell_2 ?_
  refine cp_aload_n O dX5_tell_5 cp_lg0 ?_
  refine cp_iload_n O dX5_tell_6 cp_lg2 ?_
  refine rp_X5_13 O hs (by first | exact Or.inl rfl | exact Or.inr rfl | exact cp_bi01 _ | assumption) dX5_tell_7 ?_
  refine cp_aload_n O dX5_tell_10 cp_lg0 ?_
  refine cp_iconst O dX5_tell_11 (v := 0) rfl ?_
  refine rp_X5_17 O hs dX5_tell_12 ?_
  exact hr _ _ _ dX5_tell_15 rfl
theorem cp_e1_min {k e s : Nat} (he : e ≤ k) (hk : k < 100) (hs : s ≤ 20) : nI e + (if nI k - nI e < nI s then nI k - nI e else nI s) = if nI e + nI s < nI k then nI e + nI s else nI k := by
  rw [pk_sub he, nI_add]
  by_cases h : e + s < k
  · rw [if_neg (fun z => by have := (nI_ltI (by omega) (by omega)).mp z; omega), if_pos ((nI_ltI (by omega) (by omega)).mpr h), nI_add]
  · rw [if_neg (show ¬ nI (e + s) < nI k from fun z => by have := (nI_ltI (by omega) (by omega)).mp z; omega)]
    by_cases h2 : k - e < s
    · rw [if_pos ((nI_ltI (by omega) (by omega)).mpr h2), nI_add]; congr 1; omega
    · rw [if_neg (fun z => h2 ((nI_ltI (by omega) (by omega)).mp z)), nI_add]; congr 1; omega
set_option maxHeartbeats 4000000 in
set_option maxRecDepth 100000 in
theorem c_X4_editFor {lc : Launch} {E : cp_En} {cnt : Nat} {sh : cp_Shp} {R : cp_Rem} {I : cp_Mem} {a : Nat} {g : Nat → Int32} (hs : sh a = (5, 0)) {v2 : Int32} {s k e : Nat} (h1 : g 1 = nI k) (h6 : g 6 = nI e) (he : e ≤ k) (hk : k < 100) (hs20 : s ≤ 20) (h3 : g 3 = 0 ∨ g 3 = 1) : cp_Fn lc E yX4_editFor cX4_editFor 3 none 1 [.ref a, .int (nI s), .int v2] cnt sh (cp_row I a g) R none (cp_row I a (cp_e1 (nI s) v2 g)) := by
  refine cp_Fn_v [some (.ref a), some (.int (nI s)), some (.int v2)] (by decide +kernel) (Nat.le_of_ble_eq_true rfl) rfl (fun x hxl O hr => ?_)
  subst hxl
  refine cp_aload_n O dX4_editFor_0 cp_lg0 ?_
  refine cp_dup O dX4_editFor_1 rfl ?_
  refine rg_X4_31 O hs dX4_editFor_2 ?_
  refine cp_iload_n O dX4_editFor_5 cp_lg1 ?_
  refine cp_aload_n O dX4_editFor_6 cp_lg0 ?_
  refine rg_X4_15 O hs dX4_editFor_7 ?_
  refine cp_aload_n O dX4_editFor_10 cp_lg0 ?_
  refine rg_X4_31 O hs dX4_editFor_11 ?_
  refine cp_isub O dX4_editFor_14 ?_
  rw [h1, h6]
  refine cp_mmin O (Nat.le_of_ble_eq_true rfl) ml_X4_43 dX4_editFor_15 (Nat.le_of_ble_eq_true rfl) ⟨Nat.le_refl _, Nat.le_refl _⟩ ?_
  refine cp_iadd O dX4_editFor_18 ?_
  rw [cp_e1_min he hk hs20]
  refine rp_X4_31 O hs dX4_editFor_19 ?_
  have h1' : ∀ v, upd g 6 v 1 = nI k := fun v => (cp_upd_n (by decide)).trans h1
  refine cp_aload_n O dX4_editFor_22 cp_lg0 ?_
  refine rg_X4_31 O hs dX4_editFor_23 ?_
  refine cp_aload_n O dX4_editFor_26 cp_lg0 ?_
  refine rg_X4_15 O hs dX4_editFor_27 ?_
  rw [cp_upd_s, h1']
  refine cp_icmp_ge (tgt := 34) O dX4_editFor_30 (by decide) (fun c_30 => ?_) (fun c_30 => ?_)
  · have hlt : ¬ nI e + nI s < nI k := fun z => by
      rw [if_pos z] at c_30
      exact Int32.not_le.mpr z c_30
    refine cp_aload_n O dX4_editFor_34 cp_lg0 ?_
    refine rg_X4_21 O hs dX4_editFor_35 ?_
    rw [show upd g 6 (if nI e + nI s < nI k then nI e + nI s else nI k) 3 = g 3 from cp_upd_n (by decide)]
    refine cp_if_ne (tgt := 47) O dX4_editFor_38 (by decide) (fun c_38 => ?_) (fun c_38 => ?_)
    · refine cp_aload_n O dX4_editFor_47 cp_lg0 ?_
      refine cp_iconst O dX4_editFor_48 (v := 1) rfl ?_
      refine rp_X4_25 O hs dX4_editFor_49 ?_
      refine cp_aload_n O dX4_editFor_52 cp_lg0 ?_
      refine cp_iload_n O dX4_editFor_53 cp_lg2 ?_
      refine cp_iconst O dX4_editFor_54 (v := 5) rfl ?_
      refine cp_imul O dX4_editFor_55 ?_
      refine cp_aload_n O dX4_editFor_56 cp_lg0 ?_
      refine rg_X4_9 O hs dX4_editFor_57 ?_
      refine cp_iadd O dX4_editFor_60 ?_
      refine rp_X4_40 O hs dX4_editFor_61 ?_
      exact hr _ _ _ dX4_editFor_64 (by unfold cp_e1; rw [h1, h6, if_neg hlt, if_neg hlt, if_pos (h3.resolve_left c_38)]; rfl)
    · refine cp_aload_n O dX4_editFor_41 cp_lg0 ?_
      refine cp_iload_n O dX4_editFor_42 cp_lg2 ?_
      refine cp_cVv O me_X4_becomeReady mi_X4_becomeReady ml_X4_49 cp_cX4 hs (c_X4_becomeReady hs) dX4_editFor_43 rfl rfl ⟨Nat.le_of_ble_eq_true rfl, Nat.le_of_ble_eq_true rfl⟩ ⟨Nat.le_refl _, Nat.le_refl _⟩ (Nat.le_of_ble_eq_true rfl) ?_
      exact hr _ _ _ dX4_editFor_46 (by unfold cp_e1; rw [h1, h6, if_neg hlt, if_neg hlt, if_neg (fun z => by rw [z] at c_38; exact absurd c_38 (by decide))])
  · have hlt : nI e + nI s < nI k := by
      refine Decidable.byContradiction fun z => c_30 ?_
      rw [if_neg z]; exact Int32.le_refl _
    exact hr _ _ _ dX4_editFor_33 (by unfold cp_e1; rw [h1, h6, if_pos hlt, if_pos hlt])
set_option maxHeartbeats 4000000 in
set_option maxRecDepth 100000 in
theorem c_X4_readOneMinute {lc : Launch} {E : cp_En} {cnt : Nat} {sh : cp_Shp} {R : cp_Rem} {I : cp_Mem} {a : Nat} {g : Nat → Int32} (hs : sh a = (5, 0)) {v1 v2 : Int32} : cp_Fn lc E yX4_readOneMinute cX4_readOneMinute 3 none 1 [.ref a, .int v1, .int v2] cnt sh (cp_row I a g) R none (cp_row I a (cp_r1 v1 v2 g)) := by
  refine cp_Fn_v [some (.ref a), some (.int v1), some (.int v2)] (by decide +kernel) (Nat.le_of_ble_eq_true rfl) rfl (fun x hxl O hr => ?_)
  subst hxl
  refine cp_aload_n O dX4_readOneMinute_0 cp_lg0 ?_
  refine cp_dup O dX4_readOneMinute_1 rfl ?_
  refine rg_X4_34 O hs dX4_readOneMinute_2 ?_
  refine cp_iconst O dX4_readOneMinute_5 (v := 1) rfl ?_
  refine cp_iadd O dX4_readOneMinute_6 ?_
  refine rp_X4_34 O hs dX4_readOneMinute_7 ?_
  refine cp_aload_n O dX4_readOneMinute_10 cp_lg0 ?_
  refine rg_X4_34 O hs dX4_readOneMinute_11 ?_
  refine cp_iload_n O dX4_readOneMinute_14 cp_lg1 ?_
  rw [cp_upd_s]
  refine cp_icmp_lt (tgt := 23) O dX4_readOneMinute_15 (by decide) (fun c_15 => ?_) (fun c_15 => ?_)
  · exact hr _ _ _ dX4_readOneMinute_23 (by unfold cp_r1; rw [if_neg (Int32.not_le.mpr c_15)])
  · refine cp_aload_n O dX4_readOneMinute_18 cp_lg0 ?_
    refine cp_iload_n O dX4_readOneMinute_19 cp_lg2 ?_
    refine cp_cVv O me_X4_becomeReady mi_X4_becomeReady ml_X4_49 cp_cX4 hs (c_X4_becomeReady hs) dX4_readOneMinute_20 rfl rfl ⟨Nat.le_of_ble_eq_true rfl, Nat.le_of_ble_eq_true rfl⟩ ⟨Nat.le_refl _, Nat.le_refl _⟩ (Nat.le_of_ble_eq_true rfl) ?_
    exact hr _ _ _ dX4_readOneMinute_23 (by unfold cp_r1; rw [if_pos (Int32.not_lt.mp c_15)])

