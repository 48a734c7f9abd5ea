/-! ROWS MORE; cell AND up -/
theorem cw_L_7 : Cond.constant RL 7 (2048810287 : Int32) ∈ cp_TG := cp_TG_in (i := 224) (by decide +kernel) (by decide +kernel)
theorem cw_L_8 : Cond.constant RL 8 (2147483647 : Int32) ∈ cp_TG := cp_TG_in (i := 262) (by decide +kernel) (by decide +kernel)
theorem cn_L_10 : Cond.classLink RL 10 RX6 ∈ cp_TG := cp_TG_in (i := 34) (by decide +kernel) (by decide +kernel)
section CPR5
variable {x : cp_Cx} {E : cp_En} {own : String} {bc : ByteArray} {nL d mc ms : Nat} {cells slots cnt : Nat} {sh : cp_Shp} {I : cp_Mem} {R : cp_Rem} {pc : Nat} {L : List (Option Value)} {st : List Value}
theorem cp_irem (O : cp_Ok x E own bc nL d mc ms) {a b : Int32} (hne : ¬ b = 0) (hd : decode bc pc = .ok (.irem, 1)) (k : cp_G x E nL cells slots cnt sh I R (pc + 1) L (.int (a - a / b * b) :: st)) : cp_G x E nL cells slots cnt sh I R pc L (.int b :: .int a :: st) := fun H locs ls hW hS hl => lv_irem O.1 O.2.1 hd hne (k H locs ls hW hS hl)
theorem cp_ldc (O : cp_Ok x E own bc nL d mc ms) {index : Nat} {v : Int32} (hw : Cond.constant own index v ∈ cp_TG) (hd : decode bc pc = .ok (.ldc index, 2)) (k : cp_G x E nL cells slots cnt sh I R (pc + 2) L (.int v :: st)) : cp_G x E nL cells slots cnt sh I R pc L st := fun H locs ls hW hS hl => lv_ldc O.1 O.2.1 O.2.2.2.1 (O.2.2.2.2.1 _ hw) hd (k H locs ls hW hS hl)
theorem cp_sldE (O : cp_Ok x E own bc nL d mc ms) {i : Int32} {j : Nat} (hi : i = nI j) (hj : j < cp_ts E 4) (hd : decode bc pc = .ok (.iaload, 1)) (k : ∀ w : Int32, cp_G x E nL cells slots cnt sh I R (pc + 1) L (.int w :: st)) : cp_G x E nL cells slots cnt sh I R pc L (.int i :: .ref (cp_ts E 3) :: st) := by
  intro H locs ls hW hS hl
  obtain ⟨xs, hX, hA, hL⟩ := O.2.2.2.2.2.2.1.2.2
  obtain ⟨scr, e, -⟩ := id hX
  subst hi
  refine va_sld O.1 O.2.1 hX (Array.getElem?_eq_some_iff.mp e).1 hA hS (vp_in_nI hj (by omega)) hd ?_
  rw [nI_clamp (by omega)]
  exact k _ H locs ls hW hS hl
theorem cp_slenE (O : cp_Ok x E own bc nL d mc ms) (hd : decode bc pc = .ok (.arraylength, 1)) (k : cp_G x E nL cells slots cnt sh I R (pc + 1) L (.int (nI (cp_ts E 4)) :: st)) : cp_G x E nL cells slots cnt sh I R pc L (.ref (cp_ts E 3) :: st) := fun H locs ls hW hS hl => by
  obtain ⟨xs, hX, hA, hL⟩ := O.2.2.2.2.2.2.1.2.2
  obtain ⟨scr, e, -⟩ := id hX
  exact va_slen O.1 O.2.1 hX (Array.getElem?_eq_some_iff.mp e).1 hA hS hd (k H locs ls hW hS hl)
end CPR5
/-- up -/
def cp_uv (v n : Int32) : Int32 := (v &&& 2147483647) - (v &&& 2147483647) / n * n
theorem cp_uv_0 (v : Int32) : 0 ≤ (v &&& 2147483647).toInt := by
  show 0 ≤ (v &&& 2147483647).toBitVec.toInt
  rw [Int32.toBitVec_and, BitVec.toInt_eq_toNat_of_msb (by rw [BitVec.msb_and, show (2147483647 : Int32).toBitVec.msb = false by decide, Bool.and_false])]
  omega
theorem cp_uv_k (v : Int32) {n : Int32} {m : Nat} (hn : n = nI m) (h : 1 ≤ m) (hm : m < 2 ^ 31) : ∃ k, k < m ∧ cp_uv v n = nI k := by
  subst hn
  have h0 := cp_uv_0 v
  have e : (cp_uv v (nI m)).toInt = (v &&& 2147483647).toInt % (m : Int) := by
    unfold cp_uv
    rw [rem_toInt, nI_toInt (by omega), Int.tmod_eq_emod_of_nonneg h0]
  have h1 := Int.emod_nonneg (v &&& 2147483647).toInt (show (m : Int) ≠ 0 by omega)
  have h2 := Int.emod_lt_of_pos (v &&& 2147483647).toInt (show (0 : Int) < m by omega)
  refine ⟨(cp_uv v (nI m)).toInt.toNat, by omega, ?_⟩
  apply Int32.toInt_inj.mp
  rw [nI_toInt (by omega)]
  omega
set_option maxHeartbeats 4000000 in
set_option maxRecDepth 100000 in
theorem c_L_up {lc : Launch} {E : cp_En} {cnt : Nat} {sh : cp_Shp} {R : cp_Rem} {I : cp_Mem} {v1 v2 : Int32} (hne : ¬ v2 = 0) : cp_Fn lc E yL_up cL_up 2 (some .int) 0 [.int v1, .int v2] cnt sh I R (some (.int (cp_uv v1 v2))) I := by
  refine cp_Fn_i [some (.int v1), some (.int v2)] (by decide +kernel) (Nat.le_of_ble_eq_true rfl) rfl rfl (fun x hxl O hr => ?_)
  subst hxl
  refine cp_iload_n O dL_up_0 cp_lg0 ?_
  refine cp_ldc O cw_L_8 dL_up_1 ?_
  refine cp_iand O dL_up_3 ?_
  refine cp_iload_n O dL_up_4 cp_lg1 ?_
  refine cp_irem O hne dL_up_5 ?_
  exact hr _ _ _ _ dL_up_6 rfl rfl
set_option maxHeartbeats 4000000 in
set_option maxRecDepth 100000 in
theorem c_L_cell {lc : Launch} {E : cp_En} {cnt : Nat} {sh : cp_Shp} {R : cp_Rem} {I : cp_Mem} {k : Nat} (hk : k < 100000) : cp_Ct lc E yL_cell cL_cell 2 (some .int) 0 0 0 [.ref (cp_ts E 3), .int (nI k)] cnt sh I R (fun v c s i r => (∃ w, v = some (.int w)) ∧ c = cnt ∧ s = sh ∧ i = I ∧ r = R) := by
  refine cp_Ct_of (L0 := [some (.ref (cp_ts E 3)), some (.int (nI k))]) (by decide +kernel) (Nat.le_of_ble_eq_true rfl) rfl (fun x hxl O _ hr _ => ?_)
  subst hxl
  have hL : cp_ts E 4 < 100000 := by
    obtain ⟨xs, hX, hA, hL⟩ := O.2.2.2.2.2.2.1.2.2
    exact hL
  refine cp_iload_n O dL_cell_0 cp_lg1 ?_
  refine cp_aload_n O dL_cell_1 cp_lg0 ?_
  refine cp_slenE O dL_cell_2 ?_
  refine cp_icmp_geN (tgt := 12) O dL_cell_3 (by decide) (a := k) (b := cp_ts E 4) rfl rfl (by omega) (by omega) (fun c => ?_) (fun c => ?_)
  · refine cp_ldc O cw_L_7 dL_cell_12 ?_
    refine cp_iload_n O dL_cell_14 cp_lg1 ?_
    refine cp_sipush O dL_cell_15 (v := 977) rfl ?_
    refine cp_iadd O dL_cell_18 ?_
    refine cp_imul O dL_cell_19 ?_
    exact hr _ _ _ _ _ _ _ _ rfl rfl dL_cell_20 ⟨⟨_, rfl⟩, rfl, rfl, rfl, rfl⟩
  · refine cp_aload_n O dL_cell_6 cp_lg0 ?_
    refine cp_iload_n O dL_cell_7 cp_lg1 ?_
    refine cp_sldE O rfl c dL_cell_8 (fun w => ?_)
    refine cp_goto (tgt := 20) O dL_cell_9 (by decide) ?_
    exact hr _ _ _ _ _ _ _ _ rfl rfl dL_cell_20 ⟨⟨_, rfl⟩, rfl, rfl, rfl, rfl⟩
