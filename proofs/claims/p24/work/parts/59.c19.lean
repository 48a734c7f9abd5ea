theorem cp_made (k : Nat) (o : Option Nat) : nI k + cp_bi o.isSome = nI (k + if o = none then 0 else 1) := by
  cases o with
  | none => rw [if_pos rfl]; exact Int32.add_zero _
  | some j => rw [if_neg (by simp)]; exact nI_1 k
theorem cp_sPs_2 {Z : cp_Nt} {v : Int32} (h : ¬ (1 : Int32) ≤ v) : cp_sPass Z v = (-2, Z) := by
  unfold cp_sPass
  rw [if_pos (Int32.not_le.mp h)]
theorem cp_sPs_5 {Z : cp_Nt} {v : Int32} (h : (1 : Int32) ≤ v) (h2 : ¬ v ≤ 600 - nI (cp_tm Z)) : cp_sPass Z v = (-5, Z) := by
  unfold cp_sPass
  rw [if_neg (Int32.not_lt.mpr h), if_pos (show nI 600 - nI (cp_tm Z) < v from Int32.not_le.mp h2)]
theorem cp_sPs_k {Z : cp_Nt} {c : Nat} (hc : c < 2 ^ 31) (h : (1 : Int32) ≤ nI c) (h2 : nI c ≤ 600 - nI (cp_tm Z)) : cp_sPass Z (nI c) = (nI (cp_sMins c Z).1, (cp_sMins c Z).2) := by
  unfold cp_sPass
  rw [if_neg (Int32.not_lt.mpr h), if_neg (show ¬ nI 600 - nI (cp_tm Z) < nI c from Int32.not_lt.mpr h2), cp_nIt hc]
set_option maxHeartbeats 4000000 in
set_option maxRecDepth 100000 in
theorem h_X1_passMinutes {lc : Launch} {E : cp_En} {cnt : Nat} {sh : cp_Shp} {R : cp_Rem} {I : cp_Mem} {b : Nat} (N : cp_NL sh R b) {Z : cp_Nt} (hV : cp_NV Z) (hH : cp_HN I b Z) {v1 : Int32} : cp_Fr lc E yX1_passMinutes cX1_passMinutes 4 (some .int) 4 [.ref b, .int v1] cnt sh I R (some (.int ((cp_sPass Z v1).1))) (fun I' => cp_HN I' b (cp_sPass Z v1).2 ∧ cp_out b I I') := by
  obtain ⟨h1, h3, h5, h8, hA, hL⟩ := id hH
  refine cp_Fn_iR [some (.ref b), some (.int v1), none, none] (by decide +kernel) (Nat.le_of_ble_eq_true rfl) rfl rfl (fun x hxl O hr => ?_)
  subst hxl
  refine cp_iload_n O dX1_passMinutes_0 cp_lg1 ?_
  refine cp_iconst O dX1_passMinutes_1 (v := 1) rfl ?_
  refine cp_icmp_ge (tgt := 8) O dX1_passMinutes_2 (by decide) (fun c_2 => ?_) (fun c_2 => ?_)
  · refine cp_iload_n O dX1_passMinutes_8 cp_lg1 ?_
    refine cp_sipush O dX1_passMinutes_9 (v := 600) rfl ?_
    refine cp_aload_n O dX1_passMinutes_12 cp_lg0 ?_
    refine fg_X1_23 O N.s dX1_passMinutes_13 ?_
    rw [h1]
    refine cp_isub O dX1_passMinutes_16 ?_
    refine cp_icmp_le (tgt := 23) O dX1_passMinutes_17 (by decide) (fun c_17 => ?_) (fun c_17 => ?_)
    · obtain ⟨c, rfl, hc1, hc2⟩ := cp_pass_c hV.2.1 c_2 c_17
      have hs0 := cp_sPs_k (Z := Z) (show c < 2 ^ 31 by omega) c_2 c_17
      refine cp_iconst O dX1_passMinutes_23 (v := 0) rfl ?_
      refine cp_istore_n O dX1_passMinutes_24 (by decide) (cp_ls2 rfl) ?_
      refine cp_iconst O dX1_passMinutes_25 (v := 0) rfl ?_
      refine cp_istore_n O dX1_passMinutes_26 (by decide) (cp_ls3 rfl) ?_
      have loop27 : ∀ k, k ≤ c → ∀ I1 : cp_Mem, cp_HN I1 b (cp_sMins k Z).2 → cp_out b I I1 → cp_G x E 4 0 0 cnt sh I1 R 27 [some (.ref b), some (.int (nI c)), some (.int (nI (cp_sMins k Z).1)), some (.int (nI k))] [] := by
        refine cp_up (n := c) (P := fun k => ∀ I1 : cp_Mem, cp_HN I1 b (cp_sMins k Z).2 → cp_out b I I1 → cp_G x E 4 0 0 cnt sh I1 R 27 [some (.ref b), some (.int (nI c)), some (.int (nI (cp_sMins k Z).1)), some (.int (nI k))] []) (fun k hk ih I1 hI1 hx1 => ?_)
        refine cp_iload_n O dX1_passMinutes_27 cp_lg3 ?_
        refine cp_iload_n O dX1_passMinutes_28 cp_lg1 ?_
        refine cp_icmp_geN (tgt := 48) O dX1_passMinutes_29 (by decide) (a := k) (b := c) rfl rfl (by omega) (by omega) (fun c_29 => ?_) (fun c_29 => ?_)
        · refine cp_iload_n O dX1_passMinutes_48 cp_lg2 ?_
          exact hr _ _ _ _ dX1_passMinutes_49 (by rw [hs0, show c = k by omega]) (by rw [hs0, show c = k by omega]; exact ⟨hI1, hx1⟩)
        · refine cp_iload_n O dX1_passMinutes_32 cp_lg2 ?_
          refine cp_aload_n O dX1_passMinutes_33 cp_lg0 ?_
          refine cp_cVir O me_X1_passMinute mi_X1_passMinute ml_X1_100 cp_cX1 N.s (h_X1_passMinute N (cp_NU_V (cp_sMins_V hV k (by omega))) hI1) dX1_passMinutes_34 rfl rfl ⟨Nat.le_of_ble_eq_true rfl, Nat.le_of_ble_eq_true rfl⟩ ⟨Nat.le_refl _, Nat.le_refl _⟩ (Nat.le_of_ble_eq_true rfl) (fun I34 hT34 => ?_)
          obtain ⟨hI2, hx2⟩ := hT34
          refine cp_cSNi O me_X6_oneIf ms_X6_oneIf ml_X1_89 (c_X6_oneIf) dX1_passMinutes_37 rfl rfl ⟨Nat.le_of_ble_eq_true rfl, Nat.le_of_ble_eq_true rfl⟩ ⟨Nat.le_refl _, Nat.le_refl _⟩ (Nat.le_of_ble_eq_true rfl) ?_
          refine cp_iadd O dX1_passMinutes_40 ?_
          rw [cp_made]
          refine cp_istore_n O dX1_passMinutes_41 (by decide) (cp_ls2 rfl) ?_
          refine cp_iinc O dX1_passMinutes_42 cp_lg3 (cp_inc rfl) (by decide) (cp_ls3 rfl) ?_
          refine cp_goto (tgt := 27) O dX1_passMinutes_45 (by decide) ?_
          have ih := ih (by omega) _ hI2 (hx1.tr hx2)
          exact ih
      exact loop27 0 (Nat.zero_le _) I hH cp_out.rf
    · have hs0 := cp_sPs_5 (Z := Z) c_2 c_17
      refine cp_bipush O dX1_passMinutes_20 (v := (-5)) rfl ?_
      exact hr _ _ _ _ dX1_passMinutes_22 (by rw [hs0]) (by rw [hs0]; exact ⟨hH, cp_out.rf⟩)
  · have hs0 := cp_sPs_2 (Z := Z) c_2
    refine cp_bipush O dX1_passMinutes_5 (v := (-2)) rfl ?_
    exact hr _ _ _ _ dX1_passMinutes_7 (by rw [hs0]) (by rw [hs0]; exact ⟨hH, cp_out.rf⟩)
theorem cp_ac_l : Cond.methodLink RX1 47 arraycopyName ∈ cp_TG := cp_TG_in (i := 275) (by decide +kernel) (by decide +kernel)
theorem cp_ac_s : Cond.static arraycopyName ∈ cp_TG := cp_TG_in (i := 276) (by decide +kernel) (by decide +kernel)
theorem cp_ac_n : Cond.native arraycopyName ∈ cp_TG := cp_TG_in (i := 277) (by decide +kernel) (by decide +kernel)
theorem cp_ac_i : Cond.initialized "java/lang/System" ∈ cp_TG := cp_TG_in (i := 32) (by decide +kernel) (by decide +kernel)
/-- four numbers go from one row to another -/
theorem cp_acpy {x : cp_Cx} {E : cp_En} {bc : ByteArray} {nL d mc ms cells slots cnt : Nat} {sh : cp_Shp} {I : cp_Mem} {R : cp_Rem} {pc : Nat} {L : List (Option Value)} {rest : List Value} (O : cp_Ok x E RX1 bc nL d mc ms) (hd1 : 1 ≤ d) {a0 a : Nat} (h0 : sh a0 = (9, 4)) (h1 : sh a = (9, 4)) (hrest : (rest.map fun v => v.category).sum ≤ 8) (hd : decode bc pc = .ok (.invokestatic 47, 3))
    (k : cp_G x E nL cells slots cnt sh (cp_row I a (va_cpy (I a0) (I a) 0 0 4)) R (pc + 3) L rest) : cp_G x E nL cells slots cnt sh I R pc L (.int 4 :: .int 0 :: .ref a :: .int 0 :: .ref a0 :: rest) := by
  intro H locs ls hW hS hl
  have b0 := (hW.1 a0).mp (by rw [h0]; decide)
  have b1 := (hW.1 a).mp (by rw [h1]; decide)
  have e0 := cp_WL_at E cnt sh I R b0
  have e1 := cp_WL_at E cnt sh I R b1
  rw [h0, cp_e_int] at e0
  rw [h1, cp_e_int] at e1
  have hD := cp_WL_D E cnt sh I R
  have hK := O.2.2.2.2.2.1.1
  have hc0 : H[a0]? = some (vp_cell (cp_cs E 9) (4, .inl (I a0))) := hW.2.2 _ _ e0
  have hc1 : H[a]? = some (vp_cell (cp_cs E 9) (4, .inl (I a))) := hW.2.2 _ _ e1
  intro T hT X
  obtain ⟨-, k0, hk0, cm0, hkk0⟩ := (hK.2 0 _ rfl).1 4 (fun j => .int (I a0 j))
  obtain ⟨-, k1, hk1, cm1, hkk1⟩ := (hK.2 0 _ rfl).1 4 (fun j => .int (I a j))
  obtain ⟨vm', X', step⟩ := X.arraycopy O.1 O.2.2.2.1 (O.2.2.2.2.1 _ cp_ac_l) (O.2.2.2.2.1 _ cp_ac_n) (O.2.2.2.2.1 _ cp_ac_s) (O.2.2.2.2.1 _ cp_ac_i) (src := a0) (dst := a) (cs := vp_cell (cp_cs E 9) (4, .inl (I a0))) (cd := vp_cell (cp_cs E 9) (4, .inl (I a))) (srcPos := 0) (destPos := 0) (n := 4) (by rw [hT]; exact hc0) (by rw [hT]; exact hc1)
    (fun _ h => by cases h) (fun _ h => by cases h) (fun h => by cases h) (fun h => by cases h) hk0 hk1 hkk0 hkk1 (show (refKind FieldType.int != refKind FieldType.int || !refKind FieldType.int && FieldType.int != FieldType.int) = false by decide) (by decide) (by decide) (by decide)
    (by show ¬ _ > ((arrV (cp_cs E 9) 4 (fun j => .int (I a0 j))).slots.size : Int); rw [arrV_size]; decide)
    (by show ¬ _ > ((arrV (cp_cs E 9) 4 (fun j => .int (I a j))).slots.size : Int); rw [arrV_size]; decide)
    (fun vm₁ _ i hi => by
      have hi : i < 4 := hi
      have e : (vp_cell (cp_cs E 9) (4, .inl (I a0))).slots.getD ((0 : Int32).toNatClampNeg + i) .null = .int (I a0 ((0 : Int32).toNatClampNeg + i)) := by
        show (arrV (cp_cs E 9) 4 (fun j => .int (I a0 j))).slots.getD _ _ = _
        rw [Array.getD_eq_getD_getElem?, arrV_read _ _ (show (0 : Int32).toNatClampNeg + i < 4 by show 0 + i < 4; omega)]
        rfl
      exact ⟨by rw [e]; rfl, by rw [e]; exact trivial⟩)
    (g := F0 (cp_xm x) pc ls (.int 4 :: .int 0 :: .ref a :: .int 0 :: .ref a0 :: rest)) rfl (by rw [O.2.2.1]; exact hl.1) (rest := rest) rfl (by rw [O.2.1]; exact hd) (Nat.le_trans hd1 O.2.2.2.2.2.2.2.2.1)
    (Nat.le_trans (show _ ≤ 44 by have e : nativeFrameWords "java/lang/System" "arraycopy" 5 + 11 ≤ 36 := by decide
                                  show 2 * 0 + _ + _ ≤ 44
                                  omega) (Nat.le_trans (show 44 ≤ 12 + 32 * d by omega) O.2.2.2.2.2.2.2.2.2.1))
  have ec : copied (vp_cell (cp_cs E 9) (4, .inl (I a0))) (vp_cell (cp_cs E 9) (4, .inl (I a))) 0 0 4 = vp_cell (cp_cs E 9) (4, .inl (va_cpy (I a0) (I a) 0 0 4)) := va_copied (fun z => .int z) (cp_cs E 9) (cp_cs E 9) (I a0) (I a) (show (0 : Int32).toNatClampNeg + (4 : Int32).toNatClampNeg ≤ 4 by decide)
  rw [ec] at X' step
  have hla : a < H.size := (Array.getElem?_eq_some_iff.mp hc1).1
  generalize hcell : vp_cell (cp_cs E 9) (4, .inl (va_cpy (I a0) (I a) 0 0 4)) = cell at X' step
  have hheap : ((T.setVm vm').setCell a cell).heap = H.setIfInBounds a cell := by rw [← hT]; rfl
  have oq : ∀ q : Nat, q ≠ a → (H.setIfInBounds a cell)[q]? = H[q]? := fun q hq => by simp [Array.getElem?_setIfInBounds, Ne.symm hq]
  have hP := hW.2.2.set (H1 := H.setIfInBounds a cell) (e := .inl (cp_cs E 9, 4, .inl (va_cpy (I a0) (I a) 0 0 4))) hD e1 (show (H.setIfInBounds a cell)[a]? = some _ by rw [← hcell]; simp [Array.getElem?_setIfInBounds, hla]) oq
  rw [cp_WL_set (I' := cp_row I a (va_cpy (I a0) (I a) 0 0 4)) (R' := R) b1 (by rw [h1, cp_e_int, cp_row_s]) (fun q hq => ⟨cp_row_n _ _ hq, rfl⟩)] at hP
  obtain ⟨t, a1, c1⟩ := k (H.setIfInBounds a cell) _ ls ⟨hW.1, by simp; exact hW.2.1, hP⟩ ⟨by simp; exact hS.1, fun q g1 g2 => by
      rw [oq q (fun e => g2 (by rw [e]; exact b1.1))]
      exact hS.2.1 q g1 g2, fun q hq => by
      rcases List.mem_append.mp hq with h | h
      · exact hS.2.2 q h
      · obtain ⟨z, -, hz⟩ := List.mem_map.mp h
        rw [← hz]
        exact b1.1⟩ hl _ hheap X'
  exact ⟨t, step t a1, c1⟩

