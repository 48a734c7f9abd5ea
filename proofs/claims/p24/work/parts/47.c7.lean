theorem cp_plq_0 {S : Nat → Int32} {P Q : cp_PP} {n mi np p : Nat} {lq : List Nat} (hV : cp_PV n P lq) (hp : p < n) (h : P p 4 = 0) : nI (cp_cnt (cp_qd P (P p 0)) p) = cp_pl (S, mi, n, P, np, Q, lq) p := by
  obtain ⟨d, hd, e0⟩ := (hV.2.1 p hp).1
  show _ = if P p 4 = 0 then nI ((cp_dq n P (P p 0).toInt.toNat).idxOf p) else _
  rw [if_pos h, e0, cp_nIt (by omega), cp_dq_qd, cp_idx_fil (by unfold cp_qd; rw [decide_eq_true h, decide_eq_true e0]; rfl) hp]
theorem cp_plq_1 {S : Nat → Int32} {P Q : cp_PP} {n mi np p : Nat} {lq : List Nat} (hV : cp_PV n P lq) (hL : cp_LT mi P lq) (hp : p < n) (h : P p 4 = 1) : nI (cp_cnt (fun i => decide (P i 4 = 1) && cp_l1 P i p) n) = cp_pl (S, mi, n, P, np, Q, lq) p := by
  show _ = if P p 4 = 0 then _ else if P p 4 = 1 then nI (lq.idxOf p) else -6
  rw [if_neg (by rw [h]; decide), if_pos h, cp_pal hV hL ((hV.2.2.2 p).mpr ⟨hp, h⟩)]
theorem cp_plq_2 {S : Nat → Int32} {P Q : cp_PP} {n mi np p : Nat} {lq : List Nat} (h0 : P p 4 ≠ 0) (h1 : P p 4 ≠ 1) : (-6 : Int32) = cp_pl (S, mi, n, P, np, Q, lq) p := by
  show _ = if P p 4 = 0 then _ else if P p 4 = 1 then nI (lq.idxOf p) else -6
  rw [if_neg h0, if_neg h1]
set_option maxHeartbeats 4000000 in
set_option maxRecDepth 100000 in
theorem c_X1_placeInQueue {lc : Launch} {E : cp_En} {cnt : Nat} {sh : cp_Shp} {R : cp_Rem} {J : cp_Mem} {b : Nat} {o S : Nat → Int32} {P Q : cp_PP} (N : cp_NL sh R b) {n : Nat} (h3 : o 3 = nI n) (hn : n ≤ 24) {mi np : Nat} {lq : List Nat} (hV : cp_PV n P lq) (hL : cp_LT mi P lq) {p : Nat} (hp : p < n) : cp_Fn lc E yX1_placeInQueue cX1_placeInQueue 2 (some .int) 2 [.ref b, .int (nI p)] cnt sh (cp_nn J b o S P Q) R (some (.int (cp_pl (S, mi, n, P, np, Q, lq) p))) (cp_nn J b o S P Q) := by
  refine cp_Fn_i [some (.ref b), some (.int (nI p))] (by decide +kernel) (Nat.le_of_ble_eq_true rfl) rfl rfl (fun x hxl O hr => ?_)
  subst hxl
  refine cp_aload_n O dX1_placeInQueue_0 cp_lg0 ?_
  refine fg_X1_29 O N.s N.pcs dX1_placeInQueue_1 ?_
  refine cp_iload_n O dX1_placeInQueue_4 cp_lg1 ?_
  refine cp_aaldr O (Or.inr (Or.inl ⟨rfl, rfl⟩)) N.spcs (j := p) rfl (by omega) (by decide) (N.pc (by omega)) dX1_placeInQueue_5 ?_
  refine pg_X1_64 O N (by omega) dX1_placeInQueue_6 ?_
  refine cp_if_ne (tgt := 18) O dX1_placeInQueue_9 (by decide) (fun c_9 => ?_) (fun c_9 => ?_)
  · refine cp_aload_n O dX1_placeInQueue_18 cp_lg0 ?_
    refine fg_X1_29 O N.s N.pcs dX1_placeInQueue_19 ?_
    refine cp_iload_n O dX1_placeInQueue_22 cp_lg1 ?_
    refine cp_aaldr O (Or.inr (Or.inl ⟨rfl, rfl⟩)) N.spcs (j := p) rfl (by omega) (by decide) (N.pc (by omega)) dX1_placeInQueue_23 ?_
    refine pg_X1_64 O N (by omega) dX1_placeInQueue_24 ?_
    refine cp_iconst O dX1_placeInQueue_27 (v := 1) rfl ?_
    refine cp_icmp_ne (tgt := 39) O dX1_placeInQueue_28 (by decide) (fun c_28 => ?_) (fun c_28 => ?_)
    · refine cp_bipush O dX1_placeInQueue_39 (v := (-6)) rfl ?_
      exact hr _ _ _ _ dX1_placeInQueue_41 (cp_plq_2 c_9 c_28) rfl
    · refine cp_aload_n O dX1_placeInQueue_31 cp_lg0 ?_
      refine cp_iload_n O dX1_placeInQueue_32 cp_lg1 ?_
      refine cp_cVi O me_X1_placeAtLawyer mi_X1_placeAtLawyer ml_X1_138 cp_cX1 N.s (c_X1_placeAtLawyer N h3 hn (by omega)) dX1_placeInQueue_33 rfl rfl ⟨Nat.le_of_ble_eq_true rfl, Nat.le_of_ble_eq_true rfl⟩ ⟨Nat.le_refl _, Nat.le_refl _⟩ (Nat.le_of_ble_eq_true rfl) ?_
      refine cp_goto (tgt := 41) O dX1_placeInQueue_36 (by decide) ?_
      exact hr _ _ _ _ dX1_placeInQueue_41 (cp_plq_1 hV hL hp c_28) rfl
  · refine cp_aload_n O dX1_placeInQueue_12 cp_lg0 ?_
    refine cp_iload_n O dX1_placeInQueue_13 cp_lg1 ?_
    refine cp_cVi O me_X1_placeAtDesk mi_X1_placeAtDesk ml_X1_135 cp_cX1 N.s (c_X1_placeAtDesk N (by omega)) dX1_placeInQueue_14 rfl rfl ⟨Nat.le_of_ble_eq_true rfl, Nat.le_of_ble_eq_true rfl⟩ ⟨Nat.le_refl _, Nat.le_refl _⟩ (Nat.le_of_ble_eq_true rfl) ?_
    exact hr _ _ _ _ dX1_placeInQueue_17 (cp_plq_0 hV hp c_9) rfl
set_option maxHeartbeats 4000000 in
set_option maxRecDepth 100000 in
theorem c_X1_reasonOf {lc : Launch} {E : cp_En} {cnt : Nat} {sh : cp_Shp} {R : cp_Rem} {J : cp_Mem} {b : Nat} {o S : Nat → Int32} {P Q : cp_PP} (N : cp_NL sh R b) {n : Nat} (h3 : o 3 = nI n) (hn : n ≤ 24) {p : Nat} (hp : p < n) (hh : P p 5 = 0 ∨ P p 5 = 1) : cp_Fn lc E yX1_reasonOf cX1_reasonOf 3 (some .int) 3 [.ref b, .int (nI p)] cnt sh (cp_nn J b o S P Q) R (some (.int (cp_rsn P (cp_tk P (S 2) (cp_so n P)).1 p))) (cp_nn J b o S P Q) := by
  refine cp_Fn_i [some (.ref b), some (.int (nI p)), none] (by decide +kernel) (Nat.le_of_ble_eq_true rfl) rfl rfl (fun x hxl O hr => ?_)
  subst hxl
  refine cp_aload_n O dX1_reasonOf_0 cp_lg0 ?_
  refine fg_X1_29 O N.s N.pcs dX1_reasonOf_1 ?_
  refine cp_iload_n O dX1_reasonOf_4 cp_lg1 ?_
  refine cp_aaldr O (Or.inr (Or.inl ⟨rfl, rfl⟩)) N.spcs (j := p) rfl (by omega) (by decide) (N.pc (by omega)) dX1_reasonOf_5 ?_
  refine cp_astore_n O dX1_reasonOf_6 (by decide) (cp_ls2 rfl) ?_
  refine cp_aload_n O dX1_reasonOf_7 cp_lg2 ?_
  refine pg_X1_64 O N (by omega) dX1_reasonOf_8 ?_
  refine cp_iconst O dX1_reasonOf_11 (v := 3) rfl ?_
  refine cp_icmp_ne (tgt := 17) O dX1_reasonOf_12 (by decide) (fun c_12 => ?_) (fun c_12 => ?_)
  · refine cp_aload_n O dX1_reasonOf_17 cp_lg2 ?_
    refine pg_X1_85 O N (by omega) dX1_reasonOf_18 ?_
    refine cp_if_eq (tgt := 26) O dX1_reasonOf_21 (by decide) (fun c_21 => ?_) (fun c_21 => ?_)
    · have hz : ¬ P p 5 = 1 := fun z => by rw [z] at c_21; exact absurd c_21 (by decide)
      refine cp_aload_n O dX1_reasonOf_26 cp_lg2 ?_
      refine pg_X1_64 O N (by omega) dX1_reasonOf_27 ?_
      refine cp_if_ne (tgt := 35) O dX1_reasonOf_30 (by decide) (fun c_30 => ?_) (fun c_30 => ?_)
      · refine cp_aload_n O dX1_reasonOf_35 cp_lg2 ?_
        refine pg_X1_64 O N (by omega) dX1_reasonOf_36 ?_
        refine cp_iconst O dX1_reasonOf_39 (v := 1) rfl ?_
        refine cp_icmp_ne (tgt := 45) O dX1_reasonOf_40 (by decide) (fun c_40 => ?_) (fun c_40 => ?_)
        · refine cp_iload_n O dX1_reasonOf_45 cp_lg1 ?_
          refine cp_aload_n O dX1_reasonOf_46 cp_lg0 ?_
          refine cp_cVi O me_X1_takenNow mi_X1_takenNow ml_X1_109 cp_cX1 N.s (c_X1_takenNow N h3 hn) dX1_reasonOf_47 rfl rfl ⟨Nat.le_of_ble_eq_true rfl, Nat.le_of_ble_eq_true rfl⟩ ⟨Nat.le_refl _, Nat.le_refl _⟩ (Nat.le_of_ble_eq_true rfl) ?_
          refine cp_cSNi O me_X6_isInSet ms_X6_isInSet ml_X1_118 (c_X6_isInSet) dX1_reasonOf_50 rfl rfl ⟨Nat.le_of_ble_eq_true rfl, Nat.le_of_ble_eq_true rfl⟩ ⟨Nat.le_refl _, Nat.le_refl _⟩ (Nat.le_of_ble_eq_true rfl) ?_
          refine cp_if_eqB (tgt := 60) O dX1_reasonOf_53 (by decide) (fun c_53 => ?_) (fun c_53 => ?_)
          · refine cp_iconst O dX1_reasonOf_60 (v := 5) rfl ?_
            exact hr _ _ _ _ dX1_reasonOf_61 (by unfold cp_rsn; rw [if_neg c_12, if_neg hz, if_neg c_30, if_neg c_40, if_neg (show ¬ cp_bit (cp_tk P (S 2) (cp_so n P)).1 p = 1 from of_decide_eq_false c_53)]) rfl
          · refine cp_iconst O dX1_reasonOf_56 (v := 0) rfl ?_
            refine cp_goto (tgt := 61) O dX1_reasonOf_57 (by decide) ?_
            exact hr _ _ _ _ dX1_reasonOf_61 (by unfold cp_rsn; rw [if_neg c_12, if_neg hz, if_neg c_30, if_neg c_40, if_pos (show cp_bit (cp_tk P (S 2) (cp_so n P)).1 p = 1 from of_decide_eq_true c_53)]) rfl
        · refine cp_iconst O dX1_reasonOf_43 (v := 4) rfl ?_
          exact hr _ _ _ _ dX1_reasonOf_44 (by unfold cp_rsn; rw [if_neg c_12, if_neg hz, if_neg c_30, if_pos c_40]) rfl
      · refine cp_iconst O dX1_reasonOf_33 (v := 3) rfl ?_
        exact hr _ _ _ _ dX1_reasonOf_34 (by unfold cp_rsn; rw [if_neg c_12, if_neg hz, if_pos c_30]) rfl
    · refine cp_iconst O dX1_reasonOf_24 (v := 2) rfl ?_
      exact hr _ _ _ _ dX1_reasonOf_25 (by unfold cp_rsn; rw [if_neg c_12, if_pos (hh.resolve_left c_21)]) rfl
  · refine cp_iconst O dX1_reasonOf_15 (v := 1) rfl ?_
    exact hr _ _ _ _ dX1_reasonOf_16 (by unfold cp_rsn; rw [if_pos c_12]) rfl
theorem sw_X1_causeOf_5 {x : cp_Cx} {E : cp_En} {nL d mc ms cells slots cnt : Nat} {sh : cp_Shp} {I : cp_Mem} {R : cp_Rem} {L : List (Option Value)} {st : List Value} {v : Int32} (O : cp_Ok x E RX1 cX1_causeOf nL d mc ms) (k0 : v = 3 → cp_G x E nL cells slots cnt sh I R 32 L st) (k1 : v = 4 → cp_G x E nL cells slots cnt sh I R 46 L st) (k2 : v = 5 → cp_G x E nL cells slots cnt sh I R 51 L st) (kd : (v.toInt < 3 ∨ 5 < v.toInt) → cp_G x E nL cells slots cnt sh I R 57 L st) : cp_G x E nL cells slots cnt sh I R 5 L (.int v :: st) := by
  by_cases h1 : v.toInt < 3
  · exact cp_tableOut O dX1_causeOf_5 (Or.inl h1) (by decide) (kd (Or.inl h1))
  by_cases h2 : 5 < v.toInt
  · exact cp_tableOut O dX1_causeOf_5 (Or.inr h2) (by decide) (kd (Or.inr h2))
  have h3 : v.toInt = 3 ∨ v.toInt = 4 ∨ v.toInt = 5 := by omega
  rcases h3 with h | h | h
  · exact cp_tableIn (tgt := 32) O dX1_causeOf_5 h1 h2 (off := 27) (by rw [h]; rfl) (by decide) (k0 (Int32.toInt_inj.mp (by rw [h]; rfl)))
  · exact cp_tableIn (tgt := 46) O dX1_causeOf_5 h1 h2 (off := 41) (by rw [h]; rfl) (by decide) (k1 (Int32.toInt_inj.mp (by rw [h]; rfl)))
  · exact cp_tableIn (tgt := 51) O dX1_causeOf_5 h1 h2 (off := 46) (by rw [h]; rfl) (by decide) (k2 (Int32.toInt_inj.mp (by rw [h]; rfl)))
theorem cp_rsn_3 {P : cp_PP} {tk : Int32} {p : Nat} (h : cp_rsn P tk p = 3) : P p 4 = 0 := by
  unfold cp_rsn at h
  split at h
  · exact absurd h (by decide)
  · split at h
    · exact absurd h (by decide)
    · split at h
      · assumption
      · split at h
        · exact absurd h (by decide)
        · split at h <;> exact absurd h (by decide)
theorem cp_rsn_4 {P : cp_PP} {tk : Int32} {p : Nat} (h : cp_rsn P tk p = 4) : P p 4 = 1 := by
  unfold cp_rsn at h
  split at h
  · exact absurd h (by decide)
  · split at h
    · exact absurd h (by decide)
    · split at h
      · exact absurd h (by decide)
      · split at h
        · assumption
        · split at h <;> exact absurd h (by decide)
theorem cp_rsn5m {n : Nat} {P : cp_PP} {lq : List Nat} {tk : Int32} {p : Nat} (hV : cp_PV n P lq) (hp : p < n) (hh : P p 5 = 0 ∨ P p 5 = 1) (h : cp_rsn P tk p = 5) : p ∈ cp_so n P := by
  unfold cp_rsn at h
  split at h
  · exact absurd h (by decide)
  · split at h
    · exact absurd h (by decide)
    · split at h
      · exact absurd h (by decide)
      · split at h
        · exact absurd h (by decide)
        · rename_i g3 g5 g0 g1
          have h4 := (hV.2.1 p hp).2
          refine cp_so_mem.mpr ⟨hp, ?_⟩
          unfold cp_fr
          rw [decide_eq_true (show P p 4 = 2 by rcases h4 with e | e | e | e <;> first | exact absurd e g0 | exact absurd e g1 | exact e | exact absurd e g3), decide_eq_true (hh.resolve_right g5)]
          rfl
theorem cp_cau_3 {S : Nat → Int32} {P Q : cp_PP} {n mi np p : Nat} {lq : List Nat} (hV : cp_PV n P lq) (hp : p < n) (h : cp_rsn P (cp_tk P (S 2) (cp_so n P)).1 p = 3) : cp_o2i ((List.range n).find? (cp_qd P (P p 0))) = cp_cau (S, mi, n, P, np, Q, lq) p := by
  have h4 := cp_rsn_3 h
  obtain ⟨d, hd, e0⟩ := (hV.2.1 p hp).1
  show _ = if cp_rsn P (cp_tk P (S 2) (cp_so n P)).1 p = 3 ∨ cp_rsn P (cp_tk P (S 2) (cp_so n P)).1 p = 4 then cp_hd (S, mi, n, P, np, Q, lq) p else _
  rw [if_pos (Or.inl h)]
  show _ = if P p 4 = 0 then nI ((cp_dq n P (P p 0).toInt.toNat).getD 0 0) else _
  have hin : p ∈ (List.range n).filter (cp_qd P (nI d)) := List.mem_filter.mpr ⟨List.mem_range.mpr hp, by unfold cp_qd; rw [decide_eq_true h4, decide_eq_true e0]; rfl⟩
  rw [if_pos h4, e0, cp_nIt (by omega), cp_dq_qd, ← List.head?_filter, cp_hd0 (List.ne_nil_of_mem hin)]
theorem cp_cau_4 {S : Nat → Int32} {P Q : cp_PP} {n mi np p : Nat} {lq : List Nat} (hV : cp_PV n P lq) (hL : cp_LT mi P lq) (hp : p < n) (h : cp_rsn P (cp_tk P (S 2) (cp_so n P)).1 p = 4) : cp_o2i (cp_gf (cp_l1 P) (fun i => decide (P i 4 = 1)) n) = cp_cau (S, mi, n, P, np, Q, lq) p := by
  have h4 := cp_rsn_4 h
  show _ = if cp_rsn P (cp_tk P (S 2) (cp_so n P)).1 p = 3 ∨ cp_rsn P (cp_tk P (S 2) (cp_so n P)).1 p = 4 then cp_hd (S, mi, n, P, np, Q, lq) p else _
  rw [if_pos (Or.inr h)]
  show _ = if P p 4 = 0 then _ else nI (lq.getD 0 0)
  rw [if_neg (by rw [h4]; decide), cp_fal hV hL, cp_hd0 (List.ne_nil_of_mem ((hV.2.2.2 p).mpr ⟨hp, h4⟩))]
theorem cp_cau_5 {S : Nat → Int32} {P Q : cp_PP} {n mi np p : Nat} {lq : List Nat} (hn : n ≤ 24) (hV : cp_PV n P lq) (hp : p < n) (hh : P p 5 = 0 ∨ P p 5 = 1) (h : cp_rsn P (cp_tk P (S 2) (cp_so n P)).1 p = 5) : cp_o2i (cp_gf (fun i j => cp_ah P j i) (fun i => decide (cp_bit (cp_tk P (S 2) (cp_so n P)).1 i = 1) && cp_ah P i p) n) = cp_cau (S, mi, n, P, np, Q, lq) p := by
  show _ = if cp_rsn P (cp_tk P (S 2) (cp_so n P)).1 p = 3 ∨ cp_rsn P (cp_tk P (S 2) (cp_so n P)).1 p = 4 then cp_hd (S, mi, n, P, np, Q, lq) p else if cp_rsn P (cp_tk P (S 2) (cp_so n P)).1 p = 5 then cp_lst (cp_tk P (S 2) (cp_so n P)).1 ((cp_so n P).take ((cp_so n P).idxOf p)) else -6
  rw [if_neg (by rw [h]; decide), if_pos h, cp_lta hn (cp_rsn5m hV hp hh h)]
theorem cp_cau_6 {S : Nat → Int32} {P Q : cp_PP} {n mi np p : Nat} {lq : List Nat} (h : (cp_rsn P (cp_tk P (S 2) (cp_so n P)).1 p).toInt < 3 ∨ 5 < (cp_rsn P (cp_tk P (S 2) (cp_so n P)).1 p).toInt) : (-6 : Int32) = cp_cau (S, mi, n, P, np, Q, lq) p := by
  show _ = if cp_rsn P (cp_tk P (S 2) (cp_so n P)).1 p = 3 ∨ cp_rsn P (cp_tk P (S 2) (cp_so n P)).1 p = 4 then cp_hd (S, mi, n, P, np, Q, lq) p else if cp_rsn P (cp_tk P (S 2) (cp_so n P)).1 p = 5 then cp_lst (cp_tk P (S 2) (cp_so n P)).1 ((cp_so n P).take ((cp_so n P).idxOf p)) else -6
  rw [if_neg (fun z => by rcases z with z | z <;> rw [z] at h <;> exact absurd h (by decide)), if_neg (fun z => by rw [z] at h; exact absurd h (by decide))]
set_option maxHeartbeats 4000000 in
set_option maxRecDepth 100000 in
theorem c_X1_causeOf {lc : Launch} {E : cp_En} {cnt : Nat} {sh : cp_Shp} {R : cp_Rem} {J : cp_Mem} {b : Nat} {o S : Nat → Int32} {P Q : cp_PP} (N : cp_NL sh R b) {n : Nat} (h3 : o 3 = nI n) (hn : n ≤ 24) {mi np : Nat} {lq : List Nat} (hV : cp_PV n P lq) (hL : cp_LT mi P lq) {p : Nat} (hp : p < n) (hh : P p 5 = 0 ∨ P p 5 = 1) : cp_Fn lc E yX1_causeOf cX1_causeOf 2 (some .int) 4 [.ref b, .int (nI p)] cnt sh (cp_nn J b o S P Q) R (some (.int (cp_cau (S, mi, n, P, np, Q, lq) p))) (cp_nn J b o S P Q) := by
  refine cp_Fn_i [some (.ref b), some (.int (nI p))] (by decide +kernel) (Nat.le_of_ble_eq_true rfl) rfl rfl (fun x hxl O hr => ?_)
  subst hxl
  refine cp_aload_n O dX1_causeOf_0 cp_lg0 ?_
  refine cp_iload_n O dX1_causeOf_1 cp_lg1 ?_
  refine cp_cVi O me_X1_reasonOf mi_X1_reasonOf ml_X1_162 cp_cX1 N.s (c_X1_reasonOf N h3 hn hp hh) dX1_causeOf_2 rfl rfl ⟨Nat.le_of_ble_eq_true rfl, Nat.le_of_ble_eq_true rfl⟩ ⟨Nat.le_refl _, Nat.le_refl _⟩ (Nat.le_of_ble_eq_true rfl) ?_
  refine sw_X1_causeOf_5 O (fun c_5 => ?_) (fun c_5 => ?_) (fun c_5 => ?_) (fun c_5 => ?_)
  · refine cp_aload_n O dX1_causeOf_32 cp_lg0 ?_
    refine cp_aload_n O dX1_causeOf_33 cp_lg0 ?_
    refine fg_X1_29 O N.s N.pcs dX1_causeOf_34 ?_
    refine cp_iload_n O dX1_causeOf_37 cp_lg1 ?_
    refine cp_aaldr O (Or.inr (Or.inl ⟨rfl, rfl⟩)) N.spcs (j := p) rfl (by omega) (by decide) (N.pc (by omega)) dX1_causeOf_38 ?_
    refine pg_X1_115 O N (by omega) dX1_causeOf_39 ?_
    refine cp_cVi O me_X1_firstAtDesk mi_X1_firstAtDesk ml_X1_168 cp_cX1 N.s (c_X1_firstAtDesk N h3 hn) dX1_causeOf_42 rfl rfl ⟨Nat.le_of_ble_eq_true rfl, Nat.le_of_ble_eq_true rfl⟩ ⟨Nat.le_refl _, Nat.le_refl _⟩ (Nat.le_of_ble_eq_true rfl) ?_
    exact hr _ _ _ _ dX1_causeOf_45 (cp_cau_3 hV hp c_5) rfl
  · refine cp_aload_n O dX1_causeOf_46 cp_lg0 ?_
    refine cp_cVi O me_X1_firstAtLawyer mi_X1_firstAtLawyer ml_X1_126 cp_cX1 N.s (c_X1_firstAtLawyer N h3 hn) dX1_causeOf_47 rfl rfl ⟨Nat.le_of_ble_eq_true rfl, Nat.le_of_ble_eq_true rfl⟩ ⟨Nat.le_refl _, Nat.le_refl _⟩ (Nat.le_of_ble_eq_true rfl) ?_
    exact hr _ _ _ _ dX1_causeOf_50 (cp_cau_4 hV hL hp c_5) rfl
  · refine cp_aload_n O dX1_causeOf_51 cp_lg0 ?_
    refine cp_iload_n O dX1_causeOf_52 cp_lg1 ?_
    refine cp_cVi O me_X1_lastTakenAheadOf mi_X1_lastTakenAheadOf ml_X1_171 cp_cX1 N.s (c_X1_lastTakenAheadOf N h3 hn hp) dX1_causeOf_53 rfl rfl ⟨Nat.le_of_ble_eq_true rfl, Nat.le_of_ble_eq_true rfl⟩ ⟨Nat.le_refl _, Nat.le_refl _⟩ (Nat.le_of_ble_eq_true rfl) ?_
    exact hr _ _ _ _ dX1_causeOf_56 (cp_cau_5 hn hV hp hh c_5) rfl
  · refine cp_bipush O dX1_causeOf_57 (v := (-6)) rfl ?_
    exact hr _ _ _ _ dX1_causeOf_59 (cp_cau_6 c_5) rfl
set_option maxHeartbeats 4000000 in
set_option maxRecDepth 100000 in
theorem c_X1_whyNotOnPlate {lc : Launch} {E : cp_En} {cnt : Nat} {sh : cp_Shp} {R : cp_Rem} {J : cp_Mem} {b : Nat} {o S : Nat → Int32} {P Q : cp_PP} (N : cp_NL sh R b) {n : Nat} (h3 : o 3 = nI n) (hn : n ≤ 24) {mi np : Nat} {lq : List Nat} (hV : cp_PV n P lq) (hL : cp_LT mi P lq) (hh : ∀ i, i < n → P i 5 = 0 ∨ P i 5 = 1) {v1 v2 : Int32} : cp_Fn lc E yX1_whyNotOnPlate cX1_whyNotOnPlate 3 (some .int) 5 [.ref b, .int v1, .int v2] cnt sh (cp_nn J b o S P Q) R (some (.int (cp_sWhy (S, mi, n, P, np, Q, lq) v1 v2))) (cp_nn J b o S P Q) := by
  refine cp_Fn_i [some (.ref b), some (.int v1), some (.int v2)] (by decide +kernel) (Nat.le_of_ble_eq_true rfl) rfl rfl (fun x hxl O hr => ?_)
  subst hxl
  refine cp_aload_n O dX1_whyNotOnPlate_0 cp_lg0 ?_
  refine cp_iload_n O dX1_whyNotOnPlate_1 cp_lg1 ?_
  refine cp_cVi O me_X1_hasPiece mi_X1_hasPiece ml_X1_60 cp_cX1 N.s (c_X1_hasPiece N h3 hn) dX1_whyNotOnPlate_2 rfl rfl ⟨Nat.le_of_ble_eq_true rfl, Nat.le_of_ble_eq_true rfl⟩ ⟨Nat.le_refl _, Nat.le_refl _⟩ (Nat.le_of_ble_eq_true rfl) ?_
  refine cp_if_neB (tgt := 10) O dX1_whyNotOnPlate_5 (by decide) (fun c_5 => ?_) (fun c_5 => ?_)
  · obtain ⟨p, hp, rfl⟩ := (cp_ip_iff (by omega)).mp c_5
    have hpt : (nI p).toInt.toNat = p := cp_nIt (by omega)
    have hw0 : cp_sWhy (S, mi, n, P, np, Q, lq) (nI p) v2 = if v2 = 0 then cp_rsn P (cp_tk P (S 2) (cp_so n P)).1 p else if v2 = 1 then cp_cau (S, mi, n, P, np, Q, lq) p else -2 := by
      show (if cp_ip n (nI p) = true then (if v2 = 0 then cp_rsn P (cp_tk P (S 2) (cp_so n P)).1 (nI p).toInt.toNat else if v2 = 1 then cp_cau (S, mi, n, P, np, Q, lq) (nI p).toInt.toNat else -2) else -1) = _
      rw [if_pos c_5, hpt]
    refine cp_iload_n O dX1_whyNotOnPlate_10 cp_lg2 ?_
    refine cp_if_ne (tgt := 20) O dX1_whyNotOnPlate_11 (by decide) (fun c_11 => ?_) (fun c_11 => ?_)
    · refine cp_iload_n O dX1_whyNotOnPlate_20 cp_lg2 ?_
      refine cp_iconst O dX1_whyNotOnPlate_21 (v := 1) rfl ?_
      refine cp_icmp_ne (tgt := 33) O dX1_whyNotOnPlate_22 (by decide) (fun c_22 => ?_) (fun c_22 => ?_)
      · refine cp_bipush O dX1_whyNotOnPlate_33 (v := (-2)) rfl ?_
        exact hr _ _ _ _ dX1_whyNotOnPlate_35 (by rw [hw0, if_neg c_11, if_neg c_22]) rfl
      · refine cp_aload_n O dX1_whyNotOnPlate_25 cp_lg0 ?_
        refine cp_iload_n O dX1_whyNotOnPlate_26 cp_lg1 ?_
        refine cp_cVi O me_X1_causeOf mi_X1_causeOf ml_X1_165 cp_cX1 N.s (c_X1_causeOf (np := np) N h3 hn hV hL hp (hh p hp)) dX1_whyNotOnPlate_27 rfl rfl ⟨Nat.le_of_ble_eq_true rfl, Nat.le_of_ble_eq_true rfl⟩ ⟨Nat.le_refl _, Nat.le_refl _⟩ (Nat.le_of_ble_eq_true rfl) ?_
        refine cp_goto (tgt := 35) O dX1_whyNotOnPlate_30 (by decide) ?_
        exact hr _ _ _ _ dX1_whyNotOnPlate_35 (by rw [hw0, if_neg c_11, if_pos c_22]) rfl
    · refine cp_aload_n O dX1_whyNotOnPlate_14 cp_lg0 ?_
      refine cp_iload_n O dX1_whyNotOnPlate_15 cp_lg1 ?_
      refine cp_cVi O me_X1_reasonOf mi_X1_reasonOf ml_X1_162 cp_cX1 N.s (c_X1_reasonOf N h3 hn hp (hh p hp)) dX1_whyNotOnPlate_16 rfl rfl ⟨Nat.le_of_ble_eq_true rfl, Nat.le_of_ble_eq_true rfl⟩ ⟨Nat.le_refl _, Nat.le_refl _⟩ (Nat.le_of_ble_eq_true rfl) ?_
      exact hr _ _ _ _ dX1_whyNotOnPlate_19 (by rw [hw0, if_pos c_11]) rfl
  · refine cp_iconst O dX1_whyNotOnPlate_8 (v := (-1)) rfl ?_
    exact hr _ _ _ _ dX1_whyNotOnPlate_9 (by show _ = if cp_ip n v1 = true then _ else (-1 : Int32); rw [if_neg (cp_bF c_5)]) rfl

