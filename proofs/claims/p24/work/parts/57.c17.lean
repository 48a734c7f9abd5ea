/-- the pieces when desks and lawyer have worked -/
def cp_P2 (S : Nat → Int32) (mi : Int32) (s0 n : Nat) (P : cp_PP) (lq : List Nat) : cp_PP := (cp_rd S mi (cp_eP (nI s0) mi P n, (cp_eds S mi n 5 (P, lq)).2)).1
def cp_tn2 (S : Nat → Int32) (n : Nat) (P : cp_PP) : Int32 := (cp_tk P (S 2) (cp_so n P)).1
set_option maxHeartbeats 4000000 in
set_option maxRecDepth 100000 in
theorem c_X1_passMinute_0 {lc : Launch} {E : cp_En} {cnt : Nat} {sh : cp_Shp} {R : cp_Rem} {J : cp_Mem} {b : Nat} {o S : Nat → Int32} {P Q : cp_PP} (N : cp_NL sh R b) {n mi np : Nat} {lq : List Nat} {s0 : Nat} (h1 : o 1 = nI mi) (hm : mi < 100000) (h3 : o 3 = nI n) (h5 : o 5 = nI np) (hq : np ≤ 8) (hV : cp_PV n P lq) (hPN : cp_PN n P) (hL : cp_LT mi P lq) (hs0 : S 0 = nI s0) (hs20 : s0 ≤ 20) (hd : cp_du np Q (nI mi) = none) : cp_Fn lc E yX1_passMinute cX1_passMinute 2 (some .boolean) 3 [.ref b] cnt sh (cp_nn J b o S P Q) R (some (.int (cp_bi false))) (cp_nn J b (upd o 1 (nI (mi + 1))) S (cp_P2 S (nI mi) s0 n P lq) Q) := by
  have hn := hV.1
  obtain ⟨hA1, hL1⟩ := cp_eP_a hV hPN hL hm hs0
  have hV1 := cp_PV_c (cp_PV_eds (S := S) (mi := nI mi) hV 5) hA1
  refine cp_Fn_i [some (.ref b), none] (by decide +kernel) (Nat.le_of_ble_eq_true rfl) rfl (cp_bin _) (fun x hxl O hr => ?_)
  subst hxl
  refine cp_aload_n O dX1_passMinute_0 cp_lg0 ?_
  refine cp_cVv O me_X1_editAtDesks mi_X1_editAtDesks ml_X1_103 cp_cX1 N.s (c_X1_editAtDesks N h3 hn hV hPN hs0 hs20) dX1_passMinute_1 rfl rfl ⟨Nat.le_of_ble_eq_true rfl, Nat.le_of_ble_eq_true rfl⟩ ⟨Nat.le_refl _, Nat.le_refl _⟩ (Nat.le_of_ble_eq_true rfl) ?_
  rw [h1]
  refine cp_aload_n O dX1_passMinute_4 cp_lg0 ?_
  refine cp_cVv O me_X1_readAtLawyer mi_X1_readAtLawyer ml_X1_106 cp_cX1 N.s (c_X1_readAtLawyer (mi := mi + 1) N h3 hn hV1 hL1) dX1_passMinute_5 rfl rfl ⟨Nat.le_of_ble_eq_true rfl, Nat.le_of_ble_eq_true rfl⟩ ⟨Nat.le_refl _, Nat.le_refl _⟩ (Nat.le_of_ble_eq_true rfl) ?_
  rw [h1]
  refine cp_aload_n O dX1_passMinute_8 cp_lg0 ?_
  refine cp_aload_n O dX1_passMinute_9 cp_lg0 ?_
  refine ng_X1_23 O N dX1_passMinute_10 ?_
  refine cp_cVi O me_X1_plateAt mi_X1_plateAt ml_X1_77 cp_cX1 N.s (c_X1_plateAt N h5 hq) dX1_passMinute_13 rfl rfl ⟨Nat.le_of_ble_eq_true rfl, Nat.le_of_ble_eq_true rfl⟩ ⟨Nat.le_refl _, Nat.le_refl _⟩ (Nat.le_of_ble_eq_true rfl) ?_
  rw [h1, hd, show cp_o2i none = -6 from rfl]
  refine cp_istore_n O dX1_passMinute_16 (by decide) (cp_ls1 rfl) ?_
  refine cp_iload_n O dX1_passMinute_17 cp_lg1 ?_
  refine cp_if_lt (tgt := 34) O dX1_passMinute_18 (by decide) (fun c_18 => ?_) (fun c_18 => ?_)
  · refine cp_aload_n O dX1_passMinute_34 cp_lg0 ?_
    refine cp_dup O dX1_passMinute_35 rfl ?_
    refine ng_X1_23 O N dX1_passMinute_36 ?_
    refine cp_iconst O dX1_passMinute_39 (v := 1) rfl ?_
    refine cp_iadd O dX1_passMinute_40 ?_
    refine np_X1_23 O N dX1_passMinute_41 ?_
    refine cp_iload_n O dX1_passMinute_44 cp_lg1 ?_
    refine cp_if_lt (tgt := 52) O dX1_passMinute_45 (by decide) (fun c_45 => ?_) (fun c_45 => ?_)
    · refine cp_iconst O dX1_passMinute_52 (v := 0) rfl ?_
      exact hr _ _ _ _ dX1_passMinute_53 rfl (by rw [h1, nI_1]; rfl)
    · exact absurd (show (-6 : Int32) < 0 by decide) c_45
  · exact absurd (show (-6 : Int32) < 0 by decide) c_18
set_option maxHeartbeats 4000000 in
set_option maxRecDepth 100000 in
theorem c_X1_passMinute_1 {lc : Launch} {E : cp_En} {cnt : Nat} {sh : cp_Shp} {R : cp_Rem} {J : cp_Mem} {b : Nat} {o S : Nat → Int32} {P Q : cp_PP} (N : cp_NL sh R b) {n mi np : Nat} {lq : List Nat} {s0 : Nat} (h1 : o 1 = nI mi) (hm : mi < 100000) (h3 : o 3 = nI n) (h5 : o 5 = nI np) (hq : np ≤ 8) (hV : cp_PV n P lq) (hPN : cp_PN n P) (hL : cp_LT mi P lq) (hs0 : S 0 = nI s0) (hs20 : s0 ≤ 20) {j : Nat} (hd : cp_du np Q (nI mi) = some j) : cp_Fn lc E yX1_passMinute cX1_passMinute 2 (some .boolean) 3 [.ref b] cnt sh (cp_nn J b o S P Q) R (some (.int (cp_bi true))) (cp_nn J b (upd o 1 (nI (mi + 1))) S (cp_P2 S (nI mi) s0 n P lq) (cp_wi Q j 2 (cp_tn2 S n (cp_P2 S (nI mi) s0 n P lq)))) := by
  have hn := hV.1
  obtain ⟨hA1, hL1⟩ := cp_eP_a hV hPN hL hm hs0
  have hV1 := cp_PV_c (cp_PV_eds (S := S) (mi := nI mi) hV 5) hA1
  obtain ⟨hjn, -, -⟩ := cp_du_some hd
  refine cp_Fn_i [some (.ref b), none] (by decide +kernel) (Nat.le_of_ble_eq_true rfl) rfl (cp_bin _) (fun x hxl O hr => ?_)
  subst hxl
  refine cp_aload_n O dX1_passMinute_0 cp_lg0 ?_
  refine cp_cVv O me_X1_editAtDesks mi_X1_editAtDesks ml_X1_103 cp_cX1 N.s (c_X1_editAtDesks N h3 hn hV hPN hs0 hs20) dX1_passMinute_1 rfl rfl ⟨Nat.le_of_ble_eq_true rfl, Nat.le_of_ble_eq_true rfl⟩ ⟨Nat.le_refl _, Nat.le_refl _⟩ (Nat.le_of_ble_eq_true rfl) ?_
  rw [h1]
  refine cp_aload_n O dX1_passMinute_4 cp_lg0 ?_
  refine cp_cVv O me_X1_readAtLawyer mi_X1_readAtLawyer ml_X1_106 cp_cX1 N.s (c_X1_readAtLawyer (mi := mi + 1) N h3 hn hV1 hL1) dX1_passMinute_5 rfl rfl ⟨Nat.le_of_ble_eq_true rfl, Nat.le_of_ble_eq_true rfl⟩ ⟨Nat.le_refl _, Nat.le_refl _⟩ (Nat.le_of_ble_eq_true rfl) ?_
  rw [h1]
  refine cp_aload_n O dX1_passMinute_8 cp_lg0 ?_
  refine cp_aload_n O dX1_passMinute_9 cp_lg0 ?_
  refine ng_X1_23 O N dX1_passMinute_10 ?_
  refine cp_cVi O me_X1_plateAt mi_X1_plateAt ml_X1_77 cp_cX1 N.s (c_X1_plateAt N h5 hq) dX1_passMinute_13 rfl rfl ⟨Nat.le_of_ble_eq_true rfl, Nat.le_of_ble_eq_true rfl⟩ ⟨Nat.le_refl _, Nat.le_refl _⟩ (Nat.le_of_ble_eq_true rfl) ?_
  rw [h1, hd, show cp_o2i (some j) = nI j from rfl]
  refine cp_istore_n O dX1_passMinute_16 (by decide) (cp_ls1 rfl) ?_
  refine cp_iload_n O dX1_passMinute_17 cp_lg1 ?_
  refine cp_if_lt (tgt := 34) O dX1_passMinute_18 (by decide) (fun c_18 => ?_) (fun c_18 => ?_)
  · exact absurd c_18 (cp_nn0 (by omega))
  · refine cp_aload_n O dX1_passMinute_21 cp_lg0 ?_
    refine fg_X1_39 O N.s N.pls dX1_passMinute_22 ?_
    refine cp_iload_n O dX1_passMinute_25 cp_lg1 ?_
    refine cp_aaldr O (Or.inr (Or.inr ⟨rfl, rfl⟩)) N.spls (j := j) rfl (by omega) (by decide) (N.pl (by omega)) dX1_passMinute_26 ?_
    refine cp_aload_n O dX1_passMinute_27 cp_lg0 ?_
    refine cp_cVi O me_X1_takenNow mi_X1_takenNow ml_X1_109 cp_cX1 N.s (c_X1_takenNow N h3 hn) dX1_passMinute_28 rfl rfl ⟨Nat.le_of_ble_eq_true rfl, Nat.le_of_ble_eq_true rfl⟩ ⟨Nat.le_refl _, Nat.le_refl _⟩ (Nat.le_of_ble_eq_true rfl) ?_
    refine qp_X1_113 O N (by omega) dX1_passMinute_31 ?_
    refine cp_aload_n O dX1_passMinute_34 cp_lg0 ?_
    refine cp_dup O dX1_passMinute_35 rfl ?_
    refine ng_X1_23 O N dX1_passMinute_36 ?_
    refine cp_iconst O dX1_passMinute_39 (v := 1) rfl ?_
    refine cp_iadd O dX1_passMinute_40 ?_
    refine np_X1_23 O N dX1_passMinute_41 ?_
    refine cp_iload_n O dX1_passMinute_44 cp_lg1 ?_
    refine cp_if_lt (tgt := 52) O dX1_passMinute_45 (by decide) (fun c_45 => ?_) (fun c_45 => ?_)
    · exact absurd c_45 (cp_nn0 (by omega))
    · refine cp_iconst O dX1_passMinute_48 (v := 1) rfl ?_
      refine cp_goto (tgt := 53) O dX1_passMinute_49 (by decide) ?_
      exact hr _ _ _ _ dX1_passMinute_53 rfl (by rw [h1, nI_1]; rfl)
theorem cp_mk_o {o : Nat → Int32} {Q : cp_PP} {mi np : Nat} (h1 : o 1 = nI mi) (hm : mi < 100000) : cp_cnt (fun j => decide (Q j 0 < o 1)) np = (cp_cnt (fun j => decide ((Q j 0).toInt < (mi : Int))) np) := by
  apply cp_cnt_eq
  intro j _
  rw [h1]
  apply decide_eq_decide.mpr
  rw [Int32.lt_iff_toInt_lt, nI_toInt (by omega)]
theorem cp_any_t {q : Nat → Bool} : ∀ {n j : Nat}, j < n → q j = true → cp_any q n = true
  | 0, _, h, _ => absurd h (Nat.not_lt_zero _)
  | n + 1, j, h, hq => by
    show (cp_any q n || q n) = true
    by_cases e : j = n
    · rw [← e, hq, Bool.or_true]
    · rw [cp_any_t (n := n) (by omega) hq, Bool.true_or]
theorem cp_any_e {q : Nat → Bool} : ∀ {n : Nat}, cp_any q n = true → ∃ j, j < n ∧ q j = true
  | 0, h => absurd (show false = true from h) (by decide)
  | n + 1, h => by
    have h : (cp_any q n || q n) = true := h
    rcases Bool.or_eq_true_iff.mp h with g | g
    · obtain ⟨j, h1, h2⟩ := cp_any_e g
      exact ⟨j, by omega, h2⟩
    · exact ⟨n, by omega, g⟩
theorem cp_mk_if {Q : cp_PP} {mi np : Nat} (h : cp_QV mi np Q) {j : Nat} (hj : j < np) : (Q j 0).toInt < (mi : Int) ↔ j < (cp_cnt (fun j => decide ((Q j 0).toInt < (mi : Int))) np) := by
  have g := cp_cnt_dc (q := fun j => decide ((Q j 0).toInt < (mi : Int))) (n := np) (fun i k hik hk hq => decide_eq_true (by
    have a := h.1 i k hik hk
    have c := of_decide_eq_true hq
    omega)) j hj
  rw [← g]
  exact decide_eq_true_iff.symm
theorem cp_ds_if {Q : cp_PP} {mi np e : Nat} (h : cp_QV mi np Q) : cp_any (fun j => cp_rg mi ((mi + e : Nat) : Int) (Q j 0)) np = true ↔ (cp_cnt (fun j => decide ((Q j 0).toInt < (mi : Int))) np) < np ∧ (Q (cp_cnt (fun j => decide ((Q j 0).toInt < (mi : Int))) np) 0).toInt ≤ ((mi + e : Nat) : Int) := by
  constructor
  · intro g
    obtain ⟨j, hj, hr⟩ := cp_any_e g
    have hr := of_decide_eq_true hr
    have h1 : ¬ j < (cp_cnt (fun j => decide ((Q j 0).toInt < (mi : Int))) np) := fun z => by have := (cp_mk_if h hj).mpr z; omega
    refine ⟨by omega, ?_⟩
    by_cases z : (cp_cnt (fun j => decide ((Q j 0).toInt < (mi : Int))) np) = j
    · rw [z]; exact hr.2
    · have := h.1 (cp_cnt (fun j => decide ((Q j 0).toInt < (mi : Int))) np) j (by omega) hj
      omega
  · rintro ⟨h1, h2⟩
    refine cp_any_t h1 (decide_eq_true ⟨?_, h2⟩)
    have h3 : ¬ (Q (cp_cnt (fun j => decide ((Q j 0).toInt < (mi : Int))) np) 0).toInt < (mi : Int) := fun z => Nat.lt_irrefl _ ((cp_mk_if h h1).mp z)
    omega
set_option maxHeartbeats 4000000 in
set_option maxRecDepth 100000 in
theorem c_X1_tellReplate_00 {lc : Launch} {E : cp_En} {cnt : Nat} {sh : cp_Shp} {R : cp_Rem} {J : cp_Mem} {b : Nat} {o S : Nat → Int32} {P Q : cp_PP} (N : cp_NL sh R b) {mi np e : Nat} (h1 : o 1 = nI mi) (hm : mi < 100000) (h5 : o 5 = nI np) (hq : np ≤ 8) (hQV : cp_QV mi np Q) (hS3 : S 3 = nI e) (he : e ≤ 60) (hno : ¬ (¬ ((cp_cnt (fun j => decide ((Q j 0).toInt < (mi : Int))) np) < np ∧ (Q (cp_cnt (fun j => decide ((Q j 0).toInt < (mi : Int))) np) 0).toInt ≤ ((mi + e : Nat) : Int)) ∧ np ≠ 8 ∧ mi + e ≤ 599)) (hlt : ¬ (cp_cnt (fun j => decide ((Q j 0).toInt < (mi : Int))) np) < np) : cp_Fr lc E yX1_tellReplate cX1_tellReplate 3 (some .boolean) 3 [.ref b] cnt sh (cp_nn J b o S P Q) R (some (.int (cp_bi false))) (fun I' => I' = cp_nn J b o S P Q) := by
  have hmk := cp_mk_o (np := np) (Q := Q) h1 hm
  have hcl : (cp_cnt (fun j => decide ((Q j 0).toInt < (mi : Int))) np) ≤ np := cp_cnt_le _ np
  refine cp_Fn_iR [some (.ref b), none, none] (by decide +kernel) (Nat.le_of_ble_eq_true rfl) rfl (cp_bin _) (fun x hxl O hr => ?_)
  subst hxl
  refine cp_aload_n O dX1_tellReplate_0 cp_lg0 ?_
  refine ng_X1_23 O N dX1_tellReplate_1 ?_
  refine cp_aload_n O dX1_tellReplate_4 cp_lg0 ?_
  refine fg_X1_18 O N.s N.set dX1_tellReplate_5 ?_
  refine cp_iconst O dX1_tellReplate_8 (v := 3) rfl ?_
  refine cp_ialdS O N (j := 3) rfl (by omega) dX1_tellReplate_9 ?_
  refine cp_iadd O dX1_tellReplate_10 ?_
  rw [h1, hS3, nI_add]
  refine cp_istore_n O dX1_tellReplate_11 (by decide) (cp_ls1 rfl) ?_
  refine cp_aload_n O dX1_tellReplate_12 cp_lg0 ?_
  refine cp_cVi O me_X1_nextDue mi_X1_nextDue ml_X1_181 cp_cX1 N.s (c_X1_nextDue N h5 hq) dX1_tellReplate_13 rfl rfl ⟨Nat.le_of_ble_eq_true rfl, Nat.le_of_ble_eq_true rfl⟩ ⟨Nat.le_refl _, Nat.le_refl _⟩ (Nat.le_of_ble_eq_true rfl) ?_
  rw [hmk, if_neg hlt]
  refine cp_istore_n O dX1_tellReplate_16 (by decide) (cp_ls2 rfl) ?_
  refine cp_iload_n O dX1_tellReplate_17 cp_lg2 ?_
  refine cp_if_lt (tgt := 36) O dX1_tellReplate_18 (by decide) (fun c_18 => ?_) (fun c_18 => ?_)
  · refine cp_aload_n O dX1_tellReplate_36 cp_lg0 ?_
    refine ng_X1_44 O N dX1_tellReplate_37 ?_
    refine cp_bipush O dX1_tellReplate_40 (v := 8) rfl ?_
    refine cp_icmp_geN (tgt := 52) O dX1_tellReplate_42 (by decide) (a := np) (b := 8) h5 rfl (by omega) (by omega) (fun c_42 => ?_) (fun c_42 => ?_)
    · refine cp_iconst O dX1_tellReplate_52 (v := 0) rfl ?_
      exact hr _ _ _ _ dX1_tellReplate_53 rfl rfl
    · refine cp_iload_n O dX1_tellReplate_45 cp_lg1 ?_
      refine cp_sipush O dX1_tellReplate_46 (v := 600) rfl ?_
      refine cp_icmp_ltN (tgt := 54) O dX1_tellReplate_49 (by decide) (a := (mi + e)) (b := 600) rfl rfl (by omega) (by omega) (fun c_49 => ?_) (fun c_49 => ?_)
      · exact absurd ⟨(fun z => hlt z.1), by omega, by omega⟩ hno
      · refine cp_iconst O dX1_tellReplate_52 (v := 0) rfl ?_
        exact hr _ _ _ _ dX1_tellReplate_53 rfl rfl
  · exact absurd (show (-6 : Int32) < 0 by decide) c_18
set_option maxHeartbeats 4000000 in
set_option maxRecDepth 100000 in
theorem c_X1_tellReplate_01 {lc : Launch} {E : cp_En} {cnt : Nat} {sh : cp_Shp} {R : cp_Rem} {J : cp_Mem} {b : Nat} {o S : Nat → Int32} {P Q : cp_PP} (N : cp_NL sh R b) {mi np e : Nat} (h1 : o 1 = nI mi) (hm : mi < 100000) (h5 : o 5 = nI np) (hq : np ≤ 8) (hQV : cp_QV mi np Q) (hS3 : S 3 = nI e) (he : e ≤ 60) (hno : ¬ (¬ ((cp_cnt (fun j => decide ((Q j 0).toInt < (mi : Int))) np) < np ∧ (Q (cp_cnt (fun j => decide ((Q j 0).toInt < (mi : Int))) np) 0).toInt ≤ ((mi + e : Nat) : Int)) ∧ np ≠ 8 ∧ mi + e ≤ 599)) (hlt : (cp_cnt (fun j => decide ((Q j 0).toInt < (mi : Int))) np) < np) : cp_Fr lc E yX1_tellReplate cX1_tellReplate 3 (some .boolean) 3 [.ref b] cnt sh (cp_nn J b o S P Q) R (some (.int (cp_bi false))) (fun I' => I' = cp_nn J b o S P Q) := by
  have hmk := cp_mk_o (np := np) (Q := Q) h1 hm
  have hcl : (cp_cnt (fun j => decide ((Q j 0).toInt < (mi : Int))) np) ≤ np := cp_cnt_le _ np
  refine cp_Fn_iR [some (.ref b), none, none] (by decide +kernel) (Nat.le_of_ble_eq_true rfl) rfl (cp_bin _) (fun x hxl O hr => ?_)
  subst hxl
  refine cp_aload_n O dX1_tellReplate_0 cp_lg0 ?_
  refine ng_X1_23 O N dX1_tellReplate_1 ?_
  refine cp_aload_n O dX1_tellReplate_4 cp_lg0 ?_
  refine fg_X1_18 O N.s N.set dX1_tellReplate_5 ?_
  refine cp_iconst O dX1_tellReplate_8 (v := 3) rfl ?_
  refine cp_ialdS O N (j := 3) rfl (by omega) dX1_tellReplate_9 ?_
  refine cp_iadd O dX1_tellReplate_10 ?_
  rw [h1, hS3, nI_add]
  refine cp_istore_n O dX1_tellReplate_11 (by decide) (cp_ls1 rfl) ?_
  refine cp_aload_n O dX1_tellReplate_12 cp_lg0 ?_
  refine cp_cVi O me_X1_nextDue mi_X1_nextDue ml_X1_181 cp_cX1 N.s (c_X1_nextDue N h5 hq) dX1_tellReplate_13 rfl rfl ⟨Nat.le_of_ble_eq_true rfl, Nat.le_of_ble_eq_true rfl⟩ ⟨Nat.le_refl _, Nat.le_refl _⟩ (Nat.le_of_ble_eq_true rfl) ?_
  rw [hmk, if_pos hlt]
  refine cp_istore_n O dX1_tellReplate_16 (by decide) (cp_ls2 rfl) ?_
  refine cp_iload_n O dX1_tellReplate_17 cp_lg2 ?_
  refine cp_if_lt (tgt := 36) O dX1_tellReplate_18 (by decide) (fun c_18 => ?_) (fun c_18 => ?_)
  · exact absurd c_18 (cp_nn0 (by omega))
  · refine cp_aload_n O dX1_tellReplate_21 cp_lg0 ?_
    refine fg_X1_39 O N.s N.pls dX1_tellReplate_22 ?_
    refine cp_iload_n O dX1_tellReplate_25 cp_lg2 ?_
    refine cp_aaldr O (Or.inr (Or.inr ⟨rfl, rfl⟩)) N.spls (j := (cp_cnt (fun j => decide ((Q j 0).toInt < (mi : Int))) np)) rfl (by omega) (by decide) (N.pl (by omega)) dX1_tellReplate_26 ?_
    refine qg_X1_174 O N (by omega) dX1_tellReplate_27 ?_
    refine cp_iload_n O dX1_tellReplate_30 cp_lg1 ?_
    refine cp_icmp_gt (tgt := 36) O dX1_tellReplate_31 (by decide) (fun c_31 => ?_) (fun c_31 => ?_)
    · refine cp_aload_n O dX1_tellReplate_36 cp_lg0 ?_
      refine ng_X1_44 O N dX1_tellReplate_37 ?_
      refine cp_bipush O dX1_tellReplate_40 (v := 8) rfl ?_
      refine cp_icmp_geN (tgt := 52) O dX1_tellReplate_42 (by decide) (a := np) (b := 8) h5 rfl (by omega) (by omega) (fun c_42 => ?_) (fun c_42 => ?_)
      · refine cp_iconst O dX1_tellReplate_52 (v := 0) rfl ?_
        exact hr _ _ _ _ dX1_tellReplate_53 rfl rfl
      · refine cp_iload_n O dX1_tellReplate_45 cp_lg1 ?_
        refine cp_sipush O dX1_tellReplate_46 (v := 600) rfl ?_
        refine cp_icmp_ltN (tgt := 54) O dX1_tellReplate_49 (by decide) (a := (mi + e)) (b := 600) rfl rfl (by omega) (by omega) (fun c_49 => ?_) (fun c_49 => ?_)
        · exact absurd ⟨(fun z => absurd z.2 (by rw [Int32.lt_iff_toInt_lt, nI_toInt (by omega)] at c_31; omega)), by omega, by omega⟩ hno
        · refine cp_iconst O dX1_tellReplate_52 (v := 0) rfl ?_
          exact hr _ _ _ _ dX1_tellReplate_53 rfl rfl
    · refine cp_iconst O dX1_tellReplate_34 (v := 0) rfl ?_
      exact hr _ _ _ _ dX1_tellReplate_35 rfl rfl
set_option maxHeartbeats 4000000 in
set_option maxRecDepth 100000 in
theorem c_X1_tellReplate_10 {lc : Launch} {E : cp_En} {cnt : Nat} {sh : cp_Shp} {R : cp_Rem} {J : cp_Mem} {b : Nat} {o S : Nat → Int32} {P Q : cp_PP} (N : cp_NL sh R b) {mi np e : Nat} (h1 : o 1 = nI mi) (hm : mi < 100000) (h5 : o 5 = nI np) (hq : np ≤ 8) (hQV : cp_QV mi np Q) (hS3 : S 3 = nI e) (he : e ≤ 60) (hnd : ¬ ((cp_cnt (fun j => decide ((Q j 0).toInt < (mi : Int))) np) < np ∧ (Q (cp_cnt (fun j => decide ((Q j 0).toInt < (mi : Int))) np) 0).toInt ≤ ((mi + e : Nat) : Int))) (hn8 : np ≠ 8) (h599 : mi + e ≤ 599) (hlt : ¬ (cp_cnt (fun j => decide ((Q j 0).toInt < (mi : Int))) np) < np) : cp_Fr lc E yX1_tellReplate cX1_tellReplate 3 (some .boolean) 3 [.ref b] cnt sh (cp_nn J b o S P Q) R (some (.int (cp_bi true))) (fun I' => ∃ Q' : cp_PP, I' = cp_nn J b (upd o 5 (nI (np + 1))) S P Q' ∧ ∀ j, j < np + 1 → ∀ f, f < 3 → Q' j f = cp_iq Q (cp_at Q (nI (mi + e)) np) (nI (mi + e)) 1 j f) := by
  have hmk := cp_mk_o (np := np) (Q := Q) h1 hm
  have hcl : (cp_cnt (fun j => decide ((Q j 0).toInt < (mi : Int))) np) ≤ np := cp_cnt_le _ np
  refine cp_Fn_iR [some (.ref b), none, none] (by decide +kernel) (Nat.le_of_ble_eq_true rfl) rfl (cp_bin _) (fun x hxl O hr => ?_)
  subst hxl
  refine cp_aload_n O dX1_tellReplate_0 cp_lg0 ?_
  refine ng_X1_23 O N dX1_tellReplate_1 ?_
  refine cp_aload_n O dX1_tellReplate_4 cp_lg0 ?_
  refine fg_X1_18 O N.s N.set dX1_tellReplate_5 ?_
  refine cp_iconst O dX1_tellReplate_8 (v := 3) rfl ?_
  refine cp_ialdS O N (j := 3) rfl (by omega) dX1_tellReplate_9 ?_
  refine cp_iadd O dX1_tellReplate_10 ?_
  rw [h1, hS3, nI_add]
  refine cp_istore_n O dX1_tellReplate_11 (by decide) (cp_ls1 rfl) ?_
  refine cp_aload_n O dX1_tellReplate_12 cp_lg0 ?_
  refine cp_cVi O me_X1_nextDue mi_X1_nextDue ml_X1_181 cp_cX1 N.s (c_X1_nextDue N h5 hq) dX1_tellReplate_13 rfl rfl ⟨Nat.le_of_ble_eq_true rfl, Nat.le_of_ble_eq_true rfl⟩ ⟨Nat.le_refl _, Nat.le_refl _⟩ (Nat.le_of_ble_eq_true rfl) ?_
  rw [hmk, if_neg hlt]
  refine cp_istore_n O dX1_tellReplate_16 (by decide) (cp_ls2 rfl) ?_
  refine cp_iload_n O dX1_tellReplate_17 cp_lg2 ?_
  refine cp_if_lt (tgt := 36) O dX1_tellReplate_18 (by decide) (fun c_18 => ?_) (fun c_18 => ?_)
  · refine cp_aload_n O dX1_tellReplate_36 cp_lg0 ?_
    refine ng_X1_44 O N dX1_tellReplate_37 ?_
    refine cp_bipush O dX1_tellReplate_40 (v := 8) rfl ?_
    refine cp_icmp_geN (tgt := 52) O dX1_tellReplate_42 (by decide) (a := np) (b := 8) h5 rfl (by omega) (by omega) (fun c_42 => ?_) (fun c_42 => ?_)
    · exact absurd (by omega) hn8
    · refine cp_iload_n O dX1_tellReplate_45 cp_lg1 ?_
      refine cp_sipush O dX1_tellReplate_46 (v := 600) rfl ?_
      refine cp_icmp_ltN (tgt := 54) O dX1_tellReplate_49 (by decide) (a := (mi + e)) (b := 600) rfl rfl (by omega) (by omega) (fun c_49 => ?_) (fun c_49 => ?_)
      · refine cp_aload_n O dX1_tellReplate_54 cp_lg0 ?_
        refine cp_iload_n O dX1_tellReplate_55 cp_lg1 ?_
        refine cp_iconst O dX1_tellReplate_56 (v := 1) rfl ?_
        refine cp_cVir O me_X1_insertPlate mi_X1_insertPlate ml_X1_81 cp_cX1 N.s (c_X1_insertPlate (bb := true) N h5 (by omega) (fun j hj => (hQV.2 j hj).1)) dX1_tellReplate_57 rfl rfl ⟨Nat.le_of_ble_eq_true rfl, Nat.le_of_ble_eq_true rfl⟩ ⟨Nat.le_refl _, Nat.le_refl _⟩ (Nat.le_of_ble_eq_true rfl) (fun I57 hT57 => ?_)
        obtain ⟨Q', rfl, hQ'⟩ := hT57
        refine cp_pop O dX1_tellReplate_60 rfl ?_
        refine cp_iconst O dX1_tellReplate_61 (v := 1) rfl ?_
        exact hr _ _ _ _ dX1_tellReplate_62 rfl ⟨Q', rfl, hQ'⟩
      · exact absurd h599 (by omega)
  · exact absurd (show (-6 : Int32) < 0 by decide) c_18
set_option maxHeartbeats 4000000 in
set_option maxRecDepth 100000 in
theorem c_X1_tellReplate_11 {lc : Launch} {E : cp_En} {cnt : Nat} {sh : cp_Shp} {R : cp_Rem} {J : cp_Mem} {b : Nat} {o S : Nat → Int32} {P Q : cp_PP} (N : cp_NL sh R b) {mi np e : Nat} (h1 : o 1 = nI mi) (hm : mi < 100000) (h5 : o 5 = nI np) (hq : np ≤ 8) (hQV : cp_QV mi np Q) (hS3 : S 3 = nI e) (he : e ≤ 60) (hnd : ¬ ((cp_cnt (fun j => decide ((Q j 0).toInt < (mi : Int))) np) < np ∧ (Q (cp_cnt (fun j => decide ((Q j 0).toInt < (mi : Int))) np) 0).toInt ≤ ((mi + e : Nat) : Int))) (hn8 : np ≠ 8) (h599 : mi + e ≤ 599) (hlt : (cp_cnt (fun j => decide ((Q j 0).toInt < (mi : Int))) np) < np) : cp_Fr lc E yX1_tellReplate cX1_tellReplate 3 (some .boolean) 3 [.ref b] cnt sh (cp_nn J b o S P Q) R (some (.int (cp_bi true))) (fun I' => ∃ Q' : cp_PP, I' = cp_nn J b (upd o 5 (nI (np + 1))) S P Q' ∧ ∀ j, j < np + 1 → ∀ f, f < 3 → Q' j f = cp_iq Q (cp_at Q (nI (mi + e)) np) (nI (mi + e)) 1 j f) := by
  have hmk := cp_mk_o (np := np) (Q := Q) h1 hm
  have hcl : (cp_cnt (fun j => decide ((Q j 0).toInt < (mi : Int))) np) ≤ np := cp_cnt_le _ np
  refine cp_Fn_iR [some (.ref b), none, none] (by decide +kernel) (Nat.le_of_ble_eq_true rfl) rfl (cp_bin _) (fun x hxl O hr => ?_)
  subst hxl
  refine cp_aload_n O dX1_tellReplate_0 cp_lg0 ?_
  refine ng_X1_23 O N dX1_tellReplate_1 ?_
  refine cp_aload_n O dX1_tellReplate_4 cp_lg0 ?_
  refine fg_X1_18 O N.s N.set dX1_tellReplate_5 ?_
  refine cp_iconst O dX1_tellReplate_8 (v := 3) rfl ?_
  refine cp_ialdS O N (j := 3) rfl (by omega) dX1_tellReplate_9 ?_
  refine cp_iadd O dX1_tellReplate_10 ?_
  rw [h1, hS3, nI_add]
  refine cp_istore_n O dX1_tellReplate_11 (by decide) (cp_ls1 rfl) ?_
  refine cp_aload_n O dX1_tellReplate_12 cp_lg0 ?_
  refine cp_cVi O me_X1_nextDue mi_X1_nextDue ml_X1_181 cp_cX1 N.s (c_X1_nextDue N h5 hq) dX1_tellReplate_13 rfl rfl ⟨Nat.le_of_ble_eq_true rfl, Nat.le_of_ble_eq_true rfl⟩ ⟨Nat.le_refl _, Nat.le_refl _⟩ (Nat.le_of_ble_eq_true rfl) ?_
  rw [hmk, if_pos hlt]
  refine cp_istore_n O dX1_tellReplate_16 (by decide) (cp_ls2 rfl) ?_
  refine cp_iload_n O dX1_tellReplate_17 cp_lg2 ?_
  refine cp_if_lt (tgt := 36) O dX1_tellReplate_18 (by decide) (fun c_18 => ?_) (fun c_18 => ?_)
  · exact absurd c_18 (cp_nn0 (by omega))
  · refine cp_aload_n O dX1_tellReplate_21 cp_lg0 ?_
    refine fg_X1_39 O N.s N.pls dX1_tellReplate_22 ?_
    refine cp_iload_n O dX1_tellReplate_25 cp_lg2 ?_
    refine cp_aaldr O (Or.inr (Or.inr ⟨rfl, rfl⟩)) N.spls (j := (cp_cnt (fun j => decide ((Q j 0).toInt < (mi : Int))) np)) rfl (by omega) (by decide) (N.pl (by omega)) dX1_tellReplate_26 ?_
    refine qg_X1_174 O N (by omega) dX1_tellReplate_27 ?_
    refine cp_iload_n O dX1_tellReplate_30 cp_lg1 ?_
    refine cp_icmp_gt (tgt := 36) O dX1_tellReplate_31 (by decide) (fun c_31 => ?_) (fun c_31 => ?_)
    · refine cp_aload_n O dX1_tellReplate_36 cp_lg0 ?_
      refine ng_X1_44 O N dX1_tellReplate_37 ?_
      refine cp_bipush O dX1_tellReplate_40 (v := 8) rfl ?_
      refine cp_icmp_geN (tgt := 52) O dX1_tellReplate_42 (by decide) (a := np) (b := 8) h5 rfl (by omega) (by omega) (fun c_42 => ?_) (fun c_42 => ?_)
      · exact absurd (by omega) hn8
      · refine cp_iload_n O dX1_tellReplate_45 cp_lg1 ?_
        refine cp_sipush O dX1_tellReplate_46 (v := 600) rfl ?_
        refine cp_icmp_ltN (tgt := 54) O dX1_tellReplate_49 (by decide) (a := (mi + e)) (b := 600) rfl rfl (by omega) (by omega) (fun c_49 => ?_) (fun c_49 => ?_)
        · refine cp_aload_n O dX1_tellReplate_54 cp_lg0 ?_
          refine cp_iload_n O dX1_tellReplate_55 cp_lg1 ?_
          refine cp_iconst O dX1_tellReplate_56 (v := 1) rfl ?_
          refine cp_cVir O me_X1_insertPlate mi_X1_insertPlate ml_X1_81 cp_cX1 N.s (c_X1_insertPlate (bb := true) N h5 (by omega) (fun j hj => (hQV.2 j hj).1)) dX1_tellReplate_57 rfl rfl ⟨Nat.le_of_ble_eq_true rfl, Nat.le_of_ble_eq_true rfl⟩ ⟨Nat.le_refl _, Nat.le_refl _⟩ (Nat.le_of_ble_eq_true rfl) (fun I57 hT57 => ?_)
          obtain ⟨Q', rfl, hQ'⟩ := hT57
          refine cp_pop O dX1_tellReplate_60 rfl ?_
          refine cp_iconst O dX1_tellReplate_61 (v := 1) rfl ?_
          exact hr _ _ _ _ dX1_tellReplate_62 rfl ⟨Q', rfl, hQ'⟩
        · exact absurd h599 (by omega)
    · exact absurd ⟨hlt, by rw [Int32.lt_iff_toInt_lt, nI_toInt (by omega)] at c_31; omega⟩ hnd
theorem c_X1_tellReplate_0 {lc : Launch} {E : cp_En} {cnt : Nat} {sh : cp_Shp} {R : cp_Rem} {J : cp_Mem} {b : Nat} {o S : Nat → Int32} {P Q : cp_PP} (N : cp_NL sh R b) {mi np e : Nat} (h1 : o 1 = nI mi) (hm : mi < 100000) (h5 : o 5 = nI np) (hq : np ≤ 8) (hQV : cp_QV mi np Q) (hS3 : S 3 = nI e) (he : e ≤ 60) (hno : ¬ (¬ ((cp_cnt (fun j => decide ((Q j 0).toInt < (mi : Int))) np) < np ∧ (Q (cp_cnt (fun j => decide ((Q j 0).toInt < (mi : Int))) np) 0).toInt ≤ ((mi + e : Nat) : Int)) ∧ np ≠ 8 ∧ mi + e ≤ 599)) : cp_Fr lc E yX1_tellReplate cX1_tellReplate 3 (some .boolean) 3 [.ref b] cnt sh (cp_nn J b o S P Q) R (some (.int (cp_bi false))) (fun I' => I' = cp_nn J b o S P Q) := by
  by_cases hlt : (cp_cnt (fun j => decide ((Q j 0).toInt < (mi : Int))) np) < np
  · exact c_X1_tellReplate_01 N h1 hm h5 hq hQV hS3 he hno hlt
  · exact c_X1_tellReplate_00 N h1 hm h5 hq hQV hS3 he hno hlt
theorem c_X1_tellReplate_1 {lc : Launch} {E : cp_En} {cnt : Nat} {sh : cp_Shp} {R : cp_Rem} {J : cp_Mem} {b : Nat} {o S : Nat → Int32} {P Q : cp_PP} (N : cp_NL sh R b) {mi np e : Nat} (h1 : o 1 = nI mi) (hm : mi < 100000) (h5 : o 5 = nI np) (hq : np ≤ 8) (hQV : cp_QV mi np Q) (hS3 : S 3 = nI e) (he : e ≤ 60) (hnd : ¬ ((cp_cnt (fun j => decide ((Q j 0).toInt < (mi : Int))) np) < np ∧ (Q (cp_cnt (fun j => decide ((Q j 0).toInt < (mi : Int))) np) 0).toInt ≤ ((mi + e : Nat) : Int))) (hn8 : np ≠ 8) (h599 : mi + e ≤ 599) : cp_Fr lc E yX1_tellReplate cX1_tellReplate 3 (some .boolean) 3 [.ref b] cnt sh (cp_nn J b o S P Q) R (some (.int (cp_bi true))) (fun I' => ∃ Q' : cp_PP, I' = cp_nn J b (upd o 5 (nI (np + 1))) S P Q' ∧ ∀ j, j < np + 1 → ∀ f, f < 3 → Q' j f = cp_iq Q (cp_at Q (nI (mi + e)) np) (nI (mi + e)) 1 j f) := by
  by_cases hlt : (cp_cnt (fun j => decide ((Q j 0).toInt < (mi : Int))) np) < np
  · exact c_X1_tellReplate_11 N h1 hm h5 hq hQV hS3 he hnd hn8 h599 hlt
  · exact c_X1_tellReplate_10 N h1 hm h5 hq hQV hS3 he hnd hn8 h599 hlt
theorem cp_sKl_1 {S : Nat → Int32} {P Q : cp_PP} {n mi np : Nat} {lq : List Nat} {v1 : Int32} (h : cp_ip n v1 = false) : (cp_sKill (S, mi, n, P, np, Q, lq) v1) = (-1, (S, mi, n, P, np, Q, lq)) := by
  unfold cp_sKill
  exact if_neg (cp_bF h)
theorem cp_sKl_5 {S : Nat → Int32} {P Q : cp_PP} {n mi np : Nat} {lq : List Nat} {v1 : Int32} (h : cp_ip n v1 = true) (h3 : P v1.toInt.toNat 4 = 3) : (cp_sKill (S, mi, n, P, np, Q, lq) v1) = (-5, (S, mi, n, P, np, Q, lq)) := by
  unfold cp_sKill
  rw [if_pos h]
  exact if_pos h3
theorem cp_sKl_t {S : Nat → Int32} {P Q : cp_PP} {n mi np : Nat} {lq : List Nat} {v1 : Int32} (h : cp_ip n v1 = true) (h3 : ¬ P v1.toInt.toNat 4 = 3) (hk : cp_kc (S, mi, n, P, np, Q, lq) v1.toInt.toNat = true) : (cp_sKill (S, mi, n, P, np, Q, lq) v1) = (1, (cp_sTell (cp_sK (S, mi, n, P, np, Q, lq) v1.toInt.toNat) (nI mi + S 3) 1).2) := by
  unfold cp_sKill
  rw [if_pos h]
  exact (if_neg h3).trans (if_pos hk)
theorem cp_sKl_f {S : Nat → Int32} {P Q : cp_PP} {n mi np : Nat} {lq : List Nat} {v1 : Int32} (h : cp_ip n v1 = true) (h3 : ¬ P v1.toInt.toNat 4 = 3) (hk : cp_kc (S, mi, n, P, np, Q, lq) v1.toInt.toNat = false) : (cp_sKill (S, mi, n, P, np, Q, lq) v1) = (0, cp_sK (S, mi, n, P, np, Q, lq) v1.toInt.toNat) := by
  unfold cp_sKill
  rw [if_pos h]
  exact (if_neg h3).trans (if_neg (cp_bF hk))
theorem cp_kc_if {S : Nat → Int32} {P Q : cp_PP} {n mi np e p : Nat} {lq : List Nat} (hQV : cp_QV mi np Q) (hm : mi < 100000) (hS3 : S 3 = nI e) (he : e ≤ 60) : cp_kc (S, mi, n, P, np, Q, lq) p = true ↔ cp_ol (cp_cnt (fun j => decide ((Q j 0).toInt < (mi : Int))) np) Q p = true ∧ ¬ ((cp_cnt (fun j => decide ((Q j 0).toInt < (mi : Int))) np) < np ∧ (Q (cp_cnt (fun j => decide ((Q j 0).toInt < (mi : Int))) np) 0).toInt ≤ ((mi + e : Nat) : Int)) ∧ np ≠ 8 ∧ mi + e ≤ 599 := by
  have h1 : cp_kc (S, mi, n, P, np, Q, lq) p = (cp_ol (cp_cnt (fun j => decide ((Q j 0).toInt < (mi : Int))) np) Q p && !(cp_any (fun j => cp_rg mi ((mi + (S 3).toInt.toNat : Nat) : Int) (Q j 0)) np) && decide (np ≠ 8) && decide (nI mi + S 3 ≤ 599)) := by
    unfold cp_kc cp_mkN cp_dsN
    rfl
  rw [h1, hS3, cp_nIt (show e < 2 ^ 31 by omega), Bool.and_eq_true, Bool.and_eq_true, Bool.and_eq_true, Bool.not_eq_true', ← Bool.not_eq_true, cp_ds_if hQV, decide_eq_true_iff, decide_eq_true_iff, nI_add, show (599 : Int32) = nI 599 from rfl, nI_leI (by omega) (by omega), and_assoc, and_assoc]
set_option maxHeartbeats 4000000 in
set_option maxRecDepth 100000 in
theorem c_X1_killPiece_0 {lc : Launch} {E : cp_En} {cnt : Nat} {sh : cp_Shp} {R : cp_Rem} {J : cp_Mem} {b : Nat} {o S : Nat → Int32} {P Q : cp_PP} (N : cp_NL sh R b) {n mi np e : Nat} {lq : List Nat} (h1 : o 1 = nI mi) (hm : mi < 100000) (h3 : o 3 = nI n) (hn : n ≤ 24) (h5 : o 5 = nI np) (hq : np ≤ 8) (hQV : cp_QV mi np Q) (hS3 : S 3 = nI e) (he : e ≤ 60) {v1 : Int32} (hkc : cp_kc (S, mi, n, P, np, Q, lq) v1.toInt.toNat = false) : cp_Fr lc E yX1_killPiece cX1_killPiece 3 (some .int) 4 [.ref b, .int v1] cnt sh (cp_nn J b o S P Q) R (some (.int ((cp_sKill (S, mi, n, P, np, Q, lq) v1).1))) (fun I' => ∃ (o' : Nat → Int32) (Q' : cp_PP), I' = cp_nn J b o' S (cp_tP (cp_sKill (S, mi, n, P, np, Q, lq) v1).2) Q' ∧ o' 5 = nI (cp_tp (cp_sKill (S, mi, n, P, np, Q, lq) v1).2) ∧ (∀ k, k ≠ 5 → o' k = o k) ∧ ∀ j, j < cp_tp (cp_sKill (S, mi, n, P, np, Q, lq) v1).2 → ∀ f, f < 3 → Q' j f = cp_tQ (cp_sKill (S, mi, n, P, np, Q, lq) v1).2 j f) := by
  have hmk := cp_mk_o (np := np) (Q := Q) h1 hm
  refine cp_Fn_iR [some (.ref b), some (.int v1), none] (by decide +kernel) (Nat.le_of_ble_eq_true rfl) rfl rfl (fun x hxl O hr => ?_)
  subst hxl
  refine cp_aload_n O dX1_killPiece_0 cp_lg0 ?_
  refine cp_iload_n O dX1_killPiece_1 cp_lg1 ?_
  refine cp_cVi O me_X1_hasPiece mi_X1_hasPiece ml_X1_60 cp_cX1 N.s (c_X1_hasPiece N h3 hn) dX1_killPiece_2 rfl rfl ⟨Nat.le_of_ble_eq_true rfl, Nat.le_of_ble_eq_true rfl⟩ ⟨Nat.le_refl _, Nat.le_refl _⟩ (Nat.le_of_ble_eq_true rfl) ?_
  refine cp_if_neB (tgt := 10) O dX1_killPiece_5 (by decide) (fun c_5 => ?_) (fun c_5 => ?_)
  · obtain ⟨p, hp, rfl⟩ := (cp_ip_iff (by omega)).mp c_5
    have hpt : (nI p).toInt.toNat = p := cp_nIt (by omega)
    rw [hpt] at hkc
    refine cp_aload_n O dX1_killPiece_10 cp_lg0 ?_
    refine fg_X1_29 O N.s N.pcs dX1_killPiece_11 ?_
    refine cp_iload_n O dX1_killPiece_14 cp_lg1 ?_
    refine cp_aaldr O (Or.inr (Or.inl ⟨rfl, rfl⟩)) N.spcs (j := p) rfl (by omega) (by decide) (N.pc (by omega)) dX1_killPiece_15 ?_
    refine cp_astore_n O dX1_killPiece_16 (by decide) (cp_ls2 rfl) ?_
    refine cp_aload_n O dX1_killPiece_17 cp_lg2 ?_
    refine pg_X1_64 O N (by omega) dX1_killPiece_18 ?_
    refine cp_iconst O dX1_killPiece_21 (v := 3) rfl ?_
    refine cp_icmp_ne (tgt := 28) O dX1_killPiece_22 (by decide) (fun c_22 => ?_) (fun c_22 => ?_)
    · have hs0 := cp_sKl_f (S := S) (mi := mi) (np := np) (Q := Q) (lq := lq) c_5 (by rw [hpt]; exact c_22) (by rw [hpt]; exact hkc)
      rw [hpt] at hs0
      refine cp_aload_n O dX1_killPiece_28 cp_lg2 ?_
      refine cp_iconst O dX1_killPiece_29 (v := 3) rfl ?_
      refine pp_X1_64 O N (by omega) dX1_killPiece_30 ?_
      refine cp_aload_n O dX1_killPiece_33 cp_lg0 ?_
      refine cp_iload_n O dX1_killPiece_34 cp_lg1 ?_
      refine cp_cVi O me_X1_isOnLatestMade mi_X1_isOnLatestMade ml_X1_93 cp_cX1 N.s (c_X1_isOnLatestMade N h5 hq) dX1_killPiece_35 rfl rfl ⟨Nat.le_of_ble_eq_true rfl, Nat.le_of_ble_eq_true rfl⟩ ⟨Nat.le_refl _, Nat.le_refl _⟩ (Nat.le_of_ble_eq_true rfl) ?_
      rw [hmk]
      refine cp_if_eqB (tgt := 52) O dX1_killPiece_38 (by decide) (fun c_38 => ?_) (fun c_38 => ?_)
      · refine cp_iconst O dX1_killPiece_52 (v := 0) rfl ?_
        refine cp_cSNi O me_X6_oneIf ms_X6_oneIf ml_X1_89 (c_X6_oneIf (b := false)) dX1_killPiece_53 rfl rfl ⟨Nat.le_of_ble_eq_true rfl, Nat.le_of_ble_eq_true rfl⟩ ⟨Nat.le_refl _, Nat.le_refl _⟩ (Nat.le_of_ble_eq_true rfl) ?_
        exact hr _ _ _ _ dX1_killPiece_56 (by rw [hs0]; rfl) ⟨_, _, by rw [hs0]; rfl, by rw [hs0]; exact h5, fun _ _ => rfl, fun j _ f _ => by rw [hs0]; rfl⟩
      · have hno := fun z => cp_bF hkc ((cp_kc_if hQV hm hS3 he).mpr ⟨c_38, z⟩)
        refine cp_aload_n O dX1_killPiece_41 cp_lg0 ?_
        refine cp_cVir O me_X1_tellReplate mi_X1_tellReplate ml_X1_96 cp_cX1 N.s (c_X1_tellReplate_0 N h1 hm h5 hq hQV hS3 he hno) dX1_killPiece_42 rfl rfl ⟨Nat.le_of_ble_eq_true rfl, Nat.le_of_ble_eq_true rfl⟩ ⟨Nat.le_refl _, Nat.le_refl _⟩ (Nat.le_of_ble_eq_true rfl) (fun I42 hT42 => ?_)
        obtain rfl := hT42
        refine cp_if_eqB (tgt := 52) O dX1_killPiece_45 (by decide) (fun c_45 => ?_) (fun c_45 => ?_)
        · refine cp_iconst O dX1_killPiece_52 (v := 0) rfl ?_
          refine cp_cSNi O me_X6_oneIf ms_X6_oneIf ml_X1_89 (c_X6_oneIf (b := false)) dX1_killPiece_53 rfl rfl ⟨Nat.le_of_ble_eq_true rfl, Nat.le_of_ble_eq_true rfl⟩ ⟨Nat.le_refl _, Nat.le_refl _⟩ (Nat.le_of_ble_eq_true rfl) ?_
          exact hr _ _ _ _ dX1_killPiece_56 (by rw [hs0]; rfl) ⟨_, _, by rw [hs0]; rfl, by rw [hs0]; exact h5, fun _ _ => rfl, fun j _ f _ => by rw [hs0]; rfl⟩
        · exact absurd c_45 (by decide)
    · have hs0 : cp_sKill (S, mi, n, P, np, Q, lq) (nI p) = (-5, (S, mi, n, P, np, Q, lq)) := cp_sKl_5 c_5 (by rw [hpt]; exact c_22)
      refine cp_bipush O dX1_killPiece_25 (v := (-5)) rfl ?_
      exact hr _ _ _ _ dX1_killPiece_27 (by rw [hs0]) ⟨_, _, by rw [hs0], by rw [hs0]; exact h5, fun _ _ => rfl, fun j _ f _ => by rw [hs0]⟩
  · have hs0 : (cp_sKill (S, mi, n, P, np, Q, lq) v1) = (-1, (S, mi, n, P, np, Q, lq)) := cp_sKl_1 c_5
    refine cp_iconst O dX1_killPiece_8 (v := (-1)) rfl ?_
    exact hr _ _ _ _ dX1_killPiece_9 (by rw [hs0]) ⟨_, _, by rw [hs0], by rw [hs0]; exact h5, fun _ _ => rfl, fun j _ f _ => by rw [hs0]⟩
set_option maxHeartbeats 4000000 in
set_option maxRecDepth 100000 in
theorem c_X1_killPiece_1 {lc : Launch} {E : cp_En} {cnt : Nat} {sh : cp_Shp} {R : cp_Rem} {J : cp_Mem} {b : Nat} {o S : Nat → Int32} {P Q : cp_PP} (N : cp_NL sh R b) {n mi np e : Nat} {lq : List Nat} (h1 : o 1 = nI mi) (hm : mi < 100000) (h3 : o 3 = nI n) (hn : n ≤ 24) (h5 : o 5 = nI np) (hq : np ≤ 8) (hQV : cp_QV mi np Q) (hS3 : S 3 = nI e) (he : e ≤ 60) {v1 : Int32} (hkc : cp_kc (S, mi, n, P, np, Q, lq) v1.toInt.toNat = true) : cp_Fr lc E yX1_killPiece cX1_killPiece 3 (some .int) 4 [.ref b, .int v1] cnt sh (cp_nn J b o S P Q) R (some (.int ((cp_sKill (S, mi, n, P, np, Q, lq) v1).1))) (fun I' => ∃ (o' : Nat → Int32) (Q' : cp_PP), I' = cp_nn J b o' S (cp_tP (cp_sKill (S, mi, n, P, np, Q, lq) v1).2) Q' ∧ o' 5 = nI (cp_tp (cp_sKill (S, mi, n, P, np, Q, lq) v1).2) ∧ (∀ k, k ≠ 5 → o' k = o k) ∧ ∀ j, j < cp_tp (cp_sKill (S, mi, n, P, np, Q, lq) v1).2 → ∀ f, f < 3 → Q' j f = cp_tQ (cp_sKill (S, mi, n, P, np, Q, lq) v1).2 j f) := by
  have hmk := cp_mk_o (np := np) (Q := Q) h1 hm
  refine cp_Fn_iR [some (.ref b), some (.int v1), none] (by decide +kernel) (Nat.le_of_ble_eq_true rfl) rfl rfl (fun x hxl O hr => ?_)
  subst hxl
  refine cp_aload_n O dX1_killPiece_0 cp_lg0 ?_
  refine cp_iload_n O dX1_killPiece_1 cp_lg1 ?_
  refine cp_cVi O me_X1_hasPiece mi_X1_hasPiece ml_X1_60 cp_cX1 N.s (c_X1_hasPiece N h3 hn) dX1_killPiece_2 rfl rfl ⟨Nat.le_of_ble_eq_true rfl, Nat.le_of_ble_eq_true rfl⟩ ⟨Nat.le_refl _, Nat.le_refl _⟩ (Nat.le_of_ble_eq_true rfl) ?_
  refine cp_if_neB (tgt := 10) O dX1_killPiece_5 (by decide) (fun c_5 => ?_) (fun c_5 => ?_)
  · obtain ⟨p, hp, rfl⟩ := (cp_ip_iff (by omega)).mp c_5
    have hpt : (nI p).toInt.toNat = p := cp_nIt (by omega)
    rw [hpt] at hkc
    refine cp_aload_n O dX1_killPiece_10 cp_lg0 ?_
    refine fg_X1_29 O N.s N.pcs dX1_killPiece_11 ?_
    refine cp_iload_n O dX1_killPiece_14 cp_lg1 ?_
    refine cp_aaldr O (Or.inr (Or.inl ⟨rfl, rfl⟩)) N.spcs (j := p) rfl (by omega) (by decide) (N.pc (by omega)) dX1_killPiece_15 ?_
    refine cp_astore_n O dX1_killPiece_16 (by decide) (cp_ls2 rfl) ?_
    refine cp_aload_n O dX1_killPiece_17 cp_lg2 ?_
    refine pg_X1_64 O N (by omega) dX1_killPiece_18 ?_
    refine cp_iconst O dX1_killPiece_21 (v := 3) rfl ?_
    refine cp_icmp_ne (tgt := 28) O dX1_killPiece_22 (by decide) (fun c_22 => ?_) (fun c_22 => ?_)
    · have hs0 := cp_sKl_t (S := S) (mi := mi) (np := np) (Q := Q) (lq := lq) c_5 (by rw [hpt]; exact c_22) (by rw [hpt]; exact hkc)
      rw [hpt] at hs0
      refine cp_aload_n O dX1_killPiece_28 cp_lg2 ?_
      refine cp_iconst O dX1_killPiece_29 (v := 3) rfl ?_
      refine pp_X1_64 O N (by omega) dX1_killPiece_30 ?_
      refine cp_aload_n O dX1_killPiece_33 cp_lg0 ?_
      refine cp_iload_n O dX1_killPiece_34 cp_lg1 ?_
      refine cp_cVi O me_X1_isOnLatestMade mi_X1_isOnLatestMade ml_X1_93 cp_cX1 N.s (c_X1_isOnLatestMade N h5 hq) dX1_killPiece_35 rfl rfl ⟨Nat.le_of_ble_eq_true rfl, Nat.le_of_ble_eq_true rfl⟩ ⟨Nat.le_refl _, Nat.le_refl _⟩ (Nat.le_of_ble_eq_true rfl) ?_
      rw [hmk]
      refine cp_if_eqB (tgt := 52) O dX1_killPiece_38 (by decide) (fun c_38 => ?_) (fun c_38 => ?_)
      · exact absurd (c_38.symm.trans ((cp_kc_if hQV hm hS3 he).mp hkc).1) (by decide)
      · obtain ⟨-, hnd, hn8, h599⟩ := (cp_kc_if hQV hm hS3 he).mp hkc
        refine cp_aload_n O dX1_killPiece_41 cp_lg0 ?_
        refine cp_cVir O me_X1_tellReplate mi_X1_tellReplate ml_X1_96 cp_cX1 N.s (c_X1_tellReplate_1 N h1 hm h5 hq hQV hS3 he hnd hn8 h599) dX1_killPiece_42 rfl rfl ⟨Nat.le_of_ble_eq_true rfl, Nat.le_of_ble_eq_true rfl⟩ ⟨Nat.le_refl _, Nat.le_refl _⟩ (Nat.le_of_ble_eq_true rfl) (fun I42 hT42 => ?_)
        obtain ⟨Q', rfl, hQ'⟩ := hT42
        refine cp_if_eqB (tgt := 52) O dX1_killPiece_45 (by decide) (fun c_45 => ?_) (fun c_45 => ?_)
        · exact absurd c_45 (by decide)
        · refine cp_iconst O dX1_killPiece_48 (v := 1) rfl ?_
          refine cp_goto (tgt := 53) O dX1_killPiece_49 (by decide) ?_
          refine cp_cSNi O me_X6_oneIf ms_X6_oneIf ml_X1_89 (c_X6_oneIf (b := true)) dX1_killPiece_53 rfl rfl ⟨Nat.le_of_ble_eq_true rfl, Nat.le_of_ble_eq_true rfl⟩ ⟨Nat.le_refl _, Nat.le_refl _⟩ (Nat.le_of_ble_eq_true rfl) ?_
          exact hr _ _ _ _ dX1_killPiece_56 (by rw [hs0]; rfl) ⟨_, Q', by rw [hs0]; rfl, by rw [hs0]; exact cp_upd_s, fun k hk => cp_upd_n hk, fun j hj f hf => by
            rw [hs0] at hj ⊢
            rw [hQ' j hj f hf]
            show _ = cp_iq Q (cp_at Q (nI mi + S 3) np) (nI mi + S 3) 1 j f
            rw [hS3, nI_add]⟩
    · have hs0 : cp_sKill (S, mi, n, P, np, Q, lq) (nI p) = (-5, (S, mi, n, P, np, Q, lq)) := cp_sKl_5 c_5 (by rw [hpt]; exact c_22)
      refine cp_bipush O dX1_killPiece_25 (v := (-5)) rfl ?_
      exact hr _ _ _ _ dX1_killPiece_27 (by rw [hs0]) ⟨_, _, by rw [hs0], by rw [hs0]; exact h5, fun _ _ => rfl, fun j _ f _ => by rw [hs0]⟩
  · have hs0 : (cp_sKill (S, mi, n, P, np, Q, lq) v1) = (-1, (S, mi, n, P, np, Q, lq)) := cp_sKl_1 c_5
    refine cp_iconst O dX1_killPiece_8 (v := (-1)) rfl ?_
    exact hr _ _ _ _ dX1_killPiece_9 (by rw [hs0]) ⟨_, _, by rw [hs0], by rw [hs0]; exact h5, fun _ _ => rfl, fun j _ f _ => by rw [hs0]⟩
theorem c_X1_killPiece {lc : Launch} {E : cp_En} {cnt : Nat} {sh : cp_Shp} {R : cp_Rem} {J : cp_Mem} {b : Nat} {o S : Nat → Int32} {P Q : cp_PP} (N : cp_NL sh R b) {n mi np e : Nat} {lq : List Nat} (h1 : o 1 = nI mi) (hm : mi < 100000) (h3 : o 3 = nI n) (hn : n ≤ 24) (h5 : o 5 = nI np) (hq : np ≤ 8) (hQV : cp_QV mi np Q) (hS3 : S 3 = nI e) (he : e ≤ 60) {v1 : Int32} : cp_Fr lc E yX1_killPiece cX1_killPiece 3 (some .int) 4 [.ref b, .int v1] cnt sh (cp_nn J b o S P Q) R (some (.int ((cp_sKill (S, mi, n, P, np, Q, lq) v1).1))) (fun I' => ∃ (o' : Nat → Int32) (Q' : cp_PP), I' = cp_nn J b o' S (cp_tP (cp_sKill (S, mi, n, P, np, Q, lq) v1).2) Q' ∧ o' 5 = nI (cp_tp (cp_sKill (S, mi, n, P, np, Q, lq) v1).2) ∧ (∀ k, k ≠ 5 → o' k = o k) ∧ ∀ j, j < cp_tp (cp_sKill (S, mi, n, P, np, Q, lq) v1).2 → ∀ f, f < 3 → Q' j f = cp_tQ (cp_sKill (S, mi, n, P, np, Q, lq) v1).2 j f) := by
  cases hkc : cp_kc (S, mi, n, P, np, Q, lq) v1.toInt.toNat with
  | true => exact c_X1_killPiece_1 N h1 hm h3 hn h5 hq hQV hS3 he hkc
  | false => exact c_X1_killPiece_0 N h1 hm h3 hn h5 hq hQV hS3 he hkc

