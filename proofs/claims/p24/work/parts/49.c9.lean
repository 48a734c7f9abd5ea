theorem cp_sb1 {k : Nat} (h : 0 < k) : nI k - 1 = nI (k - 1) := pk_sub (b := 1) h
theorem cp_iset_k {k : Nat} {v : Int32} (hk : k < 4) : cp_iset (nI k) v = decide (¬ v < cp_sv 1 k ∧ v ≤ cp_sv 2 k) := by
  have key : ∀ (l h : Int32), decide (l.toInt ≤ v.toInt ∧ v.toInt ≤ h.toInt) = decide (¬ v < l ∧ v ≤ h) := fun l h => by
    apply decide_eq_decide.mpr
    rw [Int32.not_lt, Int32.le_iff_toInt_le, Int32.le_iff_toInt_le]
  rcases (by omega : k = 0 ∨ k = 1 ∨ k = 2 ∨ k = 3) with rfl | rfl | rfl | rfl
  · exact key 1 20
  · exact key 1 60
  · exact key 10 400
  · exact key 1 60
set_option maxHeartbeats 4000000 in
set_option maxRecDepth 100000 in
theorem c_X1_isOnLatestMade {lc : Launch} {E : cp_En} {cnt : Nat} {sh : cp_Shp} {R : cp_Rem} {J : cp_Mem} {b : Nat} {o S : Nat → Int32} {P Q : cp_PP} (N : cp_NL sh R b) {np : Nat} (h5 : o 5 = nI np) (hq : np ≤ 8) {p : Nat} : cp_Fn lc E yX1_isOnLatestMade cX1_isOnLatestMade 3 (some .boolean) 2 [.ref b, .int (nI p)] cnt sh (cp_nn J b o S P Q) R (some (.int (cp_bi (cp_ol (cp_cnt (fun j => decide (Q j 0 < o 1)) np) Q p)))) (cp_nn J b o S P Q) := by
  have hcl := cp_cnt_le (fun j => decide (Q j 0 < o 1)) np
  refine cp_Fn_i [some (.ref b), some (.int (nI p)), none] (by decide +kernel) (Nat.le_of_ble_eq_true rfl) rfl (cp_bin _) (fun x hxl O hr => ?_)
  subst hxl
  refine cp_aload_n O dX1_isOnLatestMade_0 cp_lg0 ?_
  refine cp_cVi O me_X1_madePlates mi_X1_madePlates ml_X1_175 cp_cX1 N.s (c_X1_madePlates N h5 hq) dX1_isOnLatestMade_1 rfl rfl ⟨Nat.le_of_ble_eq_true rfl, Nat.le_of_ble_eq_true rfl⟩ ⟨Nat.le_refl _, Nat.le_refl _⟩ (Nat.le_of_ble_eq_true rfl) ?_
  refine cp_iconst O dX1_isOnLatestMade_4 (v := 1) rfl ?_
  refine cp_isub O dX1_isOnLatestMade_5 ?_
  refine cp_istore_n O dX1_isOnLatestMade_6 (by decide) (cp_ls2 rfl) ?_
  refine cp_iload_n O dX1_isOnLatestMade_7 cp_lg2 ?_
  refine cp_if_lt (tgt := 31) O dX1_isOnLatestMade_8 (by decide) (fun c_8 => ?_) (fun c_8 => ?_)
  · have hz : (cp_cnt (fun j => decide (Q j 0 < o 1)) np) = 0 := by
      rcases Nat.eq_zero_or_pos (cp_cnt (fun j => decide (Q j 0 < o 1)) np) with h | h
      · exact h
      · rw [cp_sb1 h] at c_8
        exact absurd c_8 (cp_nn0 (by omega))
    refine cp_iconst O dX1_isOnLatestMade_31 (v := 0) rfl ?_
    exact hr _ _ _ _ dX1_isOnLatestMade_32 (cp_bi_f (by unfold cp_ol; rw [hz]; rfl)) rfl
  · have hz : 0 < (cp_cnt (fun j => decide (Q j 0 < o 1)) np) := by
      rcases Nat.eq_zero_or_pos (cp_cnt (fun j => decide (Q j 0 < o 1)) np) with h | h
      · exact absurd (by rw [h]; decide) c_8
      · exact h
    refine cp_iload_n O dX1_isOnLatestMade_11 cp_lg1 ?_
    refine cp_aload_n O dX1_isOnLatestMade_12 cp_lg0 ?_
    refine fg_X1_39 O N.s N.pls dX1_isOnLatestMade_13 ?_
    refine cp_iload_n O dX1_isOnLatestMade_16 cp_lg2 ?_
    refine cp_aaldr O (Or.inr (Or.inr ⟨rfl, rfl⟩)) N.spls (j := ((cp_cnt (fun j => decide (Q j 0 < o 1)) np) - 1)) (cp_sb1 hz) (by omega) (by decide) (N.pl (by omega)) dX1_isOnLatestMade_17 ?_
    refine qg_X1_113 O N (by omega) dX1_isOnLatestMade_18 ?_
    refine cp_cSNi O me_X6_isInSet ms_X6_isInSet ml_X1_118 (c_X6_isInSet) dX1_isOnLatestMade_21 rfl rfl ⟨Nat.le_of_ble_eq_true rfl, Nat.le_of_ble_eq_true rfl⟩ ⟨Nat.le_refl _, Nat.le_refl _⟩ (Nat.le_of_ble_eq_true rfl) ?_
    refine cp_if_eqB (tgt := 31) O dX1_isOnLatestMade_24 (by decide) (fun c_24 => ?_) (fun c_24 => ?_)
    · refine cp_iconst O dX1_isOnLatestMade_31 (v := 0) rfl ?_
      exact hr _ _ _ _ dX1_isOnLatestMade_32 (cp_bi_f (by unfold cp_ol; rw [c_24, Bool.and_false])) rfl
    · refine cp_iconst O dX1_isOnLatestMade_27 (v := 1) rfl ?_
      refine cp_goto (tgt := 32) O dX1_isOnLatestMade_28 (by decide) ?_
      exact hr _ _ _ _ dX1_isOnLatestMade_32 (cp_bi_t (by unfold cp_ol; rw [c_24, decide_eq_true hz]; rfl)) rfl
set_option maxHeartbeats 4000000 in
set_option maxRecDepth 100000 in
theorem c_X1_minutesToPlate {lc : Launch} {E : cp_En} {cnt : Nat} {sh : cp_Shp} {R : cp_Rem} {J : cp_Mem} {b : Nat} {o S : Nat → Int32} {P Q : cp_PP} (N : cp_NL sh R b) {np : Nat} (h5 : o 5 = nI np) (hq : np ≤ 8) {j : Nat} (hj : j < np) : cp_Fn lc E yX1_minutesToPlate cX1_minutesToPlate 2 (some .int) 0 [.ref b, .int (nI j)] cnt sh (cp_nn J b o S P Q) R (some (.int (Q j 0 - o 1 + 1))) (cp_nn J b o S P Q) := by
  refine cp_Fn_i [some (.ref b), some (.int (nI j))] (by decide +kernel) (Nat.le_of_ble_eq_true rfl) rfl rfl (fun x hxl O hr => ?_)
  subst hxl
  refine cp_iload_n O dX1_minutesToPlate_0 cp_lg1 ?_
  refine cp_if_lt (tgt := 31) O dX1_minutesToPlate_1 (by decide) (fun c_1 => ?_) (fun c_1 => ?_)
  · exact absurd c_1 (cp_nn0 (by omega))
  · refine cp_iload_n O dX1_minutesToPlate_4 cp_lg1 ?_
    refine cp_aload_n O dX1_minutesToPlate_5 cp_lg0 ?_
    refine ng_X1_44 O N dX1_minutesToPlate_6 ?_
    refine cp_icmp_geN (tgt := 31) O dX1_minutesToPlate_9 (by decide) (a := j) (b := np) rfl h5 (by omega) (by omega) (fun c_9 => ?_) (fun c_9 => ?_)
    · exact absurd hj (by omega)
    · refine cp_aload_n O dX1_minutesToPlate_12 cp_lg0 ?_
      refine fg_X1_39 O N.s N.pls dX1_minutesToPlate_13 ?_
      refine cp_iload_n O dX1_minutesToPlate_16 cp_lg1 ?_
      refine cp_aaldr O (Or.inr (Or.inr ⟨rfl, rfl⟩)) N.spls (j := j) rfl (by omega) (by decide) (N.pl (by omega)) dX1_minutesToPlate_17 ?_
      refine qg_X1_174 O N (by omega) dX1_minutesToPlate_18 ?_
      refine cp_aload_n O dX1_minutesToPlate_21 cp_lg0 ?_
      refine ng_X1_23 O N dX1_minutesToPlate_22 ?_
      refine cp_isub O dX1_minutesToPlate_25 ?_
      refine cp_iconst O dX1_minutesToPlate_26 (v := 1) rfl ?_
      refine cp_iadd O dX1_minutesToPlate_27 ?_
      refine cp_goto (tgt := 32) O dX1_minutesToPlate_28 (by decide) ?_
      exact hr _ _ _ _ dX1_minutesToPlate_32 rfl rfl
set_option maxHeartbeats 4000000 in
set_option maxRecDepth 100000 in
theorem c_X1_changeSetting {lc : Launch} {E : cp_En} {cnt : Nat} {sh : cp_Shp} {R : cp_Rem} {J : cp_Mem} {b : Nat} {o S : Nat → Int32} {P Q : cp_PP} (N : cp_NL sh R b) {n mi np : Nat} {lq : List Nat} {v1 v2 : Int32} : cp_Fn lc E yX1_changeSetting cX1_changeSetting 4 (some .int) 0 [.ref b, .int v1, .int v2] cnt sh (cp_nn J b o S P Q) R (some (.int ((cp_sSet (S, mi, n, P, np, Q, lq) v1 v2).1))) (cp_nn J b o (cp_tS (cp_sSet (S, mi, n, P, np, Q, lq) v1 v2).2) P Q) := by
  refine cp_Fn_i [some (.ref b), some (.int v1), some (.int v2), none] (by decide +kernel) (Nat.le_of_ble_eq_true rfl) rfl rfl (fun x hxl O hr => ?_)
  subst hxl
  refine cp_iload_n O dX1_changeSetting_0 cp_lg1 ?_
  refine cp_if_lt (tgt := 9) O dX1_changeSetting_1 (by decide) (fun c_1 => ?_) (fun c_1 => ?_)
  · have hz : cp_iset v1 v2 = false := cp_iset_o (Or.inl (by have := Int32.lt_iff_toInt_lt.mp c_1; exact this))
    refine cp_bipush O dX1_changeSetting_9 (v := (-2)) rfl ?_
    exact hr _ _ _ _ dX1_changeSetting_11 (by rw [cp_iset_f hz]) (by rw [cp_iset_f hz])
  · refine cp_iload_n O dX1_changeSetting_4 cp_lg1 ?_
    refine cp_iconst O dX1_changeSetting_5 (v := 4) rfl ?_
    refine cp_icmp_lt (tgt := 12) O dX1_changeSetting_6 (by decide) (fun c_6 => ?_) (fun c_6 => ?_)
    · obtain ⟨k, hk, rfl⟩ := (cp_ip_iff (n := 4) (by omega)).mp (cp_ip_y (n := 4) (by omega) c_1 (Int32.not_le.mpr c_6))
      refine cp_iload_n O dX1_changeSetting_12 cp_lg2 ?_
      refine fs_X1_67 O dX1_changeSetting_13 ?_
      refine cp_iload_n O dX1_changeSetting_16 cp_lg1 ?_
      refine cp_tald (q := 1) O (by decide) (j := k) rfl hk dX1_changeSetting_17 ?_
      refine cp_icmp_lt (tgt := 30) O dX1_changeSetting_18 (by decide) (fun c_18 => ?_) (fun c_18 => ?_)
      · have hz : cp_iset (nI k) v2 = false := by rw [cp_iset_k hk]; exact decide_eq_false fun z => z.1 c_18
        refine cp_bipush O dX1_changeSetting_30 (v := (-2)) rfl ?_
        exact hr _ _ _ _ dX1_changeSetting_32 (by rw [cp_iset_f hz]) (by rw [cp_iset_f hz])
      · refine cp_iload_n O dX1_changeSetting_21 cp_lg2 ?_
        refine fs_X1_70 O dX1_changeSetting_22 ?_
        refine cp_iload_n O dX1_changeSetting_25 cp_lg1 ?_
        refine cp_tald (q := 2) O (by decide) (j := k) rfl hk dX1_changeSetting_26 ?_
        refine cp_icmp_le (tgt := 33) O dX1_changeSetting_27 (by decide) (fun c_27 => ?_) (fun c_27 => ?_)
        · have hz : cp_iset (nI k) v2 = true := by rw [cp_iset_k hk]; exact decide_eq_true ⟨c_18, c_27⟩
          refine cp_aload_n O dX1_changeSetting_33 cp_lg0 ?_
          refine fg_X1_18 O N.s N.set dX1_changeSetting_34 ?_
          refine cp_iload_n O dX1_changeSetting_37 cp_lg1 ?_
          refine cp_ialdS O N (j := k) rfl (by omega) dX1_changeSetting_38 ?_
          refine cp_istore_n O dX1_changeSetting_39 (by decide) (cp_ls3 rfl) ?_
          refine cp_aload_n O dX1_changeSetting_40 cp_lg0 ?_
          refine fg_X1_18 O N.s N.set dX1_changeSetting_41 ?_
          refine cp_iload_n O dX1_changeSetting_44 cp_lg1 ?_
          refine cp_iload_n O dX1_changeSetting_45 cp_lg2 ?_
          refine cp_iastS O N (j := k) rfl (by omega) dX1_changeSetting_46 ?_
          refine cp_iload_n O dX1_changeSetting_47 cp_lg3 ?_
          exact hr _ _ _ _ dX1_changeSetting_48 (by rw [cp_iset_t hz, cp_nIt (show k < 2 ^ 31 by omega)]) (by rw [cp_iset_t hz, cp_nIt (show k < 2 ^ 31 by omega)])
        · have hz : cp_iset (nI k) v2 = false := by rw [cp_iset_k hk]; exact decide_eq_false fun z => c_27 z.2
          refine cp_bipush O dX1_changeSetting_30 (v := (-2)) rfl ?_
          exact hr _ _ _ _ dX1_changeSetting_32 (by rw [cp_iset_f hz]) (by rw [cp_iset_f hz])
    · have hz : cp_iset v1 v2 = false := cp_iset_o (Or.inr (by have := Int32.le_iff_toInt_le.mp (Int32.not_lt.mp c_6); have e : (4 : Int32).toInt = 4 := rfl; omega))
      refine cp_bipush O dX1_changeSetting_9 (v := (-2)) rfl ?_
      exact hr _ _ _ _ dX1_changeSetting_11 (by rw [cp_iset_f hz]) (by rw [cp_iset_f hz])
set_option maxHeartbeats 4000000 in
set_option maxRecDepth 100000 in
theorem c_X1_turnHold {lc : Launch} {E : cp_En} {cnt : Nat} {sh : cp_Shp} {R : cp_Rem} {J : cp_Mem} {b : Nat} {o S : Nat → Int32} {P Q : cp_PP} (N : cp_NL sh R b) {n : Nat} (h3 : o 3 = nI n) (hn : n ≤ 24) {mi np : Nat} {lq : List Nat} (hh : ∀ i, i < n → P i 5 = 0 ∨ P i 5 = 1) {v1 : Int32} : cp_Fn lc E yX1_turnHold cX1_turnHold 3 (some .int) 1 [.ref b, .int v1] cnt sh (cp_nn J b o S P Q) R (some (.int ((cp_sHold (S, mi, n, P, np, Q, lq) v1).1))) (cp_nn J b o S (cp_tP (cp_sHold (S, mi, n, P, np, Q, lq) v1).2) Q) := by
  refine cp_Fn_i [some (.ref b), some (.int v1), none] (by decide +kernel) (Nat.le_of_ble_eq_true rfl) rfl rfl (fun x hxl O hr => ?_)
  subst hxl
  refine cp_aload_n O dX1_turnHold_0 cp_lg0 ?_
  refine cp_iload_n O dX1_turnHold_1 cp_lg1 ?_
  refine cp_cVi O me_X1_hasPiece mi_X1_hasPiece ml_X1_60 cp_cX1 N.s (c_X1_hasPiece N h3 hn) dX1_turnHold_2 rfl rfl ⟨Nat.le_of_ble_eq_true rfl, Nat.le_of_ble_eq_true rfl⟩ ⟨Nat.le_refl _, Nat.le_refl _⟩ (Nat.le_of_ble_eq_true rfl) ?_
  refine cp_if_neB (tgt := 10) O dX1_turnHold_5 (by decide) (fun c_5 => ?_) (fun c_5 => ?_)
  · obtain ⟨p, hp, rfl⟩ := (cp_ip_iff (by omega)).mp c_5
    have hpt : (nI p).toInt.toNat = p := cp_nIt (by omega)
    refine cp_aload_n O dX1_turnHold_10 cp_lg0 ?_
    refine fg_X1_29 O N.s N.pcs dX1_turnHold_11 ?_
    refine cp_iload_n O dX1_turnHold_14 cp_lg1 ?_
    refine cp_aaldr O (Or.inr (Or.inl ⟨rfl, rfl⟩)) N.spcs (j := p) rfl (by omega) (by decide) (N.pc (by omega)) dX1_turnHold_15 ?_
    refine cp_astore_n O dX1_turnHold_16 (by decide) (cp_ls2 rfl) ?_
    refine cp_aload_n O dX1_turnHold_17 cp_lg2 ?_
    refine pg_X1_64 O N (by omega) dX1_turnHold_18 ?_
    refine cp_iconst O dX1_turnHold_21 (v := 3) rfl ?_
    refine cp_icmp_ne (tgt := 28) O dX1_turnHold_22 (by decide) (fun c_22 => ?_) (fun c_22 => ?_)
    · have hs0 : cp_sHold (S, mi, n, P, np, Q, lq) (nI p) = (1 - P p 5, (S, mi, n, cp_wi P p 5 (1 - P p 5), np, Q, lq)) := by
        show (if cp_ip n (nI p) = true then (if P (nI p).toInt.toNat 4 = 3 then _ else (1 - P (nI p).toInt.toNat 5, (S, mi, n, cp_wi P (nI p).toInt.toNat 5 (1 - P (nI p).toInt.toNat 5), np, Q, lq))) else _) = _
        rw [if_pos c_5, hpt, if_neg c_22]
      refine cp_aload_n O dX1_turnHold_28 cp_lg2 ?_
      refine cp_aload_n O dX1_turnHold_29 cp_lg2 ?_
      refine pg_X1_85 O N (by omega) dX1_turnHold_30 ?_
      refine cp_if_ne (tgt := 40) O dX1_turnHold_33 (by decide) (fun c_33 => ?_) (fun c_33 => ?_)
      · have h1p : (1 : Int32) - P p 5 = 0 := by rw [(hh p hp).resolve_left c_33]; rfl
        refine cp_iconst O dX1_turnHold_40 (v := 0) rfl ?_
        refine pp_X1_85 O N (by omega) (by first | exact Or.inl rfl | exact Or.inr rfl | exact cp_bi01 _ | assumption) dX1_turnHold_41 ?_
        refine cp_aload_n O dX1_turnHold_44 cp_lg2 ?_
        refine pg_X1_85 O N (by omega) dX1_turnHold_45 ?_
        rw [cp_wi_s]
        refine cp_cSNi O me_X6_oneIf ms_X6_oneIf ml_X1_89 (c_X6_oneIf (b := false)) dX1_turnHold_48 rfl rfl ⟨Nat.le_of_ble_eq_true rfl, Nat.le_of_ble_eq_true rfl⟩ ⟨Nat.le_refl _, Nat.le_refl _⟩ (Nat.le_of_ble_eq_true rfl) ?_
        exact hr _ _ _ _ dX1_turnHold_51 (by rw [hs0, h1p]; rfl) (by rw [hs0, h1p])
      · have h1p : (1 : Int32) - P p 5 = 1 := by rw [c_33]; rfl
        refine cp_iconst O dX1_turnHold_36 (v := 1) rfl ?_
        refine cp_goto (tgt := 41) O dX1_turnHold_37 (by decide) ?_
        refine pp_X1_85 O N (by omega) (by first | exact Or.inl rfl | exact Or.inr rfl | exact cp_bi01 _ | assumption) dX1_turnHold_41 ?_
        refine cp_aload_n O dX1_turnHold_44 cp_lg2 ?_
        refine pg_X1_85 O N (by omega) dX1_turnHold_45 ?_
        rw [cp_wi_s]
        refine cp_cSNi O me_X6_oneIf ms_X6_oneIf ml_X1_89 (c_X6_oneIf (b := true)) dX1_turnHold_48 rfl rfl ⟨Nat.le_of_ble_eq_true rfl, Nat.le_of_ble_eq_true rfl⟩ ⟨Nat.le_refl _, Nat.le_refl _⟩ (Nat.le_of_ble_eq_true rfl) ?_
        exact hr _ _ _ _ dX1_turnHold_51 (by rw [hs0, h1p]; rfl) (by rw [hs0, h1p])
    · have hs0 : cp_sHold (S, mi, n, P, np, Q, lq) (nI p) = (-5, (S, mi, n, P, np, Q, lq)) := by
        show (if cp_ip n (nI p) = true then (if P (nI p).toInt.toNat 4 = 3 then _ else _) else _) = _
        rw [if_pos c_5, hpt, if_pos c_22]
      refine cp_bipush O dX1_turnHold_25 (v := (-5)) rfl ?_
      exact hr _ _ _ _ dX1_turnHold_27 (by rw [hs0]) (by rw [hs0])
  · have hs0 : (cp_sHold (S, mi, n, P, np, Q, lq) v1) = (-1, (S, mi, n, P, np, Q, lq)) := by
      unfold cp_sHold
      exact if_neg (cp_bF c_5)
    refine cp_iconst O dX1_turnHold_8 (v := (-1)) rfl ?_
    exact hr _ _ _ _ dX1_turnHold_9 (by rw [hs0]) (by rw [hs0])

