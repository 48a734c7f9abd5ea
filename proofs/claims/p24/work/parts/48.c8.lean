theorem cp_01 {x : Int32} (h : x = 0 ∨ x = 1) : x = cp_bi (decide (x = 1)) := by rcases h with h | h <;> rw [h] <;> rfl
theorem cp_mdQ {o : Nat → Int32} {Q : cp_PP} {mi : Nat} (h1 : o 1 = nI mi) (hm : mi < 2 ^ 31) (j : Nat) : decide (Q j 0 < o 1) = decide ((Q j 0).toInt < mi) := by
  apply decide_eq_decide.mpr
  rw [h1, Int32.lt_iff_toInt_lt, nI_toInt hm]
theorem cp_mdC {o : Nat → Int32} {Q : cp_PP} {mi np : Nat} (h1 : o 1 = nI mi) (hm : mi < 2 ^ 31) : cp_cnt (fun j => decide (Q j 0 < o 1)) np = cp_cnt (fun j => decide ((Q j 0).toInt < mi)) np := congrArg (fun q => cp_cnt q np) (funext fun j => cp_mdQ h1 hm j)
theorem sw_X1_factOfPiece_18 {x : cp_Cx} {E : cp_En} {nL d mc ms cells slots cnt : Nat} {sh : cp_Shp} {I : cp_Mem} {R : cp_Rem} {L : List (Option Value)} {st : List Value} {v : Int32} (O : cp_Ok x E RX1 cX1_factOfPiece nL d mc ms) (k0 : v = 0 → cp_G x E nL cells slots cnt sh I R 76 L st) (k1 : v = 1 → cp_G x E nL cells slots cnt sh I R 81 L st) (k2 : v = 2 → cp_G x E nL cells slots cnt sh I R 86 L st) (k3 : v = 3 → cp_G x E nL cells slots cnt sh I R 91 L st) (k4 : v = 4 → cp_G x E nL cells slots cnt sh I R 99 L st) (k5 : v = 5 → cp_G x E nL cells slots cnt sh I R 104 L st) (k6 : v = 6 → cp_G x E nL cells slots cnt sh I R 112 L st) (k7 : v = 7 → cp_G x E nL cells slots cnt sh I R 117 L st) (k8 : v = 8 → cp_G x E nL cells slots cnt sh I R 122 L st) (k9 : v = 9 → cp_G x E nL cells slots cnt sh I R 128 L st) (k10 : v = 10 → cp_G x E nL cells slots cnt sh I R 133 L st) (kd : (v.toInt < 0 ∨ 10 < v.toInt) → cp_G x E nL cells slots cnt sh I R 139 L st) : cp_G x E nL cells slots cnt sh I R 18 L (.int v :: st) := by
  by_cases h1 : v.toInt < 0
  · exact cp_tableOut O dX1_factOfPiece_18 (Or.inl h1) (by decide) (kd (Or.inl h1))
  by_cases h2 : 10 < v.toInt
  · exact cp_tableOut O dX1_factOfPiece_18 (Or.inr h2) (by decide) (kd (Or.inr h2))
  have h3 : v.toInt = 0 ∨ v.toInt = 1 ∨ v.toInt = 2 ∨ v.toInt = 3 ∨ v.toInt = 4 ∨ v.toInt = 5 ∨ v.toInt = 6 ∨ v.toInt = 7 ∨ v.toInt = 8 ∨ v.toInt = 9 ∨ v.toInt = 10 := by omega
  rcases h3 with h | h | h | h | h | h | h | h | h | h | h
  · exact cp_tableIn (tgt := 76) O dX1_factOfPiece_18 h1 h2 (off := 58) (by rw [h]; rfl) (by decide) (k0 (Int32.toInt_inj.mp (by rw [h]; rfl)))
  · exact cp_tableIn (tgt := 81) O dX1_factOfPiece_18 h1 h2 (off := 63) (by rw [h]; rfl) (by decide) (k1 (Int32.toInt_inj.mp (by rw [h]; rfl)))
  · exact cp_tableIn (tgt := 86) O dX1_factOfPiece_18 h1 h2 (off := 68) (by rw [h]; rfl) (by decide) (k2 (Int32.toInt_inj.mp (by rw [h]; rfl)))
  · exact cp_tableIn (tgt := 91) O dX1_factOfPiece_18 h1 h2 (off := 73) (by rw [h]; rfl) (by decide) (k3 (Int32.toInt_inj.mp (by rw [h]; rfl)))
  · exact cp_tableIn (tgt := 99) O dX1_factOfPiece_18 h1 h2 (off := 81) (by rw [h]; rfl) (by decide) (k4 (Int32.toInt_inj.mp (by rw [h]; rfl)))
  · exact cp_tableIn (tgt := 104) O dX1_factOfPiece_18 h1 h2 (off := 86) (by rw [h]; rfl) (by decide) (k5 (Int32.toInt_inj.mp (by rw [h]; rfl)))
  · exact cp_tableIn (tgt := 112) O dX1_factOfPiece_18 h1 h2 (off := 94) (by rw [h]; rfl) (by decide) (k6 (Int32.toInt_inj.mp (by rw [h]; rfl)))
  · exact cp_tableIn (tgt := 117) O dX1_factOfPiece_18 h1 h2 (off := 99) (by rw [h]; rfl) (by decide) (k7 (Int32.toInt_inj.mp (by rw [h]; rfl)))
  · exact cp_tableIn (tgt := 122) O dX1_factOfPiece_18 h1 h2 (off := 104) (by rw [h]; rfl) (by decide) (k8 (Int32.toInt_inj.mp (by rw [h]; rfl)))
  · exact cp_tableIn (tgt := 128) O dX1_factOfPiece_18 h1 h2 (off := 110) (by rw [h]; rfl) (by decide) (k9 (Int32.toInt_inj.mp (by rw [h]; rfl)))
  · exact cp_tableIn (tgt := 133) O dX1_factOfPiece_18 h1 h2 (off := 115) (by rw [h]; rfl) (by decide) (k10 (Int32.toInt_inj.mp (by rw [h]; rfl)))
theorem sw_X1_factOfPlate_15 {x : cp_Cx} {E : cp_En} {nL d mc ms cells slots cnt : Nat} {sh : cp_Shp} {I : cp_Mem} {R : cp_Rem} {L : List (Option Value)} {st : List Value} {v : Int32} (O : cp_Ok x E RX1 cX1_factOfPlate nL d mc ms) (k0 : v = 0 → cp_G x E nL cells slots cnt sh I R 48 L st) (k1 : v = 1 → cp_G x E nL cells slots cnt sh I R 58 L st) (k2 : v = 2 → cp_G x E nL cells slots cnt sh I R 67 L st) (k3 : v = 3 → cp_G x E nL cells slots cnt sh I R 80 L st) (k4 : v = 4 → cp_G x E nL cells slots cnt sh I R 90 L st) (kd : (v.toInt < 0 ∨ 4 < v.toInt) → cp_G x E nL cells slots cnt sh I R 104 L st) : cp_G x E nL cells slots cnt sh I R 15 L (.int v :: st) := by
  by_cases h1 : v.toInt < 0
  · exact cp_tableOut O dX1_factOfPlate_15 (Or.inl h1) (by decide) (kd (Or.inl h1))
  by_cases h2 : 4 < v.toInt
  · exact cp_tableOut O dX1_factOfPlate_15 (Or.inr h2) (by decide) (kd (Or.inr h2))
  have h3 : v.toInt = 0 ∨ v.toInt = 1 ∨ v.toInt = 2 ∨ v.toInt = 3 ∨ v.toInt = 4 := by omega
  rcases h3 with h | h | h | h | h
  · exact cp_tableIn (tgt := 48) O dX1_factOfPlate_15 h1 h2 (off := 33) (by rw [h]; rfl) (by decide) (k0 (Int32.toInt_inj.mp (by rw [h]; rfl)))
  · exact cp_tableIn (tgt := 58) O dX1_factOfPlate_15 h1 h2 (off := 43) (by rw [h]; rfl) (by decide) (k1 (Int32.toInt_inj.mp (by rw [h]; rfl)))
  · exact cp_tableIn (tgt := 67) O dX1_factOfPlate_15 h1 h2 (off := 52) (by rw [h]; rfl) (by decide) (k2 (Int32.toInt_inj.mp (by rw [h]; rfl)))
  · exact cp_tableIn (tgt := 80) O dX1_factOfPlate_15 h1 h2 (off := 65) (by rw [h]; rfl) (by decide) (k3 (Int32.toInt_inj.mp (by rw [h]; rfl)))
  · exact cp_tableIn (tgt := 90) O dX1_factOfPlate_15 h1 h2 (off := 75) (by rw [h]; rfl) (by decide) (k4 (Int32.toInt_inj.mp (by rw [h]; rfl)))
theorem sw_X1_factOfNight_1 {x : cp_Cx} {E : cp_En} {nL d mc ms cells slots cnt : Nat} {sh : cp_Shp} {I : cp_Mem} {R : cp_Rem} {L : List (Option Value)} {st : List Value} {v : Int32} (O : cp_Ok x E RX1 cX1_factOfNight nL d mc ms) (k0 : v = 0 → cp_G x E nL cells slots cnt sh I R 72 L st) (k1 : v = 1 → cp_G x E nL cells slots cnt sh I R 77 L st) (k2 : v = 2 → cp_G x E nL cells slots cnt sh I R 82 L st) (k3 : v = 3 → cp_G x E nL cells slots cnt sh I R 87 L st) (k4 : v = 4 → cp_G x E nL cells slots cnt sh I R 92 L st) (k5 : v = 5 → cp_G x E nL cells slots cnt sh I R 98 L st) (k6 : v = 6 → cp_G x E nL cells slots cnt sh I R 104 L st) (k7 : v = 7 → cp_G x E nL cells slots cnt sh I R 110 L st) (k8 : v = 8 → cp_G x E nL cells slots cnt sh I R 116 L st) (k9 : v = 9 → cp_G x E nL cells slots cnt sh I R 121 L st) (k10 : v = 10 → cp_G x E nL cells slots cnt sh I R 126 L st) (k11 : v = 11 → cp_G x E nL cells slots cnt sh I R 133 L st) (k12 : v = 12 → cp_G x E nL cells slots cnt sh I R 140 L st) (k13 : v = 13 → cp_G x E nL cells slots cnt sh I R 147 L st) (kd : (v.toInt < 0 ∨ 13 < v.toInt) → cp_G x E nL cells slots cnt sh I R 154 L st) : cp_G x E nL cells slots cnt sh I R 1 L (.int v :: st) := by
  by_cases h1 : v.toInt < 0
  · exact cp_tableOut O dX1_factOfNight_1 (Or.inl h1) (by decide) (kd (Or.inl h1))
  by_cases h2 : 13 < v.toInt
  · exact cp_tableOut O dX1_factOfNight_1 (Or.inr h2) (by decide) (kd (Or.inr h2))
  have h3 : v.toInt = 0 ∨ v.toInt = 1 ∨ v.toInt = 2 ∨ v.toInt = 3 ∨ v.toInt = 4 ∨ v.toInt = 5 ∨ v.toInt = 6 ∨ v.toInt = 7 ∨ v.toInt = 8 ∨ v.toInt = 9 ∨ v.toInt = 10 ∨ v.toInt = 11 ∨ v.toInt = 12 ∨ v.toInt = 13 := by omega
  rcases h3 with h | h | h | h | h | h | h | h | h | h | h | h | h | h
  · exact cp_tableIn (tgt := 72) O dX1_factOfNight_1 h1 h2 (off := 71) (by rw [h]; rfl) (by decide) (k0 (Int32.toInt_inj.mp (by rw [h]; rfl)))
  · exact cp_tableIn (tgt := 77) O dX1_factOfNight_1 h1 h2 (off := 76) (by rw [h]; rfl) (by decide) (k1 (Int32.toInt_inj.mp (by rw [h]; rfl)))
  · exact cp_tableIn (tgt := 82) O dX1_factOfNight_1 h1 h2 (off := 81) (by rw [h]; rfl) (by decide) (k2 (Int32.toInt_inj.mp (by rw [h]; rfl)))
  · exact cp_tableIn (tgt := 87) O dX1_factOfNight_1 h1 h2 (off := 86) (by rw [h]; rfl) (by decide) (k3 (Int32.toInt_inj.mp (by rw [h]; rfl)))
  · exact cp_tableIn (tgt := 92) O dX1_factOfNight_1 h1 h2 (off := 91) (by rw [h]; rfl) (by decide) (k4 (Int32.toInt_inj.mp (by rw [h]; rfl)))
  · exact cp_tableIn (tgt := 98) O dX1_factOfNight_1 h1 h2 (off := 97) (by rw [h]; rfl) (by decide) (k5 (Int32.toInt_inj.mp (by rw [h]; rfl)))
  · exact cp_tableIn (tgt := 104) O dX1_factOfNight_1 h1 h2 (off := 103) (by rw [h]; rfl) (by decide) (k6 (Int32.toInt_inj.mp (by rw [h]; rfl)))
  · exact cp_tableIn (tgt := 110) O dX1_factOfNight_1 h1 h2 (off := 109) (by rw [h]; rfl) (by decide) (k7 (Int32.toInt_inj.mp (by rw [h]; rfl)))
  · exact cp_tableIn (tgt := 116) O dX1_factOfNight_1 h1 h2 (off := 115) (by rw [h]; rfl) (by decide) (k8 (Int32.toInt_inj.mp (by rw [h]; rfl)))
  · exact cp_tableIn (tgt := 121) O dX1_factOfNight_1 h1 h2 (off := 120) (by rw [h]; rfl) (by decide) (k9 (Int32.toInt_inj.mp (by rw [h]; rfl)))
  · exact cp_tableIn (tgt := 126) O dX1_factOfNight_1 h1 h2 (off := 125) (by rw [h]; rfl) (by decide) (k10 (Int32.toInt_inj.mp (by rw [h]; rfl)))
  · exact cp_tableIn (tgt := 133) O dX1_factOfNight_1 h1 h2 (off := 132) (by rw [h]; rfl) (by decide) (k11 (Int32.toInt_inj.mp (by rw [h]; rfl)))
  · exact cp_tableIn (tgt := 140) O dX1_factOfNight_1 h1 h2 (off := 139) (by rw [h]; rfl) (by decide) (k12 (Int32.toInt_inj.mp (by rw [h]; rfl)))
  · exact cp_tableIn (tgt := 147) O dX1_factOfNight_1 h1 h2 (off := 146) (by rw [h]; rfl) (by decide) (k13 (Int32.toInt_inj.mp (by rw [h]; rfl)))
set_option maxHeartbeats 4000000 in
set_option maxRecDepth 100000 in
theorem c_X1_factOfPiece {lc : Launch} {E : cp_En} {cnt : Nat} {sh : cp_Shp} {R : cp_Rem} {J : cp_Mem} {b : Nat} {o S : Nat → Int32} {P Q : cp_PP} (N : cp_NL sh R b) {n : Nat} (h3 : o 3 = nI n) (hn : n ≤ 24) {mi np : Nat} {lq : List Nat} (h5 : o 5 = nI np) (hq : np ≤ 8) (hV : cp_PV n P lq) (hL : cp_LT mi P lq) (hPN : cp_PN n P) {v1 v2 : Int32} : cp_Fn lc E yX1_factOfPiece cX1_factOfPiece 4 (some .int) 3 [.ref b, .int v1, .int v2] cnt sh (cp_nn J b o S P Q) R (some (.int (cp_sOfPiece (S, mi, n, P, np, Q, lq) v1 v2))) (cp_nn J b o S P Q) := by
  refine cp_Fn_i [some (.ref b), some (.int v1), some (.int v2), none] (by decide +kernel) (Nat.le_of_ble_eq_true rfl) rfl rfl (fun x hxl O hr => ?_)
  subst hxl
  refine cp_aload_n O dX1_factOfPiece_0 cp_lg0 ?_
  refine cp_iload_n O dX1_factOfPiece_1 cp_lg1 ?_
  refine cp_cVi O me_X1_hasPiece mi_X1_hasPiece ml_X1_60 cp_cX1 N.s (c_X1_hasPiece N h3 hn) dX1_factOfPiece_2 rfl rfl ⟨Nat.le_of_ble_eq_true rfl, Nat.le_of_ble_eq_true rfl⟩ ⟨Nat.le_refl _, Nat.le_refl _⟩ (Nat.le_of_ble_eq_true rfl) ?_
  refine cp_if_neB (tgt := 10) O dX1_factOfPiece_5 (by decide) (fun c_5 => ?_) (fun c_5 => ?_)
  · obtain ⟨p, hp, rfl⟩ := (cp_ip_iff (by omega)).mp c_5
    have hpt : (nI p).toInt.toNat = p := cp_nIt (by omega)
    have hw : ∀ v2, cp_sOfPiece (S, mi, n, P, np, Q, lq) (nI p) v2 = if cp_rg 0 7 v2 = true then P p v2.toInt.toNat else if v2 = 8 then cp_pl (S, mi, n, P, np, Q, lq) p else if v2 = 9 then P p 8 else if v2 = 10 then cp_pw Q p np else -2 := fun v2 => by
      show (if cp_ip n (nI p) = true then (if cp_rg 0 7 v2 = true then P (nI p).toInt.toNat v2.toInt.toNat else if v2 = 8 then cp_pl (S, mi, n, P, np, Q, lq) (nI p).toInt.toNat else if v2 = 9 then P (nI p).toInt.toNat 8 else if v2 = 10 then cp_pw Q (nI p).toInt.toNat np else -2) else -1) = _
      rw [if_pos c_5, hpt]
    have h30 := (hPN p hp).2.2.1
    have h50 := (hPN p hp).2.2.2.1
    refine cp_aload_n O dX1_factOfPiece_10 cp_lg0 ?_
    refine fg_X1_29 O N.s N.pcs dX1_factOfPiece_11 ?_
    refine cp_iload_n O dX1_factOfPiece_14 cp_lg1 ?_
    refine cp_aaldr O (Or.inr (Or.inl ⟨rfl, rfl⟩)) N.spcs (j := p) rfl (by omega) (by decide) (N.pc (by omega)) dX1_factOfPiece_15 ?_
    refine cp_astore_n O dX1_factOfPiece_16 (by decide) (cp_ls3 rfl) ?_
    refine cp_iload_n O dX1_factOfPiece_17 cp_lg2 ?_
    refine sw_X1_factOfPiece_18 O (fun c_18 => ?_) (fun c_18 => ?_) (fun c_18 => ?_) (fun c_18 => ?_) (fun c_18 => ?_) (fun c_18 => ?_) (fun c_18 => ?_) (fun c_18 => ?_) (fun c_18 => ?_) (fun c_18 => ?_) (fun c_18 => ?_) (fun c_18 => ?_)
    · subst c_18
      refine cp_aload_n O dX1_factOfPiece_76 cp_lg3 ?_
      refine pg_X1_115 O N (by omega) dX1_factOfPiece_77 ?_
      exact hr _ _ _ _ dX1_factOfPiece_80 (by rw [hw, if_pos (by decide)]; rfl) rfl
    · subst c_18
      refine cp_aload_n O dX1_factOfPiece_81 cp_lg3 ?_
      refine pg_X1_144 O N (by omega) dX1_factOfPiece_82 ?_
      exact hr _ _ _ _ dX1_factOfPiece_85 (by rw [hw, if_pos (by decide)]; rfl) rfl
    · subst c_18
      refine cp_aload_n O dX1_factOfPiece_86 cp_lg3 ?_
      refine pg_X1_156 O N (by omega) dX1_factOfPiece_87 ?_
      exact hr _ _ _ _ dX1_factOfPiece_90 (by rw [hw, if_pos (by decide)]; rfl) rfl
    · subst c_18
      refine cp_aload_n O dX1_factOfPiece_91 cp_lg3 ?_
      refine pg_X1_188 O N (by omega) dX1_factOfPiece_92 ?_
      rw [cp_01 h30]
      refine cp_cSNi O me_X6_oneIf ms_X6_oneIf ml_X1_89 (c_X6_oneIf) dX1_factOfPiece_95 rfl rfl ⟨Nat.le_of_ble_eq_true rfl, Nat.le_of_ble_eq_true rfl⟩ ⟨Nat.le_refl _, Nat.le_refl _⟩ (Nat.le_of_ble_eq_true rfl) ?_
      exact hr _ _ _ _ dX1_factOfPiece_98 (by rw [hw, if_pos (by decide)]; exact (cp_01 h30).symm) rfl
    · subst c_18
      refine cp_aload_n O dX1_factOfPiece_99 cp_lg3 ?_
      refine pg_X1_64 O N (by omega) dX1_factOfPiece_100 ?_
      exact hr _ _ _ _ dX1_factOfPiece_103 (by rw [hw, if_pos (by decide)]; rfl) rfl
    · subst c_18
      refine cp_aload_n O dX1_factOfPiece_104 cp_lg3 ?_
      refine pg_X1_85 O N (by omega) dX1_factOfPiece_105 ?_
      rw [cp_01 h50]
      refine cp_cSNi O me_X6_oneIf ms_X6_oneIf ml_X1_89 (c_X6_oneIf) dX1_factOfPiece_108 rfl rfl ⟨Nat.le_of_ble_eq_true rfl, Nat.le_of_ble_eq_true rfl⟩ ⟨Nat.le_refl _, Nat.le_refl _⟩ (Nat.le_of_ble_eq_true rfl) ?_
      exact hr _ _ _ _ dX1_factOfPiece_111 (by rw [hw, if_pos (by decide)]; exact (cp_01 h50).symm) rfl
    · subst c_18
      refine cp_aload_n O dX1_factOfPiece_112 cp_lg3 ?_
      refine pg_X1_191 O N (by omega) dX1_factOfPiece_113 ?_
      exact hr _ _ _ _ dX1_factOfPiece_116 (by rw [hw, if_pos (by decide)]; rfl) rfl
    · subst c_18
      refine cp_aload_n O dX1_factOfPiece_117 cp_lg3 ?_
      refine pg_X1_194 O N (by omega) dX1_factOfPiece_118 ?_
      exact hr _ _ _ _ dX1_factOfPiece_121 (by rw [hw, if_pos (by decide)]; rfl) rfl
    · subst c_18
      refine cp_aload_n O dX1_factOfPiece_122 cp_lg0 ?_
      refine cp_iload_n O dX1_factOfPiece_123 cp_lg1 ?_
      refine cp_cVi O me_X1_placeInQueue mi_X1_placeInQueue ml_X1_197 cp_cX1 N.s (c_X1_placeInQueue (mi := mi) (np := np) N h3 hn hV hL hp) dX1_factOfPiece_124 rfl rfl ⟨Nat.le_of_ble_eq_true rfl, Nat.le_of_ble_eq_true rfl⟩ ⟨Nat.le_refl _, Nat.le_refl _⟩ (Nat.le_of_ble_eq_true rfl) ?_
      exact hr _ _ _ _ dX1_factOfPiece_127 (by rw [hw, if_neg (by decide), if_pos rfl]) rfl
    · subst c_18
      refine cp_aload_n O dX1_factOfPiece_128 cp_lg3 ?_
      refine pg_X1_159 O N (by omega) dX1_factOfPiece_129 ?_
      exact hr _ _ _ _ dX1_factOfPiece_132 (by rw [hw, if_neg (by decide), if_neg (by decide), if_pos rfl]) rfl
    · subst c_18
      refine cp_aload_n O dX1_factOfPiece_133 cp_lg0 ?_
      refine cp_iload_n O dX1_factOfPiece_134 cp_lg1 ?_
      refine cp_cVi O me_X1_platesWith mi_X1_platesWith ml_X1_200 cp_cX1 N.s (c_X1_platesWith N h5 hq) dX1_factOfPiece_135 rfl rfl ⟨Nat.le_of_ble_eq_true rfl, Nat.le_of_ble_eq_true rfl⟩ ⟨Nat.le_refl _, Nat.le_refl _⟩ (Nat.le_of_ble_eq_true rfl) ?_
      exact hr _ _ _ _ dX1_factOfPiece_138 (by rw [hw, if_neg (by decide), if_neg (by decide), if_neg (by decide), if_pos rfl]) rfl
    · refine cp_bipush O dX1_factOfPiece_139 (v := (-2)) rfl ?_
      exact hr _ _ _ _ dX1_factOfPiece_141 (by rw [hw, if_neg (fun z => by have z2 := of_decide_eq_true (show decide ((0 : Int) ≤ v2.toInt ∧ v2.toInt ≤ 7) = true from z); omega), if_neg (fun e => by rw [e] at c_18; exact absurd c_18 (by decide)), if_neg (fun e => by rw [e] at c_18; exact absurd c_18 (by decide)), if_neg (fun e => by rw [e] at c_18; exact absurd c_18 (by decide))]) rfl
  · refine cp_iconst O dX1_factOfPiece_8 (v := (-1)) rfl ?_
    exact hr _ _ _ _ dX1_factOfPiece_9 (by show _ = if cp_ip n v1 = true then _ else (-1 : Int32); rw [if_neg (cp_bF c_5)]) rfl
set_option maxHeartbeats 4000000 in
set_option maxRecDepth 100000 in
theorem c_X1_factOfPlate {lc : Launch} {E : cp_En} {cnt : Nat} {sh : cp_Shp} {R : cp_Rem} {J : cp_Mem} {b : Nat} {o S : Nat → Int32} {P Q : cp_PP} (N : cp_NL sh R b) {n : Nat} (h3 : o 3 = nI n) (hn : n ≤ 24) {mi np : Nat} {lq : List Nat} (h1 : o 1 = nI mi) (hm : mi < 100000) (h5 : o 5 = nI np) (hq : np ≤ 8) (hQ1 : ∀ j, j < np → Q j 1 = 0 ∨ Q j 1 = 1) {v1 v2 : Int32} : cp_Fn lc E yX1_factOfPlate cX1_factOfPlate 3 (some .int) 2 [.ref b, .int v1, .int v2] cnt sh (cp_nn J b o S P Q) R (some (.int (cp_sOfPlate (S, mi, n, P, np, Q, lq) v1 v2))) (cp_nn J b o S P Q) := by
  refine cp_Fn_i [some (.ref b), some (.int v1), some (.int v2)] (by decide +kernel) (Nat.le_of_ble_eq_true rfl) rfl rfl (fun x hxl O hr => ?_)
  subst hxl
  refine cp_iload_n O dX1_factOfPlate_0 cp_lg1 ?_
  refine cp_if_lt (tgt := 12) O dX1_factOfPlate_1 (by decide) (fun c_1 => ?_) (fun c_1 => ?_)
  · refine cp_iconst O dX1_factOfPlate_12 (v := (-1)) rfl ?_
    exact hr _ _ _ _ dX1_factOfPlate_13 (by show _ = if cp_ip np v1 = true then _ else (-1 : Int32); rw [if_neg (cp_bF (cp_ip_n1 c_1))]) rfl
  · refine cp_iload_n O dX1_factOfPlate_4 cp_lg1 ?_
    refine cp_aload_n O dX1_factOfPlate_5 cp_lg0 ?_
    refine ng_X1_44 O N dX1_factOfPlate_6 ?_
    rw [h5]
    refine cp_icmp_lt (tgt := 14) O dX1_factOfPlate_9 (by decide) (fun c_9 => ?_) (fun c_9 => ?_)
    · have hip := cp_ip_y (n := np) (by omega) c_1 (Int32.not_le.mpr c_9)
      obtain ⟨j, hj, rfl⟩ := (cp_ip_iff (by omega)).mp hip
      have hjt : (nI j).toInt.toNat = j := cp_nIt (by omega)
      have hw : ∀ v2, cp_sOfPlate (S, mi, n, P, np, Q, lq) (nI j) v2 = if v2 = 0 then Q j 0 else if v2 = 1 then cp_bi (decide ((Q j 0).toInt < mi)) else if v2 = 2 then Q j 1 else if v2 = 3 then Q j 2 else if v2 = 4 then cp_lin P (Q j 2) n else -2 := fun v2 => by
        show (if cp_ip np (nI j) = true then (if v2 = 0 then Q (nI j).toInt.toNat 0 else if v2 = 1 then cp_bi (decide ((Q (nI j).toInt.toNat 0).toInt < mi)) else if v2 = 2 then Q (nI j).toInt.toNat 1 else if v2 = 3 then Q (nI j).toInt.toNat 2 else if v2 = 4 then cp_lin P (Q (nI j).toInt.toNat 2) n else -2) else -1) = _
        rw [if_pos hip, hjt]
      have h10 := hQ1 j hj
      refine cp_iload_n O dX1_factOfPlate_14 cp_lg2 ?_
      refine sw_X1_factOfPlate_15 O (fun c_15 => ?_) (fun c_15 => ?_) (fun c_15 => ?_) (fun c_15 => ?_) (fun c_15 => ?_) (fun c_15 => ?_)
      · subst c_15
        refine cp_aload_n O dX1_factOfPlate_48 cp_lg0 ?_
        refine fg_X1_39 O N.s N.pls dX1_factOfPlate_49 ?_
        refine cp_iload_n O dX1_factOfPlate_52 cp_lg1 ?_
        refine cp_aaldr O (Or.inr (Or.inr ⟨rfl, rfl⟩)) N.spls (j := j) rfl (by omega) (by decide) (N.pl (by omega)) dX1_factOfPlate_53 ?_
        refine qg_X1_174 O N (by omega) dX1_factOfPlate_54 ?_
        exact hr _ _ _ _ dX1_factOfPlate_57 (by rw [hw, if_pos rfl]) rfl
      · subst c_15
        refine cp_aload_n O dX1_factOfPlate_58 cp_lg0 ?_
        refine cp_iload_n O dX1_factOfPlate_59 cp_lg1 ?_
        refine cp_cVi O me_X1_isMade mi_X1_isMade ml_X1_178 cp_cX1 N.s (c_X1_isMade N rfl (by omega)) dX1_factOfPlate_60 rfl rfl ⟨Nat.le_of_ble_eq_true rfl, Nat.le_of_ble_eq_true rfl⟩ ⟨Nat.le_refl _, Nat.le_refl _⟩ (Nat.le_of_ble_eq_true rfl) ?_
        refine cp_cSNi O me_X6_oneIf ms_X6_oneIf ml_X1_89 (c_X6_oneIf) dX1_factOfPlate_63 rfl rfl ⟨Nat.le_of_ble_eq_true rfl, Nat.le_of_ble_eq_true rfl⟩ ⟨Nat.le_refl _, Nat.le_refl _⟩ (Nat.le_of_ble_eq_true rfl) ?_
        exact hr _ _ _ _ dX1_factOfPlate_66 (by rw [hw, if_neg (by decide), if_pos rfl, cp_mdQ h1 (by omega)]) rfl
      · subst c_15
        refine cp_aload_n O dX1_factOfPlate_67 cp_lg0 ?_
        refine fg_X1_39 O N.s N.pls dX1_factOfPlate_68 ?_
        refine cp_iload_n O dX1_factOfPlate_71 cp_lg1 ?_
        refine cp_aaldr O (Or.inr (Or.inr ⟨rfl, rfl⟩)) N.spls (j := j) rfl (by omega) (by decide) (N.pl (by omega)) dX1_factOfPlate_72 ?_
        refine qg_X1_203 O N (by omega) dX1_factOfPlate_73 ?_
        rw [cp_01 h10]
        refine cp_cSNi O me_X6_oneIf ms_X6_oneIf ml_X1_89 (c_X6_oneIf) dX1_factOfPlate_76 rfl rfl ⟨Nat.le_of_ble_eq_true rfl, Nat.le_of_ble_eq_true rfl⟩ ⟨Nat.le_refl _, Nat.le_refl _⟩ (Nat.le_of_ble_eq_true rfl) ?_
        exact hr _ _ _ _ dX1_factOfPlate_79 (by rw [hw, if_neg (by decide), if_neg (by decide), if_pos rfl]; exact (cp_01 h10).symm) rfl
      · subst c_15
        refine cp_aload_n O dX1_factOfPlate_80 cp_lg0 ?_
        refine fg_X1_39 O N.s N.pls dX1_factOfPlate_81 ?_
        refine cp_iload_n O dX1_factOfPlate_84 cp_lg1 ?_
        refine cp_aaldr O (Or.inr (Or.inr ⟨rfl, rfl⟩)) N.spls (j := j) rfl (by omega) (by decide) (N.pl (by omega)) dX1_factOfPlate_85 ?_
        refine qg_X1_113 O N (by omega) dX1_factOfPlate_86 ?_
        exact hr _ _ _ _ dX1_factOfPlate_89 (by rw [hw, if_neg (by decide), if_neg (by decide), if_neg (by decide), if_pos rfl]) rfl
      · subst c_15
        refine cp_aload_n O dX1_factOfPlate_90 cp_lg0 ?_
        refine cp_aload_n O dX1_factOfPlate_91 cp_lg0 ?_
        refine fg_X1_39 O N.s N.pls dX1_factOfPlate_92 ?_
        refine cp_iload_n O dX1_factOfPlate_95 cp_lg1 ?_
        refine cp_aaldr O (Or.inr (Or.inr ⟨rfl, rfl⟩)) N.spls (j := j) rfl (by omega) (by decide) (N.pl (by omega)) dX1_factOfPlate_96 ?_
        refine qg_X1_113 O N (by omega) dX1_factOfPlate_97 ?_
        refine cp_cVi O me_X1_linesOf mi_X1_linesOf ml_X1_206 cp_cX1 N.s (c_X1_linesOf N h3 hn) dX1_factOfPlate_100 rfl rfl ⟨Nat.le_of_ble_eq_true rfl, Nat.le_of_ble_eq_true rfl⟩ ⟨Nat.le_refl _, Nat.le_refl _⟩ (Nat.le_of_ble_eq_true rfl) ?_
        exact hr _ _ _ _ dX1_factOfPlate_103 (by rw [hw, if_neg (by decide), if_neg (by decide), if_neg (by decide), if_neg (by decide), if_pos rfl]) rfl
      · refine cp_bipush O dX1_factOfPlate_104 (v := (-2)) rfl ?_
        exact hr _ _ _ _ dX1_factOfPlate_106 (by rw [hw, if_neg (fun e => by rw [e] at c_15; exact absurd c_15 (by decide)), if_neg (fun e => by rw [e] at c_15; exact absurd c_15 (by decide)), if_neg (fun e => by rw [e] at c_15; exact absurd c_15 (by decide)), if_neg (fun e => by rw [e] at c_15; exact absurd c_15 (by decide)), if_neg (fun e => by rw [e] at c_15; exact absurd c_15 (by decide))]) rfl
    · refine cp_iconst O dX1_factOfPlate_12 (v := (-1)) rfl ?_
      exact hr _ _ _ _ dX1_factOfPlate_13 (by show _ = if cp_ip np v1 = true then _ else (-1 : Int32); rw [if_neg (cp_bF (cp_ip_n2 (by omega) (Int32.not_lt.mp c_9)))]) rfl
set_option maxHeartbeats 4000000 in
set_option maxRecDepth 100000 in
theorem c_X1_factOfNight {lc : Launch} {E : cp_En} {cnt : Nat} {sh : cp_Shp} {R : cp_Rem} {J : cp_Mem} {b : Nat} {o S : Nat → Int32} {P Q : cp_PP} (N : cp_NL sh R b) {n : Nat} (h3 : o 3 = nI n) (hn : n ≤ 24) {mi np : Nat} {lq : List Nat} (h1 : o 1 = nI mi) (hm : mi < 100000) (h5 : o 5 = nI np) (hq : np ≤ 8) (hh : ∀ i, i < n → P i 5 = 0 ∨ P i 5 = 1) (hQ1 : ∀ j, j < np → Q j 1 = 0 ∨ Q j 1 = 1) {pad his v1 : Int32} (hv : v1 ≠ 14) (hv2 : v1 ≠ 15) : cp_Fn lc E yX1_factOfNight cX1_factOfNight 2 (some .int) 2 [.ref b, .int v1] cnt sh (cp_nn J b o S P Q) R (some (.int (cp_sCount (S, mi, n, P, np, Q, lq) pad his v1))) (cp_nn J b o S P Q) := by
  refine cp_Fn_i [some (.ref b), some (.int v1)] (by decide +kernel) (Nat.le_of_ble_eq_true rfl) rfl rfl (fun x hxl O hr => ?_)
  subst hxl
  refine cp_iload_n O dX1_factOfNight_0 cp_lg1 ?_
  refine sw_X1_factOfNight_1 O (fun c_1 => ?_) (fun c_1 => ?_) (fun c_1 => ?_) (fun c_1 => ?_) (fun c_1 => ?_) (fun c_1 => ?_) (fun c_1 => ?_) (fun c_1 => ?_) (fun c_1 => ?_) (fun c_1 => ?_) (fun c_1 => ?_) (fun c_1 => ?_) (fun c_1 => ?_) (fun c_1 => ?_) (fun c_1 => ?_)
  · subst c_1
    refine cp_aload_n O dX1_factOfNight_72 cp_lg0 ?_
    refine ng_X1_23 O N dX1_factOfNight_73 ?_
    exact hr _ _ _ _ dX1_factOfNight_76 (by rw [h1]; rfl) rfl
  · subst c_1
    refine cp_aload_n O dX1_factOfNight_77 cp_lg0 ?_
    refine ng_X1_34 O N dX1_factOfNight_78 ?_
    exact hr _ _ _ _ dX1_factOfNight_81 (by rw [h3]; rfl) rfl
  · subst c_1
    refine cp_aload_n O dX1_factOfNight_82 cp_lg0 ?_
    refine ng_X1_44 O N dX1_factOfNight_83 ?_
    exact hr _ _ _ _ dX1_factOfNight_86 (by rw [h5]; rfl) rfl
  · subst c_1
    refine cp_aload_n O dX1_factOfNight_87 cp_lg0 ?_
    refine cp_cVi O me_X1_madePlates mi_X1_madePlates ml_X1_175 cp_cX1 N.s (c_X1_madePlates N h5 hq) dX1_factOfNight_88 rfl rfl ⟨Nat.le_of_ble_eq_true rfl, Nat.le_of_ble_eq_true rfl⟩ ⟨Nat.le_refl _, Nat.le_refl _⟩ (Nat.le_of_ble_eq_true rfl) ?_
    exact hr _ _ _ _ dX1_factOfNight_91 (by rw [cp_mdC h1 (by omega)]; rfl) rfl
  · subst c_1
    refine cp_aload_n O dX1_factOfNight_92 cp_lg0 ?_
    refine cp_iconst O dX1_factOfNight_93 (v := 0) rfl ?_
    refine cp_cVi O me_X1_piecesThatAre mi_X1_piecesThatAre ml_X1_209 cp_cX1 N.s (c_X1_piecesThatAre N h3 hn) dX1_factOfNight_94 rfl rfl ⟨Nat.le_of_ble_eq_true rfl, Nat.le_of_ble_eq_true rfl⟩ ⟨Nat.le_refl _, Nat.le_refl _⟩ (Nat.le_of_ble_eq_true rfl) ?_
    exact hr _ _ _ _ dX1_factOfNight_97 rfl rfl
  · subst c_1
    refine cp_aload_n O dX1_factOfNight_98 cp_lg0 ?_
    refine cp_iconst O dX1_factOfNight_99 (v := 1) rfl ?_
    refine cp_cVi O me_X1_piecesThatAre mi_X1_piecesThatAre ml_X1_209 cp_cX1 N.s (c_X1_piecesThatAre N h3 hn) dX1_factOfNight_100 rfl rfl ⟨Nat.le_of_ble_eq_true rfl, Nat.le_of_ble_eq_true rfl⟩ ⟨Nat.le_refl _, Nat.le_refl _⟩ (Nat.le_of_ble_eq_true rfl) ?_
    exact hr _ _ _ _ dX1_factOfNight_103 rfl rfl
  · subst c_1
    refine cp_aload_n O dX1_factOfNight_104 cp_lg0 ?_
    refine cp_iconst O dX1_factOfNight_105 (v := 2) rfl ?_
    refine cp_cVi O me_X1_piecesThatAre mi_X1_piecesThatAre ml_X1_209 cp_cX1 N.s (c_X1_piecesThatAre N h3 hn) dX1_factOfNight_106 rfl rfl ⟨Nat.le_of_ble_eq_true rfl, Nat.le_of_ble_eq_true rfl⟩ ⟨Nat.le_refl _, Nat.le_refl _⟩ (Nat.le_of_ble_eq_true rfl) ?_
    exact hr _ _ _ _ dX1_factOfNight_109 rfl rfl
  · subst c_1
    refine cp_aload_n O dX1_factOfNight_110 cp_lg0 ?_
    refine cp_iconst O dX1_factOfNight_111 (v := 3) rfl ?_
    refine cp_cVi O me_X1_piecesThatAre mi_X1_piecesThatAre ml_X1_209 cp_cX1 N.s (c_X1_piecesThatAre N h3 hn) dX1_factOfNight_112 rfl rfl ⟨Nat.le_of_ble_eq_true rfl, Nat.le_of_ble_eq_true rfl⟩ ⟨Nat.le_refl _, Nat.le_refl _⟩ (Nat.le_of_ble_eq_true rfl) ?_
    exact hr _ _ _ _ dX1_factOfNight_115 rfl rfl
  · subst c_1
    refine cp_aload_n O dX1_factOfNight_116 cp_lg0 ?_
    refine cp_cVi O me_X1_heldPieces mi_X1_heldPieces ml_X1_212 cp_cX1 N.s (c_X1_heldPieces N h3 hn hh) dX1_factOfNight_117 rfl rfl ⟨Nat.le_of_ble_eq_true rfl, Nat.le_of_ble_eq_true rfl⟩ ⟨Nat.le_refl _, Nat.le_refl _⟩ (Nat.le_of_ble_eq_true rfl) ?_
    exact hr _ _ _ _ dX1_factOfNight_120 rfl rfl
  · subst c_1
    refine cp_aload_n O dX1_factOfNight_121 cp_lg0 ?_
    refine cp_cVi O me_X1_replates mi_X1_replates ml_X1_215 cp_cX1 N.s (c_X1_replates N h5 hq hQ1) dX1_factOfNight_122 rfl rfl ⟨Nat.le_of_ble_eq_true rfl, Nat.le_of_ble_eq_true rfl⟩ ⟨Nat.le_refl _, Nat.le_refl _⟩ (Nat.le_of_ble_eq_true rfl) ?_
    exact hr _ _ _ _ dX1_factOfNight_125 rfl rfl
  · subst c_1
    refine cp_aload_n O dX1_factOfNight_126 cp_lg0 ?_
    refine fg_X1_18 O N.s N.set dX1_factOfNight_127 ?_
    refine cp_iconst O dX1_factOfNight_130 (v := 0) rfl ?_
    refine cp_ialdS O N (j := 0) rfl (by omega) dX1_factOfNight_131 ?_
    exact hr _ _ _ _ dX1_factOfNight_132 rfl rfl
  · subst c_1
    refine cp_aload_n O dX1_factOfNight_133 cp_lg0 ?_
    refine fg_X1_18 O N.s N.set dX1_factOfNight_134 ?_
    refine cp_iconst O dX1_factOfNight_137 (v := 1) rfl ?_
    refine cp_ialdS O N (j := 1) rfl (by omega) dX1_factOfNight_138 ?_
    exact hr _ _ _ _ dX1_factOfNight_139 rfl rfl
  · subst c_1
    refine cp_aload_n O dX1_factOfNight_140 cp_lg0 ?_
    refine fg_X1_18 O N.s N.set dX1_factOfNight_141 ?_
    refine cp_iconst O dX1_factOfNight_144 (v := 2) rfl ?_
    refine cp_ialdS O N (j := 2) rfl (by omega) dX1_factOfNight_145 ?_
    exact hr _ _ _ _ dX1_factOfNight_146 rfl rfl
  · subst c_1
    refine cp_aload_n O dX1_factOfNight_147 cp_lg0 ?_
    refine fg_X1_18 O N.s N.set dX1_factOfNight_148 ?_
    refine cp_iconst O dX1_factOfNight_151 (v := 3) rfl ?_
    refine cp_ialdS O N (j := 3) rfl (by omega) dX1_factOfNight_152 ?_
    exact hr _ _ _ _ dX1_factOfNight_153 rfl rfl
  · refine cp_bipush O dX1_factOfNight_154 (v := (-2)) rfl ?_
    exact hr _ _ _ _ dX1_factOfNight_156 (by unfold cp_sCount; rw [if_neg (fun e => by rw [e] at c_1; exact absurd c_1 (by decide)), if_neg (fun e => by rw [e] at c_1; exact absurd c_1 (by decide)), if_neg (fun e => by rw [e] at c_1; exact absurd c_1 (by decide)), if_neg (fun e => by rw [e] at c_1; exact absurd c_1 (by decide)), if_neg (fun e => by rw [e] at c_1; exact absurd c_1 (by decide)), if_neg (fun e => by rw [e] at c_1; exact absurd c_1 (by decide)), if_neg (fun e => by rw [e] at c_1; exact absurd c_1 (by decide)), if_neg (fun e => by rw [e] at c_1; exact absurd c_1 (by decide)), if_neg (fun e => by rw [e] at c_1; exact absurd c_1 (by decide)), if_neg (fun e => by rw [e] at c_1; exact absurd c_1 (by decide)), if_neg (fun e => by rw [e] at c_1; exact absurd c_1 (by decide)), if_neg (fun e => by rw [e] at c_1; exact absurd c_1 (by decide)), if_neg (fun e => by rw [e] at c_1; exact absurd c_1 (by decide)), if_neg (fun e => by rw [e] at c_1; exact absurd c_1 (by decide)), if_neg hv, if_neg hv2]) rfl

