theorem cp_four {q : Nat} (h : q ≤ 3) : q = 0 ∨ q = 1 ∨ q = 2 ∨ q = 3 := by omega
theorem cp_opl {a : Nat → Int32} {N : cp_Nt} {j q : Nat} (hQ : cp_MQ a (cp_tm N) (cp_tp N) (cp_tQ N)) (hj : j < cp_tp N) (hq : q ≤ 3) (hip : cp_ip (cp_tp N) (nI j) = true) : a (374 + 4 * j + q) = cp_sOfPlate N (nI j) (nI q) := by
  obtain ⟨g1, g2, g3, g4, g5⟩ := hQ.2.2.1 j hj
  have h8 := hQ.1
  unfold cp_sOfPlate
  rw [if_pos hip, cp_nIt (by omega)]
  rcases cp_four hq with rfl | rfl | rfl | rfl
  · exact g2
  · exact g3
  · exact g4
  · exact g5
theorem cp_cnt0 {a : Nat → Int32} {N : cp_Nt} {pad his : Int32} {q : Nat} (hA : cp_MA a N) (hq : q ≤ 3) : a (4 + q) = cp_sCount N pad his (nI q) := by
  rcases cp_four hq with rfl | rfl | rfl | rfl
  · exact hA.2.1
  · exact hA.2.2.1
  · exact hA.2.2.2.2.2.1
  · exact hA.2.2.2.2.2.2.2
theorem cp_cnt4 {N : cp_Nt} {pad his : Int32} {q : Nat} (h4 : 4 ≤ q) (h7 : q ≤ 7) : nI (cp_cnt (fun i => decide (cp_tP N i 4 = nI q - 4)) (cp_tn N)) = cp_sCount N pad his (nI q) := by
  rcases (show q = 4 ∨ q = 5 ∨ q = 6 ∨ q = 7 by omega) with rfl | rfl | rfl | rfl <;> rfl
theorem cp_cnt10 {a : Nat → Int32} {N : cp_Nt} {pad his : Int32} {q : Nat} (hA : cp_MA a N) (h4 : 10 ≤ q) (h7 : q ≤ 13) : a (q - 10) = cp_sCount N pad his (nI q) := by
  rcases (show q = 10 ∨ q = 11 ∨ q = 12 ∨ q = 13 by omega) with rfl | rfl | rfl | rfl
  · exact hA.1 0 (by decide)
  · exact hA.1 1 (by decide)
  · exact hA.1 2 (by decide)
  · exact hA.1 3 (by decide)
theorem cp_rg_no {l h : Nat} {v : Int32} (hr : cp_rg l h v = false) (k : Nat) (hk : k < 2 ^ 31) (h1 : l ≤ k) (h2 : k ≤ h) : v ≠ nI k := fun e => by
  rw [cp_rg_t e hk h1 h2] at hr
  exact absurd hr (by decide)
set_option maxHeartbeats 4000000 in
set_option maxRecDepth 100000 in
theorem c_X7_ofPlate {lc : Launch} {E : cp_En} {cnt : Nat} {sh : cp_Shp} {R : cp_Rem} {J : cp_Mem} {m : Nat} {f : Nat → Int32} {r : Nat → Nat → Int32} {a : Nat → Int32} (M : cp_ML sh R m) {N : cp_Nt} (hA : cp_MA a N) (hV : cp_NV N) {v1 v2 : Int32} : cp_Fn lc E yX7_ofPlate cX7_ofPlate 3 (some .int) 2 [.ref m, .int v1, .int v2] cnt sh (cp_ma J m f r a) R (some (.int (cp_sOfPlate N v1 v2))) (cp_ma J m f r a) := by
  obtain ⟨hAS, hA4, hA5, hAW, hAQ⟩ := id hA
  obtain ⟨hVS, hVm, hVP, hVN, hVQ⟩ := id hV
  have hn24 := hVP.1
  have hnp8 := hAQ.1
  refine cp_Fn_i [some (.ref m), some (.int v1), some (.int v2)] (by decide +kernel) (Nat.le_of_ble_eq_true rfl) rfl rfl (fun x hxl O hr => ?_)
  subst hxl
  refine cp_iload_n O dX7_ofPlate_0 cp_lg1 ?_
  refine cp_i2l O dX7_ofPlate_1 ?_
  refine cp_lconst O dX7_ofPlate_2 (v := 0) rfl ?_
  refine cp_aload_n O dX7_ofPlate_3 cp_lg0 ?_
  refine fg_X7_7 O M.s M.f0 dX7_ofPlate_4 ?_
  refine cp_bipush O dX7_ofPlate_7 (v := 6) rfl ?_
  refine cp_ialdA O M (j := 6) rfl (by omega) dX7_ofPlate_9 ?_
  refine cp_i2l O dX7_ofPlate_10 ?_
  refine cp_lconst O dX7_ofPlate_11 (v := 1) rfl ?_
  refine cp_lsub O dX7_ofPlate_12 ?_
  refine cp_cSi O me_X7_in ms_X7_in ml_X7_35 (c_X7_in) dX7_ofPlate_13 rfl rfl ⟨Nat.le_of_ble_eq_true rfl, Nat.le_of_ble_eq_true rfl⟩ ⟨Nat.le_refl _, Nat.le_refl _⟩ (Nat.le_of_ble_eq_true rfl) ?_
  rw [hAQ.2.1, cp_in_ip (by omega)]
  refine cp_if_neB (tgt := 21) O dX7_ofPlate_16 (by decide) (fun c_16 => ?_) (fun c_16 => ?_)
  · obtain ⟨j, hj, rfl⟩ := (cp_ip_iff (by omega)).mp c_16
    refine cp_iload_n O dX7_ofPlate_21 cp_lg2 ?_
    refine cp_i2l O dX7_ofPlate_22 ?_
    refine cp_lconst O dX7_ofPlate_23 (v := 0) rfl ?_
    refine cp_ldc2 O cl_X7_167 dX7_ofPlate_24 ?_
    refine cp_cSi O me_X7_in ms_X7_in ml_X7_35 (c_X7_in) dX7_ofPlate_27 rfl rfl ⟨Nat.le_of_ble_eq_true rfl, Nat.le_of_ble_eq_true rfl⟩ ⟨Nat.le_refl _, Nat.le_refl _⟩ (Nat.le_of_ble_eq_true rfl) ?_
    rw [cp_in_rg (l := 0) (h := 3) rfl rfl]
    refine cp_if_eqB (tgt := 42) O dX7_ofPlate_30 (by decide) (fun c_30 => ?_) (fun c_30 => ?_)
    · refine cp_iload_n O dX7_ofPlate_42 cp_lg2 ?_
      refine cp_iconst O dX7_ofPlate_43 (v := 4) rfl ?_
      refine cp_icmp_ne (tgt := 60) O dX7_ofPlate_44 (by decide) (fun c_44 => ?_) (fun c_44 => ?_)
      · refine cp_bipush O dX7_ofPlate_60 (v := (-2)) rfl ?_
        exact hr _ _ _ _ dX7_ofPlate_62 (by unfold cp_sOfPlate; rw [if_pos c_16, if_neg (show ¬ v2 = (0 : Int32) from cp_rg_no (l := 0) (h := 3) c_30 0 (by decide) (by decide) (by decide)), if_neg (show ¬ v2 = (1 : Int32) from cp_rg_no (l := 0) (h := 3) c_30 1 (by decide) (by decide) (by decide)), if_neg (show ¬ v2 = (2 : Int32) from cp_rg_no (l := 0) (h := 3) c_30 2 (by decide) (by decide) (by decide)), if_neg (show ¬ v2 = (3 : Int32) from cp_rg_no (l := 0) (h := 3) c_30 3 (by decide) (by decide) (by decide)), if_neg c_44]) rfl
      · refine cp_aload_n O dX7_ofPlate_47 cp_lg0 ?_
        refine cp_aload_n O dX7_ofPlate_48 cp_lg0 ?_
        refine cp_iload_n O dX7_ofPlate_49 cp_lg1 ?_
        refine cp_iconst O dX7_ofPlate_50 (v := 3) rfl ?_
        refine cp_cVi O me_X7_plateAt mi_X7_plateAt ml_X7_85 cp_cX7 M.s (cp_Fn_eq (v' := some (.int (cp_tQ N j 2))) (c_X7_plateAt (j := j) (q := 3) M rfl rfl (by omega) (by omega)) (by rw [(hAQ.2.2.1 j hj).2.2.2.2]) rfl) dX7_ofPlate_51 rfl rfl ⟨Nat.le_of_ble_eq_true rfl, Nat.le_of_ble_eq_true rfl⟩ ⟨Nat.le_refl _, Nat.le_refl _⟩ (Nat.le_of_ble_eq_true rfl) ?_
        refine cp_cVi O me_X7_linesOf mi_X7_linesOf ml_X7_169 cp_cX7 M.s (c_X7_linesOf M hn24 hAW.1 hA5) dX7_ofPlate_54 rfl rfl ⟨Nat.le_of_ble_eq_true rfl, Nat.le_of_ble_eq_true rfl⟩ ⟨Nat.le_refl _, Nat.le_refl _⟩ (Nat.le_of_ble_eq_true rfl) ?_
        refine cp_goto (tgt := 62) O dX7_ofPlate_57 (by decide) ?_
        exact hr _ _ _ _ dX7_ofPlate_62 (by subst c_44; unfold cp_sOfPlate; rw [if_pos c_16, cp_nIt (by omega)]; rfl) rfl
    · obtain ⟨q, -, hq3, rfl⟩ := cp_rg_nI (l := 0) (h := 3) c_30
      refine cp_aload_n O dX7_ofPlate_33 cp_lg0 ?_
      refine cp_iload_n O dX7_ofPlate_34 cp_lg1 ?_
      refine cp_iload_n O dX7_ofPlate_35 cp_lg2 ?_
      refine cp_cVi O me_X7_plateAt mi_X7_plateAt ml_X7_85 cp_cX7 M.s (c_X7_plateAt (j := j) (q := q) M rfl rfl (by omega) (by omega)) dX7_ofPlate_36 rfl rfl ⟨Nat.le_of_ble_eq_true rfl, Nat.le_of_ble_eq_true rfl⟩ ⟨Nat.le_refl _, Nat.le_refl _⟩ (Nat.le_of_ble_eq_true rfl) ?_
      refine cp_goto (tgt := 62) O dX7_ofPlate_39 (by decide) ?_
      exact hr _ _ _ _ dX7_ofPlate_62 (cp_opl hAQ hj (by omega) c_16) rfl
  · refine cp_iconst O dX7_ofPlate_19 (v := (-1)) rfl ?_
    exact hr _ _ _ _ dX7_ofPlate_20 (by unfold cp_sOfPlate; rw [if_neg (by rw [c_16]; decide)]) rfl
set_option maxHeartbeats 4000000 in
set_option maxRecDepth 100000 in
theorem c_X7_count {lc : Launch} {E : cp_En} {cnt : Nat} {sh : cp_Shp} {R : cp_Rem} {J : cp_Mem} {m : Nat} {f : Nat → Int32} {r : Nat → Nat → Int32} {a : Nat → Int32} (M : cp_ML sh R m) {N : cp_Nt} (hA : cp_MA a N) (hV : cp_NV N) {v1 : Int32} : cp_Fn lc E yX7_count cX7_count 2 (some .int) 2 [.ref m, .int v1] cnt sh (cp_ma J m f r a) R (some (.int (cp_sCount N (f 10) (f 4) v1))) (cp_ma J m f r a) := by
  obtain ⟨hAS, hA4, hA5, hAW, hAQ⟩ := id hA
  obtain ⟨hVS, hVm, hVP, hVN, hVQ⟩ := id hV
  have hn24 := hVP.1
  have hnp8 := hAQ.1
  refine cp_Fn_i [some (.ref m), some (.int v1)] (by decide +kernel) (Nat.le_of_ble_eq_true rfl) rfl rfl (fun x hxl O hr => ?_)
  subst hxl
  refine cp_iload_n O dX7_count_0 cp_lg1 ?_
  refine cp_i2l O dX7_count_1 ?_
  refine cp_lconst O dX7_count_2 (v := 0) rfl ?_
  refine cp_ldc2 O cl_X7_167 dX7_count_3 ?_
  refine cp_cSi O me_X7_in ms_X7_in ml_X7_35 (c_X7_in) dX7_count_6 rfl rfl ⟨Nat.le_of_ble_eq_true rfl, Nat.le_of_ble_eq_true rfl⟩ ⟨Nat.le_refl _, Nat.le_refl _⟩ (Nat.le_of_ble_eq_true rfl) ?_
  rw [cp_in_rg (l := 0) (h := 3) rfl rfl]
  refine cp_if_eqB (tgt := 21) O dX7_count_9 (by decide) (fun c_9 => ?_) (fun c_9 => ?_)
  · refine cp_iload_n O dX7_count_21 cp_lg1 ?_
    refine cp_i2l O dX7_count_22 ?_
    refine cp_ldc2 O cl_X7_103 dX7_count_23 ?_
    refine cp_ldc2 O cl_X7_162 dX7_count_26 ?_
    refine cp_cSi O me_X7_in ms_X7_in ml_X7_35 (c_X7_in) dX7_count_29 rfl rfl ⟨Nat.le_of_ble_eq_true rfl, Nat.le_of_ble_eq_true rfl⟩ ⟨Nat.le_refl _, Nat.le_refl _⟩ (Nat.le_of_ble_eq_true rfl) ?_
    rw [cp_in_rg (l := 4) (h := 7) rfl rfl]
    refine cp_if_eqB (tgt := 43) O dX7_count_32 (by decide) (fun c_32 => ?_) (fun c_32 => ?_)
    · refine cp_iload_n O dX7_count_43 cp_lg1 ?_
      refine cp_i2l O dX7_count_44 ?_
      refine cp_ldc2 O cl_X7_132 dX7_count_45 ?_
      refine cp_ldc2 O cl_X7_175 dX7_count_48 ?_
      refine cp_cSi O me_X7_in ms_X7_in ml_X7_35 (c_X7_in) dX7_count_51 rfl rfl ⟨Nat.le_of_ble_eq_true rfl, Nat.le_of_ble_eq_true rfl⟩ ⟨Nat.le_refl _, Nat.le_refl _⟩ (Nat.le_of_ble_eq_true rfl) ?_
      rw [cp_in_rg (l := 10) (h := 13) rfl rfl]
      refine cp_if_eqB (tgt := 67) O dX7_count_54 (by decide) (fun c_54 => ?_) (fun c_54 => ?_)
      · refine cp_iload_n O dX7_count_67 cp_lg1 ?_
        refine cp_bipush O dX7_count_68 (v := 8) rfl ?_
        refine cp_icmp_ne (tgt := 80) O dX7_count_70 (by decide) (fun c_70 => ?_) (fun c_70 => ?_)
        · refine cp_iload_n O dX7_count_80 cp_lg1 ?_
          refine cp_bipush O dX7_count_81 (v := 9) rfl ?_
          refine cp_icmp_ne (tgt := 93) O dX7_count_83 (by decide) (fun c_83 => ?_) (fun c_83 => ?_)
          · refine cp_iload_n O dX7_count_93 cp_lg1 ?_
            refine cp_bipush O dX7_count_94 (v := 14) rfl ?_
            refine cp_icmp_ne (tgt := 106) O dX7_count_96 (by decide) (fun c_96 => ?_) (fun c_96 => ?_)
            · refine cp_iload_n O dX7_count_106 cp_lg1 ?_
              refine cp_bipush O dX7_count_107 (v := 15) rfl ?_
              refine cp_icmp_ne (tgt := 119) O dX7_count_109 (by decide) (fun c_109 => ?_) (fun c_109 => ?_)
              · refine cp_bipush O dX7_count_119 (v := (-2)) rfl ?_
                exact hr _ _ _ _ dX7_count_121 (by unfold cp_sCount; rw [if_neg (show ¬ v1 = (0 : Int32) from cp_rg_no (l := 0) (h := 3) c_9 0 (by decide) (by decide) (by decide)), if_neg (show ¬ v1 = (1 : Int32) from cp_rg_no (l := 0) (h := 3) c_9 1 (by decide) (by decide) (by decide)), if_neg (show ¬ v1 = (2 : Int32) from cp_rg_no (l := 0) (h := 3) c_9 2 (by decide) (by decide) (by decide)), if_neg (show ¬ v1 = (3 : Int32) from cp_rg_no (l := 0) (h := 3) c_9 3 (by decide) (by decide) (by decide)), if_neg (show ¬ v1 = (4 : Int32) from cp_rg_no (l := 4) (h := 7) c_32 4 (by decide) (by decide) (by decide)), if_neg (show ¬ v1 = (5 : Int32) from cp_rg_no (l := 4) (h := 7) c_32 5 (by decide) (by decide) (by decide)), if_neg (show ¬ v1 = (6 : Int32) from cp_rg_no (l := 4) (h := 7) c_32 6 (by decide) (by decide) (by decide)), if_neg (show ¬ v1 = (7 : Int32) from cp_rg_no (l := 4) (h := 7) c_32 7 (by decide) (by decide) (by decide)), if_neg c_70, if_neg c_83, if_neg (show ¬ v1 = (10 : Int32) from cp_rg_no (l := 10) (h := 13) c_54 10 (by decide) (by decide) (by decide)), if_neg (show ¬ v1 = (11 : Int32) from cp_rg_no (l := 10) (h := 13) c_54 11 (by decide) (by decide) (by decide)), if_neg (show ¬ v1 = (12 : Int32) from cp_rg_no (l := 10) (h := 13) c_54 12 (by decide) (by decide) (by decide)), if_neg (show ¬ v1 = (13 : Int32) from cp_rg_no (l := 10) (h := 13) c_54 13 (by decide) (by decide) (by decide)), if_neg c_96, if_neg c_109]) rfl
              · refine cp_aload_n O dX7_count_112 cp_lg0 ?_
                refine mg_X7_31 O M dX7_count_113 ?_
                refine cp_goto (tgt := 121) O dX7_count_116 (by decide) ?_
                exact hr _ _ _ _ dX7_count_121 (by unfold cp_sCount; rw [if_neg (show ¬ v1 = (0 : Int32) from cp_rg_no (l := 0) (h := 3) c_9 0 (by decide) (by decide) (by decide)), if_neg (show ¬ v1 = (1 : Int32) from cp_rg_no (l := 0) (h := 3) c_9 1 (by decide) (by decide) (by decide)), if_neg (show ¬ v1 = (2 : Int32) from cp_rg_no (l := 0) (h := 3) c_9 2 (by decide) (by decide) (by decide)), if_neg (show ¬ v1 = (3 : Int32) from cp_rg_no (l := 0) (h := 3) c_9 3 (by decide) (by decide) (by decide)), if_neg (show ¬ v1 = (4 : Int32) from cp_rg_no (l := 4) (h := 7) c_32 4 (by decide) (by decide) (by decide)), if_neg (show ¬ v1 = (5 : Int32) from cp_rg_no (l := 4) (h := 7) c_32 5 (by decide) (by decide) (by decide)), if_neg (show ¬ v1 = (6 : Int32) from cp_rg_no (l := 4) (h := 7) c_32 6 (by decide) (by decide) (by decide)), if_neg (show ¬ v1 = (7 : Int32) from cp_rg_no (l := 4) (h := 7) c_32 7 (by decide) (by decide) (by decide)), if_neg c_70, if_neg c_83, if_neg (show ¬ v1 = (10 : Int32) from cp_rg_no (l := 10) (h := 13) c_54 10 (by decide) (by decide) (by decide)), if_neg (show ¬ v1 = (11 : Int32) from cp_rg_no (l := 10) (h := 13) c_54 11 (by decide) (by decide) (by decide)), if_neg (show ¬ v1 = (12 : Int32) from cp_rg_no (l := 10) (h := 13) c_54 12 (by decide) (by decide) (by decide)), if_neg (show ¬ v1 = (13 : Int32) from cp_rg_no (l := 10) (h := 13) c_54 13 (by decide) (by decide) (by decide)), if_neg c_96, if_pos c_109]) rfl
            · refine cp_aload_n O dX7_count_99 cp_lg0 ?_
              refine mg_X7_183 O M dX7_count_100 ?_
              refine cp_goto (tgt := 121) O dX7_count_103 (by decide) ?_
              exact hr _ _ _ _ dX7_count_121 (by unfold cp_sCount; rw [if_neg (show ¬ v1 = (0 : Int32) from cp_rg_no (l := 0) (h := 3) c_9 0 (by decide) (by decide) (by decide)), if_neg (show ¬ v1 = (1 : Int32) from cp_rg_no (l := 0) (h := 3) c_9 1 (by decide) (by decide) (by decide)), if_neg (show ¬ v1 = (2 : Int32) from cp_rg_no (l := 0) (h := 3) c_9 2 (by decide) (by decide) (by decide)), if_neg (show ¬ v1 = (3 : Int32) from cp_rg_no (l := 0) (h := 3) c_9 3 (by decide) (by decide) (by decide)), if_neg (show ¬ v1 = (4 : Int32) from cp_rg_no (l := 4) (h := 7) c_32 4 (by decide) (by decide) (by decide)), if_neg (show ¬ v1 = (5 : Int32) from cp_rg_no (l := 4) (h := 7) c_32 5 (by decide) (by decide) (by decide)), if_neg (show ¬ v1 = (6 : Int32) from cp_rg_no (l := 4) (h := 7) c_32 6 (by decide) (by decide) (by decide)), if_neg (show ¬ v1 = (7 : Int32) from cp_rg_no (l := 4) (h := 7) c_32 7 (by decide) (by decide) (by decide)), if_neg c_70, if_neg c_83, if_neg (show ¬ v1 = (10 : Int32) from cp_rg_no (l := 10) (h := 13) c_54 10 (by decide) (by decide) (by decide)), if_neg (show ¬ v1 = (11 : Int32) from cp_rg_no (l := 10) (h := 13) c_54 11 (by decide) (by decide) (by decide)), if_neg (show ¬ v1 = (12 : Int32) from cp_rg_no (l := 10) (h := 13) c_54 12 (by decide) (by decide) (by decide)), if_neg (show ¬ v1 = (13 : Int32) from cp_rg_no (l := 10) (h := 13) c_54 13 (by decide) (by decide) (by decide)), if_pos c_96]) rfl
          · refine cp_aload_n O dX7_count_86 cp_lg0 ?_
            refine cp_cVi O me_X7_replates mi_X7_replates ml_X7_180 cp_cX7 M.s (c_X7_replates (np := cp_tp N) (Q := cp_tQ N) M hnp8 hAQ.2.1 (fun j hj => (hAQ.2.2.1 j hj).2.2.2.1) (fun j hj => (hVQ.2 j hj).1)) dX7_count_87 rfl rfl ⟨Nat.le_of_ble_eq_true rfl, Nat.le_of_ble_eq_true rfl⟩ ⟨Nat.le_refl _, Nat.le_refl _⟩ (Nat.le_of_ble_eq_true rfl) ?_
            refine cp_goto (tgt := 121) O dX7_count_90 (by decide) ?_
            exact hr _ _ _ _ dX7_count_121 (by unfold cp_sCount; rw [if_neg (show ¬ v1 = (0 : Int32) from cp_rg_no (l := 0) (h := 3) c_9 0 (by decide) (by decide) (by decide)), if_neg (show ¬ v1 = (1 : Int32) from cp_rg_no (l := 0) (h := 3) c_9 1 (by decide) (by decide) (by decide)), if_neg (show ¬ v1 = (2 : Int32) from cp_rg_no (l := 0) (h := 3) c_9 2 (by decide) (by decide) (by decide)), if_neg (show ¬ v1 = (3 : Int32) from cp_rg_no (l := 0) (h := 3) c_9 3 (by decide) (by decide) (by decide)), if_neg (show ¬ v1 = (4 : Int32) from cp_rg_no (l := 4) (h := 7) c_32 4 (by decide) (by decide) (by decide)), if_neg (show ¬ v1 = (5 : Int32) from cp_rg_no (l := 4) (h := 7) c_32 5 (by decide) (by decide) (by decide)), if_neg (show ¬ v1 = (6 : Int32) from cp_rg_no (l := 4) (h := 7) c_32 6 (by decide) (by decide) (by decide)), if_neg (show ¬ v1 = (7 : Int32) from cp_rg_no (l := 4) (h := 7) c_32 7 (by decide) (by decide) (by decide)), if_neg c_70, if_pos c_83]; rfl) rfl
        · refine cp_aload_n O dX7_count_73 cp_lg0 ?_
          refine cp_cVi O me_X7_manyHeld mi_X7_manyHeld ml_X7_177 cp_cX7 M.s (c_X7_manyHeld M hn24 hAW.1 hVN hA5) dX7_count_74 rfl rfl ⟨Nat.le_of_ble_eq_true rfl, Nat.le_of_ble_eq_true rfl⟩ ⟨Nat.le_refl _, Nat.le_refl _⟩ (Nat.le_of_ble_eq_true rfl) ?_
          refine cp_goto (tgt := 121) O dX7_count_77 (by decide) ?_
          exact hr _ _ _ _ dX7_count_121 (by unfold cp_sCount; rw [if_neg (show ¬ v1 = (0 : Int32) from cp_rg_no (l := 0) (h := 3) c_9 0 (by decide) (by decide) (by decide)), if_neg (show ¬ v1 = (1 : Int32) from cp_rg_no (l := 0) (h := 3) c_9 1 (by decide) (by decide) (by decide)), if_neg (show ¬ v1 = (2 : Int32) from cp_rg_no (l := 0) (h := 3) c_9 2 (by decide) (by decide) (by decide)), if_neg (show ¬ v1 = (3 : Int32) from cp_rg_no (l := 0) (h := 3) c_9 3 (by decide) (by decide) (by decide)), if_neg (show ¬ v1 = (4 : Int32) from cp_rg_no (l := 4) (h := 7) c_32 4 (by decide) (by decide) (by decide)), if_neg (show ¬ v1 = (5 : Int32) from cp_rg_no (l := 4) (h := 7) c_32 5 (by decide) (by decide) (by decide)), if_neg (show ¬ v1 = (6 : Int32) from cp_rg_no (l := 4) (h := 7) c_32 6 (by decide) (by decide) (by decide)), if_neg (show ¬ v1 = (7 : Int32) from cp_rg_no (l := 4) (h := 7) c_32 7 (by decide) (by decide) (by decide)), if_pos c_70]; rfl) rfl
      · obtain ⟨q, hq1, hq, rfl⟩ := cp_rg_nI (l := 10) (h := 13) c_54
        refine cp_aload_n O dX7_count_57 cp_lg0 ?_
        refine fg_X7_7 O M.s M.f0 dX7_count_58 ?_
        refine cp_iload_n O dX7_count_61 cp_lg1 ?_
        refine cp_bipush O dX7_count_62 (v := 10) rfl ?_
        refine cp_isub O dX7_count_64 ?_
        refine cp_ialdA O M (j := (q - 10)) (cp_sb rfl rfl (by omega)) (by omega) dX7_count_65 ?_
        exact hr _ _ _ _ dX7_count_66 (cp_cnt10 hA (by omega) (by omega)) rfl
    · obtain ⟨q, hq1, hq, rfl⟩ := cp_rg_nI (l := 4) (h := 7) c_32
      refine cp_aload_n O dX7_count_35 cp_lg0 ?_
      refine cp_iload_n O dX7_count_36 cp_lg1 ?_
      refine cp_iconst O dX7_count_37 (v := 4) rfl ?_
      refine cp_isub O dX7_count_38 ?_
      refine cp_cVi O me_X7_manyThat mi_X7_manyThat ml_X7_172 cp_cX7 M.s (c_X7_manyThat M hn24 hAW.1 hA5) dX7_count_39 rfl rfl ⟨Nat.le_of_ble_eq_true rfl, Nat.le_of_ble_eq_true rfl⟩ ⟨Nat.le_refl _, Nat.le_refl _⟩ (Nat.le_of_ble_eq_true rfl) ?_
      exact hr _ _ _ _ dX7_count_42 (cp_cnt4 (by omega) (by omega)) rfl
  · obtain ⟨q, -, hq, rfl⟩ := cp_rg_nI (l := 0) (h := 3) c_9
    refine cp_aload_n O dX7_count_12 cp_lg0 ?_
    refine fg_X7_7 O M.s M.f0 dX7_count_13 ?_
    refine cp_iconst O dX7_count_16 (v := 4) rfl ?_
    refine cp_iload_n O dX7_count_17 cp_lg1 ?_
    refine cp_iadd O dX7_count_18 ?_
    refine cp_ialdA O M (j := (4 + q)) (cp_ad rfl rfl) (by omega) dX7_count_19 ?_
    exact hr _ _ _ _ dX7_count_20 (cp_cnt0 hA (by omega)) rfl
def cp_lst (tk : Int32) (l : List Nat) : Int32 := l.foldl (fun s q => if cp_bit tk q = 1 then nI q else s) (-6)
theorem cp_lst_s (tk : Int32) {l : List Nat} {k : Nat} (h : k < l.length) : cp_lst tk (l.take (k + 1)) = if cp_bit tk (l.getD k 0) = 1 then nI (l.getD k 0) else cp_lst tk (l.take k) := by
  unfold cp_lst
  rw [List.take_add_one, List.getElem?_eq_getElem h, Option.toList_some, List.foldl_append, cp_gD h]
  rfl
def cp_rsn (P : cp_PP) (tk : Int32) (p : Nat) : Int32 := if P p 4 = 3 then 1 else if P p 5 = 1 then 2 else if P p 4 = 0 then 3 else if P p 4 = 1 then 4 else if cp_bit tk p = 1 then 0 else 5
/-- the first one of the queue in which a piece is -/
def cp_hd (N : cp_Nt) (p : Nat) : Int32 := if cp_tP N p 4 = 0 then nI ((cp_dq (cp_tn N) (cp_tP N) (cp_tP N p 0).toInt.toNat).getD 0 0) else nI ((cp_tl N).getD 0 0)
def cp_now (N : cp_Nt) : Int32 × Int32 := cp_tk (cp_tP N) (cp_tS N 2) (cp_so (cp_tn N) (cp_tP N))
def cp_cau (N : cp_Nt) (p : Nat) : Int32 := if cp_rsn (cp_tP N) (cp_now N).1 p = 3 ∨ cp_rsn (cp_tP N) (cp_now N).1 p = 4 then cp_hd N p else if cp_rsn (cp_tP N) (cp_now N).1 p = 5 then cp_lst (cp_now N).1 ((cp_so (cp_tn N) (cp_tP N)).take ((cp_so (cp_tn N) (cp_tP N)).idxOf p)) else -6
def cp_sWhy (N : cp_Nt) (v w : Int32) : Int32 := if cp_ip (cp_tn N) v = true then (if w = 0 then cp_rsn (cp_tP N) (cp_now N).1 v.toInt.toNat else if w = 1 then cp_cau N v.toInt.toNat else -2) else -1
set_option maxHeartbeats 4000000 in
set_option maxRecDepth 100000 in
theorem c_X7_lastAhead {lc : Launch} {E : cp_En} {cnt : Nat} {sh : cp_Shp} {R : cp_Rem} {J : cp_Mem} {m : Nat} {f : Nat → Int32} {r : Nat → Nat → Int32} {a : Nat → Int32} (M : cp_ML sh R m) {n : Nat} {P : cp_PP} (hn24 : n ≤ 24) (hp : ∀ i, i < n → ∀ f, f < 9 → a (158 + 9 * i + f) = P i f) (hN : cp_PN n P) (h5 : a 5 = nI n) {v1 : Int32} {p : Nat} (h1 : v1 = nI p) (hps : p ∈ cp_so n P) : cp_Fn lc E yX7_lastAhead cX7_lastAhead 5 (some .int) 3 [.ref m, .int v1] cnt sh (cp_ma J m f r a) R (some (.int (cp_lst (f 7) ((cp_so n P).take ((cp_so n P).idxOf p))))) (cp_ma J m f r a) := by
  have hle := cp_so_le n P
  obtain ⟨hkl, hkp⟩ := cp_idx hps
  have hp2 := (cp_so_mem.mp hps).1
  refine cp_Fn_i [some (.ref m), some (.int v1), none, none, none] (by decide +kernel) (Nat.le_of_ble_eq_true rfl) rfl rfl (fun x hxl O hr => ?_)
  subst hxl
  refine cp_bipush O dX7_lastAhead_0 (v := (-6)) rfl ?_
  refine cp_istore_n O dX7_lastAhead_2 (by decide) (cp_ls2 rfl) ?_
  refine cp_iconst O dX7_lastAhead_3 (v := 0) rfl ?_
  refine cp_istore_n O dX7_lastAhead_4 (by decide) (cp_ls3 rfl) ?_
  have loop5 : ∀ k, k ≤ (cp_so n P).idxOf p → cp_G x E 5 0 0 cnt sh (cp_ma J m f r a) R 5 [some (.ref m), some (.int v1), some (.int (cp_lst (f 7) ((cp_so n P).take k))), some (.int (nI k)), none] [] := by
    refine cp_up (fun k hk ih => ?_)
    have hk2 : k < (cp_so n P).length := by omega
    have hpn := (cp_so_mem.mp (cp_getD_in hk2)).1
    refine cp_aload_n O dX7_lastAhead_5 cp_lg0 ?_
    refine cp_iload_n O dX7_lastAhead_6 cp_lg3 ?_
    refine cp_cVi O me_X7_ranked mi_X7_ranked ml_X7_82 cp_cX7 M.s (c_X7_ranked (k := k) M hn24 hp hN h5 rfl (by omega)) dX7_lastAhead_7 rfl rfl ⟨Nat.le_of_ble_eq_true rfl, Nat.le_of_ble_eq_true rfl⟩ ⟨Nat.le_refl _, Nat.le_refl _⟩ (Nat.le_of_ble_eq_true rfl) ?_
    rw [cp_so_v hk2]
    refine cp_iload_n O dX7_lastAhead_10 cp_lg1 ?_
    refine cp_icmp_eqN (tgt := 47) O dX7_lastAhead_11 (by decide) (a := ((cp_so n P).getD k 0)) (b := p) rfl h1 (by omega) (by omega) (fun c_11 => ?_) (fun c_11 => ?_)
    · have hke : k = (cp_so n P).idxOf p := by
        rcases Nat.lt_or_ge k ((cp_so n P).idxOf p) with h | h
        · exact absurd c_11 (cp_fstI (cp_so_nd n P) hkl hkp k h)
        · omega
      refine cp_iload_n O dX7_lastAhead_47 cp_lg2 ?_
      exact hr _ _ _ _ dX7_lastAhead_48 (by rw [hke]) rfl
    · have hlt : k < (cp_so n P).idxOf p := by
        rcases Nat.lt_or_ge k ((cp_so n P).idxOf p) with h | h
        · exact h
        · exact absurd (by rw [show k = (cp_so n P).idxOf p by omega]; exact hkp) c_11
      refine cp_aload_n O dX7_lastAhead_14 cp_lg0 ?_
      refine cp_iload_n O dX7_lastAhead_15 cp_lg3 ?_
      refine cp_cVi O me_X7_ranked mi_X7_ranked ml_X7_82 cp_cX7 M.s (c_X7_ranked (k := k) M hn24 hp hN h5 rfl (by omega)) dX7_lastAhead_16 rfl rfl ⟨Nat.le_of_ble_eq_true rfl, Nat.le_of_ble_eq_true rfl⟩ ⟨Nat.le_refl _, Nat.le_refl _⟩ (Nat.le_of_ble_eq_true rfl) ?_
      rw [cp_so_v hk2]
      refine cp_istore O dX7_lastAhead_19 (by decide) (cp_ls4 rfl) ?_
      refine cp_aload_n O dX7_lastAhead_21 cp_lg0 ?_
      refine mg_X7_76 O M dX7_lastAhead_22 ?_
      refine cp_iload O dX7_lastAhead_25 cp_lg4 ?_
      refine cp_ishr O dX7_lastAhead_27 ?_
      refine cp_iconst O dX7_lastAhead_28 (v := 1) rfl ?_
      refine cp_iand O dX7_lastAhead_29 ?_
      refine cp_iconst O dX7_lastAhead_30 (v := 1) rfl ?_
      refine cp_icmp_ne (tgt := 39) O dX7_lastAhead_31 (by decide) (fun c_31 => ?_) (fun c_31 => ?_)
      · refine cp_iload_n O dX7_lastAhead_39 cp_lg2 ?_
        refine cp_istore_n O dX7_lastAhead_40 (by decide) (cp_ls2 rfl) ?_
        refine cp_iinc O dX7_lastAhead_41 cp_lg3 (cp_inc rfl) (by decide) (cp_ls3 rfl) ?_
        refine cp_goto (tgt := 5) O dX7_lastAhead_44 (by decide) ?_
        have e := cp_lst_s (f 7) hk2
        unfold cp_bit at e
        first
          | (rw [if_neg c_31] at e; have ih2 := ih hlt; rw [e] at ih2; exact cp_Gw (cp_lws (cp_lws (cp_lws (cp_lws (cp_lwn cp_lw0))))) ih2)
          | (rw [if_pos c_31] at e; have ih2 := ih hlt; rw [e] at ih2; exact cp_Gw (cp_lws (cp_lws (cp_lws (cp_lws (cp_lwn cp_lw0))))) ih2)
      · refine cp_iload O dX7_lastAhead_34 cp_lg4 ?_
        refine cp_goto (tgt := 40) O dX7_lastAhead_36 (by decide) ?_
        refine cp_istore_n O dX7_lastAhead_40 (by decide) (cp_ls2 rfl) ?_
        refine cp_iinc O dX7_lastAhead_41 cp_lg3 (cp_inc rfl) (by decide) (cp_ls3 rfl) ?_
        refine cp_goto (tgt := 5) O dX7_lastAhead_44 (by decide) ?_
        have e := cp_lst_s (f 7) hk2
        unfold cp_bit at e
        first
          | (rw [if_neg c_31] at e; have ih2 := ih hlt; rw [e] at ih2; exact cp_Gw (cp_lws (cp_lws (cp_lws (cp_lws (cp_lwn cp_lw0))))) ih2)
          | (rw [if_pos c_31] at e; have ih2 := ih hlt; rw [e] at ih2; exact cp_Gw (cp_lws (cp_lws (cp_lws (cp_lws (cp_lwn cp_lw0))))) ih2)
  exact cp_Gw (cp_lws (cp_lws (cp_lws (cp_lws (cp_lwn cp_lw0))))) (loop5 0 (Nat.zero_le _))
set_option maxHeartbeats 4000000 in
set_option maxRecDepth 100000 in
theorem c_X7_reason {lc : Launch} {E : cp_En} {cnt : Nat} {sh : cp_Shp} {R : cp_Rem} {J : cp_Mem} {m : Nat} {f : Nat → Int32} {r : Nat → Nat → Int32} {a : Nat → Int32} (M : cp_ML sh R m) {n : Nat} {P : cp_PP} (hn24 : n ≤ 24) (hp : ∀ i, i < n → ∀ f, f < 9 → a (158 + 9 * i + f) = P i f) {v1 : Int32} {p : Nat} (h1 : v1 = nI p) (hpn : p < n) : cp_Fn lc E yX7_reason cX7_reason 3 (some .int) 1 [.ref m, .int v1] cnt sh (cp_ma J m f r a) R (some (.int (cp_rsn P (f 7) p))) (cp_ma J m f r a) := by
  refine cp_Fn_i [some (.ref m), some (.int v1), none] (by decide +kernel) (Nat.le_of_ble_eq_true rfl) rfl rfl (fun x hxl O hr => ?_)
  subst hxl
  refine cp_aload_n O dX7_reason_0 cp_lg0 ?_
  refine cp_iload_n O dX7_reason_1 cp_lg1 ?_
  refine cp_iconst O dX7_reason_2 (v := 4) rfl ?_
  refine cp_cVi O me_X7_of mi_X7_of ml_X7_39 cp_cX7 M.s (c_X7_ofe (w := P p 4) (p := p) (q := 4) M h1 rfl (by omega) (by omega) (hp p (by omega) 4 (by decide))) dX7_reason_3 rfl rfl ⟨Nat.le_of_ble_eq_true rfl, Nat.le_of_ble_eq_true rfl⟩ ⟨Nat.le_refl _, Nat.le_refl _⟩ (Nat.le_of_ble_eq_true rfl) ?_
  refine cp_istore_n O dX7_reason_6 (by decide) (cp_ls2 rfl) ?_
  refine cp_iload_n O dX7_reason_7 cp_lg2 ?_
  refine cp_iconst O dX7_reason_8 (v := 3) rfl ?_
  refine cp_icmp_ne (tgt := 16) O dX7_reason_9 (by decide) (fun c_9 => ?_) (fun c_9 => ?_)
  · refine cp_aload_n O dX7_reason_16 cp_lg0 ?_
    refine cp_iload_n O dX7_reason_17 cp_lg1 ?_
    refine cp_iconst O dX7_reason_18 (v := 5) rfl ?_
    refine cp_cVi O me_X7_of mi_X7_of ml_X7_39 cp_cX7 M.s (c_X7_ofe (w := P p 5) (p := p) (q := 5) M h1 rfl (by omega) (by omega) (hp p (by omega) 5 (by decide))) dX7_reason_19 rfl rfl ⟨Nat.le_of_ble_eq_true rfl, Nat.le_of_ble_eq_true rfl⟩ ⟨Nat.le_refl _, Nat.le_refl _⟩ (Nat.le_of_ble_eq_true rfl) ?_
    refine cp_iconst O dX7_reason_22 (v := 1) rfl ?_
    refine cp_icmp_ne (tgt := 30) O dX7_reason_23 (by decide) (fun c_23 => ?_) (fun c_23 => ?_)
    · refine cp_iload_n O dX7_reason_30 cp_lg2 ?_
      refine cp_if_ne (tgt := 38) O dX7_reason_31 (by decide) (fun c_31 => ?_) (fun c_31 => ?_)
      · refine cp_iload_n O dX7_reason_38 cp_lg2 ?_
        refine cp_iconst O dX7_reason_39 (v := 1) rfl ?_
        refine cp_icmp_ne (tgt := 47) O dX7_reason_40 (by decide) (fun c_40 => ?_) (fun c_40 => ?_)
        · refine cp_aload_n O dX7_reason_47 cp_lg0 ?_
          refine mg_X7_76 O M dX7_reason_48 ?_
          refine cp_iload_n O dX7_reason_51 cp_lg1 ?_
          refine cp_ishr O dX7_reason_52 ?_
          refine cp_iconst O dX7_reason_53 (v := 1) rfl ?_
          refine cp_iand O dX7_reason_54 ?_
          refine cp_iconst O dX7_reason_55 (v := 1) rfl ?_
          refine cp_icmp_ne (tgt := 63) O dX7_reason_56 (by decide) (fun c_56 => ?_) (fun c_56 => ?_)
          · refine cp_iconst O dX7_reason_63 (v := 5) rfl ?_
            exact hr _ _ _ _ dX7_reason_64 (by subst h1; unfold cp_rsn; rw [if_neg c_9, if_neg c_23, if_neg c_31, if_neg c_40]; unfold cp_bit; rw [if_neg c_56]) rfl
          · refine cp_iconst O dX7_reason_59 (v := 0) rfl ?_
            refine cp_goto (tgt := 64) O dX7_reason_60 (by decide) ?_
            exact hr _ _ _ _ dX7_reason_64 (by subst h1; unfold cp_rsn; rw [if_neg c_9, if_neg c_23, if_neg c_31, if_neg c_40]; unfold cp_bit; rw [if_pos c_56]) rfl
        · refine cp_iconst O dX7_reason_43 (v := 4) rfl ?_
          refine cp_goto (tgt := 64) O dX7_reason_44 (by decide) ?_
          exact hr _ _ _ _ dX7_reason_64 (by unfold cp_rsn; rw [if_neg c_9, if_neg c_23, if_neg c_31, if_pos c_40]) rfl
      · refine cp_iconst O dX7_reason_34 (v := 3) rfl ?_
        refine cp_goto (tgt := 64) O dX7_reason_35 (by decide) ?_
        exact hr _ _ _ _ dX7_reason_64 (by unfold cp_rsn; rw [if_neg c_9, if_neg c_23, if_pos c_31]) rfl
    · refine cp_iconst O dX7_reason_26 (v := 2) rfl ?_
      refine cp_goto (tgt := 64) O dX7_reason_27 (by decide) ?_
      exact hr _ _ _ _ dX7_reason_64 (by unfold cp_rsn; rw [if_neg c_9, if_pos c_23]) rfl
  · refine cp_iconst O dX7_reason_12 (v := 1) rfl ?_
    refine cp_goto (tgt := 64) O dX7_reason_13 (by decide) ?_
    exact hr _ _ _ _ dX7_reason_64 (by unfold cp_rsn; rw [if_pos c_9]) rfl
set_option maxHeartbeats 4000000 in
set_option maxRecDepth 100000 in
theorem c_X7_plateNow {lc : Launch} {E : cp_En} {cnt : Nat} {sh : cp_Shp} {R : cp_Rem} {J : cp_Mem} {m : Nat} {f : Nat → Int32} {r : Nat → Nat → Int32} {a : Nat → Int32} (M : cp_ML sh R m) {N : cp_Nt} (hA : cp_MA a N) (hV : cp_NV N) : cp_Fr lc E yX7_plateNow cX7_plateNow 1 (some .int) 4 [.ref m] cnt sh (cp_ma J m f r a) R (some (.int ((cp_now N).1))) (fun I' => ∃ f' : Nat → Int32, I' = cp_ma J m f' r a ∧ ∀ k, k ≠ 7 → k ≠ 8 → f' k = f k) := by
  obtain ⟨hAS, hA4, hA5, hAW, hAQ⟩ := id hA
  obtain ⟨hVS, hVm, hVP, hVN, hVQ⟩ := id hV
  have hn24 := hVP.1
  refine cp_Fn_iR [some (.ref m)] (by decide +kernel) (Nat.le_of_ble_eq_true rfl) rfl rfl (fun x hxl O hr => ?_)
  subst hxl
  refine cp_aload_n O dX7_plateNow_0 cp_lg0 ?_
  refine cp_aload_n O dX7_plateNow_1 cp_lg0 ?_
  refine fg_X7_7 O M.s M.f0 dX7_plateNow_2 ?_
  refine cp_iconst O dX7_plateNow_5 (v := 2) rfl ?_
  refine cp_ialdA O M (j := 2) rfl (by omega) dX7_plateNow_6 ?_
  rw [hAS 2 (by decide)]
  refine cp_cVv O me_X7_takes mi_X7_takes ml_X7_100 cp_cX7 M.s (c_X7_takes M hn24 hAW.1 hVN hA5) dX7_plateNow_7 rfl rfl ⟨Nat.le_of_ble_eq_true rfl, Nat.le_of_ble_eq_true rfl⟩ ⟨Nat.le_refl _, Nat.le_refl _⟩ (Nat.le_of_ble_eq_true rfl) ?_
  refine cp_aload_n O dX7_plateNow_10 cp_lg0 ?_
  refine mg_X7_76 O M dX7_plateNow_11 ?_
  rw [cp_tf_7]
  exact hr _ _ _ _ dX7_plateNow_14 rfl ⟨_, rfl, fun k h7 h8 => cp_tf_o _ _ h7 h8⟩
theorem cp_rsn_34 {P : cp_PP} {tk : Int32} {p : Nat} (h : cp_rsn P tk p = 3 ∨ cp_rsn P tk p = 4) : P p 4 = 0 ∨ P p 4 = 1 := by
  unfold cp_rsn at h
  split at h
  · rcases h with h | h <;> exact absurd h (by decide)
  · split at h
    · rcases h with h | h <;> exact absurd h (by decide)
    · split at h
      · exact Or.inl (by assumption)
      · split at h
        · exact Or.inr (by assumption)
        · split at h <;> rcases h with h | h <;> exact absurd h (by decide)
theorem cp_rsn_5 {P : cp_PP} {tk : Int32} {p : Nat} (h : cp_rsn P tk p = 5) : ¬ P p 4 = 3 ∧ ¬ P p 5 = 1 ∧ ¬ P p 4 = 0 ∧ ¬ P p 4 = 1 := by
  unfold cp_rsn at h
  split at h
  · exact absurd h (by decide)
  · split at h
    · exact absurd h (by decide)
    · split at h
      · exact absurd h (by decide)
      · split at h
        · exact absurd h (by decide)
        · exact ⟨by assumption, by assumption, by assumption, by assumption⟩
theorem cp_rsn_free {n : Nat} {P : cp_PP} {lq : List Nat} {tk : Int32} {p : Nat} (hV : cp_PV n P lq) (hN : cp_PN n P) (hp : p < n) (h : cp_rsn P tk p = 5) : p ∈ cp_so n P := by
  obtain ⟨h1, h2, h3, h4⟩ := cp_rsn_5 h
  refine cp_so_mem.mpr ⟨hp, ?_⟩
  unfold cp_fr
  rw [show P p 4 = 2 by rcases (hV.2.1 p hp).2 with g | g | g | g <;> first | exact g | exact absurd g (by assumption), show P p 5 = 0 by rcases (hN p hp).2.2.2.1 with g | g; exact g; exact absurd g h2]
  rfl
theorem cp_hd_q {a : Nat → Int32} {N : cp_Nt} (hA : cp_MA a N) (hV : cp_NV N) {p : Nat} (hp : p < cp_tn N) (h : cp_tP N p 4 = 0 ∨ cp_tP N p 4 = 1) : ∃ q, q < 6 ∧ cp_qo a p = nI q ∧ a (14 + 24 * q + 0) = cp_hd N p := by
  obtain ⟨hAS, hA4, hA5, hAW, hAQ⟩ := hA
  have hV := hV.2.2.1
  have hp4 := hAW.1 p hp 4 (by decide)
  have hp0 : a (158 + 9 * p) = cp_tP N p 0 := hAW.1 p hp 0 (by decide)
  rcases h with h | h
  · obtain ⟨d, hd, hd0⟩ := (hV.2.1 p hp).1
    refine ⟨d, by omega, by unfold cp_qo; rw [hp4, h, if_pos rfl, hp0]; exact hd0, ?_⟩
    have hq := hAW.2 d (by omega)
    rw [cp_LLd _ _ _ hd] at hq
    have hm : p ∈ cp_dq (cp_tn N) (cp_tP N) d := cp_dq_in.mpr ⟨hp, h, hd0⟩
    rw [hq.2.2 0 (List.length_pos_of_mem hm)]
    unfold cp_hd
    rw [if_pos h, hd0, cp_nIt (by omega)]
  · refine ⟨5, by omega, by unfold cp_qo; rw [hp4, h, if_neg (by decide), if_pos rfl]; rfl, ?_⟩
    have hq := hAW.2 5 (by omega)
    rw [cp_LL5] at hq
    have hm : p ∈ cp_tl N := (hV.2.2.2 p).mpr ⟨hp, h⟩
    rw [hq.2.2 0 (List.length_pos_of_mem hm)]
    unfold cp_hd
    rw [h, if_neg (by decide)]
set_option maxHeartbeats 4000000 in
set_option maxRecDepth 100000 in
theorem c_X7_why {lc : Launch} {E : cp_En} {cnt : Nat} {sh : cp_Shp} {R : cp_Rem} {J : cp_Mem} {m : Nat} {f : Nat → Int32} {r : Nat → Nat → Int32} {a : Nat → Int32} (M : cp_ML sh R m) {N : cp_Nt} (hA : cp_MA a N) (hV : cp_NV N) {v1 v2 : Int32} : cp_Fr lc E yX7_why cX7_why 4 (some .int) 4 [.ref m, .int v1, .int v2] cnt sh (cp_ma J m f r a) R (some (.int (cp_sWhy N v1 v2))) (fun I' => ∃ f' : Nat → Int32, I' = cp_ma J m f' r a ∧ ∀ k, k ≠ 7 → k ≠ 8 → f' k = f k) := by
  obtain ⟨hAS, hA4, hA5, hAW, hAQ⟩ := id hA
  obtain ⟨hVS, hVm, hVP, hVN, hVQ⟩ := id hV
  have hn24 := hVP.1
  refine cp_Fn_iR [some (.ref m), some (.int v1), some (.int v2), none] (by decide +kernel) (Nat.le_of_ble_eq_true rfl) rfl rfl (fun x hxl O hr => ?_)
  subst hxl
  refine cp_aload_n O dX7_why_0 cp_lg0 ?_
  refine cp_iload_n O dX7_why_1 cp_lg1 ?_
  refine cp_cVi O me_X7_isPiece mi_X7_isPiece ml_X7_114 cp_cX7 M.s (c_X7_isPiece (n := cp_tn N) M hA5 hn24) dX7_why_2 rfl rfl ⟨Nat.le_of_ble_eq_true rfl, Nat.le_of_ble_eq_true rfl⟩ ⟨Nat.le_refl _, Nat.le_refl _⟩ (Nat.le_of_ble_eq_true rfl) ?_
  refine cp_if_neB (tgt := 10) O dX7_why_5 (by decide) (fun c_5 => ?_) (fun c_5 => ?_)
  · obtain ⟨p, hp, rfl⟩ := (cp_ip_iff (by omega)).mp c_5
    refine cp_iload_n O dX7_why_10 cp_lg2 ?_
    refine cp_i2l O dX7_why_11 ?_
    refine cp_lconst O dX7_why_12 (v := 0) rfl ?_
    refine cp_lconst O dX7_why_13 (v := 1) rfl ?_
    refine cp_cSi O me_X7_in ms_X7_in ml_X7_35 (c_X7_in) dX7_why_14 rfl rfl ⟨Nat.le_of_ble_eq_true rfl, Nat.le_of_ble_eq_true rfl⟩ ⟨Nat.le_refl _, Nat.le_refl _⟩ (Nat.le_of_ble_eq_true rfl) ?_
    rw [cp_in_rg (l := 0) (h := 1) rfl rfl]
    refine cp_if_neB (tgt := 23) O dX7_why_17 (by decide) (fun c_17 => ?_) (fun c_17 => ?_)
    · refine cp_aload_n O dX7_why_23 cp_lg0 ?_
      refine cp_aload_n O dX7_why_24 cp_lg0 ?_
      refine fg_X7_7 O M.s M.f0 dX7_why_25 ?_
      refine cp_iconst O dX7_why_28 (v := 2) rfl ?_
      refine cp_ialdA O M (j := 2) rfl (by omega) dX7_why_29 ?_
      rw [hAS 2 (by decide)]
      refine cp_cVv O me_X7_takes mi_X7_takes ml_X7_100 cp_cX7 M.s (c_X7_takes M hn24 hAW.1 hVN hA5) dX7_why_30 rfl rfl ⟨Nat.le_of_ble_eq_true rfl, Nat.le_of_ble_eq_true rfl⟩ ⟨Nat.le_refl _, Nat.le_refl _⟩ (Nat.le_of_ble_eq_true rfl) ?_
      refine cp_aload_n O dX7_why_33 cp_lg0 ?_
      refine cp_iload_n O dX7_why_34 cp_lg1 ?_
      refine cp_cVi O me_X7_reason mi_X7_reason ml_X7_186 cp_cX7 M.s (cp_Fn_eq (v' := some (.int (cp_rsn (cp_tP N) (cp_now N).1 p))) (c_X7_reason (p := p) M hn24 hAW.1 rfl hp) (by rw [cp_tf_7]; rfl) rfl) dX7_why_35 rfl rfl ⟨Nat.le_of_ble_eq_true rfl, Nat.le_of_ble_eq_true rfl⟩ ⟨Nat.le_refl _, Nat.le_refl _⟩ (Nat.le_of_ble_eq_true rfl) ?_
      refine cp_istore_n O dX7_why_38 (by decide) (cp_ls3 rfl) ?_
      refine cp_iload_n O dX7_why_39 cp_lg2 ?_
      refine cp_if_ne (tgt := 45) O dX7_why_40 (by decide) (fun c_40 => ?_) (fun c_40 => ?_)
      · have hw1 : v2 = 1 := by
          obtain ⟨q, -, hq1, rfl⟩ := cp_rg_nI (l := 0) (h := 1) c_17
          rcases (show q = 0 ∨ q = 1 by omega) with rfl | rfl
          · exact absurd rfl c_40
          · rfl
        have ew : cp_sWhy N (nI p) v2 = cp_cau N p := by
          unfold cp_sWhy
          rw [if_pos c_5, if_neg c_40, if_pos hw1, cp_nIt (by omega)]
        rw [ew] at hr
        refine cp_iload_n O dX7_why_45 cp_lg3 ?_
        refine cp_iconst O dX7_why_46 (v := 3) rfl ?_
        refine cp_icmp_eq (tgt := 55) O dX7_why_47 (by decide) (fun c_47 => ?_) (fun c_47 => ?_)
        · have h34 : cp_rsn (cp_tP N) (cp_now N).1 p = 3 ∨ cp_rsn (cp_tP N) (cp_now N).1 p = 4 := by first | exact Or.inl c_47 | exact Or.inr c_52
          obtain ⟨q, hq6, hqo, hqh⟩ := cp_hd_q hA hV hp (cp_rsn_34 h34)
          refine cp_aload_n O dX7_why_55 cp_lg0 ?_
          refine cp_aload_n O dX7_why_56 cp_lg0 ?_
          refine cp_iload_n O dX7_why_57 cp_lg1 ?_
          refine cp_cVi O me_X7_queueOf mi_X7_queueOf ml_X7_43 cp_cX7 M.s (c_X7_queueOf (p := p) M rfl (by omega)) dX7_why_58 rfl rfl ⟨Nat.le_of_ble_eq_true rfl, Nat.le_of_ble_eq_true rfl⟩ ⟨Nat.le_refl _, Nat.le_refl _⟩ (Nat.le_of_ble_eq_true rfl) ?_
          refine cp_iconst O dX7_why_61 (v := 0) rfl ?_
          refine cp_cVi O me_X7_inQueue mi_X7_inQueue ml_X7_47 cp_cX7 M.s (cp_Fn_eq (v' := some (.int (cp_hd N p))) (c_X7_inQueue (q := q) (k := 0) M hqo rfl (by omega) (by omega)) (by rw [hqh]) rfl) dX7_why_62 rfl rfl ⟨Nat.le_of_ble_eq_true rfl, Nat.le_of_ble_eq_true rfl⟩ ⟨Nat.le_refl _, Nat.le_refl _⟩ (Nat.le_of_ble_eq_true rfl) ?_
          refine cp_goto (tgt := 83) O dX7_why_65 (by decide) ?_
          exact hr _ _ _ _ dX7_why_83 (by unfold cp_cau; rw [if_pos h34]) ⟨_, rfl, fun k h7 h8 => cp_tf_o _ _ h7 h8⟩
        · refine cp_iload_n O dX7_why_50 cp_lg3 ?_
          refine cp_iconst O dX7_why_51 (v := 4) rfl ?_
          refine cp_icmp_ne (tgt := 68) O dX7_why_52 (by decide) (fun c_52 => ?_) (fun c_52 => ?_)
          · refine cp_iload_n O dX7_why_68 cp_lg3 ?_
            refine cp_iconst O dX7_why_69 (v := 5) rfl ?_
            refine cp_icmp_ne (tgt := 81) O dX7_why_70 (by decide) (fun c_70 => ?_) (fun c_70 => ?_)
            · refine cp_bipush O dX7_why_81 (v := (-6)) rfl ?_
              exact hr _ _ _ _ dX7_why_83 (by unfold cp_cau; rw [if_neg (fun z => z.elim c_47 c_52), if_neg c_70]) ⟨_, rfl, fun k h7 h8 => cp_tf_o _ _ h7 h8⟩
            · refine cp_aload_n O dX7_why_73 cp_lg0 ?_
              refine cp_iload_n O dX7_why_74 cp_lg1 ?_
              refine cp_cVi O me_X7_lastAhead mi_X7_lastAhead ml_X7_189 cp_cX7 M.s (cp_Fn_eq (v' := some (.int (cp_lst (cp_now N).1 ((cp_so (cp_tn N) (cp_tP N)).take ((cp_so (cp_tn N) (cp_tP N)).idxOf p))))) (c_X7_lastAhead (p := p) M hn24 hAW.1 hVN hA5 rfl (cp_rsn_free hVP hVN hp c_70)) (by rw [cp_tf_7]; rfl) rfl) dX7_why_75 rfl rfl ⟨Nat.le_of_ble_eq_true rfl, Nat.le_of_ble_eq_true rfl⟩ ⟨Nat.le_refl _, Nat.le_refl _⟩ (Nat.le_of_ble_eq_true rfl) ?_
              refine cp_goto (tgt := 83) O dX7_why_78 (by decide) ?_
              exact hr _ _ _ _ dX7_why_83 (by unfold cp_cau; rw [if_neg (fun z => z.elim c_47 c_52), if_pos c_70]) ⟨_, rfl, fun k h7 h8 => cp_tf_o _ _ h7 h8⟩
          · have h34 : cp_rsn (cp_tP N) (cp_now N).1 p = 3 ∨ cp_rsn (cp_tP N) (cp_now N).1 p = 4 := by first | exact Or.inl c_47 | exact Or.inr c_52
            obtain ⟨q, hq6, hqo, hqh⟩ := cp_hd_q hA hV hp (cp_rsn_34 h34)
            refine cp_aload_n O dX7_why_55 cp_lg0 ?_
            refine cp_aload_n O dX7_why_56 cp_lg0 ?_
            refine cp_iload_n O dX7_why_57 cp_lg1 ?_
            refine cp_cVi O me_X7_queueOf mi_X7_queueOf ml_X7_43 cp_cX7 M.s (c_X7_queueOf (p := p) M rfl (by omega)) dX7_why_58 rfl rfl ⟨Nat.le_of_ble_eq_true rfl, Nat.le_of_ble_eq_true rfl⟩ ⟨Nat.le_refl _, Nat.le_refl _⟩ (Nat.le_of_ble_eq_true rfl) ?_
            refine cp_iconst O dX7_why_61 (v := 0) rfl ?_
            refine cp_cVi O me_X7_inQueue mi_X7_inQueue ml_X7_47 cp_cX7 M.s (cp_Fn_eq (v' := some (.int (cp_hd N p))) (c_X7_inQueue (q := q) (k := 0) M hqo rfl (by omega) (by omega)) (by rw [hqh]) rfl) dX7_why_62 rfl rfl ⟨Nat.le_of_ble_eq_true rfl, Nat.le_of_ble_eq_true rfl⟩ ⟨Nat.le_refl _, Nat.le_refl _⟩ (Nat.le_of_ble_eq_true rfl) ?_
            refine cp_goto (tgt := 83) O dX7_why_65 (by decide) ?_
            exact hr _ _ _ _ dX7_why_83 (by unfold cp_cau; rw [if_pos h34]) ⟨_, rfl, fun k h7 h8 => cp_tf_o _ _ h7 h8⟩
      · refine cp_iload_n O dX7_why_43 cp_lg3 ?_
        exact hr _ _ _ _ dX7_why_44 (by unfold cp_sWhy; rw [if_pos c_5, if_pos c_40, cp_nIt (by omega)]) ⟨_, rfl, fun k h7 h8 => cp_tf_o _ _ h7 h8⟩
    · refine cp_bipush O dX7_why_20 (v := (-2)) rfl ?_
      exact hr _ _ _ _ dX7_why_22 (by unfold cp_sWhy; rw [if_pos c_5, if_neg (show ¬ v2 = (0 : Int32) from cp_rg_no (l := 0) (h := 1) c_17 0 (by decide) (by decide) (by decide)), if_neg (show ¬ v2 = (1 : Int32) from cp_rg_no (l := 0) (h := 1) c_17 1 (by decide) (by decide) (by decide))]) ⟨f, rfl, fun _ _ _ => rfl⟩
  · refine cp_iconst O dX7_why_8 (v := (-1)) rfl ?_
    exact hr _ _ _ _ dX7_why_9 (by unfold cp_sWhy; rw [if_neg (by rw [c_5]; decide)]) ⟨f, rfl, fun _ _ _ => rfl⟩
