theorem cp_rgL {l h : Int} {v L : Int32} (hl : L.toInt = l) (hv : v < L) : cp_rg l h v = false := by
  unfold cp_rg
  exact decide_eq_false fun z => by have := Int32.lt_iff_toInt_lt.mp hv; omega
theorem cp_rgH {l h : Int} {v L : Int32} (hl : L.toInt = h) (hv : L < v) : cp_rg l h v = false := by
  unfold cp_rg
  exact decide_eq_false fun z => by have := Int32.lt_iff_toInt_lt.mp hv; omega
theorem cp_rgY {l h : Int} {v L U : Int32} (hl : L.toInt = l) (hu : U.toInt = h) (h1 : ¬ v < L) (h2 : ¬ U < v) : cp_rg l h v = true := by
  unfold cp_rg
  exact decide_eq_true ⟨by have := Int32.le_iff_toInt_le.mp (Int32.not_lt.mp h1); omega, by have := Int32.le_iff_toInt_le.mp (Int32.not_lt.mp h2); omega⟩
theorem cp_lt5 {v : Int32} : v < 5 ↔ ¬ (4 : Int32) < v := by
  rw [Int32.lt_iff_toInt_lt, Int32.lt_iff_toInt_lt, show (5 : Int32).toInt = 5 from rfl, show (4 : Int32).toInt = 4 from rfl]
  omega
theorem cp_nn_come {lc : Launch} {E : cp_En} {cnt : Nat} {sh : cp_Shp} {R : cp_Rem} {J : cp_Mem} {b : Nat} {o S : Nat → Int32} {P Q : cp_PP} (N : cp_NL sh R b) {i : Nat} (hi : i < 24) {v1 v2 v3 : Int32} {bb : Bool} : cp_Fn lc E yX4_come cX4_come 5 none 0 [.ref (b + 3 + i), .int v1, .int v2, .int v3, .int (cp_bi bb)] cnt sh (cp_nn J b o S P Q) R none (cp_nn J b o S (cp_row P i (cp_pcr v1 v2 v3 bb (P i))) Q) := by
  have g := c_X4_come (lc := lc) (E := E) (cnt := cnt) (R := R) (I := cp_nn J b o S P Q) (g := P i) (v1 := v1) (v2 := v2) (v3 := v3) (b := bb) (N.spc hi)
  rw [cp_nn_rP _ _ _ _ _ _ hi, cp_nn_rP _ _ _ _ _ _ hi, cp_row_self] at g
  exact g
theorem cp_sPc_1 {S : Nat → Int32} {P Q : cp_PP} {n mi np : Nat} {lq : List Nat} {v1 v2 v3 v4 : Int32} (h : cp_rg 0 4 v1 = false) : (cp_sPiece (S, mi, n, P, np, Q, lq) v1 v2 v3 v4) = (-1, (S, mi, n, P, np, Q, lq)) := by
  unfold cp_sPiece
  exact if_neg (cp_bF h)
theorem cp_sPc_2 {S : Nat → Int32} {P Q : cp_PP} {n mi np : Nat} {lq : List Nat} {v1 v2 v3 v4 : Int32} (h : cp_rg 0 4 v1 = true) (h2 : (cp_rg 1 99 v2 && cp_rg 0 9 v3 && cp_rg 0 1 v4) = false) : (cp_sPiece (S, mi, n, P, np, Q, lq) v1 v2 v3 v4) = (-2, (S, mi, n, P, np, Q, lq)) := by
  unfold cp_sPiece
  rw [if_pos h, if_neg (cp_bF h2)]
theorem cp_sPc_3 {S : Nat → Int32} {P Q : cp_PP} {n mi np : Nat} {lq : List Nat} {v1 v2 v3 v4 : Int32} (h : cp_rg 0 4 v1 = true) (h2 : (cp_rg 1 99 v2 && cp_rg 0 9 v3 && cp_rg 0 1 v4) = true) (h3 : n = 24) : (cp_sPiece (S, mi, n, P, np, Q, lq) v1 v2 v3 v4) = (-4, (S, mi, n, P, np, Q, lq)) := by
  unfold cp_sPiece
  rw [if_pos h, if_pos h2]
  exact if_pos h3
theorem cp_sPc_4 {S : Nat → Int32} {P Q : cp_PP} {n mi np : Nat} {lq : List Nat} {v1 v2 v3 v4 : Int32} (h : cp_rg 0 4 v1 = true) (h2 : (cp_rg 1 99 v2 && cp_rg 0 9 v3 && cp_rg 0 1 v4) = true) (h3 : ¬ n = 24) : (cp_sPiece (S, mi, n, P, np, Q, lq) v1 v2 v3 v4) = (nI n, (S, mi, n + 1, cp_row P n (cp_np v1 v2 v3 v4), np, Q, lq)) := by
  unfold cp_sPiece
  rw [if_pos h, if_pos h2]
  exact if_neg h3
set_option maxHeartbeats 4000000 in
set_option maxRecDepth 100000 in
theorem c_X1_addPiece {lc : Launch} {E : cp_En} {cnt : Nat} {sh : cp_Shp} {R : cp_Rem} {J : cp_Mem} {b : Nat} {o S : Nat → Int32} {P Q : cp_PP} (N : cp_NL sh R b) {n : Nat} (h3 : o 3 = nI n) (hn : n ≤ 24) {mi np : Nat} {lq : List Nat} {v1 v2 v3 v4 : Int32} : cp_Fr lc E yX1_addPiece cX1_addPiece 6 (some .int) 1 [.ref b, .int v1, .int v2, .int v3, .int v4] cnt sh (cp_nn J b o S P Q) R (some (.int ((cp_sPiece (S, mi, n, P, np, Q, lq) v1 v2 v3 v4).1))) (fun I' => ∃ (o' : Nat → Int32) (P' : cp_PP), I' = cp_nn J b o' S P' Q ∧ o' 3 = nI (cp_tn (cp_sPiece (S, mi, n, P, np, Q, lq) v1 v2 v3 v4).2) ∧ (∀ k, k ≠ 3 → o' k = o k) ∧ (∀ i, i < cp_tn (cp_sPiece (S, mi, n, P, np, Q, lq) v1 v2 v3 v4).2 → ∀ f, f < 9 → P' i f = cp_tP (cp_sPiece (S, mi, n, P, np, Q, lq) v1 v2 v3 v4).2 i f) ∧ ∀ i, i < n → P' i = P i) := by
  refine cp_Fn_iR [some (.ref b), some (.int v1), some (.int v2), some (.int v3), some (.int v4), none] (by decide +kernel) (Nat.le_of_ble_eq_true rfl) rfl rfl (fun x hxl O hr => ?_)
  subst hxl
  refine cp_iload_n O dX1_addPiece_0 cp_lg1 ?_
  refine cp_if_lt (tgt := 9) O dX1_addPiece_1 (by decide) (fun c_1 => ?_) (fun c_1 => ?_)
  · refine cp_iconst O dX1_addPiece_9 (v := (-1)) rfl ?_
    exact hr _ _ _ _ dX1_addPiece_10 (by rw [cp_sPc_1 (cp_rgL (L := 0) rfl c_1)]) ⟨_, _, rfl, by rw [cp_sPc_1 (cp_rgL (L := 0) rfl c_1)]; exact h3, fun _ _ => rfl, fun i _ f _ => by rw [cp_sPc_1 (cp_rgL (L := 0) rfl c_1)], fun _ _ => rfl⟩
  · refine cp_iload_n O dX1_addPiece_4 cp_lg1 ?_
    refine cp_iconst O dX1_addPiece_5 (v := 5) rfl ?_
    refine cp_icmp_lt (tgt := 11) O dX1_addPiece_6 (by decide) (fun c_6 => ?_) (fun c_6 => ?_)
    · have hr1 : cp_rg 0 4 v1 = true := cp_rgY (L := 0) (U := 4) rfl rfl c_1 (cp_lt5.mp c_6)
      refine cp_iload_n O dX1_addPiece_11 cp_lg2 ?_
      refine cp_iconst O dX1_addPiece_12 (v := 1) rfl ?_
      refine cp_icmp_lt (tgt := 43) O dX1_addPiece_13 (by decide) (fun c_13 => ?_) (fun c_13 => ?_)
      · refine cp_bipush O dX1_addPiece_43 (v := (-2)) rfl ?_
        exact hr _ _ _ _ dX1_addPiece_45 (by rw [cp_sPc_2 hr1 (by rw [cp_rgL (l := 1) (h := 99) (v := v2) (L := 1) rfl c_13]; rfl)]) ⟨_, _, rfl, by rw [cp_sPc_2 hr1 (by rw [cp_rgL (l := 1) (h := 99) (v := v2) (L := 1) rfl c_13]; rfl)]; exact h3, fun _ _ => rfl, fun i _ f _ => by rw [cp_sPc_2 hr1 (by rw [cp_rgL (l := 1) (h := 99) (v := v2) (L := 1) rfl c_13]; rfl)], fun _ _ => rfl⟩
      · refine cp_iload_n O dX1_addPiece_16 cp_lg2 ?_
        refine cp_bipush O dX1_addPiece_17 (v := 99) rfl ?_
        refine cp_icmp_gt (tgt := 43) O dX1_addPiece_19 (by decide) (fun c_19 => ?_) (fun c_19 => ?_)
        · refine cp_bipush O dX1_addPiece_43 (v := (-2)) rfl ?_
          exact hr _ _ _ _ dX1_addPiece_45 (by rw [cp_sPc_2 hr1 (by rw [cp_rgH (l := 1) (h := 99) (v := v2) (L := 99) rfl c_19]; rfl)]) ⟨_, _, rfl, by rw [cp_sPc_2 hr1 (by rw [cp_rgH (l := 1) (h := 99) (v := v2) (L := 99) rfl c_19]; rfl)]; exact h3, fun _ _ => rfl, fun i _ f _ => by rw [cp_sPc_2 hr1 (by rw [cp_rgH (l := 1) (h := 99) (v := v2) (L := 99) rfl c_19]; rfl)], fun _ _ => rfl⟩
        · refine cp_iload_n O dX1_addPiece_22 cp_lg3 ?_
          refine cp_if_lt (tgt := 43) O dX1_addPiece_23 (by decide) (fun c_23 => ?_) (fun c_23 => ?_)
          · refine cp_bipush O dX1_addPiece_43 (v := (-2)) rfl ?_
            exact hr _ _ _ _ dX1_addPiece_45 (by rw [cp_sPc_2 hr1 (by rw [cp_rgL (l := 0) (h := 9) (L := 0) (v := v3) rfl c_23, Bool.and_false]; rfl)]) ⟨_, _, rfl, by rw [cp_sPc_2 hr1 (by rw [cp_rgL (l := 0) (h := 9) (L := 0) (v := v3) rfl c_23, Bool.and_false]; rfl)]; exact h3, fun _ _ => rfl, fun i _ f _ => by rw [cp_sPc_2 hr1 (by rw [cp_rgL (l := 0) (h := 9) (L := 0) (v := v3) rfl c_23, Bool.and_false]; rfl)], fun _ _ => rfl⟩
          · refine cp_iload_n O dX1_addPiece_26 cp_lg3 ?_
            refine cp_bipush O dX1_addPiece_27 (v := 9) rfl ?_
            refine cp_icmp_gt (tgt := 43) O dX1_addPiece_29 (by decide) (fun c_29 => ?_) (fun c_29 => ?_)
            · refine cp_bipush O dX1_addPiece_43 (v := (-2)) rfl ?_
              exact hr _ _ _ _ dX1_addPiece_45 (by rw [cp_sPc_2 hr1 (by rw [cp_rgH (l := 0) (h := 9) (L := 9) (v := v3) rfl c_29, Bool.and_false]; rfl)]) ⟨_, _, rfl, by rw [cp_sPc_2 hr1 (by rw [cp_rgH (l := 0) (h := 9) (L := 9) (v := v3) rfl c_29, Bool.and_false]; rfl)]; exact h3, fun _ _ => rfl, fun i _ f _ => by rw [cp_sPc_2 hr1 (by rw [cp_rgH (l := 0) (h := 9) (L := 9) (v := v3) rfl c_29, Bool.and_false]; rfl)], fun _ _ => rfl⟩
            · refine cp_iload O dX1_addPiece_32 cp_lg4 ?_
              refine cp_if_lt (tgt := 43) O dX1_addPiece_34 (by decide) (fun c_34 => ?_) (fun c_34 => ?_)
              · refine cp_bipush O dX1_addPiece_43 (v := (-2)) rfl ?_
                exact hr _ _ _ _ dX1_addPiece_45 (by rw [cp_sPc_2 hr1 (by rw [cp_rgL (l := 0) (h := 1) (L := 0) (v := v4) rfl c_34, Bool.and_false])]) ⟨_, _, rfl, by rw [cp_sPc_2 hr1 (by rw [cp_rgL (l := 0) (h := 1) (L := 0) (v := v4) rfl c_34, Bool.and_false])]; exact h3, fun _ _ => rfl, fun i _ f _ => by rw [cp_sPc_2 hr1 (by rw [cp_rgL (l := 0) (h := 1) (L := 0) (v := v4) rfl c_34, Bool.and_false])], fun _ _ => rfl⟩
              · refine cp_iload O dX1_addPiece_37 cp_lg4 ?_
                refine cp_iconst O dX1_addPiece_39 (v := 1) rfl ?_
                refine cp_icmp_le (tgt := 46) O dX1_addPiece_40 (by decide) (fun c_40 => ?_) (fun c_40 => ?_)
                · have hr2 : (cp_rg 1 99 v2 && cp_rg 0 9 v3 && cp_rg 0 1 v4) = true := by
                    rw [cp_rgY (l := 1) (h := 99) (L := 1) (U := 99) (v := v2) rfl rfl c_13 c_19, cp_rgY (l := 0) (h := 9) (L := 0) (U := 9) (v := v3) rfl rfl c_23 c_29, cp_rgY (l := 0) (h := 1) (L := 0) (U := 1) (v := v4) rfl rfl c_34 (Int32.not_lt.mpr c_40)]
                    rfl
                  refine cp_aload_n O dX1_addPiece_46 cp_lg0 ?_
                  refine ng_X1_34 O N dX1_addPiece_47 ?_
                  refine cp_bipush O dX1_addPiece_50 (v := 24) rfl ?_
                  refine cp_icmp_ltN (tgt := 58) O dX1_addPiece_52 (by decide) (a := n) (b := 24) h3 rfl (by omega) (by omega) (fun c_52 => ?_) (fun c_52 => ?_)
                  · refine cp_aload_n O dX1_addPiece_58 cp_lg0 ?_
                    refine ng_X1_34 O N dX1_addPiece_59 ?_
                    refine cp_istore O dX1_addPiece_62 (by decide) (cp_ls5 rfl) ?_
                    refine cp_aload_n O dX1_addPiece_64 cp_lg0 ?_
                    refine fg_X1_29 O N.s N.pcs dX1_addPiece_65 ?_
                    refine cp_iload O dX1_addPiece_68 cp_lg5 ?_
                    refine cp_aaldr O (Or.inr (Or.inl ⟨rfl, rfl⟩)) N.spcs (j := n) h3 (by omega) (by decide) (N.pc (by omega)) dX1_addPiece_70 ?_
                    refine cp_iload_n O dX1_addPiece_71 cp_lg1 ?_
                    refine cp_iload_n O dX1_addPiece_72 cp_lg2 ?_
                    refine cp_iload_n O dX1_addPiece_73 cp_lg3 ?_
                    refine cp_iload O dX1_addPiece_74 cp_lg4 ?_
                    refine cp_iconst O dX1_addPiece_76 (v := 1) rfl ?_
                    refine cp_icmp_ne (tgt := 84) O dX1_addPiece_77 (by decide) (fun c_77 => ?_) (fun c_77 => ?_)
                    · have hlg : v4 = cp_bi false := by
                        have g := cp_rgY (L := 0) (U := 1) (v := v4) (l := 0) (h := 1) rfl rfl c_34 (Int32.not_lt.mpr c_40)
                        obtain ⟨k, _, hk, rfl⟩ := cp_rg_nI (l := 0) (h := 1) g
                        rcases (by omega : k = 0 ∨ k = 1) with e | e
                        · rw [e]; rfl
                        · exact absurd (by rw [e]; rfl) c_77
                      refine cp_iconst O dX1_addPiece_84 (v := 0) rfl ?_
                      refine cp_cVv O me_X4_come mi_X4_come ml_X1_73 cp_cX4 (N.spc (by omega)) (cp_nn_come N (i := n) (bb := false) (by omega)) dX1_addPiece_85 rfl rfl ⟨Nat.le_of_ble_eq_true rfl, Nat.le_of_ble_eq_true rfl⟩ ⟨Nat.le_refl _, Nat.le_refl _⟩ (Nat.le_of_ble_eq_true rfl) ?_
                      refine cp_aload_n O dX1_addPiece_88 cp_lg0 ?_
                      refine cp_dup O dX1_addPiece_89 rfl ?_
                      refine ng_X1_34 O N dX1_addPiece_90 ?_
                      refine cp_iconst O dX1_addPiece_93 (v := 1) rfl ?_
                      refine cp_iadd O dX1_addPiece_94 ?_
                      refine np_X1_34 O N dX1_addPiece_95 ?_
                      refine cp_iload O dX1_addPiece_98 cp_lg5 ?_
                      exact hr _ _ _ _ dX1_addPiece_100 (by rw [cp_sPc_4 hr1 hr2 (by omega)]; exact h3) ⟨_, _, rfl, by rw [cp_sPc_4 hr1 hr2 (by omega), cp_upd_s, h3]; exact nI_1 n, fun k hk => cp_upd_n hk, fun i hi f hf => by
                        rw [cp_sPc_4 hr1 hr2 (by omega)]
                        show cp_row P n _ i f = cp_row P n (cp_np v1 v2 v3 v4) i f
                        by_cases e : i = n
                        · subst e
                          rw [cp_row_s, cp_row_s, hlg]
                          exact cp_pcr_np f hf
                        · rw [cp_row_n _ _ e, cp_row_n _ _ e], fun i hi => cp_row_n _ _ (by omega)⟩
                    · have hlg : v4 = cp_bi true := c_77
                      refine cp_iconst O dX1_addPiece_80 (v := 1) rfl ?_
                      refine cp_goto (tgt := 85) O dX1_addPiece_81 (by decide) ?_
                      refine cp_cVv O me_X4_come mi_X4_come ml_X1_73 cp_cX4 (N.spc (by omega)) (cp_nn_come N (i := n) (bb := true) (by omega)) dX1_addPiece_85 rfl rfl ⟨Nat.le_of_ble_eq_true rfl, Nat.le_of_ble_eq_true rfl⟩ ⟨Nat.le_refl _, Nat.le_refl _⟩ (Nat.le_of_ble_eq_true rfl) ?_
                      refine cp_aload_n O dX1_addPiece_88 cp_lg0 ?_
                      refine cp_dup O dX1_addPiece_89 rfl ?_
                      refine ng_X1_34 O N dX1_addPiece_90 ?_
                      refine cp_iconst O dX1_addPiece_93 (v := 1) rfl ?_
                      refine cp_iadd O dX1_addPiece_94 ?_
                      refine np_X1_34 O N dX1_addPiece_95 ?_
                      refine cp_iload O dX1_addPiece_98 cp_lg5 ?_
                      exact hr _ _ _ _ dX1_addPiece_100 (by rw [cp_sPc_4 hr1 hr2 (by omega)]; exact h3) ⟨_, _, rfl, by rw [cp_sPc_4 hr1 hr2 (by omega), cp_upd_s, h3]; exact nI_1 n, fun k hk => cp_upd_n hk, fun i hi f hf => by
                        rw [cp_sPc_4 hr1 hr2 (by omega)]
                        show cp_row P n _ i f = cp_row P n (cp_np v1 v2 v3 v4) i f
                        by_cases e : i = n
                        · subst e
                          rw [cp_row_s, cp_row_s, hlg]
                          exact cp_pcr_np f hf
                        · rw [cp_row_n _ _ e, cp_row_n _ _ e], fun i hi => cp_row_n _ _ (by omega)⟩
                  · refine cp_bipush O dX1_addPiece_55 (v := (-4)) rfl ?_
                    exact hr _ _ _ _ dX1_addPiece_57 (by rw [cp_sPc_3 hr1 hr2 (by omega)]) ⟨_, _, rfl, by rw [cp_sPc_3 hr1 hr2 (by omega)]; exact h3, fun _ _ => rfl, fun i _ f _ => by rw [cp_sPc_3 hr1 hr2 (by omega)], fun _ _ => rfl⟩
                · refine cp_bipush O dX1_addPiece_43 (v := (-2)) rfl ?_
                  exact hr _ _ _ _ dX1_addPiece_45 (by rw [cp_sPc_2 hr1 (by rw [cp_rgH (l := 0) (h := 1) (L := 1) (v := v4) rfl (Int32.not_le.mp c_40), Bool.and_false])]) ⟨_, _, rfl, by rw [cp_sPc_2 hr1 (by rw [cp_rgH (l := 0) (h := 1) (L := 1) (v := v4) rfl (Int32.not_le.mp c_40), Bool.and_false])]; exact h3, fun _ _ => rfl, fun i _ f _ => by rw [cp_sPc_2 hr1 (by rw [cp_rgH (l := 0) (h := 1) (L := 1) (v := v4) rfl (Int32.not_le.mp c_40), Bool.and_false])], fun _ _ => rfl⟩
    · refine cp_iconst O dX1_addPiece_9 (v := (-1)) rfl ?_
      exact hr _ _ _ _ dX1_addPiece_10 (by rw [cp_sPc_1 (cp_rgH (L := 4) rfl (Decidable.not_not.mp (fun z => c_6 (cp_lt5.mpr z))))]) ⟨_, _, rfl, by rw [cp_sPc_1 (cp_rgH (L := 4) rfl (Decidable.not_not.mp (fun z => c_6 (cp_lt5.mpr z))))]; exact h3, fun _ _ => rfl, fun i _ f _ => by rw [cp_sPc_1 (cp_rgH (L := 4) rfl (Decidable.not_not.mp (fun z => c_6 (cp_lt5.mpr z))))], fun _ _ => rfl⟩

