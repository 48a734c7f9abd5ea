theorem c_X7_ofe {lc : Launch} {E : cp_En} {cnt : Nat} {sh : cp_Shp} {R : cp_Rem} {J : cp_Mem} {m : Nat} {f : Nat → Int32} {r : Nat → Nat → Int32} {a : Nat → Int32} (M : cp_ML sh R m) {v1 v2 w : Int32} {p q : Nat} (h1 : v1 = nI p) (h2 : v2 = nI q) (hp : p < 24) (hq : q < 9) (hw : a (158 + 9 * p + q) = w) : cp_Fn lc E yX7_of cX7_of 3 (some .int) 0 [.ref m, .int v1, .int v2] cnt sh (cp_ma J m f r a) R (some (.int w)) (cp_ma J m f r a) := cp_Fn_eq (c_X7_of M h1 h2 hp hq) (by rw [hw]) rfl
set_option maxHeartbeats 4000000 in
set_option maxRecDepth 100000 in
theorem c_X7_edits_0 {lc : Launch} {E : cp_En} {cnt : Nat} {sh : cp_Shp} {R : cp_Rem} {J : cp_Mem} {m : Nat} {f : Nat → Int32} {r : Nat → Nat → Int32} {a : Nat → Int32} (M : cp_ML sh R m) {v1 : Int32} {d n : Nat} {S : Nat → Int32} {mi : Int32} {P : cp_PP} {lq : List Nat} (h1 : v1 = nI d) (hd : d < 5) (hS : a 0 = S 0) (hmi : a 4 = mi) (hW : cp_MW a n P (cp_LL n P lq)) (hV : cp_PV n P lq) (hdq : cp_dq n P d = []) : cp_Fr lc E yX7_edits cX7_edits 4 none 5 [.ref m, .int v1] cnt sh (cp_ma J m f r a) R none (fun I' => ∃ a', I' = cp_ma J m f r a' ∧ cp_MW a' n (cp_ed S mi n d (P, lq)).1 (cp_LL n (cp_ed S mi n d (P, lq)).1 (cp_ed S mi n d (P, lq)).2) ∧ ∀ x, (x < 8 ∨ 374 ≤ x) → a' x = a x) := by
  have hQ := hW.2 d (by omega)
  rw [cp_LLd _ _ _ hd, hdq] at hQ
  refine cp_Fn_vR [some (.ref m), some (.int v1), none, none] (by decide +kernel) (Nat.le_of_ble_eq_true rfl) rfl (fun x hxl O hr => ?_)
  subst hxl
  refine cp_aload_n O dX7_edits_0 cp_lg0 ?_
  refine fg_X7_7 O M.s M.f0 dX7_edits_1 ?_
  refine cp_bipush O dX7_edits_4 (v := 8) rfl ?_
  refine cp_iload_n O dX7_edits_6 cp_lg1 ?_
  refine cp_iadd O dX7_edits_7 ?_
  refine cp_ialdA O M (j := (8 + d)) (cp_ad rfl h1) (by omega) dX7_edits_8 ?_
  refine cp_if_ne (tgt := 13) O dX7_edits_9 (by decide) (fun c_9 => ?_) (fun c_9 => ?_)
  · exact absurd hQ.1 c_9
  · exact hr _ _ _ dX7_edits_12 (by rw [cp_ed_nil hdq]; exact ⟨a, rfl, hW, fun _ _ => rfl⟩)
set_option maxHeartbeats 4000000 in
set_option maxRecDepth 100000 in
theorem c_X7_edits_1 {lc : Launch} {E : cp_En} {cnt : Nat} {sh : cp_Shp} {R : cp_Rem} {J : cp_Mem} {m : Nat} {f : Nat → Int32} {r : Nat → Nat → Int32} {a : Nat → Int32} (M : cp_ML sh R m) {v1 : Int32} {d n : Nat} {S : Nat → Int32} {mi : Int32} {P : cp_PP} {lq : List Nat} (h1 : v1 = nI d) (hd : d < 5) (hS : a 0 = S 0) (hmi : a 4 = mi) (hW : cp_MW a n P (cp_LL n P lq)) (hV : cp_PV n P lq) {i : Nat} {t : List Nat} (hdq : cp_dq n P d = i :: t) : cp_Fr lc E yX7_edits cX7_edits 4 none 5 [.ref m, .int v1] cnt sh (cp_ma J m f r a) R none (fun I' => ∃ a', I' = cp_ma J m f r a' ∧ cp_MW a' n (cp_ed S mi n d (P, lq)).1 (cp_LL n (cp_ed S mi n d (P, lq)).1 (cp_ed S mi n d (P, lq)).2) ∧ ∀ x, (x < 8 ∨ 374 ≤ x) → a' x = a x) := by
  have hi := cp_ed_hd hdq
  have hn24 := hV.1
  have hQ := hW.2 d (by omega)
  rw [cp_LLd _ _ _ hd, hdq] at hQ
  have hp := hW.1 i hi.1
  have hlt : ∀ j, j < (i :: t).length → (i :: t).getD j 0 < 24 := fun j hj => by
    have h0 : (i :: t).getD j 0 ∈ cp_dq n P d := by rw [hdq]; exact cp_getD_in hj
    have h := (cp_dq_in.mp h0).1
    omega
  have ht24 : t.length + 1 ≤ 24 := hQ.2.1
  have hlen := cp_PV_len hV hi.1 (by rw [hi.2.1]; decide)
  have h5 := hW.2 5 (by decide)
  rw [cp_LL5] at h5
  refine cp_Fn_vR [some (.ref m), some (.int v1), none, none] (by decide +kernel) (Nat.le_of_ble_eq_true rfl) rfl (fun x hxl O hr => ?_)
  subst hxl
  refine cp_aload_n O dX7_edits_0 cp_lg0 ?_
  refine fg_X7_7 O M.s M.f0 dX7_edits_1 ?_
  refine cp_bipush O dX7_edits_4 (v := 8) rfl ?_
  refine cp_iload_n O dX7_edits_6 cp_lg1 ?_
  refine cp_iadd O dX7_edits_7 ?_
  refine cp_ialdA O M (j := (8 + d)) (cp_ad rfl h1) (by omega) dX7_edits_8 ?_
  refine cp_if_ne (tgt := 13) O dX7_edits_9 (by decide) (fun c_9 => ?_) (fun c_9 => ?_)
  · refine cp_aload_n O dX7_edits_13 cp_lg0 ?_
    refine cp_iload_n O dX7_edits_14 cp_lg1 ?_
    refine cp_iconst O dX7_edits_15 (v := 0) rfl ?_
    refine cp_cVi O me_X7_inQueue mi_X7_inQueue ml_X7_47 cp_cX7 M.s (c_X7_inQueue (q := d) (k := 0) M h1 rfl (by omega) (by omega)) dX7_edits_16 rfl rfl ⟨Nat.le_of_ble_eq_true rfl, Nat.le_of_ble_eq_true rfl⟩ ⟨Nat.le_refl _, Nat.le_refl _⟩ (Nat.le_of_ble_eq_true rfl) ?_
    refine cp_istore_n O dX7_edits_19 (by decide) (cp_ls2 rfl) ?_
    refine cp_aload_n O dX7_edits_20 cp_lg0 ?_
    refine cp_iload_n O dX7_edits_21 cp_lg2 ?_
    refine cp_bipush O dX7_edits_22 (v := 6) rfl ?_
    refine cp_cVi O me_X7_of mi_X7_of ml_X7_39 cp_cX7 M.s (c_X7_ofe (w := P i 6) (p := i) (q := 6) M (hQ.2.2 0 (by simp)) rfl (by omega) (by omega) (hp 6 (by decide))) dX7_edits_24 rfl rfl ⟨Nat.le_of_ble_eq_true rfl, Nat.le_of_ble_eq_true rfl⟩ ⟨Nat.le_refl _, Nat.le_refl _⟩ (Nat.le_of_ble_eq_true rfl) ?_
    refine cp_aload_n O dX7_edits_27 cp_lg0 ?_
    refine fg_X7_7 O M.s M.f0 dX7_edits_28 ?_
    refine cp_iconst O dX7_edits_31 (v := 0) rfl ?_
    refine cp_ialdA O M (j := 0) rfl (by omega) dX7_edits_32 ?_
    refine cp_iadd O dX7_edits_33 ?_
    rw [hS]
    refine cp_istore_n O dX7_edits_34 (by decide) (cp_ls3 rfl) ?_
    refine cp_aload_n O dX7_edits_35 cp_lg0 ?_
    refine cp_iload_n O dX7_edits_36 cp_lg2 ?_
    refine cp_bipush O dX7_edits_37 (v := 6) rfl ?_
    refine cp_iload_n O dX7_edits_39 cp_lg3 ?_
    refine cp_aload_n O dX7_edits_40 cp_lg0 ?_
    refine cp_iload_n O dX7_edits_41 cp_lg2 ?_
    refine cp_iconst O dX7_edits_42 (v := 1) rfl ?_
    refine cp_cVi O me_X7_of mi_X7_of ml_X7_39 cp_cX7 M.s (c_X7_ofe (w := P i 1) (p := i) (q := 1) M (hQ.2.2 0 (by simp)) rfl (by omega) (by omega) (hp 1 (by decide))) dX7_edits_43 rfl rfl ⟨Nat.le_of_ble_eq_true rfl, Nat.le_of_ble_eq_true rfl⟩ ⟨Nat.le_refl _, Nat.le_refl _⟩ (Nat.le_of_ble_eq_true rfl) ?_
    refine cp_icmp_ge (tgt := 53) O dX7_edits_46 (by decide) (fun c_46 => ?_) (fun c_46 => ?_)
    · refine cp_aload_n O dX7_edits_53 cp_lg0 ?_
      refine cp_iload_n O dX7_edits_54 cp_lg2 ?_
      refine cp_iconst O dX7_edits_55 (v := 1) rfl ?_
      refine cp_cVi O me_X7_of mi_X7_of ml_X7_39 cp_cX7 M.s (c_X7_ofe (w := P i 1) (p := i) (q := 1) M (hQ.2.2 0 (by simp)) rfl (by omega) (by omega) (hp 1 (by decide))) dX7_edits_56 rfl rfl ⟨Nat.le_of_ble_eq_true rfl, Nat.le_of_ble_eq_true rfl⟩ ⟨Nat.le_refl _, Nat.le_refl _⟩ (Nat.le_of_ble_eq_true rfl) ?_
      refine cp_cVv O me_X7_sets mi_X7_sets ml_X7_53 cp_cX7 M.s (c_X7_sets (p := i) (q := 6) M (hQ.2.2 0 (by simp)) rfl (by omega) (by omega)) dX7_edits_59 rfl rfl ⟨Nat.le_of_ble_eq_true rfl, Nat.le_of_ble_eq_true rfl⟩ ⟨Nat.le_refl _, Nat.le_refl _⟩ (Nat.le_of_ble_eq_true rfl) ?_
      refine cp_iload_n O dX7_edits_62 cp_lg3 ?_
      refine cp_aload_n O dX7_edits_63 cp_lg0 ?_
      refine cp_iload_n O dX7_edits_64 cp_lg2 ?_
      refine cp_iconst O dX7_edits_65 (v := 1) rfl ?_
      refine cp_cVi O me_X7_of mi_X7_of ml_X7_39 cp_cX7 M.s (c_X7_ofe (w := P i 1) (p := i) (q := 1) M (hQ.2.2 0 (by simp)) rfl (by omega) (by omega) (by rw [cp_upd_n (by omega)]; exact hp 1 (by decide))) dX7_edits_66 rfl rfl ⟨Nat.le_of_ble_eq_true rfl, Nat.le_of_ble_eq_true rfl⟩ ⟨Nat.le_refl _, Nat.le_refl _⟩ (Nat.le_of_ble_eq_true rfl) ?_
      refine cp_icmp_lt (tgt := 108) O dX7_edits_69 (by decide) (fun c_69 => ?_) (fun c_69 => ?_)
      · exact absurd c_69 (Int32.not_lt.mpr c_46)
      · refine cp_aload_n O dX7_edits_72 cp_lg0 ?_
        refine cp_iload_n O dX7_edits_73 cp_lg2 ?_
        refine cp_cVv O me_X7_leaves mi_X7_leaves ml_X7_57 cp_cX7 M.s (c_X7_leaves (p := i) (q := d) (k := 0) (l := i :: t) M (hQ.2.2 0 (by simp)) (by omega) (by omega) (by unfold cp_qo; rw [cp_upd_n (by omega), hp 4 (by decide), hi.2.1, if_pos rfl, cp_upd_n (by omega)]; exact (hp 0 (by decide)).trans hi.2.2) (cp_QL_eq hQ (cp_upd_n (by omega)) (fun k hk => cp_upd_n (by omega))) hlt (by simp) rfl (fun j hj => absurd hj (by omega))) dX7_edits_74 rfl rfl ⟨Nat.le_of_ble_eq_true rfl, Nat.le_of_ble_eq_true rfl⟩ ⟨Nat.le_refl _, Nat.le_refl _⟩ (Nat.le_of_ble_eq_true rfl) ?_
        refine cp_aload_n O dX7_edits_77 cp_lg0 ?_
        refine cp_iload_n O dX7_edits_78 cp_lg2 ?_
        refine cp_iconst O dX7_edits_79 (v := 3) rfl ?_
        refine cp_cVi O me_X7_of mi_X7_of ml_X7_39 cp_cX7 M.s (c_X7_ofe (w := P i 3) (p := i) (q := 3) M (hQ.2.2 0 (by simp)) rfl (by omega) (by omega) (by rw [cp_lv_hi (by omega) (by simp; omega) (by omega), cp_upd_n (by omega)]; exact hp 3 (by decide))) dX7_edits_80 rfl rfl ⟨Nat.le_of_ble_eq_true rfl, Nat.le_of_ble_eq_true rfl⟩ ⟨Nat.le_refl _, Nat.le_refl _⟩ (Nat.le_of_ble_eq_true rfl) ?_
        refine cp_iconst O dX7_edits_83 (v := 1) rfl ?_
        refine cp_icmp_ne (tgt := 103) O dX7_edits_84 (by decide) (fun c_84 => ?_) (fun c_84 => ?_)
        · refine cp_aload_n O dX7_edits_103 cp_lg0 ?_
          refine cp_iload_n O dX7_edits_104 cp_lg2 ?_
          refine cp_cVv O me_X7_becomesReady mi_X7_becomesReady ml_X7_65 cp_cX7 M.s (c_X7_becomesReady (p := i) M (hQ.2.2 0 (by simp)) (by omega)) dX7_edits_105 rfl rfl ⟨Nat.le_of_ble_eq_true rfl, Nat.le_of_ble_eq_true rfl⟩ ⟨Nat.le_refl _, Nat.le_refl _⟩ (Nat.le_of_ble_eq_true rfl) ?_
          exact hr _ _ _ dX7_edits_108 (by have e4 : cp_lv (upd a (158 + 9 * i + 6) (P i 1)) d 0 (i :: t).length ((i :: t).length - 1) 4 = mi := (by rw [cp_lv_hi (by omega) (by simp; omega) (by omega), cp_upd_n (by omega)]; exact hmi) ; rw [cp_ed_cons hdq, if_neg c_69, if_neg c_84, e4]; exact ⟨_, rfl, cp_ed_C hW hV hdq hd _ _, fun x hx => by rw [cp_upd_n (by omega), cp_upd_n (by omega), cp_lv_hi (by omega) (by simp; omega) (by omega), cp_upd_n (by omega)]⟩)
        · refine cp_aload_n O dX7_edits_87 cp_lg0 ?_
          refine cp_iload_n O dX7_edits_88 cp_lg2 ?_
          refine cp_iconst O dX7_edits_89 (v := 4) rfl ?_
          refine cp_iconst O dX7_edits_90 (v := 1) rfl ?_
          refine cp_cVv O me_X7_sets mi_X7_sets ml_X7_53 cp_cX7 M.s (c_X7_sets (p := i) (q := 4) M (hQ.2.2 0 (by simp)) rfl (by omega) (by omega)) dX7_edits_91 rfl rfl ⟨Nat.le_of_ble_eq_true rfl, Nat.le_of_ble_eq_true rfl⟩ ⟨Nat.le_refl _, Nat.le_refl _⟩ (Nat.le_of_ble_eq_true rfl) ?_
          refine cp_aload_n O dX7_edits_94 cp_lg0 ?_
          refine cp_iconst O dX7_edits_95 (v := 5) rfl ?_
          refine cp_iload_n O dX7_edits_96 cp_lg2 ?_
          refine cp_cVv O me_X7_comesTo mi_X7_comesTo ml_X7_61 cp_cX7 M.s (c_X7_comesTo (q := 5) (p := i) M rfl (hQ.2.2 0 (by simp)) (by decide) (by rw [cp_upd_n (by omega)]; exact (cp_QL_lvo (cp_QL_eq h5 (cp_upd_n (by omega)) (fun k hk => cp_upd_n (by omega))) (by omega) (by omega) (by omega) (by simp; omega)).1) (by omega)) dX7_edits_97 rfl rfl ⟨Nat.le_of_ble_eq_true rfl, Nat.le_of_ble_eq_true rfl⟩ ⟨Nat.le_refl _, Nat.le_refl _⟩ (Nat.le_of_ble_eq_true rfl) ?_
          refine cp_goto (tgt := 108) O dX7_edits_100 (by decide) ?_
          exact hr _ _ _ dX7_edits_108 (by rw [cp_ed_cons hdq, if_neg c_69, if_pos c_84]; exact ⟨_, rfl, cp_ed_B hW hV hdq hd _, fun x hx => by rw [cp_cm_hi (by decide) (by omega) (by omega), cp_upd_n (by omega), cp_lv_hi (by omega) (by simp; omega) (by omega), cp_upd_n (by omega)]⟩)
    · refine cp_iload_n O dX7_edits_49 cp_lg3 ?_
      refine cp_goto (tgt := 59) O dX7_edits_50 (by decide) ?_
      refine cp_cVv O me_X7_sets mi_X7_sets ml_X7_53 cp_cX7 M.s (c_X7_sets (p := i) (q := 6) M (hQ.2.2 0 (by simp)) rfl (by omega) (by omega)) dX7_edits_59 rfl rfl ⟨Nat.le_of_ble_eq_true rfl, Nat.le_of_ble_eq_true rfl⟩ ⟨Nat.le_refl _, Nat.le_refl _⟩ (Nat.le_of_ble_eq_true rfl) ?_
      refine cp_iload_n O dX7_edits_62 cp_lg3 ?_
      refine cp_aload_n O dX7_edits_63 cp_lg0 ?_
      refine cp_iload_n O dX7_edits_64 cp_lg2 ?_
      refine cp_iconst O dX7_edits_65 (v := 1) rfl ?_
      refine cp_cVi O me_X7_of mi_X7_of ml_X7_39 cp_cX7 M.s (c_X7_ofe (w := P i 1) (p := i) (q := 1) M (hQ.2.2 0 (by simp)) rfl (by omega) (by omega) (by rw [cp_upd_n (by omega)]; exact hp 1 (by decide))) dX7_edits_66 rfl rfl ⟨Nat.le_of_ble_eq_true rfl, Nat.le_of_ble_eq_true rfl⟩ ⟨Nat.le_refl _, Nat.le_refl _⟩ (Nat.le_of_ble_eq_true rfl) ?_
      refine cp_icmp_lt (tgt := 108) O dX7_edits_69 (by decide) (fun c_69 => ?_) (fun c_69 => ?_)
      · exact hr _ _ _ dX7_edits_108 (by rw [cp_ed_cons hdq, if_pos c_69]; exact ⟨_, rfl, cp_ed_A hW hV hdq _, fun x hx => by rw [cp_upd_n (by omega)]⟩)
      · exact absurd (Int32.not_le.mp c_46) c_69
  · exact absurd (hQ.1.symm.trans c_9) (nI_ne0 (by simp) (by simp; omega))
theorem c_X7_edits {lc : Launch} {E : cp_En} {cnt : Nat} {sh : cp_Shp} {R : cp_Rem} {J : cp_Mem} {m : Nat} {f : Nat → Int32} {r : Nat → Nat → Int32} {a : Nat → Int32} (M : cp_ML sh R m) {v1 : Int32} {d n : Nat} {S : Nat → Int32} {mi : Int32} {P : cp_PP} {lq : List Nat} (h1 : v1 = nI d) (hd : d < 5) (hS : a 0 = S 0) (hmi : a 4 = mi) (hW : cp_MW a n P (cp_LL n P lq)) (hV : cp_PV n P lq) : cp_Fr lc E yX7_edits cX7_edits 4 none 5 [.ref m, .int v1] cnt sh (cp_ma J m f r a) R none (fun I' => ∃ a', I' = cp_ma J m f r a' ∧ cp_MW a' n (cp_ed S mi n d (P, lq)).1 (cp_LL n (cp_ed S mi n d (P, lq)).1 (cp_ed S mi n d (P, lq)).2) ∧ ∀ x, (x < 8 ∨ 374 ≤ x) → a' x = a x) := by
  cases hdq : cp_dq n P d with
  | nil => exact c_X7_edits_0 M h1 hd hS hmi hW hV hdq
  | cons i t => exact c_X7_edits_1 M h1 hd hS hmi hW hV hdq
set_option maxHeartbeats 4000000 in
set_option maxRecDepth 100000 in
theorem c_X7_reads_0 {lc : Launch} {E : cp_En} {cnt : Nat} {sh : cp_Shp} {R : cp_Rem} {J : cp_Mem} {m : Nat} {f : Nat → Int32} {r : Nat → Nat → Int32} {a : Nat → Int32} (M : cp_ML sh R m) {n : Nat} {S : Nat → Int32} {mi : Int32} {P : cp_PP} (hS : a 1 = S 1) (hmi : a 4 = mi) (hW : cp_MW a n P (cp_LL n P [])) (hV : cp_PV n P []) : cp_Fr lc E yX7_reads cX7_reads 2 none 5 [.ref m] cnt sh (cp_ma J m f r a) R none (fun I' => ∃ a', I' = cp_ma J m f r a' ∧ cp_MW a' n (cp_rd S mi (P, [])).1 (cp_LL n (cp_rd S mi (P, [])).1 (cp_rd S mi (P, [])).2) ∧ ∀ x, (x < 8 ∨ 374 ≤ x) → a' x = a x) := by
  have hQ := hW.2 5 (by omega)
  rw [cp_LL5] at hQ
  refine cp_Fn_vR [some (.ref m), none] (by decide +kernel) (Nat.le_of_ble_eq_true rfl) rfl (fun x hxl O hr => ?_)
  subst hxl
  refine cp_aload_n O dX7_reads_0 cp_lg0 ?_
  refine fg_X7_7 O M.s M.f0 dX7_reads_1 ?_
  refine cp_bipush O dX7_reads_4 (v := 13) rfl ?_
  refine cp_ialdA O M (j := 13) rfl (by omega) dX7_reads_6 ?_
  refine cp_if_ne (tgt := 11) O dX7_reads_7 (by decide) (fun c_7 => ?_) (fun c_7 => ?_)
  · exact absurd hQ.1 c_7
  · exact hr _ _ _ dX7_reads_10 ⟨a, rfl, hW, fun _ _ => rfl⟩
set_option maxHeartbeats 4000000 in
set_option maxRecDepth 100000 in
theorem c_X7_reads_1 {lc : Launch} {E : cp_En} {cnt : Nat} {sh : cp_Shp} {R : cp_Rem} {J : cp_Mem} {m : Nat} {f : Nat → Int32} {r : Nat → Nat → Int32} {a : Nat → Int32} (M : cp_ML sh R m) {i : Nat} {t : List Nat} {n : Nat} {S : Nat → Int32} {mi : Int32} {P : cp_PP} (hS : a 1 = S 1) (hmi : a 4 = mi) (hW : cp_MW a n P (cp_LL n P (i :: t))) (hV : cp_PV n P (i :: t)) : cp_Fr lc E yX7_reads cX7_reads 2 none 5 [.ref m] cnt sh (cp_ma J m f r a) R none (fun I' => ∃ a', I' = cp_ma J m f r a' ∧ cp_MW a' n (cp_rd S mi (P, i :: t)).1 (cp_LL n (cp_rd S mi (P, i :: t)).1 (cp_rd S mi (P, i :: t)).2) ∧ ∀ x, (x < 8 ∨ 374 ≤ x) → a' x = a x) := by
  have hi := (hV.2.2.2 i).mp List.mem_cons_self
  have hn24 := hV.1
  have hQ := hW.2 5 (by omega)
  rw [cp_LL5] at hQ
  have hp := hW.1 i hi.1
  have hlt : ∀ j, j < (i :: t).length → (i :: t).getD j 0 < 24 := fun j hj => by
    have h := ((hV.2.2.2 _).mp (cp_getD_in hj)).1
    omega
  have ht24 : t.length + 1 ≤ 24 := hQ.2.1
  refine cp_Fn_vR [some (.ref m), none] (by decide +kernel) (Nat.le_of_ble_eq_true rfl) rfl (fun x hxl O hr => ?_)
  subst hxl
  refine cp_aload_n O dX7_reads_0 cp_lg0 ?_
  refine fg_X7_7 O M.s M.f0 dX7_reads_1 ?_
  refine cp_bipush O dX7_reads_4 (v := 13) rfl ?_
  refine cp_ialdA O M (j := 13) rfl (by omega) dX7_reads_6 ?_
  refine cp_if_ne (tgt := 11) O dX7_reads_7 (by decide) (fun c_7 => ?_) (fun c_7 => ?_)
  · refine cp_aload_n O dX7_reads_11 cp_lg0 ?_
    refine cp_iconst O dX7_reads_12 (v := 5) rfl ?_
    refine cp_iconst O dX7_reads_13 (v := 0) rfl ?_
    refine cp_cVi O me_X7_inQueue mi_X7_inQueue ml_X7_47 cp_cX7 M.s (c_X7_inQueue (q := 5) (k := 0) M rfl rfl (by omega) (by omega)) dX7_reads_14 rfl rfl ⟨Nat.le_of_ble_eq_true rfl, Nat.le_of_ble_eq_true rfl⟩ ⟨Nat.le_refl _, Nat.le_refl _⟩ (Nat.le_of_ble_eq_true rfl) ?_
    refine cp_istore_n O dX7_reads_17 (by decide) (cp_ls1 rfl) ?_
    refine cp_aload_n O dX7_reads_18 cp_lg0 ?_
    refine cp_iload_n O dX7_reads_19 cp_lg1 ?_
    refine cp_bipush O dX7_reads_20 (v := 7) rfl ?_
    refine cp_aload_n O dX7_reads_22 cp_lg0 ?_
    refine cp_iload_n O dX7_reads_23 cp_lg1 ?_
    refine cp_bipush O dX7_reads_24 (v := 7) rfl ?_
    refine cp_cVi O me_X7_of mi_X7_of ml_X7_39 cp_cX7 M.s (c_X7_ofe (w := P i 7) (p := i) (q := 7) M (hQ.2.2 0 (by simp)) rfl (by omega) (by omega) (hp 7 (by decide))) dX7_reads_26 rfl rfl ⟨Nat.le_of_ble_eq_true rfl, Nat.le_of_ble_eq_true rfl⟩ ⟨Nat.le_refl _, Nat.le_refl _⟩ (Nat.le_of_ble_eq_true rfl) ?_
    refine cp_iconst O dX7_reads_29 (v := 1) rfl ?_
    refine cp_iadd O dX7_reads_30 ?_
    refine cp_cVv O me_X7_sets mi_X7_sets ml_X7_53 cp_cX7 M.s (c_X7_sets (p := i) (q := 7) M (hQ.2.2 0 (by simp)) rfl (by omega) (by omega)) dX7_reads_31 rfl rfl ⟨Nat.le_of_ble_eq_true rfl, Nat.le_of_ble_eq_true rfl⟩ ⟨Nat.le_refl _, Nat.le_refl _⟩ (Nat.le_of_ble_eq_true rfl) ?_
    refine cp_aload_n O dX7_reads_34 cp_lg0 ?_
    refine cp_iload_n O dX7_reads_35 cp_lg1 ?_
    refine cp_bipush O dX7_reads_36 (v := 7) rfl ?_
    refine cp_cVi O me_X7_of mi_X7_of ml_X7_39 cp_cX7 M.s (c_X7_ofe (w := P i 7 + 1) (p := i) (q := 7) M (hQ.2.2 0 (by simp)) rfl (by omega) (by omega) cp_upd_s) dX7_reads_38 rfl rfl ⟨Nat.le_of_ble_eq_true rfl, Nat.le_of_ble_eq_true rfl⟩ ⟨Nat.le_refl _, Nat.le_refl _⟩ (Nat.le_of_ble_eq_true rfl) ?_
    refine cp_aload_n O dX7_reads_41 cp_lg0 ?_
    refine fg_X7_7 O M.s M.f0 dX7_reads_42 ?_
    refine cp_iconst O dX7_reads_45 (v := 1) rfl ?_
    refine cp_ialdA O M (j := 1) rfl (by omega) dX7_reads_46 ?_
    rw [cp_upd_n (show 1 ≠ 158 + 9 * i + 7 by omega), hS]
    refine cp_icmp_lt (tgt := 60) O dX7_reads_47 (by decide) (fun c_47 => ?_) (fun c_47 => ?_)
    · exact hr _ _ _ dX7_reads_60 (by rw [cp_rd_cons, if_neg (Int32.not_le.mpr c_47)]; exact ⟨_, rfl, cp_rd_A hW hV _, fun x hx => by rw [cp_upd_n (by omega)]⟩)
    · refine cp_aload_n O dX7_reads_50 cp_lg0 ?_
      refine cp_iload_n O dX7_reads_51 cp_lg1 ?_
      refine cp_cVv O me_X7_leaves mi_X7_leaves ml_X7_57 cp_cX7 M.s (c_X7_leaves (p := i) (q := 5) (k := 0) (l := i :: t) M (hQ.2.2 0 (by simp)) (by omega) (by omega) (by unfold cp_qo; rw [cp_upd_n (by omega), hp 4 (by decide), hi.2, if_neg (by decide), if_pos rfl]; rfl) (cp_QL_eq hQ (cp_upd_n (by omega)) (fun k hk => cp_upd_n (by omega))) hlt (by simp) rfl (fun j hj => absurd hj (by omega))) dX7_reads_52 rfl rfl ⟨Nat.le_of_ble_eq_true rfl, Nat.le_of_ble_eq_true rfl⟩ ⟨Nat.le_refl _, Nat.le_refl _⟩ (Nat.le_of_ble_eq_true rfl) ?_
      refine cp_aload_n O dX7_reads_55 cp_lg0 ?_
      refine cp_iload_n O dX7_reads_56 cp_lg1 ?_
      refine cp_cVv O me_X7_becomesReady mi_X7_becomesReady ml_X7_65 cp_cX7 M.s (c_X7_becomesReady (p := i) M (hQ.2.2 0 (by simp)) (by omega)) dX7_reads_57 rfl rfl ⟨Nat.le_of_ble_eq_true rfl, Nat.le_of_ble_eq_true rfl⟩ ⟨Nat.le_refl _, Nat.le_refl _⟩ (Nat.le_of_ble_eq_true rfl) ?_
      exact hr _ _ _ dX7_reads_60 (by have e4 : cp_lv (upd a (158 + 9 * i + 7) (P i 7 + 1)) 5 0 (i :: t).length ((i :: t).length - 1) 4 = mi := (by rw [cp_lv_hi (by omega) (by simp; omega) (by omega), cp_upd_n (by omega)]; exact hmi) ; rw [cp_rd_cons, if_pos (Int32.not_lt.mp c_47), e4]; exact ⟨_, rfl, cp_rd_C hW hV _ _, fun x hx => by rw [cp_upd_n (by omega), cp_upd_n (by omega), cp_lv_hi (by omega) (by simp; omega) (by omega), cp_upd_n (by omega)]⟩)
  · exact absurd (hQ.1.symm.trans c_7) (nI_ne0 (by simp) (by simp; omega))
theorem c_X7_reads {lc : Launch} {E : cp_En} {cnt : Nat} {sh : cp_Shp} {R : cp_Rem} {J : cp_Mem} {m : Nat} {f : Nat → Int32} {r : Nat → Nat → Int32} {a : Nat → Int32} (M : cp_ML sh R m) {n : Nat} {S : Nat → Int32} {mi : Int32} {P : cp_PP} {lq : List Nat} (hS : a 1 = S 1) (hmi : a 4 = mi) (hW : cp_MW a n P (cp_LL n P lq)) (hV : cp_PV n P lq) : cp_Fr lc E yX7_reads cX7_reads 2 none 5 [.ref m] cnt sh (cp_ma J m f r a) R none (fun I' => ∃ a', I' = cp_ma J m f r a' ∧ cp_MW a' n (cp_rd S mi (P, lq)).1 (cp_LL n (cp_rd S mi (P, lq)).1 (cp_rd S mi (P, lq)).2) ∧ ∀ x, (x < 8 ∨ 374 ≤ x) → a' x = a x) := by
  cases lq with
  | nil => exact c_X7_reads_0 M hS hmi hW hV
  | cons i t => exact c_X7_reads_1 M hS hmi hW hV
