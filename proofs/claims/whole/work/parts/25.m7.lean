theorem cp_sMin_0 {N : cp_Nt} (h : cp_du (cp_tp N) (cp_tQ N) (nI (cp_tm N)) = none) : cp_sMin N = (0, (cp_tS N, cp_tm N + 1, cp_tn N, (cp_wk (cp_tS N) (nI (cp_tm N)) (cp_tn N) (cp_tP N, cp_tl N)).1, cp_tp N, cp_tQ N, (cp_wk (cp_tS N) (nI (cp_tm N)) (cp_tn N) (cp_tP N, cp_tl N)).2)) := by
  unfold cp_sMin; rw [h]
theorem cp_sMin_1 {N : cp_Nt} {j : Nat} (h : cp_du (cp_tp N) (cp_tQ N) (nI (cp_tm N)) = some j) : cp_sMin N = (1, (cp_tS N, cp_tm N + 1, cp_tn N, (cp_wk (cp_tS N) (nI (cp_tm N)) (cp_tn N) (cp_tP N, cp_tl N)).1, cp_tp N, cp_wi (cp_tQ N) j 2 (cp_tk (cp_wk (cp_tS N) (nI (cp_tm N)) (cp_tn N) (cp_tP N, cp_tl N)).1 (cp_tS N 2) (cp_so (cp_tn N) (cp_wk (cp_tS N) (nI (cp_tm N)) (cp_tn N) (cp_tP N, cp_tl N)).1)).1, (cp_wk (cp_tS N) (nI (cp_tm N)) (cp_tn N) (cp_tP N, cp_tl N)).2)) := by
  unfold cp_sMin; rw [h]
theorem cp_QV_min {mi np : Nat} {Q : cp_PP} (h : cp_QV mi np Q) : cp_QV (mi + 1) np Q := ⟨h.1, fun j hj => ⟨(h.2 j hj).1, fun hn => (h.2 j hj).2 (by omega)⟩⟩
theorem cp_QV_set {mi np j : Nat} {Q : cp_PP} (h : cp_QV mi np Q) (hm : mi < 100000) (hj : Q j 0 = nI mi) (s : Int32) : cp_QV (mi + 1) np (cp_wi Q j 2 s) := by
  have h0 : ∀ i, cp_wi Q j 2 s i 0 = Q i 0 := fun i => cp_wi_j _ _ _ _ (fun z => absurd z.2 (by decide))
  refine ⟨fun i k hik hk => by rw [h0, h0]; exact h.1 i k hik hk, fun i hi => ⟨?_, fun hn => ?_⟩⟩
  · rw [cp_wi_j _ _ _ _ (fun z => absurd z.2 (by decide))]; exact (h.2 i hi).1
  · rw [h0] at hn
    have hne : i ≠ j := fun e => by
      rw [e, hj, nI_toInt (by omega)] at hn
      omega
    rw [cp_wi_j _ _ _ _ (fun z => hne z.1)]
    exact (h.2 i hi).2 (by omega)
theorem cp_NV_min {N : cp_Nt} (h : cp_NV N) (hm : cp_tm N ≤ 599) : cp_NV (cp_sMin N).2 := by
  obtain ⟨h1, h2, h3, h4, h5⟩ := h
  cases hd : cp_du (cp_tp N) (cp_tQ N) (nI (cp_tm N)) with
  | none =>
    rw [cp_sMin_0 hd]
    exact ⟨h1, by show cp_tm N + 1 ≤ 600; omega, cp_PV_wk h3, cp_PN_wk h4 h1 (by omega), cp_QV_min h5⟩
  | some j =>
    rw [cp_sMin_1 hd]
    exact ⟨h1, by show cp_tm N + 1 ≤ 600; omega, cp_PV_wk h3, cp_PN_wk h4 h1 (by omega), cp_QV_set h5 (by omega) (cp_du_some hd).2.1 _⟩
def cp_sMins : Nat → cp_Nt → Nat × cp_Nt
  | 0, N => (0, N)
  | k + 1, N => ((cp_sMins k N).1 + (if cp_du (cp_tp (cp_sMins k N).2) (cp_tQ (cp_sMins k N).2) (nI (cp_tm (cp_sMins k N).2)) = none then 0 else 1), (cp_sMin (cp_sMins k N).2).2)
theorem cp_sMin_v (N : cp_Nt) : (cp_sMin N).1 = nI (if cp_du (cp_tp N) (cp_tQ N) (nI (cp_tm N)) = none then 0 else 1) := by
  cases hd : cp_du (cp_tp N) (cp_tQ N) (nI (cp_tm N)) with
  | none => rw [cp_sMin_0 hd]; rfl
  | some j => rw [cp_sMin_1 hd]; rfl
theorem cp_sMin_m (N : cp_Nt) : cp_tm (cp_sMin N).2 = cp_tm N + 1 := by
  cases hd : cp_du (cp_tp N) (cp_tQ N) (nI (cp_tm N)) with
  | none => rw [cp_sMin_0 hd]
  | some j => rw [cp_sMin_1 hd]
theorem cp_sMins_m (N : cp_Nt) : ∀ k, cp_tm (cp_sMins k N).2 = cp_tm N + k
  | 0 => rfl
  | k + 1 => by
    show cp_tm (cp_sMin (cp_sMins k N).2).2 = _
    rw [cp_sMin_m, cp_sMins_m N k]; omega
theorem cp_sMins_V {N : cp_Nt} (h : cp_NV N) : ∀ k, cp_tm N + k ≤ 600 → cp_NV (cp_sMins k N).2
  | 0, _ => h
  | k + 1, hk => cp_NV_min (cp_sMins_V h k (by omega)) (by rw [cp_sMins_m]; omega)
/-- pass -/
def cp_sPass (N : cp_Nt) (v : Int32) : Int32 × cp_Nt := if v < 1 then (-2, N) else if nI 600 - nI (cp_tm N) < v then (-5, N) else (nI (cp_sMins v.toInt.toNat N).1, (cp_sMins v.toInt.toNat N).2)
set_option maxHeartbeats 4000000 in
set_option maxRecDepth 100000 in
theorem c_X7_passes_0 {lc : Launch} {E : cp_En} {cnt : Nat} {sh : cp_Shp} {R : cp_Rem} {J : cp_Mem} {m : Nat} {f : Nat → Int32} {r : Nat → Nat → Int32} {a : Nat → Int32} (M : cp_ML sh R m) {N : cp_Nt} (hA : cp_MA a N) (hV : cp_NV N) (hm : cp_tm N ≤ 599) (hd : cp_du (cp_tp N) (cp_tQ N) (nI (cp_tm N)) = none) : cp_Fr lc E yX7_passes cX7_passes 2 (some .int) 7 [.ref m] cnt sh (cp_ma J m f r a) R (some (.int ((cp_sMin N).1))) (fun I' => ∃ (f' a' : Nat → Int32), I' = cp_ma J m f' r a' ∧ cp_MA a' (cp_sMin N).2 ∧ ∀ k, k ≠ 7 → k ≠ 8 → f' k = f k) := by
  obtain ⟨hAS, hA4, hA5, hAW, hAQ⟩ := id hA
  obtain ⟨hVS, hVm, hVP, hVN, hVQ⟩ := id hV
  have hn24 := hVP.1
  rw [cp_sMin_0 hd]
  refine cp_Fn_iR [some (.ref m), none] (by decide +kernel) (Nat.le_of_ble_eq_true rfl) rfl rfl (fun x hxl O hr => ?_)
  subst hxl
  refine cp_aload_n O dX7_passes_0 cp_lg0 ?_
  refine cp_cVvr O me_X7_works mi_X7_works ml_X7_94 cp_cX7 M.s (c_X7_works M hAS hA4 hAW hVP) dX7_passes_1 rfl rfl ⟨Nat.le_of_ble_eq_true rfl, Nat.le_of_ble_eq_true rfl⟩ ⟨Nat.le_refl _, Nat.le_refl _⟩ (Nat.le_of_ble_eq_true rfl) (fun I1 hT1 => ?_)
  obtain ⟨a1, rfl, hW1, hx1⟩ := hT1
  refine cp_aload_n O dX7_passes_4 cp_lg0 ?_
  refine cp_aload_n O dX7_passes_5 cp_lg0 ?_
  refine fg_X7_7 O M.s M.f0 dX7_passes_6 ?_
  refine cp_iconst O dX7_passes_9 (v := 4) rfl ?_
  refine cp_ialdA O M (j := 4) rfl (by omega) dX7_passes_10 ?_
  rw [hx1 4 (by omega), hA4]
  refine cp_cVi O me_X7_due mi_X7_due ml_X7_97 cp_cX7 M.s (c_X7_due (np := cp_tp N) (Q := cp_tQ N) M hAQ.1 ((hx1 6 (by omega)).trans hAQ.2.1) (fun j hj => (hx1 _ (by omega)).trans (hAQ.2.2.1 j hj).2.1)) dX7_passes_11 rfl rfl ⟨Nat.le_of_ble_eq_true rfl, Nat.le_of_ble_eq_true rfl⟩ ⟨Nat.le_refl _, Nat.le_refl _⟩ (Nat.le_of_ble_eq_true rfl) ?_
  rw [hd, show cp_o2i none = -6 from rfl]
  refine cp_istore_n O dX7_passes_14 (by decide) (cp_ls1 rfl) ?_
  refine cp_iload_n O dX7_passes_15 cp_lg1 ?_
  refine cp_bipush O dX7_passes_16 (v := (-6)) rfl ?_
  refine cp_icmp_eq (tgt := 75) O dX7_passes_18 (by decide) (fun c_18 => ?_) (fun c_18 => ?_)
  · refine cp_aload_n O dX7_passes_75 cp_lg0 ?_
    refine fg_X7_7 O M.s M.f0 dX7_passes_76 ?_
    refine cp_iconst O dX7_passes_79 (v := 4) rfl ?_
    refine cp_dup2 O dX7_passes_80 rfl rfl ?_
    refine cp_ialdA O M (j := 4) rfl (by omega) dX7_passes_81 ?_
    refine cp_iconst O dX7_passes_82 (v := 1) rfl ?_
    refine cp_iadd O dX7_passes_83 ?_
    rw [hx1 4 (by omega), hA4, nI_1]
    refine cp_iastA O M (j := 4) rfl (by omega) dX7_passes_84 ?_
    refine cp_iload_n O dX7_passes_85 cp_lg1 ?_
    refine cp_bipush O dX7_passes_86 (v := (-6)) rfl ?_
    refine cp_icmp_ne (tgt := 95) O dX7_passes_88 (by decide) (fun c_88 => ?_) (fun c_88 => ?_)
    · exact absurd rfl c_88
    · refine cp_iconst O dX7_passes_91 (v := 0) rfl ?_
      refine cp_goto (tgt := 96) O dX7_passes_92 (by decide) ?_
      exact hr _ _ _ _ dX7_passes_96 rfl ⟨f, _, rfl, ⟨fun k hk => by rw [cp_upd_n (by omega), hx1 k (by omega)]; exact hAS k hk, cp_upd_s, by rw [cp_upd_n (by omega), hx1 5 (by omega)]; exact hA5, cp_MW_eq hW1 hn24 (fun x h1 h2 => cp_upd_n (by omega)), cp_MQ_none hAQ (by omega) hd (fun x hx => by rw [cp_upd_n (by omega), hx1 x (by omega)])⟩, fun _ _ _ => rfl⟩
  · exact absurd rfl c_18
theorem cp_MQ_of {a b : Nat → Int32} {mi np : Nat} {Q : cp_PP} (h : cp_MQ a mi np Q) (e : ∀ x, (374 ≤ x ∨ x = 6 ∨ x = 7) → b x = a x) : cp_MQ b mi np Q :=
  ⟨h.1, (e 6 (by omega)).trans h.2.1, fun j hj => ⟨(h.2.2.1 j hj).1, (e _ (by omega)).trans (h.2.2.1 j hj).2.1, (e _ (by omega)).trans (h.2.2.1 j hj).2.2.1, (e _ (by omega)).trans (h.2.2.1 j hj).2.2.2.1, (e _ (by omega)).trans (h.2.2.1 j hj).2.2.2.2⟩, (e 7 (by omega)).trans h.2.2.2⟩
set_option maxHeartbeats 4000000 in
set_option maxRecDepth 100000 in
theorem c_X7_passes_1 {lc : Launch} {E : cp_En} {cnt : Nat} {sh : cp_Shp} {R : cp_Rem} {J : cp_Mem} {m : Nat} {f : Nat → Int32} {r : Nat → Nat → Int32} {a : Nat → Int32} (M : cp_ML sh R m) {N : cp_Nt} (hA : cp_MA a N) (hV : cp_NV N) {j : Nat} (hm : cp_tm N ≤ 599) (hd : cp_du (cp_tp N) (cp_tQ N) (nI (cp_tm N)) = some j) : cp_Fr lc E yX7_passes cX7_passes 2 (some .int) 7 [.ref m] cnt sh (cp_ma J m f r a) R (some (.int ((cp_sMin N).1))) (fun I' => ∃ (f' a' : Nat → Int32), I' = cp_ma J m f' r a' ∧ cp_MA a' (cp_sMin N).2 ∧ ∀ k, k ≠ 7 → k ≠ 8 → f' k = f k) := by
  obtain ⟨hAS, hA4, hA5, hAW, hAQ⟩ := id hA
  obtain ⟨hVS, hVm, hVP, hVN, hVQ⟩ := id hV
  have hn24 := hVP.1
  rw [cp_sMin_1 hd]
  obtain ⟨hj, hjv, -⟩ := cp_du_some hd
  have hj8 : j < 8 := Nat.lt_of_lt_of_le hj hAQ.1
  refine cp_Fn_iR [some (.ref m), none] (by decide +kernel) (Nat.le_of_ble_eq_true rfl) rfl rfl (fun x hxl O hr => ?_)
  subst hxl
  refine cp_aload_n O dX7_passes_0 cp_lg0 ?_
  refine cp_cVvr O me_X7_works mi_X7_works ml_X7_94 cp_cX7 M.s (c_X7_works M hAS hA4 hAW hVP) dX7_passes_1 rfl rfl ⟨Nat.le_of_ble_eq_true rfl, Nat.le_of_ble_eq_true rfl⟩ ⟨Nat.le_refl _, Nat.le_refl _⟩ (Nat.le_of_ble_eq_true rfl) (fun I1 hT1 => ?_)
  obtain ⟨a1, rfl, hW1, hx1⟩ := hT1
  refine cp_aload_n O dX7_passes_4 cp_lg0 ?_
  refine cp_aload_n O dX7_passes_5 cp_lg0 ?_
  refine fg_X7_7 O M.s M.f0 dX7_passes_6 ?_
  refine cp_iconst O dX7_passes_9 (v := 4) rfl ?_
  refine cp_ialdA O M (j := 4) rfl (by omega) dX7_passes_10 ?_
  rw [hx1 4 (by omega), hA4]
  refine cp_cVi O me_X7_due mi_X7_due ml_X7_97 cp_cX7 M.s (c_X7_due (np := cp_tp N) (Q := cp_tQ N) M hAQ.1 ((hx1 6 (by omega)).trans hAQ.2.1) (fun j hj => (hx1 _ (by omega)).trans (hAQ.2.2.1 j hj).2.1)) dX7_passes_11 rfl rfl ⟨Nat.le_of_ble_eq_true rfl, Nat.le_of_ble_eq_true rfl⟩ ⟨Nat.le_refl _, Nat.le_refl _⟩ (Nat.le_of_ble_eq_true rfl) ?_
  rw [hd, show cp_o2i (some j) = nI j from rfl]
  refine cp_istore_n O dX7_passes_14 (by decide) (cp_ls1 rfl) ?_
  refine cp_iload_n O dX7_passes_15 cp_lg1 ?_
  refine cp_bipush O dX7_passes_16 (v := (-6)) rfl ?_
  refine cp_icmp_eq (tgt := 75) O dX7_passes_18 (by decide) (fun c_18 => ?_) (fun c_18 => ?_)
  · exact absurd c_18 (cp_nm6 (by omega))
  · refine cp_aload_n O dX7_passes_21 cp_lg0 ?_
    refine cp_aload_n O dX7_passes_22 cp_lg0 ?_
    refine fg_X7_7 O M.s M.f0 dX7_passes_23 ?_
    refine cp_iconst O dX7_passes_26 (v := 2) rfl ?_
    refine cp_ialdA O M (j := 2) rfl (by omega) dX7_passes_27 ?_
    rw [hx1 2 (by omega), hAS 2 (by decide)]
    refine cp_cVv O me_X7_takes mi_X7_takes ml_X7_100 cp_cX7 M.s (c_X7_takes M hn24 hW1.1 (cp_PN_wk hVN hVS (by omega)) ((hx1 5 (by omega)).trans hA5)) dX7_passes_28 rfl rfl ⟨Nat.le_of_ble_eq_true rfl, Nat.le_of_ble_eq_true rfl⟩ ⟨Nat.le_refl _, Nat.le_refl _⟩ (Nat.le_of_ble_eq_true rfl) ?_
    refine cp_aload_n O dX7_passes_31 cp_lg0 ?_
    refine fg_X7_7 O M.s M.f0 dX7_passes_32 ?_
    refine cp_sipush O dX7_passes_35 (v := 374) rfl ?_
    refine cp_iconst O dX7_passes_38 (v := 4) rfl ?_
    refine cp_iload_n O dX7_passes_39 cp_lg1 ?_
    refine cp_imul O dX7_passes_40 ?_
    refine cp_iadd O dX7_passes_41 ?_
    refine cp_iconst O dX7_passes_42 (v := 1) rfl ?_
    refine cp_iadd O dX7_passes_43 ?_
    refine cp_iconst O dX7_passes_44 (v := 1) rfl ?_
    refine cp_iastA O M (j := ((374 + (4 * j)) + 1)) (cp_ad (cp_ad rfl (cp_mu rfl rfl)) rfl) (by omega) dX7_passes_45 ?_
    refine cp_aload_n O dX7_passes_46 cp_lg0 ?_
    refine fg_X7_7 O M.s M.f0 dX7_passes_47 ?_
    refine cp_sipush O dX7_passes_50 (v := 374) rfl ?_
    refine cp_iconst O dX7_passes_53 (v := 4) rfl ?_
    refine cp_iload_n O dX7_passes_54 cp_lg1 ?_
    refine cp_imul O dX7_passes_55 ?_
    refine cp_iadd O dX7_passes_56 ?_
    refine cp_iconst O dX7_passes_57 (v := 3) rfl ?_
    refine cp_iadd O dX7_passes_58 ?_
    refine cp_aload_n O dX7_passes_59 cp_lg0 ?_
    refine mg_X7_76 O M dX7_passes_60 ?_
    rw [cp_tf_7]
    refine cp_iastA O M (j := ((374 + (4 * j)) + 3)) (cp_ad (cp_ad rfl (cp_mu rfl rfl)) rfl) (by omega) dX7_passes_63 ?_
    refine cp_aload_n O dX7_passes_64 cp_lg0 ?_
    refine fg_X7_7 O M.s M.f0 dX7_passes_65 ?_
    refine cp_bipush O dX7_passes_68 (v := 7) rfl ?_
    refine cp_dup2 O dX7_passes_70 rfl rfl ?_
    refine cp_ialdA O M (j := 7) rfl (by omega) dX7_passes_71 ?_
    refine cp_iconst O dX7_passes_72 (v := 1) rfl ?_
    refine cp_iadd O dX7_passes_73 ?_
    rw [cp_upd_n (show 7 ≠ 374 + 4 * j + 3 by omega), cp_upd_n (show 7 ≠ 374 + 4 * j + 1 by omega)]
    refine cp_iastA O M (j := 7) rfl (by omega) dX7_passes_74 ?_
    refine cp_aload_n O dX7_passes_75 cp_lg0 ?_
    refine fg_X7_7 O M.s M.f0 dX7_passes_76 ?_
    refine cp_iconst O dX7_passes_79 (v := 4) rfl ?_
    refine cp_dup2 O dX7_passes_80 rfl rfl ?_
    refine cp_ialdA O M (j := 4) rfl (by omega) dX7_passes_81 ?_
    refine cp_iconst O dX7_passes_82 (v := 1) rfl ?_
    refine cp_iadd O dX7_passes_83 ?_
    rw [cp_upd_n (show 4 ≠ 7 by decide), cp_upd_n (show 4 ≠ 374 + 4 * j + 3 by omega), cp_upd_n (show 4 ≠ 374 + 4 * j + 1 by omega), hx1 4 (by omega), hA4, nI_1]
    refine cp_iastA O M (j := 4) rfl (by omega) dX7_passes_84 ?_
    refine cp_iload_n O dX7_passes_85 cp_lg1 ?_
    refine cp_bipush O dX7_passes_86 (v := (-6)) rfl ?_
    refine cp_icmp_ne (tgt := 95) O dX7_passes_88 (by decide) (fun c_88 => ?_) (fun c_88 => ?_)
    · refine cp_iconst O dX7_passes_95 (v := 1) rfl ?_
      exact hr _ _ _ _ dX7_passes_96 rfl ⟨_, _, rfl, ⟨fun k hk => by rw [cp_upd_n (by omega), cp_upd_n (by omega), cp_upd_n (by omega), cp_upd_n (by omega), hx1 k (by omega)]; exact hAS k hk, cp_upd_s, by rw [cp_upd_n (by omega), cp_upd_n (by omega), cp_upd_n (by omega), cp_upd_n (by omega), hx1 5 (by omega)]; exact hA5, cp_MW_eq hW1 hn24 (fun x h1 h2 => by rw [cp_upd_n (by omega), cp_upd_n (by omega), cp_upd_n (by omega), cp_upd_n (by omega)]), cp_MQ_some (cp_MQ_of hAQ (fun x hx => hx1 x (by omega))) (by omega) hVQ hd⟩, fun k h7 h8 => cp_tf_o _ _ h7 h8⟩
    · exact absurd c_88 (cp_nm6 (by omega))
theorem c_X7_passes {lc : Launch} {E : cp_En} {cnt : Nat} {sh : cp_Shp} {R : cp_Rem} {J : cp_Mem} {m : Nat} {f : Nat → Int32} {r : Nat → Nat → Int32} {a : Nat → Int32} (M : cp_ML sh R m) {N : cp_Nt} (hA : cp_MA a N) (hV : cp_NV N) (hm : cp_tm N ≤ 599) : cp_Fr lc E yX7_passes cX7_passes 2 (some .int) 7 [.ref m] cnt sh (cp_ma J m f r a) R (some (.int (cp_sMin N).1)) (fun I' => ∃ (f' a' : Nat → Int32), I' = cp_ma J m f' r a' ∧ cp_MA a' (cp_sMin N).2 ∧ ∀ k, k ≠ 7 → k ≠ 8 → f' k = f k) := by
  cases hd : cp_du (cp_tp N) (cp_tQ N) (nI (cp_tm N)) with
  | none => exact c_X7_passes_0 M hA hV hm hd
  | some j => exact c_X7_passes_1 M hA hV hm hd
