set_option maxHeartbeats 4000000 in
set_option maxRecDepth 100000 in
theorem c_X7_placeOf {lc : Launch} {E : cp_En} {cnt : Nat} {sh : cp_Shp} {R : cp_Rem} {J : cp_Mem} {m : Nat} {f : Nat → Int32} {r : Nat → Nat → Int32} {a : Nat → Int32} (M : cp_ML sh R m) {v1 : Int32} {p q k : Nat} {l : List Nat} (h1 : v1 = nI p) (hp : p < 24) (hq : q < 6) (hqo : cp_qo a p = nI q) (hl : cp_QL a q l) (hlt : ∀ j, j < l.length → l.getD j 0 < 24) (hk : k < l.length) (hpk : l.getD k 0 = p) (hne : ∀ j, j < k → l.getD j 0 ≠ p) : cp_Fn lc E yX7_placeOf cX7_placeOf 4 (some .int) 2 [.ref m, .int v1] cnt sh (cp_ma J m f r a) R (some (.int (nI k))) (cp_ma J m f r a) := by
  have h24 := hl.2.1
  refine cp_Fn_i [some (.ref m), some (.int v1), none, none] (by decide +kernel) (Nat.le_of_ble_eq_true rfl) rfl rfl (fun x hxl O hr => ?_)
  subst hxl
  refine cp_aload_n O dX7_placeOf_0 cp_lg0 ?_
  refine cp_iload_n O dX7_placeOf_1 cp_lg1 ?_
  refine cp_cVi O me_X7_queueOf mi_X7_queueOf ml_X7_43 cp_cX7 M.s (c_X7_queueOf (p := p) M h1 (by omega)) dX7_placeOf_2 rfl rfl ⟨Nat.le_of_ble_eq_true rfl, Nat.le_of_ble_eq_true rfl⟩ ⟨Nat.le_refl _, Nat.le_refl _⟩ (Nat.le_of_ble_eq_true rfl) ?_
  refine cp_istore_n O dX7_placeOf_5 (by decide) (cp_ls2 rfl) ?_
  refine cp_iload_n O dX7_placeOf_6 cp_lg2 ?_
  refine cp_bipush O dX7_placeOf_7 (v := (-6)) rfl ?_
  refine cp_icmp_ne (tgt := 15) O dX7_placeOf_9 (by decide) (fun c_9 => ?_) (fun c_9 => ?_)
  · refine cp_iconst O dX7_placeOf_15 (v := 0) rfl ?_
    refine cp_istore_n O dX7_placeOf_16 (by decide) (cp_ls3 rfl) ?_
    have loop17 : ∀ c, c ≤ k → cp_G x E 4 0 0 cnt sh (cp_ma J m f r a) R 17 [some (.ref m), some (.int v1), some (.int (cp_qo a p)), some (.int (nI c))] [] := by
      refine cp_up (fun c hc ih => ?_)
      have hc24 := hlt c (by omega)
      refine cp_aload_n O dX7_placeOf_17 cp_lg0 ?_
      refine cp_iload_n O dX7_placeOf_18 cp_lg2 ?_
      refine cp_iload_n O dX7_placeOf_19 cp_lg3 ?_
      refine cp_cVi O me_X7_inQueue mi_X7_inQueue ml_X7_47 cp_cX7 M.s (c_X7_inQueue (q := q) (k := c) M hqo rfl (by omega) (by omega)) dX7_placeOf_20 rfl rfl ⟨Nat.le_of_ble_eq_true rfl, Nat.le_of_ble_eq_true rfl⟩ ⟨Nat.le_refl _, Nat.le_refl _⟩ (Nat.le_of_ble_eq_true rfl) ?_
      refine cp_iload_n O dX7_placeOf_23 cp_lg1 ?_
      refine cp_icmp_eqN (tgt := 33) O dX7_placeOf_24 (by decide) (a := (l.getD c 0)) (b := p) (hl.2.2 c (by omega)) h1 (by omega) (by omega) (fun c_24 => ?_) (fun c_24 => ?_)
      · refine cp_iload_n O dX7_placeOf_33 cp_lg3 ?_
        exact hr _ _ _ _ dX7_placeOf_34 (by rcases Nat.lt_or_ge c k with h | h; exact absurd c_24 (hne c h); rw [show c = k by omega]) rfl
      · refine cp_iinc O dX7_placeOf_27 cp_lg3 (cp_inc rfl) (by decide) (cp_ls3 rfl) ?_
        refine cp_goto (tgt := 17) O dX7_placeOf_30 (by decide) ?_
        have hck : c ≠ k := fun e => c_24 (by rw [e]; exact hpk)
        exact ih (by omega)
    exact loop17 0 (Nat.zero_le _)
  · exact absurd (hqo.symm.trans c_9) (cp_nm6 (by omega))
set_option maxHeartbeats 4000000 in
set_option maxRecDepth 100000 in
theorem c_X7_comesTo {lc : Launch} {E : cp_En} {cnt : Nat} {sh : cp_Shp} {R : cp_Rem} {J : cp_Mem} {m : Nat} {f : Nat → Int32} {r : Nat → Nat → Int32} {a : Nat → Int32} (M : cp_ML sh R m) {v1 v2 : Int32} {q p n : Nat} (h1 : v1 = nI q) (h2 : v2 = nI p) (hq : q < 6) (hn : a (8 + q) = nI n) (hn24 : n < 24) : cp_Fn lc E yX7_comesTo cX7_comesTo 3 none 0 [.ref m, .int v1, .int v2] cnt sh (cp_ma J m f r a) R none (cp_ma J m f r (cp_cm a q n p)) := by
  refine cp_Fn_v [some (.ref m), some (.int v1), some (.int v2)] (by decide +kernel) (Nat.le_of_ble_eq_true rfl) rfl (fun x hxl O hr => ?_)
  subst hxl
  refine cp_aload_n O dX7_comesTo_0 cp_lg0 ?_
  refine fg_X7_7 O M.s M.f0 dX7_comesTo_1 ?_
  refine cp_bipush O dX7_comesTo_4 (v := 14) rfl ?_
  refine cp_bipush O dX7_comesTo_6 (v := 24) rfl ?_
  refine cp_iload_n O dX7_comesTo_8 cp_lg1 ?_
  refine cp_imul O dX7_comesTo_9 ?_
  refine cp_iadd O dX7_comesTo_10 ?_
  refine cp_aload_n O dX7_comesTo_11 cp_lg0 ?_
  refine fg_X7_7 O M.s M.f0 dX7_comesTo_12 ?_
  refine cp_bipush O dX7_comesTo_15 (v := 8) rfl ?_
  refine cp_iload_n O dX7_comesTo_17 cp_lg1 ?_
  refine cp_iadd O dX7_comesTo_18 ?_
  refine cp_ialdA O M (j := (8 + q)) (cp_ad rfl h1) (by omega) dX7_comesTo_19 ?_
  refine cp_iadd O dX7_comesTo_20 ?_
  refine cp_iload_n O dX7_comesTo_21 cp_lg2 ?_
  refine cp_iastA O M (j := ((14 + (24 * q)) + n)) (cp_ad (cp_ad rfl (cp_mu rfl h1)) hn) (by omega) dX7_comesTo_22 ?_
  refine cp_aload_n O dX7_comesTo_23 cp_lg0 ?_
  refine fg_X7_7 O M.s M.f0 dX7_comesTo_24 ?_
  refine cp_bipush O dX7_comesTo_27 (v := 8) rfl ?_
  refine cp_iload_n O dX7_comesTo_29 cp_lg1 ?_
  refine cp_iadd O dX7_comesTo_30 ?_
  refine cp_dup2 O dX7_comesTo_31 rfl rfl ?_
  refine cp_ialdA O M (j := (8 + q)) (cp_ad rfl h1) (by omega) dX7_comesTo_32 ?_
  refine cp_iconst O dX7_comesTo_33 (v := 1) rfl ?_
  refine cp_iadd O dX7_comesTo_34 ?_
  refine cp_iastA O M (j := (8 + q)) (cp_ad rfl h1) (by omega) dX7_comesTo_35 ?_
  exact hr _ _ _ dX7_comesTo_36 (by rw [cp_upd_n (show 8 + q ≠ 14 + 24 * q + n by omega), hn, h2, nI_1]; rfl)
set_option maxHeartbeats 4000000 in
set_option maxRecDepth 100000 in
theorem c_X7_leaves {lc : Launch} {E : cp_En} {cnt : Nat} {sh : cp_Shp} {R : cp_Rem} {J : cp_Mem} {m : Nat} {f : Nat → Int32} {r : Nat → Nat → Int32} {a : Nat → Int32} (M : cp_ML sh R m) {v1 : Int32} {p q k : Nat} {l : List Nat} (h1 : v1 = nI p) (hp : p < 24) (hq : q < 6) (hqo : cp_qo a p = nI q) (hl : cp_QL a q l) (hlt : ∀ j, j < l.length → l.getD j 0 < 24) (hk : k < l.length) (hpk : l.getD k 0 = p) (hne : ∀ j, j < k → l.getD j 0 ≠ p) : cp_Fn lc E yX7_leaves cX7_leaves 6 none 3 [.ref m, .int v1] cnt sh (cp_ma J m f r a) R none (cp_ma J m f r (cp_lv a q k l.length (l.length - 1))) := by
  have h24 := hl.2.1
  refine cp_Fn_v [some (.ref m), some (.int v1), none, none, none, none] (by decide +kernel) (Nat.le_of_ble_eq_true rfl) rfl (fun x hxl O hr => ?_)
  subst hxl
  refine cp_aload_n O dX7_leaves_0 cp_lg0 ?_
  refine cp_iload_n O dX7_leaves_1 cp_lg1 ?_
  refine cp_cVi O me_X7_queueOf mi_X7_queueOf ml_X7_43 cp_cX7 M.s (c_X7_queueOf (p := p) M h1 (by omega)) dX7_leaves_2 rfl rfl ⟨Nat.le_of_ble_eq_true rfl, Nat.le_of_ble_eq_true rfl⟩ ⟨Nat.le_refl _, Nat.le_refl _⟩ (Nat.le_of_ble_eq_true rfl) ?_
  refine cp_istore_n O dX7_leaves_5 (by decide) (cp_ls2 rfl) ?_
  refine cp_iload_n O dX7_leaves_6 cp_lg2 ?_
  refine cp_bipush O dX7_leaves_7 (v := (-6)) rfl ?_
  refine cp_icmp_ne (tgt := 13) O dX7_leaves_9 (by decide) (fun c_9 => ?_) (fun c_9 => ?_)
  · refine cp_aload_n O dX7_leaves_13 cp_lg0 ?_
    refine cp_iload_n O dX7_leaves_14 cp_lg1 ?_
    refine cp_cVi O me_X7_placeOf mi_X7_placeOf ml_X7_50 cp_cX7 M.s (c_X7_placeOf M h1 hp hq hqo hl hlt hk hpk hne) dX7_leaves_15 rfl rfl ⟨Nat.le_of_ble_eq_true rfl, Nat.le_of_ble_eq_true rfl⟩ ⟨Nat.le_refl _, Nat.le_refl _⟩ (Nat.le_of_ble_eq_true rfl) ?_
    refine cp_istore_n O dX7_leaves_18 (by decide) (cp_ls3 rfl) ?_
    refine cp_aload_n O dX7_leaves_19 cp_lg0 ?_
    refine fg_X7_7 O M.s M.f0 dX7_leaves_20 ?_
    refine cp_bipush O dX7_leaves_23 (v := 8) rfl ?_
    refine cp_iload_n O dX7_leaves_25 cp_lg2 ?_
    refine cp_iadd O dX7_leaves_26 ?_
    refine cp_dup2 O dX7_leaves_27 rfl rfl ?_
    refine cp_ialdA O M (j := (8 + q)) (cp_ad rfl hqo) (by omega) dX7_leaves_28 ?_
    refine cp_iconst O dX7_leaves_29 (v := 1) rfl ?_
    refine cp_isub O dX7_leaves_30 ?_
    refine cp_iastA O M (j := (8 + q)) (cp_ad rfl hqo) (by omega) dX7_leaves_31 ?_
    rw [cp_lv_0 a q k l.length hl.1 (by omega)]
    refine cp_iload_n O dX7_leaves_32 cp_lg3 ?_
    refine cp_istore O dX7_leaves_33 (by decide) (cp_ls4 rfl) ?_
    have loop35 : ∀ c, c ≤ l.length - 1 → k ≤ c → cp_G x E 6 0 0 cnt sh (cp_ma J m f r (cp_lv a q k l.length c)) R 35 [some (.ref m), some (.int v1), some (.int (cp_qo a p)), some (.int (nI k)), some (.int (nI c)), none] [] := by
      refine cp_up (fun c hc ih hkc => ?_)
      refine cp_iload O dX7_leaves_35 cp_lg4 ?_
      refine cp_aload_n O dX7_leaves_37 cp_lg0 ?_
      refine fg_X7_7 O M.s M.f0 dX7_leaves_38 ?_
      refine cp_bipush O dX7_leaves_41 (v := 8) rfl ?_
      refine cp_iload_n O dX7_leaves_43 cp_lg2 ?_
      refine cp_iadd O dX7_leaves_44 ?_
      refine cp_ialdA O M (j := (8 + q)) (cp_ad rfl hqo) (by omega) dX7_leaves_45 ?_
      refine cp_icmp_geN (tgt := 83) O dX7_leaves_46 (by decide) (a := c) (b := (l.length - 1)) rfl (by simp [cp_lv]) (by omega) (by omega) (fun c_46 => ?_) (fun c_46 => ?_)
      · exact hr _ _ _ dX7_leaves_83 (by rw [show c = l.length - 1 by omega])
      · refine cp_bipush O dX7_leaves_49 (v := 14) rfl ?_
        refine cp_bipush O dX7_leaves_51 (v := 24) rfl ?_
        refine cp_iload_n O dX7_leaves_53 cp_lg2 ?_
        refine cp_imul O dX7_leaves_54 ?_
        refine cp_iadd O dX7_leaves_55 ?_
        refine cp_iload O dX7_leaves_56 cp_lg4 ?_
        refine cp_iadd O dX7_leaves_58 ?_
        refine cp_istore O dX7_leaves_59 (by decide) (cp_ls5 rfl) ?_
        refine cp_aload_n O dX7_leaves_61 cp_lg0 ?_
        refine fg_X7_7 O M.s M.f0 dX7_leaves_62 ?_
        refine cp_iload O dX7_leaves_65 cp_lg5 ?_
        refine cp_aload_n O dX7_leaves_67 cp_lg0 ?_
        refine fg_X7_7 O M.s M.f0 dX7_leaves_68 ?_
        refine cp_iload O dX7_leaves_71 cp_lg5 ?_
        refine cp_iconst O dX7_leaves_73 (v := 1) rfl ?_
        refine cp_iadd O dX7_leaves_74 ?_
        refine cp_ialdA O M (j := (((14 + (24 * q)) + c) + 1)) (cp_ad (cp_ad (cp_ad rfl (cp_mu rfl hqo)) rfl) rfl) (by omega) dX7_leaves_75 ?_
        refine cp_iastA O M (j := ((14 + (24 * q)) + c)) (cp_ad (cp_ad rfl (cp_mu rfl hqo)) rfl) (by omega) dX7_leaves_76 ?_
        refine cp_iinc O dX7_leaves_77 cp_lg4 (cp_inc rfl) (by decide) (cp_ls4 rfl) ?_
        refine cp_goto (tgt := 35) O dX7_leaves_80 (by decide) ?_
        rw [cp_lv_s a q k l.length c hkc hq (by omega)]
        exact cp_Gw (cp_lws (cp_lws (cp_lws (cp_lws (cp_lws (cp_lwn cp_lw0)))))) (ih c_46 (by omega))
    exact cp_Gw (cp_lws (cp_lws (cp_lws (cp_lws (cp_lws (cp_lwn cp_lw0)))))) (loop35 k (by omega) (Nat.le_refl _))
  · exact absurd (hqo.symm.trans c_9) (cp_nm6 (by omega))
set_option maxHeartbeats 4000000 in
set_option maxRecDepth 100000 in
theorem c_X7_becomesReady {lc : Launch} {E : cp_En} {cnt : Nat} {sh : cp_Shp} {R : cp_Rem} {J : cp_Mem} {m : Nat} {f : Nat → Int32} {r : Nat → Nat → Int32} {a : Nat → Int32} (M : cp_ML sh R m) {v1 : Int32} {p : Nat} (h1 : v1 = nI p) (hp : p < 24) : cp_Fn lc E yX7_becomesReady cX7_becomesReady 2 none 1 [.ref m, .int v1] cnt sh (cp_ma J m f r a) R none (cp_ma J m f r (upd (upd a (158 + 9 * p + 4) 2) (158 + 9 * p + 8) (a 4))) := by
  refine cp_Fn_v [some (.ref m), some (.int v1)] (by decide +kernel) (Nat.le_of_ble_eq_true rfl) rfl (fun x hxl O hr => ?_)
  subst hxl
  refine cp_aload_n O dX7_becomesReady_0 cp_lg0 ?_
  refine cp_iload_n O dX7_becomesReady_1 cp_lg1 ?_
  refine cp_iconst O dX7_becomesReady_2 (v := 4) rfl ?_
  refine cp_iconst O dX7_becomesReady_3 (v := 2) rfl ?_
  refine cp_cVv O me_X7_sets mi_X7_sets ml_X7_53 cp_cX7 M.s (c_X7_sets (p := p) (q := 4) M h1 rfl (by omega) (by omega)) dX7_becomesReady_4 rfl rfl ⟨Nat.le_of_ble_eq_true rfl, Nat.le_of_ble_eq_true rfl⟩ ⟨Nat.le_refl _, Nat.le_refl _⟩ (Nat.le_of_ble_eq_true rfl) ?_
  refine cp_aload_n O dX7_becomesReady_7 cp_lg0 ?_
  refine cp_iload_n O dX7_becomesReady_8 cp_lg1 ?_
  refine cp_bipush O dX7_becomesReady_9 (v := 8) rfl ?_
  refine cp_aload_n O dX7_becomesReady_11 cp_lg0 ?_
  refine fg_X7_7 O M.s M.f0 dX7_becomesReady_12 ?_
  refine cp_iconst O dX7_becomesReady_15 (v := 4) rfl ?_
  refine cp_ialdA O M (j := 4) rfl (by omega) dX7_becomesReady_16 ?_
  refine cp_cVv O me_X7_sets mi_X7_sets ml_X7_53 cp_cX7 M.s (c_X7_sets (p := p) (q := 8) M h1 rfl (by omega) (by omega)) dX7_becomesReady_17 rfl rfl ⟨Nat.le_of_ble_eq_true rfl, Nat.le_of_ble_eq_true rfl⟩ ⟨Nat.le_refl _, Nat.le_refl _⟩ (Nat.le_of_ble_eq_true rfl) ?_
  exact hr _ _ _ dX7_becomesReady_20 (by rw [cp_upd_n (show 4 ≠ 158 + 9 * p + 4 by omega)])
