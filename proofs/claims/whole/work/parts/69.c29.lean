theorem cp_pO_end {w : Nat → Nat} {len : Nat} : cp_pO w len len = (none, len) := by
  obtain ⟨q, hq⟩ : ∃ q, cp_pO w len len = q := ⟨_, rfl⟩
  obtain ⟨qo, p⟩ := q
  have ule := cp_pO_le (w := w) (Nat.le_refl len)
  rw [hq] at ule
  have ule : len ≤ p ∧ p ≤ len ∧ (qo ≠ none → len < p) := ule
  rw [hq]
  cases qo with
  | none => rw [show p = len by omega]
  | some o => have := ule.2.2 (by simp); omega
set_option maxHeartbeats 4000000 in
set_option maxRecDepth 100000 in
theorem c_X2_findFault {lc : Launch} {E : cp_En} {cnt : Nat} {sh : cp_Shp} {R : cp_Rem} {J : cp_Mem} {r0 d0 : Nat} {g : Nat → Int32} (Ol : cp_OL sh R r0 d0) (hne : d0 + 1 < r0) {w : Nat → Nat} {len : Nat} (hL : J d0 1 = nI len) (hT : cp_TX (J (d0 + 1)) w len) : cp_Fr lc E yX2_findFault cX2_findFault 2 (some .int) 5 [.ref r0] cnt sh (cp_row J r0 g) R (some (.int (cp_sFault w len))) (fun I' => ∃ g' : Nat → Int32, I' = cp_row J r0 g') := by
  have hl80 := hT.1
  refine cp_Fn_iR [some (.ref r0), none] (by decide +kernel) (Nat.le_of_ble_eq_true rfl) rfl rfl (fun x hxl O hr => ?_)
  subst hxl
  refine cp_aload_n O dX2_findFault_0 cp_lg0 ?_
  refine cp_cVv O me_X2_goToStart mi_X2_goToStart ml_X2_19 cp_cX2 Ol.s (c_X2_goToStart Ol) dX2_findFault_1 rfl rfl ⟨Nat.le_of_ble_eq_true rfl, Nat.le_of_ble_eq_true rfl⟩ ⟨Nat.le_refl _, Nat.le_refl _⟩ (Nat.le_of_ble_eq_true rfl) ?_
  refine cp_iconst O dX2_findFault_4 (v := 0) rfl ?_
  refine cp_istore_n O dX2_findFault_5 (by decide) (cp_ls1 rfl) ?_
  have loop6 : ∀ k, k ≤ 80 → ∀ (g' : Nat → Int32) (s t : Nat), g' 1 = nI s → s ≤ len → k ≤ s → len + 1 ≤ s + t → cp_fl2 w len t s = cp_sFault w len → cp_G x E 2 0 0 cnt sh (cp_row J r0 g') R 6 [some (.ref r0), some (.int (nI k))] [] := by
    refine cp_up (n := 80) (P := fun k => ∀ (g' : Nat → Int32) (s t : Nat), g' 1 = nI s → s ≤ len → k ≤ s → len + 1 ≤ s + t → cp_fl2 w len t s = cp_sFault w len → cp_G x E 2 0 0 cnt sh (cp_row J r0 g') R 6 [some (.ref r0), some (.int (nI k))] []) (fun k hk ih g' s t h1 hs hks ht hfl => ?_)
    obtain ⟨t, rfl⟩ : ∃ t', t = t' + 1 := ⟨t - 1, by omega⟩
    obtain ⟨q, hq⟩ : ∃ q, cp_pO w len s = q := ⟨_, rfl⟩
    obtain ⟨qo, p⟩ := q
    have ule := cp_pO_le (w := w) hs
    rw [hq] at ule
    have ule : s ≤ p ∧ p ≤ len ∧ (qo ≠ none → s < p) := ule
    refine cp_iload_n O dX2_findFault_6 cp_lg1 ?_
    refine cp_bipush O dX2_findFault_7 (v := 80) rfl ?_
    refine cp_icmp_geN (tgt := 61) O dX2_findFault_9 (by decide) (a := k) (b := 80) rfl rfl (by omega) (by omega) (fun c_9 => ?_) (fun c_9 => ?_)
    · have hsl : s = len := by omega
      rw [hsl, cp_pO_end] at hq
      obtain ⟨rfl, rfl⟩ := Prod.mk.inj hq
      refine cp_aload_n O dX2_findFault_61 cp_lg0 ?_
      refine rg_X2_15 O Ol.s dX2_findFault_62 ?_
      rw [h1]
      exact hr _ _ _ _ dX2_findFault_65 (by rw [← hfl, hsl, cp_fl2_n cp_pO_end]) ⟨_, rfl⟩
    · refine cp_aload_n O dX2_findFault_12 cp_lg0 ?_
      refine cp_cVir O me_X2_readOrder mi_X2_readOrder ml_X2_22 cp_cX2 Ol.s (c_X2_readOrder (g := g') Ol hne hL hT (s := s) (by omega) h1) dX2_findFault_13 rfl rfl ⟨Nat.le_of_ble_eq_true rfl, Nat.le_of_ble_eq_true rfl⟩ ⟨Nat.le_refl _, Nat.le_refl _⟩ (Nat.le_of_ble_eq_true rfl) (fun I13 hT13 => ?_)
      obtain ⟨g2, rfl, hp2, ho2⟩ := hT13
      rw [hq] at hp2 ho2
      have hp2 : g2 1 = nI p := hp2
      rw [hq]
      refine cp_if_neB (tgt := 24) O dX2_findFault_16 (by decide) (fun c_16 => ?_) (fun c_16 => ?_)
      · obtain ⟨o, ho⟩ : ∃ o, qo = some o := by
          cases qo with
          | none => exact absurd (show false = true from c_16) (by decide)
          | some o => exact ⟨o, rfl⟩
        subst ho
        have hsp := ule.2.2 (by simp)
        refine cp_aload_n O dX2_findFault_24 cp_lg0 ?_
        refine rg_X2_15 O Ol.s dX2_findFault_25 ?_
        refine cp_aload_n O dX2_findFault_28 cp_lg0 ?_
        refine fg_X2_9 O Ol.s Ol.f0 dX2_findFault_29 ?_
        refine fg_X2_26 O (Ol.pad).s dX2_findFault_32 ?_
        rw [hp2, cp_row_n _ _ (show d0 ≠ r0 by omega), hL]
        refine cp_icmp_ltN (tgt := 41) O dX2_findFault_35 (by decide) (a := p) (b := len) rfl rfl (by omega) (by omega) (fun c_35 => ?_) (fun c_35 => ?_)
        · refine cp_aload_n O dX2_findFault_41 cp_lg0 ?_
          refine cp_bipush O dX2_findFault_42 (v := 59) rfl ?_
          refine cp_cVi O me_X2_readSign mi_X2_readSign ml_X2_31 cp_cX2 Ol.s (c_X2_readSign (g := g2) Ol hne hL hT (s := p) (by omega) hp2 (q := 59) (by decide) (by decide)) dX2_findFault_44 rfl rfl ⟨Nat.le_of_ble_eq_true rfl, Nat.le_of_ble_eq_true rfl⟩ ⟨Nat.le_refl _, Nat.le_refl _⟩ (Nat.le_of_ble_eq_true rfl) ?_
          refine cp_if_neB (tgt := 55) O dX2_findFault_47 (by decide) (fun c_47 => ?_) (fun c_47 => ?_)
          · rw [if_pos c_47]
            refine cp_iinc O dX2_findFault_55 cp_lg1 (cp_inc rfl) (by decide) (cp_ls1 rfl) ?_
            refine cp_goto (tgt := 6) O dX2_findFault_58 (by decide) ?_
            exact ih (by omega) _ (p + 1) t cp_upd_s (by have := cp_he_t c_47; omega) (by omega) (by omega) (by rw [← hfl, cp_fl2_s hq, if_pos c_47])
          · rw [if_neg (cp_bF c_47)]
            refine cp_aload_n O dX2_findFault_50 cp_lg0 ?_
            refine rg_X2_15 O Ol.s dX2_findFault_51 ?_
            rw [hp2]
            exact hr _ _ _ _ dX2_findFault_54 (by rw [← hfl, cp_fl2_s hq, if_neg (cp_bF c_47), if_neg (by omega)]) ⟨_, rfl⟩
        · refine cp_bipush O dX2_findFault_38 (v := (-6)) rfl ?_
          exact hr _ _ _ _ dX2_findFault_40 (by rw [← hfl, cp_fl2_s hq, if_neg (cp_bF (cp_he_o (by omega))), if_pos (by omega)]) ⟨_, rfl⟩
      · have hqn : qo = none := by
          cases qo with
          | none => rfl
          | some o => exact absurd (show true = false from c_16) (by decide)
        subst hqn
        refine cp_aload_n O dX2_findFault_19 cp_lg0 ?_
        refine rg_X2_15 O Ol.s dX2_findFault_20 ?_
        rw [hp2]
        exact hr _ _ _ _ dX2_findFault_23 (by rw [← hfl, cp_fl2_n hq]) ⟨_, rfl⟩
  exact loop6 0 (Nat.zero_le _) _ 0 (len + 1) cp_upd_s (Nat.zero_le _) (Nat.zero_le _) (by omega) rfl
def cp_rx (r0 : Nat) (I I' : cp_Mem) : Prop := ∀ x, x ≠ r0 → I' x = I x
def cp_OGi (g' : Nat → Int32) (o : cp_Od) : Prop := g' 2 = nI o.1 ∧ (o.1 = 43 → g' 4 = nI o.2.1 ∧ g' 3 = nI o.2.2.1 ∧ g' 5 = nI o.2.2.2.1 ∧ g' 6 = nI o.2.2.2.2) ∧ (o.1 ≠ 43 → g' 3 = nI o.2.1)
theorem h_X2_findFault {lc : Launch} {E : cp_En} {cnt : Nat} {sh : cp_Shp} {R : cp_Rem} {I : cp_Mem} {r0 d0 : Nat} (Ol : cp_OL sh R r0 d0) (hne : d0 + 1 < r0) {w : Nat → Nat} {len : Nat} (hL : I d0 1 = nI len) (hT : cp_TX (I (d0 + 1)) w len) : cp_Fr lc E yX2_findFault cX2_findFault 2 (some .int) 5 [.ref r0] cnt sh I R (some (.int (cp_sFault w len))) (fun I' => cp_rx r0 I I') := by
  have g := c_X2_findFault (lc := lc) (E := E) (cnt := cnt) (J := I) (g := I r0) Ol hne hL hT
  rw [cp_row_self] at g
  refine cp_Fr_mono g rfl (fun I' z => ?_)
  obtain ⟨g', rfl⟩ := z
  exact fun x hx => cp_row_n _ _ hx
theorem h_X2_readOrder {lc : Launch} {E : cp_En} {cnt : Nat} {sh : cp_Shp} {R : cp_Rem} {I : cp_Mem} {r0 d0 : Nat} (Ol : cp_OL sh R r0 d0) (hne : d0 + 1 < r0) {w : Nat → Nat} {len : Nat} (hL : I d0 1 = nI len) (hT : cp_TX (I (d0 + 1)) w len) {s : Nat} (hs : s ≤ 200) (hg : I r0 1 = nI s) : cp_Fr lc E yX2_readOrder cX2_readOrder 1 (some .boolean) 4 [.ref r0] cnt sh I R (some (.int (cp_bi (cp_pO w len s).1.isSome))) (fun I' => cp_rx r0 I I' ∧ I' r0 1 = nI (cp_pO w len s).2 ∧ ∀ o, (cp_pO w len s).1 = some o → cp_OGi (I' r0) o) := by
  have g := c_X2_readOrder (lc := lc) (E := E) (cnt := cnt) (J := I) (g := I r0) Ol hne hL hT hs hg
  rw [cp_row_self] at g
  refine cp_Fr_mono g rfl (fun I' z => ?_)
  obtain ⟨g', rfl, h1, h2⟩ := z
  refine ⟨fun x hx => cp_row_n _ _ hx, by rw [cp_row_s]; exact h1, fun o ho => ?_⟩
  rw [cp_row_s]
  exact h2 o ho
theorem h_X2_readSign {lc : Launch} {E : cp_En} {cnt : Nat} {sh : cp_Shp} {R : cp_Rem} {I : cp_Mem} {r0 d0 : Nat} (Ol : cp_OL sh R r0 d0) (hne : d0 + 1 < r0) {w : Nat → Nat} {len : Nat} (hL : I d0 1 = nI len) (hT : cp_TX (I (d0 + 1)) w len) {s : Nat} (hs : s ≤ 200) (hg : I r0 1 = nI s) {q : Nat} (hq : 0 < q) (hq2 : q < 128) : cp_Fr lc E yX2_readSign cX2_readSign 2 (some .boolean) 1 [.ref r0, .int (nI q)] cnt sh I R (some (.int (cp_bi (cp_he w len s q q)))) (fun I' => cp_rx r0 I I' ∧ (cp_he w len s q q = true → I' r0 1 = nI (s + 1))) := by
  have g := c_X2_readSign (lc := lc) (E := E) (cnt := cnt) (J := I) (g := I r0) Ol hne hL hT hs hg hq hq2
  rw [cp_row_self] at g
  refine cp_Fr_of g ⟨fun x hx => cp_row_n _ _ hx, fun h => ?_⟩
  rw [cp_row_s, if_pos h]
  exact cp_upd_s
theorem h_X2_goToStart {lc : Launch} {E : cp_En} {cnt : Nat} {sh : cp_Shp} {R : cp_Rem} {I : cp_Mem} {r0 d0 : Nat} (Ol : cp_OL sh R r0 d0) : cp_Fr lc E yX2_goToStart cX2_goToStart 1 none 0 [.ref r0] cnt sh I R none (fun I' => cp_rx r0 I I' ∧ I' r0 1 = nI 0) := by
  have g := c_X2_goToStart (lc := lc) (E := E) (cnt := cnt) (J := I) (g := I r0) Ol
  rw [cp_row_self] at g
  refine cp_Fr_of g ⟨fun x hx => cp_row_n _ _ hx, ?_⟩
  rw [cp_row_s]
  exact cp_upd_s
theorem cp_doO_1 {Z : cp_Nt} {o : cp_Od} (h : o.1 = 43) : cp_doO Z o = cp_sPiece Z (nI o.2.1) (nI o.2.2.1) (nI o.2.2.2.1) (nI o.2.2.2.2) := by
  unfold cp_doO
  rw [if_pos h]
theorem cp_doO_2 {Z : cp_Nt} {o : cp_Od} (h : o.1 = 112) : cp_doO Z o = cp_sPlate Z (nI o.2.1) := by
  unfold cp_doO
  rw [if_neg (by omega), if_pos h]
theorem cp_doO_3 {Z : cp_Nt} {o : cp_Od} (h : o.1 = 104) : cp_doO Z o = cp_sHold Z (nI o.2.1) := by
  unfold cp_doO
  rw [if_neg (by omega), if_neg (by omega), if_pos h]
theorem cp_doO_4 {Z : cp_Nt} {o : cp_Od} (h : o.1 = 107) : cp_doO Z o = cp_sKill Z (nI o.2.1) := by
  unfold cp_doO
  rw [if_neg (by omega), if_neg (by omega), if_neg (by omega), if_pos h]
theorem cp_doO_5 {Z : cp_Nt} {o : cp_Od} (h1 : o.1 ≠ 43) (h2 : o.1 ≠ 112) (h3 : o.1 ≠ 104) (h4 : o.1 ≠ 107) : cp_doO Z o = cp_sPass Z (nI o.2.1) := by
  unfold cp_doO
  rw [if_neg h1, if_neg h2, if_neg h3, if_neg h4]
set_option maxHeartbeats 4000000 in
set_option maxRecDepth 100000 in
theorem c_X6_carryOrderOut {lc : Launch} {E : cp_En} {cnt : Nat} {sh : cp_Shp} {R : cp_Rem} {I : cp_Mem} {c : Nat} (Pl : cp_PL sh R c) {Z : cp_Nt} (hV : cp_NV Z) (hH : cp_HN I (c + 1) Z) {o : cp_Od} (hO : cp_OGi (I (c + 330)) o) (ho1 : o.1 < 128) : cp_Fr lc E yX6_carryOrderOut cX6_carryOrderOut 1 (some .int) 5 [.ref c] cnt sh I R (some (.int ((cp_doO Z o).1))) (fun I' => cp_HN I' (c + 1) (cp_doO Z o).2 ∧ cp_out (c + 1) I I') := by
  refine cp_Fn_iR [some (.ref c)] (by decide +kernel) (Nat.le_of_ble_eq_true rfl) rfl rfl (fun x hxl O hr => ?_)
  subst hxl
  refine cp_aload_n O dX6_carryOrderOut_0 cp_lg0 ?_
  refine fg_X6_42 O Pl.s Pl.f5 dX6_carryOrderOut_1 ?_
  refine fg_X6_163 O (Pl.rdr).s dX6_carryOrderOut_4 ?_
  refine cp_bipush O dX6_carryOrderOut_7 (v := 43) rfl ?_
  rw [hO.1]
  refine cp_icmp_neN (tgt := 48) O dX6_carryOrderOut_9 (by decide) (a := o.1) (b := 43) rfl rfl (by omega) (by omega) (fun c_9 => ?_) (fun c_9 => ?_)
  · refine cp_aload_n O dX6_carryOrderOut_48 cp_lg0 ?_
    refine fg_X6_42 O Pl.s Pl.f5 dX6_carryOrderOut_49 ?_
    refine fg_X6_163 O (Pl.rdr).s dX6_carryOrderOut_52 ?_
    refine cp_bipush O dX6_carryOrderOut_55 (v := 112) rfl ?_
    rw [hO.1]
    refine cp_icmp_neN (tgt := 75) O dX6_carryOrderOut_57 (by decide) (a := o.1) (b := 112) rfl rfl (by omega) (by omega) (fun c_57 => ?_) (fun c_57 => ?_)
    · refine cp_aload_n O dX6_carryOrderOut_75 cp_lg0 ?_
      refine fg_X6_42 O Pl.s Pl.f5 dX6_carryOrderOut_76 ?_
      refine fg_X6_163 O (Pl.rdr).s dX6_carryOrderOut_79 ?_
      refine cp_bipush O dX6_carryOrderOut_82 (v := 104) rfl ?_
      rw [hO.1]
      refine cp_icmp_neN (tgt := 102) O dX6_carryOrderOut_84 (by decide) (a := o.1) (b := 104) rfl rfl (by omega) (by omega) (fun c_84 => ?_) (fun c_84 => ?_)
      · refine cp_aload_n O dX6_carryOrderOut_102 cp_lg0 ?_
        refine fg_X6_42 O Pl.s Pl.f5 dX6_carryOrderOut_103 ?_
        refine fg_X6_163 O (Pl.rdr).s dX6_carryOrderOut_106 ?_
        refine cp_bipush O dX6_carryOrderOut_109 (v := 107) rfl ?_
        rw [hO.1]
        refine cp_icmp_neN (tgt := 129) O dX6_carryOrderOut_111 (by decide) (a := o.1) (b := 107) rfl rfl (by omega) (by omega) (fun c_111 => ?_) (fun c_111 => ?_)
        · refine cp_aload_n O dX6_carryOrderOut_129 cp_lg0 ?_
          refine fg_X6_10 O Pl.s Pl.f0 dX6_carryOrderOut_130 ?_
          refine cp_aload_n O dX6_carryOrderOut_133 cp_lg0 ?_
          refine fg_X6_42 O Pl.s Pl.f5 dX6_carryOrderOut_134 ?_
          refine fg_X6_170 O (Pl.rdr).s dX6_carryOrderOut_137 ?_
          rw [hO.2.2 c_9]
          refine cp_cVir O me_X1_passMinutes mi_X1_passMinutes ml_X6_71 cp_cX1 (Pl.night).s (h_X1_passMinutes Pl.night hV hH) dX6_carryOrderOut_140 rfl rfl ⟨Nat.le_of_ble_eq_true rfl, Nat.le_of_ble_eq_true rfl⟩ ⟨Nat.le_refl _, Nat.le_refl _⟩ (Nat.le_of_ble_eq_true rfl) (fun I140 hT140 => ?_)
          exact hr _ _ _ _ dX6_carryOrderOut_143 (by rw [cp_doO_5 c_9 c_57 c_84 c_111]) (by rw [cp_doO_5 c_9 c_57 c_84 c_111]; exact hT140)
        · refine cp_aload_n O dX6_carryOrderOut_114 cp_lg0 ?_
          refine fg_X6_10 O Pl.s Pl.f0 dX6_carryOrderOut_115 ?_
          refine cp_aload_n O dX6_carryOrderOut_118 cp_lg0 ?_
          refine fg_X6_42 O Pl.s Pl.f5 dX6_carryOrderOut_119 ?_
          refine fg_X6_170 O (Pl.rdr).s dX6_carryOrderOut_122 ?_
          rw [hO.2.2 c_9]
          refine cp_cVir O me_X1_killPiece mi_X1_killPiece ml_X6_68 cp_cX1 (Pl.night).s (h_X1_killPiece Pl.night hV hH) dX6_carryOrderOut_125 rfl rfl ⟨Nat.le_of_ble_eq_true rfl, Nat.le_of_ble_eq_true rfl⟩ ⟨Nat.le_refl _, Nat.le_refl _⟩ (Nat.le_of_ble_eq_true rfl) (fun I125 hT125 => ?_)
          exact hr _ _ _ _ dX6_carryOrderOut_128 (by rw [cp_doO_4 c_111]) (by rw [cp_doO_4 c_111]; exact hT125)
      · refine cp_aload_n O dX6_carryOrderOut_87 cp_lg0 ?_
        refine fg_X6_10 O Pl.s Pl.f0 dX6_carryOrderOut_88 ?_
        refine cp_aload_n O dX6_carryOrderOut_91 cp_lg0 ?_
        refine fg_X6_42 O Pl.s Pl.f5 dX6_carryOrderOut_92 ?_
        refine fg_X6_170 O (Pl.rdr).s dX6_carryOrderOut_95 ?_
        rw [hO.2.2 c_9]
        refine cp_cVir O me_X1_turnHold mi_X1_turnHold ml_X6_65 cp_cX1 (Pl.night).s (h_X1_turnHold Pl.night hV hH) dX6_carryOrderOut_98 rfl rfl ⟨Nat.le_of_ble_eq_true rfl, Nat.le_of_ble_eq_true rfl⟩ ⟨Nat.le_refl _, Nat.le_refl _⟩ (Nat.le_of_ble_eq_true rfl) (fun I98 hT98 => ?_)
        exact hr _ _ _ _ dX6_carryOrderOut_101 (by rw [cp_doO_3 c_84]) (by rw [cp_doO_3 c_84]; exact hT98)
    · refine cp_aload_n O dX6_carryOrderOut_60 cp_lg0 ?_
      refine fg_X6_10 O Pl.s Pl.f0 dX6_carryOrderOut_61 ?_
      refine cp_aload_n O dX6_carryOrderOut_64 cp_lg0 ?_
      refine fg_X6_42 O Pl.s Pl.f5 dX6_carryOrderOut_65 ?_
      refine fg_X6_170 O (Pl.rdr).s dX6_carryOrderOut_68 ?_
      rw [hO.2.2 c_9]
      refine cp_cVir O me_X1_addPlate mi_X1_addPlate ml_X6_62 cp_cX1 (Pl.night).s (h_X1_addPlate Pl.night hV hH) dX6_carryOrderOut_71 rfl rfl ⟨Nat.le_of_ble_eq_true rfl, Nat.le_of_ble_eq_true rfl⟩ ⟨Nat.le_refl _, Nat.le_refl _⟩ (Nat.le_of_ble_eq_true rfl) (fun I71 hT71 => ?_)
      exact hr _ _ _ _ dX6_carryOrderOut_74 (by rw [cp_doO_2 c_57]) (by rw [cp_doO_2 c_57]; exact hT71)
  · refine cp_aload_n O dX6_carryOrderOut_12 cp_lg0 ?_
    refine fg_X6_10 O Pl.s Pl.f0 dX6_carryOrderOut_13 ?_
    refine cp_aload_n O dX6_carryOrderOut_16 cp_lg0 ?_
    refine fg_X6_42 O Pl.s Pl.f5 dX6_carryOrderOut_17 ?_
    refine fg_X6_167 O (Pl.rdr).s dX6_carryOrderOut_20 ?_
    refine cp_aload_n O dX6_carryOrderOut_23 cp_lg0 ?_
    refine fg_X6_42 O Pl.s Pl.f5 dX6_carryOrderOut_24 ?_
    refine fg_X6_170 O (Pl.rdr).s dX6_carryOrderOut_27 ?_
    refine cp_aload_n O dX6_carryOrderOut_30 cp_lg0 ?_
    refine fg_X6_42 O Pl.s Pl.f5 dX6_carryOrderOut_31 ?_
    refine fg_X6_173 O (Pl.rdr).s dX6_carryOrderOut_34 ?_
    refine cp_aload_n O dX6_carryOrderOut_37 cp_lg0 ?_
    refine fg_X6_42 O Pl.s Pl.f5 dX6_carryOrderOut_38 ?_
    refine fg_X6_176 O (Pl.rdr).s dX6_carryOrderOut_41 ?_
    obtain ⟨e4, e3, e5, e6⟩ := hO.2.1 c_9
    rw [e4, e3, e5, e6]
    refine cp_cVir O me_X1_addPiece mi_X1_addPiece ml_X6_58 cp_cX1 (Pl.night).s (h_X1_addPiece Pl.night hV hH) dX6_carryOrderOut_44 rfl rfl ⟨Nat.le_of_ble_eq_true rfl, Nat.le_of_ble_eq_true rfl⟩ ⟨Nat.le_refl _, Nat.le_refl _⟩ (Nat.le_of_ble_eq_true rfl) (fun I44 hT44 => ?_)
    exact hr _ _ _ _ dX6_carryOrderOut_47 (by rw [cp_doO_1 c_9]) (by rw [cp_doO_1 c_9]; exact hT44)
theorem cp_XV_TX {I : cp_Mem} {c : Nat} {X : cp_St} (hV : cp_XV X) (hT : ∀ i, i < cp_xn X → I (c + 329) i = cp_xT X i) : cp_TX (I (c + 329)) (cp_wX X) (cp_xn X) := by
  refine ⟨hV.2.2.2.2.1, fun i hi => ?_⟩
  obtain ⟨k, k1, k2, k3⟩ := cp_rg_nI (l := 33) (h := 126) (hV.2.2.2.2.2 i hi)
  unfold cp_wX
  rw [k3, cp_nIt (by omega)]
  exact ⟨(hT i hi).trans k3, by omega⟩
theorem cp_XR_rx {sh : cp_Shp} {R : cp_Rem} {I I' : cp_Mem} {c : Nat} {X : cp_St} (Sl : cp_SL sh R c) (hV : cp_XV X) (hX : cp_XR I R c X) (hO : cp_rx (c + 330) I I') : cp_XR I' R c X ∧ cp_oc c I I' := by
  obtain ⟨hN, ⟨nx, hx7, hnx, hL0, hHs⟩, hZ, hT, hTt⟩ := hX
  refine ⟨⟨cp_HN_e hN hV.1 (fun x h1 h2 => hO x (by omega)), ⟨nx, hx7, ?_, ?_, fun i hi => ?_⟩, fun s hs => cp_XZ_e Sl hV hs (hZ s hs) (fun x hx => hO x (by omega)), ?_, fun i hi => ?_⟩, fun x hx => hO x (by omega)⟩
  · rw [hO _ (by omega)]; exact hnx
  · rw [hO _ (by omega)]; exact hL0
  · have p := (cp_ps_ne hx7 hV.2.1 hi).2
    exact cp_HN_e (hHs i hi) (hV.2.2.1 i hi) (fun x h1 h2 => hO x (by omega))
  · rw [hO _ (by omega)]; exact hT
  · rw [hO _ (by omega)]; exact hTt i hi
set_option maxHeartbeats 4000000 in
set_option maxRecDepth 100000 in
theorem c_X6_fault {lc : Launch} {E : cp_En} {cnt : Nat} {sh : cp_Shp} {R : cp_Rem} {I : cp_Mem} {c : Nat} (Pl : cp_PL sh R c) (Sl : cp_SL sh R c) {X : cp_St} (hV : cp_XV X) (hX : cp_XR I R c X) : cp_Fr lc E yX6_fault cX6_fault 1 (some .int) 6 [.ref c] cnt sh I R (some (.int (cp_sFlt X))) (fun I' => cp_XR I' R c X ∧ cp_oc c I I') := by
  obtain ⟨hN, ⟨nx, hx7, hnx, hL0, hHs⟩, hZ, hT, hTt⟩ := id hX
  have hTX := cp_XV_TX hV hTt
  refine cp_Fn_iR [some (.ref c)] (by decide +kernel) (Nat.le_of_ble_eq_true rfl) rfl rfl (fun x hxl O hr => ?_)
  subst hxl
  refine cp_aload_n O dX6_fault_0 cp_lg0 ?_
  refine fg_X6_42 O Pl.s Pl.f5 dX6_fault_1 ?_
  refine cp_cVir O me_X2_findFault mi_X2_findFault ml_X6_147 cp_cX2 (Pl.rdr).s (h_X2_findFault Pl.rdr (by omega) hT hTX) dX6_fault_4 rfl rfl ⟨Nat.le_of_ble_eq_true rfl, Nat.le_of_ble_eq_true rfl⟩ ⟨Nat.le_refl _, Nat.le_refl _⟩ (Nat.le_of_ble_eq_true rfl) (fun I4 hT4 => ?_)
  exact hr _ _ _ _ dX6_fault_7 rfl (cp_XR_rx Sl hV hX hT4)
