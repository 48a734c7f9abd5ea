section CPRD
variable {x : cp_Cx} {E : cp_En} {bc : ByteArray} {nL d mc ms cells slots cnt : Nat} {sh : cp_Shp} {R : cp_Rem} {pc : Nat} {L : List (Option Value)} {st : List Value} {J : cp_Mem}
theorem rg_X2_15 (O : cp_Ok x E RX2 bc nL d mc ms) {a : Nat} {g : Nat → Int32} (hs : sh a = (3, 0)) (hd : decode bc pc = .ok (.getfield 15, 3)) (k : cp_G x E nL cells slots cnt sh (cp_row J a g) R (pc + 3) L (.int (g 1) :: st)) : cp_G x E nL cells slots cnt sh (cp_row J a g) R pc L (.ref a :: st) := by
  refine fg_X2_15 O hs hd ?_
  rw [cp_row_s]
  exact k
theorem rp_X2_15 (O : cp_Ok x E RX2 bc nL d mc ms) {v : Int32} {a : Nat} {g : Nat → Int32} (hs : sh a = (3, 0)) (hd : decode bc pc = .ok (.putfield 15, 3)) (k : cp_G x E nL cells slots cnt sh (cp_row J a (upd g 1 v)) R (pc + 3) L st) : cp_G x E nL cells slots cnt sh (cp_row J a g) R pc L (.int v :: .ref a :: st) := by
  refine fp_X2_15 O hs hd ?_
  rw [cp_row_wi]
  exact k
theorem rg_X2_39 (O : cp_Ok x E RX2 bc nL d mc ms) {a : Nat} {g : Nat → Int32} (hs : sh a = (3, 0)) (hd : decode bc pc = .ok (.getfield 39, 3)) (k : cp_G x E nL cells slots cnt sh (cp_row J a g) R (pc + 3) L (.int (g 2) :: st)) : cp_G x E nL cells slots cnt sh (cp_row J a g) R pc L (.ref a :: st) := by
  refine fg_X2_39 O hs hd ?_
  rw [cp_row_s]
  exact k
theorem rp_X2_39 (O : cp_Ok x E RX2 bc nL d mc ms) {v : Int32} {a : Nat} {g : Nat → Int32} (hs : sh a = (3, 0)) {q0 : Nat} (hv : v = nI q0) (hq0 : q0 < 65536) (hd : decode bc pc = .ok (.putfield 39, 3)) (k : cp_G x E nL cells slots cnt sh (cp_row J a (upd g 2 v)) R (pc + 3) L st) : cp_G x E nL cells slots cnt sh (cp_row J a g) R pc L (.int v :: .ref a :: st) := by
  refine fp_X2_39 O hs hv hq0 hd ?_
  rw [cp_row_wi]
  exact k
theorem rg_X2_66 (O : cp_Ok x E RX2 bc nL d mc ms) {a : Nat} {g : Nat → Int32} (hs : sh a = (3, 0)) (hd : decode bc pc = .ok (.getfield 66, 3)) (k : cp_G x E nL cells slots cnt sh (cp_row J a g) R (pc + 3) L (.int (g 3) :: st)) : cp_G x E nL cells slots cnt sh (cp_row J a g) R pc L (.ref a :: st) := by
  refine fg_X2_66 O hs hd ?_
  rw [cp_row_s]
  exact k
theorem rp_X2_66 (O : cp_Ok x E RX2 bc nL d mc ms) {v : Int32} {a : Nat} {g : Nat → Int32} (hs : sh a = (3, 0)) (hd : decode bc pc = .ok (.putfield 66, 3)) (k : cp_G x E nL cells slots cnt sh (cp_row J a (upd g 3 v)) R (pc + 3) L st) : cp_G x E nL cells slots cnt sh (cp_row J a g) R pc L (.int v :: .ref a :: st) := by
  refine fp_X2_66 O hs hd ?_
  rw [cp_row_wi]
  exact k
theorem rg_X2_53 (O : cp_Ok x E RX2 bc nL d mc ms) {a : Nat} {g : Nat → Int32} (hs : sh a = (3, 0)) (hd : decode bc pc = .ok (.getfield 53, 3)) (k : cp_G x E nL cells slots cnt sh (cp_row J a g) R (pc + 3) L (.int (g 4) :: st)) : cp_G x E nL cells slots cnt sh (cp_row J a g) R pc L (.ref a :: st) := by
  refine fg_X2_53 O hs hd ?_
  rw [cp_row_s]
  exact k
theorem rp_X2_53 (O : cp_Ok x E RX2 bc nL d mc ms) {v : Int32} {a : Nat} {g : Nat → Int32} (hs : sh a = (3, 0)) (hd : decode bc pc = .ok (.putfield 53, 3)) (k : cp_G x E nL cells slots cnt sh (cp_row J a (upd g 4 v)) R (pc + 3) L st) : cp_G x E nL cells slots cnt sh (cp_row J a g) R pc L (.int v :: .ref a :: st) := by
  refine fp_X2_53 O hs hd ?_
  rw [cp_row_wi]
  exact k
theorem rg_X2_56 (O : cp_Ok x E RX2 bc nL d mc ms) {a : Nat} {g : Nat → Int32} (hs : sh a = (3, 0)) (hd : decode bc pc = .ok (.getfield 56, 3)) (k : cp_G x E nL cells slots cnt sh (cp_row J a g) R (pc + 3) L (.int (g 5) :: st)) : cp_G x E nL cells slots cnt sh (cp_row J a g) R pc L (.ref a :: st) := by
  refine fg_X2_56 O hs hd ?_
  rw [cp_row_s]
  exact k
theorem rp_X2_56 (O : cp_Ok x E RX2 bc nL d mc ms) {v : Int32} {a : Nat} {g : Nat → Int32} (hs : sh a = (3, 0)) (hd : decode bc pc = .ok (.putfield 56, 3)) (k : cp_G x E nL cells slots cnt sh (cp_row J a (upd g 5 v)) R (pc + 3) L st) : cp_G x E nL cells slots cnt sh (cp_row J a g) R pc L (.int v :: .ref a :: st) := by
  refine fp_X2_56 O hs hd ?_
  rw [cp_row_wi]
  exact k
theorem rg_X2_63 (O : cp_Ok x E RX2 bc nL d mc ms) {a : Nat} {g : Nat → Int32} (hs : sh a = (3, 0)) (hd : decode bc pc = .ok (.getfield 63, 3)) (k : cp_G x E nL cells slots cnt sh (cp_row J a g) R (pc + 3) L (.int (g 6) :: st)) : cp_G x E nL cells slots cnt sh (cp_row J a g) R pc L (.ref a :: st) := by
  refine fg_X2_63 O hs hd ?_
  rw [cp_row_s]
  exact k
theorem rp_X2_63 (O : cp_Ok x E RX2 bc nL d mc ms) {v : Int32} {a : Nat} {g : Nat → Int32} (hs : sh a = (3, 0)) (hd : decode bc pc = .ok (.putfield 63, 3)) (k : cp_G x E nL cells slots cnt sh (cp_row J a (upd g 6 v)) R (pc + 3) L st) : cp_G x E nL cells slots cnt sh (cp_row J a g) R pc L (.int v :: .ref a :: st) := by
  refine fp_X2_63 O hs hd ?_
  rw [cp_row_wi]
  exact k
end CPRD
theorem cp_he_c {w : Nat → Nat} {len s lo hi : Nat} (hlo : 0 < lo) : cp_he w len s lo hi = decide (lo ≤ cp_chr w len s ∧ cp_chr w len s ≤ hi) := by
  unfold cp_he cp_chr
  apply decide_eq_decide.mpr
  by_cases h : s < len
  · rw [if_pos h]
    exact ⟨fun z => z.2, fun z => ⟨h, z⟩⟩
  · rw [if_neg h]
    exact ⟨fun z => absurd z.1 h, fun z => absurd z.1 (by omega)⟩
theorem cp_chr_s {w : Nat → Nat} {len s lo hi : Nat} (h : cp_he w len s lo hi = true) : cp_chr w len s = w s := if_pos (cp_he_t h).1
/-- a digit at a place -/
def cp_dh (w : Nat → Nat) (len s : Nat) : Int32 := if cp_he w len s 48 57 = true then nI (w s - 48) else -6
set_option maxHeartbeats 4000000 in
set_option maxRecDepth 100000 in
theorem c_X2_digitHere {lc : Launch} {E : cp_En} {cnt : Nat} {sh : cp_Shp} {R : cp_Rem} {J : cp_Mem} {r0 d0 : Nat} {g : Nat → Int32} (Ol : cp_OL sh R r0 d0) (hne : d0 + 1 < r0) {w : Nat → Nat} {len : Nat} (hL : J d0 1 = nI len) (hT : cp_TX (J (d0 + 1)) w len) {s : Nat} (hs : s ≤ 200) (hg : g 1 = nI s) : cp_Fn lc E yX2_digitHere cX2_digitHere 2 (some .int) 1 [.ref r0] cnt sh (cp_row J r0 g) R (some (.int (cp_dh w len s))) (cp_row J r0 g) := by
  have hc128 := cp_chr_lt (s := s) hT
  refine cp_Fn_i [some (.ref r0), none] (by decide +kernel) (Nat.le_of_ble_eq_true rfl) rfl rfl (fun x hxl O hr => ?_)
  subst hxl
  refine cp_aload_n O dX2_digitHere_0 cp_lg0 ?_
  refine fg_X2_9 O Ol.s Ol.f0 dX2_digitHere_1 ?_
  refine cp_aload_n O dX2_digitHere_4 cp_lg0 ?_
  refine rg_X2_15 O Ol.s dX2_digitHere_5 ?_
  rw [hg]
  refine cp_cVi O me_X3_characterAt mi_X3_characterAt ml_X2_35 cp_cX3 (Ol.pad).s (c_X3_characterAt Ol.pad (by rw [cp_row_n _ _ (show d0 ≠ r0 by omega)]; exact hL) (by rw [cp_row_n _ _ (show d0 + 1 ≠ r0 by omega)]; exact hT) (s := s) (by omega)) dX2_digitHere_8 rfl rfl ⟨Nat.le_of_ble_eq_true rfl, Nat.le_of_ble_eq_true rfl⟩ ⟨Nat.le_refl _, Nat.le_refl _⟩ (Nat.le_of_ble_eq_true rfl) ?_
  refine cp_istore_n O dX2_digitHere_11 (by decide) (cp_ls1 rfl) ?_
  refine cp_iload_n O dX2_digitHere_12 cp_lg1 ?_
  refine cp_bipush O dX2_digitHere_13 (v := 48) rfl ?_
  refine cp_icmp_ltN (tgt := 31) O dX2_digitHere_15 (by decide) (a := (cp_chr w len s)) (b := 48) rfl rfl (by omega) (by omega) (fun c_15 => ?_) (fun c_15 => ?_)
  · have hd : cp_he w len s 48 57 = false := by rw [cp_he_c (by decide)]; exact decide_eq_false (fun z => by omega)
    refine cp_bipush O dX2_digitHere_31 (v := (-6)) rfl ?_
    exact hr _ _ _ _ dX2_digitHere_33 (by unfold cp_dh; rw [if_neg (cp_bF hd)]) rfl
  · refine cp_iload_n O dX2_digitHere_18 cp_lg1 ?_
    refine cp_bipush O dX2_digitHere_19 (v := 57) rfl ?_
    refine cp_icmp_gtN (tgt := 31) O dX2_digitHere_21 (by decide) (a := (cp_chr w len s)) (b := 57) rfl rfl (by omega) (by omega) (fun c_21 => ?_) (fun c_21 => ?_)
    · have hd : cp_he w len s 48 57 = false := by rw [cp_he_c (by decide)]; exact decide_eq_false (fun z => by omega)
      refine cp_bipush O dX2_digitHere_31 (v := (-6)) rfl ?_
      exact hr _ _ _ _ dX2_digitHere_33 (by unfold cp_dh; rw [if_neg (cp_bF hd)]) rfl
    · have hd : cp_he w len s 48 57 = true := by rw [cp_he_c (by decide)]; exact decide_eq_true ⟨by omega, by omega⟩
      have hcs := cp_chr_s hd
      refine cp_iload_n O dX2_digitHere_24 cp_lg1 ?_
      refine cp_bipush O dX2_digitHere_25 (v := 48) rfl ?_
      refine cp_isub O dX2_digitHere_27 ?_
      refine cp_goto (tgt := 33) O dX2_digitHere_28 (by decide) ?_
      exact hr _ _ _ _ dX2_digitHere_33 (by unfold cp_dh; rw [if_pos hd, ← hcs]; exact pk_sub (b := 48) c_15) rfl
set_option maxHeartbeats 4000000 in
set_option maxRecDepth 100000 in
theorem c_X2_readSign {lc : Launch} {E : cp_En} {cnt : Nat} {sh : cp_Shp} {R : cp_Rem} {J : cp_Mem} {r0 d0 : Nat} {g : Nat → Int32} (Ol : cp_OL sh R r0 d0) (hne : d0 + 1 < r0) {w : Nat → Nat} {len : Nat} (hL : J d0 1 = nI len) (hT : cp_TX (J (d0 + 1)) w len) {s : Nat} (hs : s ≤ 200) (hg : g 1 = nI s) {q : Nat} (hq : 0 < q) (hq2 : q < 128) : cp_Fn lc E yX2_readSign cX2_readSign 2 (some .boolean) 1 [.ref r0, .int (nI q)] cnt sh (cp_row J r0 g) R (some (.int (cp_bi (cp_he w len s q q)))) (cp_row J r0 (if cp_he w len s q q = true then upd g 1 (nI (s + 1)) else g)) := by
  have hc128 := cp_chr_lt (s := s) hT
  refine cp_Fn_i [some (.ref r0), some (.int (nI q))] (by decide +kernel) (Nat.le_of_ble_eq_true rfl) rfl (cp_bin _) (fun x hxl O hr => ?_)
  subst hxl
  refine cp_aload_n O dX2_readSign_0 cp_lg0 ?_
  refine fg_X2_9 O Ol.s Ol.f0 dX2_readSign_1 ?_
  refine cp_aload_n O dX2_readSign_4 cp_lg0 ?_
  refine rg_X2_15 O Ol.s dX2_readSign_5 ?_
  rw [hg]
  refine cp_cVi O me_X3_characterAt mi_X3_characterAt ml_X2_35 cp_cX3 (Ol.pad).s (c_X3_characterAt Ol.pad (by rw [cp_row_n _ _ (show d0 ≠ r0 by omega)]; exact hL) (by rw [cp_row_n _ _ (show d0 + 1 ≠ r0 by omega)]; exact hT) (s := s) (by omega)) dX2_readSign_8 rfl rfl ⟨Nat.le_of_ble_eq_true rfl, Nat.le_of_ble_eq_true rfl⟩ ⟨Nat.le_refl _, Nat.le_refl _⟩ (Nat.le_of_ble_eq_true rfl) ?_
  refine cp_iload_n O dX2_readSign_11 cp_lg1 ?_
  refine cp_icmp_eqN (tgt := 17) O dX2_readSign_12 (by decide) (a := (cp_chr w len s)) (b := q) rfl rfl (by omega) (by omega) (fun c_12 => ?_) (fun c_12 => ?_)
  · have hd : cp_he w len s q q = true := by rw [cp_he_c hq]; exact decide_eq_true ⟨by omega, by omega⟩
    refine cp_aload_n O dX2_readSign_17 cp_lg0 ?_
    refine cp_dup O dX2_readSign_18 rfl ?_
    refine rg_X2_15 O Ol.s dX2_readSign_19 ?_
    refine cp_iconst O dX2_readSign_22 (v := 1) rfl ?_
    rw [hg]
    refine cp_iadd O dX2_readSign_23 ?_
    rw [nI_1]
    refine rp_X2_15 O Ol.s dX2_readSign_24 ?_
    refine cp_iconst O dX2_readSign_27 (v := 1) rfl ?_
    exact hr _ _ _ _ dX2_readSign_28 (cp_bi_t hd) (by rw [if_pos hd])
  · have hd : cp_he w len s q q = false := by rw [cp_he_c hq]; exact decide_eq_false (fun z => c_12 (by omega))
    refine cp_iconst O dX2_readSign_15 (v := 0) rfl ?_
    exact hr _ _ _ _ dX2_readSign_16 (cp_bi_f hd) (by rw [if_neg (cp_bF hd)])
/-- how far a number has been read: e digits, their value k -/
def cp_de (e k : Nat) : Prop := (e = 1 ∧ k ≤ 9) ∨ (e = 2 ∧ 10 ≤ k ∧ k ≤ 99) ∨ (e = 3 ∧ 100 ≤ k ∧ k ≤ 999)
theorem cp_de_s {e k c : Nat} (h : cp_de e k) (h3 : e < 3) (hk : 0 < k) (hc : c ≤ 9) : cp_de (e + 1) (k * 10 + c) := by
  unfold cp_de at h ⊢
  omega
set_option maxHeartbeats 4000000 in
set_option maxRecDepth 100000 in
theorem c_X2_readNumber {lc : Launch} {E : cp_En} {cnt : Nat} {sh : cp_Shp} {R : cp_Rem} {J : cp_Mem} {r0 d0 : Nat} {g : Nat → Int32} (Ol : cp_OL sh R r0 d0) (hne : d0 + 1 < r0) {w : Nat → Nat} {len : Nat} (hL : J d0 1 = nI len) (hT : cp_TX (J (d0 + 1)) w len) {s : Nat} (hs : s ≤ 200) (hg : g 1 = nI s) : cp_Fr lc E yX2_readNumber cX2_readNumber 3 (some .boolean) 2 [.ref r0] cnt sh (cp_row J r0 g) R (some (.int (cp_bi (cp_he w len s 48 57)))) (fun I' => ∃ g' : Nat → Int32, I' = cp_row J r0 g' ∧ (∀ q, q ≠ 1 → q ≠ 3 → g' q = g q) ∧ (cp_he w len s 48 57 = false → g' 1 = nI s) ∧ (cp_he w len s 48 57 = true → g' 1 = nI (cp_rn w len s).1 ∧ g' 3 = nI (cp_rn w len s).2)) := by
  have hl80 := hT.1
  refine cp_Fn_iR [some (.ref r0), none, none] (by decide +kernel) (Nat.le_of_ble_eq_true rfl) rfl (cp_bin _) (fun x hxl O hr => ?_)
  subst hxl
  refine cp_aload_n O dX2_readNumber_0 cp_lg0 ?_
  refine cp_aload_n O dX2_readNumber_1 cp_lg0 ?_
  refine cp_cVi O me_X2_digitHere mi_X2_digitHere ml_X2_49 cp_cX2 Ol.s (c_X2_digitHere Ol hne hL hT hs hg) dX2_readNumber_2 rfl rfl ⟨Nat.le_of_ble_eq_true rfl, Nat.le_of_ble_eq_true rfl⟩ ⟨Nat.le_refl _, Nat.le_refl _⟩ (Nat.le_of_ble_eq_true rfl) ?_
  refine rp_X2_66 O Ol.s dX2_readNumber_5 ?_
  refine cp_aload_n O dX2_readNumber_8 cp_lg0 ?_
  refine rg_X2_66 O Ol.s dX2_readNumber_9 ?_
  rw [cp_upd_s]
  refine cp_if_ge (tgt := 17) O dX2_readNumber_12 (by decide) (fun c_12 => ?_) (fun c_12 => ?_)
  · have hd : cp_he w len s 48 57 = true := by
      cases z : cp_he w len s 48 57 with
      | true => rfl
      | false =>
        have e : cp_dh w len s = -6 := by unfold cp_dh; rw [if_neg (cp_bF z)]
        rw [e] at c_12
        exact absurd c_12 (by decide)
    have edh : cp_dh w len s = nI (w s - 48) := by unfold cp_dh; rw [if_pos hd]
    rw [edh]
    refine cp_aload_n O dX2_readNumber_17 cp_lg0 ?_
    refine cp_dup O dX2_readNumber_18 rfl ?_
    refine rg_X2_15 O Ol.s dX2_readNumber_19 ?_
    refine cp_iconst O dX2_readNumber_22 (v := 1) rfl ?_
    rw [cp_upd_n (show 1 ≠ 3 by decide), hg]
    refine cp_iadd O dX2_readNumber_23 ?_
    rw [nI_1]
    refine rp_X2_15 O Ol.s dX2_readNumber_24 ?_
    refine cp_iconst O dX2_readNumber_27 (v := 1) rfl ?_
    refine cp_istore_n O dX2_readNumber_28 (by decide) (cp_ls1 rfl) ?_
    have loop29 : ∀ e, e ≤ 3 → ∀ (g' : Nat → Int32) (p k : Nat), cp_de e k → p ≤ len → g' 1 = nI p → g' 3 = nI k → cp_dgs w len p k = cp_rn w len s → (∀ q, q ≠ 1 → q ≠ 3 → g' q = g q) → cp_G x E 3 0 0 cnt sh (cp_row J r0 g') R 29 [some (.ref r0), some (.int (nI e)), none] [] := by
      refine cp_up (n := 3) (P := fun e => ∀ (g' : Nat → Int32) (p k : Nat), cp_de e k → p ≤ len → g' 1 = nI p → g' 3 = nI k → cp_dgs w len p k = cp_rn w len s → (∀ q, q ≠ 1 → q ≠ 3 → g' q = g q) → cp_G x E 3 0 0 cnt sh (cp_row J r0 g') R 29 [some (.ref r0), some (.int (nI e)), none] []) (fun e he ih g' p k hek hp h1 h3 hdg hoth => ?_)
      refine cp_iload_n O dX2_readNumber_29 cp_lg1 ?_
      refine cp_iconst O dX2_readNumber_30 (v := 3) rfl ?_
      refine cp_icmp_geN (tgt := 81) O dX2_readNumber_31 (by decide) (a := e) (b := 3) rfl rfl (by omega) (by omega) (fun c_31 => ?_) (fun c_31 => ?_)
      · refine cp_iconst O dX2_readNumber_81 (v := 1) rfl ?_
        exact hr _ _ _ _ dX2_readNumber_82 (cp_bi_t hd) ⟨_, rfl, hoth, fun z => absurd (hd.symm.trans z) (by decide), fun _ => by rw [← hdg, cp_dgs_0 (fun z => by have hq := cp_he_t z.2.1; unfold cp_de at hek; omega)]; exact ⟨h1, h3⟩⟩
      · refine cp_aload_n O dX2_readNumber_34 cp_lg0 ?_
        refine rg_X2_66 O Ol.s dX2_readNumber_35 ?_
        rw [h3]
        refine cp_if_le (tgt := 81) O dX2_readNumber_38 (by decide) (fun c_38 => ?_) (fun c_38 => ?_)
        · have hk0 : k = 0 := cp_nle0 c_38 (by unfold cp_de at hek; omega)
          refine cp_iconst O dX2_readNumber_81 (v := 1) rfl ?_
          exact hr _ _ _ _ dX2_readNumber_82 (cp_bi_t hd) ⟨_, rfl, hoth, fun z => absurd (hd.symm.trans z) (by decide), fun _ => by rw [← hdg, cp_dgs_0 (fun z => absurd z.1 (by omega))]; exact ⟨h1, h3⟩⟩
        · have hk0 : 0 < k := by
            rcases Nat.eq_zero_or_pos k with z | z
            · exact absurd (show nI k ≤ 0 by rw [z]; decide) c_38
            · exact z
          refine cp_aload_n O dX2_readNumber_41 cp_lg0 ?_
          refine cp_cVi O me_X2_digitHere mi_X2_digitHere ml_X2_49 cp_cX2 Ol.s (c_X2_digitHere (g := g') Ol hne hL hT (s := p) (by omega) h1) dX2_readNumber_42 rfl rfl ⟨Nat.le_of_ble_eq_true rfl, Nat.le_of_ble_eq_true rfl⟩ ⟨Nat.le_refl _, Nat.le_refl _⟩ (Nat.le_of_ble_eq_true rfl) ?_
          refine cp_istore_n O dX2_readNumber_45 (by decide) (cp_ls2 rfl) ?_
          refine cp_iload_n O dX2_readNumber_46 cp_lg2 ?_
          refine cp_if_ge (tgt := 52) O dX2_readNumber_47 (by decide) (fun c_47 => ?_) (fun c_47 => ?_)
          · have hdd : cp_he w len p 48 57 = true := by
              cases z : cp_he w len p 48 57 with
              | true => rfl
              | false =>
                have e : cp_dh w len p = -6 := by unfold cp_dh; rw [if_neg (cp_bF z)]
                rw [e] at c_47
                exact absurd c_47 (by decide)
            have edd : cp_dh w len p = nI (w p - 48) := by unfold cp_dh; rw [if_pos hdd]
            rw [edd]
            refine cp_aload_n O dX2_readNumber_52 cp_lg0 ?_
            refine cp_aload_n O dX2_readNumber_53 cp_lg0 ?_
            refine rg_X2_66 O Ol.s dX2_readNumber_54 ?_
            refine cp_bipush O dX2_readNumber_57 (v := 10) rfl ?_
            rw [h3]
            refine cp_imul O dX2_readNumber_59 ?_
            refine cp_iload_n O dX2_readNumber_60 cp_lg2 ?_
            refine cp_iadd O dX2_readNumber_61 ?_
            rw [show (10 : Int32) = nI 10 from rfl, pk_mul, nI_add]
            refine rp_X2_66 O Ol.s dX2_readNumber_62 ?_
            refine cp_aload_n O dX2_readNumber_65 cp_lg0 ?_
            refine cp_dup O dX2_readNumber_66 rfl ?_
            refine rg_X2_15 O Ol.s dX2_readNumber_67 ?_
            refine cp_iconst O dX2_readNumber_70 (v := 1) rfl ?_
            rw [cp_upd_n (show 1 ≠ 3 by decide), h1]
            refine cp_iadd O dX2_readNumber_71 ?_
            rw [nI_1]
            refine rp_X2_15 O Ol.s dX2_readNumber_72 ?_
            refine cp_iinc O dX2_readNumber_75 cp_lg1 (cp_inc rfl) (by decide) (cp_ls1 rfl) ?_
            refine cp_goto (tgt := 29) O dX2_readNumber_78 (by decide) ?_
            exact cp_Gw (cp_lws (cp_lws (cp_lwn cp_lw0))) (ih (by omega) _ (p + 1) (k * 10 + (w p - 48)) (cp_de_s hek c_31 hk0 (by have := cp_he_t hdd; omega)) (by have := cp_he_t hdd; omega) cp_upd_s ((cp_upd_n (by decide)).trans cp_upd_s) ((by have h5 := cp_he_t hdd; have h6 : k * 10 + (w p - 48) ≤ 999 := by { unfold cp_de at hek; omega }; have h7 := cp_dgs_1 (w := w) (len := len) (s := p) (k := k) hk0 hdd (by omega); rw [hdg] at h7; rw [h7, show 10 * k + w p - 48 = k * 10 + (w p - 48) by omega])) (fun q a b => (cp_upd_n a).trans ((cp_upd_n b).trans (hoth q a b))))
          · have hdd : cp_he w len p 48 57 = false := by
              cases z : cp_he w len p 48 57 with
              | false => rfl
              | true =>
                exact absurd (show (0 : Int32) ≤ cp_dh w len p by unfold cp_dh; rw [if_pos z]; exact cp_nI_le0 (by have := cp_he_t z; have := (hT.2 p this.1).2; omega)) c_47
            refine cp_iconst O dX2_readNumber_50 (v := 1) rfl ?_
            exact hr _ _ _ _ dX2_readNumber_51 (cp_bi_t hd) ⟨_, rfl, hoth, fun z => absurd (hd.symm.trans z) (by decide), fun _ => by rw [← hdg, cp_dgs_0 (fun z => cp_bF hdd z.2.1)]; exact ⟨h1, h3⟩⟩
    exact cp_Gw (cp_lws (cp_lws (cp_lwn cp_lw0))) (loop29 1 (by decide) _ (s + 1) (w s - 48) (Or.inl ⟨rfl, by have := cp_he_t hd; omega⟩) (by have := cp_he_t hd; omega) cp_upd_s ((cp_upd_n (by decide)).trans cp_upd_s) rfl (fun q a b => (cp_upd_n a).trans (cp_upd_n b)))
  · have hd : cp_he w len s 48 57 = false := by
      cases z : cp_he w len s 48 57 with
      | false => rfl
      | true =>
        exact absurd (show (0 : Int32) ≤ cp_dh w len s by unfold cp_dh; rw [if_pos z]; exact cp_nI_le0 (by have := cp_he_t z; omega)) c_12
    refine cp_iconst O dX2_readNumber_15 (v := 0) rfl ?_
    exact hr _ _ _ _ dX2_readNumber_16 (cp_bi_f hd) ⟨_, rfl, fun q a b => cp_upd_n b, fun _ => (cp_upd_n (by decide)).trans hg, fun z => absurd (hd.symm.trans z) (by decide)⟩
