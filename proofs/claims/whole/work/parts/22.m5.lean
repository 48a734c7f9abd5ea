/-- numbers of pieces as they may be: lines, rank, legal, held, edited, and the minute in which one became ready -/
def cp_PN (n : Nat) (P : cp_PP) : Prop := ∀ i, i < n → (∃ k, 1 ≤ k ∧ k < 100 ∧ P i 1 = nI k ∧ ∃ e, e ≤ k ∧ P i 6 = nI e) ∧ (∃ k, k < 10 ∧ P i 2 = nI k) ∧ (P i 3 = 0 ∨ P i 3 = 1) ∧ (P i 5 = 0 ∨ P i 5 = 1) ∧ (P i 8 = -6 ∨ ∃ t, t < 100000 ∧ P i 8 = nI t)
theorem cp_PN_8 {n : Nat} {P : cp_PP} (h : cp_PN n P) {i : Nat} (hi : i < n) : -6 ≤ (P i 8).toInt ∧ (P i 8).toInt < 100000 := by
  rcases (h i hi).2.2.2.2 with e | ⟨t, ht, e⟩
  · rw [e]; decide
  · rw [e, nI_toInt (by omega)]; omega
theorem cp_PN_2 {n : Nat} {P : cp_PP} (h : cp_PN n P) {i : Nat} (hi : i < n) : 0 ≤ (P i 2).toInt ∧ (P i 2).toInt < 10 := by
  obtain ⟨k, hk, e⟩ := (h i hi).2.1
  rw [e, nI_toInt (by omega)]; omega
theorem cp_subI {x y : Int32} (h1 : -1000000 ≤ x.toInt ∧ x.toInt < 1000000) (h2 : -1000000 ≤ y.toInt ∧ y.toInt < 1000000) : (x - y).toInt = x.toInt - y.toInt := by
  rw [Int32.toInt_sub]
  apply Int.bmod_eq_of_le <;> omega
theorem cp_sub_lt {x y : Int32} (h1 : -1000000 ≤ x.toInt ∧ x.toInt < 1000000) (h2 : -1000000 ≤ y.toInt ∧ y.toInt < 1000000) : x - y < 0 ↔ x.toInt < y.toInt := by
  rw [Int32.lt_iff_toInt_lt, cp_subI h1 h2, show (0 : Int32).toInt = 0 from rfl]; omega
theorem cp_sub_eq {x y : Int32} (h1 : -1000000 ≤ x.toInt ∧ x.toInt < 1000000) (h2 : -1000000 ≤ y.toInt ∧ y.toInt < 1000000) : x - y = 0 ↔ x.toInt = y.toInt := by
  rw [← Int32.toInt_inj, cp_subI h1 h2, show (0 : Int32).toInt = 0 from rfl]; omega
theorem cp_cnt_t {q : Nat → Bool} {n : Nat} (h : q n = true) : nI (cp_cnt q n) + 1 = nI (cp_cnt q (n + 1)) := by
  rw [nI_1]
  show nI (cp_cnt q n + 1) = nI (cp_cnt q n + (if q n = true then 1 else 0))
  rw [if_pos h]
theorem cp_cnt_f {q : Nat → Bool} {n : Nat} (h : q n = false) : nI (cp_cnt q n) + 0 = nI (cp_cnt q (n + 1)) := by
  show nI (cp_cnt q n) + nI 0 = nI (cp_cnt q n + (if q n = true then 1 else 0))
  rw [if_neg (by rw [h]; decide), nI_add]
set_option maxHeartbeats 4000000 in
set_option maxRecDepth 100000 in
theorem c_X7_isFree {lc : Launch} {E : cp_En} {cnt : Nat} {sh : cp_Shp} {R : cp_Rem} {J : cp_Mem} {m : Nat} {f : Nat → Int32} {r : Nat → Nat → Int32} {a : Nat → Int32} (M : cp_ML sh R m) {n : Nat} {P : cp_PP} (hn24 : n ≤ 24) (hp : ∀ i, i < n → ∀ f, f < 9 → a (158 + 9 * i + f) = P i f) {v1 : Int32} {p : Nat} (h1 : v1 = nI p) (hpn : p < n) : cp_Fn lc E yX7_isFree cX7_isFree 2 (some .boolean) 1 [.ref m, .int v1] cnt sh (cp_ma J m f r a) R (some (.int (cp_bi (cp_fr P p)))) (cp_ma J m f r a) := by
  refine cp_Fn_i [some (.ref m), some (.int v1)] (by decide +kernel) (Nat.le_of_ble_eq_true rfl) rfl (cp_bin _) (fun x hxl O hr => ?_)
  subst hxl
  refine cp_aload_n O dX7_isFree_0 cp_lg0 ?_
  refine cp_iload_n O dX7_isFree_1 cp_lg1 ?_
  refine cp_iconst O dX7_isFree_2 (v := 4) rfl ?_
  refine cp_cVi O me_X7_of mi_X7_of ml_X7_39 cp_cX7 M.s (c_X7_ofe (w := P p 4) (p := p) (q := 4) M h1 rfl (by omega) (by omega) (hp p (by omega) 4 (by decide))) dX7_isFree_3 rfl rfl ⟨Nat.le_of_ble_eq_true rfl, Nat.le_of_ble_eq_true rfl⟩ ⟨Nat.le_refl _, Nat.le_refl _⟩ (Nat.le_of_ble_eq_true rfl) ?_
  refine cp_iconst O dX7_isFree_6 (v := 2) rfl ?_
  refine cp_icmp_ne (tgt := 23) O dX7_isFree_7 (by decide) (fun c_7 => ?_) (fun c_7 => ?_)
  · refine cp_iconst O dX7_isFree_23 (v := 0) rfl ?_
    exact hr _ _ _ _ dX7_isFree_24 (by unfold cp_fr; first | (rw [decide_eq_true c_7, decide_eq_true c_16]; rfl) | (rw [decide_eq_false c_7]; rfl) | (rw [decide_eq_false c_16, Bool.and_false]; rfl)) rfl
  · refine cp_aload_n O dX7_isFree_10 cp_lg0 ?_
    refine cp_iload_n O dX7_isFree_11 cp_lg1 ?_
    refine cp_iconst O dX7_isFree_12 (v := 5) rfl ?_
    refine cp_cVi O me_X7_of mi_X7_of ml_X7_39 cp_cX7 M.s (c_X7_ofe (w := P p 5) (p := p) (q := 5) M h1 rfl (by omega) (by omega) (hp p (by omega) 5 (by decide))) dX7_isFree_13 rfl rfl ⟨Nat.le_of_ble_eq_true rfl, Nat.le_of_ble_eq_true rfl⟩ ⟨Nat.le_refl _, Nat.le_refl _⟩ (Nat.le_of_ble_eq_true rfl) ?_
    refine cp_if_ne (tgt := 23) O dX7_isFree_16 (by decide) (fun c_16 => ?_) (fun c_16 => ?_)
    · refine cp_iconst O dX7_isFree_23 (v := 0) rfl ?_
      exact hr _ _ _ _ dX7_isFree_24 (by unfold cp_fr; first | (rw [decide_eq_true c_7, decide_eq_true c_16]; rfl) | (rw [decide_eq_false c_7]; rfl) | (rw [decide_eq_false c_16, Bool.and_false]; rfl)) rfl
    · refine cp_iconst O dX7_isFree_19 (v := 1) rfl ?_
      refine cp_goto (tgt := 24) O dX7_isFree_20 (by decide) ?_
      exact hr _ _ _ _ dX7_isFree_24 (by unfold cp_fr; first | (rw [decide_eq_true c_7, decide_eq_true c_16]; rfl) | (rw [decide_eq_false c_7]; rfl) | (rw [decide_eq_false c_16, Bool.and_false]; rfl)) rfl
set_option maxHeartbeats 4000000 in
set_option maxRecDepth 100000 in
theorem c_X7_isAhead {lc : Launch} {E : cp_En} {cnt : Nat} {sh : cp_Shp} {R : cp_Rem} {J : cp_Mem} {m : Nat} {f : Nat → Int32} {r : Nat → Nat → Int32} {a : Nat → Int32} (M : cp_ML sh R m) {n : Nat} {P : cp_PP} (hn24 : n ≤ 24) (hp : ∀ i, i < n → ∀ f, f < 9 → a (158 + 9 * i + f) = P i f) (hN : cp_PN n P) {v1 v2 : Int32} {p q : Nat} (h1 : v1 = nI p) (h2 : v2 = nI q) (hpn : p < n) (hqn : q < n) : cp_Fn lc E yX7_isAhead cX7_isAhead 5 (some .boolean) 1 [.ref m, .int v1, .int v2] cnt sh (cp_ma J m f r a) R (some (.int (cp_bi (cp_ah P p q)))) (cp_ma J m f r a) := by
  have a2 := cp_PN_2 hN hpn
  have b2 := cp_PN_2 hN hqn
  have a8 := cp_PN_8 hN hpn
  have b8 := cp_PN_8 hN hqn
  have e1 := cp_sub_lt (x := P q 2) (y := P p 2) (by omega) (by omega)
  have e2 := cp_sub_eq (x := P q 2) (y := P p 2) (by omega) (by omega)
  have e3 := cp_sub_lt (x := P p 8) (y := P q 8) (by omega) (by omega)
  have e4 := cp_sub_eq (x := P p 8) (y := P q 8) (by omega) (by omega)
  refine cp_Fn_i [some (.ref m), some (.int v1), some (.int v2), none, none] (by decide +kernel) (Nat.le_of_ble_eq_true rfl) rfl (cp_bin _) (fun x hxl O hr => ?_)
  subst hxl
  refine cp_aload_n O dX7_isAhead_0 cp_lg0 ?_
  refine cp_iload_n O dX7_isAhead_1 cp_lg2 ?_
  refine cp_iconst O dX7_isAhead_2 (v := 2) rfl ?_
  refine cp_cVi O me_X7_of mi_X7_of ml_X7_39 cp_cX7 M.s (c_X7_ofe (w := P q 2) (p := q) (q := 2) M h2 rfl (by omega) (by omega) (hp q (by omega) 2 (by decide))) dX7_isAhead_3 rfl rfl ⟨Nat.le_of_ble_eq_true rfl, Nat.le_of_ble_eq_true rfl⟩ ⟨Nat.le_refl _, Nat.le_refl _⟩ (Nat.le_of_ble_eq_true rfl) ?_
  refine cp_aload_n O dX7_isAhead_6 cp_lg0 ?_
  refine cp_iload_n O dX7_isAhead_7 cp_lg1 ?_
  refine cp_iconst O dX7_isAhead_8 (v := 2) rfl ?_
  refine cp_cVi O me_X7_of mi_X7_of ml_X7_39 cp_cX7 M.s (c_X7_ofe (w := P p 2) (p := p) (q := 2) M h1 rfl (by omega) (by omega) (hp p (by omega) 2 (by decide))) dX7_isAhead_9 rfl rfl ⟨Nat.le_of_ble_eq_true rfl, Nat.le_of_ble_eq_true rfl⟩ ⟨Nat.le_refl _, Nat.le_refl _⟩ (Nat.le_of_ble_eq_true rfl) ?_
  refine cp_isub O dX7_isAhead_12 ?_
  refine cp_istore_n O dX7_isAhead_13 (by decide) (cp_ls3 rfl) ?_
  refine cp_aload_n O dX7_isAhead_14 cp_lg0 ?_
  refine cp_iload_n O dX7_isAhead_15 cp_lg1 ?_
  refine cp_bipush O dX7_isAhead_16 (v := 8) rfl ?_
  refine cp_cVi O me_X7_of mi_X7_of ml_X7_39 cp_cX7 M.s (c_X7_ofe (w := P p 8) (p := p) (q := 8) M h1 rfl (by omega) (by omega) (hp p (by omega) 8 (by decide))) dX7_isAhead_18 rfl rfl ⟨Nat.le_of_ble_eq_true rfl, Nat.le_of_ble_eq_true rfl⟩ ⟨Nat.le_refl _, Nat.le_refl _⟩ (Nat.le_of_ble_eq_true rfl) ?_
  refine cp_aload_n O dX7_isAhead_21 cp_lg0 ?_
  refine cp_iload_n O dX7_isAhead_22 cp_lg2 ?_
  refine cp_bipush O dX7_isAhead_23 (v := 8) rfl ?_
  refine cp_cVi O me_X7_of mi_X7_of ml_X7_39 cp_cX7 M.s (c_X7_ofe (w := P q 8) (p := q) (q := 8) M h2 rfl (by omega) (by omega) (hp q (by omega) 8 (by decide))) dX7_isAhead_25 rfl rfl ⟨Nat.le_of_ble_eq_true rfl, Nat.le_of_ble_eq_true rfl⟩ ⟨Nat.le_refl _, Nat.le_refl _⟩ (Nat.le_of_ble_eq_true rfl) ?_
  refine cp_isub O dX7_isAhead_28 ?_
  refine cp_istore O dX7_isAhead_29 (by decide) (cp_ls4 rfl) ?_
  refine cp_iload_n O dX7_isAhead_31 cp_lg3 ?_
  refine cp_if_lt (tgt := 54) O dX7_isAhead_32 (by decide) (fun c_32 => ?_) (fun c_32 => ?_)
  · have hah : cp_ah P p q = true := by
      rw [cp_ah_iff]
      simp only [e1, e2, e3, e4] at *
      omega
    refine cp_iconst O dX7_isAhead_54 (v := 1) rfl ?_
    refine cp_goto (tgt := 59) O dX7_isAhead_55 (by decide) ?_
    exact hr _ _ _ _ dX7_isAhead_59 (by rw [hah]; rfl) rfl
  · refine cp_iload_n O dX7_isAhead_35 cp_lg3 ?_
    refine cp_if_ne (tgt := 58) O dX7_isAhead_36 (by decide) (fun c_36 => ?_) (fun c_36 => ?_)
    · have hah : cp_ah P p q = false := by
        apply Bool.eq_false_iff.mpr
        rw [Ne, cp_ah_iff]
        simp only [e1, e2, e3, e4] at *
        omega
      refine cp_iconst O dX7_isAhead_58 (v := 0) rfl ?_
      exact hr _ _ _ _ dX7_isAhead_59 (by rw [hah]; rfl) rfl
    · refine cp_iload O dX7_isAhead_39 cp_lg4 ?_
      refine cp_if_lt (tgt := 54) O dX7_isAhead_41 (by decide) (fun c_41 => ?_) (fun c_41 => ?_)
      · have hah : cp_ah P p q = true := by
          rw [cp_ah_iff]
          simp only [e1, e2, e3, e4] at *
          omega
        refine cp_iconst O dX7_isAhead_54 (v := 1) rfl ?_
        refine cp_goto (tgt := 59) O dX7_isAhead_55 (by decide) ?_
        exact hr _ _ _ _ dX7_isAhead_59 (by rw [hah]; rfl) rfl
      · refine cp_iload O dX7_isAhead_44 cp_lg4 ?_
        refine cp_if_ne (tgt := 58) O dX7_isAhead_46 (by decide) (fun c_46 => ?_) (fun c_46 => ?_)
        · have hah : cp_ah P p q = false := by
            apply Bool.eq_false_iff.mpr
            rw [Ne, cp_ah_iff]
            simp only [e1, e2, e3, e4] at *
            omega
          refine cp_iconst O dX7_isAhead_58 (v := 0) rfl ?_
          exact hr _ _ _ _ dX7_isAhead_59 (by rw [hah]; rfl) rfl
        · refine cp_iload_n O dX7_isAhead_49 cp_lg1 ?_
          refine cp_iload_n O dX7_isAhead_50 cp_lg2 ?_
          refine cp_icmp_geN (tgt := 58) O dX7_isAhead_51 (by decide) (a := p) (b := q) h1 h2 (by omega) (by omega) (fun c_51 => ?_) (fun c_51 => ?_)
          · have hah : cp_ah P p q = false := by
              apply Bool.eq_false_iff.mpr
              rw [Ne, cp_ah_iff]
              simp only [e1, e2, e3, e4] at *
              omega
            refine cp_iconst O dX7_isAhead_58 (v := 0) rfl ?_
            exact hr _ _ _ _ dX7_isAhead_59 (by rw [hah]; rfl) rfl
          · have hah : cp_ah P p q = true := by
              rw [cp_ah_iff]
              simp only [e1, e2, e3, e4] at *
              omega
            refine cp_iconst O dX7_isAhead_54 (v := 1) rfl ?_
            refine cp_goto (tgt := 59) O dX7_isAhead_55 (by decide) ?_
            exact hr _ _ _ _ dX7_isAhead_59 (by rw [hah]; rfl) rfl
set_option maxHeartbeats 4000000 in
set_option maxRecDepth 100000 in
theorem c_X7_ranked {lc : Launch} {E : cp_En} {cnt : Nat} {sh : cp_Shp} {R : cp_Rem} {J : cp_Mem} {m : Nat} {f : Nat → Int32} {r : Nat → Nat → Int32} {a : Nat → Int32} (M : cp_ML sh R m) {n : Nat} {P : cp_PP} (hn24 : n ≤ 24) (hp : ∀ i, i < n → ∀ f, f < 9 → a (158 + 9 * i + f) = P i f) (hN : cp_PN n P) (h5 : a 5 = nI n) {v1 : Int32} {k : Nat} (h1 : v1 = nI k) (hk : k < 2 ^ 31) : cp_Fn lc E yX7_ranked cX7_ranked 5 (some .int) 2 [.ref m, .int v1] cnt sh (cp_ma J m f r a) R (some (.int (cp_o2i ((cp_so n P)[k]?)))) (cp_ma J m f r a) := by
  rw [← cp_rk_eq]
  refine cp_Fn_i [some (.ref m), some (.int v1), none, none, none] (by decide +kernel) (Nat.le_of_ble_eq_true rfl) rfl rfl (fun x hxl O hr => ?_)
  subst hxl
  refine cp_iconst O dX7_ranked_0 (v := 0) rfl ?_
  refine cp_istore_n O dX7_ranked_1 (by decide) (cp_ls2 rfl) ?_
  have loop2 : ∀ p, p ≤ n → (∀ j, j < p → (cp_fr P j && decide (cp_ac n P j = k)) = false) → cp_G x E 5 0 0 cnt sh (cp_ma J m f r a) R 2 [some (.ref m), some (.int v1), some (.int (nI p)), none, none] [] := by
    refine cp_up (fun p hpn ih hb => ?_)
    refine cp_iload_n O dX7_ranked_2 cp_lg2 ?_
    refine cp_aload_n O dX7_ranked_3 cp_lg0 ?_
    refine fg_X7_7 O M.s M.f0 dX7_ranked_4 ?_
    refine cp_iconst O dX7_ranked_7 (v := 5) rfl ?_
    refine cp_ialdA O M (j := 5) rfl (by omega) dX7_ranked_8 ?_
    refine cp_icmp_geN (tgt := 88) O dX7_ranked_9 (by decide) (a := p) (b := n) rfl h5 (by omega) (by omega) (fun c_9 => ?_) (fun c_9 => ?_)
    · refine cp_bipush O dX7_ranked_88 (v := (-6)) rfl ?_
      exact hr _ _ _ _ dX7_ranked_90 (cp_o2i_n (cp_fnd_n (fun j hj => hb j (by omega)))) rfl
    · refine cp_iconst O dX7_ranked_12 (v := 0) rfl ?_
      refine cp_istore_n O dX7_ranked_13 (by decide) (cp_ls3 rfl) ?_
      refine cp_iconst O dX7_ranked_14 (v := 0) rfl ?_
      refine cp_istore O dX7_ranked_15 (by decide) (cp_ls4 rfl) ?_
      have loop17 : ∀ o, o ≤ n → cp_G x E 5 0 0 cnt sh (cp_ma J m f r a) R 17 [some (.ref m), some (.int v1), some (.int (nI p)), some (.int (nI (cp_cnt (fun o => cp_fr P o && decide (o ≠ p) && cp_ah P o p) o))), some (.int (nI o))] [] := by
        refine cp_up (fun o hon ih2 => ?_)
        have hcl := cp_cnt_le (fun o => cp_fr P o && decide (o ≠ p) && cp_ah P o p) o
        refine cp_iload O dX7_ranked_17 cp_lg4 ?_
        refine cp_aload_n O dX7_ranked_19 cp_lg0 ?_
        refine fg_X7_7 O M.s M.f0 dX7_ranked_20 ?_
        refine cp_iconst O dX7_ranked_23 (v := 5) rfl ?_
        refine cp_ialdA O M (j := 5) rfl (by omega) dX7_ranked_24 ?_
        refine cp_icmp_geN (tgt := 67) O dX7_ranked_25 (by decide) (a := o) (b := n) rfl h5 (by omega) (by omega) (fun c_25 => ?_) (fun c_25 => ?_)
        · obtain rfl : n = o := by omega
          refine cp_aload_n O dX7_ranked_67 cp_lg0 ?_
          refine cp_iload_n O dX7_ranked_68 cp_lg2 ?_
          refine cp_cVi O me_X7_isFree mi_X7_isFree ml_X7_68 cp_cX7 M.s (c_X7_isFree (p := p) M hn24 hp rfl (by omega)) dX7_ranked_69 rfl rfl ⟨Nat.le_of_ble_eq_true rfl, Nat.le_of_ble_eq_true rfl⟩ ⟨Nat.le_refl _, Nat.le_refl _⟩ (Nat.le_of_ble_eq_true rfl) ?_
          refine cp_if_eqB (tgt := 82) O dX7_ranked_72 (by decide) (fun c_72 => ?_) (fun c_72 => ?_)
          · refine cp_iinc O dX7_ranked_82 cp_lg2 (cp_inc rfl) (by decide) (cp_ls2 rfl) ?_
            refine cp_goto (tgt := 2) O dX7_ranked_85 (by decide) ?_
            exact cp_Gw (cp_lws (cp_lws (cp_lws (cp_lwn (cp_lwn cp_lw0))))) (ih c_9 (cp_lts hb (by first | (rw [c_72]; rfl) | (rw [c_72, Bool.true_and]; exact decide_eq_false c_77))))
          · refine cp_iload_n O dX7_ranked_75 cp_lg3 ?_
            refine cp_iload_n O dX7_ranked_76 cp_lg1 ?_
            refine cp_icmp_neN (tgt := 82) O dX7_ranked_77 (by decide) (a := (cp_cnt (fun o => cp_fr P o && decide (o ≠ p) && cp_ah P o p) n)) (b := k) rfl h1 (by omega) (by omega) (fun c_77 => ?_) (fun c_77 => ?_)
            · refine cp_iinc O dX7_ranked_82 cp_lg2 (cp_inc rfl) (by decide) (cp_ls2 rfl) ?_
              refine cp_goto (tgt := 2) O dX7_ranked_85 (by decide) ?_
              exact cp_Gw (cp_lws (cp_lws (cp_lws (cp_lwn (cp_lwn cp_lw0))))) (ih c_9 (cp_lts hb (by first | (rw [c_72]; rfl) | (rw [c_72, Bool.true_and]; exact decide_eq_false c_77))))
            · have hfin : nI p = cp_o2i ((List.range n).find? (fun p => cp_fr P p && decide (cp_ac n P p = k))) := cp_o2i_s (cp_fnd_s c_9 (by rw [c_72, Bool.true_and]; exact decide_eq_true c_77) hb)
              refine cp_iload_n O dX7_ranked_80 cp_lg2 ?_
              exact hr _ _ _ _ dX7_ranked_81 hfin rfl
        · refine cp_iload_n O dX7_ranked_28 cp_lg3 ?_
          refine cp_aload_n O dX7_ranked_29 cp_lg0 ?_
          refine cp_iload O dX7_ranked_30 cp_lg4 ?_
          refine cp_cVi O me_X7_isFree mi_X7_isFree ml_X7_68 cp_cX7 M.s (c_X7_isFree (p := o) M hn24 hp rfl (by omega)) dX7_ranked_32 rfl rfl ⟨Nat.le_of_ble_eq_true rfl, Nat.le_of_ble_eq_true rfl⟩ ⟨Nat.le_refl _, Nat.le_refl _⟩ (Nat.le_of_ble_eq_true rfl) ?_
          refine cp_if_eqB (tgt := 58) O dX7_ranked_35 (by decide) (fun c_35 => ?_) (fun c_35 => ?_)
          · refine cp_iconst O dX7_ranked_58 (v := 0) rfl ?_
            refine cp_iadd O dX7_ranked_59 ?_
            refine cp_istore_n O dX7_ranked_60 (by decide) (cp_ls3 rfl) ?_
            refine cp_iinc O dX7_ranked_61 cp_lg4 (cp_inc rfl) (by decide) (cp_ls4 rfl) ?_
            refine cp_goto (tgt := 17) O dX7_ranked_64 (by decide) ?_
            first
              | (rw [cp_cnt_t (show (cp_fr P o && decide (o ≠ p) && cp_ah P o p) = true by rw [c_35, Bool.true_and, decide_eq_true c_41, c_51]; rfl)]; exact ih2 c_25)
              | (rw [cp_cnt_f (show (cp_fr P o && decide (o ≠ p) && cp_ah P o p) = false by first | (rw [c_35]; rfl) | (rw [c_41]; simp) | (rw [c_51]; simp))]; exact ih2 c_25)
          · refine cp_iload O dX7_ranked_38 cp_lg4 ?_
            refine cp_iload_n O dX7_ranked_40 cp_lg2 ?_
            refine cp_icmp_eqN (tgt := 58) O dX7_ranked_41 (by decide) (a := o) (b := p) rfl rfl (by omega) (by omega) (fun c_41 => ?_) (fun c_41 => ?_)
            · refine cp_iconst O dX7_ranked_58 (v := 0) rfl ?_
              refine cp_iadd O dX7_ranked_59 ?_
              refine cp_istore_n O dX7_ranked_60 (by decide) (cp_ls3 rfl) ?_
              refine cp_iinc O dX7_ranked_61 cp_lg4 (cp_inc rfl) (by decide) (cp_ls4 rfl) ?_
              refine cp_goto (tgt := 17) O dX7_ranked_64 (by decide) ?_
              first
                | (rw [cp_cnt_t (show (cp_fr P o && decide (o ≠ p) && cp_ah P o p) = true by rw [c_35, Bool.true_and, decide_eq_true c_41, c_51]; rfl)]; exact ih2 c_25)
                | (rw [cp_cnt_f (show (cp_fr P o && decide (o ≠ p) && cp_ah P o p) = false by first | (rw [c_35]; rfl) | (rw [c_41]; simp) | (rw [c_51]; simp))]; exact ih2 c_25)
            · refine cp_aload_n O dX7_ranked_44 cp_lg0 ?_
              refine cp_iload O dX7_ranked_45 cp_lg4 ?_
              refine cp_iload_n O dX7_ranked_47 cp_lg2 ?_
              refine cp_cVi O me_X7_isAhead mi_X7_isAhead ml_X7_72 cp_cX7 M.s (c_X7_isAhead (p := o) (q := p) M hn24 hp hN rfl rfl (by omega) (by omega)) dX7_ranked_48 rfl rfl ⟨Nat.le_of_ble_eq_true rfl, Nat.le_of_ble_eq_true rfl⟩ ⟨Nat.le_refl _, Nat.le_refl _⟩ (Nat.le_of_ble_eq_true rfl) ?_
              refine cp_if_eqB (tgt := 58) O dX7_ranked_51 (by decide) (fun c_51 => ?_) (fun c_51 => ?_)
              · refine cp_iconst O dX7_ranked_58 (v := 0) rfl ?_
                refine cp_iadd O dX7_ranked_59 ?_
                refine cp_istore_n O dX7_ranked_60 (by decide) (cp_ls3 rfl) ?_
                refine cp_iinc O dX7_ranked_61 cp_lg4 (cp_inc rfl) (by decide) (cp_ls4 rfl) ?_
                refine cp_goto (tgt := 17) O dX7_ranked_64 (by decide) ?_
                first
                  | (rw [cp_cnt_t (show (cp_fr P o && decide (o ≠ p) && cp_ah P o p) = true by rw [c_35, Bool.true_and, decide_eq_true c_41, c_51]; rfl)]; exact ih2 c_25)
                  | (rw [cp_cnt_f (show (cp_fr P o && decide (o ≠ p) && cp_ah P o p) = false by first | (rw [c_35]; rfl) | (rw [c_41]; simp) | (rw [c_51]; simp))]; exact ih2 c_25)
              · refine cp_iconst O dX7_ranked_54 (v := 1) rfl ?_
                refine cp_goto (tgt := 59) O dX7_ranked_55 (by decide) ?_
                refine cp_iadd O dX7_ranked_59 ?_
                refine cp_istore_n O dX7_ranked_60 (by decide) (cp_ls3 rfl) ?_
                refine cp_iinc O dX7_ranked_61 cp_lg4 (cp_inc rfl) (by decide) (cp_ls4 rfl) ?_
                refine cp_goto (tgt := 17) O dX7_ranked_64 (by decide) ?_
                first
                  | (rw [cp_cnt_t (show (cp_fr P o && decide (o ≠ p) && cp_ah P o p) = true by rw [c_35, Bool.true_and, decide_eq_true c_41, c_51]; rfl)]; exact ih2 c_25)
                  | (rw [cp_cnt_f (show (cp_fr P o && decide (o ≠ p) && cp_ah P o p) = false by first | (rw [c_35]; rfl) | (rw [c_41]; simp) | (rw [c_51]; simp))]; exact ih2 c_25)
      exact loop17 0 (Nat.zero_le _)
  exact cp_Gw (cp_lws (cp_lws (cp_lws (cp_lwn (cp_lwn cp_lw0))))) (loop2 0 (Nat.zero_le _) (fun j hj => absurd hj (by omega)))
