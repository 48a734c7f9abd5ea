/-- the history's shift, and a row that is put in at a place -/
def cp_h1 (h : Nat → Int32) (c : Nat) : Nat → Int32 := fun x => if x < c then h (x + 420) else h x
theorem cp_h1_0 (h : Nat → Int32) : cp_h1 h 0 = h := by funext x; unfold cp_h1; rw [if_neg (by omega)]
theorem cp_h1_s (h : Nat → Int32) (c : Nat) : upd (cp_h1 h c) c (cp_h1 h c (c + 420)) = cp_h1 h (c + 1) := by
  funext x
  unfold upd cp_h1
  by_cases e : x = c
  · subst e; rw [if_pos rfl, if_neg (by omega), if_pos (by omega)]
  · rw [if_neg e]
    by_cases g : x < c
    · rw [if_pos g, if_pos (by omega)]
    · rw [if_neg g, if_neg (by omega)]
def cp_h2 (h k : Nat → Int32) (o c : Nat) : Nat → Int32 := fun x => if o ≤ x ∧ x < o + c then k (x - o) else h x
theorem cp_h2_0 (h k : Nat → Int32) (o : Nat) : cp_h2 h k o 0 = h := by funext x; unfold cp_h2; rw [if_neg (by omega)]
theorem cp_h2_s (h k : Nat → Int32) (o c : Nat) : upd (cp_h2 h k o c) (o + c) (k c) = cp_h2 h k o (c + 1) := by
  funext x
  unfold upd cp_h2
  by_cases e : x = o + c
  · subst e; rw [if_pos rfl, if_pos (by omega)]; congr 1; omega
  · rw [if_neg e]
    by_cases g : o ≤ x ∧ x < o + c
    · rw [if_pos g, if_pos (by omega)]
    · rw [if_neg g, if_neg (by omega)]
theorem cp_h2_c4 (h k : Nat → Int32) : cp_h2 h k 0 420 = cp_c4 k h := by
  funext j
  unfold cp_h2 cp_c4
  by_cases g : j < 420
  · rw [if_pos (by omega), if_pos g]; rfl
  · rw [if_neg (by omega), if_neg g]
theorem cp_rr (r : cp_PP) {i k : Nat} (h h' : Nat → Int32) (v : Int32) (j : Nat) (e : upd h j v = h') : cp_wi (cp_row r k h) k j v = cp_row r k h' := by rw [cp_row_wi, e]
theorem cp_rr0 (r : cp_PP) (k : Nat) : cp_row r k (r k) = r := cp_row_self r k
theorem cp_uu (f : Nat → Int32) (k : Nat) (x y : Int32) : upd (upd f k x) k y = upd f k y := by funext q; unfold upd; by_cases h : q = k <;> simp [h]
theorem cp_c4_12 (r : cp_PP) : cp_cp420 r 1 2 420 = cp_row r 2 (cp_c4 (r 1) (r 2)) := by
  funext q j
  unfold cp_cp420 cp_row cp_c4
  by_cases h3 : q = 2
  · subst h3
    by_cases hj : j < 420 <;> simp [hj]
  · simp [h3]
set_option maxHeartbeats 4000000 in
set_option maxRecDepth 100000 in
theorem c_X7_ends_0 {lc : Launch} {E : cp_En} {cnt : Nat} {sh : cp_Shp} {R : cp_Rem} {J : cp_Mem} {m : Nat} {f : Nat → Int32} {r : Nat → Nat → Int32} (M : cp_ML sh R m) {v1 : Int32} (hv : v1 < 0) : cp_Fn lc E yX7_ends cX7_ends 3 (some .int) 0 [.ref m, .int v1] cnt sh (cp_mm J m f r) R (some (.int (v1))) (cp_mm J m f r) := by
  refine cp_Fn_i [some (.ref m), some (.int v1), none] (by decide +kernel) (Nat.le_of_ble_eq_true rfl) rfl rfl (fun x hxl O hr => ?_)
  subst hxl
  refine cp_iload_n O dX7_ends_0 cp_lg1 ?_
  refine cp_if_ge (tgt := 6) O dX7_ends_1 (by decide) (fun c_1 => ?_) (fun c_1 => ?_)
  · exact absurd hv (Int32.not_lt.mpr c_1)
  · refine cp_iload_n O dX7_ends_4 cp_lg1 ?_
    exact hr _ _ _ _ dX7_ends_5 rfl rfl
set_option maxHeartbeats 4000000 in
set_option maxRecDepth 100000 in
theorem c_X7_ends_6 {lc : Launch} {E : cp_En} {cnt : Nat} {sh : cp_Shp} {R : cp_Rem} {J : cp_Mem} {m : Nat} {f : Nat → Int32} {r : Nat → Nat → Int32} (M : cp_ML sh R m) {v1 : Int32} (hv : 0 ≤ v1) (h4 : f 4 = nI 6) : cp_Fr lc E yX7_ends cX7_ends 3 (some .int) 0 [.ref m, .int v1] cnt sh (cp_mm J m f r) R (some (.int (v1))) (fun I' => ∃ h', I' = cp_mm J m (upd f 4 (nI (5 + 1))) (cp_row r 4 h') ∧ (∀ x, x < 420 → h' (420 * 5 + x) = r 2 x) ∧ ∀ i, i < 5 → ∀ x, x < 420 → h' (420 * i + x) = r 4 (420 * (i + 1) + x)) := by
  refine cp_Fn_iR [some (.ref m), some (.int v1), none] (by decide +kernel) (Nat.le_of_ble_eq_true rfl) rfl rfl (fun x hxl O hr => ?_)
  subst hxl
  refine cp_iload_n O dX7_ends_0 cp_lg1 ?_
  refine cp_if_ge (tgt := 6) O dX7_ends_1 (by decide) (fun c_1 => ?_) (fun c_1 => ?_)
  · refine cp_aload_n O dX7_ends_6 cp_lg0 ?_
    refine mg_X7_31 O M dX7_ends_7 ?_
    refine cp_bipush O dX7_ends_10 (v := 6) rfl ?_
    refine cp_icmp_neN (tgt := 56) O dX7_ends_12 (by decide) (a := 6) (b := 6) h4 rfl (by omega) (by omega) (fun c_12 => ?_) (fun c_12 => ?_)
    · exact absurd rfl c_12
    · refine cp_iconst O dX7_ends_15 (v := 0) rfl ?_
      refine cp_istore_n O dX7_ends_16 (by decide) (cp_ls2 rfl) ?_
      have loop17 : ∀ c, c ≤ 2100 → cp_G x E 3 0 0 cnt sh (cp_mm J m f (cp_row r 4 (cp_h1 (r 4) c))) R 17 [some (.ref m), some (.int v1), some (.int (nI c))] [] := by
        refine cp_up (fun c hc ih => ?_)
        refine cp_iload_n O dX7_ends_17 cp_lg2 ?_
        refine cp_sipush O dX7_ends_18 (v := 2100) rfl ?_
        refine cp_icmp_geN (tgt := 46) O dX7_ends_21 (by decide) (a := c) (b := 2100) rfl rfl (by omega) (by omega) (fun c_21 => ?_) (fun c_21 => ?_)
        · obtain rfl : c = 2100 := by omega
          refine cp_aload_n O dX7_ends_46 cp_lg0 ?_
          refine cp_dup O dX7_ends_47 rfl ?_
          refine mg_X7_31 O M dX7_ends_48 ?_
          rw [h4]
          refine cp_iconst O dX7_ends_51 (v := 1) rfl ?_
          refine cp_isub O dX7_ends_52 ?_
          rw [show nI 6 - 1 = nI 5 from rfl]
          refine mp_X7_31 O M dX7_ends_53 ?_
          refine cp_iconst O dX7_ends_56 (v := 0) rfl ?_
          refine cp_istore_n O dX7_ends_57 (by decide) (cp_ls2 rfl) ?_
          have loop58 : ∀ c, c ≤ 420 → cp_G x E 3 0 0 cnt sh (cp_mm J m (upd f 4 (nI 5)) (cp_row r 4 (cp_h2 (cp_h1 (r 4) 2100) (r 2) (420 * 5) c))) R 58 [some (.ref m), some (.int v1), some (.int (nI c))] [] := by
            refine cp_up (fun c hc ih => ?_)
            refine cp_iload_n O dX7_ends_58 cp_lg2 ?_
            refine cp_sipush O dX7_ends_59 (v := 420) rfl ?_
            refine cp_icmp_geN (tgt := 92) O dX7_ends_62 (by decide) (a := c) (b := 420) rfl rfl (by omega) (by omega) (fun c_62 => ?_) (fun c_62 => ?_)
            · refine cp_aload_n O dX7_ends_92 cp_lg0 ?_
              refine cp_dup O dX7_ends_93 rfl ?_
              refine mg_X7_31 O M dX7_ends_94 ?_
              refine cp_iconst O dX7_ends_97 (v := 1) rfl ?_
              refine cp_iadd O dX7_ends_98 ?_
              rw [cp_upd_s]
              refine mp_X7_31 O M dX7_ends_99 ?_
              obtain rfl : c = 420 := by omega
              refine cp_iload_n O dX7_ends_102 cp_lg1 ?_
              exact hr _ _ _ _ dX7_ends_103 rfl ⟨_, by rw [cp_uu]; rfl, fun x hx => by unfold cp_h2; rw [if_pos (by omega)]; congr 1; omega, fun i hi x hx => by unfold cp_h2; rw [if_neg (by omega)]; unfold cp_h1; rw [if_pos (by omega)]; congr 1; omega⟩
            · refine cp_aload_n O dX7_ends_65 cp_lg0 ?_
              refine fg_X7_19 O M.s M.f3 dX7_ends_66 ?_
              refine cp_sipush O dX7_ends_69 (v := 420) rfl ?_
              refine cp_aload_n O dX7_ends_72 cp_lg0 ?_
              refine mg_X7_31 O M dX7_ends_73 ?_
              refine cp_imul O dX7_ends_76 ?_
              refine cp_iload_n O dX7_ends_77 cp_lg2 ?_
              refine cp_iadd O dX7_ends_78 ?_
              refine cp_aload_n O dX7_ends_79 cp_lg0 ?_
              refine fg_X7_13 O M.s M.f1 dX7_ends_80 ?_
              refine cp_iload_n O dX7_ends_83 cp_lg2 ?_
              refine cp_ialdM (k := 2) O M.s1 (by decide) (j := c) rfl (by omega) (by decide) dX7_ends_84 ?_
              refine cp_iastM (k := 4) O M.s3 (by decide) (j := ((420 * 5) + c)) (cp_ad (cp_mu rfl cp_upd_s) rfl) (by omega) (by decide) dX7_ends_85 ?_
              refine cp_iinc O dX7_ends_86 cp_lg2 (cp_inc rfl) (by decide) (cp_ls2 rfl) ?_
              refine cp_goto (tgt := 58) O dX7_ends_89 (by decide) ?_
              rw [cp_row_n r _ (show 2 ≠ 4 by decide), cp_row_wi, cp_h2_s]
              exact ih c_62
          have l0 := loop58 0 (Nat.zero_le _)
          rw [cp_h2_0] at l0
          exact l0
        · refine cp_aload_n O dX7_ends_24 cp_lg0 ?_
          refine fg_X7_19 O M.s M.f3 dX7_ends_25 ?_
          refine cp_iload_n O dX7_ends_28 cp_lg2 ?_
          refine cp_aload_n O dX7_ends_29 cp_lg0 ?_
          refine fg_X7_19 O M.s M.f3 dX7_ends_30 ?_
          refine cp_iload_n O dX7_ends_33 cp_lg2 ?_
          refine cp_sipush O dX7_ends_34 (v := 420) rfl ?_
          refine cp_iadd O dX7_ends_37 ?_
          refine cp_ialdM (k := 4) O M.s3 (by decide) (j := (c + 420)) (cp_ad rfl rfl) (by omega) (by decide) dX7_ends_38 ?_
          refine cp_iastM (k := 4) O M.s3 (by decide) (j := c) rfl (by omega) (by decide) dX7_ends_39 ?_
          refine cp_iinc O dX7_ends_40 cp_lg2 (cp_inc rfl) (by decide) (cp_ls2 rfl) ?_
          refine cp_goto (tgt := 17) O dX7_ends_43 (by decide) ?_
          rw [cp_row_s, cp_row_wi, cp_h1_s]
          exact ih c_21
      have l0 := loop17 0 (Nat.zero_le _)
      rw [cp_h1_0, cp_row_self] at l0
      exact l0
  · exact absurd hv c_1
set_option maxHeartbeats 4000000 in
set_option maxRecDepth 100000 in
theorem c_X7_ends_1 {lc : Launch} {E : cp_En} {cnt : Nat} {sh : cp_Shp} {R : cp_Rem} {J : cp_Mem} {m : Nat} {f : Nat → Int32} {r : Nat → Nat → Int32} (M : cp_ML sh R m) {v1 : Int32} (hv : 0 ≤ v1) {L : Nat} (h4 : f 4 = nI L) (hL : L < 6) : cp_Fr lc E yX7_ends cX7_ends 3 (some .int) 0 [.ref m, .int v1] cnt sh (cp_mm J m f r) R (some (.int (v1))) (fun I' => ∃ h', I' = cp_mm J m (upd f 4 (nI (L + 1))) (cp_row r 4 h') ∧ (∀ x, x < 420 → h' (420 * L + x) = r 2 x) ∧ ∀ i, i < L → ∀ x, x < 420 → h' (420 * i + x) = r 4 (420 * i + x)) := by
  refine cp_Fn_iR [some (.ref m), some (.int v1), none] (by decide +kernel) (Nat.le_of_ble_eq_true rfl) rfl rfl (fun x hxl O hr => ?_)
  subst hxl
  refine cp_iload_n O dX7_ends_0 cp_lg1 ?_
  refine cp_if_ge (tgt := 6) O dX7_ends_1 (by decide) (fun c_1 => ?_) (fun c_1 => ?_)
  · refine cp_aload_n O dX7_ends_6 cp_lg0 ?_
    refine mg_X7_31 O M dX7_ends_7 ?_
    refine cp_bipush O dX7_ends_10 (v := 6) rfl ?_
    refine cp_icmp_neN (tgt := 56) O dX7_ends_12 (by decide) (a := L) (b := 6) h4 rfl (by omega) (by omega) (fun c_12 => ?_) (fun c_12 => ?_)
    · refine cp_iconst O dX7_ends_56 (v := 0) rfl ?_
      refine cp_istore_n O dX7_ends_57 (by decide) (cp_ls2 rfl) ?_
      have loop58 : ∀ c, c ≤ 420 → cp_G x E 3 0 0 cnt sh (cp_mm J m f (cp_row r 4 (cp_h2 (r 4) (r 2) (420 * L) c))) R 58 [some (.ref m), some (.int v1), some (.int (nI c))] [] := by
        refine cp_up (fun c hc ih => ?_)
        refine cp_iload_n O dX7_ends_58 cp_lg2 ?_
        refine cp_sipush O dX7_ends_59 (v := 420) rfl ?_
        refine cp_icmp_geN (tgt := 92) O dX7_ends_62 (by decide) (a := c) (b := 420) rfl rfl (by omega) (by omega) (fun c_62 => ?_) (fun c_62 => ?_)
        · refine cp_aload_n O dX7_ends_92 cp_lg0 ?_
          refine cp_dup O dX7_ends_93 rfl ?_
          refine mg_X7_31 O M dX7_ends_94 ?_
          refine cp_iconst O dX7_ends_97 (v := 1) rfl ?_
          refine cp_iadd O dX7_ends_98 ?_
          rw [h4, nI_1]
          refine mp_X7_31 O M dX7_ends_99 ?_
          obtain rfl : c = 420 := by omega
          refine cp_iload_n O dX7_ends_102 cp_lg1 ?_
          exact hr _ _ _ _ dX7_ends_103 rfl ⟨_, rfl, fun x hx => by unfold cp_h2; rw [if_pos (by omega)]; congr 1; omega, fun i hi x hx => by unfold cp_h2; rw [if_neg (by omega)]⟩
        · refine cp_aload_n O dX7_ends_65 cp_lg0 ?_
          refine fg_X7_19 O M.s M.f3 dX7_ends_66 ?_
          refine cp_sipush O dX7_ends_69 (v := 420) rfl ?_
          refine cp_aload_n O dX7_ends_72 cp_lg0 ?_
          refine mg_X7_31 O M dX7_ends_73 ?_
          refine cp_imul O dX7_ends_76 ?_
          refine cp_iload_n O dX7_ends_77 cp_lg2 ?_
          refine cp_iadd O dX7_ends_78 ?_
          refine cp_aload_n O dX7_ends_79 cp_lg0 ?_
          refine fg_X7_13 O M.s M.f1 dX7_ends_80 ?_
          refine cp_iload_n O dX7_ends_83 cp_lg2 ?_
          refine cp_ialdM (k := 2) O M.s1 (by decide) (j := c) rfl (by omega) (by decide) dX7_ends_84 ?_
          refine cp_iastM (k := 4) O M.s3 (by decide) (j := ((420 * L) + c)) (cp_ad (cp_mu rfl h4) rfl) (by omega) (by decide) dX7_ends_85 ?_
          refine cp_iinc O dX7_ends_86 cp_lg2 (cp_inc rfl) (by decide) (cp_ls2 rfl) ?_
          refine cp_goto (tgt := 58) O dX7_ends_89 (by decide) ?_
          rw [cp_row_n r _ (show 2 ≠ 4 by decide), cp_row_wi, cp_h2_s]
          exact ih c_62
      have l0 := loop58 0 (Nat.zero_le _)
      rw [cp_h2_0, cp_row_self] at l0
      exact l0
    · exact absurd c_12 (by omega)
  · exact absurd hv c_1
theorem c_X7_ends_p {lc : Launch} {E : cp_En} {cnt : Nat} {sh : cp_Shp} {R : cp_Rem} {J : cp_Mem} {m : Nat} {f : Nat → Int32} {r : Nat → Nat → Int32} (M : cp_ML sh R m) {v1 : Int32} {L : Nat} (hv : 0 ≤ v1) (h4 : f 4 = nI L) (hL : L ≤ 6) : cp_Fr lc E yX7_ends cX7_ends 3 (some .int) 0 [.ref m, .int v1] cnt sh (cp_mm J m f r) R (some (.int v1)) (fun I' => ∃ h', I' = cp_mm J m (upd f 4 (nI ((if L = 6 then 5 else L) + 1))) (cp_row r 4 h') ∧ (∀ x, x < 420 → h' (420 * (if L = 6 then 5 else L) + x) = r 2 x) ∧ ∀ i, i < (if L = 6 then 5 else L) → ∀ x, x < 420 → h' (420 * i + x) = r 4 (420 * (i + (if L = 6 then 1 else 0)) + x)) := by
  by_cases h : L = 6
  · subst h
    exact c_X7_ends_6 M hv h4
  · have g := c_X7_ends_1 (lc := lc) (E := E) (cnt := cnt) (J := J) (r := r) M hv h4 (by omega)
    refine cp_Fr_mono g rfl fun I' hI => ?_
    obtain ⟨h', e, h1, h2⟩ := hI
    rw [if_neg h, if_neg h]
    exact ⟨h', e, h1, h2⟩
set_option maxHeartbeats 4000000 in
set_option maxRecDepth 100000 in
theorem c_X7_undo_1 {lc : Launch} {E : cp_En} {cnt : Nat} {sh : cp_Shp} {R : cp_Rem} {J : cp_Mem} {m : Nat} {f : Nat → Int32} {r : Nat → Nat → Int32} (M : cp_ML sh R m) {L : Nat} (h4 : f 4 = nI L) (hL : L ≤ 6) (h0 : 0 < L) : cp_Fn lc E yX7_undo cX7_undo 2 (some .int) 0 [.ref m] cnt sh (cp_mm J m f r) R (some (.int (nI (L - 1)))) (cp_mm J m (upd f 4 (nI (L - 1))) (cp_row r 1 (cp_c4 (fun j => r 4 (420 * (L - 1) + j)) (r 1)))) := by
  refine cp_Fn_i [some (.ref m), none] (by decide +kernel) (Nat.le_of_ble_eq_true rfl) rfl rfl (fun x hxl O hr => ?_)
  subst hxl
  refine cp_aload_n O dX7_undo_0 cp_lg0 ?_
  refine mg_X7_31 O M dX7_undo_1 ?_
  rw [h4]
  refine cp_if_ne (tgt := 10) O dX7_undo_4 (by decide) (fun c_4 => ?_) (fun c_4 => ?_)
  · refine cp_aload_n O dX7_undo_10 cp_lg0 ?_
    refine cp_dup O dX7_undo_11 rfl ?_
    refine mg_X7_31 O M dX7_undo_12 ?_
    rw [h4]
    refine cp_iconst O dX7_undo_15 (v := 1) rfl ?_
    refine cp_isub O dX7_undo_16 ?_
    rw [show nI L - 1 = nI (L - 1) from pk_sub (b := 1) h0]
    refine mp_X7_31 O M dX7_undo_17 ?_
    refine cp_iconst O dX7_undo_20 (v := 0) rfl ?_
    refine cp_istore_n O dX7_undo_21 (by decide) (cp_ls1 rfl) ?_
    have loop22 : ∀ c, c ≤ 420 → cp_G x E 2 0 0 cnt sh (cp_mm J m (upd f 4 (nI (L - 1))) (cp_row r 1 (cp_h2 (r 1) (fun j => r 4 (420 * (L - 1) + j)) 0 c))) R 22 [some (.ref m), some (.int (nI c))] [] := by
      refine cp_up (fun c hc ih => ?_)
      refine cp_iload_n O dX7_undo_22 cp_lg1 ?_
      refine cp_sipush O dX7_undo_23 (v := 420) rfl ?_
      refine cp_icmp_geN (tgt := 56) O dX7_undo_26 (by decide) (a := c) (b := 420) rfl rfl (by omega) (by omega) (fun c_26 => ?_) (fun c_26 => ?_)
      · refine cp_aload_n O dX7_undo_56 cp_lg0 ?_
        refine mg_X7_31 O M dX7_undo_57 ?_
        exact hr _ _ _ _ dX7_undo_60 cp_upd_s (by rw [show c = 420 by omega]; rw [cp_h2_c4])
      · refine cp_aload_n O dX7_undo_29 cp_lg0 ?_
        refine fg_X7_7 O M.s M.f0 dX7_undo_30 ?_
        refine cp_iload_n O dX7_undo_33 cp_lg1 ?_
        refine cp_aload_n O dX7_undo_34 cp_lg0 ?_
        refine fg_X7_19 O M.s M.f3 dX7_undo_35 ?_
        refine cp_sipush O dX7_undo_38 (v := 420) rfl ?_
        refine cp_aload_n O dX7_undo_41 cp_lg0 ?_
        refine mg_X7_31 O M dX7_undo_42 ?_
        refine cp_imul O dX7_undo_45 ?_
        refine cp_iload_n O dX7_undo_46 cp_lg1 ?_
        refine cp_iadd O dX7_undo_47 ?_
        refine cp_ialdM (k := 4) O M.s3 (by decide) (j := ((420 * (L - 1)) + c)) (cp_ad (cp_mu rfl cp_upd_s) rfl) (by omega) (by decide) dX7_undo_48 ?_
        refine cp_iastM (k := 1) O M.s0 (by decide) (j := c) rfl (by omega) (by decide) dX7_undo_49 ?_
        refine cp_iinc O dX7_undo_50 cp_lg1 (cp_inc rfl) (by decide) (cp_ls1 rfl) ?_
        refine cp_goto (tgt := 22) O dX7_undo_53 (by decide) ?_
        rw [cp_row_n r _ (show 4 ≠ 1 by decide)]
        have hs := cp_h2_s (r 1) (fun j => r 4 (420 * (L - 1) + j)) 0 c
        rw [Nat.zero_add] at hs
        rw [cp_row_wi, hs]
        exact ih c_26
    have l0 := loop22 0 (Nat.zero_le _)
    rw [cp_h2_0, cp_row_self] at l0
    exact l0
  · exact absurd c_4 (nI_ne0 h0 (by omega))
set_option maxHeartbeats 4000000 in
set_option maxRecDepth 100000 in
theorem c_X7_undo_0 {lc : Launch} {E : cp_En} {cnt : Nat} {sh : cp_Shp} {R : cp_Rem} {J : cp_Mem} {m : Nat} {f : Nat → Int32} {r : Nat → Nat → Int32} (M : cp_ML sh R m) (h4 : f 4 = nI 0) : cp_Fn lc E yX7_undo cX7_undo 2 (some .int) 0 [.ref m] cnt sh (cp_mm J m f r) R (some (.int (-5))) (cp_mm J m f r) := by
  refine cp_Fn_i [some (.ref m), none] (by decide +kernel) (Nat.le_of_ble_eq_true rfl) rfl rfl (fun x hxl O hr => ?_)
  subst hxl
  refine cp_aload_n O dX7_undo_0 cp_lg0 ?_
  refine mg_X7_31 O M dX7_undo_1 ?_
  rw [h4]
  refine cp_if_ne (tgt := 10) O dX7_undo_4 (by decide) (fun c_4 => ?_) (fun c_4 => ?_)
  · exact absurd rfl c_4
  · refine cp_bipush O dX7_undo_7 (v := (-5)) rfl ?_
    exact hr _ _ _ _ dX7_undo_9 rfl rfl
set_option maxHeartbeats 4000000 in
set_option maxRecDepth 100000 in
theorem c_X7_save_0 {lc : Launch} {E : cp_En} {cnt : Nat} {sh : cp_Shp} {R : cp_Rem} {J : cp_Mem} {m : Nat} {f : Nat → Int32} {r : Nat → Nat → Int32} (M : cp_ML sh R m) {v1 : Int32} (hv : cp_rg 0 1 v1 = false) : cp_Fn lc E yX7_save cX7_save 3 (some .int) 1 [.ref m, .int v1] cnt sh (cp_mm J m f r) R (some (.int (-2))) (cp_mm J m f r) := by
  refine cp_Fn_i [some (.ref m), some (.int v1), none] (by decide +kernel) (Nat.le_of_ble_eq_true rfl) rfl rfl (fun x hxl O hr => ?_)
  subst hxl
  refine cp_iload_n O dX7_save_0 cp_lg1 ?_
  refine cp_i2l O dX7_save_1 ?_
  refine cp_lconst O dX7_save_2 (v := 0) rfl ?_
  refine cp_lconst O dX7_save_3 (v := 1) rfl ?_
  refine cp_cSi O me_X7_in ms_X7_in ml_X7_35 (c_X7_in) dX7_save_4 rfl rfl ⟨Nat.le_of_ble_eq_true rfl, Nat.le_of_ble_eq_true rfl⟩ ⟨Nat.le_refl _, Nat.le_refl _⟩ (Nat.le_of_ble_eq_true rfl) ?_
  rw [cp_in_rg (l := 0) (h := 1) rfl rfl]
  refine cp_if_neB (tgt := 13) O dX7_save_7 (by decide) (fun c_7 => ?_) (fun c_7 => ?_)
  · exact absurd c_7 (by rw [hv]; decide)
  · refine cp_bipush O dX7_save_10 (v := (-2)) rfl ?_
    exact hr _ _ _ _ dX7_save_12 rfl rfl
set_option maxHeartbeats 4000000 in
set_option maxRecDepth 100000 in
theorem c_X7_save_1 {lc : Launch} {E : cp_En} {cnt : Nat} {sh : cp_Shp} {R : cp_Rem} {J : cp_Mem} {m : Nat} {f : Nat → Int32} {r : Nat → Nat → Int32} (M : cp_ML sh R m) {s : Nat} (hs : s ≤ 1) : cp_Fn lc E yX7_save cX7_save 3 (some .int) 1 [.ref m, .int (nI s)] cnt sh (cp_mm J m f r) R (some (.int (r 1 5))) (cp_mm J m f (cp_wi (cp_row r 5 (cp_h2 (r 5) (r 1) (420 * s) 420)) 6 s 1)) := by
  refine cp_Fn_i [some (.ref m), some (.int (nI s)), none] (by decide +kernel) (Nat.le_of_ble_eq_true rfl) rfl rfl (fun x hxl O hr => ?_)
  subst hxl
  refine cp_iload_n O dX7_save_0 cp_lg1 ?_
  refine cp_i2l O dX7_save_1 ?_
  refine cp_lconst O dX7_save_2 (v := 0) rfl ?_
  refine cp_lconst O dX7_save_3 (v := 1) rfl ?_
  refine cp_cSi O me_X7_in ms_X7_in ml_X7_35 (c_X7_in) dX7_save_4 rfl rfl ⟨Nat.le_of_ble_eq_true rfl, Nat.le_of_ble_eq_true rfl⟩ ⟨Nat.le_refl _, Nat.le_refl _⟩ (Nat.le_of_ble_eq_true rfl) ?_
  rw [cp_in_rg (l := 0) (h := 1) rfl rfl]
  refine cp_if_neB (tgt := 13) O dX7_save_7 (by decide) (fun c_7 => ?_) (fun c_7 => ?_)
  · refine cp_iconst O dX7_save_13 (v := 0) rfl ?_
    refine cp_istore_n O dX7_save_14 (by decide) (cp_ls2 rfl) ?_
    have loop15 : ∀ c, c ≤ 420 → cp_G x E 3 0 0 cnt sh (cp_mm J m f (cp_row r 5 (cp_h2 (r 5) (r 1) (420 * s) c))) R 15 [some (.ref m), some (.int (nI s)), some (.int (nI c))] [] := by
      refine cp_up (fun c hc ih => ?_)
      refine cp_iload_n O dX7_save_15 cp_lg2 ?_
      refine cp_sipush O dX7_save_16 (v := 420) rfl ?_
      refine cp_icmp_geN (tgt := 46) O dX7_save_19 (by decide) (a := c) (b := 420) rfl rfl (by omega) (by omega) (fun c_19 => ?_) (fun c_19 => ?_)
      · obtain rfl : c = 420 := by omega
        refine cp_aload_n O dX7_save_46 cp_lg0 ?_
        refine fg_X7_25 O M.s M.f6 dX7_save_47 ?_
        refine cp_iload_n O dX7_save_50 cp_lg1 ?_
        refine cp_iconst O dX7_save_51 (v := 1) rfl ?_
        refine cp_iastM (k := 6) O M.s6 (by decide) (j := s) rfl (by omega) (by decide) dX7_save_52 ?_
        refine cp_aload_n O dX7_save_53 cp_lg0 ?_
        refine fg_X7_7 O M.s M.f0 dX7_save_54 ?_
        refine cp_iconst O dX7_save_57 (v := 5) rfl ?_
        refine cp_ialdM (k := 1) O M.s0 (by decide) (j := 5) rfl (by omega) (by decide) dX7_save_58 ?_
        exact hr _ _ _ _ dX7_save_59 (by rw [cp_wi_j _ _ _ _ (fun z => absurd z.1 (by decide)), cp_row_n r _ (by decide)]) rfl
      · refine cp_aload_n O dX7_save_22 cp_lg0 ?_
        refine fg_X7_22 O M.s M.f5 dX7_save_23 ?_
        refine cp_sipush O dX7_save_26 (v := 420) rfl ?_
        refine cp_iload_n O dX7_save_29 cp_lg1 ?_
        refine cp_imul O dX7_save_30 ?_
        refine cp_iload_n O dX7_save_31 cp_lg2 ?_
        refine cp_iadd O dX7_save_32 ?_
        refine cp_aload_n O dX7_save_33 cp_lg0 ?_
        refine fg_X7_7 O M.s M.f0 dX7_save_34 ?_
        refine cp_iload_n O dX7_save_37 cp_lg2 ?_
        refine cp_ialdM (k := 1) O M.s0 (by decide) (j := c) rfl (by omega) (by decide) dX7_save_38 ?_
        refine cp_iastM (k := 5) O M.s5 (by decide) (j := ((420 * s) + c)) (cp_ad (cp_mu rfl rfl) rfl) (by omega) (by decide) dX7_save_39 ?_
        refine cp_iinc O dX7_save_40 cp_lg2 (cp_inc rfl) (by decide) (cp_ls2 rfl) ?_
        refine cp_goto (tgt := 15) O dX7_save_43 (by decide) ?_
        rw [cp_row_n r _ (show 1 ≠ 5 by decide), cp_row_wi, cp_h2_s]
        exact ih c_19
    have l0 := loop15 0 (Nat.zero_le _)
    rw [cp_h2_0, cp_row_self] at l0
    exact l0
  · exact (cp_rg_no (l := 0) (h := 1) c_7 s (by omega) (by omega) (by omega) rfl).elim
set_option maxHeartbeats 4000000 in
set_option maxRecDepth 100000 in
theorem c_X7_restore_0 {lc : Launch} {E : cp_En} {cnt : Nat} {sh : cp_Shp} {R : cp_Rem} {J : cp_Mem} {m : Nat} {f : Nat → Int32} {r : Nat → Nat → Int32} (M : cp_ML sh R m) {v1 : Int32} (hv : cp_rg 0 1 v1 = false) : cp_Fn lc E yX7_restore cX7_restore 3 (some .int) 2 [.ref m, .int v1] cnt sh (cp_mm J m f r) R (some (.int (-2))) (cp_mm J m f r) := by
  refine cp_Fn_i [some (.ref m), some (.int v1), none] (by decide +kernel) (Nat.le_of_ble_eq_true rfl) rfl rfl (fun x hxl O hr => ?_)
  subst hxl
  refine cp_iload_n O dX7_restore_0 cp_lg1 ?_
  refine cp_i2l O dX7_restore_1 ?_
  refine cp_lconst O dX7_restore_2 (v := 0) rfl ?_
  refine cp_lconst O dX7_restore_3 (v := 1) rfl ?_
  refine cp_cSi O me_X7_in ms_X7_in ml_X7_35 (c_X7_in) dX7_restore_4 rfl rfl ⟨Nat.le_of_ble_eq_true rfl, Nat.le_of_ble_eq_true rfl⟩ ⟨Nat.le_refl _, Nat.le_refl _⟩ (Nat.le_of_ble_eq_true rfl) ?_
  rw [cp_in_rg (l := 0) (h := 1) rfl rfl]
  refine cp_if_neB (tgt := 13) O dX7_restore_7 (by decide) (fun c_7 => ?_) (fun c_7 => ?_)
  · exact absurd c_7 (by rw [hv]; decide)
  · refine cp_bipush O dX7_restore_10 (v := (-2)) rfl ?_
    exact hr _ _ _ _ dX7_restore_12 rfl rfl
set_option maxHeartbeats 4000000 in
set_option maxRecDepth 100000 in
theorem c_X7_restore_1 {lc : Launch} {E : cp_En} {cnt : Nat} {sh : cp_Shp} {R : cp_Rem} {J : cp_Mem} {m : Nat} {f : Nat → Int32} {r : Nat → Nat → Int32} (M : cp_ML sh R m) {s : Nat} (hs : s ≤ 1) (h6 : r 6 s = 0) : cp_Fn lc E yX7_restore cX7_restore 3 (some .int) 2 [.ref m, .int (nI s)] cnt sh (cp_mm J m f r) R (some (.int (-5))) (cp_mm J m f r) := by
  refine cp_Fn_i [some (.ref m), some (.int (nI s)), none] (by decide +kernel) (Nat.le_of_ble_eq_true rfl) rfl rfl (fun x hxl O hr => ?_)
  subst hxl
  refine cp_iload_n O dX7_restore_0 cp_lg1 ?_
  refine cp_i2l O dX7_restore_1 ?_
  refine cp_lconst O dX7_restore_2 (v := 0) rfl ?_
  refine cp_lconst O dX7_restore_3 (v := 1) rfl ?_
  refine cp_cSi O me_X7_in ms_X7_in ml_X7_35 (c_X7_in) dX7_restore_4 rfl rfl ⟨Nat.le_of_ble_eq_true rfl, Nat.le_of_ble_eq_true rfl⟩ ⟨Nat.le_refl _, Nat.le_refl _⟩ (Nat.le_of_ble_eq_true rfl) ?_
  rw [cp_in_rg (l := 0) (h := 1) rfl rfl]
  refine cp_if_neB (tgt := 13) O dX7_restore_7 (by decide) (fun c_7 => ?_) (fun c_7 => ?_)
  · refine cp_aload_n O dX7_restore_13 cp_lg0 ?_
    refine fg_X7_25 O M.s M.f6 dX7_restore_14 ?_
    refine cp_iload_n O dX7_restore_17 cp_lg1 ?_
    refine cp_ialdM (k := 6) O M.s6 (by decide) (j := s) rfl (by omega) (by decide) dX7_restore_18 ?_
    refine cp_if_ne (tgt := 25) O dX7_restore_19 (by decide) (fun c_19 => ?_) (fun c_19 => ?_)
    · exact absurd h6 c_19
    · refine cp_bipush O dX7_restore_22 (v := (-5)) rfl ?_
      exact hr _ _ _ _ dX7_restore_24 rfl rfl
  · exact (cp_rg_no (l := 0) (h := 1) c_7 s (by omega) (by omega) (by omega) rfl).elim
set_option maxHeartbeats 4000000 in
set_option maxRecDepth 100000 in
theorem c_X7_restore_2 {lc : Launch} {E : cp_En} {cnt : Nat} {sh : cp_Shp} {R : cp_Rem} {J : cp_Mem} {m : Nat} {f : Nat → Int32} {r : Nat → Nat → Int32} (M : cp_ML sh R m) {s L : Nat} (hs : s ≤ 1) (h6 : r 6 s = 1) (h4 : f 4 = nI L) (hL : L ≤ 6) (h5 : 0 ≤ r 5 (420 * s + 5)) : cp_Fr lc E yX7_restore cX7_restore 3 (some .int) 2 [.ref m, .int (nI s)] cnt sh (cp_mm J m f r) R (some (.int (r 5 (420 * s + 5)))) (fun I' => ∃ h', I' = cp_mm J m (upd f 4 (nI ((if L = 6 then 5 else L) + 1))) (cp_row (cp_row (cp_row r 2 (cp_c4 (r 1) (r 2))) 1 (cp_c4 (fun j => r 5 (420 * s + j)) (r 1))) 4 h') ∧ (∀ x, x < 420 → h' (420 * (if L = 6 then 5 else L) + x) = r 1 x) ∧ ∀ i, i < (if L = 6 then 5 else L) → ∀ x, x < 420 → h' (420 * i + x) = r 4 (420 * (i + (if L = 6 then 1 else 0)) + x)) := by
  refine cp_Fn_iR [some (.ref m), some (.int (nI s)), none] (by decide +kernel) (Nat.le_of_ble_eq_true rfl) rfl rfl (fun x hxl O hr => ?_)
  subst hxl
  refine cp_iload_n O dX7_restore_0 cp_lg1 ?_
  refine cp_i2l O dX7_restore_1 ?_
  refine cp_lconst O dX7_restore_2 (v := 0) rfl ?_
  refine cp_lconst O dX7_restore_3 (v := 1) rfl ?_
  refine cp_cSi O me_X7_in ms_X7_in ml_X7_35 (c_X7_in) dX7_restore_4 rfl rfl ⟨Nat.le_of_ble_eq_true rfl, Nat.le_of_ble_eq_true rfl⟩ ⟨Nat.le_refl _, Nat.le_refl _⟩ (Nat.le_of_ble_eq_true rfl) ?_
  rw [cp_in_rg (l := 0) (h := 1) rfl rfl]
  refine cp_if_neB (tgt := 13) O dX7_restore_7 (by decide) (fun c_7 => ?_) (fun c_7 => ?_)
  · refine cp_aload_n O dX7_restore_13 cp_lg0 ?_
    refine fg_X7_25 O M.s M.f6 dX7_restore_14 ?_
    refine cp_iload_n O dX7_restore_17 cp_lg1 ?_
    refine cp_ialdM (k := 6) O M.s6 (by decide) (j := s) rfl (by omega) (by decide) dX7_restore_18 ?_
    rw [h6]
    refine cp_if_ne (tgt := 25) O dX7_restore_19 (by decide) (fun c_19 => ?_) (fun c_19 => ?_)
    · refine cp_aload_n O dX7_restore_25 cp_lg0 ?_
      refine fg_X7_7 O M.s M.f0 dX7_restore_26 ?_
      refine cp_aload_n O dX7_restore_29 cp_lg0 ?_
      refine fg_X7_13 O M.s M.f1 dX7_restore_30 ?_
      refine cp_cSv O me_X7_copy ms_X7_copy ml_X7_139 (cp_Fn_eq (c_X7_copy (i := 1) (k := 2) (r := r) (by decide) (by decide) (by decide) M.s0 M.s1) rfl (by rw [cp_c4_12])) dX7_restore_33 rfl rfl ⟨Nat.le_of_ble_eq_true rfl, Nat.le_of_ble_eq_true rfl⟩ ⟨Nat.le_refl _, Nat.le_refl _⟩ (Nat.le_of_ble_eq_true rfl) ?_
      refine cp_iconst O dX7_restore_36 (v := 0) rfl ?_
      refine cp_istore_n O dX7_restore_37 (by decide) (cp_ls2 rfl) ?_
      have loop38 : ∀ c, c ≤ 420 → cp_G x E 3 0 0 cnt sh (cp_mm J m f (cp_row (cp_row r 2 (cp_c4 (r 1) (r 2))) 1 (cp_h2 (r 1) (fun j => r 5 (420 * s + j)) 0 c))) R 38 [some (.ref m), some (.int (nI s)), some (.int (nI c))] [] := by
        refine cp_up (fun c hc ih => ?_)
        refine cp_iload_n O dX7_restore_38 cp_lg2 ?_
        refine cp_sipush O dX7_restore_39 (v := 420) rfl ?_
        refine cp_icmp_geN (tgt := 69) O dX7_restore_42 (by decide) (a := c) (b := 420) rfl rfl (by omega) (by omega) (fun c_42 => ?_) (fun c_42 => ?_)
        · obtain rfl : c = 420 := by omega
          rw [cp_h2_c4]
          refine cp_aload_n O dX7_restore_69 cp_lg0 ?_
          refine cp_aload_n O dX7_restore_70 cp_lg0 ?_
          refine fg_X7_7 O M.s M.f0 dX7_restore_71 ?_
          refine cp_iconst O dX7_restore_74 (v := 5) rfl ?_
          refine cp_ialdM (k := 1) O M.s0 (by decide) (j := 5) rfl (by omega) (by decide) dX7_restore_75 ?_
          rw [cp_row_s, show cp_c4 (fun j => r 5 (420 * s + j)) (r 1) 5 = r 5 (420 * s + 5) from rfl]
          refine cp_cVir O me_X7_ends mi_X7_ends ml_X7_143 cp_cX7 M.s (c_X7_ends_p (r := (cp_row (cp_row r 2 (cp_c4 (r 1) (r 2))) 1 (cp_c4 (fun j => r 5 (420 * s + j)) (r 1)))) M h5 h4 hL) dX7_restore_76 rfl rfl ⟨Nat.le_of_ble_eq_true rfl, Nat.le_of_ble_eq_true rfl⟩ ⟨Nat.le_refl _, Nat.le_refl _⟩ (Nat.le_of_ble_eq_true rfl) (fun I76 hT76 => ?_)
          obtain ⟨h', rfl, hh1, hh2⟩ := hT76
          exact hr _ _ _ _ dX7_restore_79 rfl ⟨h', rfl, fun x hx => by rw [hh1 x hx, cp_row_n _ _ (by decide), cp_row_s]; unfold cp_c4; rw [if_pos hx], fun i hi x hx => by rw [hh2 i hi x hx, cp_row_n _ _ (by decide), cp_row_n _ _ (by decide)]⟩
        · refine cp_aload_n O dX7_restore_45 cp_lg0 ?_
          refine fg_X7_7 O M.s M.f0 dX7_restore_46 ?_
          refine cp_iload_n O dX7_restore_49 cp_lg2 ?_
          refine cp_aload_n O dX7_restore_50 cp_lg0 ?_
          refine fg_X7_22 O M.s M.f5 dX7_restore_51 ?_
          refine cp_sipush O dX7_restore_54 (v := 420) rfl ?_
          refine cp_iload_n O dX7_restore_57 cp_lg1 ?_
          refine cp_imul O dX7_restore_58 ?_
          refine cp_iload_n O dX7_restore_59 cp_lg2 ?_
          refine cp_iadd O dX7_restore_60 ?_
          refine cp_ialdM (k := 5) O M.s5 (by decide) (j := ((420 * s) + c)) (cp_ad (cp_mu rfl rfl) rfl) (by omega) (by decide) dX7_restore_61 ?_
          refine cp_iastM (k := 1) O M.s0 (by decide) (j := c) rfl (by omega) (by decide) dX7_restore_62 ?_
          refine cp_iinc O dX7_restore_63 cp_lg2 (cp_inc rfl) (by decide) (cp_ls2 rfl) ?_
          refine cp_goto (tgt := 38) O dX7_restore_66 (by decide) ?_
          rw [cp_row_n _ _ (show 5 ≠ 1 by decide), cp_row_n r _ (show 5 ≠ 2 by decide)]
          have hs2 := cp_h2_s (r 1) (fun j => r 5 (420 * s + j)) 0 c
          rw [Nat.zero_add] at hs2
          rw [cp_row_wi, hs2]
          exact ih c_42
      have l0 := loop38 0 (Nat.zero_le _)
      rw [cp_h2_0, show cp_row (cp_row r 2 (cp_c4 (r 1) (r 2))) 1 (r 1) = cp_row r 2 (cp_c4 (r 1) (r 2)) from by (conv => rhs; rw [← cp_row_self (cp_row r 2 (cp_c4 (r 1) (r 2))) 1]); rw [cp_row_n r _ (show 1 ≠ 2 by decide)]] at l0
      exact l0
    · exact absurd c_19 (by decide)
  · exact (cp_rg_no (l := 0) (h := 1) c_7 s (by omega) (by omega) (by omega) rfl).elim
