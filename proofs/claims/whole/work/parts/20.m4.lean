set_option maxHeartbeats 4000000 in
set_option maxRecDepth 100000 in
theorem c_X7_works {lc : Launch} {E : cp_En} {cnt : Nat} {sh : cp_Shp} {R : cp_Rem} {J : cp_Mem} {m : Nat} {f : Nat → Int32} {r : Nat → Nat → Int32} {a : Nat → Int32} (M : cp_ML sh R m) {n : Nat} {S : Nat → Int32} {mi : Int32} {P : cp_PP} {lq : List Nat} (hS : ∀ k, k < 4 → a k = S k) (hmi : a 4 = mi) (hW : cp_MW a n P (cp_LL n P lq)) (hV : cp_PV n P lq) : cp_Fr lc E yX7_works cX7_works 2 none 6 [.ref m] cnt sh (cp_ma J m f r a) R none (fun I' => ∃ a', I' = cp_ma J m f r a' ∧ cp_MW a' n (cp_wk S mi n (P, lq)).1 (cp_LL n (cp_wk S mi n (P, lq)).1 (cp_wk S mi n (P, lq)).2) ∧ ∀ x, (x < 8 ∨ 374 ≤ x) → a' x = a x) := by
  refine cp_Fn_vR [some (.ref m), none] (by decide +kernel) (Nat.le_of_ble_eq_true rfl) rfl (fun x hxl O hr => ?_)
  subst hxl
  refine cp_iconst O dX7_works_0 (v := 0) rfl ?_
  refine cp_istore_n O dX7_works_1 (by decide) (cp_ls1 rfl) ?_
  have loop2 : ∀ d, d ≤ 5 → ∀ a1 : Nat → Int32, cp_MW a1 n (cp_eds S mi n d (P, lq)).1 (cp_LL n (cp_eds S mi n d (P, lq)).1 (cp_eds S mi n d (P, lq)).2) → (∀ x, (x < 8 ∨ 374 ≤ x) → a1 x = a x) → cp_G x E 2 0 0 cnt sh (cp_ma J m f r a1) R 2 [some (.ref m), some (.int (nI d))] [] := by
    refine cp_up (fun d hd ih a1 hW1 hx1 => ?_)
    refine cp_iload_n O dX7_works_2 cp_lg1 ?_
    refine cp_iconst O dX7_works_3 (v := 5) rfl ?_
    refine cp_icmp_geN (tgt := 18) O dX7_works_4 (by decide) (a := d) (b := 5) rfl rfl (by omega) (by omega) (fun c_4 => ?_) (fun c_4 => ?_)
    · obtain rfl : d = 5 := by omega
      refine cp_aload_n O dX7_works_18 cp_lg0 ?_
      refine cp_cVvr O me_X7_reads mi_X7_reads ml_X7_91 cp_cX7 M.s (c_X7_reads M ((hx1 1 (by omega)).trans (hS 1 (by decide))) ((hx1 4 (by omega)).trans hmi) hW1 (cp_PV_eds hV 5)) dX7_works_19 rfl rfl ⟨Nat.le_of_ble_eq_true rfl, Nat.le_of_ble_eq_true rfl⟩ ⟨Nat.le_refl _, Nat.le_refl _⟩ (Nat.le_of_ble_eq_true rfl) (fun I19 hT19 => ?_)
      obtain ⟨a2, rfl, hW2, hx2⟩ := hT19
      exact hr _ _ _ dX7_works_22 ⟨a2, rfl, hW2, fun x hx => (hx2 x hx).trans (hx1 x hx)⟩
    · refine cp_aload_n O dX7_works_7 cp_lg0 ?_
      refine cp_iload_n O dX7_works_8 cp_lg1 ?_
      refine cp_cVvr O me_X7_edits mi_X7_edits ml_X7_88 cp_cX7 M.s (c_X7_edits (d := d) M rfl c_4 ((hx1 0 (by omega)).trans (hS 0 (by decide))) ((hx1 4 (by omega)).trans hmi) hW1 (cp_PV_eds hV d)) dX7_works_9 rfl rfl ⟨Nat.le_of_ble_eq_true rfl, Nat.le_of_ble_eq_true rfl⟩ ⟨Nat.le_refl _, Nat.le_refl _⟩ (Nat.le_of_ble_eq_true rfl) (fun I9 hT9 => ?_)
      refine cp_iinc O dX7_works_12 cp_lg1 (cp_inc rfl) (by decide) (cp_ls1 rfl) ?_
      refine cp_goto (tgt := 2) O dX7_works_15 (by decide) ?_
      obtain ⟨a2, rfl, hW2, hx2⟩ := hT9
      exact ih c_4 a2 hW2 (fun x hx => (hx2 x hx).trans (hx1 x hx))
  exact loop2 0 (Nat.zero_le _) a hW (fun _ _ => rfl)
/-- the plates of the model's row: Q j 0 its minute, Q j 1 whether it is a replate, Q j 2 its pieces; those ahead of the minute mi are made -/
def cp_MQ (a : Nat → Int32) (mi np : Nat) (Q : cp_PP) : Prop := np ≤ 8 ∧ a 6 = nI np ∧ (∀ j, j < np → (∃ t, t < 600 ∧ Q j 0 = nI t) ∧ a (374 + 4 * j) = Q j 0 ∧ a (374 + 4 * j + 1) = cp_bi (decide ((Q j 0).toInt < mi)) ∧ a (374 + 4 * j + 2) = Q j 1 ∧ a (374 + 4 * j + 3) = Q j 2) ∧ a 7 = nI (cp_cnt (fun j => decide ((Q j 0).toInt < mi)) np)
def cp_du (np : Nat) (Q : cp_PP) (v : Int32) : Option Nat := (List.range np).find? (fun j => decide (Q j 0 = v))
set_option maxHeartbeats 4000000 in
set_option maxRecDepth 100000 in
theorem c_X7_due {lc : Launch} {E : cp_En} {cnt : Nat} {sh : cp_Shp} {R : cp_Rem} {J : cp_Mem} {m : Nat} {f : Nat → Int32} {r : Nat → Nat → Int32} {a : Nat → Int32} (M : cp_ML sh R m) {v1 : Int32} {np : Nat} {Q : cp_PP} (hnp : np ≤ 8) (h6 : a 6 = nI np) (hQ : ∀ j, j < np → a (374 + 4 * j) = Q j 0) : cp_Fn lc E yX7_due cX7_due 3 (some .int) 1 [.ref m, .int v1] cnt sh (cp_ma J m f r a) R (some (.int (cp_o2i (cp_du np Q v1)))) (cp_ma J m f r a) := by
  refine cp_Fn_i [some (.ref m), some (.int v1), none] (by decide +kernel) (Nat.le_of_ble_eq_true rfl) rfl rfl (fun x hxl O hr => ?_)
  subst hxl
  refine cp_iconst O dX7_due_0 (v := 0) rfl ?_
  refine cp_istore_n O dX7_due_1 (by decide) (cp_ls2 rfl) ?_
  have loop2 : ∀ c, c ≤ np → (∀ j, j < c → decide (Q j 0 = v1) = false) → cp_G x E 3 0 0 cnt sh (cp_ma J m f r a) R 2 [some (.ref m), some (.int v1), some (.int (nI c))] [] := by
    refine cp_up (fun c hc ih hb => ?_)
    refine cp_iload_n O dX7_due_2 cp_lg2 ?_
    refine cp_aload_n O dX7_due_3 cp_lg0 ?_
    refine fg_X7_7 O M.s M.f0 dX7_due_4 ?_
    refine cp_bipush O dX7_due_7 (v := 6) rfl ?_
    refine cp_ialdA O M (j := 6) rfl (by omega) dX7_due_9 ?_
    refine cp_icmp_geN (tgt := 31) O dX7_due_10 (by decide) (a := c) (b := np) rfl h6 (by omega) (by omega) (fun c_10 => ?_) (fun c_10 => ?_)
    · refine cp_bipush O dX7_due_31 (v := (-6)) rfl ?_
      exact hr _ _ _ _ dX7_due_33 (cp_o2i_n (cp_fnd_n (fun j hj => hb j (by omega)))) rfl
    · refine cp_aload_n O dX7_due_13 cp_lg0 ?_
      refine cp_iload_n O dX7_due_14 cp_lg2 ?_
      refine cp_iconst O dX7_due_15 (v := 0) rfl ?_
      refine cp_cVi O me_X7_plateAt mi_X7_plateAt ml_X7_85 cp_cX7 M.s (c_X7_plateAt (j := c) (q := 0) M rfl rfl (by omega) (by omega)) dX7_due_16 rfl rfl ⟨Nat.le_of_ble_eq_true rfl, Nat.le_of_ble_eq_true rfl⟩ ⟨Nat.le_refl _, Nat.le_refl _⟩ (Nat.le_of_ble_eq_true rfl) ?_
      rw [show a (374 + 4 * c + 0) = Q c 0 from hQ c c_10]
      refine cp_iload_n O dX7_due_19 cp_lg1 ?_
      refine cp_icmp_ne (tgt := 25) O dX7_due_20 (by decide) (fun c_20 => ?_) (fun c_20 => ?_)
      · refine cp_iinc O dX7_due_25 cp_lg2 (cp_inc rfl) (by decide) (cp_ls2 rfl) ?_
        refine cp_goto (tgt := 2) O dX7_due_28 (by decide) ?_
        exact ih c_10 (cp_lts hb (decide_eq_false c_20))
      · refine cp_iload_n O dX7_due_23 cp_lg2 ?_
        exact hr _ _ _ _ dX7_due_24 (cp_o2i_s (cp_fnd_s c_10 (decide_eq_true c_20) hb)) rfl
  exact loop2 0 (Nat.zero_le _) (fun j hj => absurd hj (by omega))
