theorem cp_nn_qcy {lc : Launch} {E : cp_En} {cnt : Nat} {sh : cp_Shp} {R : cp_Rem} {J : cp_Mem} {b : Nat} {o S : Nat → Int32} {P Q : cp_PP} (N : cp_NL sh R b) {k i : Nat} (hk : k < 8) (hi : i < 8) (hne : k ≠ i) (h1 : Q i 1 = 0 ∨ Q i 1 = 1) : cp_Fn lc E yX5_copyFrom cX5_copyFrom 2 none 0 [.ref (b + 28 + k), .ref (b + 28 + i)] cnt sh (cp_nn J b o S P Q) R none (cp_nn J b o S P (cp_row Q k (cp_qcy (Q i) (Q k)))) := by
  have g := c_X5_copyFrom (lc := lc) (E := E) (cnt := cnt) (R := R) (I := cp_nn J b o S P Q) (g := Q k) (o := b + 28 + i) (N.spl hk) (N.spl hi) (by omega) (by rw [cp_nn_Q _ _ _ _ _ _ hi]; exact h1)
  rw [cp_nn_rQ _ _ _ _ _ _ hk, cp_nn_rQ _ _ _ _ _ _ hk, cp_row_self, cp_nn_Q _ _ _ _ _ _ hi] at g
  exact g
theorem cp_nn_qtl {lc : Launch} {E : cp_En} {cnt : Nat} {sh : cp_Shp} {R : cp_Rem} {J : cp_Mem} {b : Nat} {o S : Nat → Int32} {P Q : cp_PP} (N : cp_NL sh R b) {k : Nat} (hk : k < 8) {v1 : Int32} {bb : Bool} : cp_Fn lc E yX5_tell cX5_tell 3 none 0 [.ref (b + 28 + k), .int v1, .int (cp_bi bb)] cnt sh (cp_nn J b o S P Q) R none (cp_nn J b o S P (cp_row Q k (cp_qtl v1 bb (Q k)))) := by
  have g := c_X5_tell (lc := lc) (E := E) (cnt := cnt) (R := R) (I := cp_nn J b o S P Q) (g := Q k) (v1 := v1) (b := bb) (N.spl hk)
  rw [cp_nn_rQ _ _ _ _ _ _ hk, cp_nn_rQ _ _ _ _ _ _ hk, cp_row_self] at g
  exact g
theorem cp_qtl_pq {v : Int32} {bb : Bool} {g : Nat → Int32} : ∀ f, f < 3 → cp_qtl v bb g f = cp_pq (cp_bi bb) v f := by
  intro f hf
  rcases (by omega : f = 0 ∨ f = 1 ∨ f = 2) with h | h | h <;> subst h <;> rfl
set_option maxHeartbeats 4000000 in
set_option maxRecDepth 100000 in
theorem c_X1_insertPlate {lc : Launch} {E : cp_En} {cnt : Nat} {sh : cp_Shp} {R : cp_Rem} {J : cp_Mem} {b : Nat} {o S : Nat → Int32} {P Q : cp_PP} (N : cp_NL sh R b) {np : Nat} (h5 : o 5 = nI np) (hq : np < 8) (hQ1 : ∀ j, j < np → Q j 1 = 0 ∨ Q j 1 = 1) {v1 : Int32} {bb : Bool} : cp_Fr lc E yX1_insertPlate cX1_insertPlate 4 (some .int) 1 [.ref b, .int v1, .int (cp_bi bb)] cnt sh (cp_nn J b o S P Q) R (some (.int (nI (cp_at Q v1 np)))) (fun I' => ∃ Q' : cp_PP, I' = cp_nn J b (upd o 5 (nI (np + 1))) S P Q' ∧ ∀ j, j < np + 1 → ∀ f, f < 3 → Q' j f = cp_iq Q (cp_at Q v1 np) v1 (cp_bi bb) j f) := by
  refine cp_Fn_iR [some (.ref b), some (.int v1), some (.int (cp_bi bb)), none] (by decide +kernel) (Nat.le_of_ble_eq_true rfl) rfl rfl (fun x hxl O hr => ?_)
  subst hxl
  refine cp_aload_n O dX1_insertPlate_0 cp_lg0 ?_
  refine ng_X1_44 O N dX1_insertPlate_1 ?_
  rw [h5]
  refine cp_istore_n O dX1_insertPlate_4 (by decide) (cp_ls3 rfl) ?_
  have loop5 : ∀ k, k ≤ np → ∀ Q' : cp_PP, (∀ j, j < k → Q' j = Q j) → (∀ j, k < j → j ≤ np → ∀ f, f < 3 → Q' j f = Q (j - 1) f) → cp_at Q v1 k = cp_at Q v1 np → cp_G x E 4 0 0 cnt sh (cp_nn J b o S P Q') R 5 [some (.ref b), some (.int v1), some (.int (cp_bi bb)), some (.int (nI k))] [] := by
    refine cp_down (P := fun k => k ≤ np → ∀ Q' : cp_PP, (∀ j, j < k → Q' j = Q j) → (∀ j, k < j → j ≤ np → ∀ f, f < 3 → Q' j f = Q (j - 1) f) → cp_at Q v1 k = cp_at Q v1 np → cp_G x E 4 0 0 cnt sh (cp_nn J b o S P Q') R 5 [some (.ref b), some (.int v1), some (.int (cp_bi bb)), some (.int (nI k))] []) (fun k ih hk Q' hlo hhi hat => ?_)
    refine cp_iload_n O dX1_insertPlate_5 cp_lg3 ?_
    refine cp_if_le (tgt := 47) O dX1_insertPlate_6 (by decide) (fun c_6 => ?_) (fun c_6 => ?_)
    · have hex : cp_at Q v1 k = k := by rw [cp_nle0 c_6 (by omega)]; rfl
      refine cp_aload_n O dX1_insertPlate_47 cp_lg0 ?_
      refine fg_X1_39 O N.s N.pls dX1_insertPlate_48 ?_
      refine cp_iload_n O dX1_insertPlate_51 cp_lg3 ?_
      refine cp_aaldr O (Or.inr (Or.inr ⟨rfl, rfl⟩)) N.spls (j := k) rfl (by omega) (by decide) (N.pl (by omega)) dX1_insertPlate_52 ?_
      refine cp_iload_n O dX1_insertPlate_53 cp_lg1 ?_
      refine cp_iload_n O dX1_insertPlate_54 cp_lg2 ?_
      refine cp_cVv O me_X5_tell mi_X5_tell ml_X1_184 cp_cX5 (N.spl (by omega)) (cp_nn_qtl (k := k) N (by omega)) dX1_insertPlate_55 rfl rfl ⟨Nat.le_of_ble_eq_true rfl, Nat.le_of_ble_eq_true rfl⟩ ⟨Nat.le_refl _, Nat.le_refl _⟩ (Nat.le_of_ble_eq_true rfl) ?_
      refine cp_aload_n O dX1_insertPlate_58 cp_lg0 ?_
      refine cp_dup O dX1_insertPlate_59 rfl ?_
      refine ng_X1_44 O N dX1_insertPlate_60 ?_
      refine cp_iconst O dX1_insertPlate_63 (v := 1) rfl ?_
      refine cp_iadd O dX1_insertPlate_64 ?_
      refine np_X1_44 O N dX1_insertPlate_65 ?_
      refine cp_iload_n O dX1_insertPlate_68 cp_lg3 ?_
      exact hr _ _ _ _ dX1_insertPlate_69 (by rw [← hat, hex]) ⟨_, by rw [h5, nI_1], fun j hj f hf => by
        rw [← hat, hex]
        rcases Nat.lt_trichotomy j k with h | h | h
        · rw [cp_row_n _ _ (by omega), cp_iq_lo h, hlo j h]
        · subst h
          rw [cp_row_s, cp_iq_at]; exact cp_qtl_pq f hf
        · rw [cp_row_n _ _ (by omega), cp_iq_hi h]; exact hhi j h (by omega) f hf⟩
    · have hk0 : 0 < k := by
        rcases Nat.eq_zero_or_pos k with h | h
        · exact absurd (show nI k ≤ 0 by rw [h]; decide) c_6
        · exact h
      obtain ⟨k1, hk1⟩ : ∃ k1, k = k1 + 1 := ⟨k - 1, by omega⟩
      refine cp_aload_n O dX1_insertPlate_9 cp_lg0 ?_
      refine fg_X1_39 O N.s N.pls dX1_insertPlate_10 ?_
      refine cp_iload_n O dX1_insertPlate_13 cp_lg3 ?_
      refine cp_iconst O dX1_insertPlate_14 (v := 1) rfl ?_
      refine cp_isub O dX1_insertPlate_15 ?_
      refine cp_aaldr O (Or.inr (Or.inr ⟨rfl, rfl⟩)) N.spls (j := (k - 1)) (cp_sb rfl rfl (by omega)) (by omega) (by decide) (N.pl (by omega)) dX1_insertPlate_16 ?_
      refine qg_X1_174 O N (by omega) dX1_insertPlate_17 ?_
      refine cp_iload_n O dX1_insertPlate_20 cp_lg1 ?_
      rw [hlo (k - 1) (by omega), show k - 1 = k1 by omega]
      refine cp_icmp_le (tgt := 47) O dX1_insertPlate_21 (by decide) (fun c_21 => ?_) (fun c_21 => ?_)
      · have hex : cp_at Q v1 k = k := by rw [hk1]; exact if_neg (Int32.not_lt.mpr c_21)
        refine cp_aload_n O dX1_insertPlate_47 cp_lg0 ?_
        refine fg_X1_39 O N.s N.pls dX1_insertPlate_48 ?_
        refine cp_iload_n O dX1_insertPlate_51 cp_lg3 ?_
        refine cp_aaldr O (Or.inr (Or.inr ⟨rfl, rfl⟩)) N.spls (j := k) rfl (by omega) (by decide) (N.pl (by omega)) dX1_insertPlate_52 ?_
        refine cp_iload_n O dX1_insertPlate_53 cp_lg1 ?_
        refine cp_iload_n O dX1_insertPlate_54 cp_lg2 ?_
        refine cp_cVv O me_X5_tell mi_X5_tell ml_X1_184 cp_cX5 (N.spl (by omega)) (cp_nn_qtl (k := k) N (by omega)) dX1_insertPlate_55 rfl rfl ⟨Nat.le_of_ble_eq_true rfl, Nat.le_of_ble_eq_true rfl⟩ ⟨Nat.le_refl _, Nat.le_refl _⟩ (Nat.le_of_ble_eq_true rfl) ?_
        refine cp_aload_n O dX1_insertPlate_58 cp_lg0 ?_
        refine cp_dup O dX1_insertPlate_59 rfl ?_
        refine ng_X1_44 O N dX1_insertPlate_60 ?_
        refine cp_iconst O dX1_insertPlate_63 (v := 1) rfl ?_
        refine cp_iadd O dX1_insertPlate_64 ?_
        refine np_X1_44 O N dX1_insertPlate_65 ?_
        refine cp_iload_n O dX1_insertPlate_68 cp_lg3 ?_
        exact hr _ _ _ _ dX1_insertPlate_69 (by rw [← hat, hex]) ⟨_, by rw [h5, nI_1], fun j hj f hf => by
          rw [← hat, hex]
          rcases Nat.lt_trichotomy j k with h | h | h
          · rw [cp_row_n _ _ (by omega), cp_iq_lo h, hlo j h]
          · subst h
            rw [cp_row_s, cp_iq_at]; exact cp_qtl_pq f hf
          · rw [cp_row_n _ _ (by omega), cp_iq_hi h]; exact hhi j h (by omega) f hf⟩
      · have hlt : v1 < Q k1 0 := Int32.not_le.mp c_21
        refine cp_aload_n O dX1_insertPlate_24 cp_lg0 ?_
        refine fg_X1_39 O N.s N.pls dX1_insertPlate_25 ?_
        refine cp_iload_n O dX1_insertPlate_28 cp_lg3 ?_
        refine cp_aaldr O (Or.inr (Or.inr ⟨rfl, rfl⟩)) N.spls (j := k) rfl (by omega) (by decide) (N.pl (by omega)) dX1_insertPlate_29 ?_
        refine cp_aload_n O dX1_insertPlate_30 cp_lg0 ?_
        refine fg_X1_39 O N.s N.pls dX1_insertPlate_31 ?_
        refine cp_iload_n O dX1_insertPlate_34 cp_lg3 ?_
        refine cp_iconst O dX1_insertPlate_35 (v := 1) rfl ?_
        refine cp_isub O dX1_insertPlate_36 ?_
        refine cp_aaldr O (Or.inr (Or.inr ⟨rfl, rfl⟩)) N.spls (j := (k - 1)) (cp_sb rfl rfl (by omega)) (by omega) (by decide) (N.pl (by omega)) dX1_insertPlate_37 ?_
        refine cp_cVv O me_X5_copyFrom mi_X5_copyFrom ml_X1_57 cp_cX5 (N.spl (by omega)) (cp_nn_qcy (k := k) (i := (k - 1)) N (by omega) (by omega) (by omega) (by rw [hlo (k - 1) (by omega)]; exact hQ1 (k - 1) (by omega))) dX1_insertPlate_38 rfl rfl ⟨Nat.le_of_ble_eq_true rfl, Nat.le_of_ble_eq_true rfl⟩ ⟨Nat.le_refl _, Nat.le_refl _⟩ (Nat.le_of_ble_eq_true rfl) ?_
        refine cp_iinc O dX1_insertPlate_41 cp_lg3 (cp_dec rfl (by omega)) (by decide) (cp_ls3 rfl) ?_
        refine cp_goto (tgt := 5) O dX1_insertPlate_44 (by decide) ?_
        refine ih hk0 (by omega) _ (fun j hj => ?_) (fun j hj1 hj2 f hf => ?_) ?_
        · rw [cp_row_n _ _ (by omega)]; exact hlo j (by omega)
        · by_cases e : j = k
          · subst e
            rw [cp_row_s, cp_qcy_f f (by omega), hlo (j - 1) (by omega)]
          · rw [cp_row_n _ _ e]; exact hhi j (by omega) hj2 f hf
        · rw [← hat, hk1]
          exact (if_pos hlt).symm
  exact loop5 np (Nat.le_refl _) Q (fun _ _ => rfl) (fun j h1 h2 => absurd h1 (by omega)) rfl

