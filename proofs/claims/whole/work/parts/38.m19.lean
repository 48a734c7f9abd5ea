abbrev cp_Od : Type := Nat × Nat × Nat × Nat × Nat
/-- the rest of an order that brings a piece -/
def cp_pP (w : Nat → Nat) (len s : Nat) : Option cp_Od × Nat :=
  if cp_he w len s 48 52 = true then
    if cp_he w len (s + 1) 58 58 = true then
      if cp_he w len (s + 2) 48 57 = true then
        if cp_he w len (cp_rn w len (s + 2)).1 33 33 = true then
          if cp_he w len ((cp_rn w len (s + 2)).1 + 1) 48 57 = true then
            (some (43, w s - 48, (cp_rn w len (s + 2)).2, w ((cp_rn w len (s + 2)).1 + 1) - 48, if cp_he w len ((cp_rn w len (s + 2)).1 + 2) 76 76 = true then 1 else 0), if cp_he w len ((cp_rn w len (s + 2)).1 + 2) 76 76 = true then (cp_rn w len (s + 2)).1 + 3 else (cp_rn w len (s + 2)).1 + 2)
          else (none, (cp_rn w len (s + 2)).1 + 1)
        else (none, (cp_rn w len (s + 2)).1)
      else (none, s + 2)
    else (none, s + 1)
  else (none, s)
def cp_pO (w : Nat → Nat) (len s : Nat) : Option cp_Od × Nat :=
  if cp_he w len s 43 43 = true then cp_pP w len (s + 1)
  else if s < len ∧ (w s = 112 ∨ w s = 104 ∨ w s = 107 ∨ w s = 116) then
    if cp_he w len (s + 1) 48 57 = true then (some (w s, (cp_rn w len (s + 1)).2, 0, 0, 0), (cp_rn w len (s + 1)).1) else (none, s + 1)
  else (none, s)
def cp_doO (N : cp_Nt) (o : cp_Od) : Int32 × cp_Nt := if o.1 = 43 then cp_sPiece N (nI o.2.1) (nI o.2.2.1) (nI o.2.2.2.1) (nI o.2.2.2.2) else if o.1 = 112 then cp_sPlate N (nI o.2.1) else if o.1 = 104 then cp_sHold N (nI o.2.1) else if o.1 = 107 then cp_sKill N (nI o.2.1) else cp_sPass N (nI o.2.1)
theorem cp_bF {b : Bool} (h : b = false) : ¬ b = true := by rw [h]; decide
section CPP
variable {w : Nat → Nat} {len s : Nat}
theorem cp_pP_1 (h : cp_he w len s 48 52 = false) : cp_pP w len s = (none, s) := by unfold cp_pP; rw [if_neg (cp_bF h)]
theorem cp_pP_2 (h1 : cp_he w len s 48 52 = true) (h : cp_he w len (s + 1) 58 58 = false) : cp_pP w len s = (none, s + 1) := by unfold cp_pP; rw [if_pos h1, if_neg (cp_bF h)]
theorem cp_pP_3 (h1 : cp_he w len s 48 52 = true) (h2 : cp_he w len (s + 1) 58 58 = true) (h : cp_he w len (s + 2) 48 57 = false) : cp_pP w len s = (none, s + 2) := by unfold cp_pP; rw [if_pos h1, if_pos h2, if_neg (cp_bF h)]
theorem cp_pP_4 (h1 : cp_he w len s 48 52 = true) (h2 : cp_he w len (s + 1) 58 58 = true) (h3 : cp_he w len (s + 2) 48 57 = true) (h : cp_he w len (cp_rn w len (s + 2)).1 33 33 = false) : cp_pP w len s = (none, (cp_rn w len (s + 2)).1) := by unfold cp_pP; rw [if_pos h1, if_pos h2, if_pos h3, if_neg (cp_bF h)]
theorem cp_pP_5 (h1 : cp_he w len s 48 52 = true) (h2 : cp_he w len (s + 1) 58 58 = true) (h3 : cp_he w len (s + 2) 48 57 = true) (h4 : cp_he w len (cp_rn w len (s + 2)).1 33 33 = true) (h : cp_he w len ((cp_rn w len (s + 2)).1 + 1) 48 57 = false) : cp_pP w len s = (none, (cp_rn w len (s + 2)).1 + 1) := by unfold cp_pP; rw [if_pos h1, if_pos h2, if_pos h3, if_pos h4, if_neg (cp_bF h)]
theorem cp_pP_6 (h1 : cp_he w len s 48 52 = true) (h2 : cp_he w len (s + 1) 58 58 = true) (h3 : cp_he w len (s + 2) 48 57 = true) (h4 : cp_he w len (cp_rn w len (s + 2)).1 33 33 = true) (h5 : cp_he w len ((cp_rn w len (s + 2)).1 + 1) 48 57 = true) : cp_pP w len s = (some (43, w s - 48, (cp_rn w len (s + 2)).2, w ((cp_rn w len (s + 2)).1 + 1) - 48, if cp_he w len ((cp_rn w len (s + 2)).1 + 2) 76 76 = true then 1 else 0), if cp_he w len ((cp_rn w len (s + 2)).1 + 2) 76 76 = true then (cp_rn w len (s + 2)).1 + 3 else (cp_rn w len (s + 2)).1 + 2) := by unfold cp_pP; rw [if_pos h1, if_pos h2, if_pos h3, if_pos h4, if_pos h5]
theorem cp_pO_1 (h : cp_he w len s 43 43 = true) : cp_pO w len s = cp_pP w len (s + 1) := by unfold cp_pO; rw [if_pos h]
theorem cp_pO_2 (h : cp_he w len s 43 43 = false) (h2 : ¬ (s < len ∧ (w s = 112 ∨ w s = 104 ∨ w s = 107 ∨ w s = 116))) : cp_pO w len s = (none, s) := by unfold cp_pO; rw [if_neg (cp_bF h), if_neg h2]
theorem cp_pO_3 (h : cp_he w len s 43 43 = false) (h2 : s < len ∧ (w s = 112 ∨ w s = 104 ∨ w s = 107 ∨ w s = 116)) (h3 : cp_he w len (s + 1) 48 57 = false) : cp_pO w len s = (none, s + 1) := by unfold cp_pO; rw [if_neg (cp_bF h), if_pos h2, if_neg (cp_bF h3)]
theorem cp_pO_4 (h : cp_he w len s 43 43 = false) (h2 : s < len ∧ (w s = 112 ∨ w s = 104 ∨ w s = 107 ∨ w s = 116)) (h3 : cp_he w len (s + 1) 48 57 = true) : cp_pO w len s = (some (w s, (cp_rn w len (s + 1)).2, 0, 0, 0), (cp_rn w len (s + 1)).1) := by unfold cp_pO; rw [if_neg (cp_bF h), if_pos h2, if_pos h3]
theorem cp_pP_le (hs : s ≤ len) : s ≤ (cp_pP w len s).2 ∧ (cp_pP w len s).2 ≤ len := by
  unfold cp_pP
  split
  · rename_i h1
    have h1 := cp_he_t h1
    split
    · rename_i h2
      have h2 := cp_he_t h2
      split
      · rename_i h3
        have h4 := cp_rn_le h3
        split
        · rename_i h5
          have h5 := cp_he_t h5
          split
          · rename_i h6
            have h6 := cp_he_t h6
            by_cases h7 : cp_he w len ((cp_rn w len (s + 2)).1 + 2) 76 76 = true
            · have h8 := cp_he_t h7
              simp only [if_pos h7]
              omega
            · simp only [if_neg h7]
              omega
          · exact ⟨by show s ≤ (cp_rn w len (s + 2)).1 + 1; omega, by show (cp_rn w len (s + 2)).1 + 1 ≤ len; omega⟩
        · exact ⟨by show s ≤ (cp_rn w len (s + 2)).1; omega, by show (cp_rn w len (s + 2)).1 ≤ len; omega⟩
      · exact ⟨by show s ≤ s + 2; omega, by show s + 2 ≤ len; omega⟩
    · exact ⟨by show s ≤ s + 1; omega, by show s + 1 ≤ len; omega⟩
  · exact ⟨Nat.le_refl _, hs⟩
theorem cp_pO_le (hs : s ≤ len) : s ≤ (cp_pO w len s).2 ∧ (cp_pO w len s).2 ≤ len ∧ ((cp_pO w len s).1 ≠ none → s < (cp_pO w len s).2) := by
  unfold cp_pO
  split
  · rename_i h1
    have h1 := cp_he_t h1
    have := cp_pP_le (w := w) (s := s + 1) (len := len) (by omega)
    omega
  · split
    · rename_i h2
      split
      · rename_i h3
        have := cp_rn_le h3
        exact ⟨by show s ≤ (cp_rn w len (s + 1)).1; omega, by show (cp_rn w len (s + 1)).1 ≤ len; omega, fun _ => by show s < (cp_rn w len (s + 1)).1; omega⟩
      · exact ⟨by show s ≤ s + 1; omega, by show s + 1 ≤ len; omega, fun z => absurd rfl z⟩
    · exact ⟨Nat.le_refl _, hs, fun z => absurd rfl z⟩
end CPP
theorem cp_mm_row {J : cp_Mem} {m : Nat} {f : Nat → Int32} {r : cp_PP} {a : Nat → Int32} : cp_ma J m f r a = cp_mm J m f (cp_row r 1 a) := rfl
theorem l_X7_doPiece {lc : Launch} {E : cp_En} {cnt : Nat} {sh : cp_Shp} {R : cp_Rem} {J : cp_Mem} {m : Nat} {f : Nat → Int32} {r : Nat → Nat → Int32} (M : cp_ML sh R m) {N : cp_Nt} (hA : cp_MA (r 1) N) (hV : cp_NV N) {v1 v2 v3 v4 : Int32} : cp_Fr lc E yX7_doPiece cX7_doPiece 7 (some .int) 1 [.ref m, .int v1, .int v2, .int v3, .int v4] cnt sh (cp_mm J m f r) R (some (.int (cp_sPiece N v1 v2 v3 v4).1)) (fun I' => ∃ (f' a' : Nat → Int32), I' = cp_mm J m f' (cp_row r 1 a') ∧ cp_MA a' (cp_sPiece N v1 v2 v3 v4).2 ∧ ∀ k, k ≠ 7 → k ≠ 8 → f' k = f k) := by
  have g := c_X7_doPiece (lc := lc) (E := E) (cnt := cnt) (J := J) (f := f) (r := r) (a := r 1) M hA hV (v1 := v1) (v2 := v2) (v3 := v3) (v4 := v4)
  rw [cp_ma_self] at g
  refine cp_Fr_mono g rfl fun I' hI => ?_
  obtain ⟨a', rfl, h1⟩ := hI
  exact ⟨f, a', rfl, h1, fun _ _ _ => rfl⟩
theorem l_X7_doPlate {lc : Launch} {E : cp_En} {cnt : Nat} {sh : cp_Shp} {R : cp_Rem} {J : cp_Mem} {m : Nat} {f : Nat → Int32} {r : Nat → Nat → Int32} (M : cp_ML sh R m) {N : cp_Nt} (hA : cp_MA (r 1) N) (hV : cp_NV N) {v1 : Int32} : cp_Fr lc E yX7_doPlate cX7_doPlate 2 (some .int) 2 [.ref m, .int v1] cnt sh (cp_mm J m f r) R (some (.int (cp_sPlate N v1).1)) (fun I' => ∃ (f' a' : Nat → Int32), I' = cp_mm J m f' (cp_row r 1 a') ∧ cp_MA a' (cp_sPlate N v1).2 ∧ ∀ k, k ≠ 7 → k ≠ 8 → f' k = f k) := by
  have g := c_X7_doPlate (lc := lc) (E := E) (cnt := cnt) (J := J) (f := f) (r := r) (a := r 1) M hA hV (v1 := v1)
  rw [cp_ma_self] at g
  refine cp_Fr_mono g rfl fun I' hI => ?_
  obtain ⟨a', rfl, h1⟩ := hI
  exact ⟨f, a', rfl, h1, fun _ _ _ => rfl⟩
theorem l_X7_doHold {lc : Launch} {E : cp_En} {cnt : Nat} {sh : cp_Shp} {R : cp_Rem} {J : cp_Mem} {m : Nat} {f : Nat → Int32} {r : Nat → Nat → Int32} (M : cp_ML sh R m) {N : cp_Nt} (hA : cp_MA (r 1) N) (hV : cp_NV N) {v1 : Int32} : cp_Fr lc E yX7_doHold cX7_doHold 2 (some .int) 2 [.ref m, .int v1] cnt sh (cp_mm J m f r) R (some (.int (cp_sHold N v1).1)) (fun I' => ∃ (f' a' : Nat → Int32), I' = cp_mm J m f' (cp_row r 1 a') ∧ cp_MA a' (cp_sHold N v1).2 ∧ ∀ k, k ≠ 7 → k ≠ 8 → f' k = f k) := by
  have g := c_X7_doHold (lc := lc) (E := E) (cnt := cnt) (J := J) (f := f) (r := r) (a := r 1) M hA hV (v1 := v1)
  rw [cp_ma_self] at g
  refine cp_Fr_mono g rfl fun I' hI => ?_
  obtain ⟨a', rfl, h1⟩ := hI
  exact ⟨f, a', rfl, h1, fun _ _ _ => rfl⟩
theorem l_X7_doKill {lc : Launch} {E : cp_En} {cnt : Nat} {sh : cp_Shp} {R : cp_Rem} {J : cp_Mem} {m : Nat} {f : Nat → Int32} {r : Nat → Nat → Int32} (M : cp_ML sh R m) {N : cp_Nt} (hA : cp_MA (r 1) N) (hV : cp_NV N) {v1 : Int32} : cp_Fr lc E yX7_doKill cX7_doKill 4 (some .int) 4 [.ref m, .int v1] cnt sh (cp_mm J m f r) R (some (.int (cp_sKill N v1).1)) (fun I' => ∃ (f' a' : Nat → Int32), I' = cp_mm J m f' (cp_row r 1 a') ∧ cp_MA a' (cp_sKill N v1).2 ∧ ∀ k, k ≠ 7 → k ≠ 8 → f' k = f k) := by
  have g := c_X7_doKill (lc := lc) (E := E) (cnt := cnt) (J := J) (f := f) (r := r) (a := r 1) M hA hV (v1 := v1)
  rw [cp_ma_self] at g
  refine cp_Fr_mono g rfl fun I' hI => ?_
  obtain ⟨a', rfl, h1⟩ := hI
  exact ⟨f, a', rfl, h1, fun _ _ _ => rfl⟩
theorem l_X7_doPass {lc : Launch} {E : cp_En} {cnt : Nat} {sh : cp_Shp} {R : cp_Rem} {J : cp_Mem} {m : Nat} {f : Nat → Int32} {r : Nat → Nat → Int32} (M : cp_ML sh R m) {N : cp_Nt} (hA : cp_MA (r 1) N) (hV : cp_NV N) {v1 : Int32} : cp_Fr lc E yX7_doPass cX7_doPass 4 (some .int) 8 [.ref m, .int v1] cnt sh (cp_mm J m f r) R (some (.int (cp_sPass N v1).1)) (fun I' => ∃ (f' a' : Nat → Int32), I' = cp_mm J m f' (cp_row r 1 a') ∧ cp_MA a' (cp_sPass N v1).2 ∧ ∀ k, k ≠ 7 → k ≠ 8 → f' k = f k) := by
  have g := c_X7_doPass (lc := lc) (E := E) (cnt := cnt) (J := J) (f := f) (r := r) (a := r 1) M hA hV (v1 := v1)
  rw [cp_ma_self] at g
  refine cp_Fr_mono g rfl fun I' hI => ?_
  obtain ⟨f', a', rfl, h1, h2⟩ := hI
  exact ⟨f', a', rfl, h1, h2⟩
set_option maxHeartbeats 4000000 in
set_option maxRecDepth 100000 in
theorem c_X7_readsPiece_0 {lc : Launch} {E : cp_En} {cnt : Nat} {sh : cp_Shp} {R : cp_Rem} {J : cp_Mem} {m : Nat} {f : Nat → Int32} {r : Nat → Nat → Int32} (M : cp_ML sh R m) {w : Nat → Nat} {len s : Nat} (hT : cp_TX (r 7) w len) (h10 : f 10 = nI len) (h11 : f 11 = nI s) (hs : s ≤ len) (h12 : f 12 = 0) : cp_Fr lc E yX7_readsPiece cX7_readsPiece 5 (some .boolean) 3 [.ref m] cnt sh (cp_mm J m f r) R (some (.int (cp_bi (cp_pP w len s).1.isSome))) (fun I' => ∃ f', I' = cp_mm J m f' r ∧ f' 11 = nI (cp_pP w len s).2 ∧ ∀ k, k ≠ 11 → k ≠ 13 → k ≠ 14 → f' k = f k) := by
  have hT1 := hT.1
  refine cp_Fn_iR [some (.ref m), none, none, none, none] (by decide +kernel) (Nat.le_of_ble_eq_true rfl) rfl (cp_bin _) (fun x hxl O hr => ?_)
  subst hxl
  refine cp_aload_n O dX7_readsPiece_0 cp_lg0 ?_
  refine cp_iconst O dX7_readsPiece_1 (v := 4) rfl ?_
  refine cp_cVir O me_X7_readsDigit mi_X7_readsDigit ml_X7_210 cp_cX7 M.s (c_X7_readsDigit (q := 4) M hT h10 h11 hs (by omega)) dX7_readsPiece_2 rfl rfl ⟨Nat.le_of_ble_eq_true rfl, Nat.le_of_ble_eq_true rfl⟩ ⟨Nat.le_refl _, Nat.le_refl _⟩ (Nat.le_of_ble_eq_true rfl) (fun I2 hT2 => ?_)
  obtain ⟨f1, rfl, a1, b1, o1⟩ := hT2
  refine cp_if_neB (tgt := 10) O dX7_readsPiece_5 (by decide) (fun c_5 => ?_) (fun c_5 => ?_)
  · rw [if_pos c_5] at a1
    have b1 := b1 c_5
    have u1 := cp_he_t c_5
    refine cp_aload_n O dX7_readsPiece_10 cp_lg0 ?_
    refine mg_X7_207 O M dX7_readsPiece_11 ?_
    refine cp_istore_n O dX7_readsPiece_14 (by decide) (cp_ls1 rfl) ?_
    refine cp_aload_n O dX7_readsPiece_15 cp_lg0 ?_
    refine cp_bipush O dX7_readsPiece_16 (v := 58) rfl ?_
    refine cp_cVir O me_X7_takesOne mi_X7_takesOne ml_X7_213 cp_cX7 M.s (c_X7_takesOne (c := 58) M hT ((o1 10 (by decide) (by decide)).trans h10) a1 (by omega) (by decide)) dX7_readsPiece_18 rfl rfl ⟨Nat.le_of_ble_eq_true rfl, Nat.le_of_ble_eq_true rfl⟩ ⟨Nat.le_refl _, Nat.le_refl _⟩ (Nat.le_of_ble_eq_true rfl) (fun I18 hT18 => ?_)
    obtain ⟨f2, rfl, a2, b2, o2⟩ := hT18
    have o2 := cp_FF_t o1 o2
    refine cp_if_eqB (tgt := 31) O dX7_readsPiece_21 (by decide) (fun c_21 => ?_) (fun c_21 => ?_)
    · have hP := cp_pP_2 c_5 c_21
      have hfl := (by have a := a2; rw [if_neg (cp_bF c_21)] at a; exact a : f2 11 = nI (s + 1))
      have hf0 := o2
      refine cp_iconst O dX7_readsPiece_31 (v := 0) rfl ?_
      exact hr _ _ _ _ dX7_readsPiece_32 (cp_bi_f (by rw [hP]; rfl)) ⟨_, rfl, by rw [hP]; exact hfl, fun k k1 k2 k3 => hf0 k k1 k3⟩
    · rw [if_pos c_21] at a2
      have u2 := cp_he_t c_21
      refine cp_aload_n O dX7_readsPiece_24 cp_lg0 ?_
      refine cp_cVir O me_X7_readsNumber mi_X7_readsNumber ml_X7_216 cp_cX7 M.s (c_X7_readsNumber (s := s + 2) M hT ((o2 10 (by decide) (by decide)).trans h10) a2 (by omega)) dX7_readsPiece_25 rfl rfl ⟨Nat.le_of_ble_eq_true rfl, Nat.le_of_ble_eq_true rfl⟩ ⟨Nat.le_refl _, Nat.le_refl _⟩ (Nat.le_of_ble_eq_true rfl) (fun I25 hT25 => ?_)
      obtain ⟨f3, rfl, a3, b3, o3⟩ := hT25
      have o3 := cp_FF_t o2 o3
      refine cp_if_neB (tgt := 33) O dX7_readsPiece_28 (by decide) (fun c_28 => ?_) (fun c_28 => ?_)
      · rw [if_pos c_28] at a3
        have b3 := b3 c_28
        have u3 := cp_rn_le c_28
        refine cp_aload_n O dX7_readsPiece_33 cp_lg0 ?_
        refine mg_X7_207 O M dX7_readsPiece_34 ?_
        refine cp_istore_n O dX7_readsPiece_37 (by decide) (cp_ls2 rfl) ?_
        refine cp_aload_n O dX7_readsPiece_38 cp_lg0 ?_
        refine cp_bipush O dX7_readsPiece_39 (v := 33) rfl ?_
        refine cp_cVir O me_X7_takesOne mi_X7_takesOne ml_X7_213 cp_cX7 M.s (c_X7_takesOne (c := 33) M hT ((o3 10 (by decide) (by decide)).trans h10) a3 (by omega) (by decide)) dX7_readsPiece_41 rfl rfl ⟨Nat.le_of_ble_eq_true rfl, Nat.le_of_ble_eq_true rfl⟩ ⟨Nat.le_refl _, Nat.le_refl _⟩ (Nat.le_of_ble_eq_true rfl) (fun I41 hT41 => ?_)
        obtain ⟨f4, rfl, a4, b4, o4⟩ := hT41
        have o4 := cp_FF_t o3 o4
        refine cp_if_eqB (tgt := 56) O dX7_readsPiece_44 (by decide) (fun c_44 => ?_) (fun c_44 => ?_)
        · have hP := cp_pP_4 c_5 c_21 c_28 c_44
          have hfl := (by have a := a4; rw [if_neg (cp_bF c_44)] at a; exact a : f4 11 = nI (cp_rn w len (s + 2)).1)
          have hf0 := o4
          refine cp_iconst O dX7_readsPiece_56 (v := 0) rfl ?_
          exact hr _ _ _ _ dX7_readsPiece_57 (cp_bi_f (by rw [hP]; rfl)) ⟨_, rfl, by rw [hP]; exact hfl, fun k k1 k2 k3 => hf0 k k1 k3⟩
        · rw [if_pos c_44] at a4
          have u4 := cp_he_t c_44
          refine cp_aload_n O dX7_readsPiece_47 cp_lg0 ?_
          refine cp_bipush O dX7_readsPiece_48 (v := 9) rfl ?_
          refine cp_cVir O me_X7_readsDigit mi_X7_readsDigit ml_X7_210 cp_cX7 M.s (c_X7_readsDigit (s := (cp_rn w len (s + 2)).1 + 1) (q := 9) M hT ((o4 10 (by decide) (by decide)).trans h10) a4 (by omega) (by omega)) dX7_readsPiece_50 rfl rfl ⟨Nat.le_of_ble_eq_true rfl, Nat.le_of_ble_eq_true rfl⟩ ⟨Nat.le_refl _, Nat.le_refl _⟩ (Nat.le_of_ble_eq_true rfl) (fun I50 hT50 => ?_)
          obtain ⟨f5, rfl, a5, b5, o5⟩ := hT50
          have o5 := cp_FF_t o4 o5
          refine cp_if_neB (tgt := 58) O dX7_readsPiece_53 (by decide) (fun c_53 => ?_) (fun c_53 => ?_)
          · rw [if_pos c_53] at a5
            have b5 := b5 c_53
            have u5 := cp_he_t c_53
            refine cp_aload_n O dX7_readsPiece_58 cp_lg0 ?_
            refine mg_X7_207 O M dX7_readsPiece_59 ?_
            refine cp_istore_n O dX7_readsPiece_62 (by decide) (cp_ls3 rfl) ?_
            refine cp_aload_n O dX7_readsPiece_63 cp_lg0 ?_
            refine cp_bipush O dX7_readsPiece_64 (v := 76) rfl ?_
            refine cp_cVir O me_X7_takesOne mi_X7_takesOne ml_X7_213 cp_cX7 M.s (c_X7_takesOne (s := (cp_rn w len (s + 2)).1 + 2) (c := 76) M hT ((o5 10 (by decide) (by decide)).trans h10) a5 (by omega) (by decide)) dX7_readsPiece_66 rfl rfl ⟨Nat.le_of_ble_eq_true rfl, Nat.le_of_ble_eq_true rfl⟩ ⟨Nat.le_refl _, Nat.le_refl _⟩ (Nat.le_of_ble_eq_true rfl) (fun I66 hT66 => ?_)
            obtain ⟨f6, rfl, a6, b6, o6⟩ := hT66
            have o6 := cp_FF_t o5 o6
            have hP := cp_pP_6 c_5 c_21 c_28 c_44 c_53
            refine cp_if_eqB (tgt := 76) O dX7_readsPiece_69 (by decide) (fun c_69 => ?_) (fun c_69 => ?_)
            · rw [if_neg (cp_bF c_69)] at a6
              simp only [if_neg (cp_bF c_69)] at hP
              refine cp_iconst O dX7_readsPiece_76 (v := 0) rfl ?_
              refine cp_istore O dX7_readsPiece_77 (by decide) (cp_ls4 rfl) ?_
              refine cp_aload_n O dX7_readsPiece_79 cp_lg0 ?_
              refine cp_aload_n O dX7_readsPiece_80 cp_lg0 ?_
              refine mg_X7_219 O M dX7_readsPiece_81 ?_
              rw [o6 12 (by decide) (by decide), h12]
              refine cp_if_eq (tgt := 99) O dX7_readsPiece_84 (by decide) (fun c_84 => ?_) (fun c_84 => ?_)
              · refine cp_iconst O dX7_readsPiece_99 (v := 0) rfl ?_
                refine mp_X7_223 O M dX7_readsPiece_100 ?_
                refine cp_iconst O dX7_readsPiece_103 (v := 1) rfl ?_
                exact hr _ _ _ _ dX7_readsPiece_104 (cp_bi_t (by rw [hP]; rfl)) ⟨_, rfl, by rw [hP, cp_upd_n (by decide)]; exact a6, fun k k11 k13 k14 => by rw [cp_upd_n k13]; exact o6 k k11 k14⟩
              · exact absurd rfl c_84
            · rw [if_pos c_69] at a6
              simp only [if_pos c_69] at hP
              refine cp_iconst O dX7_readsPiece_72 (v := 1) rfl ?_
              refine cp_goto (tgt := 77) O dX7_readsPiece_73 (by decide) ?_
              refine cp_istore O dX7_readsPiece_77 (by decide) (cp_ls4 rfl) ?_
              refine cp_aload_n O dX7_readsPiece_79 cp_lg0 ?_
              refine cp_aload_n O dX7_readsPiece_80 cp_lg0 ?_
              refine mg_X7_219 O M dX7_readsPiece_81 ?_
              rw [o6 12 (by decide) (by decide), h12]
              refine cp_if_eq (tgt := 99) O dX7_readsPiece_84 (by decide) (fun c_84 => ?_) (fun c_84 => ?_)
              · refine cp_iconst O dX7_readsPiece_99 (v := 0) rfl ?_
                refine mp_X7_223 O M dX7_readsPiece_100 ?_
                refine cp_iconst O dX7_readsPiece_103 (v := 1) rfl ?_
                exact hr _ _ _ _ dX7_readsPiece_104 (cp_bi_t (by rw [hP]; rfl)) ⟨_, rfl, by rw [hP, cp_upd_n (by decide)]; exact a6, fun k k11 k13 k14 => by rw [cp_upd_n k13]; exact o6 k k11 k14⟩
              · exact absurd rfl c_84
          · have hP := cp_pP_5 c_5 c_21 c_28 c_44 c_53
            have hfl := (by have a := a5; rw [if_neg (cp_bF c_53)] at a; exact a : f5 11 = nI ((cp_rn w len (s + 2)).1 + 1))
            have hf0 := o5
            refine cp_iconst O dX7_readsPiece_56 (v := 0) rfl ?_
            exact hr _ _ _ _ dX7_readsPiece_57 (cp_bi_f (by rw [hP]; rfl)) ⟨_, rfl, by rw [hP]; exact hfl, fun k k1 k2 k3 => hf0 k k1 k3⟩
      · have hP := cp_pP_3 c_5 c_21 c_28
        have hfl := (by have a := a3; rw [if_neg (cp_bF c_28)] at a; exact a : f3 11 = nI (s + 2))
        have hf0 := o3
        refine cp_iconst O dX7_readsPiece_31 (v := 0) rfl ?_
        exact hr _ _ _ _ dX7_readsPiece_32 (cp_bi_f (by rw [hP]; rfl)) ⟨_, rfl, by rw [hP]; exact hfl, fun k k1 k2 k3 => hf0 k k1 k3⟩
  · have hP := cp_pP_1 c_5
    have hfl := (by have a := a1; rw [if_neg (cp_bF c_5)] at a; exact a : f1 11 = nI s)
    have hf0 := o1
    refine cp_iconst O dX7_readsPiece_8 (v := 0) rfl ?_
    exact hr _ _ _ _ dX7_readsPiece_9 (cp_bi_f (by rw [hP]; rfl)) ⟨_, rfl, by rw [hP]; exact hfl, fun k k1 k2 k3 => hf0 k k1 k3⟩
set_option maxHeartbeats 4000000 in
set_option maxRecDepth 100000 in
theorem c_X7_readsPiece_1 {lc : Launch} {E : cp_En} {cnt : Nat} {sh : cp_Shp} {R : cp_Rem} {J : cp_Mem} {m : Nat} {f : Nat → Int32} {r : Nat → Nat → Int32} (M : cp_ML sh R m) {w : Nat → Nat} {len s : Nat} (hT : cp_TX (r 7) w len) (h10 : f 10 = nI len) (h11 : f 11 = nI s) (hs : s ≤ len) (h12 : f 12 = 1) {N : cp_Nt} (hA : cp_MA (r 1) N) (hV : cp_NV N) {o : cp_Od} {p : Nat} (hp : cp_pP w len s = (some o, p)) : cp_Fr lc E yX7_readsPiece cX7_readsPiece 5 (some .boolean) 3 [.ref m] cnt sh (cp_mm J m f r) R (some (.int (cp_bi true))) (fun I' => ∃ (f' a' : Nat → Int32), I' = cp_mm J m f' (cp_row r 1 a') ∧ cp_MA a' (cp_doO N o).2 ∧ f' 11 = nI p ∧ f' 13 = (cp_doO N o).1 ∧ ∀ k, k ≠ 7 → k ≠ 8 → k ≠ 11 → k ≠ 13 → k ≠ 14 → f' k = f k) := by
  have hT1 := hT.1
  refine cp_Fn_iR [some (.ref m), none, none, none, none] (by decide +kernel) (Nat.le_of_ble_eq_true rfl) rfl (cp_bin _) (fun x hxl O hr => ?_)
  subst hxl
  refine cp_aload_n O dX7_readsPiece_0 cp_lg0 ?_
  refine cp_iconst O dX7_readsPiece_1 (v := 4) rfl ?_
  refine cp_cVir O me_X7_readsDigit mi_X7_readsDigit ml_X7_210 cp_cX7 M.s (c_X7_readsDigit (q := 4) M hT h10 h11 hs (by omega)) dX7_readsPiece_2 rfl rfl ⟨Nat.le_of_ble_eq_true rfl, Nat.le_of_ble_eq_true rfl⟩ ⟨Nat.le_refl _, Nat.le_refl _⟩ (Nat.le_of_ble_eq_true rfl) (fun I2 hT2 => ?_)
  obtain ⟨f1, rfl, a1, b1, o1⟩ := hT2
  refine cp_if_neB (tgt := 10) O dX7_readsPiece_5 (by decide) (fun c_5 => ?_) (fun c_5 => ?_)
  · rw [if_pos c_5] at a1
    have b1 := b1 c_5
    have u1 := cp_he_t c_5
    refine cp_aload_n O dX7_readsPiece_10 cp_lg0 ?_
    refine mg_X7_207 O M dX7_readsPiece_11 ?_
    refine cp_istore_n O dX7_readsPiece_14 (by decide) (cp_ls1 rfl) ?_
    refine cp_aload_n O dX7_readsPiece_15 cp_lg0 ?_
    refine cp_bipush O dX7_readsPiece_16 (v := 58) rfl ?_
    refine cp_cVir O me_X7_takesOne mi_X7_takesOne ml_X7_213 cp_cX7 M.s (c_X7_takesOne (c := 58) M hT ((o1 10 (by decide) (by decide)).trans h10) a1 (by omega) (by decide)) dX7_readsPiece_18 rfl rfl ⟨Nat.le_of_ble_eq_true rfl, Nat.le_of_ble_eq_true rfl⟩ ⟨Nat.le_refl _, Nat.le_refl _⟩ (Nat.le_of_ble_eq_true rfl) (fun I18 hT18 => ?_)
    obtain ⟨f2, rfl, a2, b2, o2⟩ := hT18
    have o2 := cp_FF_t o1 o2
    refine cp_if_eqB (tgt := 31) O dX7_readsPiece_21 (by decide) (fun c_21 => ?_) (fun c_21 => ?_)
    · exact absurd (hp.symm.trans (cp_pP_2 c_5 c_21)) (by simp)
    · rw [if_pos c_21] at a2
      have u2 := cp_he_t c_21
      refine cp_aload_n O dX7_readsPiece_24 cp_lg0 ?_
      refine cp_cVir O me_X7_readsNumber mi_X7_readsNumber ml_X7_216 cp_cX7 M.s (c_X7_readsNumber (s := s + 2) M hT ((o2 10 (by decide) (by decide)).trans h10) a2 (by omega)) dX7_readsPiece_25 rfl rfl ⟨Nat.le_of_ble_eq_true rfl, Nat.le_of_ble_eq_true rfl⟩ ⟨Nat.le_refl _, Nat.le_refl _⟩ (Nat.le_of_ble_eq_true rfl) (fun I25 hT25 => ?_)
      obtain ⟨f3, rfl, a3, b3, o3⟩ := hT25
      have o3 := cp_FF_t o2 o3
      refine cp_if_neB (tgt := 33) O dX7_readsPiece_28 (by decide) (fun c_28 => ?_) (fun c_28 => ?_)
      · rw [if_pos c_28] at a3
        have b3 := b3 c_28
        have u3 := cp_rn_le c_28
        refine cp_aload_n O dX7_readsPiece_33 cp_lg0 ?_
        refine mg_X7_207 O M dX7_readsPiece_34 ?_
        refine cp_istore_n O dX7_readsPiece_37 (by decide) (cp_ls2 rfl) ?_
        refine cp_aload_n O dX7_readsPiece_38 cp_lg0 ?_
        refine cp_bipush O dX7_readsPiece_39 (v := 33) rfl ?_
        refine cp_cVir O me_X7_takesOne mi_X7_takesOne ml_X7_213 cp_cX7 M.s (c_X7_takesOne (c := 33) M hT ((o3 10 (by decide) (by decide)).trans h10) a3 (by omega) (by decide)) dX7_readsPiece_41 rfl rfl ⟨Nat.le_of_ble_eq_true rfl, Nat.le_of_ble_eq_true rfl⟩ ⟨Nat.le_refl _, Nat.le_refl _⟩ (Nat.le_of_ble_eq_true rfl) (fun I41 hT41 => ?_)
        obtain ⟨f4, rfl, a4, b4, o4⟩ := hT41
        have o4 := cp_FF_t o3 o4
        refine cp_if_eqB (tgt := 56) O dX7_readsPiece_44 (by decide) (fun c_44 => ?_) (fun c_44 => ?_)
        · exact absurd (hp.symm.trans (cp_pP_4 c_5 c_21 c_28 c_44)) (by simp)
        · rw [if_pos c_44] at a4
          have u4 := cp_he_t c_44
          refine cp_aload_n O dX7_readsPiece_47 cp_lg0 ?_
          refine cp_bipush O dX7_readsPiece_48 (v := 9) rfl ?_
          refine cp_cVir O me_X7_readsDigit mi_X7_readsDigit ml_X7_210 cp_cX7 M.s (c_X7_readsDigit (s := (cp_rn w len (s + 2)).1 + 1) (q := 9) M hT ((o4 10 (by decide) (by decide)).trans h10) a4 (by omega) (by omega)) dX7_readsPiece_50 rfl rfl ⟨Nat.le_of_ble_eq_true rfl, Nat.le_of_ble_eq_true rfl⟩ ⟨Nat.le_refl _, Nat.le_refl _⟩ (Nat.le_of_ble_eq_true rfl) (fun I50 hT50 => ?_)
          obtain ⟨f5, rfl, a5, b5, o5⟩ := hT50
          have o5 := cp_FF_t o4 o5
          refine cp_if_neB (tgt := 58) O dX7_readsPiece_53 (by decide) (fun c_53 => ?_) (fun c_53 => ?_)
          · rw [if_pos c_53] at a5
            have b5 := b5 c_53
            have u5 := cp_he_t c_53
            refine cp_aload_n O dX7_readsPiece_58 cp_lg0 ?_
            refine mg_X7_207 O M dX7_readsPiece_59 ?_
            refine cp_istore_n O dX7_readsPiece_62 (by decide) (cp_ls3 rfl) ?_
            refine cp_aload_n O dX7_readsPiece_63 cp_lg0 ?_
            refine cp_bipush O dX7_readsPiece_64 (v := 76) rfl ?_
            refine cp_cVir O me_X7_takesOne mi_X7_takesOne ml_X7_213 cp_cX7 M.s (c_X7_takesOne (s := (cp_rn w len (s + 2)).1 + 2) (c := 76) M hT ((o5 10 (by decide) (by decide)).trans h10) a5 (by omega) (by decide)) dX7_readsPiece_66 rfl rfl ⟨Nat.le_of_ble_eq_true rfl, Nat.le_of_ble_eq_true rfl⟩ ⟨Nat.le_refl _, Nat.le_refl _⟩ (Nat.le_of_ble_eq_true rfl) (fun I66 hT66 => ?_)
            obtain ⟨f6, rfl, a6, b6, o6⟩ := hT66
            have o6 := cp_FF_t o5 o6
            have hP := cp_pP_6 c_5 c_21 c_28 c_44 c_53
            refine cp_if_eqB (tgt := 76) O dX7_readsPiece_69 (by decide) (fun c_69 => ?_) (fun c_69 => ?_)
            · rw [if_neg (cp_bF c_69)] at a6
              simp only [if_neg (cp_bF c_69)] at hP
              obtain ⟨ho, hpp⟩ := Prod.mk.inj (hp.symm.trans hP)
              obtain rfl := Option.some.inj ho
              subst hpp
              refine cp_iconst O dX7_readsPiece_76 (v := 0) rfl ?_
              refine cp_istore O dX7_readsPiece_77 (by decide) (cp_ls4 rfl) ?_
              refine cp_aload_n O dX7_readsPiece_79 cp_lg0 ?_
              refine cp_aload_n O dX7_readsPiece_80 cp_lg0 ?_
              refine mg_X7_219 O M dX7_readsPiece_81 ?_
              rw [o6 12 (by decide) (by decide), h12]
              refine cp_if_eq (tgt := 99) O dX7_readsPiece_84 (by decide) (fun c_84 => ?_) (fun c_84 => ?_)
              · exact absurd c_84 (by decide)
              · refine cp_aload_n O dX7_readsPiece_87 cp_lg0 ?_
                refine cp_iload_n O dX7_readsPiece_88 cp_lg1 ?_
                refine cp_iload_n O dX7_readsPiece_89 cp_lg2 ?_
                refine cp_iload_n O dX7_readsPiece_90 cp_lg3 ?_
                refine cp_iload O dX7_readsPiece_91 cp_lg4 ?_
                rw [b1, b3, b5]
                refine cp_cVir O me_X7_doPiece mi_X7_doPiece ml_X7_146 cp_cX7 M.s (l_X7_doPiece M hA hV) dX7_readsPiece_93 rfl rfl ⟨Nat.le_of_ble_eq_true rfl, Nat.le_of_ble_eq_true rfl⟩ ⟨Nat.le_refl _, Nat.le_refl _⟩ (Nat.le_of_ble_eq_true rfl) (fun I93 hT93 => ?_)
                obtain ⟨f7, a7, rfl, hA7, o7⟩ := hT93
                refine cp_goto (tgt := 100) O dX7_readsPiece_96 (by decide) ?_
                refine mp_X7_223 O M dX7_readsPiece_100 ?_
                refine cp_iconst O dX7_readsPiece_103 (v := 1) rfl ?_
                exact hr _ _ _ _ dX7_readsPiece_104 rfl ⟨_, a7, rfl, hA7, by rw [cp_upd_n (by decide), o7 11 (by decide) (by decide)]; exact a6, by rw [cp_upd_s]; rfl, fun k k7 k8 k11 k13 k14 => by rw [cp_upd_n k13, o7 k k7 k8]; exact o6 k k11 k14⟩
            · rw [if_pos c_69] at a6
              simp only [if_pos c_69] at hP
              obtain ⟨ho, hpp⟩ := Prod.mk.inj (hp.symm.trans hP)
              obtain rfl := Option.some.inj ho
              subst hpp
              refine cp_iconst O dX7_readsPiece_72 (v := 1) rfl ?_
              refine cp_goto (tgt := 77) O dX7_readsPiece_73 (by decide) ?_
              refine cp_istore O dX7_readsPiece_77 (by decide) (cp_ls4 rfl) ?_
              refine cp_aload_n O dX7_readsPiece_79 cp_lg0 ?_
              refine cp_aload_n O dX7_readsPiece_80 cp_lg0 ?_
              refine mg_X7_219 O M dX7_readsPiece_81 ?_
              rw [o6 12 (by decide) (by decide), h12]
              refine cp_if_eq (tgt := 99) O dX7_readsPiece_84 (by decide) (fun c_84 => ?_) (fun c_84 => ?_)
              · exact absurd c_84 (by decide)
              · refine cp_aload_n O dX7_readsPiece_87 cp_lg0 ?_
                refine cp_iload_n O dX7_readsPiece_88 cp_lg1 ?_
                refine cp_iload_n O dX7_readsPiece_89 cp_lg2 ?_
                refine cp_iload_n O dX7_readsPiece_90 cp_lg3 ?_
                refine cp_iload O dX7_readsPiece_91 cp_lg4 ?_
                rw [b1, b3, b5]
                refine cp_cVir O me_X7_doPiece mi_X7_doPiece ml_X7_146 cp_cX7 M.s (l_X7_doPiece M hA hV) dX7_readsPiece_93 rfl rfl ⟨Nat.le_of_ble_eq_true rfl, Nat.le_of_ble_eq_true rfl⟩ ⟨Nat.le_refl _, Nat.le_refl _⟩ (Nat.le_of_ble_eq_true rfl) (fun I93 hT93 => ?_)
                obtain ⟨f7, a7, rfl, hA7, o7⟩ := hT93
                refine cp_goto (tgt := 100) O dX7_readsPiece_96 (by decide) ?_
                refine mp_X7_223 O M dX7_readsPiece_100 ?_
                refine cp_iconst O dX7_readsPiece_103 (v := 1) rfl ?_
                exact hr _ _ _ _ dX7_readsPiece_104 rfl ⟨_, a7, rfl, hA7, by rw [cp_upd_n (by decide), o7 11 (by decide) (by decide)]; exact a6, by rw [cp_upd_s]; rfl, fun k k7 k8 k11 k13 k14 => by rw [cp_upd_n k13, o7 k k7 k8]; exact o6 k k11 k14⟩
          · exact absurd (hp.symm.trans (cp_pP_5 c_5 c_21 c_28 c_44 c_53)) (by simp)
      · exact absurd (hp.symm.trans (cp_pP_3 c_5 c_21 c_28)) (by simp)
  · exact absurd (hp.symm.trans (cp_pP_1 c_5)) (by simp)
