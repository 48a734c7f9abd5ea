/-- a text is w with a length; does a character between two stand at s -/
def cp_he (w : Nat → Nat) (len s lo hi : Nat) : Bool := decide (s < len ∧ lo ≤ w s ∧ w s ≤ hi)
theorem cp_he_t {w : Nat → Nat} {len s lo hi : Nat} (h : cp_he w len s lo hi = true) : s < len ∧ lo ≤ w s ∧ w s ≤ hi := of_decide_eq_true h
theorem cp_he_f {w : Nat → Nat} {len s lo hi : Nat} (h : cp_he w len s lo hi = false) : ¬ (s < len ∧ lo ≤ w s ∧ w s ≤ hi) := of_decide_eq_false h
theorem cp_he_o {w : Nat → Nat} {len s lo hi : Nat} (h : len ≤ s) : cp_he w len s lo hi = false := decide_eq_false (fun z => by omega)
/-- the digits behind a first one -/
def cp_dg (w : Nat → Nat) (len : Nat) : Nat → Nat → Nat → Nat × Nat
  | 0, s, k => (s, k)
  | t + 1, s, k => if 0 < k ∧ cp_he w len s 48 57 = true ∧ 10 * k + w s - 48 ≤ 999 then cp_dg w len t (s + 1) (10 * k + w s - 48) else (s, k)
def cp_dgs (w : Nat → Nat) (len s k : Nat) : Nat × Nat := cp_dg w len (len - s) s k
theorem cp_dgs_1 {w : Nat → Nat} {len s k : Nat} (h1 : 0 < k) (h2 : cp_he w len s 48 57 = true) (h3 : 10 * k + w s - 48 ≤ 999) : cp_dgs w len s k = cp_dgs w len (s + 1) (10 * k + w s - 48) := by
  have := (cp_he_t h2).1
  unfold cp_dgs
  rw [show len - s = (len - (s + 1)) + 1 by omega]
  show (if 0 < k ∧ cp_he w len s 48 57 = true ∧ 10 * k + w s - 48 ≤ 999 then cp_dg w len (len - (s + 1)) (s + 1) (10 * k + w s - 48) else (s, k)) = _
  rw [if_pos ⟨h1, h2, h3⟩]
theorem cp_dgs_0 {w : Nat → Nat} {len s k : Nat} (h : ¬ (0 < k ∧ cp_he w len s 48 57 = true ∧ 10 * k + w s - 48 ≤ 999)) : cp_dgs w len s k = (s, k) := by
  unfold cp_dgs
  cases len - s with
  | zero => rfl
  | succ t =>
    show (if 0 < k ∧ cp_he w len s 48 57 = true ∧ 10 * k + w s - 48 ≤ 999 then cp_dg w len t (s + 1) (10 * k + w s - 48) else (s, k)) = _
    rw [if_neg h]
/-- a number that begins at s: where it ends, and what it is -/
def cp_rn (w : Nat → Nat) (len s : Nat) : Nat × Nat := cp_dgs w len (s + 1) (w s - 48)
theorem cp_dgs_le {w : Nat → Nat} {len : Nat} : ∀ t s k, len - s = t → s ≤ len → k ≤ 999 → s ≤ (cp_dgs w len s k).1 ∧ (cp_dgs w len s k).1 ≤ len ∧ (cp_dgs w len s k).2 ≤ 999 := by
  intro t
  induction t with
  | zero => intro s k ht hs hk; unfold cp_dgs; rw [ht]; exact ⟨Nat.le_refl _, hs, hk⟩
  | succ t ih =>
    intro s k ht hs hk
    by_cases h : 0 < k ∧ cp_he w len s 48 57 = true ∧ 10 * k + w s - 48 ≤ 999
    · rw [cp_dgs_1 h.1 h.2.1 h.2.2]
      have := ih (s + 1) (10 * k + w s - 48) (by omega) (by omega) h.2.2
      omega
    · rw [cp_dgs_0 h]; exact ⟨Nat.le_refl _, hs, hk⟩
theorem cp_rn_le {w : Nat → Nat} {len s : Nat} (h : cp_he w len s 48 57 = true) : s < (cp_rn w len s).1 ∧ (cp_rn w len s).1 ≤ len ∧ (cp_rn w len s).2 ≤ 999 := by
  have h1 := cp_he_t h
  have := cp_dgs_le (w := w) (len := len) _ (s + 1) (w s - 48) rfl (by omega) (by omega)
  unfold cp_rn
  omega
/-- what the pad's array holds -/
def cp_TX (t : Nat → Int32) (w : Nat → Nat) (len : Nat) : Prop := len ≤ 80 ∧ ∀ i, i < len → t i = nI (w i) ∧ w i < 128
theorem cp_he_in {w : Nat → Nat} {len s lo hi : Nat} {v : Int32} (hs : s < len) (hv : v = nI (w s)) (hw : w s < 128) (h1 : lo < 128) (h2 : hi < 128) : decide ((nI lo).toInt64 ≤ v.toInt64 ∧ v.toInt64 ≤ (nI hi).toInt64) = cp_he w len s lo hi := by
  subst hv
  unfold cp_he
  apply decide_eq_decide.mpr
  rw [nI_l (by omega), nI_l (by omega), nI_l (by omega), lN_le (by omega) (by omega), lN_le (by omega) (by omega)]
  constructor
  · rintro ⟨a, b⟩; exact ⟨hs, a, b⟩
  · rintro ⟨_, a, b⟩; exact ⟨a, b⟩
def cp_FF (f f' : Nat → Int32) : Prop := ∀ k, k ≠ 11 → k ≠ 14 → f' k = f k
theorem cp_FF_r (f : Nat → Int32) : cp_FF f f := fun _ _ _ => rfl
theorem cp_FF_t {f f1 f2 : Nat → Int32} (h1 : cp_FF f f1) (h2 : cp_FF f1 f2) : cp_FF f f2 := fun k a b => (h2 k a b).trans (h1 k a b)
theorem cp_FF_u {f f' : Nat → Int32} (h : cp_FF f f') {q : Nat} {v : Int32} (hq : q = 11 ∨ q = 14) : cp_FF f (upd f' q v) := fun k a b => by
  rcases hq with rfl | rfl
  · exact (cp_upd_n a).trans (h k a b)
  · exact (cp_upd_n b).trans (h k a b)
theorem cp_nle0 {k : Nat} (h : nI k ≤ 0) (hk : k < 2 ^ 31) : k = 0 := by
  have h2 : nI k ≤ nI 0 := h
  have := (nI_leI hk (by omega)).mp h2
  omega
set_option maxHeartbeats 4000000 in
set_option maxRecDepth 100000 in
theorem c_X7_isHere {lc : Launch} {E : cp_En} {cnt : Nat} {sh : cp_Shp} {R : cp_Rem} {J : cp_Mem} {m : Nat} {f : Nat → Int32} {r : Nat → Nat → Int32} (M : cp_ML sh R m) {w : Nat → Nat} {len s : Nat} (hT : cp_TX (r 7) w len) (h10 : f 10 = nI len) (h11 : f 11 = nI s) (hs : s ≤ len) {lo hi : Nat} (hlo : lo < 128) (hhi : hi < 128) : cp_Fn lc E yX7_isHere cX7_isHere 3 (some .boolean) 1 [.ref m, .int (nI lo), .int (nI hi)] cnt sh (cp_mm J m f r) R (some (.int (cp_bi (cp_he w len s lo hi)))) (cp_mm J m f r) := by
  have hT1 := hT.1
  refine cp_Fn_i [some (.ref m), some (.int (nI lo)), some (.int (nI hi))] (by decide +kernel) (Nat.le_of_ble_eq_true rfl) rfl (cp_bin _) (fun x hxl O hr => ?_)
  subst hxl
  refine cp_aload_n O dX7_isHere_0 cp_lg0 ?_
  refine mg_X7_201 O M dX7_isHere_1 ?_
  refine cp_aload_n O dX7_isHere_4 cp_lg0 ?_
  refine mg_X7_183 O M dX7_isHere_5 ?_
  refine cp_icmp_geN (tgt := 35) O dX7_isHere_8 (by decide) (a := s) (b := len) h11 h10 (by omega) (by omega) (fun c_8 => ?_) (fun c_8 => ?_)
  · have hz : cp_he w len s lo hi = false := cp_he_o c_8
    refine cp_iconst O dX7_isHere_35 (v := 0) rfl ?_
    exact hr _ _ _ _ dX7_isHere_36 (cp_bi_f hz) rfl
  · refine cp_aload_n O dX7_isHere_11 cp_lg0 ?_
    refine fg_X7_28 O M.s M.f9 dX7_isHere_12 ?_
    refine cp_aload_n O dX7_isHere_15 cp_lg0 ?_
    refine mg_X7_201 O M dX7_isHere_16 ?_
    refine cp_ialdM (k := 7) O M.s9 (by decide) (j := s) h11 (by omega) (by decide) dX7_isHere_19 ?_
    refine cp_i2l O dX7_isHere_20 ?_
    refine cp_iload_n O dX7_isHere_21 cp_lg1 ?_
    refine cp_i2l O dX7_isHere_22 ?_
    refine cp_iload_n O dX7_isHere_23 cp_lg2 ?_
    refine cp_i2l O dX7_isHere_24 ?_
    refine cp_cSi O me_X7_in ms_X7_in ml_X7_35 (c_X7_in) dX7_isHere_25 rfl rfl ⟨Nat.le_of_ble_eq_true rfl, Nat.le_of_ble_eq_true rfl⟩ ⟨Nat.le_refl _, Nat.le_refl _⟩ (Nat.le_of_ble_eq_true rfl) ?_
    rw [cp_he_in c_8 (hT.2 s c_8).1 (hT.2 s c_8).2 hlo hhi]
    refine cp_if_eqB (tgt := 35) O dX7_isHere_28 (by decide) (fun c_28 => ?_) (fun c_28 => ?_)
    · refine cp_iconst O dX7_isHere_35 (v := 0) rfl ?_
      exact hr _ _ _ _ dX7_isHere_36 (cp_bi_f c_28) rfl
    · refine cp_iconst O dX7_isHere_31 (v := 1) rfl ?_
      refine cp_goto (tgt := 36) O dX7_isHere_32 (by decide) ?_
      exact hr _ _ _ _ dX7_isHere_36 (cp_bi_t c_28) rfl
set_option maxHeartbeats 4000000 in
set_option maxRecDepth 100000 in
theorem c_X7_takesOne {lc : Launch} {E : cp_En} {cnt : Nat} {sh : cp_Shp} {R : cp_Rem} {J : cp_Mem} {m : Nat} {f : Nat → Int32} {r : Nat → Nat → Int32} (M : cp_ML sh R m) {w : Nat → Nat} {len s : Nat} (hT : cp_TX (r 7) w len) (h10 : f 10 = nI len) (h11 : f 11 = nI s) (hs : s ≤ len) {c : Nat} (hc : c < 128) : cp_Fr lc E yX7_takesOne cX7_takesOne 3 (some .boolean) 2 [.ref m, .int (nI c)] cnt sh (cp_mm J m f r) R (some (.int (cp_bi (cp_he w len s c c)))) (fun I' => ∃ f', I' = cp_mm J m f' r ∧ f' 11 = nI (if cp_he w len s c c = true then s + 1 else s) ∧ f' 14 = f 14 ∧ cp_FF f f') := by
  have hT1 := hT.1
  refine cp_Fn_iR [some (.ref m), some (.int (nI c)), none] (by decide +kernel) (Nat.le_of_ble_eq_true rfl) rfl (cp_bin _) (fun x hxl O hr => ?_)
  subst hxl
  refine cp_aload_n O dX7_takesOne_0 cp_lg0 ?_
  refine cp_iload_n O dX7_takesOne_1 cp_lg1 ?_
  refine cp_iload_n O dX7_takesOne_2 cp_lg1 ?_
  refine cp_cVi O me_X7_isHere mi_X7_isHere ml_X7_204 cp_cX7 M.s (c_X7_isHere M hT h10 h11 hs hc hc) dX7_takesOne_3 rfl rfl ⟨Nat.le_of_ble_eq_true rfl, Nat.le_of_ble_eq_true rfl⟩ ⟨Nat.le_refl _, Nat.le_refl _⟩ (Nat.le_of_ble_eq_true rfl) ?_
  refine cp_istore_n O dX7_takesOne_6 (by decide) (cp_ls2 rfl) ?_
  refine cp_aload_n O dX7_takesOne_7 cp_lg0 ?_
  refine cp_dup O dX7_takesOne_8 rfl ?_
  refine mg_X7_201 O M dX7_takesOne_9 ?_
  refine cp_iload_n O dX7_takesOne_12 cp_lg2 ?_
  refine cp_if_eqB (tgt := 20) O dX7_takesOne_13 (by decide) (fun c_13 => ?_) (fun c_13 => ?_)
  · refine cp_iconst O dX7_takesOne_20 (v := 0) rfl ?_
    refine cp_iadd O dX7_takesOne_21 ?_
    refine mp_X7_201 O M dX7_takesOne_22 ?_
    refine cp_iload_n O dX7_takesOne_25 cp_lg2 ?_
    exact hr _ _ _ _ dX7_takesOne_26 rfl ⟨_, rfl, by rw [cp_upd_s, h11, c_13]; exact Int32.add_zero _, cp_upd_n (by decide), cp_FF_u (cp_FF_r f) (Or.inl rfl)⟩
  · refine cp_iconst O dX7_takesOne_16 (v := 1) rfl ?_
    refine cp_goto (tgt := 21) O dX7_takesOne_17 (by decide) ?_
    refine cp_iadd O dX7_takesOne_21 ?_
    refine mp_X7_201 O M dX7_takesOne_22 ?_
    refine cp_iload_n O dX7_takesOne_25 cp_lg2 ?_
    exact hr _ _ _ _ dX7_takesOne_26 rfl ⟨_, rfl, by rw [cp_upd_s, h11, c_13]; exact nI_1 s, cp_upd_n (by decide), cp_FF_u (cp_FF_r f) (Or.inl rfl)⟩
set_option maxHeartbeats 4000000 in
set_option maxRecDepth 100000 in
theorem c_X7_readsDigit {lc : Launch} {E : cp_En} {cnt : Nat} {sh : cp_Shp} {R : cp_Rem} {J : cp_Mem} {m : Nat} {f : Nat → Int32} {r : Nat → Nat → Int32} (M : cp_ML sh R m) {w : Nat → Nat} {len s : Nat} (hT : cp_TX (r 7) w len) (h10 : f 10 = nI len) (h11 : f 11 = nI s) (hs : s ≤ len) {q : Nat} (hq : q ≤ 9) : cp_Fr lc E yX7_readsDigit cX7_readsDigit 3 (some .boolean) 2 [.ref m, .int (nI q)] cnt sh (cp_mm J m f r) R (some (.int (cp_bi (cp_he w len s 48 (48 + q))))) (fun I' => ∃ f', I' = cp_mm J m f' r ∧ f' 11 = nI (if cp_he w len s 48 (48 + q) = true then s + 1 else s) ∧ (cp_he w len s 48 (48 + q) = true → f' 14 = nI (w s - 48)) ∧ cp_FF f f') := by
  have hT1 := hT.1
  refine cp_Fn_iR [some (.ref m), some (.int (nI q)), none] (by decide +kernel) (Nat.le_of_ble_eq_true rfl) rfl (cp_bin _) (fun x hxl O hr => ?_)
  subst hxl
  refine cp_aload_n O dX7_readsDigit_0 cp_lg0 ?_
  refine cp_bipush O dX7_readsDigit_1 (v := 48) rfl ?_
  refine cp_bipush O dX7_readsDigit_3 (v := 48) rfl ?_
  refine cp_iload_n O dX7_readsDigit_5 cp_lg1 ?_
  refine cp_iadd O dX7_readsDigit_6 ?_
  rw [show (48 : Int32) + nI q = nI (48 + q) from cp_ad (a := 48) rfl rfl, show (48 : Int32) = nI 48 from rfl]
  refine cp_cVi O me_X7_isHere mi_X7_isHere ml_X7_204 cp_cX7 M.s (c_X7_isHere (lo := 48) (hi := 48 + q) M hT h10 h11 hs (by omega) (by omega)) dX7_readsDigit_7 rfl rfl ⟨Nat.le_of_ble_eq_true rfl, Nat.le_of_ble_eq_true rfl⟩ ⟨Nat.le_refl _, Nat.le_refl _⟩ (Nat.le_of_ble_eq_true rfl) ?_
  refine cp_istore_n O dX7_readsDigit_10 (by decide) (cp_ls2 rfl) ?_
  refine cp_aload_n O dX7_readsDigit_11 cp_lg0 ?_
  refine cp_iload_n O dX7_readsDigit_12 cp_lg2 ?_
  refine cp_if_eqB (tgt := 31) O dX7_readsDigit_13 (by decide) (fun c_13 => ?_) (fun c_13 => ?_)
  · refine cp_iconst O dX7_readsDigit_31 (v := 0) rfl ?_
    refine mp_X7_207 O M dX7_readsDigit_32 ?_
    
    refine cp_aload_n O dX7_readsDigit_35 cp_lg0 ?_
    refine cp_dup O dX7_readsDigit_36 rfl ?_
    refine mg_X7_201 O M dX7_readsDigit_37 ?_
    refine cp_iload_n O dX7_readsDigit_40 cp_lg2 ?_
    refine cp_if_eqB (tgt := 48) O dX7_readsDigit_41 (by decide) (fun c_41 => ?_) (fun c_41 => ?_)
    · refine cp_iconst O dX7_readsDigit_48 (v := 0) rfl ?_
      refine cp_iadd O dX7_readsDigit_49 ?_
      refine mp_X7_201 O M dX7_readsDigit_50 ?_
      refine cp_iload_n O dX7_readsDigit_53 cp_lg2 ?_
      exact hr _ _ _ _ dX7_readsDigit_54 rfl ⟨_, rfl, by rw [cp_upd_s, cp_upd_n (by decide), h11, if_neg (by rw [c_13]; decide)]; exact Int32.add_zero _, fun z => by rw [c_13] at z; exact absurd z (by decide), cp_FF_u (cp_FF_u (cp_FF_r f) (Or.inr rfl)) (Or.inl rfl)⟩
    · exact absurd (c_13.symm.trans c_41) (by decide)
  · obtain ⟨q1, q2, q3⟩ := cp_he_t c_13
    have hw := (hT.2 s q1).1
    refine cp_aload_n O dX7_readsDigit_16 cp_lg0 ?_
    refine fg_X7_28 O M.s M.f9 dX7_readsDigit_17 ?_
    refine cp_aload_n O dX7_readsDigit_20 cp_lg0 ?_
    refine mg_X7_201 O M dX7_readsDigit_21 ?_
    refine cp_ialdM (k := 7) O M.s9 (by decide) (j := s) h11 (by omega) (by decide) dX7_readsDigit_24 ?_
    refine cp_bipush O dX7_readsDigit_25 (v := 48) rfl ?_
    refine cp_isub O dX7_readsDigit_27 ?_
    refine cp_goto (tgt := 32) O dX7_readsDigit_28 (by decide) ?_
    refine mp_X7_207 O M dX7_readsDigit_32 ?_
    
    refine cp_aload_n O dX7_readsDigit_35 cp_lg0 ?_
    refine cp_dup O dX7_readsDigit_36 rfl ?_
    refine mg_X7_201 O M dX7_readsDigit_37 ?_
    refine cp_iload_n O dX7_readsDigit_40 cp_lg2 ?_
    refine cp_if_eqB (tgt := 48) O dX7_readsDigit_41 (by decide) (fun c_41 => ?_) (fun c_41 => ?_)
    · exact absurd (c_13.symm.trans c_41) (by decide)
    · refine cp_iconst O dX7_readsDigit_44 (v := 1) rfl ?_
      refine cp_goto (tgt := 49) O dX7_readsDigit_45 (by decide) ?_
      refine cp_iadd O dX7_readsDigit_49 ?_
      refine mp_X7_201 O M dX7_readsDigit_50 ?_
      refine cp_iload_n O dX7_readsDigit_53 cp_lg2 ?_
      exact hr _ _ _ _ dX7_readsDigit_54 rfl ⟨_, rfl, by rw [cp_upd_s, cp_upd_n (by decide), h11, if_pos c_13]; exact nI_1 s, fun _ => by rw [cp_upd_n (by decide), cp_upd_s, hw]; exact cp_sb (b := 48) rfl rfl q2, cp_FF_u (cp_FF_u (cp_FF_r f) (Or.inr rfl)) (Or.inl rfl)⟩
set_option maxHeartbeats 4000000 in
set_option maxRecDepth 100000 in
theorem c_X7_readsNumber {lc : Launch} {E : cp_En} {cnt : Nat} {sh : cp_Shp} {R : cp_Rem} {J : cp_Mem} {m : Nat} {f : Nat → Int32} {r : Nat → Nat → Int32} (M : cp_ML sh R m) {w : Nat → Nat} {len s : Nat} (hT : cp_TX (r 7) w len) (h10 : f 10 = nI len) (h11 : f 11 = nI s) (hs : s ≤ len) : cp_Fr lc E yX7_readsNumber cX7_readsNumber 1 (some .boolean) 2 [.ref m] cnt sh (cp_mm J m f r) R (some (.int (cp_bi (cp_he w len s 48 57)))) (fun I' => ∃ f', I' = cp_mm J m f' r ∧ f' 11 = nI (if cp_he w len s 48 57 = true then (cp_rn w len s).1 else s) ∧ (cp_he w len s 48 57 = true → f' 14 = nI (cp_rn w len s).2) ∧ cp_FF f f') := by
  have hT1 := hT.1
  refine cp_Fn_iR [some (.ref m)] (by decide +kernel) (Nat.le_of_ble_eq_true rfl) rfl (cp_bin _) (fun x hxl O hr => ?_)
  subst hxl
  refine cp_aload_n O dX7_readsNumber_0 cp_lg0 ?_
  refine cp_bipush O dX7_readsNumber_1 (v := 48) rfl ?_
  refine cp_bipush O dX7_readsNumber_3 (v := 57) rfl ?_
  refine cp_cVi O me_X7_isHere mi_X7_isHere ml_X7_204 cp_cX7 M.s (c_X7_isHere (lo := 48) (hi := 57) M hT h10 h11 hs (by omega) (by omega)) dX7_readsNumber_5 rfl rfl ⟨Nat.le_of_ble_eq_true rfl, Nat.le_of_ble_eq_true rfl⟩ ⟨Nat.le_refl _, Nat.le_refl _⟩ (Nat.le_of_ble_eq_true rfl) ?_
  refine cp_if_neB (tgt := 13) O dX7_readsNumber_8 (by decide) (fun c_8 => ?_) (fun c_8 => ?_)
  · obtain ⟨q1, q2, q3⟩ := cp_he_t c_8
    have hw := (hT.2 s q1).1
    refine cp_aload_n O dX7_readsNumber_13 cp_lg0 ?_
    refine cp_aload_n O dX7_readsNumber_14 cp_lg0 ?_
    refine fg_X7_28 O M.s M.f9 dX7_readsNumber_15 ?_
    refine cp_aload_n O dX7_readsNumber_18 cp_lg0 ?_
    refine mg_X7_201 O M dX7_readsNumber_19 ?_
    refine cp_ialdM (k := 7) O M.s9 (by decide) (j := s) h11 (by omega) (by decide) dX7_readsNumber_22 ?_
    refine cp_bipush O dX7_readsNumber_23 (v := 48) rfl ?_
    refine cp_isub O dX7_readsNumber_25 ?_
    refine mp_X7_207 O M dX7_readsNumber_26 ?_
    refine cp_aload_n O dX7_readsNumber_29 cp_lg0 ?_
    refine cp_dup O dX7_readsNumber_30 rfl ?_
    refine mg_X7_201 O M dX7_readsNumber_31 ?_
    refine cp_iconst O dX7_readsNumber_34 (v := 1) rfl ?_
    refine cp_iadd O dX7_readsNumber_35 ?_
    refine mp_X7_201 O M dX7_readsNumber_36 ?_
    have loop39 : ∀ tt s' k (f' : Nat → Int32), len - s' = tt → s' ≤ len → k ≤ 999 → f' 11 = nI s' → f' 14 = nI k → cp_FF f f' → cp_dgs w len s' k = cp_rn w len s → cp_G x E 1 0 0 cnt sh (cp_mm J m f' r) R 39 [some (.ref m)] [] := by
      intro tt
      refine cp_down (P := fun tt => ∀ s' k (f' : Nat → Int32), len - s' = tt → s' ≤ len → k ≤ 999 → f' 11 = nI s' → f' 14 = nI k → cp_FF f f' → cp_dgs w len s' k = cp_rn w len s → cp_G x E 1 0 0 cnt sh (cp_mm J m f' r) R 39 [some (.ref m)] []) (fun tt ih s' k f' htt hs' hk e11 e14 hff hdg => ?_) tt
      refine cp_aload_n O dX7_readsNumber_39 cp_lg0 ?_
      refine mg_X7_207 O M dX7_readsNumber_40 ?_
      rw [e14]
      refine cp_if_le (tgt := 120) O dX7_readsNumber_43 (by decide) (fun c_43 => ?_) (fun c_43 => ?_)
      · have hd0 := cp_dgs_0 (w := w) (len := len) (s := s') (k := k) (fun z => by have := cp_nle0 c_43 (by omega); omega)
        refine cp_iconst O dX7_readsNumber_120 (v := 1) rfl ?_
        exact hr _ _ _ _ dX7_readsNumber_121 (cp_bi_t c_8) ⟨_, rfl, by rw [if_pos c_8, ← hdg, hd0]; exact e11, fun _ => by rw [← hdg, hd0]; exact e14, hff⟩
      · have hk0 : 0 < k := by
          rcases Nat.eq_zero_or_pos k with h | h
          · exact absurd (show nI k ≤ 0 by rw [h]; decide) c_43
          · exact h
        refine cp_aload_n O dX7_readsNumber_46 cp_lg0 ?_
        refine cp_bipush O dX7_readsNumber_47 (v := 48) rfl ?_
        refine cp_bipush O dX7_readsNumber_49 (v := 57) rfl ?_
        refine cp_cVi O me_X7_isHere mi_X7_isHere ml_X7_204 cp_cX7 M.s (c_X7_isHere (lo := 48) (hi := 57) M hT ((hff 10 (by decide) (by decide)).trans h10) e11 hs' (by omega) (by omega)) dX7_readsNumber_51 rfl rfl ⟨Nat.le_of_ble_eq_true rfl, Nat.le_of_ble_eq_true rfl⟩ ⟨Nat.le_refl _, Nat.le_refl _⟩ (Nat.le_of_ble_eq_true rfl) ?_
        refine cp_if_eqB (tgt := 120) O dX7_readsNumber_54 (by decide) (fun c_54 => ?_) (fun c_54 => ?_)
        · have hd0 := cp_dgs_0 (w := w) (len := len) (s := s') (k := k) (fun z => by rw [c_54] at z; exact absurd z.2.1 (by decide))
          refine cp_iconst O dX7_readsNumber_120 (v := 1) rfl ?_
          exact hr _ _ _ _ dX7_readsNumber_121 (cp_bi_t c_8) ⟨_, rfl, by rw [if_pos c_8, ← hdg, hd0]; exact e11, fun _ => by rw [← hdg, hd0]; exact e14, hff⟩
        · obtain ⟨q1', q2', q3'⟩ := cp_he_t c_54
          have hw' := (hT.2 s' q1').1
          refine cp_bipush O dX7_readsNumber_57 (v := 10) rfl ?_
          refine cp_aload_n O dX7_readsNumber_59 cp_lg0 ?_
          refine mg_X7_207 O M dX7_readsNumber_60 ?_
          refine cp_imul O dX7_readsNumber_63 ?_
          refine cp_aload_n O dX7_readsNumber_64 cp_lg0 ?_
          refine fg_X7_28 O M.s M.f9 dX7_readsNumber_65 ?_
          refine cp_aload_n O dX7_readsNumber_68 cp_lg0 ?_
          refine mg_X7_201 O M dX7_readsNumber_69 ?_
          refine cp_ialdM (k := 7) O M.s9 (by decide) (j := s') e11 (by omega) (by decide) dX7_readsNumber_72 ?_
          refine cp_iadd O dX7_readsNumber_73 ?_
          refine cp_bipush O dX7_readsNumber_74 (v := 48) rfl ?_
          refine cp_isub O dX7_readsNumber_76 ?_
          refine cp_sipush O dX7_readsNumber_77 (v := 999) rfl ?_
          refine cp_icmp_gtN (tgt := 120) O dX7_readsNumber_80 (by decide) (a := (((10 * k) + (w s')) - 48)) (b := 999) (cp_sb (cp_ad (cp_mu rfl e14) ((congrArg (r 7) (show s' = s' from rfl)).trans hw')) rfl (by omega)) rfl (by omega) (by omega) (fun c_80 => ?_) (fun c_80 => ?_)
          · have hd0 := cp_dgs_0 (w := w) (len := len) (s := s') (k := k) (fun z => by omega)
            refine cp_iconst O dX7_readsNumber_120 (v := 1) rfl ?_
            exact hr _ _ _ _ dX7_readsNumber_121 (cp_bi_t c_8) ⟨_, rfl, by rw [if_pos c_8, ← hdg, hd0]; exact e11, fun _ => by rw [← hdg, hd0]; exact e14, hff⟩
          · refine cp_aload_n O dX7_readsNumber_83 cp_lg0 ?_
            refine cp_bipush O dX7_readsNumber_84 (v := 10) rfl ?_
            refine cp_aload_n O dX7_readsNumber_86 cp_lg0 ?_
            refine mg_X7_207 O M dX7_readsNumber_87 ?_
            refine cp_imul O dX7_readsNumber_90 ?_
            refine cp_aload_n O dX7_readsNumber_91 cp_lg0 ?_
            refine fg_X7_28 O M.s M.f9 dX7_readsNumber_92 ?_
            refine cp_aload_n O dX7_readsNumber_95 cp_lg0 ?_
            refine mg_X7_201 O M dX7_readsNumber_96 ?_
            refine cp_ialdM (k := 7) O M.s9 (by decide) (j := s') e11 (by omega) (by decide) dX7_readsNumber_99 ?_
            refine cp_iadd O dX7_readsNumber_100 ?_
            refine cp_bipush O dX7_readsNumber_101 (v := 48) rfl ?_
            refine cp_isub O dX7_readsNumber_103 ?_
            refine mp_X7_207 O M dX7_readsNumber_104 ?_
            refine cp_aload_n O dX7_readsNumber_107 cp_lg0 ?_
            refine cp_dup O dX7_readsNumber_108 rfl ?_
            refine mg_X7_201 O M dX7_readsNumber_109 ?_
            refine cp_iconst O dX7_readsNumber_112 (v := 1) rfl ?_
            refine cp_iadd O dX7_readsNumber_113 ?_
            refine mp_X7_201 O M dX7_readsNumber_114 ?_
            refine cp_goto (tgt := 39) O dX7_readsNumber_117 (by decide) ?_
            refine ih (by omega) (s' + 1) (10 * k + w s' - 48) _ (by omega) (by omega) (by omega) ?_ ?_ (cp_FF_u (cp_FF_u hff (Or.inr rfl)) (Or.inl rfl)) ((cp_dgs_1 hk0 c_54 (by omega)).symm.trans hdg)
            · rw [cp_upd_s, cp_upd_n (by decide), e11]; exact nI_1 s'
            · rw [cp_upd_n (by decide), cp_upd_s, e14, hw']; exact cp_sb (b := 48) (cp_ad (cp_mu (a := 10) rfl rfl) rfl) rfl (by omega)
    refine loop39 _ (s + 1) (w s - 48) _ rfl (by omega) (by omega) ?_ ?_ (cp_FF_u (cp_FF_u (cp_FF_r f) (Or.inr rfl)) (Or.inl rfl)) rfl
    · rw [cp_upd_s, cp_upd_n (by decide), h11]; exact nI_1 s
    · rw [cp_upd_n (by decide), cp_upd_s, hw]; exact cp_sb (b := 48) rfl rfl q2
  · refine cp_iconst O dX7_readsNumber_11 (v := 0) rfl ?_
    exact hr _ _ _ _ dX7_readsNumber_12 (cp_bi_f c_8) ⟨_, rfl, by rw [c_8]; exact h11, fun z => by rw [c_8] at z; exact absurd z (by decide), cp_FF_r f⟩
