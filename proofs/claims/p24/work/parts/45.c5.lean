/-- the foremost by lt of those of the first c that are q -/
def cp_gf (lt : Nat → Nat → Bool) (q : Nat → Bool) : Nat → Option Nat
  | 0 => none
  | c + 1 => if q c = true then (match cp_gf lt q c with
    | none => some c
    | some f => if lt c f = true then some c else some f) else cp_gf lt q c
section CPGF
variable {lt : Nat → Nat → Bool} {q : Nat → Bool}
theorem cp_gf_1 {c : Nat} (hq : q c = false) : cp_gf lt q (c + 1) = cp_gf lt q c := by
  show (if q c = true then _ else _) = _
  rw [if_neg (cp_bF hq)]
theorem cp_gf_2 {c : Nat} (hq : q c = true) (h : cp_gf lt q c = none) : cp_gf lt q (c + 1) = some c := by
  show (if q c = true then (match cp_gf lt q c with
    | none => some c
    | some f => if lt c f = true then some c else some f) else cp_gf lt q c) = _
  rw [if_pos hq, h]
theorem cp_gf_3 {c f : Nat} (hq : q c = true) (h : cp_gf lt q c = some f) (ha : lt c f = true) : cp_gf lt q (c + 1) = some c := by
  show (if q c = true then (match cp_gf lt q c with
    | none => some c
    | some f => if lt c f = true then some c else some f) else cp_gf lt q c) = _
  rw [if_pos hq, h]
  exact if_pos ha
theorem cp_gf_4 {c f : Nat} (h : cp_gf lt q c = some f) (ha : lt c f = false) : cp_gf lt q (c + 1) = some f := by
  by_cases hq : q c = true
  · show (if q c = true then (match cp_gf lt q c with
      | none => some c
      | some f => if lt c f = true then some c else some f) else cp_gf lt q c) = _
    rw [if_pos hq, h]
    exact if_neg (cp_bF ha)
  · rw [cp_gf_1 (Bool.eq_false_iff.mpr hq), h]
theorem cp_gf_lt : ∀ {c f : Nat}, cp_gf lt q c = some f → f < c ∧ q f = true
  | 0, f, h => by exact absurd h (by simp [cp_gf])
  | c + 1, f, h => by
    by_cases hq : q c = true
    · cases hg : cp_gf lt q c with
      | none => rw [cp_gf_2 hq hg] at h; obtain rfl := Option.some.inj h; exact ⟨by omega, hq⟩
      | some g =>
        have h2 := cp_gf_lt hg
        by_cases ha : lt c g = true
        · rw [cp_gf_3 hq hg ha] at h; obtain rfl := Option.some.inj h; exact ⟨by omega, hq⟩
        · rw [cp_gf_4 hg (Bool.eq_false_iff.mpr ha)] at h; obtain rfl := Option.some.inj h; exact ⟨by omega, h2.2⟩
    · rw [cp_gf_1 (Bool.eq_false_iff.mpr hq)] at h
      have := cp_gf_lt h
      exact ⟨by omega, this.2⟩
theorem cp_gf_n : ∀ {c : Nat}, (∀ j, j < c → q j = false) → cp_gf lt q c = none
  | 0, _ => rfl
  | c + 1, h => by rw [cp_gf_1 (h c (by omega))]; exact cp_gf_n fun j hj => h j (by omega)
theorem cp_gf_s {p n : Nat} (hp : q p = true) (h : ∀ j, j < n → q j = true → j ≠ p → lt p j = true ∧ lt j p = false) : ∀ {c : Nat}, c ≤ n → p < c → cp_gf lt q c = some p
  | 0, _, hc => absurd hc (Nat.not_lt_zero _)
  | c + 1, hn, hc => by
    by_cases e : p = c
    · subst e
      cases hg : cp_gf lt q p with
      | none => exact cp_gf_2 hp hg
      | some g =>
        have h2 := cp_gf_lt hg
        exact cp_gf_3 hp hg (h g (by omega) h2.2 (by omega)).1
    · have ih := cp_gf_s hp h (c := c) (by omega) (by omega)
      by_cases hq : q c = true
      · exact cp_gf_4 ih (h c (by omega) hq (fun z => e z.symm)).2
      · rw [cp_gf_1 (Bool.eq_false_iff.mpr hq), ih]
end CPGF
def cp_l1 (P : cp_PP) (i j : Nat) : Bool := decide (P i 9 < P j 9)
set_option maxHeartbeats 4000000 in
set_option maxRecDepth 100000 in
theorem c_X1_firstAtLawyer {lc : Launch} {E : cp_En} {cnt : Nat} {sh : cp_Shp} {R : cp_Rem} {J : cp_Mem} {b : Nat} {o S : Nat → Int32} {P Q : cp_PP} (N : cp_NL sh R b) {n : Nat} (h3 : o 3 = nI n) (hn : n ≤ 24) : cp_Fn lc E yX1_firstAtLawyer cX1_firstAtLawyer 3 (some .int) 0 [.ref b] cnt sh (cp_nn J b o S P Q) R (some (.int (cp_o2i (cp_gf (cp_l1 P) (fun i => decide (P i 4 = 1)) n)))) (cp_nn J b o S P Q) := by
  refine cp_Fn_i [some (.ref b), none, none] (by decide +kernel) (Nat.le_of_ble_eq_true rfl) rfl rfl (fun x hxl O hr => ?_)
  subst hxl
  refine cp_bipush O dX1_firstAtLawyer_0 (v := (-6)) rfl ?_
  refine cp_istore_n O dX1_firstAtLawyer_2 (by decide) (cp_ls1 rfl) ?_
  refine cp_iconst O dX1_firstAtLawyer_3 (v := 0) rfl ?_
  refine cp_istore_n O dX1_firstAtLawyer_4 (by decide) (cp_ls2 rfl) ?_
  have loop5 : ∀ c, c ≤ n → cp_G x E 3 0 0 cnt sh (cp_nn J b o S P Q) R 5 [some (.ref b), some (.int (cp_o2i (cp_gf (cp_l1 P) (fun i => decide (P i 4 = 1)) c))), some (.int (nI c))] [] := by
    refine cp_up (fun c hc ih => ?_)
    have hol := cp_o2i_neg (o := (cp_gf (cp_l1 P) (fun i => decide (P i 4 = 1)) c)) (n := c) (fun f hf => (cp_gf_lt hf).1) (by omega)
    refine cp_iload_n O dX1_firstAtLawyer_5 cp_lg2 ?_
    refine cp_aload_n O dX1_firstAtLawyer_6 cp_lg0 ?_
    refine ng_X1_34 O N dX1_firstAtLawyer_7 ?_
    refine cp_icmp_geN (tgt := 59) O dX1_firstAtLawyer_10 (by decide) (a := c) (b := n) rfl h3 (by omega) (by omega) (fun c_10 => ?_) (fun c_10 => ?_)
    · refine cp_iload_n O dX1_firstAtLawyer_59 cp_lg1 ?_
      exact hr _ _ _ _ dX1_firstAtLawyer_60 (by rw [show c = n by omega]) rfl
    · refine cp_aload_n O dX1_firstAtLawyer_13 cp_lg0 ?_
      refine fg_X1_29 O N.s N.pcs dX1_firstAtLawyer_14 ?_
      refine cp_iload_n O dX1_firstAtLawyer_17 cp_lg2 ?_
      refine cp_aaldr O (Or.inr (Or.inl ⟨rfl, rfl⟩)) N.spcs (j := c) rfl (by omega) (by decide) (N.pc (by omega)) dX1_firstAtLawyer_18 ?_
      refine pg_X1_64 O N (by omega) dX1_firstAtLawyer_19 ?_
      refine cp_iconst O dX1_firstAtLawyer_22 (v := 1) rfl ?_
      refine cp_icmp_ne (tgt := 53) O dX1_firstAtLawyer_23 (by decide) (fun c_23 => ?_) (fun c_23 => ?_)
      · refine cp_iinc O dX1_firstAtLawyer_53 cp_lg2 (cp_inc rfl) (by decide) (cp_ls2 rfl) ?_
        refine cp_goto (tgt := 5) O dX1_firstAtLawyer_56 (by decide) ?_
        have ih := ih (by omega)
        rw [cp_gf_1 (decide_eq_false c_23)] at ih
        exact ih
      · refine cp_iload_n O dX1_firstAtLawyer_26 cp_lg1 ?_
        refine cp_if_lt (tgt := 51) O dX1_firstAtLawyer_27 (by decide) (fun c_27 => ?_) (fun c_27 => ?_)
        · refine cp_iload_n O dX1_firstAtLawyer_51 cp_lg2 ?_
          refine cp_istore_n O dX1_firstAtLawyer_52 (by decide) (cp_ls1 rfl) ?_
          refine cp_iinc O dX1_firstAtLawyer_53 cp_lg2 (cp_inc rfl) (by decide) (cp_ls2 rfl) ?_
          refine cp_goto (tgt := 5) O dX1_firstAtLawyer_56 (by decide) ?_
          have ih := ih (by omega)
          rw [cp_gf_2 (decide_eq_true c_23) (hol.1 c_27)] at ih
          exact ih
        · obtain ⟨f, hf⟩ := hol.2 c_27
          have hfl := (cp_gf_lt hf).1
          refine cp_aload_n O dX1_firstAtLawyer_30 cp_lg0 ?_
          refine fg_X1_29 O N.s N.pcs dX1_firstAtLawyer_31 ?_
          refine cp_iload_n O dX1_firstAtLawyer_34 cp_lg2 ?_
          refine cp_aaldr O (Or.inr (Or.inl ⟨rfl, rfl⟩)) N.spcs (j := c) rfl (by omega) (by decide) (N.pc (by omega)) dX1_firstAtLawyer_35 ?_
          refine pg_X1_132 O N (by omega) dX1_firstAtLawyer_36 ?_
          refine cp_aload_n O dX1_firstAtLawyer_39 cp_lg0 ?_
          refine fg_X1_29 O N.s N.pcs dX1_firstAtLawyer_40 ?_
          refine cp_iload_n O dX1_firstAtLawyer_43 cp_lg1 ?_
          refine cp_aaldr O (Or.inr (Or.inl ⟨rfl, rfl⟩)) N.spcs (j := f) (by rw [hf]; rfl) (by omega) (by decide) (N.pc (by omega)) dX1_firstAtLawyer_44 ?_
          refine pg_X1_132 O N (by omega) dX1_firstAtLawyer_45 ?_
          refine cp_icmp_ge (tgt := 53) O dX1_firstAtLawyer_48 (by decide) (fun c_48 => ?_) (fun c_48 => ?_)
          · refine cp_iinc O dX1_firstAtLawyer_53 cp_lg2 (cp_inc rfl) (by decide) (cp_ls2 rfl) ?_
            refine cp_goto (tgt := 5) O dX1_firstAtLawyer_56 (by decide) ?_
            have ih := ih (by omega)
            rw [cp_gf_4 hf (decide_eq_false (Int32.not_lt.mpr c_48))] at ih
            rw [hf]
            exact ih
          · refine cp_iload_n O dX1_firstAtLawyer_51 cp_lg2 ?_
            refine cp_istore_n O dX1_firstAtLawyer_52 (by decide) (cp_ls1 rfl) ?_
            refine cp_iinc O dX1_firstAtLawyer_53 cp_lg2 (cp_inc rfl) (by decide) (cp_ls2 rfl) ?_
            refine cp_goto (tgt := 5) O dX1_firstAtLawyer_56 (by decide) ?_
            have ih := ih (by omega)
            rw [cp_gf_3 (decide_eq_true c_23) hf (decide_eq_true (Int32.not_le.mp c_48))] at ih
            exact ih
  exact loop5 0 (Nat.zero_le _)
set_option maxHeartbeats 4000000 in
set_option maxRecDepth 100000 in
theorem c_X1_lastTakenAheadOf {lc : Launch} {E : cp_En} {cnt : Nat} {sh : cp_Shp} {R : cp_Rem} {J : cp_Mem} {b : Nat} {o S : Nat → Int32} {P Q : cp_PP} (N : cp_NL sh R b) {n : Nat} (h3 : o 3 = nI n) (hn : n ≤ 24) {p : Nat} (hp : p < n) : cp_Fn lc E yX1_lastTakenAheadOf cX1_lastTakenAheadOf 5 (some .int) 3 [.ref b, .int (nI p)] cnt sh (cp_nn J b o S P Q) R (some (.int (cp_o2i (cp_gf (fun i j => cp_ah P j i) (fun i => decide (cp_bit (cp_tk P (S 2) (cp_so n P)).1 i = 1) && cp_ah P i p) n)))) (cp_nn J b o S P Q) := by
  refine cp_Fn_i [some (.ref b), some (.int (nI p)), none, none, none] (by decide +kernel) (Nat.le_of_ble_eq_true rfl) rfl rfl (fun x hxl O hr => ?_)
  subst hxl
  refine cp_aload_n O dX1_lastTakenAheadOf_0 cp_lg0 ?_
  refine cp_cVi O me_X1_takenNow mi_X1_takenNow ml_X1_109 cp_cX1 N.s (c_X1_takenNow N h3 hn) dX1_lastTakenAheadOf_1 rfl rfl ⟨Nat.le_of_ble_eq_true rfl, Nat.le_of_ble_eq_true rfl⟩ ⟨Nat.le_refl _, Nat.le_refl _⟩ (Nat.le_of_ble_eq_true rfl) ?_
  refine cp_istore_n O dX1_lastTakenAheadOf_4 (by decide) (cp_ls2 rfl) ?_
  refine cp_bipush O dX1_lastTakenAheadOf_5 (v := (-6)) rfl ?_
  refine cp_istore_n O dX1_lastTakenAheadOf_7 (by decide) (cp_ls3 rfl) ?_
  refine cp_iconst O dX1_lastTakenAheadOf_8 (v := 0) rfl ?_
  refine cp_istore O dX1_lastTakenAheadOf_9 (by decide) (cp_ls4 rfl) ?_
  have loop11 : ∀ c, c ≤ n → cp_G x E 5 0 0 cnt sh (cp_nn J b o S P Q) R 11 [some (.ref b), some (.int (nI p)), some (.int (cp_tk P (S 2) (cp_so n P)).1), some (.int (cp_o2i (cp_gf (fun i j => cp_ah P j i) (fun i => decide (cp_bit (cp_tk P (S 2) (cp_so n P)).1 i = 1) && cp_ah P i p) c))), some (.int (nI c))] [] := by
    refine cp_up (fun c hc ih => ?_)
    have hol := cp_o2i_neg (o := (cp_gf (fun i j => cp_ah P j i) (fun i => decide (cp_bit (cp_tk P (S 2) (cp_so n P)).1 i = 1) && cp_ah P i p) c)) (n := c) (fun f hf => (cp_gf_lt hf).1) (by omega)
    refine cp_iload O dX1_lastTakenAheadOf_11 cp_lg4 ?_
    refine cp_aload_n O dX1_lastTakenAheadOf_13 cp_lg0 ?_
    refine ng_X1_34 O N dX1_lastTakenAheadOf_14 ?_
    refine cp_icmp_geN (tgt := 62) O dX1_lastTakenAheadOf_17 (by decide) (a := c) (b := n) rfl h3 (by omega) (by omega) (fun c_17 => ?_) (fun c_17 => ?_)
    · refine cp_iload_n O dX1_lastTakenAheadOf_62 cp_lg3 ?_
      exact hr _ _ _ _ dX1_lastTakenAheadOf_63 (by rw [show c = n by omega]) rfl
    · refine cp_iload O dX1_lastTakenAheadOf_20 cp_lg4 ?_
      refine cp_iload_n O dX1_lastTakenAheadOf_22 cp_lg2 ?_
      refine cp_cSNi O me_X6_isInSet ms_X6_isInSet ml_X1_118 (c_X6_isInSet) dX1_lastTakenAheadOf_23 rfl rfl ⟨Nat.le_of_ble_eq_true rfl, Nat.le_of_ble_eq_true rfl⟩ ⟨Nat.le_refl _, Nat.le_refl _⟩ (Nat.le_of_ble_eq_true rfl) ?_
      refine cp_if_eqB (tgt := 56) O dX1_lastTakenAheadOf_26 (by decide) (fun c_26 => ?_) (fun c_26 => ?_)
      · refine cp_iinc O dX1_lastTakenAheadOf_56 cp_lg4 (cp_inc rfl) (by decide) (cp_ls4 rfl) ?_
        refine cp_goto (tgt := 11) O dX1_lastTakenAheadOf_59 (by decide) ?_
        have ih := ih (by omega)
        rw [cp_gf_1 (show ((decide (cp_bit (cp_tk P (S 2) (cp_so n P)).1 c = 1) && cp_ah P c p) = false) by rw [show decide (cp_bit (cp_tk P (S 2) (cp_so n P)).1 c = 1) = false from c_26]; rfl)] at ih
        exact ih
      · refine cp_aload_n O dX1_lastTakenAheadOf_29 cp_lg0 ?_
        refine cp_iload O dX1_lastTakenAheadOf_30 cp_lg4 ?_
        refine cp_iload_n O dX1_lastTakenAheadOf_32 cp_lg1 ?_
        refine cp_cVi O me_X1_goesAhead mi_X1_goesAhead ml_X1_153 cp_cX1 N.s (c_X1_goesAhead N rfl rfl (by omega) (by omega)) dX1_lastTakenAheadOf_33 rfl rfl ⟨Nat.le_of_ble_eq_true rfl, Nat.le_of_ble_eq_true rfl⟩ ⟨Nat.le_refl _, Nat.le_refl _⟩ (Nat.le_of_ble_eq_true rfl) ?_
        refine cp_if_eqB (tgt := 56) O dX1_lastTakenAheadOf_36 (by decide) (fun c_36 => ?_) (fun c_36 => ?_)
        · refine cp_iinc O dX1_lastTakenAheadOf_56 cp_lg4 (cp_inc rfl) (by decide) (cp_ls4 rfl) ?_
          refine cp_goto (tgt := 11) O dX1_lastTakenAheadOf_59 (by decide) ?_
          have ih := ih (by omega)
          rw [cp_gf_1 (show ((decide (cp_bit (cp_tk P (S 2) (cp_so n P)).1 c = 1) && cp_ah P c p) = false) by rw [c_36, Bool.and_false])] at ih
          exact ih
        · have hqc : (decide (cp_bit (cp_tk P (S 2) (cp_so n P)).1 c = 1) && cp_ah P c p) = true := by rw [show decide (cp_bit (cp_tk P (S 2) (cp_so n P)).1 c = 1) = true from c_26, c_36]; rfl
          refine cp_iload_n O dX1_lastTakenAheadOf_39 cp_lg3 ?_
          refine cp_if_lt (tgt := 53) O dX1_lastTakenAheadOf_40 (by decide) (fun c_40 => ?_) (fun c_40 => ?_)
          · refine cp_iload O dX1_lastTakenAheadOf_53 cp_lg4 ?_
            refine cp_istore_n O dX1_lastTakenAheadOf_55 (by decide) (cp_ls3 rfl) ?_
            refine cp_iinc O dX1_lastTakenAheadOf_56 cp_lg4 (cp_inc rfl) (by decide) (cp_ls4 rfl) ?_
            refine cp_goto (tgt := 11) O dX1_lastTakenAheadOf_59 (by decide) ?_
            have ih := ih (by omega)
            rw [cp_gf_2 hqc (hol.1 c_40)] at ih
            exact ih
          · obtain ⟨f, hf⟩ := hol.2 c_40
            have hfl := (cp_gf_lt hf).1
            refine cp_aload_n O dX1_lastTakenAheadOf_43 cp_lg0 ?_
            refine cp_iload_n O dX1_lastTakenAheadOf_44 cp_lg3 ?_
            refine cp_iload O dX1_lastTakenAheadOf_45 cp_lg4 ?_
            refine cp_cVi O me_X1_goesAhead mi_X1_goesAhead ml_X1_153 cp_cX1 N.s (c_X1_goesAhead (i := f) N (by rw [hf]; rfl) rfl (by omega) (by omega)) dX1_lastTakenAheadOf_47 rfl rfl ⟨Nat.le_of_ble_eq_true rfl, Nat.le_of_ble_eq_true rfl⟩ ⟨Nat.le_refl _, Nat.le_refl _⟩ (Nat.le_of_ble_eq_true rfl) ?_
            refine cp_if_eqB (tgt := 56) O dX1_lastTakenAheadOf_50 (by decide) (fun c_50 => ?_) (fun c_50 => ?_)
            · refine cp_iinc O dX1_lastTakenAheadOf_56 cp_lg4 (cp_inc rfl) (by decide) (cp_ls4 rfl) ?_
              refine cp_goto (tgt := 11) O dX1_lastTakenAheadOf_59 (by decide) ?_
              have ih := ih (by omega)
              rw [cp_gf_4 hf c_50] at ih
              rw [hf]
              exact ih
            · refine cp_iload O dX1_lastTakenAheadOf_53 cp_lg4 ?_
              refine cp_istore_n O dX1_lastTakenAheadOf_55 (by decide) (cp_ls3 rfl) ?_
              refine cp_iinc O dX1_lastTakenAheadOf_56 cp_lg4 (cp_inc rfl) (by decide) (cp_ls4 rfl) ?_
              refine cp_goto (tgt := 11) O dX1_lastTakenAheadOf_59 (by decide) ?_
              have ih := ih (by omega)
              rw [cp_gf_3 hqc hf c_50] at ih
              exact ih
  exact loop11 0 (Nat.zero_le _)
set_option maxHeartbeats 4000000 in
set_option maxRecDepth 100000 in
theorem c_X1_placeAtDesk {lc : Launch} {E : cp_En} {cnt : Nat} {sh : cp_Shp} {R : cp_Rem} {J : cp_Mem} {b : Nat} {o S : Nat → Int32} {P Q : cp_PP} (N : cp_NL sh R b) {p : Nat} (hp : p < 24) : cp_Fn lc E yX1_placeAtDesk cX1_placeAtDesk 4 (some .int) 1 [.ref b, .int (nI p)] cnt sh (cp_nn J b o S P Q) R (some (.int (nI (cp_cnt (cp_qd P (P p 0)) p)))) (cp_nn J b o S P Q) := by
  refine cp_Fn_i [some (.ref b), some (.int (nI p)), none, none] (by decide +kernel) (Nat.le_of_ble_eq_true rfl) rfl rfl (fun x hxl O hr => ?_)
  subst hxl
  refine cp_iconst O dX1_placeAtDesk_0 (v := 0) rfl ?_
  refine cp_istore_n O dX1_placeAtDesk_1 (by decide) (cp_ls2 rfl) ?_
  refine cp_iconst O dX1_placeAtDesk_2 (v := 0) rfl ?_
  refine cp_istore_n O dX1_placeAtDesk_3 (by decide) (cp_ls3 rfl) ?_
  have loop4 : ∀ c, c ≤ p → cp_G x E 4 0 0 cnt sh (cp_nn J b o S P Q) R 4 [some (.ref b), some (.int (nI p)), some (.int (nI (cp_cnt (cp_qd P (P p 0)) c))), some (.int (nI c))] [] := by
    refine cp_up (fun c hc ih => ?_)
    refine cp_iload_n O dX1_placeAtDesk_4 cp_lg3 ?_
    refine cp_iload_n O dX1_placeAtDesk_5 cp_lg1 ?_
    refine cp_icmp_geN (tgt := 59) O dX1_placeAtDesk_6 (by decide) (a := c) (b := p) rfl rfl (by omega) (by omega) (fun c_6 => ?_) (fun c_6 => ?_)
    · refine cp_iload_n O dX1_placeAtDesk_59 cp_lg2 ?_
      exact hr _ _ _ _ dX1_placeAtDesk_60 (by rw [show c = p by omega]) rfl
    · refine cp_iload_n O dX1_placeAtDesk_9 cp_lg2 ?_
      refine cp_aload_n O dX1_placeAtDesk_10 cp_lg0 ?_
      refine fg_X1_29 O N.s N.pcs dX1_placeAtDesk_11 ?_
      refine cp_iload_n O dX1_placeAtDesk_14 cp_lg3 ?_
      refine cp_aaldr O (Or.inr (Or.inl ⟨rfl, rfl⟩)) N.spcs (j := c) rfl (by omega) (by decide) (N.pc (by omega)) dX1_placeAtDesk_15 ?_
      refine pg_X1_64 O N (by omega) dX1_placeAtDesk_16 ?_
      refine cp_if_ne (tgt := 47) O dX1_placeAtDesk_19 (by decide) (fun c_19 => ?_) (fun c_19 => ?_)
      · have hb : (cp_qd P (P p 0)) c = false := by unfold cp_qd; rw [decide_eq_false c_19]; rfl
        refine cp_iconst O dX1_placeAtDesk_47 (v := 0) rfl ?_
        refine cp_cSNi O me_X6_oneIf ms_X6_oneIf ml_X1_89 (c_X6_oneIf (b := false)) dX1_placeAtDesk_48 rfl rfl ⟨Nat.le_of_ble_eq_true rfl, Nat.le_of_ble_eq_true rfl⟩ ⟨Nat.le_refl _, Nat.le_refl _⟩ (Nat.le_of_ble_eq_true rfl) ?_
        refine cp_iadd O dX1_placeAtDesk_51 ?_
        rw [cp_cnt_b (q := (cp_qd P (P p 0))) hb]
        refine cp_istore_n O dX1_placeAtDesk_52 (by decide) (cp_ls2 rfl) ?_
        refine cp_iinc O dX1_placeAtDesk_53 cp_lg3 (cp_inc rfl) (by decide) (cp_ls3 rfl) ?_
        refine cp_goto (tgt := 4) O dX1_placeAtDesk_56 (by decide) ?_
        exact ih (by omega)
      · refine cp_aload_n O dX1_placeAtDesk_22 cp_lg0 ?_
        refine fg_X1_29 O N.s N.pcs dX1_placeAtDesk_23 ?_
        refine cp_iload_n O dX1_placeAtDesk_26 cp_lg3 ?_
        refine cp_aaldr O (Or.inr (Or.inl ⟨rfl, rfl⟩)) N.spcs (j := c) rfl (by omega) (by decide) (N.pc (by omega)) dX1_placeAtDesk_27 ?_
        refine pg_X1_115 O N (by omega) dX1_placeAtDesk_28 ?_
        refine cp_aload_n O dX1_placeAtDesk_31 cp_lg0 ?_
        refine fg_X1_29 O N.s N.pcs dX1_placeAtDesk_32 ?_
        refine cp_iload_n O dX1_placeAtDesk_35 cp_lg1 ?_
        refine cp_aaldr O (Or.inr (Or.inl ⟨rfl, rfl⟩)) N.spcs (j := p) rfl (by omega) (by decide) (N.pc (by omega)) dX1_placeAtDesk_36 ?_
        refine pg_X1_115 O N (by omega) dX1_placeAtDesk_37 ?_
        refine cp_icmp_ne (tgt := 47) O dX1_placeAtDesk_40 (by decide) (fun c_40 => ?_) (fun c_40 => ?_)
        · have hb : (cp_qd P (P p 0)) c = false := by unfold cp_qd; rw [decide_eq_false c_40, Bool.and_false]
          refine cp_iconst O dX1_placeAtDesk_47 (v := 0) rfl ?_
          refine cp_cSNi O me_X6_oneIf ms_X6_oneIf ml_X1_89 (c_X6_oneIf (b := false)) dX1_placeAtDesk_48 rfl rfl ⟨Nat.le_of_ble_eq_true rfl, Nat.le_of_ble_eq_true rfl⟩ ⟨Nat.le_refl _, Nat.le_refl _⟩ (Nat.le_of_ble_eq_true rfl) ?_
          refine cp_iadd O dX1_placeAtDesk_51 ?_
          rw [cp_cnt_b (q := (cp_qd P (P p 0))) hb]
          refine cp_istore_n O dX1_placeAtDesk_52 (by decide) (cp_ls2 rfl) ?_
          refine cp_iinc O dX1_placeAtDesk_53 cp_lg3 (cp_inc rfl) (by decide) (cp_ls3 rfl) ?_
          refine cp_goto (tgt := 4) O dX1_placeAtDesk_56 (by decide) ?_
          exact ih (by omega)
        · have hb : (cp_qd P (P p 0)) c = true := by unfold cp_qd; rw [decide_eq_true c_19, decide_eq_true c_40]; rfl
          refine cp_iconst O dX1_placeAtDesk_43 (v := 1) rfl ?_
          refine cp_goto (tgt := 48) O dX1_placeAtDesk_44 (by decide) ?_
          refine cp_cSNi O me_X6_oneIf ms_X6_oneIf ml_X1_89 (c_X6_oneIf (b := true)) dX1_placeAtDesk_48 rfl rfl ⟨Nat.le_of_ble_eq_true rfl, Nat.le_of_ble_eq_true rfl⟩ ⟨Nat.le_refl _, Nat.le_refl _⟩ (Nat.le_of_ble_eq_true rfl) ?_
          refine cp_iadd O dX1_placeAtDesk_51 ?_
          rw [cp_cnt_b (q := (cp_qd P (P p 0))) hb]
          refine cp_istore_n O dX1_placeAtDesk_52 (by decide) (cp_ls2 rfl) ?_
          refine cp_iinc O dX1_placeAtDesk_53 cp_lg3 (cp_inc rfl) (by decide) (cp_ls3 rfl) ?_
          refine cp_goto (tgt := 4) O dX1_placeAtDesk_56 (by decide) ?_
          exact ih (by omega)
  exact loop4 0 (Nat.zero_le _)
set_option maxHeartbeats 4000000 in
set_option maxRecDepth 100000 in
theorem c_X1_placeAtLawyer {lc : Launch} {E : cp_En} {cnt : Nat} {sh : cp_Shp} {R : cp_Rem} {J : cp_Mem} {b : Nat} {o S : Nat → Int32} {P Q : cp_PP} (N : cp_NL sh R b) {n : Nat} (h3 : o 3 = nI n) (hn : n ≤ 24) {p : Nat} (hp : p < 24) : cp_Fn lc E yX1_placeAtLawyer cX1_placeAtLawyer 4 (some .int) 1 [.ref b, .int (nI p)] cnt sh (cp_nn J b o S P Q) R (some (.int (nI (cp_cnt (fun i => decide (P i 4 = 1) && cp_l1 P i p) n)))) (cp_nn J b o S P Q) := by
  refine cp_Fn_i [some (.ref b), some (.int (nI p)), none, none] (by decide +kernel) (Nat.le_of_ble_eq_true rfl) rfl rfl (fun x hxl O hr => ?_)
  subst hxl
  refine cp_iconst O dX1_placeAtLawyer_0 (v := 0) rfl ?_
  refine cp_istore_n O dX1_placeAtLawyer_1 (by decide) (cp_ls2 rfl) ?_
  refine cp_iconst O dX1_placeAtLawyer_2 (v := 0) rfl ?_
  refine cp_istore_n O dX1_placeAtLawyer_3 (by decide) (cp_ls3 rfl) ?_
  have loop4 : ∀ c, c ≤ n → cp_G x E 4 0 0 cnt sh (cp_nn J b o S P Q) R 4 [some (.ref b), some (.int (nI p)), some (.int (nI (cp_cnt (fun i => decide (P i 4 = 1) && cp_l1 P i p) c))), some (.int (nI c))] [] := by
    refine cp_up (fun c hc ih => ?_)
    refine cp_iload_n O dX1_placeAtLawyer_4 cp_lg3 ?_
    refine cp_aload_n O dX1_placeAtLawyer_5 cp_lg0 ?_
    refine ng_X1_34 O N dX1_placeAtLawyer_6 ?_
    refine cp_icmp_geN (tgt := 63) O dX1_placeAtLawyer_9 (by decide) (a := c) (b := n) rfl h3 (by omega) (by omega) (fun c_9 => ?_) (fun c_9 => ?_)
    · refine cp_iload_n O dX1_placeAtLawyer_63 cp_lg2 ?_
      exact hr _ _ _ _ dX1_placeAtLawyer_64 (by rw [show c = n by omega]) rfl
    · refine cp_iload_n O dX1_placeAtLawyer_12 cp_lg2 ?_
      refine cp_aload_n O dX1_placeAtLawyer_13 cp_lg0 ?_
      refine fg_X1_29 O N.s N.pcs dX1_placeAtLawyer_14 ?_
      refine cp_iload_n O dX1_placeAtLawyer_17 cp_lg3 ?_
      refine cp_aaldr O (Or.inr (Or.inl ⟨rfl, rfl⟩)) N.spcs (j := c) rfl (by omega) (by decide) (N.pc (by omega)) dX1_placeAtLawyer_18 ?_
      refine pg_X1_64 O N (by omega) dX1_placeAtLawyer_19 ?_
      refine cp_iconst O dX1_placeAtLawyer_22 (v := 1) rfl ?_
      refine cp_icmp_ne (tgt := 51) O dX1_placeAtLawyer_23 (by decide) (fun c_23 => ?_) (fun c_23 => ?_)
      · have hb : (fun i => decide (P i 4 = 1) && cp_l1 P i p) c = false := by show (decide (P c 4 = 1) && cp_l1 P c p) = false; rw [decide_eq_false c_23]; rfl
        refine cp_iconst O dX1_placeAtLawyer_51 (v := 0) rfl ?_
        refine cp_cSNi O me_X6_oneIf ms_X6_oneIf ml_X1_89 (c_X6_oneIf (b := false)) dX1_placeAtLawyer_52 rfl rfl ⟨Nat.le_of_ble_eq_true rfl, Nat.le_of_ble_eq_true rfl⟩ ⟨Nat.le_refl _, Nat.le_refl _⟩ (Nat.le_of_ble_eq_true rfl) ?_
        refine cp_iadd O dX1_placeAtLawyer_55 ?_
        rw [cp_cnt_b (q := (fun i => decide (P i 4 = 1) && cp_l1 P i p)) hb]
        refine cp_istore_n O dX1_placeAtLawyer_56 (by decide) (cp_ls2 rfl) ?_
        refine cp_iinc O dX1_placeAtLawyer_57 cp_lg3 (cp_inc rfl) (by decide) (cp_ls3 rfl) ?_
        refine cp_goto (tgt := 4) O dX1_placeAtLawyer_60 (by decide) ?_
        exact ih (by omega)
      · refine cp_aload_n O dX1_placeAtLawyer_26 cp_lg0 ?_
        refine fg_X1_29 O N.s N.pcs dX1_placeAtLawyer_27 ?_
        refine cp_iload_n O dX1_placeAtLawyer_30 cp_lg3 ?_
        refine cp_aaldr O (Or.inr (Or.inl ⟨rfl, rfl⟩)) N.spcs (j := c) rfl (by omega) (by decide) (N.pc (by omega)) dX1_placeAtLawyer_31 ?_
        refine pg_X1_132 O N (by omega) dX1_placeAtLawyer_32 ?_
        refine cp_aload_n O dX1_placeAtLawyer_35 cp_lg0 ?_
        refine fg_X1_29 O N.s N.pcs dX1_placeAtLawyer_36 ?_
        refine cp_iload_n O dX1_placeAtLawyer_39 cp_lg1 ?_
        refine cp_aaldr O (Or.inr (Or.inl ⟨rfl, rfl⟩)) N.spcs (j := p) rfl (by omega) (by decide) (N.pc (by omega)) dX1_placeAtLawyer_40 ?_
        refine pg_X1_132 O N (by omega) dX1_placeAtLawyer_41 ?_
        refine cp_icmp_ge (tgt := 51) O dX1_placeAtLawyer_44 (by decide) (fun c_44 => ?_) (fun c_44 => ?_)
        · have hb : (fun i => decide (P i 4 = 1) && cp_l1 P i p) c = false := by show (decide (P c 4 = 1) && cp_l1 P c p) = false; rw [show cp_l1 P c p = false from decide_eq_false (Int32.not_lt.mpr c_44), Bool.and_false]
          refine cp_iconst O dX1_placeAtLawyer_51 (v := 0) rfl ?_
          refine cp_cSNi O me_X6_oneIf ms_X6_oneIf ml_X1_89 (c_X6_oneIf (b := false)) dX1_placeAtLawyer_52 rfl rfl ⟨Nat.le_of_ble_eq_true rfl, Nat.le_of_ble_eq_true rfl⟩ ⟨Nat.le_refl _, Nat.le_refl _⟩ (Nat.le_of_ble_eq_true rfl) ?_
          refine cp_iadd O dX1_placeAtLawyer_55 ?_
          rw [cp_cnt_b (q := (fun i => decide (P i 4 = 1) && cp_l1 P i p)) hb]
          refine cp_istore_n O dX1_placeAtLawyer_56 (by decide) (cp_ls2 rfl) ?_
          refine cp_iinc O dX1_placeAtLawyer_57 cp_lg3 (cp_inc rfl) (by decide) (cp_ls3 rfl) ?_
          refine cp_goto (tgt := 4) O dX1_placeAtLawyer_60 (by decide) ?_
          exact ih (by omega)
        · have hb : (fun i => decide (P i 4 = 1) && cp_l1 P i p) c = true := by show (decide (P c 4 = 1) && cp_l1 P c p) = true; rw [decide_eq_true c_23, show cp_l1 P c p = true from decide_eq_true (Int32.not_le.mp c_44)]; rfl
          refine cp_iconst O dX1_placeAtLawyer_47 (v := 1) rfl ?_
          refine cp_goto (tgt := 52) O dX1_placeAtLawyer_48 (by decide) ?_
          refine cp_cSNi O me_X6_oneIf ms_X6_oneIf ml_X1_89 (c_X6_oneIf (b := true)) dX1_placeAtLawyer_52 rfl rfl ⟨Nat.le_of_ble_eq_true rfl, Nat.le_of_ble_eq_true rfl⟩ ⟨Nat.le_refl _, Nat.le_refl _⟩ (Nat.le_of_ble_eq_true rfl) ?_
          refine cp_iadd O dX1_placeAtLawyer_55 ?_
          rw [cp_cnt_b (q := (fun i => decide (P i 4 = 1) && cp_l1 P i p)) hb]
          refine cp_istore_n O dX1_placeAtLawyer_56 (by decide) (cp_ls2 rfl) ?_
          refine cp_iinc O dX1_placeAtLawyer_57 cp_lg3 (cp_inc rfl) (by decide) (cp_ls3 rfl) ?_
          refine cp_goto (tgt := 4) O dX1_placeAtLawyer_60 (by decide) ?_
          exact ih (by omega)
  exact loop4 0 (Nat.zero_le _)

