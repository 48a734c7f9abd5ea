/-- the character at a place, 0 behind the end -/
def cp_chr (w : Nat → Nat) (len s : Nat) : Nat := if s < len then w s else 0
theorem cp_chr_lt {t : Nat → Int32} {w : Nat → Nat} {len s : Nat} (h : cp_TX t w len) : cp_chr w len s < 128 := by
  unfold cp_chr
  split
  · rename_i g; exact (h.2 s g).2
  · decide
set_option maxHeartbeats 4000000 in
set_option maxRecDepth 100000 in
theorem c_X3_characterAt {lc : Launch} {E : cp_En} {cnt : Nat} {sh : cp_Shp} {R : cp_Rem} {I : cp_Mem} {d0 : Nat} (D : cp_DL sh R d0) {w : Nat → Nat} {len : Nat} (hL : I d0 1 = nI len) (hT : cp_TX (I (d0 + 1)) w len) {s : Nat} (hs : s < 100000) : cp_Fn lc E yX3_characterAt cX3_characterAt 2 (some .char) 0 [.ref d0, .int (nI s)] cnt sh I R (some (.int (nI (cp_chr w len s)))) I := by
  have hl80 := hT.1
  refine cp_Fn_i [some (.ref d0), some (.int (nI s))] (by decide +kernel) (Nat.le_of_ble_eq_true rfl) rfl (pk_charN (by have := cp_chr_lt (s := s) hT; omega)).1 (fun x hxl O hr => ?_)
  subst hxl
  refine cp_iload_n O dX3_characterAt_0 cp_lg1 ?_
  refine cp_if_lt (tgt := 21) O dX3_characterAt_1 (by decide) (fun c_1 => ?_) (fun c_1 => ?_)
  · exact absurd c_1 (cp_nn0 (by omega))
  · refine cp_iload_n O dX3_characterAt_4 cp_lg1 ?_
    refine cp_aload_n O dX3_characterAt_5 cp_lg0 ?_
    refine fg_X3_15 O D.s dX3_characterAt_6 ?_
    refine cp_icmp_geN (tgt := 21) O dX3_characterAt_9 (by decide) (a := s) (b := len) rfl hL (by omega) (by omega) (fun c_9 => ?_) (fun c_9 => ?_)
    · refine cp_iconst O dX3_characterAt_21 (v := 0) rfl ?_
      exact hr _ _ _ _ dX3_characterAt_22 (by unfold cp_chr; rw [if_neg (by omega)]; rfl) rfl
    · refine cp_aload_n O dX3_characterAt_12 cp_lg0 ?_
      refine fg_X3_9 O D.s D.chs dX3_characterAt_13 ?_
      refine cp_iload_n O dX3_characterAt_16 cp_lg1 ?_
      refine cp_cald O D.schs (j := s) rfl (by omega) (by decide) dX3_characterAt_17 ?_
      rw [(hT.2 s c_9).1]
      refine cp_goto (tgt := 22) O dX3_characterAt_18 (by decide) ?_
      exact hr _ _ _ _ dX3_characterAt_22 (by unfold cp_chr; rw [if_pos c_9]) rfl
set_option maxHeartbeats 4000000 in
set_option maxRecDepth 100000 in
theorem c_X3_empty {lc : Launch} {E : cp_En} {cnt : Nat} {sh : cp_Shp} {R : cp_Rem} {I : cp_Mem} {d0 : Nat} (D : cp_DL sh R d0) {len : Nat} (hL : I d0 1 = nI len) : cp_Fn lc E yX3_empty cX3_empty 2 (some .int) 0 [.ref d0] cnt sh I R (some (.int (nI len))) (cp_wi I d0 1 0) := by
  refine cp_Fn_i [some (.ref d0), none] (by decide +kernel) (Nat.le_of_ble_eq_true rfl) rfl rfl (fun x hxl O hr => ?_)
  subst hxl
  refine cp_aload_n O dX3_empty_0 cp_lg0 ?_
  refine fg_X3_15 O D.s dX3_empty_1 ?_
  rw [hL]
  refine cp_istore_n O dX3_empty_4 (by decide) (cp_ls1 rfl) ?_
  refine cp_aload_n O dX3_empty_5 cp_lg0 ?_
  refine cp_iconst O dX3_empty_6 (v := 0) rfl ?_
  refine fp_X3_15 O D.s dX3_empty_7 ?_
  refine cp_iload_n O dX3_empty_10 cp_lg1 ?_
  exact hr _ _ _ _ dX3_empty_11 rfl rfl
theorem cp_l2c : ∀ b, b < 256 → ((lN b).toInt32.toUInt32 % 65536).toInt32 = nI b := by decide +kernel
theorem cp_pk_bad {u k : Nat} (h0 : u / 256 ^ k ≠ 0) (hb : cp_gb (cp_by u k) = false) : cp_pk u = none := by
  refine cp_pk_f fun j => ?_
  apply Bool.eq_false_iff.mpr
  intro hj
  obtain ⟨g1, g2, g3, g4⟩ := cp_okb_iff.mp hj
  rcases Nat.lt_or_ge k j with h | h
  · exact absurd (cp_gd_at g4 k h) (cp_bF hb)
  · have e : 256 ^ k = 256 ^ j * 256 ^ (k - j) := by rw [← Nat.pow_add, show j + (k - j) = k by omega]
    exact h0 (by rw [e, ← Nat.div_div_eq_div_mul, g3, Nat.zero_div])
theorem cp_pk_end {u k : Nat} (hu : u < 2 ^ 64) (hk : k ≤ 8) (h0 : u / 256 ^ k = 0) (hg : cp_gd u k = true) : (cp_pk u).getD 0 = k := by
  rcases Nat.eq_zero_or_pos k with e | e
  · subst e
    have hz : u = 0 := by
      rw [Nat.pow_zero, Nat.div_one] at h0
      exact h0
    have hn : cp_pk u = none := cp_pk_f fun j => by
      apply Bool.eq_false_iff.mpr
      intro hj
      obtain ⟨g1, g2, g3, g4⟩ := cp_okb_iff.mp hj
      have g5 := cp_gd_at g4 0 (by omega)
      rw [hz] at g5
      have g6 : cp_by 0 0 = 0 := by unfold cp_by; rw [Nat.zero_div]
      rw [g6] at g5
      exact absurd g5 (by decide)
    rw [hn]; rfl
  · rw [cp_pk_s (cp_okb_iff.mpr ⟨e, hk, h0, hg⟩)]; rfl
theorem cp_gb_33 {b : Nat} (hb : b < 256) (h : lN b < (33 : Int64)) : cp_gb b = false := by
  unfold cp_gb
  refine decide_eq_false (fun z => ?_)
  rw [show (33 : Int64) = lN 33 from rfl] at h
  have h2 : (lN 33) ≤ lN b := (lN_le (by omega) (by omega)).mpr z.1
  exact absurd h (Int64.not_lt.mpr h2)
theorem cp_gb_126 {b : Nat} (hb : b < 256) (h : ¬ lN b ≤ (126 : Int64)) : cp_gb b = false := by
  unfold cp_gb
  refine decide_eq_false (fun z => ?_)
  rw [show (126 : Int64) = lN 126 from rfl] at h
  exact h ((lN_le (by omega) (by omega)).mpr z.2)
theorem cp_gb_y {b : Nat} (hb : b < 256) (h : ¬ lN b < (33 : Int64)) (h2 : lN b ≤ (126 : Int64)) : cp_gb b = true := by
  unfold cp_gb
  refine decide_eq_true ⟨?_, ?_⟩
  · rw [show (33 : Int64) = lN 33 from rfl] at h
    exact (lN_le (by omega) (by omega)).mp (Int64.not_lt.mp h)
  · rw [show (126 : Int64) = lN 126 from rfl] at h2
    exact (lN_le (by omega) (by omega)).mp h2
set_option maxHeartbeats 4000000 in
set_option maxRecDepth 100000 in
theorem c_X3_charactersIn {lc : Launch} {E : cp_En} {cnt : Nat} {sh : cp_Shp} {R : cp_Rem} {I : cp_Mem} {u : Nat} (hu : u < 2 ^ 64) : cp_Fn lc E yX3_charactersIn cX3_charactersIn 7 (some .int) 0 [.long (lN u)] cnt sh I R (some (.int (nI ((cp_pk u).getD 0)))) I := by
  refine cp_Fn_i [some (.long (lN u)), none, none, none, none, none, none] (by decide +kernel) (Nat.le_of_ble_eq_true rfl) rfl rfl (fun x hxl O hr => ?_)
  subst hxl
  refine cp_iconst O dX3_charactersIn_0 (v := 0) rfl ?_
  refine cp_istore_n O dX3_charactersIn_1 (by decide) (cp_ls2 rfl) ?_
  refine cp_lload_n O dX3_charactersIn_2 cp_lg0 ?_
  refine cp_lstore_n O dX3_charactersIn_3 (by decide) (cp_lls3 rfl) ?_
  have loop4 : ∀ k, k ≤ 8 → cp_gd u k = true → cp_G x E 7 0 0 cnt sh I R 4 [some (.long (lN u)), none, some (.int (nI k)), some (.long (lN (u / 256 ^ k))), none, none, none] [] := by
    refine cp_up (fun k hk ih hg => ?_)
    have hu2 := cp_d64 hu k
    have hu3 : cp_by u k < 256 := Nat.mod_lt _ (by decide)
    refine cp_lload_n O dX3_charactersIn_4 cp_lg3 ?_
    refine cp_lconst O dX3_charactersIn_5 (v := 0) rfl ?_
    refine cp_lcmp O dX3_charactersIn_6 ?_
    refine cp_if_eqL (tgt := 54) O dX3_charactersIn_7 (by decide) (fun c_7 => ?_) (fun c_7 => ?_)
    · have h0 := (cp_lN0 hu2).mp c_7
      refine cp_iload_n O dX3_charactersIn_54 cp_lg2 ?_
      exact hr _ _ _ _ dX3_charactersIn_55 (by rw [cp_pk_end hu hk h0 hg]) rfl
    · have h0 : u / 256 ^ k ≠ 0 := fun z => c_7 ((cp_lN0 hu2).mpr z)
      refine cp_iload_n O dX3_charactersIn_10 cp_lg2 ?_
      refine cp_bipush O dX3_charactersIn_11 (v := 8) rfl ?_
      refine cp_icmp_geN (tgt := 54) O dX3_charactersIn_13 (by decide) (a := k) (b := 8) rfl rfl (by omega) (by omega) (fun c_13 => ?_) (fun c_13 => ?_)
      · exact absurd (by rw [show k = 8 by omega]; exact Nat.div_eq_of_lt (by rw [show (256 : Nat) ^ 8 = 2 ^ 64 by decide]; exact hu)) h0
      · refine cp_lload_n O dX3_charactersIn_16 cp_lg3 ?_
        refine cp_ldc2 O cl_X3_23 dX3_charactersIn_17 ?_
        refine cp_land O dX3_charactersIn_20 ?_
        rw [cp_m255 hu2, show u / 256 ^ k % 256 = cp_by u k from rfl]
        refine cp_lstore O dX3_charactersIn_21 (by decide) (cp_lls5 rfl) ?_
        refine cp_lload O dX3_charactersIn_23 cp_lg5 ?_
        refine cp_ldc2 O cl_X3_25 dX3_charactersIn_25 ?_
        refine cp_lcmp O dX3_charactersIn_28 ?_
        refine cp_if_ltL (tgt := 41) O dX3_charactersIn_29 (by decide) (fun c_29 => ?_) (fun c_29 => ?_)
        · refine cp_iconst O dX3_charactersIn_41 (v := 0) rfl ?_
          exact hr _ _ _ _ dX3_charactersIn_42 (by rw [cp_pk_bad h0 (cp_gb_33 hu3 c_29)]; rfl) rfl
        · refine cp_lload O dX3_charactersIn_32 cp_lg5 ?_
          refine cp_ldc2 O cl_X3_27 dX3_charactersIn_34 ?_
          refine cp_lcmp O dX3_charactersIn_37 ?_
          refine cp_if_leL (tgt := 43) O dX3_charactersIn_38 (by decide) (fun c_38 => ?_) (fun c_38 => ?_)
          · refine cp_iinc O dX3_charactersIn_43 cp_lg2 (cp_inc rfl) (by decide) (cp_ls2 rfl) ?_
            refine cp_lload_n O dX3_charactersIn_46 cp_lg3 ?_
            refine cp_bipush O dX3_charactersIn_47 (v := 8) rfl ?_
            refine cp_lushr O dX3_charactersIn_49 ?_
            refine cp_lstore_n O dX3_charactersIn_50 (by decide) (cp_lls3 rfl) ?_
            refine cp_goto (tgt := 4) O dX3_charactersIn_51 (by decide) ?_
            have hgb := cp_gb_y hu3 c_29 c_38
            have ih := ih (by omega) (by show (cp_gd u k && cp_gb (cp_by u k)) = true; rw [hg, hgb]; rfl)
            rw [cp_sh8 hu2]
            rw [show u / 256 ^ (k + 1) = u / 256 ^ k / 256 by rw [Nat.pow_succ, Nat.div_div_eq_div_mul]] at ih
            exact cp_Gw (cp_lws (cp_lwn (cp_lws (cp_lws (cp_lwn (cp_lwn (cp_lwn cp_lw0))))))) ih
          · refine cp_iconst O dX3_charactersIn_41 (v := 0) rfl ?_
            exact hr _ _ _ _ dX3_charactersIn_42 (by rw [cp_pk_bad h0 (cp_gb_126 hu3 c_38)]; rfl) rfl
  have l0 := loop4 0 (Nat.zero_le _) rfl
  rw [Nat.pow_zero, Nat.div_one] at l0
  exact cp_Gw (cp_lws (cp_lwn (cp_lws (cp_lws (cp_lwn (cp_lwn (cp_lwn cp_lw0))))))) l0
/-- the pad when c of n characters have come, the last first -/
def cp_af (t : Nat → Int32) (u len n c : Nat) : Nat → Int32 := fun i => if len + (n - c) ≤ i ∧ i < len + n then nI (cp_by u (len + n - 1 - i)) else t i
theorem cp_af_0 (t : Nat → Int32) (u len n : Nat) : cp_af t u len n 0 = t := by
  funext i
  exact if_neg (by omega)
theorem cp_af_s (t : Nat → Int32) (u len n c : Nat) (hc : c < n) : upd (cp_af t u len n c) (len + (n - c) - 1) (nI (cp_by u c)) = cp_af t u len n (c + 1) := by
  funext i
  unfold upd cp_af
  by_cases e : i = len + (n - c) - 1
  · rw [if_pos e, if_pos (by omega), show len + n - 1 - i = c by omega]
  · rw [if_neg e]
    by_cases g : len + (n - c) ≤ i ∧ i < len + n
    · rw [if_pos g, if_pos (by omega)]
    · rw [if_neg g, if_neg (by omega)]
theorem cp_m1lt {k : Nat} (hk : k < 2 ^ 31) : nI k - 1 < nI k := by
  rcases Nat.eq_zero_or_pos k with e | e
  · subst e; decide
  · rw [cp_sb1 e]
    exact (nI_ltI (by omega) hk).mpr (by omega)
set_option maxHeartbeats 4000000 in
set_option maxRecDepth 100000 in
theorem c_X3_append_n {lc : Launch} {E : cp_En} {cnt : Nat} {sh : cp_Shp} {R : cp_Rem} {I : cp_Mem} {d0 : Nat} (D : cp_DL sh R d0) {u len : Nat} (hu : u < 2 ^ 64) (hL : I d0 1 = nI len) (hl80 : len ≤ 80) (hp : cp_pk u = none) : cp_Fn lc E yX3_append cX3_append 7 (some .int) 1 [.ref d0, .long (lN u)] cnt sh I R (some (.int (-2))) I := by
  refine cp_Fn_i [some (.ref d0), some (.long (lN u)), none, none, none, none, none] (by decide +kernel) (Nat.le_of_ble_eq_true rfl) rfl rfl (fun x hxl O hr => ?_)
  subst hxl
  refine cp_lload_n O dX3_append_0 cp_lg1 ?_
  refine cp_cSi O me_X3_charactersIn ms_X3_charactersIn ml_X3_19 (c_X3_charactersIn hu) dX3_append_1 rfl rfl ⟨Nat.le_of_ble_eq_true rfl, Nat.le_of_ble_eq_true rfl⟩ ⟨Nat.le_refl _, Nat.le_refl _⟩ (Nat.le_of_ble_eq_true rfl) ?_
  rw [hp, show (none : Option Nat).getD 0 = 0 from rfl]
  refine cp_istore_n O dX3_append_4 (by decide) (cp_ls3 rfl) ?_
  refine cp_iload_n O dX3_append_5 cp_lg3 ?_
  refine cp_if_ne (tgt := 12) O dX3_append_6 (by decide) (fun c_6 => ?_) (fun c_6 => ?_)
  · exact absurd rfl c_6
  · refine cp_bipush O dX3_append_9 (v := (-2)) rfl ?_
    exact hr _ _ _ _ dX3_append_11 rfl rfl
set_option maxHeartbeats 4000000 in
set_option maxRecDepth 100000 in
theorem c_X3_append_t {lc : Launch} {E : cp_En} {cnt : Nat} {sh : cp_Shp} {R : cp_Rem} {I : cp_Mem} {d0 : Nat} (D : cp_DL sh R d0) {u len : Nat} (hu : u < 2 ^ 64) (hL : I d0 1 = nI len) (hl80 : len ≤ 80) {n : Nat} (hp : cp_pk u = some n) (hl : ¬ len + n ≤ 80) : cp_Fn lc E yX3_append cX3_append 7 (some .int) 1 [.ref d0, .long (lN u)] cnt sh I R (some (.int (-4))) I := by
  have hn8 := cp_pk_le hp
  refine cp_Fn_i [some (.ref d0), some (.long (lN u)), none, none, none, none, none] (by decide +kernel) (Nat.le_of_ble_eq_true rfl) rfl rfl (fun x hxl O hr => ?_)
  subst hxl
  refine cp_lload_n O dX3_append_0 cp_lg1 ?_
  refine cp_cSi O me_X3_charactersIn ms_X3_charactersIn ml_X3_19 (c_X3_charactersIn hu) dX3_append_1 rfl rfl ⟨Nat.le_of_ble_eq_true rfl, Nat.le_of_ble_eq_true rfl⟩ ⟨Nat.le_refl _, Nat.le_refl _⟩ (Nat.le_of_ble_eq_true rfl) ?_
  rw [hp, show (some n).getD 0 = n from rfl]
  refine cp_istore_n O dX3_append_4 (by decide) (cp_ls3 rfl) ?_
  refine cp_iload_n O dX3_append_5 cp_lg3 ?_
  refine cp_if_ne (tgt := 12) O dX3_append_6 (by decide) (fun c_6 => ?_) (fun c_6 => ?_)
  · refine cp_aload_n O dX3_append_12 cp_lg0 ?_
    refine fg_X3_15 O D.s dX3_append_13 ?_
    refine cp_iload_n O dX3_append_16 cp_lg3 ?_
    refine cp_iadd O dX3_append_17 ?_
    refine cp_bipush O dX3_append_18 (v := 80) rfl ?_
    refine cp_icmp_leN (tgt := 26) O dX3_append_20 (by decide) (a := (len + n)) (b := 80) (cp_ad hL rfl) rfl (by omega) (by omega) (fun c_20 => ?_) (fun c_20 => ?_)
    · exact absurd c_20 hl
    · refine cp_bipush O dX3_append_23 (v := (-4)) rfl ?_
      exact hr _ _ _ _ dX3_append_25 rfl rfl
  · exact absurd ((nI_eq (a := n) (b := 0) (by omega) (by omega)).mp c_6) (by omega)
set_option maxHeartbeats 4000000 in
set_option maxRecDepth 100000 in
theorem c_X3_append_s {lc : Launch} {E : cp_En} {cnt : Nat} {sh : cp_Shp} {R : cp_Rem} {I : cp_Mem} {d0 : Nat} (D : cp_DL sh R d0) {u len : Nat} (hu : u < 2 ^ 64) (hL : I d0 1 = nI len) (hl80 : len ≤ 80) {n : Nat} (hp : cp_pk u = some n) (hl : len + n ≤ 80) : cp_Fn lc E yX3_append cX3_append 7 (some .int) 1 [.ref d0, .long (lN u)] cnt sh I R (some (.int (nI (len + n)))) (cp_wi (cp_row I (d0 + 1) (cp_af (I (d0 + 1)) u len n n)) d0 1 (nI (len + n))) := by
  have hn8 := cp_pk_le hp
  refine cp_Fn_i [some (.ref d0), some (.long (lN u)), none, none, none, none, none] (by decide +kernel) (Nat.le_of_ble_eq_true rfl) rfl rfl (fun x hxl O hr => ?_)
  subst hxl
  refine cp_lload_n O dX3_append_0 cp_lg1 ?_
  refine cp_cSi O me_X3_charactersIn ms_X3_charactersIn ml_X3_19 (c_X3_charactersIn hu) dX3_append_1 rfl rfl ⟨Nat.le_of_ble_eq_true rfl, Nat.le_of_ble_eq_true rfl⟩ ⟨Nat.le_refl _, Nat.le_refl _⟩ (Nat.le_of_ble_eq_true rfl) ?_
  rw [hp, show (some n).getD 0 = n from rfl]
  refine cp_istore_n O dX3_append_4 (by decide) (cp_ls3 rfl) ?_
  refine cp_iload_n O dX3_append_5 cp_lg3 ?_
  refine cp_if_ne (tgt := 12) O dX3_append_6 (by decide) (fun c_6 => ?_) (fun c_6 => ?_)
  · refine cp_aload_n O dX3_append_12 cp_lg0 ?_
    refine fg_X3_15 O D.s dX3_append_13 ?_
    refine cp_iload_n O dX3_append_16 cp_lg3 ?_
    refine cp_iadd O dX3_append_17 ?_
    refine cp_bipush O dX3_append_18 (v := 80) rfl ?_
    refine cp_icmp_leN (tgt := 26) O dX3_append_20 (by decide) (a := (len + n)) (b := 80) (cp_ad hL rfl) rfl (by omega) (by omega) (fun c_20 => ?_) (fun c_20 => ?_)
    · refine cp_lload_n O dX3_append_26 cp_lg1 ?_
      refine cp_lstore O dX3_append_27 (by decide) (cp_lls4 rfl) ?_
      refine cp_aload_n O dX3_append_29 cp_lg0 ?_
      refine fg_X3_15 O D.s dX3_append_30 ?_
      refine cp_iload_n O dX3_append_33 cp_lg3 ?_
      refine cp_iadd O dX3_append_34 ?_
      refine cp_iconst O dX3_append_35 (v := 1) rfl ?_
      rw [hL, nI_add]
      refine cp_isub O dX3_append_36 ?_
      refine cp_istore O dX3_append_37 (by decide) (cp_ls6 rfl) ?_
      have loop39 : ∀ c, c ≤ n → cp_G x E 7 0 0 cnt sh (cp_row I (d0 + 1) (cp_af (I (d0 + 1)) u len n c)) R 39 [some (.ref d0), some (.long (lN u)), none, some (.int (nI n)), some (.long (lN (u / 256 ^ c))), none, some (.int (nI (len + (n - c)) - 1))] [] := by
        refine cp_up (fun c hc ih => ?_)
        have hu2 := cp_d64 hu c
        refine cp_iload O dX3_append_39 cp_lg6 ?_
        refine cp_aload_n O dX3_append_41 cp_lg0 ?_
        refine fg_X3_15 O D.s dX3_append_42 ?_
        rw [cp_row_n _ _ (show d0 ≠ d0 + 1 by omega), hL]
        refine cp_icmp_lt (tgt := 76) O dX3_append_45 (by decide) (fun c_45 => ?_) (fun c_45 => ?_)
        · have hcn : c = n := by
            rcases Nat.lt_or_ge c n with h | h
            · rw [cp_sb1 (by omega), nI_ltI (by omega) (by omega)] at c_45
              omega
            · omega
          refine cp_aload_n O dX3_append_76 cp_lg0 ?_
          refine cp_dup O dX3_append_77 rfl ?_
          refine fg_X3_15 O D.s dX3_append_78 ?_
          refine cp_iload_n O dX3_append_81 cp_lg3 ?_
          rw [cp_row_n _ _ (show d0 ≠ d0 + 1 by omega), hL]
          refine cp_iadd O dX3_append_82 ?_
          rw [nI_add]
          refine fp_X3_15 O D.s dX3_append_83 ?_
          refine cp_aload_n O dX3_append_86 cp_lg0 ?_
          refine fg_X3_15 O D.s dX3_append_87 ?_
          rw [cp_wi_s]
          exact hr _ _ _ _ dX3_append_90 rfl (by rw [hcn])
        · have hcn : c < n := by
            rcases Nat.lt_or_ge c n with h | h
            · exact h
            · exact absurd (by rw [show len + (n - c) = len by omega]; exact cp_m1lt (by omega)) c_45
          rw [cp_sb1 (show 0 < len + (n - c) by omega)]
          refine cp_aload_n O dX3_append_48 cp_lg0 ?_
          refine fg_X3_9 O D.s D.chs dX3_append_49 ?_
          refine cp_iload O dX3_append_52 cp_lg6 ?_
          refine cp_lload O dX3_append_54 cp_lg4 ?_
          refine cp_ldc2 O cl_X3_23 dX3_append_56 ?_
          refine cp_land O dX3_append_59 ?_
          refine cp_l2i O dX3_append_60 ?_
          refine cp_i2c O dX3_append_61 ?_
          rw [cp_m255 hu2, cp_l2c _ (Nat.mod_lt _ (by decide)), show u / 256 ^ c % 256 = cp_by u c from rfl]
          refine cp_cast O D.schs (j := (len + (n - c) - 1)) rfl (by omega) (by decide) (rfl : nI (cp_by u c) = nI (cp_by u c)) (Nat.lt_trans (Nat.mod_lt _ (by decide)) (show 256 < 65536 by decide)) dX3_append_62 ?_
          refine cp_lload O dX3_append_63 cp_lg4 ?_
          refine cp_bipush O dX3_append_65 (v := 8) rfl ?_
          refine cp_lushr O dX3_append_67 ?_
          refine cp_lstore O dX3_append_68 (by decide) (cp_lls4 rfl) ?_
          refine cp_iinc O dX3_append_70 cp_lg6 rfl (by decide) (cp_ls6 rfl) ?_
          refine cp_goto (tgt := 39) O dX3_append_73 (by decide) ?_
          have ih := ih (by omega)
          rw [cp_row_wi, cp_af_s _ _ _ _ _ hcn, cp_sh8 hu2, cp_im1, show len + (n - c) - 1 = len + (n - (c + 1)) by omega]
          rw [show u / 256 ^ (c + 1) = u / 256 ^ c / 256 by rw [Nat.pow_succ, Nat.div_div_eq_div_mul]] at ih
          exact cp_Gw (cp_lws (cp_lws (cp_lwn (cp_lws (cp_lws (cp_lwn (cp_lws cp_lw0))))))) ih
      have l0 := loop39 0 (Nat.zero_le _)
      rw [cp_af_0, cp_row_self, Nat.pow_zero, Nat.div_one, Nat.sub_zero] at l0
      exact cp_Gw (cp_lws (cp_lws (cp_lwn (cp_lws (cp_lws (cp_lwn (cp_lws cp_lw0))))))) l0
    · exact absurd hl (by omega)
  · exact absurd ((nI_eq (a := n) (b := 0) (by omega) (by omega)).mp c_6) (by omega)
