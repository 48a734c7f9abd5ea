theorem cp_sPass_ok {N : cp_Nt} {c : Nat} (h1 : 1 ≤ c) (h2 : cp_tm N + c ≤ 600) : cp_sPass N (nI c) = (nI (cp_sMins c N).1, (cp_sMins c N).2) := by
  unfold cp_sPass
  rw [if_neg (by rw [show (1 : Int32) = nI 1 from rfl, nI_ltI (by omega) (by omega)]; omega), pk_sub (by omega), if_neg (by rw [nI_ltI (by omega) (by omega)]; omega), nI_toInt (by omega)]
  rfl
theorem cp_pass_c {N : cp_Nt} {v : Int32} (hm : cp_tm N ≤ 600) (h1 : 1 ≤ v) (h2 : v ≤ 600 - nI (cp_tm N)) : ∃ c, v = nI c ∧ 1 ≤ c ∧ cp_tm N + c ≤ 600 := by
  have h3 : (600 : Int32) - nI (cp_tm N) = nI (600 - cp_tm N) := pk_sub (a := 600) hm
  rw [h3, Int32.le_iff_toInt_le, nI_toInt (by omega)] at h2
  rw [Int32.le_iff_toInt_le, show (1 : Int32).toInt = 1 from rfl] at h1
  refine ⟨v.toInt.toNat, ?_, by omega, by omega⟩
  apply Int32.toInt_inj.mp
  rw [nI_toInt (by omega)]
  omega
set_option maxHeartbeats 4000000 in
set_option maxRecDepth 100000 in
theorem c_X7_doPass {lc : Launch} {E : cp_En} {cnt : Nat} {sh : cp_Shp} {R : cp_Rem} {J : cp_Mem} {m : Nat} {f : Nat → Int32} {r : Nat → Nat → Int32} {a : Nat → Int32} (M : cp_ML sh R m) {N : cp_Nt} (hA : cp_MA a N) (hV : cp_NV N) {v1 : Int32} : cp_Fr lc E yX7_doPass cX7_doPass 4 (some .int) 8 [.ref m, .int v1] cnt sh (cp_ma J m f r a) R (some (.int ((cp_sPass N v1).1))) (fun I' => ∃ (f' a' : Nat → Int32), I' = cp_ma J m f' r a' ∧ cp_MA a' (cp_sPass N v1).2 ∧ ∀ k, k ≠ 7 → k ≠ 8 → f' k = f k) := by
  have hm6 := hV.2.1
  refine cp_Fn_iR [some (.ref m), some (.int v1), none, none] (by decide +kernel) (Nat.le_of_ble_eq_true rfl) rfl rfl (fun x hxl O hr => ?_)
  subst hxl
  refine cp_iload_n O dX7_doPass_0 cp_lg1 ?_
  refine cp_iconst O dX7_doPass_1 (v := 1) rfl ?_
  refine cp_icmp_ge (tgt := 8) O dX7_doPass_2 (by decide) (fun c_2 => ?_) (fun c_2 => ?_)
  · refine cp_iload_n O dX7_doPass_8 cp_lg1 ?_
    refine cp_sipush O dX7_doPass_9 (v := 600) rfl ?_
    refine cp_aload_n O dX7_doPass_12 cp_lg0 ?_
    refine fg_X7_7 O M.s M.f0 dX7_doPass_13 ?_
    refine cp_iconst O dX7_doPass_16 (v := 4) rfl ?_
    refine cp_ialdA O M (j := 4) rfl (by omega) dX7_doPass_17 ?_
    rw [hA.2.1]
    refine cp_isub O dX7_doPass_18 ?_
    refine cp_icmp_le (tgt := 25) O dX7_doPass_19 (by decide) (fun c_19 => ?_) (fun c_19 => ?_)
    · obtain ⟨c, rfl, hc1, hc2⟩ := cp_pass_c hm6 c_2 c_19
      rw [cp_sPass_ok hc1 hc2] at hr
      refine cp_iconst O dX7_doPass_25 (v := 0) rfl ?_
      refine cp_istore_n O dX7_doPass_26 (by decide) (cp_ls2 rfl) ?_
      refine cp_iconst O dX7_doPass_27 (v := 0) rfl ?_
      refine cp_istore_n O dX7_doPass_28 (by decide) (cp_ls3 rfl) ?_
      have loop29 : ∀ k, k ≤ c → ∀ f1 a1 : Nat → Int32, cp_MA a1 (cp_sMins k N).2 → (∀ q, q ≠ 7 → q ≠ 8 → f1 q = f q) → cp_G x E 4 0 0 cnt sh (cp_ma J m f1 r a1) R 29 [some (.ref m), some (.int (nI c)), some (.int (nI (cp_sMins k N).1)), some (.int (nI k))] [] := by
        refine cp_up (fun k hk ih f1 a1 hA1 hf1 => ?_)
        have hmk := cp_sMins_m N k
        refine cp_iload_n O dX7_doPass_29 cp_lg3 ?_
        refine cp_iload_n O dX7_doPass_30 cp_lg1 ?_
        refine cp_icmp_geN (tgt := 47) O dX7_doPass_31 (by decide) (a := k) (b := c) rfl rfl (by omega) (by omega) (fun c_31 => ?_) (fun c_31 => ?_)
        · obtain rfl : c = k := by omega
          refine cp_iload_n O dX7_doPass_47 cp_lg2 ?_
          exact hr _ _ _ _ dX7_doPass_48 rfl ⟨f1, a1, rfl, hA1, hf1⟩
        · refine cp_iload_n O dX7_doPass_34 cp_lg2 ?_
          refine cp_aload_n O dX7_doPass_35 cp_lg0 ?_
          refine cp_cVir O me_X7_passes mi_X7_passes ml_X7_124 cp_cX7 M.s (c_X7_passes (N := (cp_sMins k N).2) M hA1 (cp_sMins_V hV k (by omega)) (by omega)) dX7_doPass_36 rfl rfl ⟨Nat.le_of_ble_eq_true rfl, Nat.le_of_ble_eq_true rfl⟩ ⟨Nat.le_refl _, Nat.le_refl _⟩ (Nat.le_of_ble_eq_true rfl) (fun I36 hT36 => ?_)
          refine cp_iadd O dX7_doPass_39 ?_
          refine cp_istore_n O dX7_doPass_40 (by decide) (cp_ls2 rfl) ?_
          refine cp_iinc O dX7_doPass_41 cp_lg3 (cp_inc rfl) (by decide) (cp_ls3 rfl) ?_
          refine cp_goto (tgt := 29) O dX7_doPass_44 (by decide) ?_
          obtain ⟨f2, a2, rfl, hA2, hf2⟩ := hT36
          rw [cp_sMin_v, nI_add]
          exact ih c_31 f2 a2 hA2 (fun q h7 h8 => (hf2 q h7 h8).trans (hf1 q h7 h8))
      exact loop29 0 (Nat.zero_le _) f a hA (fun _ _ _ => rfl)
    · have e : cp_sPass N v1 = (-5, N) := by
        unfold cp_sPass
        rw [if_neg (Int32.not_lt.mpr c_2)]
        exact if_pos (Int32.not_le.mp c_19)
      rw [e] at hr
      refine cp_bipush O dX7_doPass_22 (v := (-5)) rfl ?_
      exact hr _ _ _ _ dX7_doPass_24 rfl ⟨f, a, rfl, hA, fun _ _ _ => rfl⟩
  · have e : cp_sPass N v1 = (-2, N) := by
      unfold cp_sPass
      rw [if_pos (Int32.not_le.mp c_2)]
    rw [e] at hr
    refine cp_bipush O dX7_doPass_5 (v := (-2)) rfl ?_
    exact hr _ _ _ _ dX7_doPass_7 rfl ⟨f, a, rfl, hA, fun _ _ _ => rfl⟩
/-- hold -/
def cp_sHold (N : cp_Nt) (v : Int32) : Int32 × cp_Nt := if cp_ip (cp_tn N) v = true then (if cp_tP N v.toInt.toNat 4 = 3 then (-5, N) else (1 - cp_tP N v.toInt.toNat 5, (cp_tS N, cp_tm N, cp_tn N, cp_wi (cp_tP N) v.toInt.toNat 5 (1 - cp_tP N v.toInt.toNat 5), cp_tp N, cp_tQ N, cp_tl N))) else (-1, N)
theorem cp_nIt {p : Nat} (h : p < 2 ^ 31) : (nI p).toInt.toNat = p := by rw [nI_toInt h]; rfl
theorem cp_LL_wi {n : Nat} {P : cp_PP} {lq : List Nat} {i f : Nat} {v : Int32} (h4 : f ≠ 4) (h0 : f ≠ 0) (q : Nat) : cp_LL n (cp_wi P i f v) lq q = cp_LL n P lq q := by
  unfold cp_LL
  rw [cp_dq_wi _ _ _ _ _ _ h4 h0]
set_option maxHeartbeats 4000000 in
set_option maxRecDepth 100000 in
theorem c_X7_doHold {lc : Launch} {E : cp_En} {cnt : Nat} {sh : cp_Shp} {R : cp_Rem} {J : cp_Mem} {m : Nat} {f : Nat → Int32} {r : Nat → Nat → Int32} {a : Nat → Int32} (M : cp_ML sh R m) {N : cp_Nt} (hA : cp_MA a N) (hV : cp_NV N) {v1 : Int32} : cp_Fr lc E yX7_doHold cX7_doHold 2 (some .int) 2 [.ref m, .int v1] cnt sh (cp_ma J m f r a) R (some (.int ((cp_sHold N v1).1))) (fun I' => ∃ a', I' = cp_ma J m f r a' ∧ cp_MA a' (cp_sHold N v1).2) := by
  obtain ⟨hAS, hA4, hA5, hAW, hAQ⟩ := id hA
  obtain ⟨hVS, hVm, hVP, hVN, hVQ⟩ := id hV
  have hn24 := hVP.1
  refine cp_Fn_iR [some (.ref m), some (.int v1)] (by decide +kernel) (Nat.le_of_ble_eq_true rfl) rfl rfl (fun x hxl O hr => ?_)
  subst hxl
  refine cp_aload_n O dX7_doHold_0 cp_lg0 ?_
  refine cp_iload_n O dX7_doHold_1 cp_lg1 ?_
  refine cp_cVi O me_X7_isPiece mi_X7_isPiece ml_X7_114 cp_cX7 M.s (c_X7_isPiece (n := cp_tn N) M hA5 hn24) dX7_doHold_2 rfl rfl ⟨Nat.le_of_ble_eq_true rfl, Nat.le_of_ble_eq_true rfl⟩ ⟨Nat.le_refl _, Nat.le_refl _⟩ (Nat.le_of_ble_eq_true rfl) ?_
  refine cp_if_neB (tgt := 10) O dX7_doHold_5 (by decide) (fun c_5 => ?_) (fun c_5 => ?_)
  · obtain ⟨p, hp, rfl⟩ := (cp_ip_iff (by omega)).mp c_5
    have hpp := hAW.1 p hp
    refine cp_aload_n O dX7_doHold_10 cp_lg0 ?_
    refine cp_iload_n O dX7_doHold_11 cp_lg1 ?_
    refine cp_iconst O dX7_doHold_12 (v := 4) rfl ?_
    refine cp_cVi O me_X7_of mi_X7_of ml_X7_39 cp_cX7 M.s (c_X7_ofe (w := cp_tP N p 4) (p := p) (q := 4) M rfl rfl (by omega) (by omega) (hpp 4 (by decide))) dX7_doHold_13 rfl rfl ⟨Nat.le_of_ble_eq_true rfl, Nat.le_of_ble_eq_true rfl⟩ ⟨Nat.le_refl _, Nat.le_refl _⟩ (Nat.le_of_ble_eq_true rfl) ?_
    refine cp_iconst O dX7_doHold_16 (v := 3) rfl ?_
    refine cp_icmp_ne (tgt := 23) O dX7_doHold_17 (by decide) (fun c_17 => ?_) (fun c_17 => ?_)
    · have e : cp_sHold N (nI p) = (1 - cp_tP N p 5, (cp_tS N, cp_tm N, cp_tn N, cp_wi (cp_tP N) p 5 (1 - cp_tP N p 5), cp_tp N, cp_tQ N, cp_tl N)) := by
        unfold cp_sHold
        rw [if_pos c_5, cp_nIt (by omega), if_neg c_17]
      rw [e] at hr
      refine cp_aload_n O dX7_doHold_23 cp_lg0 ?_
      refine cp_iload_n O dX7_doHold_24 cp_lg1 ?_
      refine cp_iconst O dX7_doHold_25 (v := 5) rfl ?_
      refine cp_iconst O dX7_doHold_26 (v := 1) rfl ?_
      refine cp_aload_n O dX7_doHold_27 cp_lg0 ?_
      refine cp_iload_n O dX7_doHold_28 cp_lg1 ?_
      refine cp_iconst O dX7_doHold_29 (v := 5) rfl ?_
      refine cp_cVi O me_X7_of mi_X7_of ml_X7_39 cp_cX7 M.s (c_X7_ofe (w := cp_tP N p 5) (p := p) (q := 5) M rfl rfl (by omega) (by omega) (hpp 5 (by decide))) dX7_doHold_30 rfl rfl ⟨Nat.le_of_ble_eq_true rfl, Nat.le_of_ble_eq_true rfl⟩ ⟨Nat.le_refl _, Nat.le_refl _⟩ (Nat.le_of_ble_eq_true rfl) ?_
      refine cp_isub O dX7_doHold_33 ?_
      refine cp_cVv O me_X7_sets mi_X7_sets ml_X7_53 cp_cX7 M.s (c_X7_sets (p := p) (q := 5) M rfl rfl (by omega) (by omega)) dX7_doHold_34 rfl rfl ⟨Nat.le_of_ble_eq_true rfl, Nat.le_of_ble_eq_true rfl⟩ ⟨Nat.le_refl _, Nat.le_refl _⟩ (Nat.le_of_ble_eq_true rfl) ?_
      refine cp_aload_n O dX7_doHold_37 cp_lg0 ?_
      refine cp_iload_n O dX7_doHold_38 cp_lg1 ?_
      refine cp_iconst O dX7_doHold_39 (v := 5) rfl ?_
      refine cp_cVi O me_X7_of mi_X7_of ml_X7_39 cp_cX7 M.s (c_X7_ofe (w := 1 - cp_tP N p 5) (p := p) (q := 5) M rfl rfl (by omega) (by omega) cp_upd_s) dX7_doHold_40 rfl rfl ⟨Nat.le_of_ble_eq_true rfl, Nat.le_of_ble_eq_true rfl⟩ ⟨Nat.le_refl _, Nat.le_refl _⟩ (Nat.le_of_ble_eq_true rfl) ?_
      exact hr _ _ _ _ dX7_doHold_43 rfl ⟨_, rfl, fun k hk => by rw [cp_upd_n (by omega)]; exact hAS k hk, by rw [cp_upd_n (by omega)]; exact hA4, by rw [cp_upd_n (by omega)]; exact hA5, cp_MW_L (cp_MW_set hAW hn24 hp (by decide) _) (fun q hq => cp_LL_wi (by decide) (by decide) q), cp_MQ_of hAQ (fun x hx => cp_upd_n (by omega))⟩
    · have e : cp_sHold N (nI p) = (-5, N) := by
        unfold cp_sHold
        rw [if_pos c_5, cp_nIt (by omega), if_pos c_17]
      rw [e] at hr
      refine cp_bipush O dX7_doHold_20 (v := (-5)) rfl ?_
      exact hr _ _ _ _ dX7_doHold_22 rfl ⟨a, rfl, hA⟩
  · have e : cp_sHold N v1 = (-1, N) := by
      unfold cp_sHold
      rw [if_neg (by rw [c_5]; decide)]
    rw [e] at hr
    refine cp_iconst O dX7_doHold_8 (v := (-1)) rfl ?_
    exact hr _ _ _ _ dX7_doHold_9 rfl ⟨a, rfl, hA⟩
/-- piece -/
def cp_rg (l h : Int) (v : Int32) : Bool := decide (l ≤ v.toInt ∧ v.toInt ≤ h)
theorem cp_in_rg {lo hi : Int64} {l h : Int} (hl : lo.toInt = l) (hh : hi.toInt = h) {v : Int32} : decide (lo ≤ v.toInt64 ∧ v.toInt64 ≤ hi) = cp_rg l h v := by
  unfold cp_rg
  apply decide_eq_decide.mpr
  rw [Int64.le_iff_toInt_le, Int64.le_iff_toInt_le, Int32.toInt_toInt64, hl, hh]
theorem cp_rg_nI {l h : Nat} {v : Int32} (hr : cp_rg l h v = true) : ∃ k, l ≤ k ∧ k ≤ h ∧ v = nI k := by
  unfold cp_rg at hr
  have h1 := of_decide_eq_true hr
  have h2 : v.toInt < 2 ^ 31 := Int32.toInt_lt v
  refine ⟨v.toInt.toNat, by omega, by omega, ?_⟩
  apply Int32.toInt_inj.mp
  rw [nI_toInt (by omega)]
  omega
def cp_np (d l r g : Int32) : Nat → Int32 := fun f => if f = 0 then d else if f = 1 then l else if f = 2 then r else if f = 3 then g else if f = 8 then -6 else 0
def cp_sPiece (N : cp_Nt) (d l r g : Int32) : Int32 × cp_Nt := if cp_rg 0 4 d = true then (if (cp_rg 1 99 l && cp_rg 0 9 r && cp_rg 0 1 g) = true then (if cp_tn N = 24 then (-4, N) else (nI (cp_tn N), (cp_tS N, cp_tm N, cp_tn N + 1, cp_row (cp_tP N) (cp_tn N) (cp_np d l r g), cp_tp N, cp_tQ N, cp_tl N))) else (-2, N)) else (-1, N)
def cp_z (a : Nat → Int32) (n k : Nat) : Nat → Int32 := fun x => if 158 + 9 * n ≤ x ∧ x < 158 + 9 * n + k then 0 else a x
theorem cp_z_0 (a : Nat → Int32) (n : Nat) : cp_z a n 0 = a := by funext x; unfold cp_z; rw [if_neg (by omega)]
theorem cp_z_s (a : Nat → Int32) (n k : Nat) : upd (cp_z a n k) (158 + 9 * n + k) 0 = cp_z a n (k + 1) := by
  funext x
  unfold upd cp_z
  by_cases h : x = 158 + 9 * n + k
  · rw [if_pos h, if_pos (by omega)]
  · rw [if_neg h]
    by_cases h2 : 158 + 9 * n ≤ x ∧ x < 158 + 9 * n + k
    · rw [if_pos h2, if_pos (by omega)]
    · rw [if_neg h2, if_neg (by omega)]
def cp_pz (a : Nat → Int32) (n : Nat) (d l r g : Int32) : Nat → Int32 := upd (upd (upd (upd (upd (cp_z (upd a 5 (nI (n + 1))) n 9) (158 + 9 * n + 0) d) (158 + 9 * n + 1) l) (158 + 9 * n + 2) r) (158 + 9 * n + 3) g) (158 + 9 * n + 8) (-6)
theorem cp_pz_o (a : Nat → Int32) (n : Nat) (d l r g : Int32) {x : Nat} (h : x < 158 + 9 * n ∨ 158 + 9 * n + 9 ≤ x) (h5 : x ≠ 5) : cp_pz a n d l r g x = a x := by
  unfold cp_pz
  rw [cp_upd_n (by omega), cp_upd_n (by omega), cp_upd_n (by omega), cp_upd_n (by omega), cp_upd_n (by omega)]
  unfold cp_z
  rw [if_neg (by omega), cp_upd_n h5]
theorem cp_pz_f (a : Nat → Int32) (n : Nat) (d l r g : Int32) {f : Nat} (h : f < 9) : cp_pz a n d l r g (158 + 9 * n + f) = cp_np d l r g f := by
  unfold cp_pz cp_np
  rcases (show f = 0 ∨ f = 1 ∨ f = 2 ∨ f = 3 ∨ f = 8 ∨ (4 ≤ f ∧ f ≤ 7) by omega) with h | h | h | h | h | h
  · subst h; rw [cp_upd_n (by omega), cp_upd_n (by omega), cp_upd_n (by omega), cp_upd_n (by omega), cp_upd_s]; rfl
  · subst h; rw [cp_upd_n (by omega), cp_upd_n (by omega), cp_upd_n (by omega), cp_upd_s]; rfl
  · subst h; rw [cp_upd_n (by omega), cp_upd_n (by omega), cp_upd_s]; rfl
  · subst h; rw [cp_upd_n (by omega), cp_upd_s]; rfl
  · subst h; rw [cp_upd_s]; rfl
  · rw [cp_upd_n (by omega), cp_upd_n (by omega), cp_upd_n (by omega), cp_upd_n (by omega), cp_upd_n (by omega), if_neg (by omega), if_neg (by omega), if_neg (by omega), if_neg (by omega), if_neg (by omega)]
    unfold cp_z
    rw [if_pos (by omega)]
theorem cp_dq_add {n : Nat} {P : cp_PP} {d : Int32} {l r g : Int32} {k : Nat} (hd : d = nI k) (hk : k < 5) {q : Nat} (hq : q < 5) : cp_dq (n + 1) (cp_row P n (cp_np d l r g)) q = if q = k then cp_dq n P q ++ [n] else cp_dq n P q := by
  unfold cp_dq
  rw [List.range_succ, List.filter_append]
  have e1 : (List.range n).filter (fun i => decide (cp_row P n (cp_np d l r g) i 4 = 0) && decide (cp_row P n (cp_np d l r g) i 0 = nI q)) = (List.range n).filter (fun i => decide (P i 4 = 0) && decide (P i 0 = nI q)) := by
    apply List.filter_congr
    intro i hi
    have hi := List.mem_range.mp hi
    rw [cp_row_n P _ (by omega)]
  rw [e1]
  have e2 : (decide (cp_row P n (cp_np d l r g) n 4 = 0) && decide (cp_row P n (cp_np d l r g) n 0 = nI q)) = decide (q = k) := by
    rw [cp_row_s, show cp_np d l r g 4 = 0 from rfl, show cp_np d l r g 0 = d from rfl, hd]
    simp only [decide_true, Bool.true_and]
    apply decide_eq_decide.mpr
    rw [nI_eq (by omega) (by omega)]
    exact eq_comm
  by_cases h : q = k
  · rw [if_pos h, List.filter_cons_of_pos (by rw [e2]; simpa using h)]; rfl
  · rw [if_neg h, List.filter_cons_of_neg (by rw [e2]; simpa using h)]; simp
theorem cp_MA_piece {a : Nat → Int32} {N : cp_Nt} (hA : cp_MA a N) (hV : cp_NV N) {d l r g : Int32} {k : Nat} (hd : d = nI k) (hk : k < 5) (hn : cp_tn N < 24) :
    cp_MA (cp_cm (cp_pz a (cp_tn N) d l r g) k (cp_dq (cp_tn N) (cp_tP N) k).length (cp_tn N)) (cp_tS N, cp_tm N, cp_tn N + 1, cp_row (cp_tP N) (cp_tn N) (cp_np d l r g), cp_tp N, cp_tQ N, cp_tl N) := by
  obtain ⟨hAS, hA4, hA5, hAW, hAQ⟩ := hA
  have hle := cp_dq_le (cp_tn N) (cp_tP N) k
  have hq := hAW.2
  refine ⟨fun j hj => ?_, ?_, ?_, ⟨fun i hi f hf => ?_, fun q hq6 => ?_⟩, cp_MQ_of hAQ fun x hx => ?_⟩
  · rw [cp_cm_hi (by omega) (by omega) (by omega), cp_pz_o _ _ _ _ _ _ (by omega) (by omega)]; exact hAS j hj
  · rw [cp_cm_hi (by omega) (by omega) (by omega), cp_pz_o _ _ _ _ _ _ (by omega) (by omega)]; exact hA4
  · rw [cp_cm_hi (by omega) (by omega) (by omega)]
    unfold cp_pz
    rw [cp_upd_n (by omega), cp_upd_n (by omega), cp_upd_n (by omega), cp_upd_n (by omega), cp_upd_n (by omega)]
    unfold cp_z
    rw [if_neg (by omega), cp_upd_s]
  · have hi2 : i < cp_tn N + 1 := hi
    rw [cp_cm_hi (by omega) (by omega) (by omega)]
    show _ = cp_row (cp_tP N) (cp_tn N) (cp_np d l r g) i f
    by_cases hin : i = cp_tn N
    · subst hin
      rw [cp_pz_f _ _ _ _ _ _ hf, cp_row_s]
    · rw [cp_pz_o _ _ _ _ _ _ (by omega) (by omega), cp_row_n _ _ hin]
      exact hAW.1 i (by omega) f hf
  · show cp_QL _ q (cp_LL (cp_tn N + 1) (cp_row (cp_tP N) (cp_tn N) (cp_np d l r g)) (cp_tl N) q)
    have h1 : cp_QL (cp_pz a (cp_tn N) d l r g) q (cp_LL (cp_tn N) (cp_tP N) (cp_tl N) q) := cp_QL_eq (hq q hq6) (cp_pz_o _ _ _ _ _ _ (by omega) (by omega)) (fun j hj => cp_pz_o _ _ _ _ _ _ (by omega) (by omega))
    by_cases h5 : q = 5
    · subst h5
      rw [cp_LL5] at h1 ⊢
      exact cp_QL_cmo h1 (by omega) (by omega) (by omega) (by omega)
    · rw [cp_LLd _ _ _ (by omega)] at h1 ⊢
      rw [cp_dq_add hd hk (by omega)]
      by_cases hqk : q = k
      · subst hqk
        rw [if_pos rfl]
        exact cp_QL_cm h1 (by omega) (by omega) _
      · rw [if_neg hqk]
        exact cp_QL_cmo h1 hqk (by omega) (by omega) (by omega)
  · rw [cp_cm_hi (by omega) (by omega) (by omega), cp_pz_o _ _ _ _ _ _ (by have := hn; show _ ∨ _; omega) (by omega)]
set_option maxHeartbeats 4000000 in
set_option maxRecDepth 100000 in
theorem c_X7_doPiece {lc : Launch} {E : cp_En} {cnt : Nat} {sh : cp_Shp} {R : cp_Rem} {J : cp_Mem} {m : Nat} {f : Nat → Int32} {r : Nat → Nat → Int32} {a : Nat → Int32} (M : cp_ML sh R m) {N : cp_Nt} (hA : cp_MA a N) (hV : cp_NV N) {v1 v2 v3 v4 : Int32} : cp_Fr lc E yX7_doPiece cX7_doPiece 7 (some .int) 1 [.ref m, .int v1, .int v2, .int v3, .int v4] cnt sh (cp_ma J m f r a) R (some (.int ((cp_sPiece N v1 v2 v3 v4).1))) (fun I' => ∃ a', I' = cp_ma J m f r a' ∧ cp_MA a' (cp_sPiece N v1 v2 v3 v4).2) := by
  obtain ⟨hAS, hA4, hA5, hAW, hAQ⟩ := id hA
  obtain ⟨hVS, hVm, hVP, hVN, hVQ⟩ := id hV
  have hn24 := hVP.1
  refine cp_Fn_iR [some (.ref m), some (.int v1), some (.int v2), some (.int v3), some (.int v4), none, none] (by decide +kernel) (Nat.le_of_ble_eq_true rfl) rfl rfl (fun x hxl O hr => ?_)
  subst hxl
  refine cp_iload_n O dX7_doPiece_0 cp_lg1 ?_
  refine cp_i2l O dX7_doPiece_1 ?_
  refine cp_lconst O dX7_doPiece_2 (v := 0) rfl ?_
  refine cp_ldc2 O cl_X7_103 dX7_doPiece_3 ?_
  refine cp_cSi O me_X7_in ms_X7_in ml_X7_35 (c_X7_in) dX7_doPiece_6 rfl rfl ⟨Nat.le_of_ble_eq_true rfl, Nat.le_of_ble_eq_true rfl⟩ ⟨Nat.le_refl _, Nat.le_refl _⟩ (Nat.le_of_ble_eq_true rfl) ?_
  rw [cp_in_rg (l := 0) (h := 4) rfl rfl]
  refine cp_if_neB (tgt := 14) O dX7_doPiece_9 (by decide) (fun c_9 => ?_) (fun c_9 => ?_)
  · refine cp_iload_n O dX7_doPiece_14 cp_lg2 ?_
    refine cp_i2l O dX7_doPiece_15 ?_
    refine cp_lconst O dX7_doPiece_16 (v := 1) rfl ?_
    refine cp_ldc2 O cl_X7_105 dX7_doPiece_17 ?_
    refine cp_cSi O me_X7_in ms_X7_in ml_X7_35 (c_X7_in) dX7_doPiece_20 rfl rfl ⟨Nat.le_of_ble_eq_true rfl, Nat.le_of_ble_eq_true rfl⟩ ⟨Nat.le_refl _, Nat.le_refl _⟩ (Nat.le_of_ble_eq_true rfl) ?_
    rw [cp_in_rg (l := 1) (h := 99) rfl rfl]
    refine cp_if_eqB (tgt := 49) O dX7_doPiece_23 (by decide) (fun c_23 => ?_) (fun c_23 => ?_)
    · have e : cp_sPiece N v1 v2 v3 v4 = (-2, N) := by
        unfold cp_sPiece
        rw [if_pos c_9, if_neg]
        first | (rw [c_23]; simp; done) | (rw [c_35]; simp; done) | (rw [c_46]; simp; done)
      rw [e] at hr
      refine cp_bipush O dX7_doPiece_49 (v := (-2)) rfl ?_
      exact hr _ _ _ _ dX7_doPiece_51 rfl ⟨a, rfl, hA⟩
    · refine cp_iload_n O dX7_doPiece_26 cp_lg3 ?_
      refine cp_i2l O dX7_doPiece_27 ?_
      refine cp_lconst O dX7_doPiece_28 (v := 0) rfl ?_
      refine cp_ldc2 O cl_X7_107 dX7_doPiece_29 ?_
      refine cp_cSi O me_X7_in ms_X7_in ml_X7_35 (c_X7_in) dX7_doPiece_32 rfl rfl ⟨Nat.le_of_ble_eq_true rfl, Nat.le_of_ble_eq_true rfl⟩ ⟨Nat.le_refl _, Nat.le_refl _⟩ (Nat.le_of_ble_eq_true rfl) ?_
      rw [cp_in_rg (l := 0) (h := 9) rfl rfl]
      refine cp_if_eqB (tgt := 49) O dX7_doPiece_35 (by decide) (fun c_35 => ?_) (fun c_35 => ?_)
      · have e : cp_sPiece N v1 v2 v3 v4 = (-2, N) := by
          unfold cp_sPiece
          rw [if_pos c_9, if_neg]
          first | (rw [c_23]; simp; done) | (rw [c_35]; simp; done) | (rw [c_46]; simp; done)
        rw [e] at hr
        refine cp_bipush O dX7_doPiece_49 (v := (-2)) rfl ?_
        exact hr _ _ _ _ dX7_doPiece_51 rfl ⟨a, rfl, hA⟩
      · refine cp_iload O dX7_doPiece_38 cp_lg4 ?_
        refine cp_i2l O dX7_doPiece_40 ?_
        refine cp_lconst O dX7_doPiece_41 (v := 0) rfl ?_
        refine cp_lconst O dX7_doPiece_42 (v := 1) rfl ?_
        refine cp_cSi O me_X7_in ms_X7_in ml_X7_35 (c_X7_in) dX7_doPiece_43 rfl rfl ⟨Nat.le_of_ble_eq_true rfl, Nat.le_of_ble_eq_true rfl⟩ ⟨Nat.le_refl _, Nat.le_refl _⟩ (Nat.le_of_ble_eq_true rfl) ?_
        rw [cp_in_rg (l := 0) (h := 1) rfl rfl]
        refine cp_if_neB (tgt := 52) O dX7_doPiece_46 (by decide) (fun c_46 => ?_) (fun c_46 => ?_)
        · have hc : (cp_rg 1 99 v2 && cp_rg 0 9 v3 && cp_rg 0 1 v4) = true := by rw [c_23, c_35, c_46]; rfl
          refine cp_aload_n O dX7_doPiece_52 cp_lg0 ?_
          refine fg_X7_7 O M.s M.f0 dX7_doPiece_53 ?_
          refine cp_iconst O dX7_doPiece_56 (v := 5) rfl ?_
          refine cp_ialdA O M (j := 5) rfl (by omega) dX7_doPiece_57 ?_
          refine cp_bipush O dX7_doPiece_58 (v := 24) rfl ?_
          refine cp_icmp_neN (tgt := 66) O dX7_doPiece_60 (by decide) (a := (cp_tn N)) (b := 24) hA5 rfl (by omega) (by omega) (fun c_60 => ?_) (fun c_60 => ?_)
          · have e : cp_sPiece N v1 v2 v3 v4 = (nI (cp_tn N), (cp_tS N, cp_tm N, cp_tn N + 1, cp_row (cp_tP N) (cp_tn N) (cp_np v1 v2 v3 v4), cp_tp N, cp_tQ N, cp_tl N)) := by
              unfold cp_sPiece
              rw [if_pos c_9, if_pos hc, if_neg c_60]
            rw [e] at hr
            obtain ⟨k, -, hk4, hv1⟩ := cp_rg_nI (l := 0) (h := 4) c_9
            have hq0 := hAW.2 k (by omega)
            rw [cp_LLd _ _ _ (by omega)] at hq0
            have hle := cp_dq_le (cp_tn N) (cp_tP N) k
            refine cp_aload_n O dX7_doPiece_66 cp_lg0 ?_
            refine fg_X7_7 O M.s M.f0 dX7_doPiece_67 ?_
            refine cp_iconst O dX7_doPiece_70 (v := 5) rfl ?_
            refine cp_ialdA O M (j := 5) rfl (by omega) dX7_doPiece_71 ?_
            rw [hA5]
            refine cp_istore O dX7_doPiece_72 (by decide) (cp_ls5 rfl) ?_
            refine cp_aload_n O dX7_doPiece_74 cp_lg0 ?_
            refine fg_X7_7 O M.s M.f0 dX7_doPiece_75 ?_
            refine cp_iconst O dX7_doPiece_78 (v := 5) rfl ?_
            refine cp_dup2 O dX7_doPiece_79 rfl rfl ?_
            refine cp_ialdA O M (j := 5) rfl (by omega) dX7_doPiece_80 ?_
            refine cp_iconst O dX7_doPiece_81 (v := 1) rfl ?_
            refine cp_iadd O dX7_doPiece_82 ?_
            rw [hA5, nI_1]
            refine cp_iastA O M (j := 5) rfl (by omega) dX7_doPiece_83 ?_
            refine cp_iconst O dX7_doPiece_84 (v := 0) rfl ?_
            refine cp_istore O dX7_doPiece_85 (by decide) (cp_ls6 rfl) ?_
            have loop87 : ∀ q, q ≤ 9 → cp_G x E 7 0 0 cnt sh (cp_ma J m f r (cp_z (upd a 5 (nI (cp_tn N + 1))) (cp_tn N) q)) R 87 [some (.ref m), some (.int v1), some (.int v2), some (.int v3), some (.int v4), some (.int (nI (cp_tn N))), some (.int (nI q))] [] := by
              refine cp_up (fun q hq ih => ?_)
              refine cp_iload O dX7_doPiece_87 cp_lg6 ?_
              refine cp_bipush O dX7_doPiece_89 (v := 9) rfl ?_
              refine cp_icmp_geN (tgt := 109) O dX7_doPiece_91 (by decide) (a := q) (b := 9) rfl rfl (by omega) (by omega) (fun c_91 => ?_) (fun c_91 => ?_)
              · obtain rfl : q = 9 := by omega
                refine cp_aload_n O dX7_doPiece_109 cp_lg0 ?_
                refine cp_iload O dX7_doPiece_110 cp_lg5 ?_
                refine cp_iconst O dX7_doPiece_112 (v := 0) rfl ?_
                refine cp_iload_n O dX7_doPiece_113 cp_lg1 ?_
                refine cp_cVv O me_X7_sets mi_X7_sets ml_X7_53 cp_cX7 M.s (c_X7_sets (p := (cp_tn N)) (q := 0) M rfl rfl (by omega) (by omega)) dX7_doPiece_114 rfl rfl ⟨Nat.le_of_ble_eq_true rfl, Nat.le_of_ble_eq_true rfl⟩ ⟨Nat.le_refl _, Nat.le_refl _⟩ (Nat.le_of_ble_eq_true rfl) ?_
                refine cp_aload_n O dX7_doPiece_117 cp_lg0 ?_
                refine cp_iload O dX7_doPiece_118 cp_lg5 ?_
                refine cp_iconst O dX7_doPiece_120 (v := 1) rfl ?_
                refine cp_iload_n O dX7_doPiece_121 cp_lg2 ?_
                refine cp_cVv O me_X7_sets mi_X7_sets ml_X7_53 cp_cX7 M.s (c_X7_sets (p := (cp_tn N)) (q := 1) M rfl rfl (by omega) (by omega)) dX7_doPiece_122 rfl rfl ⟨Nat.le_of_ble_eq_true rfl, Nat.le_of_ble_eq_true rfl⟩ ⟨Nat.le_refl _, Nat.le_refl _⟩ (Nat.le_of_ble_eq_true rfl) ?_
                refine cp_aload_n O dX7_doPiece_125 cp_lg0 ?_
                refine cp_iload O dX7_doPiece_126 cp_lg5 ?_
                refine cp_iconst O dX7_doPiece_128 (v := 2) rfl ?_
                refine cp_iload_n O dX7_doPiece_129 cp_lg3 ?_
                refine cp_cVv O me_X7_sets mi_X7_sets ml_X7_53 cp_cX7 M.s (c_X7_sets (p := (cp_tn N)) (q := 2) M rfl rfl (by omega) (by omega)) dX7_doPiece_130 rfl rfl ⟨Nat.le_of_ble_eq_true rfl, Nat.le_of_ble_eq_true rfl⟩ ⟨Nat.le_refl _, Nat.le_refl _⟩ (Nat.le_of_ble_eq_true rfl) ?_
                refine cp_aload_n O dX7_doPiece_133 cp_lg0 ?_
                refine cp_iload O dX7_doPiece_134 cp_lg5 ?_
                refine cp_iconst O dX7_doPiece_136 (v := 3) rfl ?_
                refine cp_iload O dX7_doPiece_137 cp_lg4 ?_
                refine cp_cVv O me_X7_sets mi_X7_sets ml_X7_53 cp_cX7 M.s (c_X7_sets (p := (cp_tn N)) (q := 3) M rfl rfl (by omega) (by omega)) dX7_doPiece_139 rfl rfl ⟨Nat.le_of_ble_eq_true rfl, Nat.le_of_ble_eq_true rfl⟩ ⟨Nat.le_refl _, Nat.le_refl _⟩ (Nat.le_of_ble_eq_true rfl) ?_
                refine cp_aload_n O dX7_doPiece_142 cp_lg0 ?_
                refine cp_iload O dX7_doPiece_143 cp_lg5 ?_
                refine cp_bipush O dX7_doPiece_145 (v := 8) rfl ?_
                refine cp_bipush O dX7_doPiece_147 (v := (-6)) rfl ?_
                refine cp_cVv O me_X7_sets mi_X7_sets ml_X7_53 cp_cX7 M.s (c_X7_sets (p := (cp_tn N)) (q := 8) M rfl rfl (by omega) (by omega)) dX7_doPiece_149 rfl rfl ⟨Nat.le_of_ble_eq_true rfl, Nat.le_of_ble_eq_true rfl⟩ ⟨Nat.le_refl _, Nat.le_refl _⟩ (Nat.le_of_ble_eq_true rfl) ?_
                refine cp_aload_n O dX7_doPiece_152 cp_lg0 ?_
                refine cp_iload_n O dX7_doPiece_153 cp_lg1 ?_
                refine cp_iload O dX7_doPiece_154 cp_lg5 ?_
                refine cp_cVv O me_X7_comesTo mi_X7_comesTo ml_X7_61 cp_cX7 M.s (c_X7_comesTo (q := k) (p := cp_tn N) M hv1 rfl (by omega) (show cp_pz a (cp_tn N) v1 v2 v3 v4 (8 + k) = _ from (cp_pz_o _ _ _ _ _ _ (by omega) (by omega)).trans hq0.1) (by omega)) dX7_doPiece_156 rfl rfl ⟨Nat.le_of_ble_eq_true rfl, Nat.le_of_ble_eq_true rfl⟩ ⟨Nat.le_refl _, Nat.le_refl _⟩ (Nat.le_of_ble_eq_true rfl) ?_
                refine cp_iload O dX7_doPiece_159 cp_lg5 ?_
                exact hr _ _ _ _ dX7_doPiece_161 rfl ⟨_, rfl, cp_MA_piece hA hV hv1 (by omega) (by omega)⟩
              · refine cp_aload_n O dX7_doPiece_94 cp_lg0 ?_
                refine cp_iload O dX7_doPiece_95 cp_lg5 ?_
                refine cp_iload O dX7_doPiece_97 cp_lg6 ?_
                refine cp_iconst O dX7_doPiece_99 (v := 0) rfl ?_
                refine cp_cVv O me_X7_sets mi_X7_sets ml_X7_53 cp_cX7 M.s (c_X7_sets (p := (cp_tn N)) (q := q) M rfl rfl (by omega) (by omega)) dX7_doPiece_100 rfl rfl ⟨Nat.le_of_ble_eq_true rfl, Nat.le_of_ble_eq_true rfl⟩ ⟨Nat.le_refl _, Nat.le_refl _⟩ (Nat.le_of_ble_eq_true rfl) ?_
                refine cp_iinc O dX7_doPiece_103 cp_lg6 (cp_inc rfl) (by decide) (cp_ls6 rfl) ?_
                refine cp_goto (tgt := 87) O dX7_doPiece_106 (by decide) ?_
                rw [cp_z_s]
                exact ih c_91
            have l0 := loop87 0 (Nat.zero_le _)
            rw [cp_z_0] at l0
            exact l0
          · have e : cp_sPiece N v1 v2 v3 v4 = (-4, N) := by
              unfold cp_sPiece
              rw [if_pos c_9, if_pos hc, if_pos c_60]
            rw [e] at hr
            refine cp_bipush O dX7_doPiece_63 (v := (-4)) rfl ?_
            exact hr _ _ _ _ dX7_doPiece_65 rfl ⟨a, rfl, hA⟩
        · have e : cp_sPiece N v1 v2 v3 v4 = (-2, N) := by
            unfold cp_sPiece
            rw [if_pos c_9, if_neg]
            first | (rw [c_23]; simp; done) | (rw [c_35]; simp; done) | (rw [c_46]; simp; done)
          rw [e] at hr
          refine cp_bipush O dX7_doPiece_49 (v := (-2)) rfl ?_
          exact hr _ _ _ _ dX7_doPiece_51 rfl ⟨a, rfl, hA⟩
  · have e : cp_sPiece N v1 v2 v3 v4 = (-1, N) := by
      unfold cp_sPiece
      rw [if_neg (by rw [c_9]; decide)]
    rw [e] at hr
    refine cp_iconst O dX7_doPiece_12 (v := (-1)) rfl ?_
    exact hr _ _ _ _ dX7_doPiece_13 rfl ⟨a, rfl, hA⟩
