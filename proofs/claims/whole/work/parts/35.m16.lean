theorem wb_tb (n : Nat) : (lN n).toBitVec = BitVec.ofNat 64 n := rfl
theorem wb_inj {a b : Int64} (h : a.toBitVec = b.toBitVec) : a = b := Int64.toBitVec_inj.mp h
theorem wb_tn {n : Nat} (h : n < 2 ^ 64) : (lN n).toBitVec.toNat = n := by rw [wb_tb, BitVec.toNat_ofNat, Nat.mod_eq_of_lt h]
theorem wb_of (x : Int64) : ∃ n, n < 2 ^ 64 ∧ x = lN n := ⟨x.toBitVec.toNat, x.toBitVec.isLt, wb_inj (by rw [wb_tb]; simp)⟩
theorem wb_of32 (x : Int32) : ∃ n, n < 2 ^ 32 ∧ x = nI n := ⟨x.toBitVec.toNat, x.toBitVec.isLt, Int32.toBitVec_inj.mp (by show _ = BitVec.ofNat 32 _; simp)⟩
theorem wb_c : ∀ k, k < 64 → ((nI k).toInt64 &&& 63) = lN k := by decide +kernel
theorem wb_cu : ∀ k, k < 64 → ((nI k).toInt64.toUInt64 &&& Int64.toUInt64 63) = UInt64.ofNat k := by decide +kernel
theorem wb_sm : ∀ k, k < 64 → (BitVec.ofNat 64 k).smod 64 = BitVec.ofNat 64 k := by decide +kernel
theorem wb_pw {a b : Nat} (h : a ≤ b) : 2 ^ b = 2 ^ a * 2 ^ (b - a) := by rw [← Nat.pow_add]; congr 1; omega
theorem wb_lt2 {a b : Nat} (h : a < b) : 2 ^ a < 2 ^ b := Nat.pow_lt_pow_right (by decide) h
theorem wb_mod (n : Nat) : lN n = lN (n % 2 ^ 64) := wb_inj (by rw [wb_tb, wb_tb]; apply BitVec.eq_of_toNat_eq; rw [BitVec.toNat_ofNat, BitVec.toNat_ofNat, Nat.mod_mod])
theorem wb_shr {n k : Nat} (hn : n < 2 ^ 64) (hk : k < 64) : ((lN n).toUInt64 >>> ((nI k).toInt64.toUInt64 &&& Int64.toUInt64 63)).toInt64 = lN (n / 2 ^ k) := by
  rw [wb_cu k hk]
  apply wb_inj
  apply BitVec.eq_of_toNat_eq
  show ((lN n).toUInt64 >>> UInt64.ofNat k).toNat = (BitVec.ofNat 64 _).toNat
  have h1 : (UInt64.ofNat k).toNat = k := by
    show (BitVec.ofNat 64 k).toNat = k
    rw [BitVec.toNat_ofNat, Nat.mod_eq_of_lt (by omega)]
  have h2 : (lN n).toUInt64.toNat = n := wb_tn hn
  rw [UInt64.toNat_shiftRight, h1, h2, Nat.mod_eq_of_lt hk, Nat.shiftRight_eq_div_pow, BitVec.toNat_ofNat, Nat.mod_eq_of_lt (Nat.lt_of_le_of_lt (Nat.div_le_self _ _) hn)]
theorem wb_shl (n : Nat) {k : Nat} (hk : k < 64) : lN n <<< ((nI k).toInt64 &&& 63) = lN (n * 2 ^ k) := by
  rw [wb_c k hk]
  apply wb_inj
  rw [Int64.toBitVec_shiftLeft, wb_tb, wb_tb, wb_tb, wb_sm k hk]
  apply BitVec.eq_of_toNat_eq
  rw [BitVec.shiftLeft_eq', BitVec.toNat_shiftLeft, BitVec.toNat_ofNat, BitVec.toNat_ofNat, BitVec.toNat_ofNat, Nat.mod_eq_of_lt (show k < 2 ^ 64 by omega), Nat.shiftLeft_eq, Nat.mul_mod, Nat.mod_mod, ← Nat.mul_mod]
theorem wb_and {a b : Nat} (ha : a < 2 ^ 64) (hb : b < 2 ^ 64) : lN a &&& lN b = lN (a &&& b) := by
  apply wb_inj
  rw [Int64.toBitVec_and, wb_tb, wb_tb, wb_tb]
  apply BitVec.eq_of_toNat_eq
  rw [BitVec.toNat_and, BitVec.toNat_ofNat, BitVec.toNat_ofNat, BitVec.toNat_ofNat, Nat.mod_eq_of_lt ha, Nat.mod_eq_of_lt hb, Nat.mod_eq_of_lt (Nat.and_lt_two_pow _ hb)]
theorem wb_or {a b : Nat} (ha : a < 2 ^ 64) (hb : b < 2 ^ 64) : lN a ||| lN b = lN (a ||| b) := by
  apply wb_inj
  rw [Int64.toBitVec_or, wb_tb, wb_tb, wb_tb]
  apply BitVec.eq_of_toNat_eq
  rw [BitVec.toNat_or, BitVec.toNat_ofNat, BitVec.toNat_ofNat, BitVec.toNat_ofNat, Nat.mod_eq_of_lt ha, Nat.mod_eq_of_lt hb, Nat.mod_eq_of_lt (Nat.or_lt_two_pow ha hb)]
theorem wb_mask {n k : Nat} (hn : n < 2 ^ 64) (hk : k < 64) : lN n &&& lN (2 ^ k - 1) = lN (n % 2 ^ k) := by
  rw [wb_and hn (by have := wb_lt2 hk; omega), Nat.and_two_pow_sub_one_eq_mod]
def cp_by (u k : Nat) : Nat := u / 256 ^ k % 256
def cp_gb (b : Nat) : Bool := decide (33 ≤ b ∧ b ≤ 126)
def cp_gd (u : Nat) : Nat → Bool
  | 0 => true
  | k + 1 => cp_gd u k && cp_gb (cp_by u k)
def cp_okb (u k : Nat) : Bool := decide (1 ≤ k ∧ k ≤ 8 ∧ u / 256 ^ k = 0) && cp_gd u k
/-- how many characters a number gives -/
def cp_pk (u : Nat) : Option Nat := (List.range 9).find? (cp_okb u)
theorem cp_gd_at {u : Nat} : ∀ {k : Nat}, cp_gd u k = true → ∀ j, j < k → cp_gb (cp_by u j) = true
  | 0, _, j, hj => absurd hj (by omega)
  | k + 1, h, j, hj => by
    have h : (cp_gd u k && cp_gb (cp_by u k)) = true := h
    rw [Bool.and_eq_true] at h
    rcases Nat.lt_or_ge j k with g | g
    · exact cp_gd_at h.1 j g
    · rw [show j = k by omega]; exact h.2
theorem cp_gb0 : cp_gb 0 = false := rfl
theorem cp_by0 {u j : Nat} (h : u / 256 ^ j = 0) : cp_by u j = 0 := by unfold cp_by; rw [h]
theorem cp_div0 {u j k : Nat} (h : u / 256 ^ j = 0) (hjk : j ≤ k) : u / 256 ^ k = 0 := by
  have h1 : u < 256 ^ j := by
    rcases Nat.lt_or_ge u (256 ^ j) with g | g
    · exact g
    · have := Nat.div_pos g (Nat.pow_pos (by decide))
      omega
  exact Nat.div_eq_of_lt (Nat.lt_of_lt_of_le h1 (Nat.pow_le_pow_right (by decide) hjk))
theorem cp_okb_iff {u k : Nat} : cp_okb u k = true ↔ 1 ≤ k ∧ k ≤ 8 ∧ u / 256 ^ k = 0 ∧ cp_gd u k = true := by
  unfold cp_okb
  rw [Bool.and_eq_true, decide_eq_true_iff]
  constructor
  · rintro ⟨⟨a, b, c⟩, d⟩; exact ⟨a, b, c, d⟩
  · rintro ⟨a, b, c, d⟩; exact ⟨⟨a, b, c⟩, d⟩
theorem cp_pk_s {u k : Nat} (h : cp_okb u k = true) : cp_pk u = some k := by
  obtain ⟨h1, h2, h3, h4⟩ := cp_okb_iff.mp h
  refine cp_fnd_s (by omega) h fun j hj => ?_
  apply Bool.eq_false_iff.mpr
  intro hj2
  obtain ⟨g1, g2, g3, g4⟩ := cp_okb_iff.mp hj2
  have := cp_gd_at h4 j hj
  rw [cp_by0 g3] at this
  exact absurd this (by decide)
theorem cp_pk_f {u : Nat} (h : ∀ k, cp_okb u k = false) : cp_pk u = none := cp_fnd_n fun j _ => h j
theorem cp_pk_le {u n : Nat} (h : cp_pk u = some n) : 1 ≤ n ∧ n ≤ 8 ∧ u / 256 ^ n = 0 ∧ cp_gd u n = true := by
  unfold cp_pk at h
  rw [List.find?_range_eq_some] at h
  exact cp_okb_iff.mp h.1
theorem cp_pw256 (k : Nat) : (256 : Nat) ^ k = 2 ^ (8 * k) := by rw [Nat.pow_mul]
theorem cp_d64 {u : Nat} (hu : u < 2 ^ 64) (k : Nat) : u / 256 ^ k < 2 ^ 64 := Nat.lt_of_le_of_lt (Nat.div_le_self _ _) hu
theorem cp_m255 {u : Nat} (hu : u < 2 ^ 64) : lN u &&& (255 : Int64) = lN (u % 256) := wb_mask (k := 8) hu (by decide)
theorem cp_sh8 {u : Nat} (hu : u < 2 ^ 64) : ((lN u).toUInt64 >>> ((8 : Int32).toInt64.toUInt64 &&& Int64.toUInt64 63)).toInt64 = lN (u / 256) := wb_shr (k := 8) hu (by decide)
theorem cp_lN0 {u : Nat} (hu : u < 2 ^ 64) : lN u = 0 ↔ u = 0 := by
  constructor
  · intro h
    have h2 := congrArg (fun x : Int64 => x.toBitVec.toNat) h
    have h3 : (lN u).toBitVec.toNat = 0 := h2
    rw [wb_tn hu] at h3
    exact h3
  · intro h; rw [h]; rfl
theorem cp_in_gb {b : Nat} (hb : b < 256) : decide ((33 : Int64) ≤ lN b ∧ lN b ≤ (126 : Int64)) = cp_gb b := by
  unfold cp_gb
  apply decide_eq_decide.mpr
  rw [show (33 : Int64) = lN 33 from rfl, show (126 : Int64) = lN 126 from rfl, lN_le (by omega) (by omega), lN_le (by omega) (by omega)]
theorem cp_gd_no {u k : Nat} (hb : ∀ j, j < k → cp_by u j ≠ 0) (hend : k = 8 ∨ cp_by u k = 0) (hno : cp_okb u k = false) : cp_pk u = none := by
  refine cp_pk_f fun j => ?_
  apply Bool.eq_false_iff.mpr
  intro hj
  obtain ⟨g1, g2, g3, g4⟩ := cp_okb_iff.mp hj
  rcases Nat.lt_trichotomy j k with h | h | h
  · exact hb j h (cp_by0 g3)
  · subst h; rw [hno] at hj; exact absurd hj (by decide)
  · rcases hend with e | e
    · omega
    · have := cp_gd_at g4 k h
      rw [e] at this
      exact absurd this (by decide)
/-- put -/
def cp_sPut (X : cp_St) (u : Nat) : Int32 × cp_St := match cp_pk u with
  | none => (-2, X)
  | some n => if cp_xn X + n ≤ 80 then (nI (cp_xn X + n), (cp_xN X, cp_xL X, cp_xH X, cp_xZ X, (fun i => if i < cp_xn X then cp_xT X i else nI (cp_by u (n - 1 - (i - cp_xn X)))), cp_xn X + n)) else (-4, X)
theorem cp_im1 (x : Int32) : x + Int32.ofInt (-1) = x - 1 := by rw [Int32.sub_eq_add_neg, show (-1 : Int32) = Int32.ofInt (-1) by decide]
def cp_pf (t : Nat → Int32) (u len n c : Nat) : Nat → Int32 := fun i => if len ≤ i ∧ i < len + c then nI (cp_by u (n - 1 - (i - len))) else t i
theorem cp_pf_0 (t : Nat → Int32) (u len n : Nat) : cp_pf t u len n 0 = t := by funext i; unfold cp_pf; rw [if_neg (by omega)]
theorem cp_pf_s (t : Nat → Int32) (u len n c : Nat) : upd (cp_pf t u len n c) (len + c) (nI (cp_by u (n - 1 - c))) = cp_pf t u len n (c + 1) := by
  funext i
  unfold upd cp_pf
  by_cases e : i = len + c
  · subst e; rw [if_pos rfl, if_pos (by omega), show len + c - len = c by omega]
  · rw [if_neg e]
    by_cases g : len ≤ i ∧ i < len + c
    · rw [if_pos g, if_pos (by omega)]
    · rw [if_neg g, if_neg (by omega)]
theorem cp_upd_self {f : Nat → Int32} {k : Nat} {v : Int32} (h : f k = v) : upd f k v = f := by
  funext j
  unfold upd
  by_cases e : j = k
  · subst e; rw [if_pos rfl, h]
  · rw [if_neg e]
set_option maxHeartbeats 4000000 in
set_option maxRecDepth 100000 in
theorem c_X7_put_n {lc : Launch} {E : cp_En} {cnt : Nat} {sh : cp_Shp} {R : cp_Rem} {J : cp_Mem} {m : Nat} {f : Nat → Int32} {r : Nat → Nat → Int32} (M : cp_ML sh R m) {u len : Nat} (hu : u < 2 ^ 64) (h10 : f 10 = nI len) (hlen : len ≤ 80) (hp : cp_pk u = none) : cp_Fn lc E yX7_put cX7_put 8 (some .int) 1 [.ref m, .long (lN u)] cnt sh (cp_mm J m f r) R (some (.int (-2))) (cp_mm J m f r) := by
  refine cp_Fn_i [some (.ref m), some (.long (lN u)), none, none, none, none, none, none] (by decide +kernel) (Nat.le_of_ble_eq_true rfl) rfl rfl (fun x hxl O hr => ?_)
  subst hxl
  refine cp_iconst O dX7_put_0 (v := 0) rfl ?_
  refine cp_istore_n O dX7_put_1 (by decide) (cp_ls3 rfl) ?_
  refine cp_iconst O dX7_put_2 (v := 1) rfl ?_
  refine cp_istore O dX7_put_3 (by decide) (cp_ls4 rfl) ?_
  refine cp_lload_n O dX7_put_5 cp_lg1 ?_
  refine cp_lstore O dX7_put_6 (by decide) (cp_lls5 rfl) ?_
  have loop8 : ∀ k, k ≤ 8 → (∀ j, j < k → cp_by u j ≠ 0) → cp_G x E 8 0 0 cnt sh (cp_mm J m f r) R 8 [some (.ref m), some (.long (lN u)), none, some (.int (nI k)), some (.int (cp_bi (cp_gd u k))), some (.long (lN (u / 256 ^ k))), none, none] [] := by
    refine cp_up (fun k hk ih hb => ?_)
    have hu2 := cp_d64 hu k
    have hu3 : cp_by u k < 256 := Nat.mod_lt _ (by decide)
    refine cp_iload_n O dX7_put_8 cp_lg3 ?_
    refine cp_bipush O dX7_put_9 (v := 8) rfl ?_
    refine cp_icmp_geN (tgt := 68) O dX7_put_11 (by decide) (a := k) (b := 8) rfl rfl (by omega) (by omega) (fun c_11 => ?_) (fun c_11 => ?_)
    · have hend : k = 8 ∨ cp_by u k = 0 := Or.inl (by omega)
      refine cp_iload_n O dX7_put_68 cp_lg3 ?_
      refine cp_if_eq (tgt := 84) O dX7_put_69 (by decide) (fun c_69 => ?_) (fun c_69 => ?_)
      · have hno : cp_okb u k = false := by
          apply Bool.eq_false_iff.mpr
          intro z
          have z1 := (cp_okb_iff.mp z).1
          exact nI_ne0 (n := k) (by omega) (by omega) c_69
        refine cp_bipush O dX7_put_84 (v := (-2)) rfl ?_
        exact hr _ _ _ _ dX7_put_86 rfl rfl
      · refine cp_lload O dX7_put_72 cp_lg5 ?_
        refine cp_lconst O dX7_put_74 (v := 0) rfl ?_
        refine cp_lcmp O dX7_put_75 ?_
        refine cp_if_neL (tgt := 84) O dX7_put_76 (by decide) (fun c_76 => ?_) (fun c_76 => ?_)
        · have hno : cp_okb u k = false := by
            apply Bool.eq_false_iff.mpr
            intro z
            exact c_76 ((cp_lN0 hu2).mpr (cp_okb_iff.mp z).2.2.1)
          refine cp_bipush O dX7_put_84 (v := (-2)) rfl ?_
          exact hr _ _ _ _ dX7_put_86 rfl rfl
        · refine cp_iload O dX7_put_79 cp_lg4 ?_
          refine cp_if_neB (tgt := 87) O dX7_put_81 (by decide) (fun c_81 => ?_) (fun c_81 => ?_)
          · have hok : cp_okb u k = true := by
              apply cp_okb_iff.mpr
              refine ⟨?_, hk, (cp_lN0 hu2).mp c_76, c_81⟩
              rcases Nat.eq_zero_or_pos k with h | h
              · exact absurd (by rw [h]; rfl) c_69
              · exact h
            exact absurd ((cp_pk_s hok).symm.trans hp) (by simp)
          · have hno : cp_okb u k = false := by
              apply Bool.eq_false_iff.mpr
              intro z
              rw [(cp_okb_iff.mp z).2.2.2] at c_81
              exact absurd c_81 (by decide)
            refine cp_bipush O dX7_put_84 (v := (-2)) rfl ?_
            exact hr _ _ _ _ dX7_put_86 rfl rfl
    · refine cp_lload O dX7_put_14 cp_lg5 ?_
      refine cp_ldc2 O cl_X7_195 dX7_put_16 ?_
      refine cp_land O dX7_put_19 ?_
      rw [cp_m255 hu2, show u / 256 ^ k % 256 = cp_by u k from rfl]
      refine cp_lconst O dX7_put_20 (v := 0) rfl ?_
      refine cp_lcmp O dX7_put_21 ?_
      refine cp_if_eqL (tgt := 68) O dX7_put_22 (by decide) (fun c_22 => ?_) (fun c_22 => ?_)
      · have hend : k = 8 ∨ cp_by u k = 0 := Or.inr ((cp_lN0 (by omega)).mp c_22)
        refine cp_iload_n O dX7_put_68 cp_lg3 ?_
        refine cp_if_eq (tgt := 84) O dX7_put_69 (by decide) (fun c_69 => ?_) (fun c_69 => ?_)
        · have hno : cp_okb u k = false := by
            apply Bool.eq_false_iff.mpr
            intro z
            have z1 := (cp_okb_iff.mp z).1
            exact nI_ne0 (n := k) (by omega) (by omega) c_69
          refine cp_bipush O dX7_put_84 (v := (-2)) rfl ?_
          exact hr _ _ _ _ dX7_put_86 rfl rfl
        · refine cp_lload O dX7_put_72 cp_lg5 ?_
          refine cp_lconst O dX7_put_74 (v := 0) rfl ?_
          refine cp_lcmp O dX7_put_75 ?_
          refine cp_if_neL (tgt := 84) O dX7_put_76 (by decide) (fun c_76 => ?_) (fun c_76 => ?_)
          · have hno : cp_okb u k = false := by
              apply Bool.eq_false_iff.mpr
              intro z
              exact c_76 ((cp_lN0 hu2).mpr (cp_okb_iff.mp z).2.2.1)
            refine cp_bipush O dX7_put_84 (v := (-2)) rfl ?_
            exact hr _ _ _ _ dX7_put_86 rfl rfl
          · refine cp_iload O dX7_put_79 cp_lg4 ?_
            refine cp_if_neB (tgt := 87) O dX7_put_81 (by decide) (fun c_81 => ?_) (fun c_81 => ?_)
            · have hok : cp_okb u k = true := by
                apply cp_okb_iff.mpr
                refine ⟨?_, hk, (cp_lN0 hu2).mp c_76, c_81⟩
                rcases Nat.eq_zero_or_pos k with h | h
                · exact absurd (by rw [h]; rfl) c_69
                · exact h
              exact absurd ((cp_pk_s hok).symm.trans hp) (by simp)
            · have hno : cp_okb u k = false := by
                apply Bool.eq_false_iff.mpr
                intro z
                rw [(cp_okb_iff.mp z).2.2.2] at c_81
                exact absurd c_81 (by decide)
              refine cp_bipush O dX7_put_84 (v := (-2)) rfl ?_
              exact hr _ _ _ _ dX7_put_86 rfl rfl
      · refine cp_iload O dX7_put_25 cp_lg4 ?_
        refine cp_if_eqB (tgt := 52) O dX7_put_27 (by decide) (fun c_27 => ?_) (fun c_27 => ?_)
        · refine cp_iconst O dX7_put_52 (v := 0) rfl ?_
          refine cp_istore O dX7_put_53 (by decide) (cp_ls4 rfl) ?_
          refine cp_lload O dX7_put_55 cp_lg5 ?_
          refine cp_bipush O dX7_put_57 (v := 8) rfl ?_
          refine cp_lushr O dX7_put_59 ?_
          refine cp_lstore O dX7_put_60 (by decide) (cp_lls5 rfl) ?_
          refine cp_iinc O dX7_put_62 cp_lg3 (cp_inc rfl) (by decide) (cp_ls3 rfl) ?_
          refine cp_goto (tgt := 8) O dX7_put_65 (by decide) ?_
          rw [cp_sh8 hu2]
          have ih2 := ih (by omega) (cp_lts hb (fun z => c_22 ((cp_lN0 (by omega)).mpr z)))
          rw [show u / 256 ^ (k + 1) = u / 256 ^ k / 256 by rw [Nat.pow_succ, Nat.div_div_eq_div_mul], show cp_gd u (k + 1) = (cp_gd u k && cp_gb (cp_by u k)) from rfl] at ih2
          first
            | (rw [c_27, c_45] at ih2; exact cp_Gw (cp_lws (cp_lws (cp_lwn (cp_lws (cp_lws (cp_lws (cp_lwn (cp_lwn cp_lw0)))))))) ih2)
            | (rw [c_27] at ih2; exact cp_Gw (cp_lws (cp_lws (cp_lwn (cp_lws (cp_lws (cp_lws (cp_lwn (cp_lwn cp_lw0)))))))) ih2)
            | (rw [c_45, Bool.and_false] at ih2; exact cp_Gw (cp_lws (cp_lws (cp_lwn (cp_lws (cp_lws (cp_lws (cp_lwn (cp_lwn cp_lw0)))))))) ih2)
        · refine cp_lload O dX7_put_30 cp_lg5 ?_
          refine cp_ldc2 O cl_X7_195 dX7_put_32 ?_
          refine cp_land O dX7_put_35 ?_
          rw [cp_m255 hu2, show u / 256 ^ k % 256 = cp_by u k from rfl]
          refine cp_ldc2 O cl_X7_197 dX7_put_36 ?_
          refine cp_ldc2 O cl_X7_199 dX7_put_39 ?_
          refine cp_cSi O me_X7_in ms_X7_in ml_X7_35 (c_X7_in) dX7_put_42 rfl rfl ⟨Nat.le_of_ble_eq_true rfl, Nat.le_of_ble_eq_true rfl⟩ ⟨Nat.le_refl _, Nat.le_refl _⟩ (Nat.le_of_ble_eq_true rfl) ?_
          rw [cp_in_gb hu3]
          refine cp_if_eqB (tgt := 52) O dX7_put_45 (by decide) (fun c_45 => ?_) (fun c_45 => ?_)
          · refine cp_iconst O dX7_put_52 (v := 0) rfl ?_
            refine cp_istore O dX7_put_53 (by decide) (cp_ls4 rfl) ?_
            refine cp_lload O dX7_put_55 cp_lg5 ?_
            refine cp_bipush O dX7_put_57 (v := 8) rfl ?_
            refine cp_lushr O dX7_put_59 ?_
            refine cp_lstore O dX7_put_60 (by decide) (cp_lls5 rfl) ?_
            refine cp_iinc O dX7_put_62 cp_lg3 (cp_inc rfl) (by decide) (cp_ls3 rfl) ?_
            refine cp_goto (tgt := 8) O dX7_put_65 (by decide) ?_
            rw [cp_sh8 hu2]
            have ih2 := ih (by omega) (cp_lts hb (fun z => c_22 ((cp_lN0 (by omega)).mpr z)))
            rw [show u / 256 ^ (k + 1) = u / 256 ^ k / 256 by rw [Nat.pow_succ, Nat.div_div_eq_div_mul], show cp_gd u (k + 1) = (cp_gd u k && cp_gb (cp_by u k)) from rfl] at ih2
            first
              | (rw [c_27, c_45] at ih2; exact cp_Gw (cp_lws (cp_lws (cp_lwn (cp_lws (cp_lws (cp_lws (cp_lwn (cp_lwn cp_lw0)))))))) ih2)
              | (rw [c_27] at ih2; exact cp_Gw (cp_lws (cp_lws (cp_lwn (cp_lws (cp_lws (cp_lws (cp_lwn (cp_lwn cp_lw0)))))))) ih2)
              | (rw [c_45, Bool.and_false] at ih2; exact cp_Gw (cp_lws (cp_lws (cp_lwn (cp_lws (cp_lws (cp_lws (cp_lwn (cp_lwn cp_lw0)))))))) ih2)
          · refine cp_iconst O dX7_put_48 (v := 1) rfl ?_
            refine cp_goto (tgt := 53) O dX7_put_49 (by decide) ?_
            refine cp_istore O dX7_put_53 (by decide) (cp_ls4 rfl) ?_
            refine cp_lload O dX7_put_55 cp_lg5 ?_
            refine cp_bipush O dX7_put_57 (v := 8) rfl ?_
            refine cp_lushr O dX7_put_59 ?_
            refine cp_lstore O dX7_put_60 (by decide) (cp_lls5 rfl) ?_
            refine cp_iinc O dX7_put_62 cp_lg3 (cp_inc rfl) (by decide) (cp_ls3 rfl) ?_
            refine cp_goto (tgt := 8) O dX7_put_65 (by decide) ?_
            rw [cp_sh8 hu2]
            have ih2 := ih (by omega) (cp_lts hb (fun z => c_22 ((cp_lN0 (by omega)).mpr z)))
            rw [show u / 256 ^ (k + 1) = u / 256 ^ k / 256 by rw [Nat.pow_succ, Nat.div_div_eq_div_mul], show cp_gd u (k + 1) = (cp_gd u k && cp_gb (cp_by u k)) from rfl] at ih2
            first
              | (rw [c_27, c_45] at ih2; exact cp_Gw (cp_lws (cp_lws (cp_lwn (cp_lws (cp_lws (cp_lws (cp_lwn (cp_lwn cp_lw0)))))))) ih2)
              | (rw [c_27] at ih2; exact cp_Gw (cp_lws (cp_lws (cp_lwn (cp_lws (cp_lws (cp_lws (cp_lwn (cp_lwn cp_lw0)))))))) ih2)
              | (rw [c_45, Bool.and_false] at ih2; exact cp_Gw (cp_lws (cp_lws (cp_lwn (cp_lws (cp_lws (cp_lws (cp_lwn (cp_lwn cp_lw0)))))))) ih2)
  have l0 := loop8 0 (Nat.zero_le _) (fun j hj => absurd hj (by omega))
  rw [Nat.pow_zero, Nat.div_one] at l0
  exact cp_Gw (cp_lws (cp_lws (cp_lwn (cp_lws (cp_lws (cp_lws (cp_lwn (cp_lwn cp_lw0)))))))) l0
set_option maxHeartbeats 4000000 in
set_option maxRecDepth 100000 in
theorem c_X7_put_t {lc : Launch} {E : cp_En} {cnt : Nat} {sh : cp_Shp} {R : cp_Rem} {J : cp_Mem} {m : Nat} {f : Nat → Int32} {r : Nat → Nat → Int32} (M : cp_ML sh R m) {u len : Nat} (hu : u < 2 ^ 64) (h10 : f 10 = nI len) (hlen : len ≤ 80) {n : Nat} (hp : cp_pk u = some n) (hl : ¬ len + n ≤ 80) : cp_Fn lc E yX7_put cX7_put 8 (some .int) 1 [.ref m, .long (lN u)] cnt sh (cp_mm J m f r) R (some (.int (-4))) (cp_mm J m f r) := by
  refine cp_Fn_i [some (.ref m), some (.long (lN u)), none, none, none, none, none, none] (by decide +kernel) (Nat.le_of_ble_eq_true rfl) rfl rfl (fun x hxl O hr => ?_)
  subst hxl
  refine cp_iconst O dX7_put_0 (v := 0) rfl ?_
  refine cp_istore_n O dX7_put_1 (by decide) (cp_ls3 rfl) ?_
  refine cp_iconst O dX7_put_2 (v := 1) rfl ?_
  refine cp_istore O dX7_put_3 (by decide) (cp_ls4 rfl) ?_
  refine cp_lload_n O dX7_put_5 cp_lg1 ?_
  refine cp_lstore O dX7_put_6 (by decide) (cp_lls5 rfl) ?_
  have loop8 : ∀ k, k ≤ 8 → (∀ j, j < k → cp_by u j ≠ 0) → cp_G x E 8 0 0 cnt sh (cp_mm J m f r) R 8 [some (.ref m), some (.long (lN u)), none, some (.int (nI k)), some (.int (cp_bi (cp_gd u k))), some (.long (lN (u / 256 ^ k))), none, none] [] := by
    refine cp_up (fun k hk ih hb => ?_)
    have hu2 := cp_d64 hu k
    have hu3 : cp_by u k < 256 := Nat.mod_lt _ (by decide)
    refine cp_iload_n O dX7_put_8 cp_lg3 ?_
    refine cp_bipush O dX7_put_9 (v := 8) rfl ?_
    refine cp_icmp_geN (tgt := 68) O dX7_put_11 (by decide) (a := k) (b := 8) rfl rfl (by omega) (by omega) (fun c_11 => ?_) (fun c_11 => ?_)
    · have hend : k = 8 ∨ cp_by u k = 0 := Or.inl (by omega)
      refine cp_iload_n O dX7_put_68 cp_lg3 ?_
      refine cp_if_eq (tgt := 84) O dX7_put_69 (by decide) (fun c_69 => ?_) (fun c_69 => ?_)
      · have hno : cp_okb u k = false := by
          apply Bool.eq_false_iff.mpr
          intro z
          have z1 := (cp_okb_iff.mp z).1
          exact nI_ne0 (n := k) (by omega) (by omega) c_69
        exact absurd ((cp_gd_no hb hend hno).symm.trans hp) (by simp)
      · refine cp_lload O dX7_put_72 cp_lg5 ?_
        refine cp_lconst O dX7_put_74 (v := 0) rfl ?_
        refine cp_lcmp O dX7_put_75 ?_
        refine cp_if_neL (tgt := 84) O dX7_put_76 (by decide) (fun c_76 => ?_) (fun c_76 => ?_)
        · have hno : cp_okb u k = false := by
            apply Bool.eq_false_iff.mpr
            intro z
            exact c_76 ((cp_lN0 hu2).mpr (cp_okb_iff.mp z).2.2.1)
          exact absurd ((cp_gd_no hb hend hno).symm.trans hp) (by simp)
        · refine cp_iload O dX7_put_79 cp_lg4 ?_
          refine cp_if_neB (tgt := 87) O dX7_put_81 (by decide) (fun c_81 => ?_) (fun c_81 => ?_)
          · have hok : cp_okb u k = true := by
              apply cp_okb_iff.mpr
              refine ⟨?_, hk, (cp_lN0 hu2).mp c_76, c_81⟩
              rcases Nat.eq_zero_or_pos k with h | h
              · exact absurd (by rw [h]; rfl) c_69
              · exact h
            obtain rfl : n = k := Option.some.inj (hp.symm.trans (cp_pk_s hok))
            refine cp_aload_n O dX7_put_87 cp_lg0 ?_
            refine mg_X7_183 O M dX7_put_88 ?_
            refine cp_iload_n O dX7_put_91 cp_lg3 ?_
            refine cp_iadd O dX7_put_92 ?_
            refine cp_bipush O dX7_put_93 (v := 80) rfl ?_
            refine cp_icmp_leN (tgt := 101) O dX7_put_95 (by decide) (a := (len + n)) (b := 80) (cp_ad h10 rfl) rfl (by omega) (by omega) (fun c_95 => ?_) (fun c_95 => ?_)
            · exact absurd c_95 hl
            · refine cp_bipush O dX7_put_98 (v := (-4)) rfl ?_
              exact hr _ _ _ _ dX7_put_100 rfl rfl
          · have hno : cp_okb u k = false := by
              apply Bool.eq_false_iff.mpr
              intro z
              rw [(cp_okb_iff.mp z).2.2.2] at c_81
              exact absurd c_81 (by decide)
            exact absurd ((cp_gd_no hb hend hno).symm.trans hp) (by simp)
    · refine cp_lload O dX7_put_14 cp_lg5 ?_
      refine cp_ldc2 O cl_X7_195 dX7_put_16 ?_
      refine cp_land O dX7_put_19 ?_
      rw [cp_m255 hu2, show u / 256 ^ k % 256 = cp_by u k from rfl]
      refine cp_lconst O dX7_put_20 (v := 0) rfl ?_
      refine cp_lcmp O dX7_put_21 ?_
      refine cp_if_eqL (tgt := 68) O dX7_put_22 (by decide) (fun c_22 => ?_) (fun c_22 => ?_)
      · have hend : k = 8 ∨ cp_by u k = 0 := Or.inr ((cp_lN0 (by omega)).mp c_22)
        refine cp_iload_n O dX7_put_68 cp_lg3 ?_
        refine cp_if_eq (tgt := 84) O dX7_put_69 (by decide) (fun c_69 => ?_) (fun c_69 => ?_)
        · have hno : cp_okb u k = false := by
            apply Bool.eq_false_iff.mpr
            intro z
            have z1 := (cp_okb_iff.mp z).1
            exact nI_ne0 (n := k) (by omega) (by omega) c_69
          exact absurd ((cp_gd_no hb hend hno).symm.trans hp) (by simp)
        · refine cp_lload O dX7_put_72 cp_lg5 ?_
          refine cp_lconst O dX7_put_74 (v := 0) rfl ?_
          refine cp_lcmp O dX7_put_75 ?_
          refine cp_if_neL (tgt := 84) O dX7_put_76 (by decide) (fun c_76 => ?_) (fun c_76 => ?_)
          · have hno : cp_okb u k = false := by
              apply Bool.eq_false_iff.mpr
              intro z
              exact c_76 ((cp_lN0 hu2).mpr (cp_okb_iff.mp z).2.2.1)
            exact absurd ((cp_gd_no hb hend hno).symm.trans hp) (by simp)
          · refine cp_iload O dX7_put_79 cp_lg4 ?_
            refine cp_if_neB (tgt := 87) O dX7_put_81 (by decide) (fun c_81 => ?_) (fun c_81 => ?_)
            · have hok : cp_okb u k = true := by
                apply cp_okb_iff.mpr
                refine ⟨?_, hk, (cp_lN0 hu2).mp c_76, c_81⟩
                rcases Nat.eq_zero_or_pos k with h | h
                · exact absurd (by rw [h]; rfl) c_69
                · exact h
              obtain rfl : n = k := Option.some.inj (hp.symm.trans (cp_pk_s hok))
              refine cp_aload_n O dX7_put_87 cp_lg0 ?_
              refine mg_X7_183 O M dX7_put_88 ?_
              refine cp_iload_n O dX7_put_91 cp_lg3 ?_
              refine cp_iadd O dX7_put_92 ?_
              refine cp_bipush O dX7_put_93 (v := 80) rfl ?_
              refine cp_icmp_leN (tgt := 101) O dX7_put_95 (by decide) (a := (len + n)) (b := 80) (cp_ad h10 rfl) rfl (by omega) (by omega) (fun c_95 => ?_) (fun c_95 => ?_)
              · exact absurd c_95 hl
              · refine cp_bipush O dX7_put_98 (v := (-4)) rfl ?_
                exact hr _ _ _ _ dX7_put_100 rfl rfl
            · have hno : cp_okb u k = false := by
                apply Bool.eq_false_iff.mpr
                intro z
                rw [(cp_okb_iff.mp z).2.2.2] at c_81
                exact absurd c_81 (by decide)
              exact absurd ((cp_gd_no hb hend hno).symm.trans hp) (by simp)
      · refine cp_iload O dX7_put_25 cp_lg4 ?_
        refine cp_if_eqB (tgt := 52) O dX7_put_27 (by decide) (fun c_27 => ?_) (fun c_27 => ?_)
        · refine cp_iconst O dX7_put_52 (v := 0) rfl ?_
          refine cp_istore O dX7_put_53 (by decide) (cp_ls4 rfl) ?_
          refine cp_lload O dX7_put_55 cp_lg5 ?_
          refine cp_bipush O dX7_put_57 (v := 8) rfl ?_
          refine cp_lushr O dX7_put_59 ?_
          refine cp_lstore O dX7_put_60 (by decide) (cp_lls5 rfl) ?_
          refine cp_iinc O dX7_put_62 cp_lg3 (cp_inc rfl) (by decide) (cp_ls3 rfl) ?_
          refine cp_goto (tgt := 8) O dX7_put_65 (by decide) ?_
          rw [cp_sh8 hu2]
          have ih2 := ih (by omega) (cp_lts hb (fun z => c_22 ((cp_lN0 (by omega)).mpr z)))
          rw [show u / 256 ^ (k + 1) = u / 256 ^ k / 256 by rw [Nat.pow_succ, Nat.div_div_eq_div_mul], show cp_gd u (k + 1) = (cp_gd u k && cp_gb (cp_by u k)) from rfl] at ih2
          first
            | (rw [c_27, c_45] at ih2; exact cp_Gw (cp_lws (cp_lws (cp_lwn (cp_lws (cp_lws (cp_lws (cp_lwn (cp_lwn cp_lw0)))))))) ih2)
            | (rw [c_27] at ih2; exact cp_Gw (cp_lws (cp_lws (cp_lwn (cp_lws (cp_lws (cp_lws (cp_lwn (cp_lwn cp_lw0)))))))) ih2)
            | (rw [c_45, Bool.and_false] at ih2; exact cp_Gw (cp_lws (cp_lws (cp_lwn (cp_lws (cp_lws (cp_lws (cp_lwn (cp_lwn cp_lw0)))))))) ih2)
        · refine cp_lload O dX7_put_30 cp_lg5 ?_
          refine cp_ldc2 O cl_X7_195 dX7_put_32 ?_
          refine cp_land O dX7_put_35 ?_
          rw [cp_m255 hu2, show u / 256 ^ k % 256 = cp_by u k from rfl]
          refine cp_ldc2 O cl_X7_197 dX7_put_36 ?_
          refine cp_ldc2 O cl_X7_199 dX7_put_39 ?_
          refine cp_cSi O me_X7_in ms_X7_in ml_X7_35 (c_X7_in) dX7_put_42 rfl rfl ⟨Nat.le_of_ble_eq_true rfl, Nat.le_of_ble_eq_true rfl⟩ ⟨Nat.le_refl _, Nat.le_refl _⟩ (Nat.le_of_ble_eq_true rfl) ?_
          rw [cp_in_gb hu3]
          refine cp_if_eqB (tgt := 52) O dX7_put_45 (by decide) (fun c_45 => ?_) (fun c_45 => ?_)
          · refine cp_iconst O dX7_put_52 (v := 0) rfl ?_
            refine cp_istore O dX7_put_53 (by decide) (cp_ls4 rfl) ?_
            refine cp_lload O dX7_put_55 cp_lg5 ?_
            refine cp_bipush O dX7_put_57 (v := 8) rfl ?_
            refine cp_lushr O dX7_put_59 ?_
            refine cp_lstore O dX7_put_60 (by decide) (cp_lls5 rfl) ?_
            refine cp_iinc O dX7_put_62 cp_lg3 (cp_inc rfl) (by decide) (cp_ls3 rfl) ?_
            refine cp_goto (tgt := 8) O dX7_put_65 (by decide) ?_
            rw [cp_sh8 hu2]
            have ih2 := ih (by omega) (cp_lts hb (fun z => c_22 ((cp_lN0 (by omega)).mpr z)))
            rw [show u / 256 ^ (k + 1) = u / 256 ^ k / 256 by rw [Nat.pow_succ, Nat.div_div_eq_div_mul], show cp_gd u (k + 1) = (cp_gd u k && cp_gb (cp_by u k)) from rfl] at ih2
            first
              | (rw [c_27, c_45] at ih2; exact cp_Gw (cp_lws (cp_lws (cp_lwn (cp_lws (cp_lws (cp_lws (cp_lwn (cp_lwn cp_lw0)))))))) ih2)
              | (rw [c_27] at ih2; exact cp_Gw (cp_lws (cp_lws (cp_lwn (cp_lws (cp_lws (cp_lws (cp_lwn (cp_lwn cp_lw0)))))))) ih2)
              | (rw [c_45, Bool.and_false] at ih2; exact cp_Gw (cp_lws (cp_lws (cp_lwn (cp_lws (cp_lws (cp_lws (cp_lwn (cp_lwn cp_lw0)))))))) ih2)
          · refine cp_iconst O dX7_put_48 (v := 1) rfl ?_
            refine cp_goto (tgt := 53) O dX7_put_49 (by decide) ?_
            refine cp_istore O dX7_put_53 (by decide) (cp_ls4 rfl) ?_
            refine cp_lload O dX7_put_55 cp_lg5 ?_
            refine cp_bipush O dX7_put_57 (v := 8) rfl ?_
            refine cp_lushr O dX7_put_59 ?_
            refine cp_lstore O dX7_put_60 (by decide) (cp_lls5 rfl) ?_
            refine cp_iinc O dX7_put_62 cp_lg3 (cp_inc rfl) (by decide) (cp_ls3 rfl) ?_
            refine cp_goto (tgt := 8) O dX7_put_65 (by decide) ?_
            rw [cp_sh8 hu2]
            have ih2 := ih (by omega) (cp_lts hb (fun z => c_22 ((cp_lN0 (by omega)).mpr z)))
            rw [show u / 256 ^ (k + 1) = u / 256 ^ k / 256 by rw [Nat.pow_succ, Nat.div_div_eq_div_mul], show cp_gd u (k + 1) = (cp_gd u k && cp_gb (cp_by u k)) from rfl] at ih2
            first
              | (rw [c_27, c_45] at ih2; exact cp_Gw (cp_lws (cp_lws (cp_lwn (cp_lws (cp_lws (cp_lws (cp_lwn (cp_lwn cp_lw0)))))))) ih2)
              | (rw [c_27] at ih2; exact cp_Gw (cp_lws (cp_lws (cp_lwn (cp_lws (cp_lws (cp_lws (cp_lwn (cp_lwn cp_lw0)))))))) ih2)
              | (rw [c_45, Bool.and_false] at ih2; exact cp_Gw (cp_lws (cp_lws (cp_lwn (cp_lws (cp_lws (cp_lws (cp_lwn (cp_lwn cp_lw0)))))))) ih2)
  have l0 := loop8 0 (Nat.zero_le _) (fun j hj => absurd hj (by omega))
  rw [Nat.pow_zero, Nat.div_one] at l0
  exact cp_Gw (cp_lws (cp_lws (cp_lwn (cp_lws (cp_lws (cp_lws (cp_lwn (cp_lwn cp_lw0)))))))) l0
set_option maxHeartbeats 4000000 in
set_option maxRecDepth 100000 in
theorem c_X7_put_s {lc : Launch} {E : cp_En} {cnt : Nat} {sh : cp_Shp} {R : cp_Rem} {J : cp_Mem} {m : Nat} {f : Nat → Int32} {r : Nat → Nat → Int32} (M : cp_ML sh R m) {u len : Nat} (hu : u < 2 ^ 64) (h10 : f 10 = nI len) (hlen : len ≤ 80) {n : Nat} (hp : cp_pk u = some n) (hl : len + n ≤ 80) : cp_Fn lc E yX7_put cX7_put 8 (some .int) 1 [.ref m, .long (lN u)] cnt sh (cp_mm J m f r) R (some (.int (nI (len + n)))) (cp_mm J m (upd f 10 (nI (len + n))) (cp_row r 7 (cp_pf (r 7) u len n n))) := by
  refine cp_Fn_i [some (.ref m), some (.long (lN u)), none, none, none, none, none, none] (by decide +kernel) (Nat.le_of_ble_eq_true rfl) rfl rfl (fun x hxl O hr => ?_)
  subst hxl
  refine cp_iconst O dX7_put_0 (v := 0) rfl ?_
  refine cp_istore_n O dX7_put_1 (by decide) (cp_ls3 rfl) ?_
  refine cp_iconst O dX7_put_2 (v := 1) rfl ?_
  refine cp_istore O dX7_put_3 (by decide) (cp_ls4 rfl) ?_
  refine cp_lload_n O dX7_put_5 cp_lg1 ?_
  refine cp_lstore O dX7_put_6 (by decide) (cp_lls5 rfl) ?_
  have loop8 : ∀ k, k ≤ 8 → (∀ j, j < k → cp_by u j ≠ 0) → cp_G x E 8 0 0 cnt sh (cp_mm J m f r) R 8 [some (.ref m), some (.long (lN u)), none, some (.int (nI k)), some (.int (cp_bi (cp_gd u k))), some (.long (lN (u / 256 ^ k))), none, none] [] := by
    refine cp_up (fun k hk ih hb => ?_)
    have hu2 := cp_d64 hu k
    have hu3 : cp_by u k < 256 := Nat.mod_lt _ (by decide)
    refine cp_iload_n O dX7_put_8 cp_lg3 ?_
    refine cp_bipush O dX7_put_9 (v := 8) rfl ?_
    refine cp_icmp_geN (tgt := 68) O dX7_put_11 (by decide) (a := k) (b := 8) rfl rfl (by omega) (by omega) (fun c_11 => ?_) (fun c_11 => ?_)
    · have hend : k = 8 ∨ cp_by u k = 0 := Or.inl (by omega)
      refine cp_iload_n O dX7_put_68 cp_lg3 ?_
      refine cp_if_eq (tgt := 84) O dX7_put_69 (by decide) (fun c_69 => ?_) (fun c_69 => ?_)
      · have hno : cp_okb u k = false := by
          apply Bool.eq_false_iff.mpr
          intro z
          have z1 := (cp_okb_iff.mp z).1
          exact nI_ne0 (n := k) (by omega) (by omega) c_69
        exact absurd ((cp_gd_no hb hend hno).symm.trans hp) (by simp)
      · refine cp_lload O dX7_put_72 cp_lg5 ?_
        refine cp_lconst O dX7_put_74 (v := 0) rfl ?_
        refine cp_lcmp O dX7_put_75 ?_
        refine cp_if_neL (tgt := 84) O dX7_put_76 (by decide) (fun c_76 => ?_) (fun c_76 => ?_)
        · have hno : cp_okb u k = false := by
            apply Bool.eq_false_iff.mpr
            intro z
            exact c_76 ((cp_lN0 hu2).mpr (cp_okb_iff.mp z).2.2.1)
          exact absurd ((cp_gd_no hb hend hno).symm.trans hp) (by simp)
        · refine cp_iload O dX7_put_79 cp_lg4 ?_
          refine cp_if_neB (tgt := 87) O dX7_put_81 (by decide) (fun c_81 => ?_) (fun c_81 => ?_)
          · have hok : cp_okb u k = true := by
              apply cp_okb_iff.mpr
              refine ⟨?_, hk, (cp_lN0 hu2).mp c_76, c_81⟩
              rcases Nat.eq_zero_or_pos k with h | h
              · exact absurd (by rw [h]; rfl) c_69
              · exact h
            obtain rfl : n = k := Option.some.inj (hp.symm.trans (cp_pk_s hok))
            refine cp_aload_n O dX7_put_87 cp_lg0 ?_
            refine mg_X7_183 O M dX7_put_88 ?_
            refine cp_iload_n O dX7_put_91 cp_lg3 ?_
            refine cp_iadd O dX7_put_92 ?_
            refine cp_bipush O dX7_put_93 (v := 80) rfl ?_
            refine cp_icmp_leN (tgt := 101) O dX7_put_95 (by decide) (a := (len + n)) (b := 80) (cp_ad h10 rfl) rfl (by omega) (by omega) (fun c_95 => ?_) (fun c_95 => ?_)
            · refine cp_iload_n O dX7_put_101 cp_lg3 ?_
              refine cp_iconst O dX7_put_102 (v := 1) rfl ?_
              refine cp_isub O dX7_put_103 ?_
              refine cp_istore O dX7_put_104 (by decide) (cp_ls7 rfl) ?_
              have loop106 : ∀ j, j ≤ n → cp_G x E 8 0 0 cnt sh (cp_mm J m (upd f 10 (nI (len + (n - j)))) (cp_row r 7 (cp_pf (r 7) u len n (n - j)))) R 106 [some (.ref m), some (.long (lN u)), none, some (.int (nI n)), some (.int (cp_bi (cp_gd u n))), some (.long (lN (u / 256 ^ n))), none, some (.int (nI j - 1))] [] := by
                refine fun j => cp_down (P := fun j => j ≤ n → cp_G x E 8 0 0 cnt sh (cp_mm J m (upd f 10 (nI (len + (n - j)))) (cp_row r 7 (cp_pf (r 7) u len n (n - j)))) R 106 [some (.ref m), some (.long (lN u)), none, some (.int (nI n)), some (.int (cp_bi (cp_gd u n))), some (.long (lN (u / 256 ^ n))), none, some (.int (nI j - 1))] []) (fun j ih2 hj => ?_) j
                refine cp_iload O dX7_put_106 cp_lg7 ?_
                refine cp_if_lt (tgt := 148) O dX7_put_108 (by decide) (fun c_108 => ?_) (fun c_108 => ?_)
                · have hj0 : j = 0 := by
                    rcases Nat.eq_zero_or_pos j with h | h
                    · exact h
                    · rw [show nI j - 1 = nI (j - 1) from pk_sub (b := 1) h] at c_108
                      exact absurd c_108 (cp_nn0 (by omega))
                  refine cp_aload_n O dX7_put_148 cp_lg0 ?_
                  refine mg_X7_183 O M dX7_put_149 ?_
                  exact hr _ _ _ _ dX7_put_152 (by rw [cp_upd_s, hj0, Nat.sub_zero]) (by rw [hj0, Nat.sub_zero])
                · have hj0 : 0 < j := by
                    rcases Nat.eq_zero_or_pos j with h | h
                    · exact absurd (by rw [h]; decide) c_108
                    · exact h
                  have hjm : nI j - 1 = nI (j - 1) := pk_sub (b := 1) hj0
                  refine cp_aload_n O dX7_put_111 cp_lg0 ?_
                  refine fg_X7_28 O M.s M.f9 dX7_put_112 ?_
                  refine cp_aload_n O dX7_put_115 cp_lg0 ?_
                  refine mg_X7_183 O M dX7_put_116 ?_
                  refine cp_lload_n O dX7_put_119 cp_lg1 ?_
                  refine cp_bipush O dX7_put_120 (v := 8) rfl ?_
                  refine cp_iload O dX7_put_122 cp_lg7 ?_
                  refine cp_imul O dX7_put_124 ?_
                  rw [hjm, show (8 : Int32) * nI (j - 1) = nI (8 * (j - 1)) from pk_mul 8 (j - 1)]
                  refine cp_lushr O dX7_put_125 ?_
                  rw [wb_shr hu (show 8 * (j - 1) < 64 by omega), ← cp_pw256]
                  refine cp_ldc2 O cl_X7_195 dX7_put_126 ?_
                  refine cp_land O dX7_put_129 ?_
                  rw [cp_m255 (cp_d64 hu _), show u / 256 ^ (j - 1) % 256 = cp_by u (n - 1 - (n - j)) by rw [show n - 1 - (n - j) = j - 1 by omega]; rfl]
                  refine cp_l2i O dX7_put_130 ?_
                  rw [lN_i]
                  refine cp_iastM (k := 7) O M.s9 (by decide) (j := (len + (n - j))) cp_upd_s (by omega) (by decide) dX7_put_131 ?_
                  rw [cp_row_wi, cp_pf_s]
                  refine cp_aload_n O dX7_put_132 cp_lg0 ?_
                  refine cp_dup O dX7_put_133 rfl ?_
                  refine mg_X7_183 O M dX7_put_134 ?_
                  refine cp_iconst O dX7_put_137 (v := 1) rfl ?_
                  refine cp_iadd O dX7_put_138 ?_
                  rw [cp_upd_s, nI_1]
                  refine mp_X7_183 O M dX7_put_139 ?_
                  rw [cp_uu]
                  
                  refine cp_iinc O dX7_put_142 cp_lg7 rfl (by decide) (cp_ls7 rfl) ?_
                  rw [cp_im1]
                  refine cp_goto (tgt := 106) O dX7_put_145 (by decide) ?_
                  rw [show n - j + 1 = n - (j - 1) by omega, show len + (n - j) + 1 = len + (n - (j - 1)) by omega]
                  exact ih2 hj0 (by omega)
              have l0 := loop106 n (Nat.le_refl _)
              rw [Nat.sub_self, Nat.add_zero, cp_upd_self h10, cp_pf_0, cp_row_self] at l0
              exact cp_Gw (cp_lws (cp_lws (cp_lwn (cp_lws (cp_lws (cp_lws (cp_lwn (cp_lws cp_lw0)))))))) l0
            · exact absurd hl (by omega)
          · have hno : cp_okb u k = false := by
              apply Bool.eq_false_iff.mpr
              intro z
              rw [(cp_okb_iff.mp z).2.2.2] at c_81
              exact absurd c_81 (by decide)
            exact absurd ((cp_gd_no hb hend hno).symm.trans hp) (by simp)
    · refine cp_lload O dX7_put_14 cp_lg5 ?_
      refine cp_ldc2 O cl_X7_195 dX7_put_16 ?_
      refine cp_land O dX7_put_19 ?_
      rw [cp_m255 hu2, show u / 256 ^ k % 256 = cp_by u k from rfl]
      refine cp_lconst O dX7_put_20 (v := 0) rfl ?_
      refine cp_lcmp O dX7_put_21 ?_
      refine cp_if_eqL (tgt := 68) O dX7_put_22 (by decide) (fun c_22 => ?_) (fun c_22 => ?_)
      · have hend : k = 8 ∨ cp_by u k = 0 := Or.inr ((cp_lN0 (by omega)).mp c_22)
        refine cp_iload_n O dX7_put_68 cp_lg3 ?_
        refine cp_if_eq (tgt := 84) O dX7_put_69 (by decide) (fun c_69 => ?_) (fun c_69 => ?_)
        · have hno : cp_okb u k = false := by
            apply Bool.eq_false_iff.mpr
            intro z
            have z1 := (cp_okb_iff.mp z).1
            exact nI_ne0 (n := k) (by omega) (by omega) c_69
          exact absurd ((cp_gd_no hb hend hno).symm.trans hp) (by simp)
        · refine cp_lload O dX7_put_72 cp_lg5 ?_
          refine cp_lconst O dX7_put_74 (v := 0) rfl ?_
          refine cp_lcmp O dX7_put_75 ?_
          refine cp_if_neL (tgt := 84) O dX7_put_76 (by decide) (fun c_76 => ?_) (fun c_76 => ?_)
          · have hno : cp_okb u k = false := by
              apply Bool.eq_false_iff.mpr
              intro z
              exact c_76 ((cp_lN0 hu2).mpr (cp_okb_iff.mp z).2.2.1)
            exact absurd ((cp_gd_no hb hend hno).symm.trans hp) (by simp)
          · refine cp_iload O dX7_put_79 cp_lg4 ?_
            refine cp_if_neB (tgt := 87) O dX7_put_81 (by decide) (fun c_81 => ?_) (fun c_81 => ?_)
            · have hok : cp_okb u k = true := by
                apply cp_okb_iff.mpr
                refine ⟨?_, hk, (cp_lN0 hu2).mp c_76, c_81⟩
                rcases Nat.eq_zero_or_pos k with h | h
                · exact absurd (by rw [h]; rfl) c_69
                · exact h
              obtain rfl : n = k := Option.some.inj (hp.symm.trans (cp_pk_s hok))
              refine cp_aload_n O dX7_put_87 cp_lg0 ?_
              refine mg_X7_183 O M dX7_put_88 ?_
              refine cp_iload_n O dX7_put_91 cp_lg3 ?_
              refine cp_iadd O dX7_put_92 ?_
              refine cp_bipush O dX7_put_93 (v := 80) rfl ?_
              refine cp_icmp_leN (tgt := 101) O dX7_put_95 (by decide) (a := (len + n)) (b := 80) (cp_ad h10 rfl) rfl (by omega) (by omega) (fun c_95 => ?_) (fun c_95 => ?_)
              · refine cp_iload_n O dX7_put_101 cp_lg3 ?_
                refine cp_iconst O dX7_put_102 (v := 1) rfl ?_
                refine cp_isub O dX7_put_103 ?_
                refine cp_istore O dX7_put_104 (by decide) (cp_ls7 rfl) ?_
                have loop106 : ∀ j, j ≤ n → cp_G x E 8 0 0 cnt sh (cp_mm J m (upd f 10 (nI (len + (n - j)))) (cp_row r 7 (cp_pf (r 7) u len n (n - j)))) R 106 [some (.ref m), some (.long (lN u)), none, some (.int (nI n)), some (.int (cp_bi (cp_gd u n))), some (.long (lN (u / 256 ^ n))), none, some (.int (nI j - 1))] [] := by
                  refine fun j => cp_down (P := fun j => j ≤ n → cp_G x E 8 0 0 cnt sh (cp_mm J m (upd f 10 (nI (len + (n - j)))) (cp_row r 7 (cp_pf (r 7) u len n (n - j)))) R 106 [some (.ref m), some (.long (lN u)), none, some (.int (nI n)), some (.int (cp_bi (cp_gd u n))), some (.long (lN (u / 256 ^ n))), none, some (.int (nI j - 1))] []) (fun j ih2 hj => ?_) j
                  refine cp_iload O dX7_put_106 cp_lg7 ?_
                  refine cp_if_lt (tgt := 148) O dX7_put_108 (by decide) (fun c_108 => ?_) (fun c_108 => ?_)
                  · have hj0 : j = 0 := by
                      rcases Nat.eq_zero_or_pos j with h | h
                      · exact h
                      · rw [show nI j - 1 = nI (j - 1) from pk_sub (b := 1) h] at c_108
                        exact absurd c_108 (cp_nn0 (by omega))
                    refine cp_aload_n O dX7_put_148 cp_lg0 ?_
                    refine mg_X7_183 O M dX7_put_149 ?_
                    exact hr _ _ _ _ dX7_put_152 (by rw [cp_upd_s, hj0, Nat.sub_zero]) (by rw [hj0, Nat.sub_zero])
                  · have hj0 : 0 < j := by
                      rcases Nat.eq_zero_or_pos j with h | h
                      · exact absurd (by rw [h]; decide) c_108
                      · exact h
                    have hjm : nI j - 1 = nI (j - 1) := pk_sub (b := 1) hj0
                    refine cp_aload_n O dX7_put_111 cp_lg0 ?_
                    refine fg_X7_28 O M.s M.f9 dX7_put_112 ?_
                    refine cp_aload_n O dX7_put_115 cp_lg0 ?_
                    refine mg_X7_183 O M dX7_put_116 ?_
                    refine cp_lload_n O dX7_put_119 cp_lg1 ?_
                    refine cp_bipush O dX7_put_120 (v := 8) rfl ?_
                    refine cp_iload O dX7_put_122 cp_lg7 ?_
                    refine cp_imul O dX7_put_124 ?_
                    rw [hjm, show (8 : Int32) * nI (j - 1) = nI (8 * (j - 1)) from pk_mul 8 (j - 1)]
                    refine cp_lushr O dX7_put_125 ?_
                    rw [wb_shr hu (show 8 * (j - 1) < 64 by omega), ← cp_pw256]
                    refine cp_ldc2 O cl_X7_195 dX7_put_126 ?_
                    refine cp_land O dX7_put_129 ?_
                    rw [cp_m255 (cp_d64 hu _), show u / 256 ^ (j - 1) % 256 = cp_by u (n - 1 - (n - j)) by rw [show n - 1 - (n - j) = j - 1 by omega]; rfl]
                    refine cp_l2i O dX7_put_130 ?_
                    rw [lN_i]
                    refine cp_iastM (k := 7) O M.s9 (by decide) (j := (len + (n - j))) cp_upd_s (by omega) (by decide) dX7_put_131 ?_
                    rw [cp_row_wi, cp_pf_s]
                    refine cp_aload_n O dX7_put_132 cp_lg0 ?_
                    refine cp_dup O dX7_put_133 rfl ?_
                    refine mg_X7_183 O M dX7_put_134 ?_
                    refine cp_iconst O dX7_put_137 (v := 1) rfl ?_
                    refine cp_iadd O dX7_put_138 ?_
                    rw [cp_upd_s, nI_1]
                    refine mp_X7_183 O M dX7_put_139 ?_
                    rw [cp_uu]
                    
                    refine cp_iinc O dX7_put_142 cp_lg7 rfl (by decide) (cp_ls7 rfl) ?_
                    rw [cp_im1]
                    refine cp_goto (tgt := 106) O dX7_put_145 (by decide) ?_
                    rw [show n - j + 1 = n - (j - 1) by omega, show len + (n - j) + 1 = len + (n - (j - 1)) by omega]
                    exact ih2 hj0 (by omega)
                have l0 := loop106 n (Nat.le_refl _)
                rw [Nat.sub_self, Nat.add_zero, cp_upd_self h10, cp_pf_0, cp_row_self] at l0
                exact cp_Gw (cp_lws (cp_lws (cp_lwn (cp_lws (cp_lws (cp_lws (cp_lwn (cp_lws cp_lw0)))))))) l0
              · exact absurd hl (by omega)
            · have hno : cp_okb u k = false := by
                apply Bool.eq_false_iff.mpr
                intro z
                rw [(cp_okb_iff.mp z).2.2.2] at c_81
                exact absurd c_81 (by decide)
              exact absurd ((cp_gd_no hb hend hno).symm.trans hp) (by simp)
      · refine cp_iload O dX7_put_25 cp_lg4 ?_
        refine cp_if_eqB (tgt := 52) O dX7_put_27 (by decide) (fun c_27 => ?_) (fun c_27 => ?_)
        · refine cp_iconst O dX7_put_52 (v := 0) rfl ?_
          refine cp_istore O dX7_put_53 (by decide) (cp_ls4 rfl) ?_
          refine cp_lload O dX7_put_55 cp_lg5 ?_
          refine cp_bipush O dX7_put_57 (v := 8) rfl ?_
          refine cp_lushr O dX7_put_59 ?_
          refine cp_lstore O dX7_put_60 (by decide) (cp_lls5 rfl) ?_
          refine cp_iinc O dX7_put_62 cp_lg3 (cp_inc rfl) (by decide) (cp_ls3 rfl) ?_
          refine cp_goto (tgt := 8) O dX7_put_65 (by decide) ?_
          rw [cp_sh8 hu2]
          have ih2 := ih (by omega) (cp_lts hb (fun z => c_22 ((cp_lN0 (by omega)).mpr z)))
          rw [show u / 256 ^ (k + 1) = u / 256 ^ k / 256 by rw [Nat.pow_succ, Nat.div_div_eq_div_mul], show cp_gd u (k + 1) = (cp_gd u k && cp_gb (cp_by u k)) from rfl] at ih2
          first
            | (rw [c_27, c_45] at ih2; exact cp_Gw (cp_lws (cp_lws (cp_lwn (cp_lws (cp_lws (cp_lws (cp_lwn (cp_lwn cp_lw0)))))))) ih2)
            | (rw [c_27] at ih2; exact cp_Gw (cp_lws (cp_lws (cp_lwn (cp_lws (cp_lws (cp_lws (cp_lwn (cp_lwn cp_lw0)))))))) ih2)
            | (rw [c_45, Bool.and_false] at ih2; exact cp_Gw (cp_lws (cp_lws (cp_lwn (cp_lws (cp_lws (cp_lws (cp_lwn (cp_lwn cp_lw0)))))))) ih2)
        · refine cp_lload O dX7_put_30 cp_lg5 ?_
          refine cp_ldc2 O cl_X7_195 dX7_put_32 ?_
          refine cp_land O dX7_put_35 ?_
          rw [cp_m255 hu2, show u / 256 ^ k % 256 = cp_by u k from rfl]
          refine cp_ldc2 O cl_X7_197 dX7_put_36 ?_
          refine cp_ldc2 O cl_X7_199 dX7_put_39 ?_
          refine cp_cSi O me_X7_in ms_X7_in ml_X7_35 (c_X7_in) dX7_put_42 rfl rfl ⟨Nat.le_of_ble_eq_true rfl, Nat.le_of_ble_eq_true rfl⟩ ⟨Nat.le_refl _, Nat.le_refl _⟩ (Nat.le_of_ble_eq_true rfl) ?_
          rw [cp_in_gb hu3]
          refine cp_if_eqB (tgt := 52) O dX7_put_45 (by decide) (fun c_45 => ?_) (fun c_45 => ?_)
          · refine cp_iconst O dX7_put_52 (v := 0) rfl ?_
            refine cp_istore O dX7_put_53 (by decide) (cp_ls4 rfl) ?_
            refine cp_lload O dX7_put_55 cp_lg5 ?_
            refine cp_bipush O dX7_put_57 (v := 8) rfl ?_
            refine cp_lushr O dX7_put_59 ?_
            refine cp_lstore O dX7_put_60 (by decide) (cp_lls5 rfl) ?_
            refine cp_iinc O dX7_put_62 cp_lg3 (cp_inc rfl) (by decide) (cp_ls3 rfl) ?_
            refine cp_goto (tgt := 8) O dX7_put_65 (by decide) ?_
            rw [cp_sh8 hu2]
            have ih2 := ih (by omega) (cp_lts hb (fun z => c_22 ((cp_lN0 (by omega)).mpr z)))
            rw [show u / 256 ^ (k + 1) = u / 256 ^ k / 256 by rw [Nat.pow_succ, Nat.div_div_eq_div_mul], show cp_gd u (k + 1) = (cp_gd u k && cp_gb (cp_by u k)) from rfl] at ih2
            first
              | (rw [c_27, c_45] at ih2; exact cp_Gw (cp_lws (cp_lws (cp_lwn (cp_lws (cp_lws (cp_lws (cp_lwn (cp_lwn cp_lw0)))))))) ih2)
              | (rw [c_27] at ih2; exact cp_Gw (cp_lws (cp_lws (cp_lwn (cp_lws (cp_lws (cp_lws (cp_lwn (cp_lwn cp_lw0)))))))) ih2)
              | (rw [c_45, Bool.and_false] at ih2; exact cp_Gw (cp_lws (cp_lws (cp_lwn (cp_lws (cp_lws (cp_lws (cp_lwn (cp_lwn cp_lw0)))))))) ih2)
          · refine cp_iconst O dX7_put_48 (v := 1) rfl ?_
            refine cp_goto (tgt := 53) O dX7_put_49 (by decide) ?_
            refine cp_istore O dX7_put_53 (by decide) (cp_ls4 rfl) ?_
            refine cp_lload O dX7_put_55 cp_lg5 ?_
            refine cp_bipush O dX7_put_57 (v := 8) rfl ?_
            refine cp_lushr O dX7_put_59 ?_
            refine cp_lstore O dX7_put_60 (by decide) (cp_lls5 rfl) ?_
            refine cp_iinc O dX7_put_62 cp_lg3 (cp_inc rfl) (by decide) (cp_ls3 rfl) ?_
            refine cp_goto (tgt := 8) O dX7_put_65 (by decide) ?_
            rw [cp_sh8 hu2]
            have ih2 := ih (by omega) (cp_lts hb (fun z => c_22 ((cp_lN0 (by omega)).mpr z)))
            rw [show u / 256 ^ (k + 1) = u / 256 ^ k / 256 by rw [Nat.pow_succ, Nat.div_div_eq_div_mul], show cp_gd u (k + 1) = (cp_gd u k && cp_gb (cp_by u k)) from rfl] at ih2
            first
              | (rw [c_27, c_45] at ih2; exact cp_Gw (cp_lws (cp_lws (cp_lwn (cp_lws (cp_lws (cp_lws (cp_lwn (cp_lwn cp_lw0)))))))) ih2)
              | (rw [c_27] at ih2; exact cp_Gw (cp_lws (cp_lws (cp_lwn (cp_lws (cp_lws (cp_lws (cp_lwn (cp_lwn cp_lw0)))))))) ih2)
              | (rw [c_45, Bool.and_false] at ih2; exact cp_Gw (cp_lws (cp_lws (cp_lwn (cp_lws (cp_lws (cp_lws (cp_lwn (cp_lwn cp_lw0)))))))) ih2)
  have l0 := loop8 0 (Nat.zero_le _) (fun j hj => absurd hj (by omega))
  rw [Nat.pow_zero, Nat.div_one] at l0
  exact cp_Gw (cp_lws (cp_lws (cp_lwn (cp_lws (cp_lws (cp_lws (cp_lwn (cp_lwn cp_lw0)))))))) l0
set_option maxHeartbeats 4000000 in
set_option maxRecDepth 100000 in
theorem c_X7_wipe {lc : Launch} {E : cp_En} {cnt : Nat} {sh : cp_Shp} {R : cp_Rem} {J : cp_Mem} {m : Nat} {f : Nat → Int32} {r : Nat → Nat → Int32} (M : cp_ML sh R m) : cp_Fn lc E yX7_wipe cX7_wipe 2 (some .int) 0 [.ref m] cnt sh (cp_mm J m f r) R (some (.int (f 10))) (cp_mm J m (upd f 10 0) r) := by
  refine cp_Fn_i [some (.ref m), none] (by decide +kernel) (Nat.le_of_ble_eq_true rfl) rfl rfl (fun x hxl O hr => ?_)
  subst hxl
  refine cp_aload_n O dX7_wipe_0 cp_lg0 ?_
  refine mg_X7_183 O M dX7_wipe_1 ?_
  refine cp_istore_n O dX7_wipe_4 (by decide) (cp_ls1 rfl) ?_
  refine cp_aload_n O dX7_wipe_5 cp_lg0 ?_
  refine cp_iconst O dX7_wipe_6 (v := 0) rfl ?_
  refine mp_X7_183 O M dX7_wipe_7 ?_
  refine cp_iload_n O dX7_wipe_10 cp_lg1 ?_
  exact hr _ _ _ _ dX7_wipe_11 rfl rfl
