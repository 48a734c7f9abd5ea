/-- the waiting ones are those of a list from a place on -/
def cp_wt (l : List Nat) (t : Nat) (s : Int32) : Prop := ∀ i, i < 32 → (bt s i = true ↔ ∃ k, t ≤ k ∧ k < l.length ∧ l.getD k 0 = i)
theorem cp_wt_0 {n : Nat} {P : cp_PP} (hn : n ≤ 24) : cp_wt (cp_so n P) 0 (cp_st (cp_fr P) n) := by
  intro i hi
  rw [cp_st_bt _ n (by omega) i hi, Bool.and_eq_true, decide_eq_true_iff]
  constructor
  · intro h
    obtain ⟨k, k1, k2⟩ := cp_mem_ix (cp_so_mem.mpr h)
    exact ⟨k, Nat.zero_le _, k1, k2⟩
  · rintro ⟨k, _, k1, rfl⟩
    exact cp_so_mem.mp (cp_getD_in k1)
theorem cp_wt_hd {n : Nat} {P : cp_PP} {t : Nat} {s : Int32} (hn : n ≤ 24) (h : cp_wt (cp_so n P) t s) (ht : t < (cp_so n P).length) : cp_fbk P (fun i => decide (cp_bit s i = 1)) n = some ((cp_so n P).getD t 0) := by
  have hm := cp_so_mem.mp (cp_getD_in ht)
  refine cp_fbk_s (n := n) ?_ (fun j hj hq hne => ?_) (Nat.le_refl n) hm.1
  · show decide (cp_bit s ((cp_so n P).getD t 0) = 1) = true
    rw [cp_bit_1 (by omega)]
    exact (h _ (by omega)).mpr ⟨t, Nat.le_refl _, ht, rfl⟩
  · have hq : decide (cp_bit s j = 1) = true := hq
    rw [cp_bit_1 (by omega)] at hq
    obtain ⟨k, k1, k2, k3⟩ := (h j (by omega)).mp hq
    have hlt : t < k := by
      rcases Nat.lt_or_ge t k with g | g
      · exact g
      · exact absurd (by rw [← k3, show k = t by omega]) hne
    rw [← k3]
    exact cp_so_lt k2 hlt
theorem cp_wt_no {n : Nat} {P : cp_PP} {t : Nat} {s : Int32} (hn : n ≤ 24) (h : cp_wt (cp_so n P) t s) (ht : (cp_so n P).length ≤ t) : cp_fbk P (fun i => decide (cp_bit s i = 1)) n = none := by
  refine cp_fbk_n fun j hj => ?_
  show decide (cp_bit s j = 1) = false
  rw [cp_bit_1 (by omega)]
  apply Bool.eq_false_iff.mpr
  intro hq
  obtain ⟨k, k1, k2, _⟩ := (h j (by omega)).mp hq
  omega
theorem cp_b1s {p i : Nat} (hp : p < 32) (hi : i < 32) : bt ((1 : Int32) <<< (nI p &&& 31)) i = decide (i = p) := by
  rw [b_shl p hp 1 hi, cp_b1 _ (by omega)]
  by_cases h : i = p
  · subst h; simp
  · rw [decide_eq_false h]
    by_cases g : p ≤ i
    · rw [decide_eq_false (show ¬ i - p = 0 by omega), Bool.and_false]
    · rw [decide_eq_false g, Bool.false_and]
theorem cp_wt_s {n : Nat} {P : cp_PP} {t : Nat} {s : Int32} (hn : n ≤ 24) (h : cp_wt (cp_so n P) t s) (ht : t < (cp_so n P).length) : cp_wt (cp_so n P) (t + 1) (s &&& (((1 : Int32) <<< (nI ((cp_so n P).getD t 0) &&& 31)) ^^^ (-1))) := by
  intro i hi
  have hm := cp_so_mem.mp (cp_getD_in ht)
  rw [b_and, b_xor, cp_b1s (by omega) hi, b_m1 i hi, Bool.and_eq_true, h i hi]
  constructor
  · rintro ⟨⟨k, k1, k2, k3⟩, hx⟩
    refine ⟨k, ?_, k2, k3⟩
    rcases Nat.lt_or_ge t k with g | g
    · exact g
    · have e : k = t := by omega
      subst e
      rw [decide_eq_true k3.symm] at hx
      exact absurd hx (by decide)
  · rintro ⟨k, k1, k2, k3⟩
    refine ⟨⟨k, by omega, k2, k3⟩, ?_⟩
    have hne : ¬ i = (cp_so n P).getD t 0 := fun e => by
      have h1 := cp_ah_ne (cp_so_lt (n := n) (P := P) k2 (show t < k by omega))
      exact h1 (e.symm.trans k3.symm)
    rw [decide_eq_false hne]
    rfl
theorem cp_ts1_t {P : cp_PP} {room : Int32} {s : Int32 × Int32} {p : Nat} (h : ¬ room < s.2 + P p 1) : cp_ts1 P room s p = (s.1 ||| ((1 : Int32) <<< (nI p &&& 31)), s.2 + P p 1) := by
  unfold cp_ts1
  rw [if_pos (Int32.not_lt.mp h)]
theorem cp_ts1_f {P : cp_PP} {room : Int32} {s : Int32 × Int32} {p : Nat} (h : room < s.2 + P p 1) : cp_ts1 P room s p = s := by
  unfold cp_ts1
  rw [if_neg (Int32.not_le.mpr h)]
set_option maxHeartbeats 4000000 in
set_option maxRecDepth 100000 in
theorem c_X1_takenNow {lc : Launch} {E : cp_En} {cnt : Nat} {sh : cp_Shp} {R : cp_Rem} {J : cp_Mem} {b : Nat} {o S : Nat → Int32} {P Q : cp_PP} (N : cp_NL sh R b) {n : Nat} (h3 : o 3 = nI n) (hn : n ≤ 24) : cp_Fn lc E yX1_takenNow cX1_takenNow 6 (some .int) 2 [.ref b] cnt sh (cp_nn J b o S P Q) R (some (.int ((cp_tk P (S 2) (cp_so n P)).1))) (cp_nn J b o S P Q) := by
  have hle := cp_so_le n P
  refine cp_Fn_i [some (.ref b), none, none, none, none, none] (by decide +kernel) (Nat.le_of_ble_eq_true rfl) rfl rfl (fun x hxl O hr => ?_)
  subst hxl
  refine cp_aload_n O dX1_takenNow_0 cp_lg0 ?_
  refine cp_cVi O me_X1_piecesForPlate mi_X1_piecesForPlate ml_X1_147 cp_cX1 N.s (c_X1_piecesForPlate N h3 hn) dX1_takenNow_1 rfl rfl ⟨Nat.le_of_ble_eq_true rfl, Nat.le_of_ble_eq_true rfl⟩ ⟨Nat.le_refl _, Nat.le_refl _⟩ (Nat.le_of_ble_eq_true rfl) ?_
  refine cp_istore_n O dX1_takenNow_4 (by decide) (cp_ls1 rfl) ?_
  refine cp_iconst O dX1_takenNow_5 (v := 0) rfl ?_
  refine cp_istore_n O dX1_takenNow_6 (by decide) (cp_ls2 rfl) ?_
  refine cp_iconst O dX1_takenNow_7 (v := 0) rfl ?_
  refine cp_istore_n O dX1_takenNow_8 (by decide) (cp_ls3 rfl) ?_
  refine cp_iconst O dX1_takenNow_9 (v := 0) rfl ?_
  refine cp_istore O dX1_takenNow_10 (by decide) (cp_ls4 rfl) ?_
  have loop12 : ∀ t, t ≤ (cp_so n P).length → ∀ s : Int32, cp_wt (cp_so n P) t s → cp_G x E 6 0 0 cnt sh (cp_nn J b o S P Q) R 12 [some (.ref b), some (.int s), some (.int (cp_tk P (S 2) ((cp_so n P).take t)).1), some (.int (cp_tk P (S 2) ((cp_so n P).take t)).2), some (.int (nI t)), none] [] := by
    refine cp_up (n := (cp_so n P).length) (P := fun t => ∀ s : Int32, cp_wt (cp_so n P) t s → cp_G x E 6 0 0 cnt sh (cp_nn J b o S P Q) R 12 [some (.ref b), some (.int s), some (.int (cp_tk P (S 2) ((cp_so n P).take t)).1), some (.int (cp_tk P (S 2) ((cp_so n P).take t)).2), some (.int (nI t)), none] []) (fun t ht ih s hw => ?_)
    refine cp_iload O dX1_takenNow_12 cp_lg4 ?_
    refine cp_aload_n O dX1_takenNow_14 cp_lg0 ?_
    refine ng_X1_34 O N dX1_takenNow_15 ?_
    refine cp_icmp_geN (tgt := 91) O dX1_takenNow_18 (by decide) (a := t) (b := n) rfl h3 (by omega) (by omega) (fun c_18 => ?_) (fun c_18 => ?_)
    · refine cp_iload_n O dX1_takenNow_91 cp_lg2 ?_
      exact hr _ _ _ _ dX1_takenNow_92 (by rw [show t = (cp_so n P).length by omega, List.take_length]) rfl
    · refine cp_aload_n O dX1_takenNow_21 cp_lg0 ?_
      refine cp_iload_n O dX1_takenNow_22 cp_lg1 ?_
      refine cp_cVi O me_X1_firstByRank mi_X1_firstByRank ml_X1_150 cp_cX1 N.s (c_X1_firstByRank N h3 hn) dX1_takenNow_23 rfl rfl ⟨Nat.le_of_ble_eq_true rfl, Nat.le_of_ble_eq_true rfl⟩ ⟨Nat.le_refl _, Nat.le_refl _⟩ (Nat.le_of_ble_eq_true rfl) ?_
      refine cp_istore O dX1_takenNow_26 (by decide) (cp_ls5 rfl) ?_
      refine cp_iload O dX1_takenNow_28 cp_lg5 ?_
      refine cp_if_ge (tgt := 35) O dX1_takenNow_30 (by decide) (fun c_30 => ?_) (fun c_30 => ?_)
      · have hlt : t < (cp_so n P).length := by
          rcases Nat.lt_or_ge t (cp_so n P).length with g | g
          · exact g
          · rw [cp_wt_no hn hw g] at c_30
            exact absurd c_30 (by decide)
        have hpm := cp_so_mem.mp (cp_getD_in hlt)
        rw [cp_wt_hd hn hw hlt]
        refine cp_iload_n O dX1_takenNow_35 cp_lg1 ?_
        refine cp_iconst O dX1_takenNow_36 (v := 1) rfl ?_
        refine cp_iload O dX1_takenNow_37 cp_lg5 ?_
        refine cp_ishl O dX1_takenNow_39 ?_
        refine cp_iconst O dX1_takenNow_40 (v := (-1)) rfl ?_
        refine cp_ixor O dX1_takenNow_41 ?_
        refine cp_iand O dX1_takenNow_42 ?_
        rw [show cp_o2i (some ((cp_so n P).getD t 0)) = nI ((cp_so n P).getD t 0) from rfl]
        refine cp_istore_n O dX1_takenNow_43 (by decide) (cp_ls1 rfl) ?_
        refine cp_iload_n O dX1_takenNow_44 cp_lg3 ?_
        refine cp_aload_n O dX1_takenNow_45 cp_lg0 ?_
        refine fg_X1_29 O N.s N.pcs dX1_takenNow_46 ?_
        refine cp_iload O dX1_takenNow_49 cp_lg5 ?_
        refine cp_aaldr O (Or.inr (Or.inl ⟨rfl, rfl⟩)) N.spcs (j := ((cp_so n P).getD t 0)) rfl (by omega) (by decide) (N.pc (by omega)) dX1_takenNow_51 ?_
        refine pg_X1_144 O N (by omega) dX1_takenNow_52 ?_
        refine cp_iadd O dX1_takenNow_55 ?_
        refine cp_aload_n O dX1_takenNow_56 cp_lg0 ?_
        refine fg_X1_18 O N.s N.set dX1_takenNow_57 ?_
        refine cp_iconst O dX1_takenNow_60 (v := 2) rfl ?_
        refine cp_ialdS O N (j := 2) rfl (by omega) dX1_takenNow_61 ?_
        refine cp_icmp_gt (tgt := 85) O dX1_takenNow_62 (by decide) (fun c_62 => ?_) (fun c_62 => ?_)
        · refine cp_iinc O dX1_takenNow_85 cp_lg4 (cp_inc rfl) (by decide) (cp_ls4 rfl) ?_
          refine cp_goto (tgt := 12) O dX1_takenNow_88 (by decide) ?_
          have ih := ih hlt _ (cp_wt_s hn hw hlt)
          rw [cp_tk_s P (S 2) hlt, cp_ts1_f c_62] at ih
          exact cp_Gw (cp_lws (cp_lws (cp_lws (cp_lws (cp_lws (cp_lwn cp_lw0)))))) ih
        · refine cp_iload_n O dX1_takenNow_65 cp_lg3 ?_
          refine cp_aload_n O dX1_takenNow_66 cp_lg0 ?_
          refine fg_X1_29 O N.s N.pcs dX1_takenNow_67 ?_
          refine cp_iload O dX1_takenNow_70 cp_lg5 ?_
          refine cp_aaldr O (Or.inr (Or.inl ⟨rfl, rfl⟩)) N.spcs (j := ((cp_so n P).getD t 0)) rfl (by omega) (by decide) (N.pc (by omega)) dX1_takenNow_72 ?_
          refine pg_X1_144 O N (by omega) dX1_takenNow_73 ?_
          refine cp_iadd O dX1_takenNow_76 ?_
          refine cp_istore_n O dX1_takenNow_77 (by decide) (cp_ls3 rfl) ?_
          refine cp_iload_n O dX1_takenNow_78 cp_lg2 ?_
          refine cp_iconst O dX1_takenNow_79 (v := 1) rfl ?_
          refine cp_iload O dX1_takenNow_80 cp_lg5 ?_
          refine cp_ishl O dX1_takenNow_82 ?_
          refine cp_ior O dX1_takenNow_83 ?_
          refine cp_istore_n O dX1_takenNow_84 (by decide) (cp_ls2 rfl) ?_
          refine cp_iinc O dX1_takenNow_85 cp_lg4 (cp_inc rfl) (by decide) (cp_ls4 rfl) ?_
          refine cp_goto (tgt := 12) O dX1_takenNow_88 (by decide) ?_
          have ih := ih hlt _ (cp_wt_s hn hw hlt)
          rw [cp_tk_s P (S 2) hlt, cp_ts1_t c_62] at ih
          exact cp_Gw (cp_lws (cp_lws (cp_lws (cp_lws (cp_lws (cp_lwn cp_lw0)))))) ih
      · have hge : t = (cp_so n P).length := by
          rcases Nat.lt_or_ge t (cp_so n P).length with g | g
          · rw [cp_wt_hd hn hw g] at c_30
            have := cp_so_mem.mp (cp_getD_in g)
            exact absurd (cp_nI_le0 (e := (cp_so n P).getD t 0) (by omega)) c_30
          · omega
        refine cp_iload_n O dX1_takenNow_33 cp_lg2 ?_
        exact hr _ _ _ _ dX1_takenNow_34 (by rw [hge, List.take_length]) rfl
  exact loop12 0 (Nat.zero_le _) _ (cp_wt_0 hn)

