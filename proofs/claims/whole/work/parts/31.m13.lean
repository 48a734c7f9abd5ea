def cp_c4 (a b : Nat → Int32) : Nat → Int32 := fun j => if j < 420 then a j else b j
theorem cp_c4_13 (r : cp_PP) (a : Nat → Int32) : cp_cp420 (cp_row r 1 a) 1 3 420 = cp_row (cp_row r 3 (cp_c4 a (r 3))) 1 a := by
  funext q j
  unfold cp_cp420 cp_row cp_c4
  by_cases h3 : q = 3
  · subst h3
    by_cases hj : j < 420 <;> simp [hj]
  · by_cases h1 : q = 1
    · subst h1; simp
    · simp [h3, h1]
theorem cp_c4_31 (r : cp_PP) (a : Nat → Int32) : cp_cp420 (cp_row r 1 a) 3 1 420 = cp_row r 1 (cp_c4 (r 3) a) := by
  funext q j
  unfold cp_cp420 cp_row cp_c4
  by_cases h1 : q = 1
  · subst h1
    by_cases hj : j < 420 <;> simp [hj]
  · simp [h1]
theorem cp_c4_back {a a1 : Nat → Int32} {b : Nat → Int32} (h : ∀ x, 420 ≤ x → a1 x = a x) : cp_c4 (cp_c4 a b) a1 = a := by
  funext j
  unfold cp_c4
  by_cases hj : j < 420
  · rw [if_pos hj, if_pos hj]
  · rw [if_neg hj]; exact h j (by omega)
/-- k minutes of work: at one and the same minute; from a minute on -/
def cp_wks (S : Nat → Int32) (mi : Int32) (n : Nat) : Nat → cp_PP × List Nat → cp_PP × List Nat
  | 0, w => w
  | k + 1, w => cp_wk S mi n (cp_wks S mi n k w)
def cp_wkm (S : Nat → Int32) (mi : Nat) (n : Nat) : Nat → cp_PP × List Nat → cp_PP × List Nat
  | 0, w => w
  | k + 1, w => cp_wk S (nI (mi + k)) n (cp_wkm S mi n k w)
theorem cp_PV_wks {n : Nat} {P : cp_PP} {lq : List Nat} {S : Nat → Int32} {mi : Int32} (h : cp_PV n P lq) : ∀ k, cp_PV n (cp_wks S mi n k (P, lq)).1 (cp_wks S mi n k (P, lq)).2
  | 0 => h
  | k + 1 => cp_PV_wk (P := (cp_wks S mi n k (P, lq)).1) (lq := (cp_wks S mi n k (P, lq)).2) (cp_PV_wks h k)
theorem cp_PV_wkm {n : Nat} {P : cp_PP} {lq : List Nat} {S : Nat → Int32} {mi : Nat} (h : cp_PV n P lq) : ∀ k, cp_PV n (cp_wkm S mi n k (P, lq)).1 (cp_wkm S mi n k (P, lq)).2
  | 0 => h
  | k + 1 => cp_PV_wk (P := (cp_wkm S mi n k (P, lq)).1) (lq := (cp_wkm S mi n k (P, lq)).2) (cp_PV_wkm h k)
theorem cp_PN_wkm {n : Nat} {P : cp_PP} {lq : List Nat} {S : Nat → Int32} {mi : Nat} (h : cp_PN n P) (hS : cp_SV S) : ∀ k, mi + k ≤ 100000 → cp_PN n (cp_wkm S mi n k (P, lq)).1
  | 0, _ => h
  | k + 1, hk => cp_PN_wk (P := (cp_wkm S mi n k (P, lq)).1) (lq := (cp_wkm S mi n k (P, lq)).2) (cp_PN_wkm h hS k (by omega)) hS (by omega)
def cp_rdf (N : cp_Nt) (p : Nat) : Option Nat := (List.range 2001).find? (fun k => decide ((cp_wks (cp_tS N) (nI (cp_tm N)) (cp_tn N) k (cp_tP N, cp_tl N)).1 p 4 = 2))
def cp_sReady (N : cp_Nt) (v : Int32) : Int32 := if cp_ip (cp_tn N) v = true then (if cp_tP N v.toInt.toNat 4 = 3 then -5 else cp_o2i (cp_rdf N v.toInt.toNat)) else -1
theorem cp_cnt_dc {q : Nat → Bool} : ∀ {n : Nat}, (∀ i j, i < j → j < n → q j = true → q i = true) → ∀ j, j < n → (q j = true ↔ j < cp_cnt q n)
  | 0, _, j, hj => absurd hj (by omega)
  | n + 1, h, j, hj => by
    have ih := cp_cnt_dc (n := n) (fun i j hij hj => h i j hij (by omega))
    have hle := cp_cnt_le q n
    show q j = true ↔ j < cp_cnt q n + (if q n = true then 1 else 0)
    by_cases hn : q n = true
    · have hall : ∀ i, i < n → q i = true := fun i hi => h i n hi (by omega) hn
      have hc : cp_cnt q n = n := by
        rcases Nat.lt_or_ge (cp_cnt q n) n with g | g
        · have := (ih (cp_cnt q n) g).mp (hall _ g)
          omega
        · omega
      rw [if_pos hn, hc]
      rcases Nat.lt_or_ge j n with g | g
      · exact ⟨fun _ => by omega, fun _ => hall j g⟩
      · rw [show j = n by omega]
        exact ⟨fun _ => by omega, fun _ => hn⟩
    · rw [if_neg hn]
      rcases Nat.lt_or_ge j n with g | g
      · exact ih j g
      · rw [show j = n by omega]
        exact ⟨fun z => absurd z hn, fun z => by omega⟩
theorem cp_mk_iff {N : cp_Nt} (h : cp_QV (cp_tm N) (cp_tp N) (cp_tQ N)) {j : Nat} (hj : j < cp_tp N) : (cp_tQ N j 0).toInt < cp_tm N ↔ j < cp_mkN N := by
  have h1 := cp_cnt_dc (q := fun j => decide ((cp_tQ N j 0).toInt < cp_tm N)) (n := cp_tp N) (fun i j hij hj hq => by
    have h2 := h.1 i j hij hj
    have h3 := of_decide_eq_true hq
    apply decide_eq_true
    omega) j hj
  exact ⟨fun z => h1.mp (decide_eq_true z), fun z => of_decide_eq_true (h1.mpr z)⟩
def cp_due (N : cp_Nt) : Nat := (cp_tQ N (cp_mkN N) 0).toInt.toNat
/-- the pieces when the next plate is made -/
def cp_nxt (N : cp_Nt) : cp_PP × List Nat := cp_wkm (cp_tS N) (cp_tm N) (cp_tn N) (cp_due N - cp_tm N + 1) (cp_tP N, cp_tl N)
def cp_fl (P : cp_PP) : Nat → Int32
  | 0 => 0
  | n + 1 => cp_fl P n + (if cp_fr P n = true then P n 1 else 0)
def cp_sLeast (N : cp_Nt) : Int32 := if cp_mkN N < cp_tp N then (if cp_fl (cp_nxt N).1 (cp_tn N) ≤ 400 then (if 10 ≤ cp_fl (cp_nxt N).1 (cp_tn N) then cp_fl (cp_nxt N).1 (cp_tn N) else 10) else -6) else -5
def cp_sNext (N : cp_Nt) : Int32 := if cp_mkN N < cp_tp N then (cp_tk (cp_nxt N).1 (cp_tS N 2) (cp_so (cp_tn N) (cp_nxt N).1)).1 else -5
theorem cp_due_f {N : cp_Nt} {a : Nat → Int32} (hA : cp_MA a N) (hV : cp_NV N) (h : cp_mkN N < cp_tp N) : cp_tQ N (cp_mkN N) 0 = nI (cp_due N) ∧ cp_tm N ≤ cp_due N ∧ cp_due N < 600 := by
  obtain ⟨⟨t, ht, et⟩, -⟩ := hA.2.2.2.2.2.2.1 _ h
  have h1 : ¬ (cp_tQ N (cp_mkN N) 0).toInt < cp_tm N := fun z => Nat.lt_irrefl _ ((cp_mk_iff hV.2.2.2.2 h).mp z)
  have h2 : cp_due N = t := by unfold cp_due; rw [et, cp_nIt (by omega)]
  rw [h2]
  refine ⟨et, ?_, ht⟩
  rw [et, nI_toInt (by omega)] at h1
  omega
set_option maxHeartbeats 4000000 in
set_option maxRecDepth 100000 in
theorem c_X7_readyIn {lc : Launch} {E : cp_En} {cnt : Nat} {sh : cp_Shp} {R : cp_Rem} {J : cp_Mem} {m : Nat} {f : Nat → Int32} {r : Nat → Nat → Int32} {a : Nat → Int32} (M : cp_ML sh R m) {N : cp_Nt} (hA : cp_MA a N) (hV : cp_NV N) {v1 : Int32} : cp_Fr lc E yX7_readyIn cX7_readyIn 3 (some .int) 7 [.ref m, .int v1] cnt sh (cp_ma J m f r a) R (some (.int (cp_sReady N v1))) (fun I' => ∃ r', I' = cp_ma J m f r' a ∧ ∀ k, k ≠ 3 → r' k = r k) := by
  obtain ⟨hAS, hA4, hA5, hAW, hAQ⟩ := id hA
  obtain ⟨hVS, hVm, hVP, hVN, hVQ⟩ := id hV
  have hn24 := hVP.1
  refine cp_Fn_iR [some (.ref m), some (.int v1), none] (by decide +kernel) (Nat.le_of_ble_eq_true rfl) rfl rfl (fun x hxl O hr => ?_)
  subst hxl
  refine cp_aload_n O dX7_readyIn_0 cp_lg0 ?_
  refine cp_iload_n O dX7_readyIn_1 cp_lg1 ?_
  refine cp_cVi O me_X7_isPiece mi_X7_isPiece ml_X7_114 cp_cX7 M.s (c_X7_isPiece (n := cp_tn N) M hA5 hn24) dX7_readyIn_2 rfl rfl ⟨Nat.le_of_ble_eq_true rfl, Nat.le_of_ble_eq_true rfl⟩ ⟨Nat.le_refl _, Nat.le_refl _⟩ (Nat.le_of_ble_eq_true rfl) ?_
  refine cp_if_neB (tgt := 10) O dX7_readyIn_5 (by decide) (fun c_5 => ?_) (fun c_5 => ?_)
  · obtain ⟨p, hp, rfl⟩ := (cp_ip_iff (by omega)).mp c_5
    have hpp := hAW.1 p hp
    refine cp_aload_n O dX7_readyIn_10 cp_lg0 ?_
    refine cp_iload_n O dX7_readyIn_11 cp_lg1 ?_
    refine cp_iconst O dX7_readyIn_12 (v := 4) rfl ?_
    refine cp_cVi O me_X7_of mi_X7_of ml_X7_39 cp_cX7 M.s (c_X7_ofe (w := cp_tP N p 4) (p := p) (q := 4) M rfl rfl (by omega) (by omega) (hpp 4 (by decide))) dX7_readyIn_13 rfl rfl ⟨Nat.le_of_ble_eq_true rfl, Nat.le_of_ble_eq_true rfl⟩ ⟨Nat.le_refl _, Nat.le_refl _⟩ (Nat.le_of_ble_eq_true rfl) ?_
    refine cp_iconst O dX7_readyIn_16 (v := 3) rfl ?_
    refine cp_icmp_ne (tgt := 23) O dX7_readyIn_17 (by decide) (fun c_17 => ?_) (fun c_17 => ?_)
    · have es : cp_sReady N (nI p) = cp_o2i (cp_rdf N p) := by
        unfold cp_sReady
        rw [if_pos c_5, cp_nIt (by omega), if_neg c_17]
      rw [es] at hr
      refine cp_aload_n O dX7_readyIn_23 cp_lg0 ?_
      refine fg_X7_7 O M.s M.f0 dX7_readyIn_24 ?_
      refine cp_aload_n O dX7_readyIn_27 cp_lg0 ?_
      refine fg_X7_16 O M.s M.f2 dX7_readyIn_28 ?_
      refine cp_cSv O me_X7_copy ms_X7_copy ml_X7_139 (cp_Fn_eq (c_X7_copy (i := 1) (k := 3) (r := cp_row r 1 a) (by decide) (by decide) (by decide) M.s0 M.s2) rfl (by rw [cp_c4_13])) dX7_readyIn_31 rfl rfl ⟨Nat.le_of_ble_eq_true rfl, Nat.le_of_ble_eq_true rfl⟩ ⟨Nat.le_refl _, Nat.le_refl _⟩ (Nat.le_of_ble_eq_true rfl) ?_
      refine cp_iconst O dX7_readyIn_34 (v := 0) rfl ?_
      refine cp_istore_n O dX7_readyIn_35 (by decide) (cp_ls2 rfl) ?_
      have loop36 : ∀ k, k ≤ 2001 → (∀ j, j < k → decide ((cp_wks (cp_tS N) (nI (cp_tm N)) (cp_tn N) j (cp_tP N, cp_tl N)).1 p 4 = 2) = false) → ∀ a1 : Nat → Int32, cp_MW a1 (cp_tn N) (cp_wks (cp_tS N) (nI (cp_tm N)) (cp_tn N) k (cp_tP N, cp_tl N)).1 (cp_LL (cp_tn N) (cp_wks (cp_tS N) (nI (cp_tm N)) (cp_tn N) k (cp_tP N, cp_tl N)).1 (cp_wks (cp_tS N) (nI (cp_tm N)) (cp_tn N) k (cp_tP N, cp_tl N)).2) → (∀ x, (x < 8 ∨ 374 ≤ x) → a1 x = a x) → cp_G x E 3 0 0 cnt sh (cp_ma J m f (cp_row r 3 (cp_c4 a (r 3))) a1) R 36 [some (.ref m), some (.int (nI p)), some (.int (nI k))] [] := by
        refine cp_up (fun k hk ih hb a1 hW1 hx1 => ?_)
        refine cp_aload_n O dX7_readyIn_36 cp_lg0 ?_
        refine cp_iload_n O dX7_readyIn_37 cp_lg1 ?_
        refine cp_iconst O dX7_readyIn_38 (v := 4) rfl ?_
        refine cp_cVi O me_X7_of mi_X7_of ml_X7_39 cp_cX7 M.s (c_X7_ofe (w := (cp_wks (cp_tS N) (nI (cp_tm N)) (cp_tn N) k (cp_tP N, cp_tl N)).1 p 4) (p := p) (q := 4) M rfl rfl (by omega) (by omega) (hW1.1 p hp 4 (by decide))) dX7_readyIn_39 rfl rfl ⟨Nat.le_of_ble_eq_true rfl, Nat.le_of_ble_eq_true rfl⟩ ⟨Nat.le_refl _, Nat.le_refl _⟩ (Nat.le_of_ble_eq_true rfl) ?_
        refine cp_iconst O dX7_readyIn_42 (v := 2) rfl ?_
        refine cp_icmp_eq (tgt := 63) O dX7_readyIn_43 (by decide) (fun c_43 => ?_) (fun c_43 => ?_)
        · refine cp_aload_n O dX7_readyIn_63 cp_lg0 ?_
          refine fg_X7_16 O M.s M.f2 dX7_readyIn_64 ?_
          refine cp_aload_n O dX7_readyIn_67 cp_lg0 ?_
          refine fg_X7_7 O M.s M.f0 dX7_readyIn_68 ?_
          refine cp_cSv O me_X7_copy ms_X7_copy ml_X7_139 (cp_Fn_eq (c_X7_copy (i := 3) (k := 1) (r := cp_row (cp_row r 3 (cp_c4 a (r 3))) 1 a1) (by decide) (by decide) (by decide) M.s2 M.s0) rfl (by rw [cp_c4_31, cp_row_s, cp_c4_back (fun x hx => hx1 x (by omega))])) dX7_readyIn_71 rfl rfl ⟨Nat.le_of_ble_eq_true rfl, Nat.le_of_ble_eq_true rfl⟩ ⟨Nat.le_refl _, Nat.le_refl _⟩ (Nat.le_of_ble_eq_true rfl) ?_
          refine cp_iload_n O dX7_readyIn_74 cp_lg2 ?_
          refine cp_sipush O dX7_readyIn_75 (v := 2000) rfl ?_
          refine cp_icmp_leN (tgt := 86) O dX7_readyIn_78 (by decide) (a := k) (b := 2000) rfl rfl (by omega) (by omega) (fun c_78 => ?_) (fun c_78 => ?_)
          · refine cp_iload_n O dX7_readyIn_86 cp_lg2 ?_
            exact hr _ _ _ _ dX7_readyIn_87 (cp_o2i_s (cp_fnd_s (by omega) (decide_eq_true c_43) hb)) ⟨_, rfl, fun k hk => cp_row_n _ _ hk⟩
          · refine cp_bipush O dX7_readyIn_81 (v := (-6)) rfl ?_
            refine cp_goto (tgt := 87) O dX7_readyIn_83 (by decide) ?_
            exact hr _ _ _ _ dX7_readyIn_87 (cp_o2i_n (cp_fnd_n (fun j hj => hb j (by omega)))) ⟨_, rfl, fun k hk => cp_row_n _ _ hk⟩
        · refine cp_iload_n O dX7_readyIn_46 cp_lg2 ?_
          refine cp_sipush O dX7_readyIn_47 (v := 2000) rfl ?_
          refine cp_icmp_gtN (tgt := 63) O dX7_readyIn_50 (by decide) (a := k) (b := 2000) rfl rfl (by omega) (by omega) (fun c_50 => ?_) (fun c_50 => ?_)
          · refine cp_aload_n O dX7_readyIn_63 cp_lg0 ?_
            refine fg_X7_16 O M.s M.f2 dX7_readyIn_64 ?_
            refine cp_aload_n O dX7_readyIn_67 cp_lg0 ?_
            refine fg_X7_7 O M.s M.f0 dX7_readyIn_68 ?_
            refine cp_cSv O me_X7_copy ms_X7_copy ml_X7_139 (cp_Fn_eq (c_X7_copy (i := 3) (k := 1) (r := cp_row (cp_row r 3 (cp_c4 a (r 3))) 1 a1) (by decide) (by decide) (by decide) M.s2 M.s0) rfl (by rw [cp_c4_31, cp_row_s, cp_c4_back (fun x hx => hx1 x (by omega))])) dX7_readyIn_71 rfl rfl ⟨Nat.le_of_ble_eq_true rfl, Nat.le_of_ble_eq_true rfl⟩ ⟨Nat.le_refl _, Nat.le_refl _⟩ (Nat.le_of_ble_eq_true rfl) ?_
            refine cp_iload_n O dX7_readyIn_74 cp_lg2 ?_
            refine cp_sipush O dX7_readyIn_75 (v := 2000) rfl ?_
            refine cp_icmp_leN (tgt := 86) O dX7_readyIn_78 (by decide) (a := k) (b := 2000) rfl rfl (by omega) (by omega) (fun c_78 => ?_) (fun c_78 => ?_)
            · refine cp_iload_n O dX7_readyIn_86 cp_lg2 ?_
              exact hr _ _ _ _ dX7_readyIn_87 (absurd c_78 (by omega)) ⟨_, rfl, fun k hk => cp_row_n _ _ hk⟩
            · refine cp_bipush O dX7_readyIn_81 (v := (-6)) rfl ?_
              refine cp_goto (tgt := 87) O dX7_readyIn_83 (by decide) ?_
              exact hr _ _ _ _ dX7_readyIn_87 (cp_o2i_n (cp_fnd_n (fun j hj => hb j (by omega)))) ⟨_, rfl, fun k hk => cp_row_n _ _ hk⟩
          · refine cp_aload_n O dX7_readyIn_53 cp_lg0 ?_
            refine cp_cVvr O me_X7_works mi_X7_works ml_X7_94 cp_cX7 M.s (c_X7_works M (fun q hq => (hx1 q (by omega)).trans (hAS q hq)) ((hx1 4 (by omega)).trans hA4) hW1 (cp_PV_wks hVP k)) dX7_readyIn_54 rfl rfl ⟨Nat.le_of_ble_eq_true rfl, Nat.le_of_ble_eq_true rfl⟩ ⟨Nat.le_refl _, Nat.le_refl _⟩ (Nat.le_of_ble_eq_true rfl) (fun I54 hT54 => ?_)
            refine cp_iinc O dX7_readyIn_57 cp_lg2 (cp_inc rfl) (by decide) (cp_ls2 rfl) ?_
            refine cp_goto (tgt := 36) O dX7_readyIn_60 (by decide) ?_
            obtain ⟨a2, rfl, hW2, hx2⟩ := hT54
            exact ih (by omega) (cp_lts hb (decide_eq_false c_43)) a2 hW2 (fun x hx => (hx2 x hx).trans (hx1 x hx))
      exact loop36 0 (Nat.zero_le _) (fun j hj => absurd hj (by omega)) a hAW (fun _ _ => rfl)
    · refine cp_bipush O dX7_readyIn_20 (v := (-5)) rfl ?_
      exact hr _ _ _ _ dX7_readyIn_22 (by unfold cp_sReady; rw [if_pos c_5, cp_nIt (by omega), if_pos c_17]) ⟨r, rfl, fun _ _ => rfl⟩
  · refine cp_iconst O dX7_readyIn_8 (v := (-1)) rfl ?_
    exact hr _ _ _ _ dX7_readyIn_9 (by unfold cp_sReady; rw [if_neg (by rw [c_5]; decide)]) ⟨r, rfl, fun _ _ => rfl⟩
set_option maxHeartbeats 4000000 in
set_option maxRecDepth 100000 in
theorem c_X7_comesToNext_0 {lc : Launch} {E : cp_En} {cnt : Nat} {sh : cp_Shp} {R : cp_Rem} {J : cp_Mem} {m : Nat} {f : Nat → Int32} {r : Nat → Nat → Int32} {a : Nat → Int32} (M : cp_ML sh R m) {N : cp_Nt} (hA : cp_MA a N) (hV : cp_NV N) (hno : ¬ cp_mkN N < cp_tp N) : cp_Fn lc E yX7_comesToNext cX7_comesToNext 2 (some .boolean) 7 [.ref m] cnt sh (cp_ma J m f r a) R (some (.int (cp_bi false))) (cp_ma J m f r a) := by
  obtain ⟨hAS, hA4, hA5, hAW, hAQ⟩ := id hA
  obtain ⟨hVS, hVm, hVP, hVN, hVQ⟩ := id hV
  have hn24 := hVP.1
  have hnp8 := hAQ.1
  have hmk : cp_mkN N ≤ cp_tp N := cp_cnt_le _ _
  have hA7 : a 7 = nI (cp_mkN N) := hAQ.2.2.2
  refine cp_Fn_i [some (.ref m), none] (by decide +kernel) (Nat.le_of_ble_eq_true rfl) rfl (cp_bin _) (fun x hxl O hr => ?_)
  subst hxl
  refine cp_aload_n O dX7_comesToNext_0 cp_lg0 ?_
  refine fg_X7_7 O M.s M.f0 dX7_comesToNext_1 ?_
  refine cp_bipush O dX7_comesToNext_4 (v := 7) rfl ?_
  refine cp_ialdA O M (j := 7) rfl (by omega) dX7_comesToNext_6 ?_
  refine cp_istore_n O dX7_comesToNext_7 (by decide) (cp_ls1 rfl) ?_
  refine cp_iload_n O dX7_comesToNext_8 cp_lg1 ?_
  refine cp_aload_n O dX7_comesToNext_9 cp_lg0 ?_
  refine fg_X7_7 O M.s M.f0 dX7_comesToNext_10 ?_
  refine cp_bipush O dX7_comesToNext_13 (v := 6) rfl ?_
  refine cp_ialdA O M (j := 6) rfl (by omega) dX7_comesToNext_15 ?_
  refine cp_icmp_ltN (tgt := 21) O dX7_comesToNext_16 (by decide) (a := (cp_mkN N)) (b := (cp_tp N)) hA7 hAQ.2.1 (by omega) (by omega) (fun c_16 => ?_) (fun c_16 => ?_)
  · exact absurd c_16 hno
  · refine cp_iconst O dX7_comesToNext_19 (v := 0) rfl ?_
    exact hr _ _ _ _ dX7_comesToNext_20 rfl rfl
set_option maxHeartbeats 4000000 in
set_option maxRecDepth 100000 in
theorem c_X7_comesToNext_1 {lc : Launch} {E : cp_En} {cnt : Nat} {sh : cp_Shp} {R : cp_Rem} {J : cp_Mem} {m : Nat} {f : Nat → Int32} {r : Nat → Nat → Int32} {a : Nat → Int32} (M : cp_ML sh R m) {N : cp_Nt} (hA : cp_MA a N) (hV : cp_NV N) (hyes : cp_mkN N < cp_tp N) : cp_Fr lc E yX7_comesToNext cX7_comesToNext 2 (some .boolean) 7 [.ref m] cnt sh (cp_ma J m f r a) R (some (.int (cp_bi true))) (fun I' => ∃ a', I' = cp_ma J m f r a' ∧ cp_MW a' (cp_tn N) (cp_nxt N).1 (cp_LL (cp_tn N) (cp_nxt N).1 (cp_nxt N).2) ∧ ∀ x, ((x < 8 ∧ x ≠ 4) ∨ 374 ≤ x) → a' x = a x) := by
  obtain ⟨hAS, hA4, hA5, hAW, hAQ⟩ := id hA
  obtain ⟨hVS, hVm, hVP, hVN, hVQ⟩ := id hV
  have hn24 := hVP.1
  have hnp8 := hAQ.1
  have hmk : cp_mkN N ≤ cp_tp N := cp_cnt_le _ _
  have hA7 : a 7 = nI (cp_mkN N) := hAQ.2.2.2
  obtain ⟨hd0, hdm, hd6⟩ := cp_due_f hA hV hyes
  refine cp_Fn_iR [some (.ref m), none] (by decide +kernel) (Nat.le_of_ble_eq_true rfl) rfl (cp_bin _) (fun x hxl O hr => ?_)
  subst hxl
  refine cp_aload_n O dX7_comesToNext_0 cp_lg0 ?_
  refine fg_X7_7 O M.s M.f0 dX7_comesToNext_1 ?_
  refine cp_bipush O dX7_comesToNext_4 (v := 7) rfl ?_
  refine cp_ialdA O M (j := 7) rfl (by omega) dX7_comesToNext_6 ?_
  refine cp_istore_n O dX7_comesToNext_7 (by decide) (cp_ls1 rfl) ?_
  rw [hA7]
  refine cp_iload_n O dX7_comesToNext_8 cp_lg1 ?_
  refine cp_aload_n O dX7_comesToNext_9 cp_lg0 ?_
  refine fg_X7_7 O M.s M.f0 dX7_comesToNext_10 ?_
  refine cp_bipush O dX7_comesToNext_13 (v := 6) rfl ?_
  refine cp_ialdA O M (j := 6) rfl (by omega) dX7_comesToNext_15 ?_
  refine cp_icmp_ltN (tgt := 21) O dX7_comesToNext_16 (by decide) (a := (cp_mkN N)) (b := (cp_tp N)) rfl hAQ.2.1 (by omega) (by omega) (fun c_16 => ?_) (fun c_16 => ?_)
  · have loop21 : ∀ k, k ≤ cp_due N - cp_tm N → ∀ a1 : Nat → Int32, cp_MW a1 (cp_tn N) (cp_wkm (cp_tS N) (cp_tm N) (cp_tn N) k (cp_tP N, cp_tl N)).1 (cp_LL (cp_tn N) (cp_wkm (cp_tS N) (cp_tm N) (cp_tn N) k (cp_tP N, cp_tl N)).1 (cp_wkm (cp_tS N) (cp_tm N) (cp_tn N) k (cp_tP N, cp_tl N)).2) → a1 4 = nI (cp_tm N + k) → (∀ x, ((x < 8 ∧ x ≠ 4) ∨ 374 ≤ x) → a1 x = a x) → cp_G x E 2 0 0 cnt sh (cp_ma J m f r a1) R 21 [some (.ref m), some (.int (nI (cp_mkN N)))] [] := by
      refine cp_up (fun k hk ih a1 hW1 h41 hx1 => ?_)
      refine cp_aload_n O dX7_comesToNext_21 cp_lg0 ?_
      refine fg_X7_7 O M.s M.f0 dX7_comesToNext_22 ?_
      refine cp_iconst O dX7_comesToNext_25 (v := 4) rfl ?_
      refine cp_ialdA O M (j := 4) rfl (by omega) dX7_comesToNext_26 ?_
      refine cp_aload_n O dX7_comesToNext_27 cp_lg0 ?_
      refine cp_iload_n O dX7_comesToNext_28 cp_lg1 ?_
      refine cp_iconst O dX7_comesToNext_29 (v := 0) rfl ?_
      refine cp_cVi O me_X7_plateAt mi_X7_plateAt ml_X7_85 cp_cX7 M.s (cp_Fn_eq (v' := some (.int (nI (cp_due N)))) (c_X7_plateAt (j := cp_mkN N) (q := 0) M rfl rfl (by omega) (by omega)) (by rw [hx1 _ (by omega), show a (374 + 4 * cp_mkN N + 0) = cp_tQ N (cp_mkN N) 0 from (hAQ.2.2.1 _ hyes).2.1, hd0]) rfl) dX7_comesToNext_30 rfl rfl ⟨Nat.le_of_ble_eq_true rfl, Nat.le_of_ble_eq_true rfl⟩ ⟨Nat.le_refl _, Nat.le_refl _⟩ (Nat.le_of_ble_eq_true rfl) ?_
      refine cp_icmp_geN (tgt := 53) O dX7_comesToNext_33 (by decide) (a := (cp_tm N + k)) (b := (cp_due N)) h41 rfl (by omega) (by omega) (fun c_33 => ?_) (fun c_33 => ?_)
      · refine cp_aload_n O dX7_comesToNext_53 cp_lg0 ?_
        refine cp_cVvr O me_X7_works mi_X7_works ml_X7_94 cp_cX7 M.s (c_X7_works M (fun q hq => (hx1 q (by omega)).trans (hAS q hq)) h41 hW1 (cp_PV_wkm hVP k)) dX7_comesToNext_54 rfl rfl ⟨Nat.le_of_ble_eq_true rfl, Nat.le_of_ble_eq_true rfl⟩ ⟨Nat.le_refl _, Nat.le_refl _⟩ (Nat.le_of_ble_eq_true rfl) (fun I54 hT54 => ?_)
        obtain ⟨a2, rfl, hW2, hx2⟩ := hT54
        refine cp_iconst O dX7_comesToNext_57 (v := 1) rfl ?_
        exact hr _ _ _ _ dX7_comesToNext_58 rfl (by have hk2 : k = cp_due N - cp_tm N := (by omega); subst hk2; exact ⟨a2, rfl, hW2, fun x hx => (hx2 x (by omega)).trans (hx1 x hx)⟩)
      · refine cp_aload_n O dX7_comesToNext_36 cp_lg0 ?_
        refine cp_cVvr O me_X7_works mi_X7_works ml_X7_94 cp_cX7 M.s (c_X7_works M (fun q hq => (hx1 q (by omega)).trans (hAS q hq)) h41 hW1 (cp_PV_wkm hVP k)) dX7_comesToNext_37 rfl rfl ⟨Nat.le_of_ble_eq_true rfl, Nat.le_of_ble_eq_true rfl⟩ ⟨Nat.le_refl _, Nat.le_refl _⟩ (Nat.le_of_ble_eq_true rfl) (fun I37 hT37 => ?_)
        obtain ⟨a2, rfl, hW2, hx2⟩ := hT37
        refine cp_aload_n O dX7_comesToNext_40 cp_lg0 ?_
        refine fg_X7_7 O M.s M.f0 dX7_comesToNext_41 ?_
        refine cp_iconst O dX7_comesToNext_44 (v := 4) rfl ?_
        refine cp_dup2 O dX7_comesToNext_45 rfl rfl ?_
        refine cp_ialdA O M (j := 4) rfl (by omega) dX7_comesToNext_46 ?_
        refine cp_iconst O dX7_comesToNext_47 (v := 1) rfl ?_
        refine cp_iadd O dX7_comesToNext_48 ?_
        refine cp_iastA O M (j := 4) rfl (by omega) dX7_comesToNext_49 ?_
        refine cp_goto (tgt := 21) O dX7_comesToNext_50 (by decide) ?_
        rw [hx2 4 (by omega), h41, nI_1]
        exact ih (by omega) _ (cp_MW_eq hW2 hn24 (fun x h1 h2 => cp_upd_n (by omega))) cp_upd_s (fun x hx => by rw [cp_upd_n (by omega), hx2 x (by omega)]; exact hx1 x hx)
    exact loop21 0 (Nat.zero_le _) a hAW hA4 (fun _ _ => rfl)
  · exact absurd hyes (by omega)
set_option maxHeartbeats 4000000 in
set_option maxRecDepth 100000 in
theorem c_X7_leastRoom_0 {lc : Launch} {E : cp_En} {cnt : Nat} {sh : cp_Shp} {R : cp_Rem} {J : cp_Mem} {m : Nat} {f : Nat → Int32} {r : Nat → Nat → Int32} {a : Nat → Int32} (M : cp_ML sh R m) {N : cp_Nt} (hA : cp_MA a N) (hV : cp_NV N) (hno : ¬ cp_mkN N < cp_tp N) : cp_Fr lc E yX7_leastRoom cX7_leastRoom 4 (some .int) 8 [.ref m] cnt sh (cp_ma J m f r a) R (some (.int (cp_sLeast N))) (fun I' => ∃ (f' : Nat → Int32) (r' : cp_PP), I' = cp_ma J m f' r' a ∧ (∀ k, k ≠ 3 → r' k = r k) ∧ ∀ k, k ≠ 7 → k ≠ 8 → f' k = f k) := by
  obtain ⟨hAS, hA4, hA5, hAW, hAQ⟩ := id hA
  obtain ⟨hVS, hVm, hVP, hVN, hVQ⟩ := id hV
  have hn24 := hVP.1
  have hnp8 := hAQ.1
  have hmk : cp_mkN N ≤ cp_tp N := cp_cnt_le _ _
  have hA7 : a 7 = nI (cp_mkN N) := hAQ.2.2.2
  have hPN1 := hVN
  refine cp_Fn_iR [some (.ref m), none, none, none] (by decide +kernel) (Nat.le_of_ble_eq_true rfl) rfl rfl (fun x hxl O hr => ?_)
  subst hxl
  refine cp_aload_n O dX7_leastRoom_0 cp_lg0 ?_
  refine fg_X7_7 O M.s M.f0 dX7_leastRoom_1 ?_
  refine cp_aload_n O dX7_leastRoom_4 cp_lg0 ?_
  refine fg_X7_16 O M.s M.f2 dX7_leastRoom_5 ?_
  refine cp_cSv O me_X7_copy ms_X7_copy ml_X7_139 (cp_Fn_eq (c_X7_copy (i := 1) (k := 3) (r := cp_row r 1 a) (by decide) (by decide) (by decide) M.s0 M.s2) rfl (by rw [cp_c4_13])) dX7_leastRoom_8 rfl rfl ⟨Nat.le_of_ble_eq_true rfl, Nat.le_of_ble_eq_true rfl⟩ ⟨Nat.le_refl _, Nat.le_refl _⟩ (Nat.le_of_ble_eq_true rfl) ?_
  refine cp_aload_n O dX7_leastRoom_11 cp_lg0 ?_
  refine cp_cVi O me_X7_comesToNext mi_X7_comesToNext ml_X7_192 cp_cX7 M.s (c_X7_comesToNext_0 M hA hV hno) dX7_leastRoom_12 rfl rfl ⟨Nat.le_of_ble_eq_true rfl, Nat.le_of_ble_eq_true rfl⟩ ⟨Nat.le_refl _, Nat.le_refl _⟩ (Nat.le_of_ble_eq_true rfl) ?_
  have hW1 := hAW
  have hx1 : ∀ x, ((x < 8 ∧ x ≠ 4) ∨ 374 ≤ x) → a x = a x := fun _ _ => rfl
  refine cp_istore_n O dX7_leastRoom_15 (by decide) (cp_ls1 rfl) ?_
  refine cp_iconst O dX7_leastRoom_16 (v := 0) rfl ?_
  refine cp_istore_n O dX7_leastRoom_17 (by decide) (cp_ls2 rfl) ?_
  refine cp_iconst O dX7_leastRoom_18 (v := 0) rfl ?_
  refine cp_istore_n O dX7_leastRoom_19 (by decide) (cp_ls3 rfl) ?_
  have loop20 : ∀ c, c ≤ cp_tn N → cp_G x E 4 0 0 cnt sh (cp_ma J m f (cp_row r 3 (cp_c4 a (r 3))) a) R 20 [some (.ref m), some (.int (cp_bi false)), some (.int (cp_fl (cp_tP N) c)), some (.int (nI c))] [] := by
    refine cp_up (fun c hc ih => ?_)
    refine cp_iload_n O dX7_leastRoom_20 cp_lg3 ?_
    refine cp_aload_n O dX7_leastRoom_21 cp_lg0 ?_
    refine fg_X7_7 O M.s M.f0 dX7_leastRoom_22 ?_
    refine cp_iconst O dX7_leastRoom_25 (v := 5) rfl ?_
    refine cp_ialdA O M (j := 5) rfl (by omega) dX7_leastRoom_26 ?_
    refine cp_icmp_geN (tgt := 57) O dX7_leastRoom_27 (by decide) (a := c) (b := (cp_tn N)) rfl ((hx1 5 (by omega)).trans hA5) (by omega) (by omega) (fun c_27 => ?_) (fun c_27 => ?_)
    · obtain rfl : c = cp_tn N := by omega
      refine cp_aload_n O dX7_leastRoom_57 cp_lg0 ?_
      refine fg_X7_16 O M.s M.f2 dX7_leastRoom_58 ?_
      refine cp_aload_n O dX7_leastRoom_61 cp_lg0 ?_
      refine fg_X7_7 O M.s M.f0 dX7_leastRoom_62 ?_
      refine cp_cSv O me_X7_copy ms_X7_copy ml_X7_139 (cp_Fn_eq (c_X7_copy (i := 3) (k := 1) (r := cp_row (cp_row r 3 (cp_c4 a (r 3))) 1 a) (by decide) (by decide) (by decide) M.s2 M.s0) rfl (by rw [cp_c4_31, cp_row_s, cp_c4_back (fun x hx => hx1 x (by omega))])) dX7_leastRoom_65 rfl rfl ⟨Nat.le_of_ble_eq_true rfl, Nat.le_of_ble_eq_true rfl⟩ ⟨Nat.le_refl _, Nat.le_refl _⟩ (Nat.le_of_ble_eq_true rfl) ?_
      refine cp_iload_n O dX7_leastRoom_68 cp_lg1 ?_
      refine cp_if_neB (tgt := 77) O dX7_leastRoom_69 (by decide) (fun c_69 => ?_) (fun c_69 => ?_)
      · refine cp_iload_n O dX7_leastRoom_77 cp_lg2 ?_
        refine cp_sipush O dX7_leastRoom_78 (v := 400) rfl ?_
        refine cp_icmp_le (tgt := 89) O dX7_leastRoom_81 (by decide) (fun c_81 => ?_) (fun c_81 => ?_)
        · refine cp_iload_n O dX7_leastRoom_89 cp_lg2 ?_
          refine cp_bipush O dX7_leastRoom_90 (v := 10) rfl ?_
          refine cp_icmp_ge (tgt := 100) O dX7_leastRoom_92 (by decide) (fun c_92 => ?_) (fun c_92 => ?_)
          · refine cp_iload_n O dX7_leastRoom_100 cp_lg2 ?_
            exact hr _ _ _ _ dX7_leastRoom_101 (absurd c_69 (by decide)) ⟨f, _, rfl, fun k hk => cp_row_n _ _ hk, fun _ _ _ => rfl⟩
          · refine cp_bipush O dX7_leastRoom_95 (v := 10) rfl ?_
            refine cp_goto (tgt := 101) O dX7_leastRoom_97 (by decide) ?_
            exact hr _ _ _ _ dX7_leastRoom_101 (absurd c_69 (by decide)) ⟨f, _, rfl, fun k hk => cp_row_n _ _ hk, fun _ _ _ => rfl⟩
        · refine cp_bipush O dX7_leastRoom_84 (v := (-6)) rfl ?_
          refine cp_goto (tgt := 101) O dX7_leastRoom_86 (by decide) ?_
          exact hr _ _ _ _ dX7_leastRoom_101 (absurd c_69 (by decide)) ⟨f, _, rfl, fun k hk => cp_row_n _ _ hk, fun _ _ _ => rfl⟩
      · refine cp_bipush O dX7_leastRoom_72 (v := (-5)) rfl ?_
        refine cp_goto (tgt := 101) O dX7_leastRoom_74 (by decide) ?_
        exact hr _ _ _ _ dX7_leastRoom_101 (by unfold cp_sLeast; rw [if_neg hno]) ⟨f, _, rfl, fun k hk => cp_row_n _ _ hk, fun _ _ _ => rfl⟩
    · refine cp_iload_n O dX7_leastRoom_30 cp_lg2 ?_
      refine cp_aload_n O dX7_leastRoom_31 cp_lg0 ?_
      refine cp_iload_n O dX7_leastRoom_32 cp_lg3 ?_
      refine cp_cVi O me_X7_isFree mi_X7_isFree ml_X7_68 cp_cX7 M.s (c_X7_isFree (p := c) M hn24 hW1.1 rfl (by omega)) dX7_leastRoom_33 rfl rfl ⟨Nat.le_of_ble_eq_true rfl, Nat.le_of_ble_eq_true rfl⟩ ⟨Nat.le_refl _, Nat.le_refl _⟩ (Nat.le_of_ble_eq_true rfl) ?_
      refine cp_if_eqB (tgt := 48) O dX7_leastRoom_36 (by decide) (fun c_36 => ?_) (fun c_36 => ?_)
      · refine cp_iconst O dX7_leastRoom_48 (v := 0) rfl ?_
        refine cp_iadd O dX7_leastRoom_49 ?_
        refine cp_istore_n O dX7_leastRoom_50 (by decide) (cp_ls2 rfl) ?_
        refine cp_iinc O dX7_leastRoom_51 cp_lg3 (cp_inc rfl) (by decide) (cp_ls3 rfl) ?_
        refine cp_goto (tgt := 20) O dX7_leastRoom_54 (by decide) ?_
        have ih2 := ih c_27
        rw [show cp_fl (cp_tP N) (c + 1) = cp_fl (cp_tP N) c + (if cp_fr (cp_tP N) c = true then (cp_tP N) c 1 else 0) from rfl] at ih2
        first
          | (rw [if_pos c_36] at ih2; exact ih2)
          | (rw [if_neg (by rw [c_36]; decide)] at ih2; exact ih2)
      · refine cp_aload_n O dX7_leastRoom_39 cp_lg0 ?_
        refine cp_iload_n O dX7_leastRoom_40 cp_lg3 ?_
        refine cp_iconst O dX7_leastRoom_41 (v := 1) rfl ?_
        refine cp_cVi O me_X7_of mi_X7_of ml_X7_39 cp_cX7 M.s (c_X7_ofe (w := (cp_tP N) c 1) (p := c) (q := 1) M rfl rfl (by omega) (by omega) (hW1.1 c (by omega) 1 (by decide))) dX7_leastRoom_42 rfl rfl ⟨Nat.le_of_ble_eq_true rfl, Nat.le_of_ble_eq_true rfl⟩ ⟨Nat.le_refl _, Nat.le_refl _⟩ (Nat.le_of_ble_eq_true rfl) ?_
        refine cp_goto (tgt := 49) O dX7_leastRoom_45 (by decide) ?_
        refine cp_iadd O dX7_leastRoom_49 ?_
        refine cp_istore_n O dX7_leastRoom_50 (by decide) (cp_ls2 rfl) ?_
        refine cp_iinc O dX7_leastRoom_51 cp_lg3 (cp_inc rfl) (by decide) (cp_ls3 rfl) ?_
        refine cp_goto (tgt := 20) O dX7_leastRoom_54 (by decide) ?_
        have ih2 := ih c_27
        rw [show cp_fl (cp_tP N) (c + 1) = cp_fl (cp_tP N) c + (if cp_fr (cp_tP N) c = true then (cp_tP N) c 1 else 0) from rfl] at ih2
        first
          | (rw [if_pos c_36] at ih2; exact ih2)
          | (rw [if_neg (by rw [c_36]; decide)] at ih2; exact ih2)
  exact loop20 0 (Nat.zero_le _)
set_option maxHeartbeats 4000000 in
set_option maxRecDepth 100000 in
theorem c_X7_nextPlate_0 {lc : Launch} {E : cp_En} {cnt : Nat} {sh : cp_Shp} {R : cp_Rem} {J : cp_Mem} {m : Nat} {f : Nat → Int32} {r : Nat → Nat → Int32} {a : Nat → Int32} (M : cp_ML sh R m) {N : cp_Nt} (hA : cp_MA a N) (hV : cp_NV N) (hno : ¬ cp_mkN N < cp_tp N) : cp_Fr lc E yX7_nextPlate cX7_nextPlate 2 (some .int) 8 [.ref m] cnt sh (cp_ma J m f r a) R (some (.int (cp_sNext N))) (fun I' => ∃ (f' : Nat → Int32) (r' : cp_PP), I' = cp_ma J m f' r' a ∧ (∀ k, k ≠ 3 → r' k = r k) ∧ ∀ k, k ≠ 7 → k ≠ 8 → f' k = f k) := by
  obtain ⟨hAS, hA4, hA5, hAW, hAQ⟩ := id hA
  obtain ⟨hVS, hVm, hVP, hVN, hVQ⟩ := id hV
  have hn24 := hVP.1
  have hnp8 := hAQ.1
  have hmk : cp_mkN N ≤ cp_tp N := cp_cnt_le _ _
  have hA7 : a 7 = nI (cp_mkN N) := hAQ.2.2.2
  have hPN1 := hVN
  refine cp_Fn_iR [some (.ref m), none] (by decide +kernel) (Nat.le_of_ble_eq_true rfl) rfl rfl (fun x hxl O hr => ?_)
  subst hxl
  refine cp_aload_n O dX7_nextPlate_0 cp_lg0 ?_
  refine fg_X7_7 O M.s M.f0 dX7_nextPlate_1 ?_
  refine cp_aload_n O dX7_nextPlate_4 cp_lg0 ?_
  refine fg_X7_16 O M.s M.f2 dX7_nextPlate_5 ?_
  refine cp_cSv O me_X7_copy ms_X7_copy ml_X7_139 (cp_Fn_eq (c_X7_copy (i := 1) (k := 3) (r := cp_row r 1 a) (by decide) (by decide) (by decide) M.s0 M.s2) rfl (by rw [cp_c4_13])) dX7_nextPlate_8 rfl rfl ⟨Nat.le_of_ble_eq_true rfl, Nat.le_of_ble_eq_true rfl⟩ ⟨Nat.le_refl _, Nat.le_refl _⟩ (Nat.le_of_ble_eq_true rfl) ?_
  refine cp_aload_n O dX7_nextPlate_11 cp_lg0 ?_
  refine cp_cVi O me_X7_comesToNext mi_X7_comesToNext ml_X7_192 cp_cX7 M.s (c_X7_comesToNext_0 M hA hV hno) dX7_nextPlate_12 rfl rfl ⟨Nat.le_of_ble_eq_true rfl, Nat.le_of_ble_eq_true rfl⟩ ⟨Nat.le_refl _, Nat.le_refl _⟩ (Nat.le_of_ble_eq_true rfl) ?_
  have hW1 := hAW
  have hx1 : ∀ x, ((x < 8 ∧ x ≠ 4) ∨ 374 ≤ x) → a x = a x := fun _ _ => rfl
  refine cp_istore_n O dX7_nextPlate_15 (by decide) (cp_ls1 rfl) ?_
  refine cp_aload_n O dX7_nextPlate_16 cp_lg0 ?_
  refine cp_aload_n O dX7_nextPlate_17 cp_lg0 ?_
  refine fg_X7_7 O M.s M.f0 dX7_nextPlate_18 ?_
  refine cp_iconst O dX7_nextPlate_21 (v := 2) rfl ?_
  refine cp_ialdA O M (j := 2) rfl (by omega) dX7_nextPlate_22 ?_
  rw [hx1 2 (by omega), hAS 2 (by decide)]
  refine cp_cVv O me_X7_takes mi_X7_takes ml_X7_100 cp_cX7 M.s (c_X7_takes M hn24 hW1.1 hPN1 ((hx1 5 (by omega)).trans hA5)) dX7_nextPlate_23 rfl rfl ⟨Nat.le_of_ble_eq_true rfl, Nat.le_of_ble_eq_true rfl⟩ ⟨Nat.le_refl _, Nat.le_refl _⟩ (Nat.le_of_ble_eq_true rfl) ?_
  refine cp_aload_n O dX7_nextPlate_26 cp_lg0 ?_
  refine fg_X7_16 O M.s M.f2 dX7_nextPlate_27 ?_
  refine cp_aload_n O dX7_nextPlate_30 cp_lg0 ?_
  refine fg_X7_7 O M.s M.f0 dX7_nextPlate_31 ?_
  refine cp_cSv O me_X7_copy ms_X7_copy ml_X7_139 (cp_Fn_eq (c_X7_copy (i := 3) (k := 1) (r := cp_row (cp_row r 3 (cp_c4 a (r 3))) 1 a) (by decide) (by decide) (by decide) M.s2 M.s0) rfl (by rw [cp_c4_31, cp_row_s, cp_c4_back (fun x hx => hx1 x (by omega))])) dX7_nextPlate_34 rfl rfl ⟨Nat.le_of_ble_eq_true rfl, Nat.le_of_ble_eq_true rfl⟩ ⟨Nat.le_refl _, Nat.le_refl _⟩ (Nat.le_of_ble_eq_true rfl) ?_
  refine cp_iload_n O dX7_nextPlate_37 cp_lg1 ?_
  refine cp_if_eqB (tgt := 48) O dX7_nextPlate_38 (by decide) (fun c_38 => ?_) (fun c_38 => ?_)
  · refine cp_bipush O dX7_nextPlate_48 (v := (-5)) rfl ?_
    exact hr _ _ _ _ dX7_nextPlate_50 (by unfold cp_sNext; rw [if_neg hno]) ⟨_, _, rfl, fun k hk => cp_row_n _ _ hk, fun k h7 h8 => cp_tf_o _ _ h7 h8⟩
  · refine cp_aload_n O dX7_nextPlate_41 cp_lg0 ?_
    refine mg_X7_76 O M dX7_nextPlate_42 ?_
    rw [cp_tf_7]
    refine cp_goto (tgt := 50) O dX7_nextPlate_45 (by decide) ?_
    exact hr _ _ _ _ dX7_nextPlate_50 (absurd c_38 (by decide)) ⟨_, _, rfl, fun k hk => cp_row_n _ _ hk, fun k h7 h8 => cp_tf_o _ _ h7 h8⟩
set_option maxHeartbeats 4000000 in
set_option maxRecDepth 100000 in
theorem c_X7_leastRoom_1 {lc : Launch} {E : cp_En} {cnt : Nat} {sh : cp_Shp} {R : cp_Rem} {J : cp_Mem} {m : Nat} {f : Nat → Int32} {r : Nat → Nat → Int32} {a : Nat → Int32} (M : cp_ML sh R m) {N : cp_Nt} (hA : cp_MA a N) (hV : cp_NV N) (hyes : cp_mkN N < cp_tp N) : cp_Fr lc E yX7_leastRoom cX7_leastRoom 4 (some .int) 8 [.ref m] cnt sh (cp_ma J m f r a) R (some (.int (cp_sLeast N))) (fun I' => ∃ (f' : Nat → Int32) (r' : cp_PP), I' = cp_ma J m f' r' a ∧ (∀ k, k ≠ 3 → r' k = r k) ∧ ∀ k, k ≠ 7 → k ≠ 8 → f' k = f k) := by
  obtain ⟨hAS, hA4, hA5, hAW, hAQ⟩ := id hA
  obtain ⟨hVS, hVm, hVP, hVN, hVQ⟩ := id hV
  have hn24 := hVP.1
  have hnp8 := hAQ.1
  have hmk : cp_mkN N ≤ cp_tp N := cp_cnt_le _ _
  have hA7 : a 7 = nI (cp_mkN N) := hAQ.2.2.2
  obtain ⟨hd0, hdm, hd6⟩ := cp_due_f hA hV hyes
  have hPN1 : cp_PN (cp_tn N) (cp_nxt N).1 := cp_PN_wkm hVN hVS _ (by omega)
  refine cp_Fn_iR [some (.ref m), none, none, none] (by decide +kernel) (Nat.le_of_ble_eq_true rfl) rfl rfl (fun x hxl O hr => ?_)
  subst hxl
  refine cp_aload_n O dX7_leastRoom_0 cp_lg0 ?_
  refine fg_X7_7 O M.s M.f0 dX7_leastRoom_1 ?_
  refine cp_aload_n O dX7_leastRoom_4 cp_lg0 ?_
  refine fg_X7_16 O M.s M.f2 dX7_leastRoom_5 ?_
  refine cp_cSv O me_X7_copy ms_X7_copy ml_X7_139 (cp_Fn_eq (c_X7_copy (i := 1) (k := 3) (r := cp_row r 1 a) (by decide) (by decide) (by decide) M.s0 M.s2) rfl (by rw [cp_c4_13])) dX7_leastRoom_8 rfl rfl ⟨Nat.le_of_ble_eq_true rfl, Nat.le_of_ble_eq_true rfl⟩ ⟨Nat.le_refl _, Nat.le_refl _⟩ (Nat.le_of_ble_eq_true rfl) ?_
  refine cp_aload_n O dX7_leastRoom_11 cp_lg0 ?_
  refine cp_cVir O me_X7_comesToNext mi_X7_comesToNext ml_X7_192 cp_cX7 M.s (c_X7_comesToNext_1 M hA hV hyes) dX7_leastRoom_12 rfl rfl ⟨Nat.le_of_ble_eq_true rfl, Nat.le_of_ble_eq_true rfl⟩ ⟨Nat.le_refl _, Nat.le_refl _⟩ (Nat.le_of_ble_eq_true rfl) (fun I12 hT12 => ?_)
  obtain ⟨a1, rfl, hW1, hx1⟩ := hT12
  refine cp_istore_n O dX7_leastRoom_15 (by decide) (cp_ls1 rfl) ?_
  refine cp_iconst O dX7_leastRoom_16 (v := 0) rfl ?_
  refine cp_istore_n O dX7_leastRoom_17 (by decide) (cp_ls2 rfl) ?_
  refine cp_iconst O dX7_leastRoom_18 (v := 0) rfl ?_
  refine cp_istore_n O dX7_leastRoom_19 (by decide) (cp_ls3 rfl) ?_
  have loop20 : ∀ c, c ≤ cp_tn N → cp_G x E 4 0 0 cnt sh (cp_ma J m f (cp_row r 3 (cp_c4 a (r 3))) a1) R 20 [some (.ref m), some (.int (cp_bi true)), some (.int (cp_fl (cp_nxt N).1 c)), some (.int (nI c))] [] := by
    refine cp_up (fun c hc ih => ?_)
    refine cp_iload_n O dX7_leastRoom_20 cp_lg3 ?_
    refine cp_aload_n O dX7_leastRoom_21 cp_lg0 ?_
    refine fg_X7_7 O M.s M.f0 dX7_leastRoom_22 ?_
    refine cp_iconst O dX7_leastRoom_25 (v := 5) rfl ?_
    refine cp_ialdA O M (j := 5) rfl (by omega) dX7_leastRoom_26 ?_
    refine cp_icmp_geN (tgt := 57) O dX7_leastRoom_27 (by decide) (a := c) (b := (cp_tn N)) rfl ((hx1 5 (by omega)).trans hA5) (by omega) (by omega) (fun c_27 => ?_) (fun c_27 => ?_)
    · obtain rfl : c = cp_tn N := by omega
      refine cp_aload_n O dX7_leastRoom_57 cp_lg0 ?_
      refine fg_X7_16 O M.s M.f2 dX7_leastRoom_58 ?_
      refine cp_aload_n O dX7_leastRoom_61 cp_lg0 ?_
      refine fg_X7_7 O M.s M.f0 dX7_leastRoom_62 ?_
      refine cp_cSv O me_X7_copy ms_X7_copy ml_X7_139 (cp_Fn_eq (c_X7_copy (i := 3) (k := 1) (r := cp_row (cp_row r 3 (cp_c4 a (r 3))) 1 a1) (by decide) (by decide) (by decide) M.s2 M.s0) rfl (by rw [cp_c4_31, cp_row_s, cp_c4_back (fun x hx => hx1 x (by omega))])) dX7_leastRoom_65 rfl rfl ⟨Nat.le_of_ble_eq_true rfl, Nat.le_of_ble_eq_true rfl⟩ ⟨Nat.le_refl _, Nat.le_refl _⟩ (Nat.le_of_ble_eq_true rfl) ?_
      refine cp_iload_n O dX7_leastRoom_68 cp_lg1 ?_
      refine cp_if_neB (tgt := 77) O dX7_leastRoom_69 (by decide) (fun c_69 => ?_) (fun c_69 => ?_)
      · refine cp_iload_n O dX7_leastRoom_77 cp_lg2 ?_
        refine cp_sipush O dX7_leastRoom_78 (v := 400) rfl ?_
        refine cp_icmp_le (tgt := 89) O dX7_leastRoom_81 (by decide) (fun c_81 => ?_) (fun c_81 => ?_)
        · refine cp_iload_n O dX7_leastRoom_89 cp_lg2 ?_
          refine cp_bipush O dX7_leastRoom_90 (v := 10) rfl ?_
          refine cp_icmp_ge (tgt := 100) O dX7_leastRoom_92 (by decide) (fun c_92 => ?_) (fun c_92 => ?_)
          · refine cp_iload_n O dX7_leastRoom_100 cp_lg2 ?_
            exact hr _ _ _ _ dX7_leastRoom_101 (by unfold cp_sLeast; rw [if_pos hyes, if_pos c_81, if_pos c_92]) ⟨f, _, rfl, fun k hk => cp_row_n _ _ hk, fun _ _ _ => rfl⟩
          · refine cp_bipush O dX7_leastRoom_95 (v := 10) rfl ?_
            refine cp_goto (tgt := 101) O dX7_leastRoom_97 (by decide) ?_
            exact hr _ _ _ _ dX7_leastRoom_101 (by unfold cp_sLeast; rw [if_pos hyes, if_pos c_81, if_neg c_92]) ⟨f, _, rfl, fun k hk => cp_row_n _ _ hk, fun _ _ _ => rfl⟩
        · refine cp_bipush O dX7_leastRoom_84 (v := (-6)) rfl ?_
          refine cp_goto (tgt := 101) O dX7_leastRoom_86 (by decide) ?_
          exact hr _ _ _ _ dX7_leastRoom_101 (by unfold cp_sLeast; rw [if_pos hyes, if_neg c_81]) ⟨f, _, rfl, fun k hk => cp_row_n _ _ hk, fun _ _ _ => rfl⟩
      · refine cp_bipush O dX7_leastRoom_72 (v := (-5)) rfl ?_
        refine cp_goto (tgt := 101) O dX7_leastRoom_74 (by decide) ?_
        exact hr _ _ _ _ dX7_leastRoom_101 (absurd c_69 (by decide)) ⟨f, _, rfl, fun k hk => cp_row_n _ _ hk, fun _ _ _ => rfl⟩
    · refine cp_iload_n O dX7_leastRoom_30 cp_lg2 ?_
      refine cp_aload_n O dX7_leastRoom_31 cp_lg0 ?_
      refine cp_iload_n O dX7_leastRoom_32 cp_lg3 ?_
      refine cp_cVi O me_X7_isFree mi_X7_isFree ml_X7_68 cp_cX7 M.s (c_X7_isFree (p := c) M hn24 hW1.1 rfl (by omega)) dX7_leastRoom_33 rfl rfl ⟨Nat.le_of_ble_eq_true rfl, Nat.le_of_ble_eq_true rfl⟩ ⟨Nat.le_refl _, Nat.le_refl _⟩ (Nat.le_of_ble_eq_true rfl) ?_
      refine cp_if_eqB (tgt := 48) O dX7_leastRoom_36 (by decide) (fun c_36 => ?_) (fun c_36 => ?_)
      · refine cp_iconst O dX7_leastRoom_48 (v := 0) rfl ?_
        refine cp_iadd O dX7_leastRoom_49 ?_
        refine cp_istore_n O dX7_leastRoom_50 (by decide) (cp_ls2 rfl) ?_
        refine cp_iinc O dX7_leastRoom_51 cp_lg3 (cp_inc rfl) (by decide) (cp_ls3 rfl) ?_
        refine cp_goto (tgt := 20) O dX7_leastRoom_54 (by decide) ?_
        have ih2 := ih c_27
        rw [show cp_fl (cp_nxt N).1 (c + 1) = cp_fl (cp_nxt N).1 c + (if cp_fr (cp_nxt N).1 c = true then (cp_nxt N).1 c 1 else 0) from rfl] at ih2
        first
          | (rw [if_pos c_36] at ih2; exact ih2)
          | (rw [if_neg (by rw [c_36]; decide)] at ih2; exact ih2)
      · refine cp_aload_n O dX7_leastRoom_39 cp_lg0 ?_
        refine cp_iload_n O dX7_leastRoom_40 cp_lg3 ?_
        refine cp_iconst O dX7_leastRoom_41 (v := 1) rfl ?_
        refine cp_cVi O me_X7_of mi_X7_of ml_X7_39 cp_cX7 M.s (c_X7_ofe (w := (cp_nxt N).1 c 1) (p := c) (q := 1) M rfl rfl (by omega) (by omega) (hW1.1 c (by omega) 1 (by decide))) dX7_leastRoom_42 rfl rfl ⟨Nat.le_of_ble_eq_true rfl, Nat.le_of_ble_eq_true rfl⟩ ⟨Nat.le_refl _, Nat.le_refl _⟩ (Nat.le_of_ble_eq_true rfl) ?_
        refine cp_goto (tgt := 49) O dX7_leastRoom_45 (by decide) ?_
        refine cp_iadd O dX7_leastRoom_49 ?_
        refine cp_istore_n O dX7_leastRoom_50 (by decide) (cp_ls2 rfl) ?_
        refine cp_iinc O dX7_leastRoom_51 cp_lg3 (cp_inc rfl) (by decide) (cp_ls3 rfl) ?_
        refine cp_goto (tgt := 20) O dX7_leastRoom_54 (by decide) ?_
        have ih2 := ih c_27
        rw [show cp_fl (cp_nxt N).1 (c + 1) = cp_fl (cp_nxt N).1 c + (if cp_fr (cp_nxt N).1 c = true then (cp_nxt N).1 c 1 else 0) from rfl] at ih2
        first
          | (rw [if_pos c_36] at ih2; exact ih2)
          | (rw [if_neg (by rw [c_36]; decide)] at ih2; exact ih2)
  exact loop20 0 (Nat.zero_le _)
set_option maxHeartbeats 4000000 in
set_option maxRecDepth 100000 in
theorem c_X7_nextPlate_1 {lc : Launch} {E : cp_En} {cnt : Nat} {sh : cp_Shp} {R : cp_Rem} {J : cp_Mem} {m : Nat} {f : Nat → Int32} {r : Nat → Nat → Int32} {a : Nat → Int32} (M : cp_ML sh R m) {N : cp_Nt} (hA : cp_MA a N) (hV : cp_NV N) (hyes : cp_mkN N < cp_tp N) : cp_Fr lc E yX7_nextPlate cX7_nextPlate 2 (some .int) 8 [.ref m] cnt sh (cp_ma J m f r a) R (some (.int (cp_sNext N))) (fun I' => ∃ (f' : Nat → Int32) (r' : cp_PP), I' = cp_ma J m f' r' a ∧ (∀ k, k ≠ 3 → r' k = r k) ∧ ∀ k, k ≠ 7 → k ≠ 8 → f' k = f k) := by
  obtain ⟨hAS, hA4, hA5, hAW, hAQ⟩ := id hA
  obtain ⟨hVS, hVm, hVP, hVN, hVQ⟩ := id hV
  have hn24 := hVP.1
  have hnp8 := hAQ.1
  have hmk : cp_mkN N ≤ cp_tp N := cp_cnt_le _ _
  have hA7 : a 7 = nI (cp_mkN N) := hAQ.2.2.2
  obtain ⟨hd0, hdm, hd6⟩ := cp_due_f hA hV hyes
  have hPN1 : cp_PN (cp_tn N) (cp_nxt N).1 := cp_PN_wkm hVN hVS _ (by omega)
  refine cp_Fn_iR [some (.ref m), none] (by decide +kernel) (Nat.le_of_ble_eq_true rfl) rfl rfl (fun x hxl O hr => ?_)
  subst hxl
  refine cp_aload_n O dX7_nextPlate_0 cp_lg0 ?_
  refine fg_X7_7 O M.s M.f0 dX7_nextPlate_1 ?_
  refine cp_aload_n O dX7_nextPlate_4 cp_lg0 ?_
  refine fg_X7_16 O M.s M.f2 dX7_nextPlate_5 ?_
  refine cp_cSv O me_X7_copy ms_X7_copy ml_X7_139 (cp_Fn_eq (c_X7_copy (i := 1) (k := 3) (r := cp_row r 1 a) (by decide) (by decide) (by decide) M.s0 M.s2) rfl (by rw [cp_c4_13])) dX7_nextPlate_8 rfl rfl ⟨Nat.le_of_ble_eq_true rfl, Nat.le_of_ble_eq_true rfl⟩ ⟨Nat.le_refl _, Nat.le_refl _⟩ (Nat.le_of_ble_eq_true rfl) ?_
  refine cp_aload_n O dX7_nextPlate_11 cp_lg0 ?_
  refine cp_cVir O me_X7_comesToNext mi_X7_comesToNext ml_X7_192 cp_cX7 M.s (c_X7_comesToNext_1 M hA hV hyes) dX7_nextPlate_12 rfl rfl ⟨Nat.le_of_ble_eq_true rfl, Nat.le_of_ble_eq_true rfl⟩ ⟨Nat.le_refl _, Nat.le_refl _⟩ (Nat.le_of_ble_eq_true rfl) (fun I12 hT12 => ?_)
  obtain ⟨a1, rfl, hW1, hx1⟩ := hT12
  refine cp_istore_n O dX7_nextPlate_15 (by decide) (cp_ls1 rfl) ?_
  refine cp_aload_n O dX7_nextPlate_16 cp_lg0 ?_
  refine cp_aload_n O dX7_nextPlate_17 cp_lg0 ?_
  refine fg_X7_7 O M.s M.f0 dX7_nextPlate_18 ?_
  refine cp_iconst O dX7_nextPlate_21 (v := 2) rfl ?_
  refine cp_ialdA O M (j := 2) rfl (by omega) dX7_nextPlate_22 ?_
  rw [hx1 2 (by omega), hAS 2 (by decide)]
  refine cp_cVv O me_X7_takes mi_X7_takes ml_X7_100 cp_cX7 M.s (c_X7_takes M hn24 hW1.1 hPN1 ((hx1 5 (by omega)).trans hA5)) dX7_nextPlate_23 rfl rfl ⟨Nat.le_of_ble_eq_true rfl, Nat.le_of_ble_eq_true rfl⟩ ⟨Nat.le_refl _, Nat.le_refl _⟩ (Nat.le_of_ble_eq_true rfl) ?_
  refine cp_aload_n O dX7_nextPlate_26 cp_lg0 ?_
  refine fg_X7_16 O M.s M.f2 dX7_nextPlate_27 ?_
  refine cp_aload_n O dX7_nextPlate_30 cp_lg0 ?_
  refine fg_X7_7 O M.s M.f0 dX7_nextPlate_31 ?_
  refine cp_cSv O me_X7_copy ms_X7_copy ml_X7_139 (cp_Fn_eq (c_X7_copy (i := 3) (k := 1) (r := cp_row (cp_row r 3 (cp_c4 a (r 3))) 1 a1) (by decide) (by decide) (by decide) M.s2 M.s0) rfl (by rw [cp_c4_31, cp_row_s, cp_c4_back (fun x hx => hx1 x (by omega))])) dX7_nextPlate_34 rfl rfl ⟨Nat.le_of_ble_eq_true rfl, Nat.le_of_ble_eq_true rfl⟩ ⟨Nat.le_refl _, Nat.le_refl _⟩ (Nat.le_of_ble_eq_true rfl) ?_
  refine cp_iload_n O dX7_nextPlate_37 cp_lg1 ?_
  refine cp_if_eqB (tgt := 48) O dX7_nextPlate_38 (by decide) (fun c_38 => ?_) (fun c_38 => ?_)
  · refine cp_bipush O dX7_nextPlate_48 (v := (-5)) rfl ?_
    exact hr _ _ _ _ dX7_nextPlate_50 (absurd c_38 (by decide)) ⟨_, _, rfl, fun k hk => cp_row_n _ _ hk, fun k h7 h8 => cp_tf_o _ _ h7 h8⟩
  · refine cp_aload_n O dX7_nextPlate_41 cp_lg0 ?_
    refine mg_X7_76 O M dX7_nextPlate_42 ?_
    rw [cp_tf_7]
    refine cp_goto (tgt := 50) O dX7_nextPlate_45 (by decide) ?_
    exact hr _ _ _ _ dX7_nextPlate_50 (by unfold cp_sNext; rw [if_pos hyes]) ⟨_, _, rfl, fun k hk => cp_row_n _ _ hk, fun k h7 h8 => cp_tf_o _ _ h7 h8⟩
theorem c_X7_leastRoom {lc : Launch} {E : cp_En} {cnt : Nat} {sh : cp_Shp} {R : cp_Rem} {J : cp_Mem} {m : Nat} {f : Nat → Int32} {r : Nat → Nat → Int32} {a : Nat → Int32} (M : cp_ML sh R m) {N : cp_Nt} (hA : cp_MA a N) (hV : cp_NV N) : cp_Fr lc E yX7_leastRoom cX7_leastRoom 4 (some .int) 8 [.ref m] cnt sh (cp_ma J m f r a) R (some (.int (cp_sLeast N))) (fun I' => ∃ (f' : Nat → Int32) (r' : cp_PP), I' = cp_ma J m f' r' a ∧ (∀ k, k ≠ 3 → r' k = r k) ∧ ∀ k, k ≠ 7 → k ≠ 8 → f' k = f k) := by
  by_cases h : cp_mkN N < cp_tp N
  · exact c_X7_leastRoom_1 M hA hV h
  · exact c_X7_leastRoom_0 M hA hV h
theorem c_X7_nextPlate {lc : Launch} {E : cp_En} {cnt : Nat} {sh : cp_Shp} {R : cp_Rem} {J : cp_Mem} {m : Nat} {f : Nat → Int32} {r : Nat → Nat → Int32} {a : Nat → Int32} (M : cp_ML sh R m) {N : cp_Nt} (hA : cp_MA a N) (hV : cp_NV N) : cp_Fr lc E yX7_nextPlate cX7_nextPlate 2 (some .int) 8 [.ref m] cnt sh (cp_ma J m f r a) R (some (.int (cp_sNext N))) (fun I' => ∃ (f' : Nat → Int32) (r' : cp_PP), I' = cp_ma J m f' r' a ∧ (∀ k, k ≠ 3 → r' k = r k) ∧ ∀ k, k ≠ 7 → k ≠ 8 → f' k = f k) := by
  by_cases h : cp_mkN N < cp_tp N
  · exact c_X7_nextPlate_1 M hA hV h
  · exact c_X7_nextPlate_0 M hA hV h
