def cp_rq (N : cp_Nt) : Nat → Bool := fun j => decide (cp_tQ N j 1 = 1)
def cp_la (N : cp_Nt) (k : Nat) : Int32 := if k = 0 then -1 else cp_tQ N (k - 1) 0
theorem cp_la_s (N : cp_Nt) (k : Nat) : cp_tQ N k 0 = cp_la N (k + 1) := by
  unfold cp_la
  rw [if_neg (Nat.succ_ne_zero k), Nat.add_sub_cancel]
theorem cp_la_lt {N : cp_Nt} {k : Nat} (hV : cp_NV N) (hQ : cp_QB N) (hk : k < cp_tp N) : ¬ cp_tQ N k 0 ≤ cp_la N k := by
  obtain ⟨t, ht, e⟩ := hQ k hk
  unfold cp_la
  by_cases h0 : k = 0
  · rw [if_pos h0, e, Int32.le_iff_toInt_le, nI_toInt (by omega), show (-1 : Int32).toInt = -1 from rfl]
    omega
  · rw [if_neg h0, Int32.le_iff_toInt_le]
    have := hV.2.2.2.2.1 (k - 1) k (by omega) hk
    omega
set_option maxHeartbeats 4000000 in
set_option maxRecDepth 100000 in
theorem ww_813 {x : cp_Cx} {E : cp_En} {cnt : Nat} {sh : cp_Shp} {R : cp_Rem} {I : cp_Mem} {co cq a1 a2 : Nat} {N : cp_Nt} (O : cp_Ok x E RL cL_isWell 15 5 2 12) (hA : cp_ar sh co cq a1 a2) (hW : cp_TW sh R I co cq N N) (hF : cp_WF N) (hr : ∀ (I1 : cp_Mem) (pc : Nat) (L : List (Option Value)), decode cL_isWell pc = .ok (.ireturn, 1) → cp_TW sh R I1 co cq N N → cp_G x E 15 2 12 cnt sh I1 R pc L [.int 1]) : cp_G x E 15 2 12 cnt sh I R 813 [some (.ref co), some (.int (nI (cp_tn N))), some (.ref a1), some (.ref a2), some (.int (nI (cp_cnt (cp_hq N) (cp_tn N)))), some (.int (nI (cp_cnt (cp_kq N) (cp_tn N)))), some (.int (cp_st (cp_fr (cp_tP N)) (cp_tn N))), some (.int 1), none, some (.int (nI (cp_cnt (cp_rq N) (cp_tp N)))), some (.int (cp_now N).1), some (.int (cp_lin (cp_tP N) (cp_now N).1 (cp_tn N))), none, none, none] [] := by
  obtain ⟨hV, h8⟩ := hW.V
  have hn24 := hV.2.2.1.1
  have hm600 := hV.2.1
  have hf := cp_f_now hV
  refine cp_iload O dL_isWell_813 cp_lg7 ?_
  refine cp_if_eq (tgt := 876) O dL_isWell_815 (by decide) (fun c => absurd c (by decide)) (fun _ => ?_)
  refine cp_iload O dL_isWell_818 cp_lg4 ?_
  refine cp_aload_n O dL_isWell_820 cp_lg0 ?_
  refine cp_bipush O dL_isWell_821 (v := 8) rfl ?_
  refine cp_cVi O me_X6_count mi_X6_count ml_L_9 cp_cX6 hW.s (tw_cnt hW (r := cp_sCount N 0 0 8) (by decide) (by decide) rfl) dL_isWell_823 rfl rfl ⟨Nat.le_of_ble_eq_true rfl, Nat.le_of_ble_eq_true rfl⟩ ⟨Nat.le_refl _, Nat.le_refl _⟩ (Nat.le_of_ble_eq_true rfl) ?_
  refine cp_icmp_ne (tgt := 876) O dL_isWell_826 (by decide) (fun c => absurd c (fun z => z rfl)) (fun _ => ?_)
  refine cp_iload O dL_isWell_829 cp_lg5 ?_
  refine cp_aload_n O dL_isWell_831 cp_lg0 ?_
  refine cp_bipush O dL_isWell_832 (v := 7) rfl ?_
  refine cp_cVi O me_X6_count mi_X6_count ml_L_9 cp_cX6 hW.s (tw_cnt hW (r := cp_sCount N 0 0 7) (by decide) (by decide) rfl) dL_isWell_834 rfl rfl ⟨Nat.le_of_ble_eq_true rfl, Nat.le_of_ble_eq_true rfl⟩ ⟨Nat.le_refl _, Nat.le_refl _⟩ (Nat.le_of_ble_eq_true rfl) ?_
  refine cp_icmp_ne (tgt := 876) O dL_isWell_837 (by decide) (fun c => absurd c (fun z => z rfl)) (fun _ => ?_)
  refine cp_iload O dL_isWell_840 cp_lg9 ?_
  refine cp_aload_n O dL_isWell_842 cp_lg0 ?_
  refine cp_bipush O dL_isWell_843 (v := 9) rfl ?_
  refine cp_cVi O me_X6_count mi_X6_count ml_L_9 cp_cX6 hW.s (tw_cnt hW (r := cp_sCount N 0 0 9) (by decide) (by decide) rfl) dL_isWell_845 rfl rfl ⟨Nat.le_of_ble_eq_true rfl, Nat.le_of_ble_eq_true rfl⟩ ⟨Nat.le_refl _, Nat.le_refl _⟩ (Nat.le_of_ble_eq_true rfl) ?_
  refine cp_icmp_ne (tgt := 876) O dL_isWell_848 (by decide) (fun c => absurd c (fun z => z rfl)) (fun _ => ?_)
  refine cp_iload O dL_isWell_851 cp_lg10 ?_
  refine cp_iload O dL_isWell_853 cp_lg6 ?_
  refine cp_iconst O dL_isWell_855 (v := (-1)) rfl ?_
  refine cp_ixor O dL_isWell_856 ?_
  refine cp_iand O dL_isWell_857 ?_
  refine cp_if_ne (tgt := 876) O dL_isWell_858 (by decide) (fun c => absurd c (fun z => z hf.2)) (fun _ => ?_)
  refine cp_iload O dL_isWell_861 cp_lg11 ?_
  refine cp_aload_n O dL_isWell_863 cp_lg0 ?_
  refine cp_bipush O dL_isWell_864 (v := 12) rfl ?_
  refine cp_cVi O me_X6_count mi_X6_count ml_L_9 cp_cX6 hW.s (tw_cnt hW (r := cp_sCount N 0 0 12) (by decide) (by decide) rfl) dL_isWell_866 rfl rfl ⟨Nat.le_of_ble_eq_true rfl, Nat.le_of_ble_eq_true rfl⟩ ⟨Nat.le_refl _, Nat.le_refl _⟩ (Nat.le_of_ble_eq_true rfl) ?_
  refine cp_icmp_gt (tgt := 876) O dL_isWell_869 (by decide) (fun c => absurd c (Int32.not_lt.mpr hf.1)) (fun _ => ?_)
  refine cp_iconst O dL_isWell_872 (v := 1) rfl ?_
  refine cp_goto (tgt := 877) O dL_isWell_873 (by decide) ?_
  exact hr _ _ _ dL_isWell_877 hW
set_option maxHeartbeats 4000000 in
set_option maxRecDepth 100000 in
theorem ww_774 {x : cp_Cx} {E : cp_En} {cnt : Nat} {sh : cp_Shp} {R : cp_Rem} {I : cp_Mem} {co cq a1 a2 : Nat} {N : cp_Nt} (O : cp_Ok x E RL cL_isWell 15 5 2 12) (hA : cp_ar sh co cq a1 a2) (hW : cp_TW sh R I co cq N N) (hF : cp_WF N) (hr : ∀ (I1 : cp_Mem) (pc : Nat) (L : List (Option Value)), decode cL_isWell pc = .ok (.ireturn, 1) → cp_TW sh R I1 co cq N N → cp_G x E 15 2 12 cnt sh I1 R pc L [.int 1]) : ∀ k, k ≤ cp_tn N → cp_G x E 15 2 12 cnt sh I R 774 [some (.ref co), some (.int (nI (cp_tn N))), some (.ref a1), some (.ref a2), some (.int (nI (cp_cnt (cp_hq N) (cp_tn N)))), some (.int (nI (cp_cnt (cp_kq N) (cp_tn N)))), some (.int (cp_st (cp_fr (cp_tP N)) (cp_tn N))), some (.int 1), none, some (.int (nI (cp_cnt (cp_rq N) (cp_tp N)))), some (.int (cp_now N).1), some (.int (cp_lin (cp_tP N) (cp_now N).1 k)), some (.int (nI k)), none, none] [] := by
  obtain ⟨hV, h8⟩ := hW.V
  have hn24 := hV.2.2.1.1
  have hm600 := hV.2.1
  refine cp_up (n := cp_tn N) (P := fun k => cp_G x E 15 2 12 cnt sh I R 774 [some (.ref co), some (.int (nI (cp_tn N))), some (.ref a1), some (.ref a2), some (.int (nI (cp_cnt (cp_hq N) (cp_tn N)))), some (.int (nI (cp_cnt (cp_kq N) (cp_tn N)))), some (.int (cp_st (cp_fr (cp_tP N)) (cp_tn N))), some (.int 1), none, some (.int (nI (cp_cnt (cp_rq N) (cp_tp N)))), some (.int (cp_now N).1), some (.int (cp_lin (cp_tP N) (cp_now N).1 k)), some (.int (nI k)), none, none] []) (fun k hk ih => ?_)
  refine cp_iload O dL_isWell_774 cp_lg12 ?_
  refine cp_iload_n O dL_isWell_776 cp_lg1 ?_
  refine cp_icmp_geN (tgt := 813) O dL_isWell_777 (by decide) (a := k) (b := cp_tn N) rfl rfl (by omega) (by omega) (fun c_777 => ?_) (fun c_777 => ?_)
  · have ek : k = cp_tn N := by omega
    rw [ek]
    exact cp_Gw (cp_lws (cp_lws (cp_lws (cp_lws (cp_lws (cp_lws (cp_lws (cp_lws (cp_lws (cp_lws (cp_lws (cp_lws (cp_lwn (cp_lws (cp_lws cp_lw0))))))))))))))) (ww_813 O hA hW hF hr)
  · refine cp_iload O dL_isWell_780 cp_lg11 ?_
    refine cp_iload O dL_isWell_782 cp_lg10 ?_
    refine cp_iload O dL_isWell_784 cp_lg12 ?_
    refine cp_ishr O dL_isWell_786 ?_
    refine cp_iconst O dL_isWell_787 (v := 1) rfl ?_
    refine cp_iand O dL_isWell_788 ?_
    refine cp_iconst O dL_isWell_789 (v := 1) rfl ?_
    refine cp_icmp_ne (tgt := 803) O dL_isWell_790 (by decide) (fun c_790 => ?_) (fun c_790 => ?_)
    · have c_790 : ¬ cp_bit (cp_now N).1 k = 1 := c_790
      refine cp_iconst O dL_isWell_803 (v := 0) rfl ?_
      refine cp_iadd O dL_isWell_804 ?_
      rw [show cp_lin (cp_tP N) (cp_now N).1 k + 0 = cp_lin (cp_tP N) (cp_now N).1 (k + 1) from (Int32.add_zero _).trans (cp_lin_f (decide_eq_false c_790))]
      refine cp_istore O dL_isWell_805 (by decide) (cp_ls11 rfl) ?_
      refine cp_iinc O dL_isWell_807 cp_lg12 (cp_inc rfl) (by decide) (cp_ls12 rfl) ?_
      refine cp_goto (tgt := 774) O dL_isWell_810 (by decide) ?_
      exact ih c_777
    · have c_790 : cp_bit (cp_now N).1 k = 1 := c_790
      refine cp_aload_n O dL_isWell_793 cp_lg0 ?_
      refine cp_iload O dL_isWell_794 cp_lg12 ?_
      refine cp_iconst O dL_isWell_796 (v := 1) rfl ?_
      refine cp_cVi O me_X6_ofPiece mi_X6_ofPiece ml_L_28 cp_cX6 hW.s (tw_ofPieceE hW (cp_f_ofP (f := 1) hn24 c_777 (by decide))) dL_isWell_797 rfl rfl ⟨Nat.le_of_ble_eq_true rfl, Nat.le_of_ble_eq_true rfl⟩ ⟨Nat.le_refl _, Nat.le_refl _⟩ (Nat.le_of_ble_eq_true rfl) ?_
      refine cp_goto (tgt := 804) O dL_isWell_800 (by decide) ?_
      refine cp_iadd O dL_isWell_804 ?_
      rw [show cp_lin (cp_tP N) (cp_now N).1 k + cp_tP N k 1 = cp_lin (cp_tP N) (cp_now N).1 (k + 1) from cp_lin_t (decide_eq_true c_790)]
      refine cp_istore O dL_isWell_805 (by decide) (cp_ls11 rfl) ?_
      refine cp_iinc O dL_isWell_807 cp_lg12 (cp_inc rfl) (by decide) (cp_ls12 rfl) ?_
      refine cp_goto (tgt := 774) O dL_isWell_810 (by decide) ?_
      exact ih c_777
set_option maxHeartbeats 4000000 in
set_option maxRecDepth 100000 in
theorem ww_762 {x : cp_Cx} {E : cp_En} {cnt : Nat} {sh : cp_Shp} {R : cp_Rem} {I : cp_Mem} {co cq a1 a2 : Nat} {N : cp_Nt} (O : cp_Ok x E RL cL_isWell 15 5 2 12) (hA : cp_ar sh co cq a1 a2) (hW : cp_TW sh R I co cq N N) (hF : cp_WF N) (hr : ∀ (I1 : cp_Mem) (pc : Nat) (L : List (Option Value)), decode cL_isWell pc = .ok (.ireturn, 1) → cp_TW sh R I1 co cq N N → cp_G x E 15 2 12 cnt sh I1 R pc L [.int 1]) : cp_G x E 15 2 12 cnt sh I R 762 [some (.ref co), some (.int (nI (cp_tn N))), some (.ref a1), some (.ref a2), some (.int (nI (cp_cnt (cp_hq N) (cp_tn N)))), some (.int (nI (cp_cnt (cp_kq N) (cp_tn N)))), some (.int (cp_st (cp_fr (cp_tP N)) (cp_tn N))), some (.int 1), none, some (.int (nI (cp_cnt (cp_rq N) (cp_tp N)))), none, none, none, none, none] [] := by
  refine cp_aload_n O dL_isWell_762 cp_lg0 ?_
  refine cp_cVi O me_X6_plateNow mi_X6_plateNow ml_L_50 cp_cX6 hW.s (tw_plateNow hW) dL_isWell_763 rfl rfl ⟨Nat.le_of_ble_eq_true rfl, Nat.le_of_ble_eq_true rfl⟩ ⟨Nat.le_refl _, Nat.le_refl _⟩ (Nat.le_of_ble_eq_true rfl) ?_
  refine cp_istore O dL_isWell_766 (by decide) (cp_ls10 rfl) ?_
  refine cp_iconst O dL_isWell_768 (v := 0) rfl ?_
  refine cp_istore O dL_isWell_769 (by decide) (cp_ls11 rfl) ?_
  refine cp_iconst O dL_isWell_771 (v := 0) rfl ?_
  refine cp_istore O dL_isWell_772 (by decide) (cp_ls12 rfl) ?_
  exact ww_774 O hA hW hF hr 0 (Nat.zero_le _)
set_option maxHeartbeats 4000000 in
set_option maxRecDepth 100000 in
theorem ww_618_1 {x : cp_Cx} {E : cp_En} {cnt : Nat} {sh : cp_Shp} {R : cp_Rem} {I : cp_Mem} {co cq a1 a2 : Nat} {N : cp_Nt} (O : cp_Ok x E RL cL_isWell 15 5 2 12) (hA : cp_ar sh co cq a1 a2) (hW : cp_TW sh R I co cq N N) (hF : cp_WF N) {k : Nat} (hk : k < cp_tp N) (hm : k < cp_mkN N) (K : cp_G x E 15 2 12 cnt sh I R 505 [some (.ref co), some (.int (nI (cp_tn N))), some (.ref a1), some (.ref a2), some (.int (nI (cp_cnt (cp_hq N) (cp_tn N)))), some (.int (nI (cp_cnt (cp_kq N) (cp_tn N)))), some (.int (cp_st (cp_fr (cp_tP N)) (cp_tn N))), some (.int 1), some (.int (cp_la N (k + 1))), some (.int (nI (cp_cnt (cp_rq N) (k + 1)))), some (.int (nI (k + 1))), none, none, none, none] []) : cp_G x E 15 2 12 cnt sh I R 618 [some (.ref co), some (.int (nI (cp_tn N))), some (.ref a1), some (.ref a2), some (.int (nI (cp_cnt (cp_hq N) (cp_tn N)))), some (.int (nI (cp_cnt (cp_kq N) (cp_tn N)))), some (.int (cp_st (cp_fr (cp_tP N)) (cp_tn N))), some (.int 1), some (.int (cp_la N k)), some (.int (nI (cp_cnt (cp_rq N) k))), some (.int (nI k)), some (.int (cp_tQ N k 0)), some (.int (cp_tQ N k 2)), some (.int (cp_lin (cp_tP N) (cp_tQ N k 2) (cp_tn N))), none] [] := by
  obtain ⟨hV, h8⟩ := hW.V
  have hn24 := hV.2.2.1.1
  have hm600 := hV.2.1
  have hi := cp_mk_iff hV.2.2.2.2 hk
  have hla := cp_la_lt hV hF.1 hk
  obtain ⟨t, ht, et⟩ := hF.1 k hk
  have hmk : cp_mkN N ≤ cp_tp N := cp_cnt_le _ _
  have h600 : ¬ (600 : Int32) ≤ cp_tQ N k 0 := by
    rw [et, show (600 : Int32) = nI 600 from rfl, nI_leI (by omega) (by omega)]
    omega
  have hrr : nI (cp_cnt (cp_rq N) k) + cp_tQ N k 1 = nI (cp_cnt (cp_rq N) (k + 1)) := cp_acc (by
    unfold cp_rq
    rcases (hV.2.2.2.2.2 k hk).1 with e | e <;> rw [e]
    · exact Or.inr ⟨by decide, rfl⟩
    · exact Or.inl ⟨by decide, rfl⟩)
  have hmd : cp_madeN N k = 1 := by
    show cp_bi (decide _) = 1
    rw [decide_eq_true (hi.mpr hm)]
    rfl
  have hnow : ¬ nI (cp_tm N) ≤ cp_tQ N k 0 := by
    have := hi.mpr hm
    rw [Int32.le_iff_toInt_le, nI_toInt (by omega)]
    omega
  refine cp_iload O dL_isWell_618 cp_lg7 ?_
  refine cp_if_eq (tgt := 737) O dL_isWell_620 (by decide) (fun c => absurd c (by decide)) (fun _ => ?_)
  refine cp_iload O dL_isWell_623 cp_lg11 ?_
  refine cp_iload O dL_isWell_625 cp_lg8 ?_
  refine cp_icmp_le (tgt := 737) O dL_isWell_627 (by decide) (fun c => absurd c (hla)) (fun _ => ?_)
  refine cp_iload O dL_isWell_630 cp_lg11 ?_
  refine cp_sipush O dL_isWell_632 (v := 600) rfl ?_
  refine cp_icmp_ge (tgt := 737) O dL_isWell_635 (by decide) (fun c => absurd c (h600)) (fun _ => ?_)
  refine cp_aload_n O dL_isWell_638 cp_lg0 ?_
  refine cp_iload O dL_isWell_639 cp_lg10 ?_
  refine cp_iconst O dL_isWell_641 (v := 1) rfl ?_
  refine cp_cVi O me_X6_ofPlate mi_X6_ofPlate ml_L_38 cp_cX6 hW.s (tw_ofPlateE hW ((cp_f_ofQ h8 hk).2.1.trans hmd)) dL_isWell_642 rfl rfl ⟨Nat.le_of_ble_eq_true rfl, Nat.le_of_ble_eq_true rfl⟩ ⟨Nat.le_refl _, Nat.le_refl _⟩ (Nat.le_of_ble_eq_true rfl) ?_
  refine cp_iconst O dL_isWell_645 (v := 1) rfl ?_
  refine cp_icmp_ne (tgt := 653) O dL_isWell_646 (by decide) (fun c => absurd c (by decide)) (fun _ => ?_)
  refine cp_iconst O dL_isWell_649 (v := 1) rfl ?_
  refine cp_goto (tgt := 654) O dL_isWell_650 (by decide) ?_
  refine cp_iload O dL_isWell_654 cp_lg11 ?_
  refine cp_aload_n O dL_isWell_656 cp_lg0 ?_
  refine cp_iconst O dL_isWell_657 (v := 0) rfl ?_
  refine cp_cVi O me_X6_count mi_X6_count ml_L_9 cp_cX6 hW.s (tw_cnt hW (r := nI (cp_tm N)) (by decide) (by decide) rfl) dL_isWell_658 rfl rfl ⟨Nat.le_of_ble_eq_true rfl, Nat.le_of_ble_eq_true rfl⟩ ⟨Nat.le_refl _, Nat.le_refl _⟩ (Nat.le_of_ble_eq_true rfl) ?_
  refine cp_icmp_ge (tgt := 668) O dL_isWell_661 (by decide) (fun c => absurd c (hnow)) (fun _ => ?_)
  refine cp_iconst O dL_isWell_664 (v := 1) rfl ?_
  refine cp_goto (tgt := 669) O dL_isWell_665 (by decide) ?_
  refine cp_icmp_ne (tgt := 737) O dL_isWell_669 (by decide) (fun c => absurd c (by decide)) (fun _ => ?_)
  refine cp_aload_n O dL_isWell_672 cp_lg0 ?_
  refine cp_iload O dL_isWell_673 cp_lg10 ?_
  refine cp_iconst O dL_isWell_675 (v := 1) rfl ?_
  refine cp_cVi O me_X6_ofPlate mi_X6_ofPlate ml_L_38 cp_cX6 hW.s (tw_ofPlateE hW ((cp_f_ofQ h8 hk).2.1.trans hmd)) dL_isWell_676 rfl rfl ⟨Nat.le_of_ble_eq_true rfl, Nat.le_of_ble_eq_true rfl⟩ ⟨Nat.le_refl _, Nat.le_refl _⟩ (Nat.le_of_ble_eq_true rfl) ?_
  refine cp_iconst O dL_isWell_679 (v := 1) rfl ?_
  refine cp_icmp_ne (tgt := 687) O dL_isWell_680 (by decide) (fun c => absurd c (by decide)) (fun _ => ?_)
  refine cp_iconst O dL_isWell_683 (v := 1) rfl ?_
  refine cp_goto (tgt := 688) O dL_isWell_684 (by decide) ?_
  refine cp_iload O dL_isWell_688 cp_lg10 ?_
  refine cp_aload_n O dL_isWell_690 cp_lg0 ?_
  refine cp_iconst O dL_isWell_691 (v := 3) rfl ?_
  refine cp_cVi O me_X6_count mi_X6_count ml_L_9 cp_cX6 hW.s (tw_cnt hW (r := nI (cp_mkN N)) (by decide) (by decide) rfl) dL_isWell_692 rfl rfl ⟨Nat.le_of_ble_eq_true rfl, Nat.le_of_ble_eq_true rfl⟩ ⟨Nat.le_refl _, Nat.le_refl _⟩ (Nat.le_of_ble_eq_true rfl) ?_
  refine cp_icmp_geN (tgt := 702) O dL_isWell_695 (by decide) (a := k) (b := (cp_mkN N)) rfl rfl (by omega) (by omega) (fun c => absurd c (by omega)) (fun _ => ?_)
  refine cp_iconst O dL_isWell_698 (v := 1) rfl ?_
  refine cp_goto (tgt := 703) O dL_isWell_699 (by decide) ?_
  refine cp_icmp_ne (tgt := 737) O dL_isWell_703 (by decide) (fun c => absurd c (by decide)) (fun _ => ?_)
  refine cp_iload O dL_isWell_706 cp_lg13 ?_
  refine cp_aload_n O dL_isWell_708 cp_lg0 ?_
  refine cp_iload O dL_isWell_709 cp_lg10 ?_
  refine cp_iconst O dL_isWell_711 (v := 4) rfl ?_
  refine cp_cVi O me_X6_ofPlate mi_X6_ofPlate ml_L_38 cp_cX6 hW.s (tw_ofPlateE hW (cp_f_ofQ h8 hk).2.2.2.2) dL_isWell_712 rfl rfl ⟨Nat.le_of_ble_eq_true rfl, Nat.le_of_ble_eq_true rfl⟩ ⟨Nat.le_refl _, Nat.le_refl _⟩ (Nat.le_of_ble_eq_true rfl) ?_
  refine cp_icmp_ne (tgt := 737) O dL_isWell_715 (by decide) (fun c => absurd c (fun z => z rfl)) (fun _ => ?_)
  refine cp_iload O dL_isWell_718 cp_lg10 ?_
  refine cp_aload_n O dL_isWell_720 cp_lg0 ?_
  refine cp_iconst O dL_isWell_721 (v := 3) rfl ?_
  refine cp_cVi O me_X6_count mi_X6_count ml_L_9 cp_cX6 hW.s (tw_cnt hW (r := nI (cp_mkN N)) (by decide) (by decide) rfl) dL_isWell_722 rfl rfl ⟨Nat.le_of_ble_eq_true rfl, Nat.le_of_ble_eq_true rfl⟩ ⟨Nat.le_refl _, Nat.le_refl _⟩ (Nat.le_of_ble_eq_true rfl) ?_
  refine cp_icmp_ltN (tgt := 733) O dL_isWell_725 (by decide) (a := k) (b := (cp_mkN N)) rfl rfl (by omega) (by omega) (fun _ => ?_) (fun c => absurd c (by omega))
  refine cp_iconst O dL_isWell_733 (v := 1) rfl ?_
  refine cp_goto (tgt := 738) O dL_isWell_734 (by decide) ?_
  refine cp_istore O dL_isWell_738 (by decide) (cp_ls7 rfl) ?_
  refine cp_iload O dL_isWell_740 cp_lg9 ?_
  refine cp_aload_n O dL_isWell_742 cp_lg0 ?_
  refine cp_iload O dL_isWell_743 cp_lg10 ?_
  refine cp_iconst O dL_isWell_745 (v := 2) rfl ?_
  refine cp_cVi O me_X6_ofPlate mi_X6_ofPlate ml_L_38 cp_cX6 hW.s (tw_ofPlateE hW (cp_f_ofQ h8 hk).2.2.1) dL_isWell_746 rfl rfl ⟨Nat.le_of_ble_eq_true rfl, Nat.le_of_ble_eq_true rfl⟩ ⟨Nat.le_refl _, Nat.le_refl _⟩ (Nat.le_of_ble_eq_true rfl) ?_
  refine cp_iadd O dL_isWell_749 ?_
  rw [hrr]
  refine cp_istore O dL_isWell_750 (by decide) (cp_ls9 rfl) ?_
  refine cp_iload O dL_isWell_752 cp_lg11 ?_
  refine cp_istore O dL_isWell_754 (by decide) (cp_ls8 rfl) ?_
  rw [cp_la_s N k]
  refine cp_iinc O dL_isWell_756 cp_lg10 (cp_inc rfl) (by decide) (cp_ls10 rfl) ?_
  refine cp_goto (tgt := 505) O dL_isWell_759 (by decide) ?_
  exact cp_Gw (cp_lws (cp_lws (cp_lws (cp_lws (cp_lws (cp_lws (cp_lws (cp_lws (cp_lws (cp_lws (cp_lws (cp_lwn (cp_lwn (cp_lwn (cp_lws cp_lw0))))))))))))))) K
set_option maxHeartbeats 4000000 in
set_option maxRecDepth 100000 in
theorem ww_618_0 {x : cp_Cx} {E : cp_En} {cnt : Nat} {sh : cp_Shp} {R : cp_Rem} {I : cp_Mem} {co cq a1 a2 : Nat} {N : cp_Nt} (O : cp_Ok x E RL cL_isWell 15 5 2 12) (hA : cp_ar sh co cq a1 a2) (hW : cp_TW sh R I co cq N N) (hF : cp_WF N) {k : Nat} (hk : k < cp_tp N) (hm : ¬ k < cp_mkN N) (K : cp_G x E 15 2 12 cnt sh I R 505 [some (.ref co), some (.int (nI (cp_tn N))), some (.ref a1), some (.ref a2), some (.int (nI (cp_cnt (cp_hq N) (cp_tn N)))), some (.int (nI (cp_cnt (cp_kq N) (cp_tn N)))), some (.int (cp_st (cp_fr (cp_tP N)) (cp_tn N))), some (.int 1), some (.int (cp_la N (k + 1))), some (.int (nI (cp_cnt (cp_rq N) (k + 1)))), some (.int (nI (k + 1))), none, none, none, none] []) : cp_G x E 15 2 12 cnt sh I R 618 [some (.ref co), some (.int (nI (cp_tn N))), some (.ref a1), some (.ref a2), some (.int (nI (cp_cnt (cp_hq N) (cp_tn N)))), some (.int (nI (cp_cnt (cp_kq N) (cp_tn N)))), some (.int (cp_st (cp_fr (cp_tP N)) (cp_tn N))), some (.int 1), some (.int (cp_la N k)), some (.int (nI (cp_cnt (cp_rq N) k))), some (.int (nI k)), some (.int (cp_tQ N k 0)), some (.int (cp_tQ N k 2)), some (.int (cp_lin (cp_tP N) (cp_tQ N k 2) (cp_tn N))), none] [] := by
  obtain ⟨hV, h8⟩ := hW.V
  have hn24 := hV.2.2.1.1
  have hm600 := hV.2.1
  have hi := cp_mk_iff hV.2.2.2.2 hk
  have hla := cp_la_lt hV hF.1 hk
  obtain ⟨t, ht, et⟩ := hF.1 k hk
  have hmk : cp_mkN N ≤ cp_tp N := cp_cnt_le _ _
  have h600 : ¬ (600 : Int32) ≤ cp_tQ N k 0 := by
    rw [et, show (600 : Int32) = nI 600 from rfl, nI_leI (by omega) (by omega)]
    omega
  have hrr : nI (cp_cnt (cp_rq N) k) + cp_tQ N k 1 = nI (cp_cnt (cp_rq N) (k + 1)) := cp_acc (by
    unfold cp_rq
    rcases (hV.2.2.2.2.2 k hk).1 with e | e <;> rw [e]
    · exact Or.inr ⟨by decide, rfl⟩
    · exact Or.inl ⟨by decide, rfl⟩)
  have hmd : cp_madeN N k = 0 := by
    show cp_bi (decide _) = 0
    rw [decide_eq_false (fun z => hm (hi.mp z))]
    rfl
  have hnow : nI (cp_tm N) ≤ cp_tQ N k 0 := by
    have := fun z => hm (hi.mp z)
    rw [Int32.le_iff_toInt_le, nI_toInt (by omega)]
    omega
  have hset : cp_tQ N k 2 = 0 := (hV.2.2.2.2.2 k hk).2 (fun z => hm (hi.mp z))
  refine cp_iload O dL_isWell_618 cp_lg7 ?_
  refine cp_if_eq (tgt := 737) O dL_isWell_620 (by decide) (fun c => absurd c (by decide)) (fun _ => ?_)
  refine cp_iload O dL_isWell_623 cp_lg11 ?_
  refine cp_iload O dL_isWell_625 cp_lg8 ?_
  refine cp_icmp_le (tgt := 737) O dL_isWell_627 (by decide) (fun c => absurd c (hla)) (fun _ => ?_)
  refine cp_iload O dL_isWell_630 cp_lg11 ?_
  refine cp_sipush O dL_isWell_632 (v := 600) rfl ?_
  refine cp_icmp_ge (tgt := 737) O dL_isWell_635 (by decide) (fun c => absurd c (h600)) (fun _ => ?_)
  refine cp_aload_n O dL_isWell_638 cp_lg0 ?_
  refine cp_iload O dL_isWell_639 cp_lg10 ?_
  refine cp_iconst O dL_isWell_641 (v := 1) rfl ?_
  refine cp_cVi O me_X6_ofPlate mi_X6_ofPlate ml_L_38 cp_cX6 hW.s (tw_ofPlateE hW ((cp_f_ofQ h8 hk).2.1.trans hmd)) dL_isWell_642 rfl rfl ⟨Nat.le_of_ble_eq_true rfl, Nat.le_of_ble_eq_true rfl⟩ ⟨Nat.le_refl _, Nat.le_refl _⟩ (Nat.le_of_ble_eq_true rfl) ?_
  refine cp_iconst O dL_isWell_645 (v := 1) rfl ?_
  refine cp_icmp_ne (tgt := 653) O dL_isWell_646 (by decide) (fun _ => ?_) (fun c => absurd c (by decide))
  refine cp_iconst O dL_isWell_653 (v := 0) rfl ?_
  refine cp_iload O dL_isWell_654 cp_lg11 ?_
  refine cp_aload_n O dL_isWell_656 cp_lg0 ?_
  refine cp_iconst O dL_isWell_657 (v := 0) rfl ?_
  refine cp_cVi O me_X6_count mi_X6_count ml_L_9 cp_cX6 hW.s (tw_cnt hW (r := nI (cp_tm N)) (by decide) (by decide) rfl) dL_isWell_658 rfl rfl ⟨Nat.le_of_ble_eq_true rfl, Nat.le_of_ble_eq_true rfl⟩ ⟨Nat.le_refl _, Nat.le_refl _⟩ (Nat.le_of_ble_eq_true rfl) ?_
  refine cp_icmp_ge (tgt := 668) O dL_isWell_661 (by decide) (fun _ => ?_) (fun c => absurd (hnow) c)
  refine cp_iconst O dL_isWell_668 (v := 0) rfl ?_
  refine cp_icmp_ne (tgt := 737) O dL_isWell_669 (by decide) (fun c => absurd c (by decide)) (fun _ => ?_)
  refine cp_aload_n O dL_isWell_672 cp_lg0 ?_
  refine cp_iload O dL_isWell_673 cp_lg10 ?_
  refine cp_iconst O dL_isWell_675 (v := 1) rfl ?_
  refine cp_cVi O me_X6_ofPlate mi_X6_ofPlate ml_L_38 cp_cX6 hW.s (tw_ofPlateE hW ((cp_f_ofQ h8 hk).2.1.trans hmd)) dL_isWell_676 rfl rfl ⟨Nat.le_of_ble_eq_true rfl, Nat.le_of_ble_eq_true rfl⟩ ⟨Nat.le_refl _, Nat.le_refl _⟩ (Nat.le_of_ble_eq_true rfl) ?_
  refine cp_iconst O dL_isWell_679 (v := 1) rfl ?_
  refine cp_icmp_ne (tgt := 687) O dL_isWell_680 (by decide) (fun _ => ?_) (fun c => absurd c (by decide))
  refine cp_iconst O dL_isWell_687 (v := 0) rfl ?_
  refine cp_iload O dL_isWell_688 cp_lg10 ?_
  refine cp_aload_n O dL_isWell_690 cp_lg0 ?_
  refine cp_iconst O dL_isWell_691 (v := 3) rfl ?_
  refine cp_cVi O me_X6_count mi_X6_count ml_L_9 cp_cX6 hW.s (tw_cnt hW (r := nI (cp_mkN N)) (by decide) (by decide) rfl) dL_isWell_692 rfl rfl ⟨Nat.le_of_ble_eq_true rfl, Nat.le_of_ble_eq_true rfl⟩ ⟨Nat.le_refl _, Nat.le_refl _⟩ (Nat.le_of_ble_eq_true rfl) ?_
  refine cp_icmp_geN (tgt := 702) O dL_isWell_695 (by decide) (a := k) (b := (cp_mkN N)) rfl rfl (by omega) (by omega) (fun _ => ?_) (fun c => absurd c (by omega))
  refine cp_iconst O dL_isWell_702 (v := 0) rfl ?_
  refine cp_icmp_ne (tgt := 737) O dL_isWell_703 (by decide) (fun c => absurd c (by decide)) (fun _ => ?_)
  refine cp_iload O dL_isWell_706 cp_lg13 ?_
  refine cp_aload_n O dL_isWell_708 cp_lg0 ?_
  refine cp_iload O dL_isWell_709 cp_lg10 ?_
  refine cp_iconst O dL_isWell_711 (v := 4) rfl ?_
  refine cp_cVi O me_X6_ofPlate mi_X6_ofPlate ml_L_38 cp_cX6 hW.s (tw_ofPlateE hW (cp_f_ofQ h8 hk).2.2.2.2) dL_isWell_712 rfl rfl ⟨Nat.le_of_ble_eq_true rfl, Nat.le_of_ble_eq_true rfl⟩ ⟨Nat.le_refl _, Nat.le_refl _⟩ (Nat.le_of_ble_eq_true rfl) ?_
  refine cp_icmp_ne (tgt := 737) O dL_isWell_715 (by decide) (fun c => absurd c (fun z => z rfl)) (fun _ => ?_)
  refine cp_iload O dL_isWell_718 cp_lg10 ?_
  refine cp_aload_n O dL_isWell_720 cp_lg0 ?_
  refine cp_iconst O dL_isWell_721 (v := 3) rfl ?_
  refine cp_cVi O me_X6_count mi_X6_count ml_L_9 cp_cX6 hW.s (tw_cnt hW (r := nI (cp_mkN N)) (by decide) (by decide) rfl) dL_isWell_722 rfl rfl ⟨Nat.le_of_ble_eq_true rfl, Nat.le_of_ble_eq_true rfl⟩ ⟨Nat.le_refl _, Nat.le_refl _⟩ (Nat.le_of_ble_eq_true rfl) ?_
  refine cp_icmp_ltN (tgt := 733) O dL_isWell_725 (by decide) (a := k) (b := (cp_mkN N)) rfl rfl (by omega) (by omega) (fun c => absurd c (by omega)) (fun _ => ?_)
  refine cp_iload O dL_isWell_728 cp_lg12 ?_
  refine cp_if_ne (tgt := 737) O dL_isWell_730 (by decide) (fun c => absurd c (fun z => z hset)) (fun _ => ?_)
  refine cp_iconst O dL_isWell_733 (v := 1) rfl ?_
  refine cp_goto (tgt := 738) O dL_isWell_734 (by decide) ?_
  refine cp_istore O dL_isWell_738 (by decide) (cp_ls7 rfl) ?_
  refine cp_iload O dL_isWell_740 cp_lg9 ?_
  refine cp_aload_n O dL_isWell_742 cp_lg0 ?_
  refine cp_iload O dL_isWell_743 cp_lg10 ?_
  refine cp_iconst O dL_isWell_745 (v := 2) rfl ?_
  refine cp_cVi O me_X6_ofPlate mi_X6_ofPlate ml_L_38 cp_cX6 hW.s (tw_ofPlateE hW (cp_f_ofQ h8 hk).2.2.1) dL_isWell_746 rfl rfl ⟨Nat.le_of_ble_eq_true rfl, Nat.le_of_ble_eq_true rfl⟩ ⟨Nat.le_refl _, Nat.le_refl _⟩ (Nat.le_of_ble_eq_true rfl) ?_
  refine cp_iadd O dL_isWell_749 ?_
  rw [hrr]
  refine cp_istore O dL_isWell_750 (by decide) (cp_ls9 rfl) ?_
  refine cp_iload O dL_isWell_752 cp_lg11 ?_
  refine cp_istore O dL_isWell_754 (by decide) (cp_ls8 rfl) ?_
  rw [cp_la_s N k]
  refine cp_iinc O dL_isWell_756 cp_lg10 (cp_inc rfl) (by decide) (cp_ls10 rfl) ?_
  refine cp_goto (tgt := 505) O dL_isWell_759 (by decide) ?_
  exact cp_Gw (cp_lws (cp_lws (cp_lws (cp_lws (cp_lws (cp_lws (cp_lws (cp_lws (cp_lws (cp_lws (cp_lws (cp_lwn (cp_lwn (cp_lwn (cp_lws cp_lw0))))))))))))))) K
set_option maxHeartbeats 4000000 in
set_option maxRecDepth 100000 in
theorem ww_544 {x : cp_Cx} {E : cp_En} {cnt : Nat} {sh : cp_Shp} {R : cp_Rem} {I : cp_Mem} {co cq a1 a2 : Nat} {N : cp_Nt} (O : cp_Ok x E RL cL_isWell 15 5 2 12) (hA : cp_ar sh co cq a1 a2) (hW : cp_TW sh R I co cq N N) (hF : cp_WF N) {k : Nat} (hk : k < cp_tp N) (K : cp_G x E 15 2 12 cnt sh I R 505 [some (.ref co), some (.int (nI (cp_tn N))), some (.ref a1), some (.ref a2), some (.int (nI (cp_cnt (cp_hq N) (cp_tn N)))), some (.int (nI (cp_cnt (cp_kq N) (cp_tn N)))), some (.int (cp_st (cp_fr (cp_tP N)) (cp_tn N))), some (.int 1), some (.int (cp_la N (k + 1))), some (.int (nI (cp_cnt (cp_rq N) (k + 1)))), some (.int (nI (k + 1))), none, none, none, none] []) : ∀ j, j ≤ cp_tn N → cp_G x E 15 2 12 cnt sh I R 544 [some (.ref co), some (.int (nI (cp_tn N))), some (.ref a1), some (.ref a2), some (.int (nI (cp_cnt (cp_hq N) (cp_tn N)))), some (.int (nI (cp_cnt (cp_kq N) (cp_tn N)))), some (.int (cp_st (cp_fr (cp_tP N)) (cp_tn N))), some (.int 1), some (.int (cp_la N k)), some (.int (nI (cp_cnt (cp_rq N) k))), some (.int (nI k)), some (.int (cp_tQ N k 0)), some (.int (cp_tQ N k 2)), some (.int (cp_lin (cp_tP N) (cp_tQ N k 2) j)), some (.int (nI j))] [] := by
  obtain ⟨hV, h8⟩ := hW.V
  have hn24 := hV.2.2.1.1
  have hm600 := hV.2.1
  refine cp_up (n := cp_tn N) (P := fun j => cp_G x E 15 2 12 cnt sh I R 544 [some (.ref co), some (.int (nI (cp_tn N))), some (.ref a1), some (.ref a2), some (.int (nI (cp_cnt (cp_hq N) (cp_tn N)))), some (.int (nI (cp_cnt (cp_kq N) (cp_tn N)))), some (.int (cp_st (cp_fr (cp_tP N)) (cp_tn N))), some (.int 1), some (.int (cp_la N k)), some (.int (nI (cp_cnt (cp_rq N) k))), some (.int (nI k)), some (.int (cp_tQ N k 0)), some (.int (cp_tQ N k 2)), some (.int (cp_lin (cp_tP N) (cp_tQ N k 2) j)), some (.int (nI j))] []) (fun j hj ih => ?_)
  refine cp_iload O dL_isWell_544 cp_lg14 ?_
  refine cp_iload_n O dL_isWell_546 cp_lg1 ?_
  refine cp_icmp_geN (tgt := 618) O dL_isWell_547 (by decide) (a := j) (b := cp_tn N) rfl rfl (by omega) (by omega) (fun c_547 => ?_) (fun c_547 => ?_)
  · have ek : j = cp_tn N := by omega
    rw [ek]
    exact cp_Gw (cp_lws (cp_lws (cp_lws (cp_lws (cp_lws (cp_lws (cp_lws (cp_lws (cp_lws (cp_lws (cp_lws (cp_lws (cp_lws (cp_lws (cp_lwn cp_lw0))))))))))))))) (by
      by_cases hm : k < cp_mkN N
      · exact ww_618_1 O hA hW hF hk hm K
      · exact ww_618_0 O hA hW hF hk hm K)
  · refine cp_iload O dL_isWell_550 cp_lg13 ?_
    refine cp_iload O dL_isWell_552 cp_lg12 ?_
    refine cp_iload O dL_isWell_554 cp_lg14 ?_
    refine cp_ishr O dL_isWell_556 ?_
    refine cp_iconst O dL_isWell_557 (v := 1) rfl ?_
    refine cp_iand O dL_isWell_558 ?_
    refine cp_iconst O dL_isWell_559 (v := 1) rfl ?_
    refine cp_icmp_ne (tgt := 573) O dL_isWell_560 (by decide) (fun c_560 => ?_) (fun c_560 => ?_)
    · have c_560 : ¬ cp_bit (cp_tQ N k 2) j = 1 := c_560
      refine cp_iconst O dL_isWell_573 (v := 0) rfl ?_
      refine cp_iadd O dL_isWell_574 ?_
      rw [show cp_lin (cp_tP N) (cp_tQ N k 2) j + 0 = cp_lin (cp_tP N) (cp_tQ N k 2) (j + 1) from (Int32.add_zero _).trans (cp_lin_f (decide_eq_false c_560))]
      refine cp_istore O dL_isWell_575 (by decide) (cp_ls13 rfl) ?_
      refine cp_iload O dL_isWell_577 cp_lg7 ?_
      refine cp_if_eq (tgt := 609) O dL_isWell_579 (by decide) (fun c => absurd c (by decide)) (fun _ => ?_)
      refine cp_iload O dL_isWell_582 cp_lg12 ?_
      refine cp_iload O dL_isWell_584 cp_lg14 ?_
      refine cp_ishr O dL_isWell_586 ?_
      refine cp_iconst O dL_isWell_587 (v := 1) rfl ?_
      refine cp_iand O dL_isWell_588 ?_
      refine cp_aload_n O dL_isWell_589 cp_lg0 ?_
      refine cp_iload O dL_isWell_590 cp_lg14 ?_
      refine cp_bipush O dL_isWell_592 (v := 10) rfl ?_
      refine cp_cVi O me_X6_ofPiece mi_X6_ofPiece ml_L_28 cp_cX6 hW.s (tw_ofPieceE hW (cp_f_ofP10 hn24 c_547)) dL_isWell_594 rfl rfl ⟨Nat.le_of_ble_eq_true rfl, Nat.le_of_ble_eq_true rfl⟩ ⟨Nat.le_refl _, Nat.le_refl _⟩ (Nat.le_of_ble_eq_true rfl) ?_
      refine cp_iload O dL_isWell_597 cp_lg10 ?_
      refine cp_ishr O dL_isWell_599 ?_
      refine cp_iconst O dL_isWell_600 (v := 1) rfl ?_
      refine cp_iand O dL_isWell_601 ?_
      refine cp_icmp_ne (tgt := 609) O dL_isWell_602 (by decide) (fun c => absurd c (fun z => z (cp_f_both (by omega) hk h8))) (fun _ => ?_)
      refine cp_iconst O dL_isWell_605 (v := 1) rfl ?_
      refine cp_goto (tgt := 610) O dL_isWell_606 (by decide) ?_
      refine cp_istore O dL_isWell_610 (by decide) (cp_ls7 rfl) ?_
      refine cp_iinc O dL_isWell_612 cp_lg14 (cp_inc rfl) (by decide) (cp_ls14 rfl) ?_
      refine cp_goto (tgt := 544) O dL_isWell_615 (by decide) ?_
      exact ih c_547
    · have c_560 : cp_bit (cp_tQ N k 2) j = 1 := c_560
      refine cp_aload_n O dL_isWell_563 cp_lg0 ?_
      refine cp_iload O dL_isWell_564 cp_lg14 ?_
      refine cp_iconst O dL_isWell_566 (v := 1) rfl ?_
      refine cp_cVi O me_X6_ofPiece mi_X6_ofPiece ml_L_28 cp_cX6 hW.s (tw_ofPieceE hW (cp_f_ofP (f := 1) hn24 c_547 (by decide))) dL_isWell_567 rfl rfl ⟨Nat.le_of_ble_eq_true rfl, Nat.le_of_ble_eq_true rfl⟩ ⟨Nat.le_refl _, Nat.le_refl _⟩ (Nat.le_of_ble_eq_true rfl) ?_
      refine cp_goto (tgt := 574) O dL_isWell_570 (by decide) ?_
      refine cp_iadd O dL_isWell_574 ?_
      rw [show cp_lin (cp_tP N) (cp_tQ N k 2) j + cp_tP N j 1 = cp_lin (cp_tP N) (cp_tQ N k 2) (j + 1) from cp_lin_t (decide_eq_true c_560)]
      refine cp_istore O dL_isWell_575 (by decide) (cp_ls13 rfl) ?_
      refine cp_iload O dL_isWell_577 cp_lg7 ?_
      refine cp_if_eq (tgt := 609) O dL_isWell_579 (by decide) (fun c => absurd c (by decide)) (fun _ => ?_)
      refine cp_iload O dL_isWell_582 cp_lg12 ?_
      refine cp_iload O dL_isWell_584 cp_lg14 ?_
      refine cp_ishr O dL_isWell_586 ?_
      refine cp_iconst O dL_isWell_587 (v := 1) rfl ?_
      refine cp_iand O dL_isWell_588 ?_
      refine cp_aload_n O dL_isWell_589 cp_lg0 ?_
      refine cp_iload O dL_isWell_590 cp_lg14 ?_
      refine cp_bipush O dL_isWell_592 (v := 10) rfl ?_
      refine cp_cVi O me_X6_ofPiece mi_X6_ofPiece ml_L_28 cp_cX6 hW.s (tw_ofPieceE hW (cp_f_ofP10 hn24 c_547)) dL_isWell_594 rfl rfl ⟨Nat.le_of_ble_eq_true rfl, Nat.le_of_ble_eq_true rfl⟩ ⟨Nat.le_refl _, Nat.le_refl _⟩ (Nat.le_of_ble_eq_true rfl) ?_
      refine cp_iload O dL_isWell_597 cp_lg10 ?_
      refine cp_ishr O dL_isWell_599 ?_
      refine cp_iconst O dL_isWell_600 (v := 1) rfl ?_
      refine cp_iand O dL_isWell_601 ?_
      refine cp_icmp_ne (tgt := 609) O dL_isWell_602 (by decide) (fun c => absurd c (fun z => z (cp_f_both (by omega) hk h8))) (fun _ => ?_)
      refine cp_iconst O dL_isWell_605 (v := 1) rfl ?_
      refine cp_goto (tgt := 610) O dL_isWell_606 (by decide) ?_
      refine cp_istore O dL_isWell_610 (by decide) (cp_ls7 rfl) ?_
      refine cp_iinc O dL_isWell_612 cp_lg14 (cp_inc rfl) (by decide) (cp_ls14 rfl) ?_
      refine cp_goto (tgt := 544) O dL_isWell_615 (by decide) ?_
      exact ih c_547
set_option maxHeartbeats 4000000 in
set_option maxRecDepth 100000 in
theorem ww_505 {x : cp_Cx} {E : cp_En} {cnt : Nat} {sh : cp_Shp} {R : cp_Rem} {I : cp_Mem} {co cq a1 a2 : Nat} {N : cp_Nt} (O : cp_Ok x E RL cL_isWell 15 5 2 12) (hA : cp_ar sh co cq a1 a2) (hW : cp_TW sh R I co cq N N) (hF : cp_WF N) (hr : ∀ (I1 : cp_Mem) (pc : Nat) (L : List (Option Value)), decode cL_isWell pc = .ok (.ireturn, 1) → cp_TW sh R I1 co cq N N → cp_G x E 15 2 12 cnt sh I1 R pc L [.int 1]) : ∀ k, k ≤ cp_tp N → cp_G x E 15 2 12 cnt sh I R 505 [some (.ref co), some (.int (nI (cp_tn N))), some (.ref a1), some (.ref a2), some (.int (nI (cp_cnt (cp_hq N) (cp_tn N)))), some (.int (nI (cp_cnt (cp_kq N) (cp_tn N)))), some (.int (cp_st (cp_fr (cp_tP N)) (cp_tn N))), some (.int 1), some (.int (cp_la N k)), some (.int (nI (cp_cnt (cp_rq N) k))), some (.int (nI k)), none, none, none, none] [] := by
  obtain ⟨hV, h8⟩ := hW.V
  have hn24 := hV.2.2.1.1
  have hm600 := hV.2.1
  refine cp_up (n := cp_tp N) (P := fun k => cp_G x E 15 2 12 cnt sh I R 505 [some (.ref co), some (.int (nI (cp_tn N))), some (.ref a1), some (.ref a2), some (.int (nI (cp_cnt (cp_hq N) (cp_tn N)))), some (.int (nI (cp_cnt (cp_kq N) (cp_tn N)))), some (.int (cp_st (cp_fr (cp_tP N)) (cp_tn N))), some (.int 1), some (.int (cp_la N k)), some (.int (nI (cp_cnt (cp_rq N) k))), some (.int (nI k)), none, none, none, none] []) (fun k hk ih => ?_)
  refine cp_iload O dL_isWell_505 cp_lg10 ?_
  refine cp_aload_n O dL_isWell_507 cp_lg0 ?_
  refine cp_iconst O dL_isWell_508 (v := 2) rfl ?_
  refine cp_cVi O me_X6_count mi_X6_count ml_L_9 cp_cX6 hW.s (tw_cnt hW (r := nI (cp_tp N)) (by decide) (by decide) rfl) dL_isWell_509 rfl rfl ⟨Nat.le_of_ble_eq_true rfl, Nat.le_of_ble_eq_true rfl⟩ ⟨Nat.le_refl _, Nat.le_refl _⟩ (Nat.le_of_ble_eq_true rfl) ?_
  refine cp_icmp_geN (tgt := 762) O dL_isWell_512 (by decide) (a := k) (b := (cp_tp N)) rfl rfl (by omega) (by omega) (fun c_512 => ?_) (fun c_512 => ?_)
  · have ek : k = cp_tp N := by omega
    rw [ek]
    exact cp_Gw (cp_lws (cp_lws (cp_lws (cp_lws (cp_lws (cp_lws (cp_lws (cp_lws (cp_lwn (cp_lws (cp_lwn (cp_lws (cp_lws (cp_lws (cp_lws cp_lw0))))))))))))))) (ww_762 O hA hW hF hr)
  · have hkt := c_512
    refine cp_iload O dL_isWell_515 cp_lg7 ?_
    refine cp_if_eq (tgt := 762) O dL_isWell_517 (by decide) (fun c => absurd c (by decide)) (fun _ => ?_)
    refine cp_aload_n O dL_isWell_520 cp_lg0 ?_
    refine cp_iload O dL_isWell_521 cp_lg10 ?_
    refine cp_iconst O dL_isWell_523 (v := 0) rfl ?_
    refine cp_cVi O me_X6_ofPlate mi_X6_ofPlate ml_L_38 cp_cX6 hW.s (tw_ofPlateE hW (cp_f_ofQ h8 hkt).1) dL_isWell_524 rfl rfl ⟨Nat.le_of_ble_eq_true rfl, Nat.le_of_ble_eq_true rfl⟩ ⟨Nat.le_refl _, Nat.le_refl _⟩ (Nat.le_of_ble_eq_true rfl) ?_
    refine cp_istore O dL_isWell_527 (by decide) (cp_ls11 rfl) ?_
    refine cp_aload_n O dL_isWell_529 cp_lg0 ?_
    refine cp_iload O dL_isWell_530 cp_lg10 ?_
    refine cp_iconst O dL_isWell_532 (v := 3) rfl ?_
    refine cp_cVi O me_X6_ofPlate mi_X6_ofPlate ml_L_38 cp_cX6 hW.s (tw_ofPlateE hW (cp_f_ofQ h8 hkt).2.2.2.1) dL_isWell_533 rfl rfl ⟨Nat.le_of_ble_eq_true rfl, Nat.le_of_ble_eq_true rfl⟩ ⟨Nat.le_refl _, Nat.le_refl _⟩ (Nat.le_of_ble_eq_true rfl) ?_
    refine cp_istore O dL_isWell_536 (by decide) (cp_ls12 rfl) ?_
    refine cp_iconst O dL_isWell_538 (v := 0) rfl ?_
    refine cp_istore O dL_isWell_539 (by decide) (cp_ls13 rfl) ?_
    refine cp_iconst O dL_isWell_541 (v := 0) rfl ?_
    refine cp_istore O dL_isWell_542 (by decide) (cp_ls14 rfl) ?_
    exact ww_544 O hA hW hF hkt (ih hkt) 0 (Nat.zero_le _)
set_option maxHeartbeats 4000000 in
set_option maxRecDepth 100000 in
theorem ww_496 {x : cp_Cx} {E : cp_En} {cnt : Nat} {sh : cp_Shp} {R : cp_Rem} {I : cp_Mem} {co cq a1 a2 : Nat} {N : cp_Nt} (O : cp_Ok x E RL cL_isWell 15 5 2 12) (hA : cp_ar sh co cq a1 a2) (hW : cp_TW sh R I co cq N N) (hF : cp_WF N) (hr : ∀ (I1 : cp_Mem) (pc : Nat) (L : List (Option Value)), decode cL_isWell pc = .ok (.ireturn, 1) → cp_TW sh R I1 co cq N N → cp_G x E 15 2 12 cnt sh I1 R pc L [.int 1]) : cp_G x E 15 2 12 cnt sh I R 496 [some (.ref co), some (.int (nI (cp_tn N))), some (.ref a1), some (.ref a2), some (.int (nI (cp_cnt (cp_hq N) (cp_tn N)))), some (.int (nI (cp_cnt (cp_kq N) (cp_tn N)))), some (.int (cp_st (cp_fr (cp_tP N)) (cp_tn N))), some (.int 1), none, none, none, none, none, none, none] [] := by
  refine cp_iconst O dL_isWell_496 (v := (-1)) rfl ?_
  refine cp_istore O dL_isWell_497 (by decide) (cp_ls8 rfl) ?_
  refine cp_iconst O dL_isWell_499 (v := 0) rfl ?_
  refine cp_istore O dL_isWell_500 (by decide) (cp_ls9 rfl) ?_
  refine cp_iconst O dL_isWell_502 (v := 0) rfl ?_
  refine cp_istore O dL_isWell_503 (by decide) (cp_ls10 rfl) ?_
  exact ww_505 O hA hW hF hr 0 (Nat.zero_le _)
set_option maxHeartbeats 4000000 in
set_option maxRecDepth 100000 in
theorem ww_456 {x : cp_Cx} {E : cp_En} {cnt : Nat} {sh : cp_Shp} {R : cp_Rem} {I : cp_Mem} {co cq a1 a2 : Nat} {N : cp_Nt} (O : cp_Ok x E RL cL_isWell 15 5 2 12) (hA : cp_ar sh co cq a1 a2) (hW : cp_TW sh R I co cq N N) (hF : cp_WF N) (hq : cp_aq I a1 a2 N (cp_tn N)) (hr : ∀ (I1 : cp_Mem) (pc : Nat) (L : List (Option Value)), decode cL_isWell pc = .ok (.ireturn, 1) → cp_TW sh R I1 co cq N N → cp_G x E 15 2 12 cnt sh I1 R pc L [.int 1]) : ∀ q, q ≤ 6 → cp_G x E 15 2 12 cnt sh I R 456 [some (.ref co), some (.int (nI (cp_tn N))), some (.ref a1), some (.ref a2), some (.int (nI (cp_cnt (cp_hq N) (cp_tn N)))), some (.int (nI (cp_cnt (cp_kq N) (cp_tn N)))), some (.int (cp_st (cp_fr (cp_tP N)) (cp_tn N))), some (.int 1), some (.int (nI q)), none, none, none, none, none, none] [] := by
  obtain ⟨hV, h8⟩ := hW.V
  have hn24 := hV.2.2.1.1
  have hm600 := hV.2.1
  refine cp_up (n := 6) (P := fun q => cp_G x E 15 2 12 cnt sh I R 456 [some (.ref co), some (.int (nI (cp_tn N))), some (.ref a1), some (.ref a2), some (.int (nI (cp_cnt (cp_hq N) (cp_tn N)))), some (.int (nI (cp_cnt (cp_kq N) (cp_tn N)))), some (.int (cp_st (cp_fr (cp_tP N)) (cp_tn N))), some (.int 1), some (.int (nI q)), none, none, none, none, none, none] []) (fun q hqq ih => ?_)
  refine cp_iload O dL_isWell_456 cp_lg8 ?_
  refine cp_bipush O dL_isWell_458 (v := 6) rfl ?_
  refine cp_icmp_geN (tgt := 496) O dL_isWell_460 (by decide) (a := q) (b := 6) rfl rfl (by omega) (by omega) (fun c_460 => ?_) (fun c_460 => ?_)
  · exact cp_Gw (cp_lws (cp_lws (cp_lws (cp_lws (cp_lws (cp_lws (cp_lws (cp_lws (cp_lwn (cp_lws (cp_lws (cp_lws (cp_lws (cp_lws (cp_lws cp_lw0))))))))))))))) (ww_496 O hA hW hF hr)
  · refine cp_iload O dL_isWell_463 cp_lg7 ?_
    refine cp_if_eq (tgt := 487) O dL_isWell_465 (by decide) (fun c => absurd c (by decide)) (fun _ => ?_)
    refine cp_aload_n O dL_isWell_468 cp_lg2 ?_
    refine cp_iload O dL_isWell_469 cp_lg8 ?_
    refine cp_iald O hA.1 (j := q) rfl c_460 (by decide) dL_isWell_471 ?_
    rw [(hq q c_460).1]
    refine cp_iconst O dL_isWell_472 (v := 1) rfl ?_
    refine cp_aload_n O dL_isWell_473 cp_lg3 ?_
    refine cp_iload O dL_isWell_474 cp_lg8 ?_
    refine cp_iald O hA.2.1 (j := q) rfl c_460 (by decide) dL_isWell_476 ?_
    rw [(hq q c_460).2]
    refine cp_ishl O dL_isWell_477 ?_
    refine cp_iconst O dL_isWell_478 (v := 1) rfl ?_
    refine cp_isub O dL_isWell_479 ?_
    refine cp_icmp_ne (tgt := 487) O dL_isWell_480 (by decide) (fun c => absurd c (fun z => z (cp_pls_n (cp_LQ_ok hV.2.2.1 q).1 (cp_LQ_ok hV.2.2.1 q).2.1 (cp_LQ_ok hV.2.2.1 q).2.2))) (fun _ => ?_)
    refine cp_iconst O dL_isWell_483 (v := 1) rfl ?_
    refine cp_goto (tgt := 488) O dL_isWell_484 (by decide) ?_
    refine cp_istore O dL_isWell_488 (by decide) (cp_ls7 rfl) ?_
    refine cp_iinc O dL_isWell_490 cp_lg8 (cp_inc rfl) (by decide) (cp_ls8 rfl) ?_
    refine cp_goto (tgt := 456) O dL_isWell_493 (by decide) ?_
    exact ih c_460
set_option maxHeartbeats 4000000 in
set_option maxRecDepth 100000 in
theorem ww_453 {x : cp_Cx} {E : cp_En} {cnt : Nat} {sh : cp_Shp} {R : cp_Rem} {I : cp_Mem} {co cq a1 a2 : Nat} {N : cp_Nt} (O : cp_Ok x E RL cL_isWell 15 5 2 12) (hA : cp_ar sh co cq a1 a2) (hW : cp_TW sh R I co cq N N) (hF : cp_WF N) (hq : cp_aq I a1 a2 N (cp_tn N)) (hr : ∀ (I1 : cp_Mem) (pc : Nat) (L : List (Option Value)), decode cL_isWell pc = .ok (.ireturn, 1) → cp_TW sh R I1 co cq N N → cp_G x E 15 2 12 cnt sh I1 R pc L [.int 1]) : cp_G x E 15 2 12 cnt sh I R 453 [some (.ref co), some (.int (nI (cp_tn N))), some (.ref a1), some (.ref a2), some (.int (nI (cp_cnt (cp_hq N) (cp_tn N)))), some (.int (nI (cp_cnt (cp_kq N) (cp_tn N)))), some (.int (cp_st (cp_fr (cp_tP N)) (cp_tn N))), some (.int 1), some (.int (nI (cp_tn N))), none, none, none, none, none, none] [] := by
  refine cp_iconst O dL_isWell_453 (v := 0) rfl ?_
  refine cp_istore O dL_isWell_454 (by decide) (cp_ls8 rfl) ?_
  exact ww_456 O hA hW hF hq hr 0 (Nat.zero_le _)
set_option maxHeartbeats 4000000 in
set_option maxRecDepth 100000 in
theorem ww_87 {x : cp_Cx} {E : cp_En} {cnt : Nat} {sh : cp_Shp} {R : cp_Rem} {I : cp_Mem} {co cq a1 a2 : Nat} {N : cp_Nt} (O : cp_Ok x E RL cL_isWell 15 5 2 12) (hA : cp_ar sh co cq a1 a2) (hW : cp_TW sh R I co cq N N) (hF : cp_WF N) (hr : ∀ (I1 : cp_Mem) (pc : Nat) (L : List (Option Value)), decode cL_isWell pc = .ok (.ireturn, 1) → cp_TW sh R I1 co cq N N → cp_G x E 15 2 12 cnt sh I1 R pc L [.int 1]) : ∀ k, k ≤ cp_tn N → ∀ I, cp_TW sh R I co cq N N → cp_aq I a1 a2 N k → cp_G x E 15 2 12 cnt sh I R 87 [some (.ref co), some (.int (nI (cp_tn N))), some (.ref a1), some (.ref a2), some (.int (nI (cp_cnt (cp_hq N) k))), some (.int (nI (cp_cnt (cp_kq N) k))), some (.int (cp_st (cp_fr (cp_tP N)) k)), some (.int 1), some (.int (nI k)), none, none, none, none, none, none] [] := by
  obtain ⟨hV, h8⟩ := hW.V
  have hn24 := hV.2.2.1.1
  have hm600 := hV.2.1
  refine cp_up (n := cp_tn N) (P := fun k => ∀ I, cp_TW sh R I co cq N N → cp_aq I a1 a2 N k → cp_G x E 15 2 12 cnt sh I R 87 [some (.ref co), some (.int (nI (cp_tn N))), some (.ref a1), some (.ref a2), some (.int (nI (cp_cnt (cp_hq N) k))), some (.int (nI (cp_cnt (cp_kq N) k))), some (.int (cp_st (cp_fr (cp_tP N)) k)), some (.int 1), some (.int (nI k)), none, none, none, none, none, none] []) (fun k hk ih I hW hq => ?_)
  refine cp_iload O dL_isWell_87 cp_lg8 ?_
  refine cp_iload_n O dL_isWell_89 cp_lg1 ?_
  refine cp_icmp_geN (tgt := 453) O dL_isWell_90 (by decide) (a := k) (b := cp_tn N) rfl rfl (by omega) (by omega) (fun c_90 => ?_) (fun c_90 => ?_)
  · have ek : k = cp_tn N := by omega
    rw [ek] at hq ⊢
    exact ww_453 O hA hW hF hq hr
  · refine cp_iload O dL_isWell_93 cp_lg7 ?_
    refine cp_if_eq (tgt := 453) O dL_isWell_95 (by decide) (fun c => absurd c (by decide)) (fun _ => ?_)
    exact ww_a O hA hW hF c_90 hq (ih c_90)
set_option maxHeartbeats 4000000 in
set_option maxRecDepth 100000 in
theorem ww_16 {x : cp_Cx} {E : cp_En} {cnt : Nat} {sh : cp_Shp} {R : cp_Rem} {I : cp_Mem} {co cq a1 a2 : Nat} {N : cp_Nt} (O : cp_Ok x E RL cL_isWell 15 5 2 12) (hA : cp_ar sh co cq a1 a2) (hW : cp_TW sh R I co cq N N) (hF : cp_WF N) (h0 : cp_aq I a1 a2 N 0) (hr : ∀ (I1 : cp_Mem) (pc : Nat) (L : List (Option Value)), decode cL_isWell pc = .ok (.ireturn, 1) → cp_TW sh R I1 co cq N N → cp_G x E 15 2 12 cnt sh I1 R pc L [.int 1]) : cp_G x E 15 2 12 cnt sh I R 16 [some (.ref co), some (.int (nI (cp_tn N))), some (.ref a1), some (.ref a2), none, none, none, none, none, none, none, none, none, none, none] [] := by
  obtain ⟨hV, h8⟩ := hW.V
  have hn24 := hV.2.2.1.1
  have hm600 := hV.2.1
  have hmk : cp_mkN N ≤ cp_tp N := cp_cnt_le _ _
  refine cp_iconst O dL_isWell_16 (v := 0) rfl ?_
  refine cp_istore O dL_isWell_17 (by decide) (cp_ls4 rfl) ?_
  refine cp_iconst O dL_isWell_19 (v := 0) rfl ?_
  refine cp_istore O dL_isWell_20 (by decide) (cp_ls5 rfl) ?_
  refine cp_iconst O dL_isWell_22 (v := 0) rfl ?_
  refine cp_istore O dL_isWell_23 (by decide) (cp_ls6 rfl) ?_
  refine cp_aload_n O dL_isWell_25 cp_lg0 ?_
  refine cp_iconst O dL_isWell_26 (v := 4) rfl ?_
  refine cp_cVi O me_X6_count mi_X6_count ml_L_9 cp_cX6 hW.s (tw_cnt hW (r := cp_sCount N 0 0 4) (by decide) (by decide) rfl) dL_isWell_27 rfl rfl ⟨Nat.le_of_ble_eq_true rfl, Nat.le_of_ble_eq_true rfl⟩ ⟨Nat.le_refl _, Nat.le_refl _⟩ (Nat.le_of_ble_eq_true rfl) ?_
  refine cp_aload_n O dL_isWell_30 cp_lg0 ?_
  refine cp_iconst O dL_isWell_31 (v := 5) rfl ?_
  refine cp_cVi O me_X6_count mi_X6_count ml_L_9 cp_cX6 hW.s (tw_cnt hW (r := cp_sCount N 0 0 5) (by decide) (by decide) rfl) dL_isWell_32 rfl rfl ⟨Nat.le_of_ble_eq_true rfl, Nat.le_of_ble_eq_true rfl⟩ ⟨Nat.le_refl _, Nat.le_refl _⟩ (Nat.le_of_ble_eq_true rfl) ?_
  refine cp_iadd O dL_isWell_35 ?_
  refine cp_aload_n O dL_isWell_36 cp_lg0 ?_
  refine cp_bipush O dL_isWell_37 (v := 6) rfl ?_
  refine cp_cVi O me_X6_count mi_X6_count ml_L_9 cp_cX6 hW.s (tw_cnt hW (r := cp_sCount N 0 0 6) (by decide) (by decide) rfl) dL_isWell_39 rfl rfl ⟨Nat.le_of_ble_eq_true rfl, Nat.le_of_ble_eq_true rfl⟩ ⟨Nat.le_refl _, Nat.le_refl _⟩ (Nat.le_of_ble_eq_true rfl) ?_
  refine cp_iadd O dL_isWell_42 ?_
  refine cp_aload_n O dL_isWell_43 cp_lg0 ?_
  refine cp_bipush O dL_isWell_44 (v := 7) rfl ?_
  refine cp_cVi O me_X6_count mi_X6_count ml_L_9 cp_cX6 hW.s (tw_cnt hW (r := cp_sCount N 0 0 7) (by decide) (by decide) rfl) dL_isWell_46 rfl rfl ⟨Nat.le_of_ble_eq_true rfl, Nat.le_of_ble_eq_true rfl⟩ ⟨Nat.le_refl _, Nat.le_refl _⟩ (Nat.le_of_ble_eq_true rfl) ?_
  refine cp_iadd O dL_isWell_49 ?_
  refine cp_iload_n O dL_isWell_50 cp_lg1 ?_
  refine cp_icmp_ne (tgt := 81) O dL_isWell_51 (by decide) (fun c => absurd c (fun z => z (cp_f_sum hV.2.2.1))) (fun _ => ?_)
  refine cp_aload_n O dL_isWell_54 cp_lg0 ?_
  refine cp_iconst O dL_isWell_55 (v := 3) rfl ?_
  refine cp_cVi O me_X6_count mi_X6_count ml_L_9 cp_cX6 hW.s (tw_cnt hW (r := nI (cp_mkN N)) (by decide) (by decide) rfl) dL_isWell_56 rfl rfl ⟨Nat.le_of_ble_eq_true rfl, Nat.le_of_ble_eq_true rfl⟩ ⟨Nat.le_refl _, Nat.le_refl _⟩ (Nat.le_of_ble_eq_true rfl) ?_
  refine cp_aload_n O dL_isWell_59 cp_lg0 ?_
  refine cp_iconst O dL_isWell_60 (v := 2) rfl ?_
  refine cp_cVi O me_X6_count mi_X6_count ml_L_9 cp_cX6 hW.s (tw_cnt hW (r := nI (cp_tp N)) (by decide) (by decide) rfl) dL_isWell_61 rfl rfl ⟨Nat.le_of_ble_eq_true rfl, Nat.le_of_ble_eq_true rfl⟩ ⟨Nat.le_refl _, Nat.le_refl _⟩ (Nat.le_of_ble_eq_true rfl) ?_
  refine cp_icmp_gtN (tgt := 81) O dL_isWell_64 (by decide) (a := (cp_mkN N)) (b := (cp_tp N)) rfl rfl (by omega) (by omega) (fun c => absurd c (by omega)) (fun _ => ?_)
  refine cp_aload_n O dL_isWell_67 cp_lg0 ?_
  refine cp_iconst O dL_isWell_68 (v := 2) rfl ?_
  refine cp_cVi O me_X6_count mi_X6_count ml_L_9 cp_cX6 hW.s (tw_cnt hW (r := nI (cp_tp N)) (by decide) (by decide) rfl) dL_isWell_69 rfl rfl ⟨Nat.le_of_ble_eq_true rfl, Nat.le_of_ble_eq_true rfl⟩ ⟨Nat.le_refl _, Nat.le_refl _⟩ (Nat.le_of_ble_eq_true rfl) ?_
  refine cp_bipush O dL_isWell_72 (v := 8) rfl ?_
  refine cp_icmp_gtN (tgt := 81) O dL_isWell_74 (by decide) (a := (cp_tp N)) (b := 8) rfl rfl (by omega) (by omega) (fun c => absurd c (by omega)) (fun _ => ?_)
  refine cp_iconst O dL_isWell_77 (v := 1) rfl ?_
  refine cp_goto (tgt := 82) O dL_isWell_78 (by decide) ?_
  refine cp_istore O dL_isWell_82 (by decide) (cp_ls7 rfl) ?_
  refine cp_iconst O dL_isWell_84 (v := 0) rfl ?_
  refine cp_istore O dL_isWell_85 (by decide) (cp_ls8 rfl) ?_
  exact ww_87 (I := I) O hA hW hF hr 0 (Nat.zero_le _) I hW h0
set_option maxHeartbeats 4000000 in
set_option maxRecDepth 100000 in
theorem c_L_isWell {lc : Launch} {E : cp_En} {cnt : Nat} {sh : cp_Shp} {R : cp_Rem} {I : cp_Mem} {co cq : Nat} (hS : cp_ST sh R I co cq) (h1 : co + 331 ≤ cp_b0 E + cnt) (h2 : cq + 331 ≤ cp_b0 E + cnt) : cp_Ct lc E yL_isWell cL_isWell 15 (some .boolean) 5 2 12 [.ref co] cnt sh I R (fun v c s i r => v = some (.int 1) ∧ c = cnt + 2 ∧ cp_ST s r i co cq) := by
  obtain ⟨N, hW, hF⟩ := hS
  refine cp_Ct_of (L0 := [some (.ref co), none, none, none, none, none, none, none, none, none, none, none, none, none, none]) (by decide +kernel) (Nat.le_of_ble_eq_true rfl) rfl (fun x hxl O _ hr _ => ?_)
  subst hxl
  have hW1 : cp_TW (cp_sN (cp_sN sh (cp_b0 E + cnt) (9, 6)) (cp_b0 E + (cnt + 1)) (9, 6)) R (cp_row (cp_row I (cp_b0 E + cnt) (fun _ => 0)) (cp_b0 E + (cnt + 1)) (fun _ => 0)) co cq N N := hW.ot (fun x hx => ⟨by rw [cp_sN_n (by omega), cp_sN_n (by omega)], rfl, by rw [cp_row_n _ _ (by omega), cp_row_n _ _ (by omega)]⟩)
  have hW0 : cp_TW sh R (cp_row (cp_row I (cp_b0 E + cnt) (fun _ => 0)) (cp_b0 E + (cnt + 1)) (fun _ => 0)) co cq N N := hW.ot (fun x hx => ⟨rfl, rfl, by rw [cp_row_n _ _ (by omega), cp_row_n _ _ (by omega)]⟩)
  refine cp_Gz (I' := cp_row (cp_row I (cp_b0 E + cnt) (fun _ => 0)) (cp_b0 E + (cnt + 1)) (fun _ => 0)) (R' := R) (fun a ha => ⟨by rw [cp_row_n _ _ (by omega), cp_row_n _ _ (by omega)], rfl⟩) ?_
  refine cp_aload_n O dL_isWell_0 cp_lg0 ?_
  refine cp_iconst O dL_isWell_1 (v := 1) rfl ?_
  refine cp_cVi O me_X6_count mi_X6_count ml_L_9 cp_cX6 hW0.s (tw_cnt hW0 (r := nI (cp_tn N)) (by decide) (by decide) rfl) dL_isWell_2 rfl rfl ⟨Nat.le_of_ble_eq_true rfl, Nat.le_of_ble_eq_true rfl⟩ ⟨Nat.zero_le _, Nat.zero_le _⟩ (Nat.le_of_ble_eq_true rfl) ?_
  refine cp_istore_n O dL_isWell_5 (by decide) (cp_ls1 rfl) ?_
  refine cp_bipush O dL_isWell_6 (v := 6) rfl ?_
  refine cp_newi O (n := 6) cp_ac_9 rfl (by decide) (by rw [cp_row_n _ _ (by omega), cp_row_s]) ⟨by decide, by decide⟩ dL_isWell_8 ?_
  refine cp_astore_n O dL_isWell_10 (by decide) (cp_ls2 rfl) ?_
  refine cp_bipush O dL_isWell_11 (v := 6) rfl ?_
  refine cp_newi O (n := 6) cp_ac_9 rfl (by decide) (by rw [cp_row_s]) ⟨by decide, by decide⟩ dL_isWell_13 ?_
  refine cp_astore_n O dL_isWell_15 (by decide) (cp_ls3 rfl) ?_
  refine ww_16 O (co := co) (cq := cq) ⟨by rw [cp_sN_n (by omega), cp_sN_s], cp_sN_s, by omega, by omega, by omega⟩ hW1 hF (fun q hq => ?_) (fun I1 pc L hd hW2 => ?_)
  · rw [cp_row_n _ _ (show cp_b0 E + cnt ≠ cp_b0 E + (cnt + 1) by omega), cp_row_s, cp_row_s]
    exact ⟨rfl, rfl⟩
  · exact hr .boolean 1 _ _ _ _ _ _ rfl rfl hd ⟨rfl, rfl, N, hW2, hF⟩
