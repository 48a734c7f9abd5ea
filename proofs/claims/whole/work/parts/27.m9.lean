/-- a plate's place by its minute -/
def cp_at (Q : cp_PP) (v : Int32) : Nat → Nat
  | 0 => 0
  | k + 1 => if v < Q k 0 then cp_at Q v k else k + 1
theorem cp_at_le (Q : cp_PP) (v : Int32) : ∀ k, cp_at Q v k ≤ k
  | 0 => Nat.le_refl 0
  | k + 1 => by
    show (if v < Q k 0 then cp_at Q v k else k + 1) ≤ k + 1
    split
    · exact Nat.le_succ_of_le (cp_at_le Q v k)
    · exact Nat.le_refl _
theorem cp_at_hi (Q : cp_PP) (v : Int32) : ∀ k j, cp_at Q v k ≤ j → j < k → v < Q j 0
  | 0, j, _, h => absurd h (by omega)
  | k + 1, j, h1, h2 => by
    have e : cp_at Q v (k + 1) = if v < Q k 0 then cp_at Q v k else k + 1 := rfl
    rw [e] at h1
    split at h1
    · rename_i hlt
      by_cases hj : j = k
      · rw [hj]; exact hlt
      · exact cp_at_hi Q v k j h1 (by omega)
    · omega
theorem cp_at_lo (Q : cp_PP) (v : Int32) : ∀ k, 0 < cp_at Q v k → ¬ v < Q (cp_at Q v k - 1) 0
  | 0, h => absurd h (by show ¬ 0 < 0; omega)
  | k + 1, h => by
    have e : cp_at Q v (k + 1) = if v < Q k 0 then cp_at Q v k else k + 1 := rfl
    rw [e] at h ⊢
    split at h
    · rename_i hlt
      rw [if_pos hlt]
      exact cp_at_lo Q v k h
    · rename_i hlt
      rw [if_neg hlt]
      exact hlt
/-- the plates with one put in at its place -/
def cp_pq (rep v : Int32) : Nat → Int32 := fun f => if f = 0 then v else if f = 1 then rep else 0
def cp_iq (Q : cp_PP) (t : Nat) (v rep : Int32) : cp_PP := fun j => if j < t then Q j else if j = t then cp_pq rep v else Q (j - 1)
theorem cp_iq_lo {Q : cp_PP} {t j : Nat} {v rep : Int32} (h : j < t) : cp_iq Q t v rep j = Q j := by unfold cp_iq; rw [if_pos h]
theorem cp_iq_at {Q : cp_PP} {t : Nat} {v rep : Int32} : cp_iq Q t v rep t = cp_pq rep v := by unfold cp_iq; rw [if_neg (by omega), if_pos rfl]
theorem cp_iq_hi {Q : cp_PP} {t j : Nat} {v rep : Int32} (h : t < j) : cp_iq Q t v rep j = Q (j - 1) := by unfold cp_iq; rw [if_neg (by omega), if_neg (by omega)]
def cp_sTell (N : cp_Nt) (v rep : Int32) : Int32 × cp_Nt := (nI (cp_at (cp_tQ N) v (cp_tp N)), (cp_tS N, cp_tm N, cp_tn N, cp_tP N, cp_tp N + 1, cp_iq (cp_tQ N) (cp_at (cp_tQ N) v (cp_tp N)) v rep, cp_tl N))
/-- the model's shift: plates from t on are a place farther; inside, k of the fields of the next -/
def cp_sf (a : Nat → Int32) (t np k : Nat) : Nat → Int32 := fun x => if 374 + 4 * (t + 1) ≤ x ∧ x < 374 + 4 * (np + 1) then a (x - 4) else if 374 + 4 * t ≤ x ∧ x < 374 + 4 * t + k then a (x - 4) else a x
theorem cp_sf_0 (a : Nat → Int32) (np : Nat) : cp_sf a np np 0 = a := by funext x; unfold cp_sf; rw [if_neg (by omega), if_neg (by omega)]
theorem cp_sf_k (a : Nat → Int32) (t np k : Nat) (hk : k < 4) (ht : 0 < t) (htn : t ≤ np) : upd (cp_sf a t np k) (374 + 4 * t + k) (cp_sf a t np k (374 + 4 * (t - 1) + k)) = cp_sf a t np (k + 1) := by
  funext x
  unfold upd cp_sf
  by_cases h : x = 374 + 4 * t + k
  · rw [if_pos h, if_neg (by omega), if_neg (by omega), if_neg (by omega), if_pos (by omega)]
    congr 1; omega
  · rw [if_neg h]
    by_cases h1 : 374 + 4 * (t + 1) ≤ x ∧ x < 374 + 4 * (np + 1)
    · rw [if_pos h1, if_pos h1]
    · rw [if_neg h1, if_neg h1]
      by_cases h2 : 374 + 4 * t ≤ x ∧ x < 374 + 4 * t + k
      · rw [if_pos h2, if_pos (by omega)]
      · rw [if_neg h2, if_neg (by omega)]
theorem cp_sf_4 (a : Nat → Int32) (t np : Nat) (ht : 0 < t) (htn : t ≤ np) : cp_sf a t np 4 = cp_sf a (t - 1) np 0 := by
  funext x
  unfold cp_sf
  by_cases h1 : 374 + 4 * (t + 1) ≤ x ∧ x < 374 + 4 * (np + 1)
  · rw [if_pos h1, if_pos (by omega)]
  · rw [if_neg h1]
    by_cases h2 : 374 + 4 * t ≤ x ∧ x < 374 + 4 * t + 4
    · rw [if_pos h2, if_pos (by omega)]
    · rw [if_neg h2, if_neg (by omega), if_neg (by omega)]
def cp_tl1 (a : Nat → Int32) (t np : Nat) (v rep : Int32) : Nat → Int32 := upd (upd (upd (upd (upd (cp_sf a t np 0) 6 (nI (np + 1))) (374 + 4 * t + 0) v) (374 + 4 * t + 1) 0) (374 + 4 * t + 2) rep) (374 + 4 * t + 3) 0
theorem cp_tl1_o {a : Nat → Int32} {t np : Nat} {v rep : Int32} {x : Nat} (h : x < 374 + 4 * t ∨ 374 + 4 * (np + 1) ≤ x) (htn : t ≤ np) (h6 : x ≠ 6) : cp_tl1 a t np v rep x = a x := by
  unfold cp_tl1
  rw [cp_upd_n (by omega), cp_upd_n (by omega), cp_upd_n (by omega), cp_upd_n (by omega), cp_upd_n h6]
  unfold cp_sf
  rw [if_neg (by omega), if_neg (by omega)]
theorem cp_tl1_hi {a : Nat → Int32} {t np : Nat} {v rep : Int32} {j q : Nat} (h : t < j) (hj : j ≤ np) (hq : q < 4) : cp_tl1 a t np v rep (374 + 4 * j + q) = a (374 + 4 * (j - 1) + q) := by
  unfold cp_tl1
  rw [cp_upd_n (by omega), cp_upd_n (by omega), cp_upd_n (by omega), cp_upd_n (by omega), cp_upd_n (by omega)]
  unfold cp_sf
  rw [if_pos (by omega)]
  congr 1; omega
theorem cp_cnt_iq {mi : Int} {Q : cp_PP} {v rep : Int32} {t : Nat} (hv : ¬ v.toInt < mi) : ∀ np, t ≤ np → cp_cnt (fun j => decide ((cp_iq Q t v rep j 0).toInt < mi)) (np + 1) = cp_cnt (fun j => decide ((Q j 0).toInt < mi)) np := by
  intro np
  have lo : ∀ k, k ≤ t → cp_cnt (fun j => decide ((cp_iq Q t v rep j 0).toInt < mi)) k = cp_cnt (fun j => decide ((Q j 0).toInt < mi)) k := fun k hk => cp_cnt_eq (fun j hj => by rw [cp_iq_lo (by omega)])
  induction np with
  | zero =>
    intro h
    have h0 : t = 0 := by omega
    subst h0
    show cp_cnt _ 0 + (if decide ((cp_iq Q 0 v rep 0 0).toInt < mi) = true then 1 else 0) = 0
    rw [cp_iq_at, show cp_pq rep v 0 = v from rfl, decide_eq_false hv]
    rfl
  | succ np ih =>
    intro h
    by_cases ht : t = np + 1
    · subst ht
      show cp_cnt _ (np + 1) + (if decide ((cp_iq Q (np + 1) v rep (np + 1) 0).toInt < mi) = true then 1 else 0) = _
      rw [lo _ (Nat.le_refl _), cp_iq_at, show cp_pq rep v 0 = v from rfl, decide_eq_false hv]
      simp
    · show cp_cnt _ (np + 1) + (if decide ((cp_iq Q t v rep (np + 1) 0).toInt < mi) = true then 1 else 0) = cp_cnt _ np + (if decide ((Q np 0).toInt < mi) = true then 1 else 0)
      rw [ih (by omega), cp_iq_hi (by omega)]
      rfl
theorem cp_MA_tell {a : Nat → Int32} {N : cp_Nt} (hA : cp_MA a N) (hV : cp_NV N) {v rep : Int32} (hnp : cp_tp N < 8) (hv : ∃ k, k < 600 ∧ cp_tm N ≤ k ∧ v = nI k) : cp_MA (cp_tl1 a (cp_at (cp_tQ N) v (cp_tp N)) (cp_tp N) v rep) (cp_sTell N v rep).2 := by
  obtain ⟨hAS, hA4, hA5, hAW, hAQ⟩ := hA
  obtain ⟨k, hk6, hkm, rfl⟩ := hv
  have htl := cp_at_le (cp_tQ N) (nI k) (cp_tp N)
  have hnm : ¬ (nI k).toInt < (cp_tm N : Int) := by rw [nI_toInt (by omega)]; omega
  show cp_MA _ (cp_tS N, cp_tm N, cp_tn N, cp_tP N, cp_tp N + 1, cp_iq (cp_tQ N) (cp_at (cp_tQ N) (nI k) (cp_tp N)) (nI k) rep, cp_tl N)
  generalize cp_at (cp_tQ N) (nI k) (cp_tp N) = t at htl ⊢
  refine ⟨fun j hj => ?_, ?_, ?_, cp_MW_eq hAW hV.2.2.1.1 (fun x h1 h2 => cp_tl1_o (by omega) htl (by omega)), ⟨?_, ?_, fun j hj => ?_, ?_⟩⟩
  · rw [cp_tl1_o (by omega) htl (by omega)]; exact hAS j hj
  · rw [cp_tl1_o (by omega) htl (by omega)]; exact hA4
  · rw [cp_tl1_o (by omega) htl (by omega)]; exact hA5
  · exact hnp
  · unfold cp_tl1
    rw [cp_upd_n (by omega), cp_upd_n (by omega), cp_upd_n (by omega), cp_upd_n (by omega), cp_upd_s]
  · have hj2 : j < cp_tp N + 1 := hj
    rcases Nat.lt_trichotomy j t with h | h | h
    · obtain ⟨g1, g2, g3, g4, g5⟩ := hAQ.2.2.1 j (by omega)
      refine ⟨by show ∃ t', t' < 600 ∧ cp_iq (cp_tQ N) t (nI k) rep j 0 = nI t'; rw [cp_iq_lo h]; exact g1, ?_, ?_, ?_, ?_⟩
      · show _ = cp_iq (cp_tQ N) t (nI k) rep j 0
        rw [cp_iq_lo h, cp_tl1_o (by omega) htl (by omega)]; exact g2
      · rw [cp_tl1_o (by omega) htl (by omega)]; show _ = cp_bi (decide ((cp_iq (cp_tQ N) t (nI k) rep j 0).toInt < _)); rw [cp_iq_lo h]; exact g3
      · rw [cp_tl1_o (by omega) htl (by omega)]; show _ = cp_iq (cp_tQ N) t (nI k) rep j 1; rw [cp_iq_lo h]; exact g4
      · rw [cp_tl1_o (by omega) htl (by omega)]; show _ = cp_iq (cp_tQ N) t (nI k) rep j 2; rw [cp_iq_lo h]; exact g5
    · subst h
      refine ⟨⟨k, hk6, by show cp_iq (cp_tQ N) j (nI k) rep j 0 = _; rw [cp_iq_at]; rfl⟩, ?_, ?_, ?_, ?_⟩
      · show _ = cp_iq (cp_tQ N) j (nI k) rep j 0
        rw [cp_iq_at]; unfold cp_tl1; rw [cp_upd_n (by omega), cp_upd_n (by omega), cp_upd_n (by omega)]; exact cp_upd_s
      · show _ = cp_bi (decide ((cp_iq (cp_tQ N) j (nI k) rep j 0).toInt < (cp_tm N : Int)))
        rw [cp_iq_at, show cp_pq rep (nI k) 0 = nI k from rfl, decide_eq_false hnm]; unfold cp_tl1; rw [cp_upd_n (by omega), cp_upd_n (by omega), cp_upd_s]; rfl
      · show _ = cp_iq (cp_tQ N) j (nI k) rep j 1
        rw [cp_iq_at]; unfold cp_tl1; rw [cp_upd_n (by omega), cp_upd_s]; rfl
      · show _ = cp_iq (cp_tQ N) j (nI k) rep j 2
        rw [cp_iq_at]; unfold cp_tl1; rw [cp_upd_s]; rfl
    · obtain ⟨g1, g2, g3, g4, g5⟩ := hAQ.2.2.1 (j - 1) (by omega)
      refine ⟨by show ∃ t', t' < 600 ∧ cp_iq (cp_tQ N) t (nI k) rep j 0 = nI t'; rw [cp_iq_hi h]; exact g1, ?_, ?_, ?_, ?_⟩
      · show _ = cp_iq (cp_tQ N) t (nI k) rep j 0
        rw [cp_iq_hi h, ← g2]; exact cp_tl1_hi (q := 0) h (by omega) (by omega)
      · show _ = cp_bi (decide ((cp_iq (cp_tQ N) t (nI k) rep j 0).toInt < (cp_tm N : Int)))
        rw [cp_iq_hi h, ← g3]; exact cp_tl1_hi h (by omega) (by omega)
      · show _ = cp_iq (cp_tQ N) t (nI k) rep j 1
        rw [cp_iq_hi h, ← g4]; exact cp_tl1_hi h (by omega) (by omega)
      · show _ = cp_iq (cp_tQ N) t (nI k) rep j 2
        rw [cp_iq_hi h, ← g5]; exact cp_tl1_hi h (by omega) (by omega)
  · rw [cp_tl1_o (by omega) htl (by omega), hAQ.2.2.2]
    congr 1
    exact (cp_cnt_iq hnm _ htl).symm
set_option maxHeartbeats 4000000 in
set_option maxRecDepth 100000 in
theorem c_X7_tells {lc : Launch} {E : cp_En} {cnt : Nat} {sh : cp_Shp} {R : cp_Rem} {J : cp_Mem} {m : Nat} {f : Nat → Int32} {r : Nat → Nat → Int32} {a : Nat → Int32} (M : cp_ML sh R m) {N : cp_Nt} (hA : cp_MA a N) (hV : cp_NV N) {v1 v2 : Int32} (hnp : cp_tp N < 8) : cp_Fn lc E yX7_tells cX7_tells 5 (some .int) 1 [.ref m, .int v1, .int v2] cnt sh (cp_ma J m f r a) R (some (.int (nI (cp_at (cp_tQ N) v1 (cp_tp N))))) (cp_ma J m f r (cp_tl1 a (cp_at (cp_tQ N) v1 (cp_tp N)) (cp_tp N) v1 v2)) := by
  obtain ⟨hAS, hA4, hA5, hAW, hAQ⟩ := id hA
  obtain ⟨hVS, hVm, hVP, hVN, hVQ⟩ := id hV
  have hn24 := hVP.1
  have hpl : ∀ j, j < cp_tp N → a (374 + 4 * j + 0) = cp_tQ N j 0 := fun j hj => (hAQ.2.2.1 j hj).2.1
  refine cp_Fn_i [some (.ref m), some (.int v1), some (.int v2), none, none] (by decide +kernel) (Nat.le_of_ble_eq_true rfl) rfl rfl (fun x hxl O hr => ?_)
  subst hxl
  refine cp_aload_n O dX7_tells_0 cp_lg0 ?_
  refine fg_X7_7 O M.s M.f0 dX7_tells_1 ?_
  refine cp_bipush O dX7_tells_4 (v := 6) rfl ?_
  refine cp_ialdA O M (j := 6) rfl (by omega) dX7_tells_6 ?_
  rw [hAQ.2.1]
  refine cp_istore_n O dX7_tells_7 (by decide) (cp_ls3 rfl) ?_
  have loop8 : ∀ t, t ≤ cp_tp N → cp_at (cp_tQ N) v1 t = cp_at (cp_tQ N) v1 (cp_tp N) → cp_G x E 5 0 0 cnt sh (cp_ma J m f r (cp_sf a t (cp_tp N) 0)) R 8 [some (.ref m), some (.int v1), some (.int v2), some (.int (nI t)), none] [] := by
    refine fun t => cp_down (P := fun t => t ≤ cp_tp N → cp_at (cp_tQ N) v1 t = cp_at (cp_tQ N) v1 (cp_tp N) → cp_G x E 5 0 0 cnt sh (cp_ma J m f r (cp_sf a t (cp_tp N) 0)) R 8 [some (.ref m), some (.int v1), some (.int v2), some (.int (nI t)), none] []) (fun t ih htp hat => ?_) t
    refine cp_iload_n O dX7_tells_8 cp_lg3 ?_
    refine cp_if_le (tgt := 69) O dX7_tells_9 (by decide) (fun c_9 => ?_) (fun c_9 => ?_)
    · have ht0 : t = 0 := by
        rcases Nat.eq_zero_or_pos t with h | h
        · exact h
        · exact absurd c_9 (nI_nle h (by omega))
      have hfin : cp_at (cp_tQ N) v1 (cp_tp N) = t := by rw [← hat, ht0]; rfl
      rw [hfin] at hr
      refine cp_aload_n O dX7_tells_69 cp_lg0 ?_
      refine fg_X7_7 O M.s M.f0 dX7_tells_70 ?_
      refine cp_bipush O dX7_tells_73 (v := 6) rfl ?_
      refine cp_dup2 O dX7_tells_75 rfl rfl ?_
      refine cp_ialdA O M (j := 6) rfl (by omega) dX7_tells_76 ?_
      refine cp_iconst O dX7_tells_77 (v := 1) rfl ?_
      refine cp_iadd O dX7_tells_78 ?_
      rw [show cp_sf a t (cp_tp N) 0 6 = nI (cp_tp N) by (unfold cp_sf; rw [if_neg (by omega), if_neg (by omega)]; exact hAQ.2.1), nI_1]
      refine cp_iastA O M (j := 6) rfl (by omega) dX7_tells_79 ?_
      refine cp_aload_n O dX7_tells_80 cp_lg0 ?_
      refine fg_X7_7 O M.s M.f0 dX7_tells_81 ?_
      refine cp_sipush O dX7_tells_84 (v := 374) rfl ?_
      refine cp_iconst O dX7_tells_87 (v := 4) rfl ?_
      refine cp_iload_n O dX7_tells_88 cp_lg3 ?_
      refine cp_imul O dX7_tells_89 ?_
      refine cp_iadd O dX7_tells_90 ?_
      refine cp_iconst O dX7_tells_91 (v := 0) rfl ?_
      refine cp_iadd O dX7_tells_92 ?_
      refine cp_iload_n O dX7_tells_93 cp_lg1 ?_
      refine cp_iastA O M (j := ((374 + (4 * t)) + 0)) (cp_ad (cp_ad rfl (cp_mu rfl rfl)) rfl) (by omega) dX7_tells_94 ?_
      refine cp_aload_n O dX7_tells_95 cp_lg0 ?_
      refine fg_X7_7 O M.s M.f0 dX7_tells_96 ?_
      refine cp_sipush O dX7_tells_99 (v := 374) rfl ?_
      refine cp_iconst O dX7_tells_102 (v := 4) rfl ?_
      refine cp_iload_n O dX7_tells_103 cp_lg3 ?_
      refine cp_imul O dX7_tells_104 ?_
      refine cp_iadd O dX7_tells_105 ?_
      refine cp_iconst O dX7_tells_106 (v := 1) rfl ?_
      refine cp_iadd O dX7_tells_107 ?_
      refine cp_iconst O dX7_tells_108 (v := 0) rfl ?_
      refine cp_iastA O M (j := ((374 + (4 * t)) + 1)) (cp_ad (cp_ad rfl (cp_mu rfl rfl)) rfl) (by omega) dX7_tells_109 ?_
      refine cp_aload_n O dX7_tells_110 cp_lg0 ?_
      refine fg_X7_7 O M.s M.f0 dX7_tells_111 ?_
      refine cp_sipush O dX7_tells_114 (v := 374) rfl ?_
      refine cp_iconst O dX7_tells_117 (v := 4) rfl ?_
      refine cp_iload_n O dX7_tells_118 cp_lg3 ?_
      refine cp_imul O dX7_tells_119 ?_
      refine cp_iadd O dX7_tells_120 ?_
      refine cp_iconst O dX7_tells_121 (v := 2) rfl ?_
      refine cp_iadd O dX7_tells_122 ?_
      refine cp_iload_n O dX7_tells_123 cp_lg2 ?_
      refine cp_iastA O M (j := ((374 + (4 * t)) + 2)) (cp_ad (cp_ad rfl (cp_mu rfl rfl)) rfl) (by omega) dX7_tells_124 ?_
      refine cp_aload_n O dX7_tells_125 cp_lg0 ?_
      refine fg_X7_7 O M.s M.f0 dX7_tells_126 ?_
      refine cp_sipush O dX7_tells_129 (v := 374) rfl ?_
      refine cp_iconst O dX7_tells_132 (v := 4) rfl ?_
      refine cp_iload_n O dX7_tells_133 cp_lg3 ?_
      refine cp_imul O dX7_tells_134 ?_
      refine cp_iadd O dX7_tells_135 ?_
      refine cp_iconst O dX7_tells_136 (v := 3) rfl ?_
      refine cp_iadd O dX7_tells_137 ?_
      refine cp_iconst O dX7_tells_138 (v := 0) rfl ?_
      refine cp_iastA O M (j := ((374 + (4 * t)) + 3)) (cp_ad (cp_ad rfl (cp_mu rfl rfl)) rfl) (by omega) dX7_tells_139 ?_
      refine cp_iload_n O dX7_tells_140 cp_lg3 ?_
      exact hr _ _ _ _ dX7_tells_141 rfl rfl
    · have ht0 : 0 < t := by
        rcases Nat.eq_zero_or_pos t with h | h
        · exact absurd (by rw [h]; decide) c_9
        · exact h
      refine cp_aload_n O dX7_tells_12 cp_lg0 ?_
      refine cp_iload_n O dX7_tells_13 cp_lg3 ?_
      refine cp_iconst O dX7_tells_14 (v := 1) rfl ?_
      refine cp_isub O dX7_tells_15 ?_
      refine cp_iconst O dX7_tells_16 (v := 0) rfl ?_
      refine cp_cVi O me_X7_plateAt mi_X7_plateAt ml_X7_85 cp_cX7 M.s (cp_Fn_eq (v' := some (.int (cp_tQ N (t - 1) 0))) (c_X7_plateAt (j := t - 1) (q := 0) M (cp_sb rfl rfl (by omega)) rfl (by omega) (by omega)) (by rw [show cp_sf a t (cp_tp N) 0 (374 + 4 * (t - 1) + 0) = a (374 + 4 * (t - 1) + 0) by (unfold cp_sf; rw [if_neg (by omega), if_neg (by omega)]), hpl (t - 1) (by omega)]) rfl) dX7_tells_17 rfl rfl ⟨Nat.le_of_ble_eq_true rfl, Nat.le_of_ble_eq_true rfl⟩ ⟨Nat.le_refl _, Nat.le_refl _⟩ (Nat.le_of_ble_eq_true rfl) ?_
      refine cp_iload_n O dX7_tells_20 cp_lg1 ?_
      refine cp_icmp_le (tgt := 69) O dX7_tells_21 (by decide) (fun c_21 => ?_) (fun c_21 => ?_)
      · have hfin : cp_at (cp_tQ N) v1 (cp_tp N) = t := by
          rw [← hat]
          obtain ⟨u, rfl⟩ : ∃ u, t = u + 1 := ⟨t - 1, by omega⟩
          show (if v1 < cp_tQ N u 0 then cp_at (cp_tQ N) v1 u else u + 1) = u + 1
          exact if_neg (Int32.not_lt.mpr c_21)
        rw [hfin] at hr
        refine cp_aload_n O dX7_tells_69 cp_lg0 ?_
        refine fg_X7_7 O M.s M.f0 dX7_tells_70 ?_
        refine cp_bipush O dX7_tells_73 (v := 6) rfl ?_
        refine cp_dup2 O dX7_tells_75 rfl rfl ?_
        refine cp_ialdA O M (j := 6) rfl (by omega) dX7_tells_76 ?_
        refine cp_iconst O dX7_tells_77 (v := 1) rfl ?_
        refine cp_iadd O dX7_tells_78 ?_
        rw [show cp_sf a t (cp_tp N) 0 6 = nI (cp_tp N) by (unfold cp_sf; rw [if_neg (by omega), if_neg (by omega)]; exact hAQ.2.1), nI_1]
        refine cp_iastA O M (j := 6) rfl (by omega) dX7_tells_79 ?_
        refine cp_aload_n O dX7_tells_80 cp_lg0 ?_
        refine fg_X7_7 O M.s M.f0 dX7_tells_81 ?_
        refine cp_sipush O dX7_tells_84 (v := 374) rfl ?_
        refine cp_iconst O dX7_tells_87 (v := 4) rfl ?_
        refine cp_iload_n O dX7_tells_88 cp_lg3 ?_
        refine cp_imul O dX7_tells_89 ?_
        refine cp_iadd O dX7_tells_90 ?_
        refine cp_iconst O dX7_tells_91 (v := 0) rfl ?_
        refine cp_iadd O dX7_tells_92 ?_
        refine cp_iload_n O dX7_tells_93 cp_lg1 ?_
        refine cp_iastA O M (j := ((374 + (4 * t)) + 0)) (cp_ad (cp_ad rfl (cp_mu rfl rfl)) rfl) (by omega) dX7_tells_94 ?_
        refine cp_aload_n O dX7_tells_95 cp_lg0 ?_
        refine fg_X7_7 O M.s M.f0 dX7_tells_96 ?_
        refine cp_sipush O dX7_tells_99 (v := 374) rfl ?_
        refine cp_iconst O dX7_tells_102 (v := 4) rfl ?_
        refine cp_iload_n O dX7_tells_103 cp_lg3 ?_
        refine cp_imul O dX7_tells_104 ?_
        refine cp_iadd O dX7_tells_105 ?_
        refine cp_iconst O dX7_tells_106 (v := 1) rfl ?_
        refine cp_iadd O dX7_tells_107 ?_
        refine cp_iconst O dX7_tells_108 (v := 0) rfl ?_
        refine cp_iastA O M (j := ((374 + (4 * t)) + 1)) (cp_ad (cp_ad rfl (cp_mu rfl rfl)) rfl) (by omega) dX7_tells_109 ?_
        refine cp_aload_n O dX7_tells_110 cp_lg0 ?_
        refine fg_X7_7 O M.s M.f0 dX7_tells_111 ?_
        refine cp_sipush O dX7_tells_114 (v := 374) rfl ?_
        refine cp_iconst O dX7_tells_117 (v := 4) rfl ?_
        refine cp_iload_n O dX7_tells_118 cp_lg3 ?_
        refine cp_imul O dX7_tells_119 ?_
        refine cp_iadd O dX7_tells_120 ?_
        refine cp_iconst O dX7_tells_121 (v := 2) rfl ?_
        refine cp_iadd O dX7_tells_122 ?_
        refine cp_iload_n O dX7_tells_123 cp_lg2 ?_
        refine cp_iastA O M (j := ((374 + (4 * t)) + 2)) (cp_ad (cp_ad rfl (cp_mu rfl rfl)) rfl) (by omega) dX7_tells_124 ?_
        refine cp_aload_n O dX7_tells_125 cp_lg0 ?_
        refine fg_X7_7 O M.s M.f0 dX7_tells_126 ?_
        refine cp_sipush O dX7_tells_129 (v := 374) rfl ?_
        refine cp_iconst O dX7_tells_132 (v := 4) rfl ?_
        refine cp_iload_n O dX7_tells_133 cp_lg3 ?_
        refine cp_imul O dX7_tells_134 ?_
        refine cp_iadd O dX7_tells_135 ?_
        refine cp_iconst O dX7_tells_136 (v := 3) rfl ?_
        refine cp_iadd O dX7_tells_137 ?_
        refine cp_iconst O dX7_tells_138 (v := 0) rfl ?_
        refine cp_iastA O M (j := ((374 + (4 * t)) + 3)) (cp_ad (cp_ad rfl (cp_mu rfl rfl)) rfl) (by omega) dX7_tells_139 ?_
        refine cp_iload_n O dX7_tells_140 cp_lg3 ?_
        exact hr _ _ _ _ dX7_tells_141 rfl rfl
      · have hat1 : cp_at (cp_tQ N) v1 (t - 1) = cp_at (cp_tQ N) v1 (cp_tp N) := by
          rw [← hat]
          obtain ⟨u, rfl⟩ : ∃ u, t = u + 1 := ⟨t - 1, by omega⟩
          show _ = (if v1 < cp_tQ N u 0 then cp_at (cp_tQ N) v1 u else u + 1)
          exact (if_pos (show v1 < cp_tQ N u 0 from Int32.not_le.mp c_21)).symm
        refine cp_iconst O dX7_tells_24 (v := 0) rfl ?_
        refine cp_istore O dX7_tells_25 (by decide) (cp_ls4 rfl) ?_
        have loop27 : ∀ k, k ≤ 4 → cp_G x E 5 0 0 cnt sh (cp_ma J m f r (cp_sf a t (cp_tp N) k)) R 27 [some (.ref m), some (.int v1), some (.int v2), some (.int (nI t)), some (.int (nI k))] [] := by
          refine cp_up (fun k hk ih2 => ?_)
          refine cp_iload O dX7_tells_27 cp_lg4 ?_
          refine cp_iconst O dX7_tells_29 (v := 4) rfl ?_
          refine cp_icmp_geN (tgt := 63) O dX7_tells_30 (by decide) (a := k) (b := 4) rfl rfl (by omega) (by omega) (fun c_30 => ?_) (fun c_30 => ?_)
          · refine cp_iinc O dX7_tells_63 cp_lg3 (cp_dec rfl (by omega)) (by decide) (cp_ls3 rfl) ?_
            refine cp_goto (tgt := 8) O dX7_tells_66 (by decide) ?_
            rw [show k = 4 by omega, cp_sf_4 a t _ (by omega) htp]
            exact cp_Gw (cp_lws (cp_lws (cp_lws (cp_lws (cp_lwn cp_lw0))))) (ih (by omega) (by omega) hat1)
          · refine cp_aload_n O dX7_tells_33 cp_lg0 ?_
            refine fg_X7_7 O M.s M.f0 dX7_tells_34 ?_
            refine cp_sipush O dX7_tells_37 (v := 374) rfl ?_
            refine cp_iconst O dX7_tells_40 (v := 4) rfl ?_
            refine cp_iload_n O dX7_tells_41 cp_lg3 ?_
            refine cp_imul O dX7_tells_42 ?_
            refine cp_iadd O dX7_tells_43 ?_
            refine cp_iload O dX7_tells_44 cp_lg4 ?_
            refine cp_iadd O dX7_tells_46 ?_
            refine cp_aload_n O dX7_tells_47 cp_lg0 ?_
            refine cp_iload_n O dX7_tells_48 cp_lg3 ?_
            refine cp_iconst O dX7_tells_49 (v := 1) rfl ?_
            refine cp_isub O dX7_tells_50 ?_
            refine cp_iload O dX7_tells_51 cp_lg4 ?_
            refine cp_cVi O me_X7_plateAt mi_X7_plateAt ml_X7_85 cp_cX7 M.s (c_X7_plateAt (j := t - 1) (q := k) M (cp_sb rfl rfl (by omega)) rfl (by omega) (by omega)) dX7_tells_53 rfl rfl ⟨Nat.le_of_ble_eq_true rfl, Nat.le_of_ble_eq_true rfl⟩ ⟨Nat.le_refl _, Nat.le_refl _⟩ (Nat.le_of_ble_eq_true rfl) ?_
            refine cp_iastA O M (j := ((374 + (4 * t)) + k)) (cp_ad (cp_ad rfl (cp_mu rfl rfl)) rfl) (by omega) dX7_tells_56 ?_
            refine cp_iinc O dX7_tells_57 cp_lg4 (cp_inc rfl) (by decide) (cp_ls4 rfl) ?_
            refine cp_goto (tgt := 27) O dX7_tells_60 (by decide) ?_
            rw [cp_sf_k a t (cp_tp N) k c_30 ht0 htp]
            exact ih2 c_30
        exact loop27 0 (Nat.zero_le _)
  have l0 := loop8 (cp_tp N) (Nat.le_refl _) rfl
  rw [cp_sf_0] at l0
  exact cp_Gw (cp_lws (cp_lws (cp_lws (cp_lws (cp_lwn cp_lw0))))) l0
def cp_sPlate (N : cp_Nt) (v : Int32) : Int32 × cp_Nt := if cp_rg (cp_tm N) 599 v = true then (if cp_tp N = 8 then (-4, N) else match cp_du (cp_tp N) (cp_tQ N) v with
  | none => cp_sTell N v 0
  | some _ => (-5, N)) else (-2, N)
set_option maxHeartbeats 4000000 in
set_option maxRecDepth 100000 in
theorem c_X7_doPlate_0 {lc : Launch} {E : cp_En} {cnt : Nat} {sh : cp_Shp} {R : cp_Rem} {J : cp_Mem} {m : Nat} {f : Nat → Int32} {r : Nat → Nat → Int32} {a : Nat → Int32} (M : cp_ML sh R m) {N : cp_Nt} (hA : cp_MA a N) (hV : cp_NV N) {v1 : Int32} (hd : cp_du (cp_tp N) (cp_tQ N) v1 = none) : cp_Fr lc E yX7_doPlate cX7_doPlate 2 (some .int) 2 [.ref m, .int v1] cnt sh (cp_ma J m f r a) R (some (.int ((cp_sPlate N v1).1))) (fun I' => ∃ a', I' = cp_ma J m f r a' ∧ cp_MA a' (cp_sPlate N v1).2) := by
  obtain ⟨hAS, hA4, hA5, hAW, hAQ⟩ := id hA
  obtain ⟨hVS, hVm, hVP, hVN, hVQ⟩ := id hV
  have hn24 := hVP.1
  have hnp8 := hAQ.1
  refine cp_Fn_iR [some (.ref m), some (.int v1)] (by decide +kernel) (Nat.le_of_ble_eq_true rfl) rfl rfl (fun x hxl O hr => ?_)
  subst hxl
  refine cp_iload_n O dX7_doPlate_0 cp_lg1 ?_
  refine cp_i2l O dX7_doPlate_1 ?_
  refine cp_aload_n O dX7_doPlate_2 cp_lg0 ?_
  refine fg_X7_7 O M.s M.f0 dX7_doPlate_3 ?_
  refine cp_iconst O dX7_doPlate_6 (v := 4) rfl ?_
  refine cp_ialdA O M (j := 4) rfl (by omega) dX7_doPlate_7 ?_
  refine cp_i2l O dX7_doPlate_8 ?_
  refine cp_ldc2 O cl_X7_109 dX7_doPlate_9 ?_
  refine cp_cSi O me_X7_in ms_X7_in ml_X7_35 (c_X7_in) dX7_doPlate_12 rfl rfl ⟨Nat.le_of_ble_eq_true rfl, Nat.le_of_ble_eq_true rfl⟩ ⟨Nat.le_refl _, Nat.le_refl _⟩ (Nat.le_of_ble_eq_true rfl) ?_
  rw [hA4, cp_in_rg (l := cp_tm N) (h := 599) (by rw [Int32.toInt_toInt64, nI_toInt (by omega)]) rfl]
  refine cp_if_neB (tgt := 21) O dX7_doPlate_15 (by decide) (fun c_15 => ?_) (fun c_15 => ?_)
  · refine cp_aload_n O dX7_doPlate_21 cp_lg0 ?_
    refine fg_X7_7 O M.s M.f0 dX7_doPlate_22 ?_
    refine cp_bipush O dX7_doPlate_25 (v := 6) rfl ?_
    refine cp_ialdA O M (j := 6) rfl (by omega) dX7_doPlate_27 ?_
    refine cp_bipush O dX7_doPlate_28 (v := 8) rfl ?_
    refine cp_icmp_neN (tgt := 36) O dX7_doPlate_30 (by decide) (a := (cp_tp N)) (b := 8) hAQ.2.1 rfl (by omega) (by omega) (fun c_30 => ?_) (fun c_30 => ?_)
    · have h8 : cp_tp N < 8 := by have := hAQ.1; omega
      refine cp_aload_n O dX7_doPlate_36 cp_lg0 ?_
      refine cp_iload_n O dX7_doPlate_37 cp_lg1 ?_
      refine cp_cVi O me_X7_due mi_X7_due ml_X7_97 cp_cX7 M.s (c_X7_due (np := cp_tp N) (Q := cp_tQ N) M hAQ.1 hAQ.2.1 (fun j hj => (hAQ.2.2.1 j hj).2.1)) dX7_doPlate_38 rfl rfl ⟨Nat.le_of_ble_eq_true rfl, Nat.le_of_ble_eq_true rfl⟩ ⟨Nat.le_refl _, Nat.le_refl _⟩ (Nat.le_of_ble_eq_true rfl) ?_
      rw [hd, show cp_o2i none = -6 from rfl]
      refine cp_bipush O dX7_doPlate_41 (v := (-6)) rfl ?_
      refine cp_icmp_ne (tgt := 55) O dX7_doPlate_43 (by decide) (fun c_43 => ?_) (fun c_43 => ?_)
      · exact absurd rfl c_43
      · have e : cp_sPlate N v1 = cp_sTell N v1 0 := by
          unfold cp_sPlate
          rw [if_pos c_15, if_neg (by omega), hd]
        rw [e] at hr
        obtain ⟨k, hk1, hk2, hk3⟩ := cp_rg_nI (l := cp_tm N) (h := 599) c_15
        refine cp_aload_n O dX7_doPlate_46 cp_lg0 ?_
        refine cp_iload_n O dX7_doPlate_47 cp_lg1 ?_
        refine cp_iconst O dX7_doPlate_48 (v := 0) rfl ?_
        refine cp_cVi O me_X7_tells mi_X7_tells ml_X7_111 cp_cX7 M.s (c_X7_tells M hA hV h8) dX7_doPlate_49 rfl rfl ⟨Nat.le_of_ble_eq_true rfl, Nat.le_of_ble_eq_true rfl⟩ ⟨Nat.le_refl _, Nat.le_refl _⟩ (Nat.le_of_ble_eq_true rfl) ?_
        refine cp_goto (tgt := 57) O dX7_doPlate_52 (by decide) ?_
        exact hr _ _ _ _ dX7_doPlate_57 rfl ⟨_, rfl, cp_MA_tell hA hV h8 ⟨k, by omega, hk1, hk3⟩⟩
    · have e : cp_sPlate N v1 = (-4, N) := by
        unfold cp_sPlate
        rw [if_pos c_15, if_pos c_30]
      rw [e] at hr
      refine cp_bipush O dX7_doPlate_33 (v := (-4)) rfl ?_
      exact hr _ _ _ _ dX7_doPlate_35 rfl ⟨a, rfl, hA⟩
  · have e : cp_sPlate N v1 = (-2, N) := by
      unfold cp_sPlate
      rw [if_neg (by rw [c_15]; decide)]
    rw [e] at hr
    refine cp_bipush O dX7_doPlate_18 (v := (-2)) rfl ?_
    exact hr _ _ _ _ dX7_doPlate_20 rfl ⟨a, rfl, hA⟩
set_option maxHeartbeats 4000000 in
set_option maxRecDepth 100000 in
theorem c_X7_doPlate_1 {lc : Launch} {E : cp_En} {cnt : Nat} {sh : cp_Shp} {R : cp_Rem} {J : cp_Mem} {m : Nat} {f : Nat → Int32} {r : Nat → Nat → Int32} {a : Nat → Int32} (M : cp_ML sh R m) {N : cp_Nt} (hA : cp_MA a N) (hV : cp_NV N) {v1 : Int32} {j : Nat} (hd : cp_du (cp_tp N) (cp_tQ N) v1 = some j) : cp_Fr lc E yX7_doPlate cX7_doPlate 2 (some .int) 2 [.ref m, .int v1] cnt sh (cp_ma J m f r a) R (some (.int ((cp_sPlate N v1).1))) (fun I' => ∃ a', I' = cp_ma J m f r a' ∧ cp_MA a' (cp_sPlate N v1).2) := by
  obtain ⟨hAS, hA4, hA5, hAW, hAQ⟩ := id hA
  obtain ⟨hVS, hVm, hVP, hVN, hVQ⟩ := id hV
  have hn24 := hVP.1
  have hnp8 := hAQ.1
  refine cp_Fn_iR [some (.ref m), some (.int v1)] (by decide +kernel) (Nat.le_of_ble_eq_true rfl) rfl rfl (fun x hxl O hr => ?_)
  subst hxl
  refine cp_iload_n O dX7_doPlate_0 cp_lg1 ?_
  refine cp_i2l O dX7_doPlate_1 ?_
  refine cp_aload_n O dX7_doPlate_2 cp_lg0 ?_
  refine fg_X7_7 O M.s M.f0 dX7_doPlate_3 ?_
  refine cp_iconst O dX7_doPlate_6 (v := 4) rfl ?_
  refine cp_ialdA O M (j := 4) rfl (by omega) dX7_doPlate_7 ?_
  refine cp_i2l O dX7_doPlate_8 ?_
  refine cp_ldc2 O cl_X7_109 dX7_doPlate_9 ?_
  refine cp_cSi O me_X7_in ms_X7_in ml_X7_35 (c_X7_in) dX7_doPlate_12 rfl rfl ⟨Nat.le_of_ble_eq_true rfl, Nat.le_of_ble_eq_true rfl⟩ ⟨Nat.le_refl _, Nat.le_refl _⟩ (Nat.le_of_ble_eq_true rfl) ?_
  rw [hA4, cp_in_rg (l := cp_tm N) (h := 599) (by rw [Int32.toInt_toInt64, nI_toInt (by omega)]) rfl]
  refine cp_if_neB (tgt := 21) O dX7_doPlate_15 (by decide) (fun c_15 => ?_) (fun c_15 => ?_)
  · refine cp_aload_n O dX7_doPlate_21 cp_lg0 ?_
    refine fg_X7_7 O M.s M.f0 dX7_doPlate_22 ?_
    refine cp_bipush O dX7_doPlate_25 (v := 6) rfl ?_
    refine cp_ialdA O M (j := 6) rfl (by omega) dX7_doPlate_27 ?_
    refine cp_bipush O dX7_doPlate_28 (v := 8) rfl ?_
    refine cp_icmp_neN (tgt := 36) O dX7_doPlate_30 (by decide) (a := (cp_tp N)) (b := 8) hAQ.2.1 rfl (by omega) (by omega) (fun c_30 => ?_) (fun c_30 => ?_)
    · have h8 : cp_tp N < 8 := by have := hAQ.1; omega
      refine cp_aload_n O dX7_doPlate_36 cp_lg0 ?_
      refine cp_iload_n O dX7_doPlate_37 cp_lg1 ?_
      refine cp_cVi O me_X7_due mi_X7_due ml_X7_97 cp_cX7 M.s (c_X7_due (np := cp_tp N) (Q := cp_tQ N) M hAQ.1 hAQ.2.1 (fun j hj => (hAQ.2.2.1 j hj).2.1)) dX7_doPlate_38 rfl rfl ⟨Nat.le_of_ble_eq_true rfl, Nat.le_of_ble_eq_true rfl⟩ ⟨Nat.le_refl _, Nat.le_refl _⟩ (Nat.le_of_ble_eq_true rfl) ?_
      rw [hd, show cp_o2i (some j) = nI j from rfl]
      refine cp_bipush O dX7_doPlate_41 (v := (-6)) rfl ?_
      refine cp_icmp_ne (tgt := 55) O dX7_doPlate_43 (by decide) (fun c_43 => ?_) (fun c_43 => ?_)
      · have e : cp_sPlate N v1 = (-5, N) := by
          unfold cp_sPlate
          rw [if_pos c_15, if_neg (by omega), hd]
        rw [e] at hr
        refine cp_bipush O dX7_doPlate_55 (v := (-5)) rfl ?_
        exact hr _ _ _ _ dX7_doPlate_57 rfl ⟨a, rfl, hA⟩
      · exact absurd c_43 (cp_nm6 (by have := (cp_du_some hd).1; omega))
    · have e : cp_sPlate N v1 = (-4, N) := by
        unfold cp_sPlate
        rw [if_pos c_15, if_pos c_30]
      rw [e] at hr
      refine cp_bipush O dX7_doPlate_33 (v := (-4)) rfl ?_
      exact hr _ _ _ _ dX7_doPlate_35 rfl ⟨a, rfl, hA⟩
  · have e : cp_sPlate N v1 = (-2, N) := by
      unfold cp_sPlate
      rw [if_neg (by rw [c_15]; decide)]
    rw [e] at hr
    refine cp_bipush O dX7_doPlate_18 (v := (-2)) rfl ?_
    exact hr _ _ _ _ dX7_doPlate_20 rfl ⟨a, rfl, hA⟩
theorem c_X7_doPlate {lc : Launch} {E : cp_En} {cnt : Nat} {sh : cp_Shp} {R : cp_Rem} {J : cp_Mem} {m : Nat} {f : Nat → Int32} {r : Nat → Nat → Int32} {a : Nat → Int32} (M : cp_ML sh R m) {N : cp_Nt} (hA : cp_MA a N) (hV : cp_NV N) {v1 : Int32} : cp_Fr lc E yX7_doPlate cX7_doPlate 2 (some .int) 2 [.ref m, .int v1] cnt sh (cp_ma J m f r a) R (some (.int (cp_sPlate N v1).1)) (fun I' => ∃ a', I' = cp_ma J m f r a' ∧ cp_MA a' (cp_sPlate N v1).2) := by
  cases hd : cp_du (cp_tp N) (cp_tQ N) v1 with
  | none => exact c_X7_doPlate_0 M hA hV hd
  | some j => exact c_X7_doPlate_1 M hA hV hd
