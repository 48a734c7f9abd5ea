/-! isWell: two arrays of its own -/
def cp_ar (sh : cp_Shp) (co cq a1 a2 : Nat) : Prop := sh a1 = (9, 6) ∧ sh a2 = (9, 6) ∧ a1 ≠ a2 ∧ ((a1 < co ∨ co + 331 ≤ a1) ∧ (a1 < cq ∨ cq + 331 ≤ a1)) ∧ ((a2 < co ∨ co + 331 ≤ a2) ∧ (a2 < cq ∨ cq + 331 ≤ a2))
theorem cp_ar_w1 {sh : cp_Shp} {R : cp_Rem} {I : cp_Mem} {co cq a1 a2 j : Nat} {N N' : cp_Nt} {v : Int32} (hA : cp_ar sh co cq a1 a2) (hW : cp_TW sh R I co cq N N') : cp_TW sh R (cp_wi I a1 j v) co cq N N' := hW.ot (fun x hx => ⟨rfl, rfl, cp_wi_a _ _ _ _ (by
  have := hA.2.2.2.1
  omega)⟩)
theorem cp_ar_w2 {sh : cp_Shp} {R : cp_Rem} {I : cp_Mem} {co cq a1 a2 j : Nat} {N N' : cp_Nt} {v : Int32} (hA : cp_ar sh co cq a1 a2) (hW : cp_TW sh R I co cq N N') : cp_TW sh R (cp_wi I a2 j v) co cq N N' := hW.ot (fun x hx => ⟨rfl, rfl, cp_wi_a _ _ _ _ (by
  have := hA.2.2.2.2
  omega)⟩)
def cp_aq (I : cp_Mem) (a1 a2 : Nat) (N : cp_Nt) (k : Nat) : Prop := ∀ q, q < 6 → I a1 q = cp_pls (cp_LQ N q) k ∧ I a2 q = nI (cp_mny (cp_LQ N q) k)
theorem cp_aq_in {I : cp_Mem} {a1 a2 k q : Nat} {N : cp_Nt} (h : cp_aq I a1 a2 N k) (hne : a1 ≠ a2) (hm : k ∈ cp_LQ N q) (ho : ∀ q', q' < 6 → q' ≠ q → k ∉ cp_LQ N q') : cp_aq (cp_wi (cp_wi I a1 q (cp_pls (cp_LQ N q) (k + 1))) a2 q (nI (cp_mny (cp_LQ N q) (k + 1)))) a1 a2 N (k + 1) := fun q' hq' => by
  rw [cp_wi_a _ _ _ _ hne]
  by_cases e : q' = q
  · subst e
    rw [cp_wi_s, cp_wi_s]
    exact ⟨rfl, rfl⟩
  · rw [cp_wi_j _ _ _ _ (fun z => e z.2), cp_wi_j _ _ _ _ (fun z => e z.2), cp_wi_a _ _ _ _ (Ne.symm hne), ← cp_pls_o (ho q' hq' e), ← cp_mny_o (ho q' hq' e)]
    exact h q' hq'
theorem cp_aq_out {I : cp_Mem} {a1 a2 k : Nat} {N : cp_Nt} (h : cp_aq I a1 a2 N k) (ho : ∀ q, k ∉ cp_LQ N q) : cp_aq I a1 a2 N (k + 1) := fun q hq => by
  rw [← cp_pls_o (ho q), ← cp_mny_o (ho q)]
  exact h q hq
theorem cp_aq_oc {sh : cp_Shp} {I I' : cp_Mem} {co cq a1 a2 k : Nat} {N : cp_Nt} (h : cp_aq I a1 a2 N k) (hA : cp_ar sh co cq a1 a2) (ho : cp_oc co I I') : cp_aq I' a1 a2 N k := fun q hq => by
  rw [ho a1 hA.2.2.2.1.1, ho a2 hA.2.2.2.2.1]
  exact h q hq
def cp_hq (N : cp_Nt) : Nat → Bool := fun i => decide (cp_tP N i 5 = 1) && decide (¬ cp_tP N i 4 = 3)
def cp_kq (N : cp_Nt) : Nat → Bool := fun i => decide (cp_tP N i 4 = 3)
set_option maxHeartbeats 4000000 in
set_option maxRecDepth 100000 in
theorem ww_c0 {x : cp_Cx} {E : cp_En} {cnt : Nat} {sh : cp_Shp} {R : cp_Rem} {I : cp_Mem} {co cq a1 a2 : Nat} {N : cp_Nt} (O : cp_Ok x E RL cL_isWell 15 5 2 12) (hA : cp_ar sh co cq a1 a2) (hW : cp_TW sh R I co cq N N) (hF : cp_WF N) {k : Nat} (hk : k < cp_tn N) (h4 : cp_tP N k 4 = 0) (hq : cp_aq I a1 a2 N (k + 1)) (K : ∀ I, cp_TW sh R I co cq N N → cp_aq I a1 a2 N (k + 1) → cp_G x E 15 2 12 cnt sh I R 87 [some (.ref co), some (.int (nI (cp_tn N))), some (.ref a1), some (.ref a2), some (.int (nI (cp_cnt (cp_hq N) (k + 1)))), some (.int (nI (cp_cnt (cp_kq N) (k + 1)))), some (.int (cp_st (cp_fr (cp_tP N)) (k + 1))), some (.int 1), some (.int (nI (k + 1))), none, none, none, none, none, none] []) : cp_G x E 15 2 12 cnt sh I R 328 [some (.ref co), some (.int (nI (cp_tn N))), some (.ref a1), some (.ref a2), some (.int (nI (cp_cnt (cp_hq N) k))), some (.int (nI (cp_cnt (cp_kq N) k))), some (.int (cp_st (cp_fr (cp_tP N)) k)), some (.int 1), some (.int (nI k)), some (.int 0), none, none, none, none, none] [] := by
  obtain ⟨hV, h8⟩ := hW.V
  have hn24 := hV.2.2.1.1
  obtain ⟨w0, w1, w2, w7⟩ := hF.2 k hk
  obtain ⟨⟨kl, kl1, kl2, kl3, ke, ke1, ke2⟩, -, p3, p5, -⟩ := hV.2.2.2.1 k hk
  have hle : ¬ cp_tP N k 1 < cp_tP N k 6 := by
    rw [kl3, ke2, nI_ltI (by omega) (by omega)]
    omega
  have hh : nI (cp_cnt (cp_hq N) k) + cp_tP N k 5 = nI (cp_cnt (cp_hq N) (k + 1)) := cp_acc (by
    unfold cp_hq
    rw [h4]
    rcases p5 with e | e <;> rw [e]
    · exact Or.inr ⟨by decide, rfl⟩
    · exact Or.inl ⟨by decide, rfl⟩)
  have hkk : nI (cp_cnt (cp_kq N) k) + 0 = nI (cp_cnt (cp_kq N) (k + 1)) := cp_acc (by
    unfold cp_kq
    rw [h4]
    exact Or.inr ⟨by decide, rfl⟩)
  refine cp_iload O dL_isWell_328 cp_lg7 ?_
  refine cp_if_eq (tgt := 377) O dL_isWell_330 (by decide) (fun c => absurd c (by decide)) (fun _ => ?_)
  refine cp_aload_n O dL_isWell_333 cp_lg0 ?_
  refine cp_iload O dL_isWell_334 cp_lg8 ?_
  refine cp_bipush O dL_isWell_336 (v := 6) rfl ?_
  refine cp_cVi O me_X6_ofPiece mi_X6_ofPiece ml_L_28 cp_cX6 hW.s (tw_ofPieceE hW (cp_f_ofP (f := 6) hn24 hk (by decide))) dL_isWell_338 rfl rfl ⟨Nat.le_of_ble_eq_true rfl, Nat.le_of_ble_eq_true rfl⟩ ⟨Nat.le_refl _, Nat.le_refl _⟩ (Nat.le_of_ble_eq_true rfl) ?_
  refine cp_aload_n O dL_isWell_341 cp_lg0 ?_
  refine cp_iload O dL_isWell_342 cp_lg8 ?_
  refine cp_iconst O dL_isWell_344 (v := 1) rfl ?_
  refine cp_cVi O me_X6_ofPiece mi_X6_ofPiece ml_L_28 cp_cX6 hW.s (tw_ofPieceE hW (cp_f_ofP (f := 1) hn24 hk (by decide))) dL_isWell_345 rfl rfl ⟨Nat.le_of_ble_eq_true rfl, Nat.le_of_ble_eq_true rfl⟩ ⟨Nat.le_refl _, Nat.le_refl _⟩ (Nat.le_of_ble_eq_true rfl) ?_
  refine cp_icmp_gt (tgt := 377) O dL_isWell_348 (by decide) (fun c => absurd c (hle)) (fun _ => ?_)
  refine cp_aload_n O dL_isWell_351 cp_lg0 ?_
  refine cp_iload O dL_isWell_352 cp_lg8 ?_
  refine cp_bipush O dL_isWell_354 (v := 7) rfl ?_
  refine cp_cVi O me_X6_ofPiece mi_X6_ofPiece ml_L_28 cp_cX6 hW.s (tw_ofPieceE hW (cp_f_ofP (f := 7) hn24 hk (by decide))) dL_isWell_356 rfl rfl ⟨Nat.le_of_ble_eq_true rfl, Nat.le_of_ble_eq_true rfl⟩ ⟨Nat.le_refl _, Nat.le_refl _⟩ (Nat.le_of_ble_eq_true rfl) ?_
  refine cp_if_eq (tgt := 373) O dL_isWell_359 (by decide) (fun c_359 => ?_) (fun c_359 => ?_)
  · refine cp_iconst O dL_isWell_373 (v := 1) rfl ?_
    refine cp_goto (tgt := 378) O dL_isWell_374 (by decide) ?_
    refine cp_istore O dL_isWell_378 (by decide) (cp_ls7 rfl) ?_
    refine cp_iload O dL_isWell_380 cp_lg4 ?_
    refine cp_iload O dL_isWell_382 cp_lg9 ?_
    refine cp_iconst O dL_isWell_384 (v := 3) rfl ?_
    refine cp_icmp_ge (tgt := 398) O dL_isWell_385 (by decide) (fun c => absurd c (by decide)) (fun _ => ?_)
    refine cp_aload_n O dL_isWell_388 cp_lg0 ?_
    refine cp_iload O dL_isWell_389 cp_lg8 ?_
    refine cp_iconst O dL_isWell_391 (v := 5) rfl ?_
    refine cp_cVi O me_X6_ofPiece mi_X6_ofPiece ml_L_28 cp_cX6 hW.s (tw_ofPieceE hW (cp_f_ofP (f := 5) hn24 hk (by decide))) dL_isWell_392 rfl rfl ⟨Nat.le_of_ble_eq_true rfl, Nat.le_of_ble_eq_true rfl⟩ ⟨Nat.le_refl _, Nat.le_refl _⟩ (Nat.le_of_ble_eq_true rfl) ?_
    refine cp_goto (tgt := 399) O dL_isWell_395 (by decide) ?_
    refine cp_iadd O dL_isWell_399 ?_
    rw [hh]
    refine cp_istore O dL_isWell_400 (by decide) (cp_ls4 rfl) ?_
    refine cp_iload O dL_isWell_402 cp_lg5 ?_
    refine cp_iload O dL_isWell_404 cp_lg9 ?_
    refine cp_iconst O dL_isWell_406 (v := 3) rfl ?_
    refine cp_icmp_ne (tgt := 414) O dL_isWell_407 (by decide) (fun _ => ?_) (fun c => absurd c (by decide))
    refine cp_iconst O dL_isWell_414 (v := 0) rfl ?_
    refine cp_iadd O dL_isWell_415 ?_
    rw [hkk]
    refine cp_istore O dL_isWell_416 (by decide) (cp_ls5 rfl) ?_
    refine cp_iload O dL_isWell_418 cp_lg6 ?_
    refine cp_iload O dL_isWell_420 cp_lg9 ?_
    refine cp_iconst O dL_isWell_422 (v := 2) rfl ?_
    refine cp_icmp_ne (tgt := 443) O dL_isWell_423 (by decide) (fun _ => ?_) (fun c => absurd c (by decide))
    refine cp_iconst O dL_isWell_443 (v := 0) rfl ?_
    refine cp_ior O dL_isWell_444 ?_
    have hrr : cp_st (cp_fr (cp_tP N)) k ||| 0 = cp_st (cp_fr (cp_tP N)) (k + 1) := cp_st_f (by omega) (by unfold cp_fr; rw [h4]; rfl)
    rw [hrr]
    refine cp_istore O dL_isWell_445 (by decide) (cp_ls6 rfl) ?_
    refine cp_iinc O dL_isWell_447 cp_lg8 (cp_inc rfl) (by decide) (cp_ls8 rfl) ?_
    refine cp_goto (tgt := 87) O dL_isWell_450 (by decide) ?_
    exact cp_Gw (cp_lws (cp_lws (cp_lws (cp_lws (cp_lws (cp_lws (cp_lws (cp_lws (cp_lws (cp_lwn (cp_lws (cp_lws (cp_lws (cp_lws (cp_lws cp_lw0))))))))))))))) (K _ hW hq)
  · refine cp_aload_n O dL_isWell_362 cp_lg0 ?_
    refine cp_iload O dL_isWell_363 cp_lg8 ?_
    refine cp_iconst O dL_isWell_365 (v := 3) rfl ?_
    refine cp_cVi O me_X6_ofPiece mi_X6_ofPiece ml_L_28 cp_cX6 hW.s (tw_ofPieceE hW (cp_f_ofP (f := 3) hn24 hk (by decide))) dL_isWell_366 rfl rfl ⟨Nat.le_of_ble_eq_true rfl, Nat.le_of_ble_eq_true rfl⟩ ⟨Nat.le_refl _, Nat.le_refl _⟩ (Nat.le_of_ble_eq_true rfl) ?_
    refine cp_iconst O dL_isWell_369 (v := 1) rfl ?_
    refine cp_icmp_ne (tgt := 377) O dL_isWell_370 (by decide) (fun c => absurd c (fun z => z (w7.resolve_left c_359))) (fun _ => ?_)
    refine cp_iconst O dL_isWell_373 (v := 1) rfl ?_
    refine cp_goto (tgt := 378) O dL_isWell_374 (by decide) ?_
    refine cp_istore O dL_isWell_378 (by decide) (cp_ls7 rfl) ?_
    refine cp_iload O dL_isWell_380 cp_lg4 ?_
    refine cp_iload O dL_isWell_382 cp_lg9 ?_
    refine cp_iconst O dL_isWell_384 (v := 3) rfl ?_
    refine cp_icmp_ge (tgt := 398) O dL_isWell_385 (by decide) (fun c => absurd c (by decide)) (fun _ => ?_)
    refine cp_aload_n O dL_isWell_388 cp_lg0 ?_
    refine cp_iload O dL_isWell_389 cp_lg8 ?_
    refine cp_iconst O dL_isWell_391 (v := 5) rfl ?_
    refine cp_cVi O me_X6_ofPiece mi_X6_ofPiece ml_L_28 cp_cX6 hW.s (tw_ofPieceE hW (cp_f_ofP (f := 5) hn24 hk (by decide))) dL_isWell_392 rfl rfl ⟨Nat.le_of_ble_eq_true rfl, Nat.le_of_ble_eq_true rfl⟩ ⟨Nat.le_refl _, Nat.le_refl _⟩ (Nat.le_of_ble_eq_true rfl) ?_
    refine cp_goto (tgt := 399) O dL_isWell_395 (by decide) ?_
    refine cp_iadd O dL_isWell_399 ?_
    rw [hh]
    refine cp_istore O dL_isWell_400 (by decide) (cp_ls4 rfl) ?_
    refine cp_iload O dL_isWell_402 cp_lg5 ?_
    refine cp_iload O dL_isWell_404 cp_lg9 ?_
    refine cp_iconst O dL_isWell_406 (v := 3) rfl ?_
    refine cp_icmp_ne (tgt := 414) O dL_isWell_407 (by decide) (fun _ => ?_) (fun c => absurd c (by decide))
    refine cp_iconst O dL_isWell_414 (v := 0) rfl ?_
    refine cp_iadd O dL_isWell_415 ?_
    rw [hkk]
    refine cp_istore O dL_isWell_416 (by decide) (cp_ls5 rfl) ?_
    refine cp_iload O dL_isWell_418 cp_lg6 ?_
    refine cp_iload O dL_isWell_420 cp_lg9 ?_
    refine cp_iconst O dL_isWell_422 (v := 2) rfl ?_
    refine cp_icmp_ne (tgt := 443) O dL_isWell_423 (by decide) (fun _ => ?_) (fun c => absurd c (by decide))
    refine cp_iconst O dL_isWell_443 (v := 0) rfl ?_
    refine cp_ior O dL_isWell_444 ?_
    have hrr : cp_st (cp_fr (cp_tP N)) k ||| 0 = cp_st (cp_fr (cp_tP N)) (k + 1) := cp_st_f (by omega) (by unfold cp_fr; rw [h4]; rfl)
    rw [hrr]
    refine cp_istore O dL_isWell_445 (by decide) (cp_ls6 rfl) ?_
    refine cp_iinc O dL_isWell_447 cp_lg8 (cp_inc rfl) (by decide) (cp_ls8 rfl) ?_
    refine cp_goto (tgt := 87) O dL_isWell_450 (by decide) ?_
    exact cp_Gw (cp_lws (cp_lws (cp_lws (cp_lws (cp_lws (cp_lws (cp_lws (cp_lws (cp_lws (cp_lwn (cp_lws (cp_lws (cp_lws (cp_lws (cp_lws cp_lw0))))))))))))))) (K _ hW hq)
set_option maxHeartbeats 4000000 in
set_option maxRecDepth 100000 in
theorem ww_c1 {x : cp_Cx} {E : cp_En} {cnt : Nat} {sh : cp_Shp} {R : cp_Rem} {I : cp_Mem} {co cq a1 a2 : Nat} {N : cp_Nt} (O : cp_Ok x E RL cL_isWell 15 5 2 12) (hA : cp_ar sh co cq a1 a2) (hW : cp_TW sh R I co cq N N) (hF : cp_WF N) {k : Nat} (hk : k < cp_tn N) (h4 : cp_tP N k 4 = 1) (hq : cp_aq I a1 a2 N (k + 1)) (K : ∀ I, cp_TW sh R I co cq N N → cp_aq I a1 a2 N (k + 1) → cp_G x E 15 2 12 cnt sh I R 87 [some (.ref co), some (.int (nI (cp_tn N))), some (.ref a1), some (.ref a2), some (.int (nI (cp_cnt (cp_hq N) (k + 1)))), some (.int (nI (cp_cnt (cp_kq N) (k + 1)))), some (.int (cp_st (cp_fr (cp_tP N)) (k + 1))), some (.int 1), some (.int (nI (k + 1))), none, none, none, none, none, none] []) : cp_G x E 15 2 12 cnt sh I R 328 [some (.ref co), some (.int (nI (cp_tn N))), some (.ref a1), some (.ref a2), some (.int (nI (cp_cnt (cp_hq N) k))), some (.int (nI (cp_cnt (cp_kq N) k))), some (.int (cp_st (cp_fr (cp_tP N)) k)), some (.int 1), some (.int (nI k)), some (.int 1), none, none, none, none, none] [] := by
  obtain ⟨hV, h8⟩ := hW.V
  have hn24 := hV.2.2.1.1
  obtain ⟨w0, w1, w2, w7⟩ := hF.2 k hk
  obtain ⟨⟨kl, kl1, kl2, kl3, ke, ke1, ke2⟩, -, p3, p5, -⟩ := hV.2.2.2.1 k hk
  have hle : ¬ cp_tP N k 1 < cp_tP N k 6 := by
    rw [kl3, ke2, nI_ltI (by omega) (by omega)]
    omega
  have hh : nI (cp_cnt (cp_hq N) k) + cp_tP N k 5 = nI (cp_cnt (cp_hq N) (k + 1)) := cp_acc (by
    unfold cp_hq
    rw [h4]
    rcases p5 with e | e <;> rw [e]
    · exact Or.inr ⟨by decide, rfl⟩
    · exact Or.inl ⟨by decide, rfl⟩)
  have hkk : nI (cp_cnt (cp_kq N) k) + 0 = nI (cp_cnt (cp_kq N) (k + 1)) := cp_acc (by
    unfold cp_kq
    rw [h4]
    exact Or.inr ⟨by decide, rfl⟩)
  refine cp_iload O dL_isWell_328 cp_lg7 ?_
  refine cp_if_eq (tgt := 377) O dL_isWell_330 (by decide) (fun c => absurd c (by decide)) (fun _ => ?_)
  refine cp_aload_n O dL_isWell_333 cp_lg0 ?_
  refine cp_iload O dL_isWell_334 cp_lg8 ?_
  refine cp_bipush O dL_isWell_336 (v := 6) rfl ?_
  refine cp_cVi O me_X6_ofPiece mi_X6_ofPiece ml_L_28 cp_cX6 hW.s (tw_ofPieceE hW (cp_f_ofP (f := 6) hn24 hk (by decide))) dL_isWell_338 rfl rfl ⟨Nat.le_of_ble_eq_true rfl, Nat.le_of_ble_eq_true rfl⟩ ⟨Nat.le_refl _, Nat.le_refl _⟩ (Nat.le_of_ble_eq_true rfl) ?_
  refine cp_aload_n O dL_isWell_341 cp_lg0 ?_
  refine cp_iload O dL_isWell_342 cp_lg8 ?_
  refine cp_iconst O dL_isWell_344 (v := 1) rfl ?_
  refine cp_cVi O me_X6_ofPiece mi_X6_ofPiece ml_L_28 cp_cX6 hW.s (tw_ofPieceE hW (cp_f_ofP (f := 1) hn24 hk (by decide))) dL_isWell_345 rfl rfl ⟨Nat.le_of_ble_eq_true rfl, Nat.le_of_ble_eq_true rfl⟩ ⟨Nat.le_refl _, Nat.le_refl _⟩ (Nat.le_of_ble_eq_true rfl) ?_
  refine cp_icmp_gt (tgt := 377) O dL_isWell_348 (by decide) (fun c => absurd c (hle)) (fun _ => ?_)
  refine cp_aload_n O dL_isWell_351 cp_lg0 ?_
  refine cp_iload O dL_isWell_352 cp_lg8 ?_
  refine cp_bipush O dL_isWell_354 (v := 7) rfl ?_
  refine cp_cVi O me_X6_ofPiece mi_X6_ofPiece ml_L_28 cp_cX6 hW.s (tw_ofPieceE hW (cp_f_ofP (f := 7) hn24 hk (by decide))) dL_isWell_356 rfl rfl ⟨Nat.le_of_ble_eq_true rfl, Nat.le_of_ble_eq_true rfl⟩ ⟨Nat.le_refl _, Nat.le_refl _⟩ (Nat.le_of_ble_eq_true rfl) ?_
  refine cp_if_eq (tgt := 373) O dL_isWell_359 (by decide) (fun c_359 => ?_) (fun c_359 => ?_)
  · refine cp_iconst O dL_isWell_373 (v := 1) rfl ?_
    refine cp_goto (tgt := 378) O dL_isWell_374 (by decide) ?_
    refine cp_istore O dL_isWell_378 (by decide) (cp_ls7 rfl) ?_
    refine cp_iload O dL_isWell_380 cp_lg4 ?_
    refine cp_iload O dL_isWell_382 cp_lg9 ?_
    refine cp_iconst O dL_isWell_384 (v := 3) rfl ?_
    refine cp_icmp_ge (tgt := 398) O dL_isWell_385 (by decide) (fun c => absurd c (by decide)) (fun _ => ?_)
    refine cp_aload_n O dL_isWell_388 cp_lg0 ?_
    refine cp_iload O dL_isWell_389 cp_lg8 ?_
    refine cp_iconst O dL_isWell_391 (v := 5) rfl ?_
    refine cp_cVi O me_X6_ofPiece mi_X6_ofPiece ml_L_28 cp_cX6 hW.s (tw_ofPieceE hW (cp_f_ofP (f := 5) hn24 hk (by decide))) dL_isWell_392 rfl rfl ⟨Nat.le_of_ble_eq_true rfl, Nat.le_of_ble_eq_true rfl⟩ ⟨Nat.le_refl _, Nat.le_refl _⟩ (Nat.le_of_ble_eq_true rfl) ?_
    refine cp_goto (tgt := 399) O dL_isWell_395 (by decide) ?_
    refine cp_iadd O dL_isWell_399 ?_
    rw [hh]
    refine cp_istore O dL_isWell_400 (by decide) (cp_ls4 rfl) ?_
    refine cp_iload O dL_isWell_402 cp_lg5 ?_
    refine cp_iload O dL_isWell_404 cp_lg9 ?_
    refine cp_iconst O dL_isWell_406 (v := 3) rfl ?_
    refine cp_icmp_ne (tgt := 414) O dL_isWell_407 (by decide) (fun _ => ?_) (fun c => absurd c (by decide))
    refine cp_iconst O dL_isWell_414 (v := 0) rfl ?_
    refine cp_iadd O dL_isWell_415 ?_
    rw [hkk]
    refine cp_istore O dL_isWell_416 (by decide) (cp_ls5 rfl) ?_
    refine cp_iload O dL_isWell_418 cp_lg6 ?_
    refine cp_iload O dL_isWell_420 cp_lg9 ?_
    refine cp_iconst O dL_isWell_422 (v := 2) rfl ?_
    refine cp_icmp_ne (tgt := 443) O dL_isWell_423 (by decide) (fun _ => ?_) (fun c => absurd c (by decide))
    refine cp_iconst O dL_isWell_443 (v := 0) rfl ?_
    refine cp_ior O dL_isWell_444 ?_
    have hrr : cp_st (cp_fr (cp_tP N)) k ||| 0 = cp_st (cp_fr (cp_tP N)) (k + 1) := cp_st_f (by omega) (by unfold cp_fr; rw [h4]; rfl)
    rw [hrr]
    refine cp_istore O dL_isWell_445 (by decide) (cp_ls6 rfl) ?_
    refine cp_iinc O dL_isWell_447 cp_lg8 (cp_inc rfl) (by decide) (cp_ls8 rfl) ?_
    refine cp_goto (tgt := 87) O dL_isWell_450 (by decide) ?_
    exact cp_Gw (cp_lws (cp_lws (cp_lws (cp_lws (cp_lws (cp_lws (cp_lws (cp_lws (cp_lws (cp_lwn (cp_lws (cp_lws (cp_lws (cp_lws (cp_lws cp_lw0))))))))))))))) (K _ hW hq)
  · refine cp_aload_n O dL_isWell_362 cp_lg0 ?_
    refine cp_iload O dL_isWell_363 cp_lg8 ?_
    refine cp_iconst O dL_isWell_365 (v := 3) rfl ?_
    refine cp_cVi O me_X6_ofPiece mi_X6_ofPiece ml_L_28 cp_cX6 hW.s (tw_ofPieceE hW (cp_f_ofP (f := 3) hn24 hk (by decide))) dL_isWell_366 rfl rfl ⟨Nat.le_of_ble_eq_true rfl, Nat.le_of_ble_eq_true rfl⟩ ⟨Nat.le_refl _, Nat.le_refl _⟩ (Nat.le_of_ble_eq_true rfl) ?_
    refine cp_iconst O dL_isWell_369 (v := 1) rfl ?_
    refine cp_icmp_ne (tgt := 377) O dL_isWell_370 (by decide) (fun c => absurd c (fun z => z (w7.resolve_left c_359))) (fun _ => ?_)
    refine cp_iconst O dL_isWell_373 (v := 1) rfl ?_
    refine cp_goto (tgt := 378) O dL_isWell_374 (by decide) ?_
    refine cp_istore O dL_isWell_378 (by decide) (cp_ls7 rfl) ?_
    refine cp_iload O dL_isWell_380 cp_lg4 ?_
    refine cp_iload O dL_isWell_382 cp_lg9 ?_
    refine cp_iconst O dL_isWell_384 (v := 3) rfl ?_
    refine cp_icmp_ge (tgt := 398) O dL_isWell_385 (by decide) (fun c => absurd c (by decide)) (fun _ => ?_)
    refine cp_aload_n O dL_isWell_388 cp_lg0 ?_
    refine cp_iload O dL_isWell_389 cp_lg8 ?_
    refine cp_iconst O dL_isWell_391 (v := 5) rfl ?_
    refine cp_cVi O me_X6_ofPiece mi_X6_ofPiece ml_L_28 cp_cX6 hW.s (tw_ofPieceE hW (cp_f_ofP (f := 5) hn24 hk (by decide))) dL_isWell_392 rfl rfl ⟨Nat.le_of_ble_eq_true rfl, Nat.le_of_ble_eq_true rfl⟩ ⟨Nat.le_refl _, Nat.le_refl _⟩ (Nat.le_of_ble_eq_true rfl) ?_
    refine cp_goto (tgt := 399) O dL_isWell_395 (by decide) ?_
    refine cp_iadd O dL_isWell_399 ?_
    rw [hh]
    refine cp_istore O dL_isWell_400 (by decide) (cp_ls4 rfl) ?_
    refine cp_iload O dL_isWell_402 cp_lg5 ?_
    refine cp_iload O dL_isWell_404 cp_lg9 ?_
    refine cp_iconst O dL_isWell_406 (v := 3) rfl ?_
    refine cp_icmp_ne (tgt := 414) O dL_isWell_407 (by decide) (fun _ => ?_) (fun c => absurd c (by decide))
    refine cp_iconst O dL_isWell_414 (v := 0) rfl ?_
    refine cp_iadd O dL_isWell_415 ?_
    rw [hkk]
    refine cp_istore O dL_isWell_416 (by decide) (cp_ls5 rfl) ?_
    refine cp_iload O dL_isWell_418 cp_lg6 ?_
    refine cp_iload O dL_isWell_420 cp_lg9 ?_
    refine cp_iconst O dL_isWell_422 (v := 2) rfl ?_
    refine cp_icmp_ne (tgt := 443) O dL_isWell_423 (by decide) (fun _ => ?_) (fun c => absurd c (by decide))
    refine cp_iconst O dL_isWell_443 (v := 0) rfl ?_
    refine cp_ior O dL_isWell_444 ?_
    have hrr : cp_st (cp_fr (cp_tP N)) k ||| 0 = cp_st (cp_fr (cp_tP N)) (k + 1) := cp_st_f (by omega) (by unfold cp_fr; rw [h4]; rfl)
    rw [hrr]
    refine cp_istore O dL_isWell_445 (by decide) (cp_ls6 rfl) ?_
    refine cp_iinc O dL_isWell_447 cp_lg8 (cp_inc rfl) (by decide) (cp_ls8 rfl) ?_
    refine cp_goto (tgt := 87) O dL_isWell_450 (by decide) ?_
    exact cp_Gw (cp_lws (cp_lws (cp_lws (cp_lws (cp_lws (cp_lws (cp_lws (cp_lws (cp_lws (cp_lwn (cp_lws (cp_lws (cp_lws (cp_lws (cp_lws cp_lw0))))))))))))))) (K _ hW hq)
set_option maxHeartbeats 4000000 in
set_option maxRecDepth 100000 in
theorem ww_c2 {x : cp_Cx} {E : cp_En} {cnt : Nat} {sh : cp_Shp} {R : cp_Rem} {I : cp_Mem} {co cq a1 a2 : Nat} {N : cp_Nt} (O : cp_Ok x E RL cL_isWell 15 5 2 12) (hA : cp_ar sh co cq a1 a2) (hW : cp_TW sh R I co cq N N) (hF : cp_WF N) {k : Nat} (hk : k < cp_tn N) (h4 : cp_tP N k 4 = 2) (hq : cp_aq I a1 a2 N (k + 1)) (K : ∀ I, cp_TW sh R I co cq N N → cp_aq I a1 a2 N (k + 1) → cp_G x E 15 2 12 cnt sh I R 87 [some (.ref co), some (.int (nI (cp_tn N))), some (.ref a1), some (.ref a2), some (.int (nI (cp_cnt (cp_hq N) (k + 1)))), some (.int (nI (cp_cnt (cp_kq N) (k + 1)))), some (.int (cp_st (cp_fr (cp_tP N)) (k + 1))), some (.int 1), some (.int (nI (k + 1))), none, none, none, none, none, none] []) : cp_G x E 15 2 12 cnt sh I R 328 [some (.ref co), some (.int (nI (cp_tn N))), some (.ref a1), some (.ref a2), some (.int (nI (cp_cnt (cp_hq N) k))), some (.int (nI (cp_cnt (cp_kq N) k))), some (.int (cp_st (cp_fr (cp_tP N)) k)), some (.int 1), some (.int (nI k)), some (.int 2), none, none, none, none, none] [] := by
  obtain ⟨hV, h8⟩ := hW.V
  have hn24 := hV.2.2.1.1
  obtain ⟨w0, w1, w2, w7⟩ := hF.2 k hk
  obtain ⟨⟨kl, kl1, kl2, kl3, ke, ke1, ke2⟩, -, p3, p5, -⟩ := hV.2.2.2.1 k hk
  have hle : ¬ cp_tP N k 1 < cp_tP N k 6 := by
    rw [kl3, ke2, nI_ltI (by omega) (by omega)]
    omega
  have hh : nI (cp_cnt (cp_hq N) k) + cp_tP N k 5 = nI (cp_cnt (cp_hq N) (k + 1)) := cp_acc (by
    unfold cp_hq
    rw [h4]
    rcases p5 with e | e <;> rw [e]
    · exact Or.inr ⟨by decide, rfl⟩
    · exact Or.inl ⟨by decide, rfl⟩)
  have hkk : nI (cp_cnt (cp_kq N) k) + 0 = nI (cp_cnt (cp_kq N) (k + 1)) := cp_acc (by
    unfold cp_kq
    rw [h4]
    exact Or.inr ⟨by decide, rfl⟩)
  refine cp_iload O dL_isWell_328 cp_lg7 ?_
  refine cp_if_eq (tgt := 377) O dL_isWell_330 (by decide) (fun c => absurd c (by decide)) (fun _ => ?_)
  refine cp_aload_n O dL_isWell_333 cp_lg0 ?_
  refine cp_iload O dL_isWell_334 cp_lg8 ?_
  refine cp_bipush O dL_isWell_336 (v := 6) rfl ?_
  refine cp_cVi O me_X6_ofPiece mi_X6_ofPiece ml_L_28 cp_cX6 hW.s (tw_ofPieceE hW (cp_f_ofP (f := 6) hn24 hk (by decide))) dL_isWell_338 rfl rfl ⟨Nat.le_of_ble_eq_true rfl, Nat.le_of_ble_eq_true rfl⟩ ⟨Nat.le_refl _, Nat.le_refl _⟩ (Nat.le_of_ble_eq_true rfl) ?_
  refine cp_aload_n O dL_isWell_341 cp_lg0 ?_
  refine cp_iload O dL_isWell_342 cp_lg8 ?_
  refine cp_iconst O dL_isWell_344 (v := 1) rfl ?_
  refine cp_cVi O me_X6_ofPiece mi_X6_ofPiece ml_L_28 cp_cX6 hW.s (tw_ofPieceE hW (cp_f_ofP (f := 1) hn24 hk (by decide))) dL_isWell_345 rfl rfl ⟨Nat.le_of_ble_eq_true rfl, Nat.le_of_ble_eq_true rfl⟩ ⟨Nat.le_refl _, Nat.le_refl _⟩ (Nat.le_of_ble_eq_true rfl) ?_
  refine cp_icmp_gt (tgt := 377) O dL_isWell_348 (by decide) (fun c => absurd c (hle)) (fun _ => ?_)
  refine cp_aload_n O dL_isWell_351 cp_lg0 ?_
  refine cp_iload O dL_isWell_352 cp_lg8 ?_
  refine cp_bipush O dL_isWell_354 (v := 7) rfl ?_
  refine cp_cVi O me_X6_ofPiece mi_X6_ofPiece ml_L_28 cp_cX6 hW.s (tw_ofPieceE hW (cp_f_ofP (f := 7) hn24 hk (by decide))) dL_isWell_356 rfl rfl ⟨Nat.le_of_ble_eq_true rfl, Nat.le_of_ble_eq_true rfl⟩ ⟨Nat.le_refl _, Nat.le_refl _⟩ (Nat.le_of_ble_eq_true rfl) ?_
  refine cp_if_eq (tgt := 373) O dL_isWell_359 (by decide) (fun c_359 => ?_) (fun c_359 => ?_)
  · refine cp_iconst O dL_isWell_373 (v := 1) rfl ?_
    refine cp_goto (tgt := 378) O dL_isWell_374 (by decide) ?_
    refine cp_istore O dL_isWell_378 (by decide) (cp_ls7 rfl) ?_
    refine cp_iload O dL_isWell_380 cp_lg4 ?_
    refine cp_iload O dL_isWell_382 cp_lg9 ?_
    refine cp_iconst O dL_isWell_384 (v := 3) rfl ?_
    refine cp_icmp_ge (tgt := 398) O dL_isWell_385 (by decide) (fun c => absurd c (by decide)) (fun _ => ?_)
    refine cp_aload_n O dL_isWell_388 cp_lg0 ?_
    refine cp_iload O dL_isWell_389 cp_lg8 ?_
    refine cp_iconst O dL_isWell_391 (v := 5) rfl ?_
    refine cp_cVi O me_X6_ofPiece mi_X6_ofPiece ml_L_28 cp_cX6 hW.s (tw_ofPieceE hW (cp_f_ofP (f := 5) hn24 hk (by decide))) dL_isWell_392 rfl rfl ⟨Nat.le_of_ble_eq_true rfl, Nat.le_of_ble_eq_true rfl⟩ ⟨Nat.le_refl _, Nat.le_refl _⟩ (Nat.le_of_ble_eq_true rfl) ?_
    refine cp_goto (tgt := 399) O dL_isWell_395 (by decide) ?_
    refine cp_iadd O dL_isWell_399 ?_
    rw [hh]
    refine cp_istore O dL_isWell_400 (by decide) (cp_ls4 rfl) ?_
    refine cp_iload O dL_isWell_402 cp_lg5 ?_
    refine cp_iload O dL_isWell_404 cp_lg9 ?_
    refine cp_iconst O dL_isWell_406 (v := 3) rfl ?_
    refine cp_icmp_ne (tgt := 414) O dL_isWell_407 (by decide) (fun _ => ?_) (fun c => absurd c (by decide))
    refine cp_iconst O dL_isWell_414 (v := 0) rfl ?_
    refine cp_iadd O dL_isWell_415 ?_
    rw [hkk]
    refine cp_istore O dL_isWell_416 (by decide) (cp_ls5 rfl) ?_
    refine cp_iload O dL_isWell_418 cp_lg6 ?_
    refine cp_iload O dL_isWell_420 cp_lg9 ?_
    refine cp_iconst O dL_isWell_422 (v := 2) rfl ?_
    refine cp_icmp_ne (tgt := 443) O dL_isWell_423 (by decide) (fun c => absurd c (by decide)) (fun _ => ?_)
    refine cp_aload_n O dL_isWell_426 cp_lg0 ?_
    refine cp_iload O dL_isWell_427 cp_lg8 ?_
    refine cp_iconst O dL_isWell_429 (v := 5) rfl ?_
    refine cp_cVi O me_X6_ofPiece mi_X6_ofPiece ml_L_28 cp_cX6 hW.s (tw_ofPieceE hW (cp_f_ofP (f := 5) hn24 hk (by decide))) dL_isWell_430 rfl rfl ⟨Nat.le_of_ble_eq_true rfl, Nat.le_of_ble_eq_true rfl⟩ ⟨Nat.le_refl _, Nat.le_refl _⟩ (Nat.le_of_ble_eq_true rfl) ?_
    refine cp_if_ne (tgt := 443) O dL_isWell_433 (by decide) (fun c_433 => ?_) (fun c_433 => ?_)
    · refine cp_iconst O dL_isWell_443 (v := 0) rfl ?_
      refine cp_ior O dL_isWell_444 ?_
      have hrr : cp_st (cp_fr (cp_tP N)) k ||| 0 = cp_st (cp_fr (cp_tP N)) (k + 1) := cp_st_f (by omega) (by unfold cp_fr; rw [decide_eq_false (show ¬ cp_tP N k 5 = 0 from c_433), Bool.and_false])
      rw [hrr]
      refine cp_istore O dL_isWell_445 (by decide) (cp_ls6 rfl) ?_
      refine cp_iinc O dL_isWell_447 cp_lg8 (cp_inc rfl) (by decide) (cp_ls8 rfl) ?_
      refine cp_goto (tgt := 87) O dL_isWell_450 (by decide) ?_
      exact cp_Gw (cp_lws (cp_lws (cp_lws (cp_lws (cp_lws (cp_lws (cp_lws (cp_lws (cp_lws (cp_lwn (cp_lws (cp_lws (cp_lws (cp_lws (cp_lws cp_lw0))))))))))))))) (K _ hW hq)
    · refine cp_iconst O dL_isWell_436 (v := 1) rfl ?_
      refine cp_iload O dL_isWell_437 cp_lg8 ?_
      refine cp_ishl O dL_isWell_439 ?_
      refine cp_goto (tgt := 444) O dL_isWell_440 (by decide) ?_
      refine cp_ior O dL_isWell_444 ?_
      have hrr : cp_st (cp_fr (cp_tP N)) k ||| ((1 : Int32) <<< (nI k &&& 31)) = cp_st (cp_fr (cp_tP N)) (k + 1) := cp_st_t (by unfold cp_fr; rw [decide_eq_true h4, decide_eq_true (show cp_tP N k 5 = 0 from c_433)]; rfl)
      rw [hrr]
      refine cp_istore O dL_isWell_445 (by decide) (cp_ls6 rfl) ?_
      refine cp_iinc O dL_isWell_447 cp_lg8 (cp_inc rfl) (by decide) (cp_ls8 rfl) ?_
      refine cp_goto (tgt := 87) O dL_isWell_450 (by decide) ?_
      exact cp_Gw (cp_lws (cp_lws (cp_lws (cp_lws (cp_lws (cp_lws (cp_lws (cp_lws (cp_lws (cp_lwn (cp_lws (cp_lws (cp_lws (cp_lws (cp_lws cp_lw0))))))))))))))) (K _ hW hq)
  · refine cp_aload_n O dL_isWell_362 cp_lg0 ?_
    refine cp_iload O dL_isWell_363 cp_lg8 ?_
    refine cp_iconst O dL_isWell_365 (v := 3) rfl ?_
    refine cp_cVi O me_X6_ofPiece mi_X6_ofPiece ml_L_28 cp_cX6 hW.s (tw_ofPieceE hW (cp_f_ofP (f := 3) hn24 hk (by decide))) dL_isWell_366 rfl rfl ⟨Nat.le_of_ble_eq_true rfl, Nat.le_of_ble_eq_true rfl⟩ ⟨Nat.le_refl _, Nat.le_refl _⟩ (Nat.le_of_ble_eq_true rfl) ?_
    refine cp_iconst O dL_isWell_369 (v := 1) rfl ?_
    refine cp_icmp_ne (tgt := 377) O dL_isWell_370 (by decide) (fun c => absurd c (fun z => z (w7.resolve_left c_359))) (fun _ => ?_)
    refine cp_iconst O dL_isWell_373 (v := 1) rfl ?_
    refine cp_goto (tgt := 378) O dL_isWell_374 (by decide) ?_
    refine cp_istore O dL_isWell_378 (by decide) (cp_ls7 rfl) ?_
    refine cp_iload O dL_isWell_380 cp_lg4 ?_
    refine cp_iload O dL_isWell_382 cp_lg9 ?_
    refine cp_iconst O dL_isWell_384 (v := 3) rfl ?_
    refine cp_icmp_ge (tgt := 398) O dL_isWell_385 (by decide) (fun c => absurd c (by decide)) (fun _ => ?_)
    refine cp_aload_n O dL_isWell_388 cp_lg0 ?_
    refine cp_iload O dL_isWell_389 cp_lg8 ?_
    refine cp_iconst O dL_isWell_391 (v := 5) rfl ?_
    refine cp_cVi O me_X6_ofPiece mi_X6_ofPiece ml_L_28 cp_cX6 hW.s (tw_ofPieceE hW (cp_f_ofP (f := 5) hn24 hk (by decide))) dL_isWell_392 rfl rfl ⟨Nat.le_of_ble_eq_true rfl, Nat.le_of_ble_eq_true rfl⟩ ⟨Nat.le_refl _, Nat.le_refl _⟩ (Nat.le_of_ble_eq_true rfl) ?_
    refine cp_goto (tgt := 399) O dL_isWell_395 (by decide) ?_
    refine cp_iadd O dL_isWell_399 ?_
    rw [hh]
    refine cp_istore O dL_isWell_400 (by decide) (cp_ls4 rfl) ?_
    refine cp_iload O dL_isWell_402 cp_lg5 ?_
    refine cp_iload O dL_isWell_404 cp_lg9 ?_
    refine cp_iconst O dL_isWell_406 (v := 3) rfl ?_
    refine cp_icmp_ne (tgt := 414) O dL_isWell_407 (by decide) (fun _ => ?_) (fun c => absurd c (by decide))
    refine cp_iconst O dL_isWell_414 (v := 0) rfl ?_
    refine cp_iadd O dL_isWell_415 ?_
    rw [hkk]
    refine cp_istore O dL_isWell_416 (by decide) (cp_ls5 rfl) ?_
    refine cp_iload O dL_isWell_418 cp_lg6 ?_
    refine cp_iload O dL_isWell_420 cp_lg9 ?_
    refine cp_iconst O dL_isWell_422 (v := 2) rfl ?_
    refine cp_icmp_ne (tgt := 443) O dL_isWell_423 (by decide) (fun c => absurd c (by decide)) (fun _ => ?_)
    refine cp_aload_n O dL_isWell_426 cp_lg0 ?_
    refine cp_iload O dL_isWell_427 cp_lg8 ?_
    refine cp_iconst O dL_isWell_429 (v := 5) rfl ?_
    refine cp_cVi O me_X6_ofPiece mi_X6_ofPiece ml_L_28 cp_cX6 hW.s (tw_ofPieceE hW (cp_f_ofP (f := 5) hn24 hk (by decide))) dL_isWell_430 rfl rfl ⟨Nat.le_of_ble_eq_true rfl, Nat.le_of_ble_eq_true rfl⟩ ⟨Nat.le_refl _, Nat.le_refl _⟩ (Nat.le_of_ble_eq_true rfl) ?_
    refine cp_if_ne (tgt := 443) O dL_isWell_433 (by decide) (fun c_433 => ?_) (fun c_433 => ?_)
    · refine cp_iconst O dL_isWell_443 (v := 0) rfl ?_
      refine cp_ior O dL_isWell_444 ?_
      have hrr : cp_st (cp_fr (cp_tP N)) k ||| 0 = cp_st (cp_fr (cp_tP N)) (k + 1) := cp_st_f (by omega) (by unfold cp_fr; rw [decide_eq_false (show ¬ cp_tP N k 5 = 0 from c_433), Bool.and_false])
      rw [hrr]
      refine cp_istore O dL_isWell_445 (by decide) (cp_ls6 rfl) ?_
      refine cp_iinc O dL_isWell_447 cp_lg8 (cp_inc rfl) (by decide) (cp_ls8 rfl) ?_
      refine cp_goto (tgt := 87) O dL_isWell_450 (by decide) ?_
      exact cp_Gw (cp_lws (cp_lws (cp_lws (cp_lws (cp_lws (cp_lws (cp_lws (cp_lws (cp_lws (cp_lwn (cp_lws (cp_lws (cp_lws (cp_lws (cp_lws cp_lw0))))))))))))))) (K _ hW hq)
    · refine cp_iconst O dL_isWell_436 (v := 1) rfl ?_
      refine cp_iload O dL_isWell_437 cp_lg8 ?_
      refine cp_ishl O dL_isWell_439 ?_
      refine cp_goto (tgt := 444) O dL_isWell_440 (by decide) ?_
      refine cp_ior O dL_isWell_444 ?_
      have hrr : cp_st (cp_fr (cp_tP N)) k ||| ((1 : Int32) <<< (nI k &&& 31)) = cp_st (cp_fr (cp_tP N)) (k + 1) := cp_st_t (by unfold cp_fr; rw [decide_eq_true h4, decide_eq_true (show cp_tP N k 5 = 0 from c_433)]; rfl)
      rw [hrr]
      refine cp_istore O dL_isWell_445 (by decide) (cp_ls6 rfl) ?_
      refine cp_iinc O dL_isWell_447 cp_lg8 (cp_inc rfl) (by decide) (cp_ls8 rfl) ?_
      refine cp_goto (tgt := 87) O dL_isWell_450 (by decide) ?_
      exact cp_Gw (cp_lws (cp_lws (cp_lws (cp_lws (cp_lws (cp_lws (cp_lws (cp_lws (cp_lws (cp_lwn (cp_lws (cp_lws (cp_lws (cp_lws (cp_lws cp_lw0))))))))))))))) (K _ hW hq)
set_option maxHeartbeats 4000000 in
set_option maxRecDepth 100000 in
theorem ww_c3 {x : cp_Cx} {E : cp_En} {cnt : Nat} {sh : cp_Shp} {R : cp_Rem} {I : cp_Mem} {co cq a1 a2 : Nat} {N : cp_Nt} (O : cp_Ok x E RL cL_isWell 15 5 2 12) (hA : cp_ar sh co cq a1 a2) (hW : cp_TW sh R I co cq N N) (hF : cp_WF N) {k : Nat} (hk : k < cp_tn N) (h4 : cp_tP N k 4 = 3) (hq : cp_aq I a1 a2 N (k + 1)) (K : ∀ I, cp_TW sh R I co cq N N → cp_aq I a1 a2 N (k + 1) → cp_G x E 15 2 12 cnt sh I R 87 [some (.ref co), some (.int (nI (cp_tn N))), some (.ref a1), some (.ref a2), some (.int (nI (cp_cnt (cp_hq N) (k + 1)))), some (.int (nI (cp_cnt (cp_kq N) (k + 1)))), some (.int (cp_st (cp_fr (cp_tP N)) (k + 1))), some (.int 1), some (.int (nI (k + 1))), none, none, none, none, none, none] []) : cp_G x E 15 2 12 cnt sh I R 328 [some (.ref co), some (.int (nI (cp_tn N))), some (.ref a1), some (.ref a2), some (.int (nI (cp_cnt (cp_hq N) k))), some (.int (nI (cp_cnt (cp_kq N) k))), some (.int (cp_st (cp_fr (cp_tP N)) k)), some (.int 1), some (.int (nI k)), some (.int 3), none, none, none, none, none] [] := by
  obtain ⟨hV, h8⟩ := hW.V
  have hn24 := hV.2.2.1.1
  obtain ⟨w0, w1, w2, w7⟩ := hF.2 k hk
  obtain ⟨⟨kl, kl1, kl2, kl3, ke, ke1, ke2⟩, -, p3, p5, -⟩ := hV.2.2.2.1 k hk
  have hle : ¬ cp_tP N k 1 < cp_tP N k 6 := by
    rw [kl3, ke2, nI_ltI (by omega) (by omega)]
    omega
  have hh : nI (cp_cnt (cp_hq N) k) + 0 = nI (cp_cnt (cp_hq N) (k + 1)) := cp_acc (by
    unfold cp_hq
    rw [h4]
    rcases p5 with e | e <;> rw [e]
    · exact Or.inr ⟨by decide, rfl⟩
    · exact Or.inr ⟨by decide, rfl⟩)
  have hkk : nI (cp_cnt (cp_kq N) k) + 1 = nI (cp_cnt (cp_kq N) (k + 1)) := cp_acc (by
    unfold cp_kq
    rw [h4]
    exact Or.inl ⟨by decide, rfl⟩)
  refine cp_iload O dL_isWell_328 cp_lg7 ?_
  refine cp_if_eq (tgt := 377) O dL_isWell_330 (by decide) (fun c => absurd c (by decide)) (fun _ => ?_)
  refine cp_aload_n O dL_isWell_333 cp_lg0 ?_
  refine cp_iload O dL_isWell_334 cp_lg8 ?_
  refine cp_bipush O dL_isWell_336 (v := 6) rfl ?_
  refine cp_cVi O me_X6_ofPiece mi_X6_ofPiece ml_L_28 cp_cX6 hW.s (tw_ofPieceE hW (cp_f_ofP (f := 6) hn24 hk (by decide))) dL_isWell_338 rfl rfl ⟨Nat.le_of_ble_eq_true rfl, Nat.le_of_ble_eq_true rfl⟩ ⟨Nat.le_refl _, Nat.le_refl _⟩ (Nat.le_of_ble_eq_true rfl) ?_
  refine cp_aload_n O dL_isWell_341 cp_lg0 ?_
  refine cp_iload O dL_isWell_342 cp_lg8 ?_
  refine cp_iconst O dL_isWell_344 (v := 1) rfl ?_
  refine cp_cVi O me_X6_ofPiece mi_X6_ofPiece ml_L_28 cp_cX6 hW.s (tw_ofPieceE hW (cp_f_ofP (f := 1) hn24 hk (by decide))) dL_isWell_345 rfl rfl ⟨Nat.le_of_ble_eq_true rfl, Nat.le_of_ble_eq_true rfl⟩ ⟨Nat.le_refl _, Nat.le_refl _⟩ (Nat.le_of_ble_eq_true rfl) ?_
  refine cp_icmp_gt (tgt := 377) O dL_isWell_348 (by decide) (fun c => absurd c (hle)) (fun _ => ?_)
  refine cp_aload_n O dL_isWell_351 cp_lg0 ?_
  refine cp_iload O dL_isWell_352 cp_lg8 ?_
  refine cp_bipush O dL_isWell_354 (v := 7) rfl ?_
  refine cp_cVi O me_X6_ofPiece mi_X6_ofPiece ml_L_28 cp_cX6 hW.s (tw_ofPieceE hW (cp_f_ofP (f := 7) hn24 hk (by decide))) dL_isWell_356 rfl rfl ⟨Nat.le_of_ble_eq_true rfl, Nat.le_of_ble_eq_true rfl⟩ ⟨Nat.le_refl _, Nat.le_refl _⟩ (Nat.le_of_ble_eq_true rfl) ?_
  refine cp_if_eq (tgt := 373) O dL_isWell_359 (by decide) (fun c_359 => ?_) (fun c_359 => ?_)
  · refine cp_iconst O dL_isWell_373 (v := 1) rfl ?_
    refine cp_goto (tgt := 378) O dL_isWell_374 (by decide) ?_
    refine cp_istore O dL_isWell_378 (by decide) (cp_ls7 rfl) ?_
    refine cp_iload O dL_isWell_380 cp_lg4 ?_
    refine cp_iload O dL_isWell_382 cp_lg9 ?_
    refine cp_iconst O dL_isWell_384 (v := 3) rfl ?_
    refine cp_icmp_ge (tgt := 398) O dL_isWell_385 (by decide) (fun _ => ?_) (fun c => absurd (by decide) c)
    refine cp_iconst O dL_isWell_398 (v := 0) rfl ?_
    refine cp_iadd O dL_isWell_399 ?_
    rw [hh]
    refine cp_istore O dL_isWell_400 (by decide) (cp_ls4 rfl) ?_
    refine cp_iload O dL_isWell_402 cp_lg5 ?_
    refine cp_iload O dL_isWell_404 cp_lg9 ?_
    refine cp_iconst O dL_isWell_406 (v := 3) rfl ?_
    refine cp_icmp_ne (tgt := 414) O dL_isWell_407 (by decide) (fun c => absurd c (by decide)) (fun _ => ?_)
    refine cp_iconst O dL_isWell_410 (v := 1) rfl ?_
    refine cp_goto (tgt := 415) O dL_isWell_411 (by decide) ?_
    refine cp_iadd O dL_isWell_415 ?_
    rw [hkk]
    refine cp_istore O dL_isWell_416 (by decide) (cp_ls5 rfl) ?_
    refine cp_iload O dL_isWell_418 cp_lg6 ?_
    refine cp_iload O dL_isWell_420 cp_lg9 ?_
    refine cp_iconst O dL_isWell_422 (v := 2) rfl ?_
    refine cp_icmp_ne (tgt := 443) O dL_isWell_423 (by decide) (fun _ => ?_) (fun c => absurd c (by decide))
    refine cp_iconst O dL_isWell_443 (v := 0) rfl ?_
    refine cp_ior O dL_isWell_444 ?_
    have hrr : cp_st (cp_fr (cp_tP N)) k ||| 0 = cp_st (cp_fr (cp_tP N)) (k + 1) := cp_st_f (by omega) (by unfold cp_fr; rw [h4]; rfl)
    rw [hrr]
    refine cp_istore O dL_isWell_445 (by decide) (cp_ls6 rfl) ?_
    refine cp_iinc O dL_isWell_447 cp_lg8 (cp_inc rfl) (by decide) (cp_ls8 rfl) ?_
    refine cp_goto (tgt := 87) O dL_isWell_450 (by decide) ?_
    exact cp_Gw (cp_lws (cp_lws (cp_lws (cp_lws (cp_lws (cp_lws (cp_lws (cp_lws (cp_lws (cp_lwn (cp_lws (cp_lws (cp_lws (cp_lws (cp_lws cp_lw0))))))))))))))) (K _ hW hq)
  · refine cp_aload_n O dL_isWell_362 cp_lg0 ?_
    refine cp_iload O dL_isWell_363 cp_lg8 ?_
    refine cp_iconst O dL_isWell_365 (v := 3) rfl ?_
    refine cp_cVi O me_X6_ofPiece mi_X6_ofPiece ml_L_28 cp_cX6 hW.s (tw_ofPieceE hW (cp_f_ofP (f := 3) hn24 hk (by decide))) dL_isWell_366 rfl rfl ⟨Nat.le_of_ble_eq_true rfl, Nat.le_of_ble_eq_true rfl⟩ ⟨Nat.le_refl _, Nat.le_refl _⟩ (Nat.le_of_ble_eq_true rfl) ?_
    refine cp_iconst O dL_isWell_369 (v := 1) rfl ?_
    refine cp_icmp_ne (tgt := 377) O dL_isWell_370 (by decide) (fun c => absurd c (fun z => z (w7.resolve_left c_359))) (fun _ => ?_)
    refine cp_iconst O dL_isWell_373 (v := 1) rfl ?_
    refine cp_goto (tgt := 378) O dL_isWell_374 (by decide) ?_
    refine cp_istore O dL_isWell_378 (by decide) (cp_ls7 rfl) ?_
    refine cp_iload O dL_isWell_380 cp_lg4 ?_
    refine cp_iload O dL_isWell_382 cp_lg9 ?_
    refine cp_iconst O dL_isWell_384 (v := 3) rfl ?_
    refine cp_icmp_ge (tgt := 398) O dL_isWell_385 (by decide) (fun _ => ?_) (fun c => absurd (by decide) c)
    refine cp_iconst O dL_isWell_398 (v := 0) rfl ?_
    refine cp_iadd O dL_isWell_399 ?_
    rw [hh]
    refine cp_istore O dL_isWell_400 (by decide) (cp_ls4 rfl) ?_
    refine cp_iload O dL_isWell_402 cp_lg5 ?_
    refine cp_iload O dL_isWell_404 cp_lg9 ?_
    refine cp_iconst O dL_isWell_406 (v := 3) rfl ?_
    refine cp_icmp_ne (tgt := 414) O dL_isWell_407 (by decide) (fun c => absurd c (by decide)) (fun _ => ?_)
    refine cp_iconst O dL_isWell_410 (v := 1) rfl ?_
    refine cp_goto (tgt := 415) O dL_isWell_411 (by decide) ?_
    refine cp_iadd O dL_isWell_415 ?_
    rw [hkk]
    refine cp_istore O dL_isWell_416 (by decide) (cp_ls5 rfl) ?_
    refine cp_iload O dL_isWell_418 cp_lg6 ?_
    refine cp_iload O dL_isWell_420 cp_lg9 ?_
    refine cp_iconst O dL_isWell_422 (v := 2) rfl ?_
    refine cp_icmp_ne (tgt := 443) O dL_isWell_423 (by decide) (fun _ => ?_) (fun c => absurd c (by decide))
    refine cp_iconst O dL_isWell_443 (v := 0) rfl ?_
    refine cp_ior O dL_isWell_444 ?_
    have hrr : cp_st (cp_fr (cp_tP N)) k ||| 0 = cp_st (cp_fr (cp_tP N)) (k + 1) := cp_st_f (by omega) (by unfold cp_fr; rw [h4]; rfl)
    rw [hrr]
    refine cp_istore O dL_isWell_445 (by decide) (cp_ls6 rfl) ?_
    refine cp_iinc O dL_isWell_447 cp_lg8 (cp_inc rfl) (by decide) (cp_ls8 rfl) ?_
    refine cp_goto (tgt := 87) O dL_isWell_450 (by decide) ?_
    exact cp_Gw (cp_lws (cp_lws (cp_lws (cp_lws (cp_lws (cp_lws (cp_lws (cp_lws (cp_lws (cp_lwn (cp_lws (cp_lws (cp_lws (cp_lws (cp_lws cp_lw0))))))))))))))) (K _ hW hq)
set_option maxHeartbeats 4000000 in
set_option maxRecDepth 100000 in
theorem ww_b0 {x : cp_Cx} {E : cp_En} {cnt : Nat} {sh : cp_Shp} {R : cp_Rem} {I : cp_Mem} {co cq a1 a2 : Nat} {N : cp_Nt} (O : cp_Ok x E RL cL_isWell 15 5 2 12) (hA : cp_ar sh co cq a1 a2) (hW : cp_TW sh R I co cq N N) (hF : cp_WF N) {k : Nat} (hk : k < cp_tn N) (h4 : cp_tP N k 4 = 0) (hq : cp_aq I a1 a2 N (k + 1)) (K : ∀ I, cp_TW sh R I co cq N N → cp_aq I a1 a2 N (k + 1) → cp_G x E 15 2 12 cnt sh I R 87 [some (.ref co), some (.int (nI (cp_tn N))), some (.ref a1), some (.ref a2), some (.int (nI (cp_cnt (cp_hq N) (k + 1)))), some (.int (nI (cp_cnt (cp_kq N) (k + 1)))), some (.int (cp_st (cp_fr (cp_tP N)) (k + 1))), some (.int 1), some (.int (nI (k + 1))), none, none, none, none, none, none] []) {v10 v11 : Int32} : cp_G x E 15 2 12 cnt sh I R 187 [some (.ref co), some (.int (nI (cp_tn N))), some (.ref a1), some (.ref a2), some (.int (nI (cp_cnt (cp_hq N) k))), some (.int (nI (cp_cnt (cp_kq N) k))), some (.int (cp_st (cp_fr (cp_tP N)) k)), some (.int 1), some (.int (nI k)), some (.int 0), some (.int v10), some (.int v11), none, none, none] [.int 1] := by
  obtain ⟨hV, h8⟩ := hW.V
  have hn24 := hV.2.2.1.1
  obtain ⟨w0, w1, w2, w7⟩ := hF.2 k hk
  obtain ⟨⟨kl, kl1, kl2, kl3, ke, ke1, ke2⟩, -, p3, p5, -⟩ := hV.2.2.2.1 k hk
  have wx := w0 h4
  refine cp_istore O dL_isWell_187 (by decide) (cp_ls7 rfl) ?_
  refine cp_iload O dL_isWell_189 cp_lg7 ?_
  refine cp_if_eq (tgt := 248) O dL_isWell_191 (by decide) (fun c => absurd c (by decide)) (fun _ => ?_)
  refine cp_iload O dL_isWell_194 cp_lg9 ?_
  refine cp_iconst O dL_isWell_196 (v := 1) rfl ?_
  refine cp_icmp_ne (tgt := 204) O dL_isWell_197 (by decide) (fun _ => ?_) (fun c => absurd c (by decide))
  refine cp_iconst O dL_isWell_204 (v := 0) rfl ?_
  refine cp_aload_n O dL_isWell_205 cp_lg0 ?_
  refine cp_iload O dL_isWell_206 cp_lg8 ?_
  refine cp_bipush O dL_isWell_208 (v := 6) rfl ?_
  refine cp_cVi O me_X6_ofPiece mi_X6_ofPiece ml_L_28 cp_cX6 hW.s (tw_ofPieceE hW (cp_f_ofP (f := 6) hn24 hk (by decide))) dL_isWell_210 rfl rfl ⟨Nat.le_of_ble_eq_true rfl, Nat.le_of_ble_eq_true rfl⟩ ⟨Nat.le_refl _, Nat.le_refl _⟩ (Nat.le_of_ble_eq_true rfl) ?_
  refine cp_aload_n O dL_isWell_213 cp_lg0 ?_
  refine cp_iload O dL_isWell_214 cp_lg8 ?_
  refine cp_iconst O dL_isWell_216 (v := 1) rfl ?_
  refine cp_cVi O me_X6_ofPiece mi_X6_ofPiece ml_L_28 cp_cX6 hW.s (tw_ofPieceE hW (cp_f_ofP (f := 1) hn24 hk (by decide))) dL_isWell_217 rfl rfl ⟨Nat.le_of_ble_eq_true rfl, Nat.le_of_ble_eq_true rfl⟩ ⟨Nat.le_refl _, Nat.le_refl _⟩ (Nat.le_of_ble_eq_true rfl) ?_
  refine cp_icmp_ne (tgt := 227) O dL_isWell_220 (by decide) (fun _ => ?_) (fun c => absurd c (wx.1))
  refine cp_iconst O dL_isWell_227 (v := 0) rfl ?_
  refine cp_icmp_ne (tgt := 248) O dL_isWell_228 (by decide) (fun c => absurd c (by decide)) (fun _ => ?_)
  refine cp_aload_n O dL_isWell_231 cp_lg0 ?_
  refine cp_iload O dL_isWell_232 cp_lg8 ?_
  refine cp_bipush O dL_isWell_234 (v := 9) rfl ?_
  refine cp_cVi O me_X6_ofPiece mi_X6_ofPiece ml_L_28 cp_cX6 hW.s (tw_ofPieceE hW ((cp_f_ofP9 hn24 hk).trans wx.2)) dL_isWell_236 rfl rfl ⟨Nat.le_of_ble_eq_true rfl, Nat.le_of_ble_eq_true rfl⟩ ⟨Nat.le_refl _, Nat.le_refl _⟩ (Nat.le_of_ble_eq_true rfl) ?_
  refine cp_bipush O dL_isWell_239 (v := (-6)) rfl ?_
  refine cp_icmp_ne (tgt := 248) O dL_isWell_241 (by decide) (fun c => absurd c (by decide)) (fun _ => ?_)
  refine cp_iconst O dL_isWell_244 (v := 1) rfl ?_
  refine cp_goto (tgt := 249) O dL_isWell_245 (by decide) ?_
  refine cp_istore O dL_isWell_249 (by decide) (cp_ls7 rfl) ?_
  refine cp_goto (tgt := 328) O dL_isWell_251 (by decide) ?_
  exact cp_Gw (cp_lws (cp_lws (cp_lws (cp_lws (cp_lws (cp_lws (cp_lws (cp_lws (cp_lws (cp_lws (cp_lwn (cp_lwn (cp_lws (cp_lws (cp_lws cp_lw0))))))))))))))) (ww_c0 O hA hW hF hk h4 hq K)
set_option maxHeartbeats 4000000 in
set_option maxRecDepth 100000 in
theorem ww_b1 {x : cp_Cx} {E : cp_En} {cnt : Nat} {sh : cp_Shp} {R : cp_Rem} {I : cp_Mem} {co cq a1 a2 : Nat} {N : cp_Nt} (O : cp_Ok x E RL cL_isWell 15 5 2 12) (hA : cp_ar sh co cq a1 a2) (hW : cp_TW sh R I co cq N N) (hF : cp_WF N) {k : Nat} (hk : k < cp_tn N) (h4 : cp_tP N k 4 = 1) (hq : cp_aq I a1 a2 N (k + 1)) (K : ∀ I, cp_TW sh R I co cq N N → cp_aq I a1 a2 N (k + 1) → cp_G x E 15 2 12 cnt sh I R 87 [some (.ref co), some (.int (nI (cp_tn N))), some (.ref a1), some (.ref a2), some (.int (nI (cp_cnt (cp_hq N) (k + 1)))), some (.int (nI (cp_cnt (cp_kq N) (k + 1)))), some (.int (cp_st (cp_fr (cp_tP N)) (k + 1))), some (.int 1), some (.int (nI (k + 1))), none, none, none, none, none, none] []) {v10 v11 : Int32} : cp_G x E 15 2 12 cnt sh I R 187 [some (.ref co), some (.int (nI (cp_tn N))), some (.ref a1), some (.ref a2), some (.int (nI (cp_cnt (cp_hq N) k))), some (.int (nI (cp_cnt (cp_kq N) k))), some (.int (cp_st (cp_fr (cp_tP N)) k)), some (.int 1), some (.int (nI k)), some (.int 1), some (.int v10), some (.int v11), none, none, none] [.int 1] := by
  obtain ⟨hV, h8⟩ := hW.V
  have hn24 := hV.2.2.1.1
  obtain ⟨w0, w1, w2, w7⟩ := hF.2 k hk
  obtain ⟨⟨kl, kl1, kl2, kl3, ke, ke1, ke2⟩, -, p3, p5, -⟩ := hV.2.2.2.1 k hk
  have wx := w1 h4
  refine cp_istore O dL_isWell_187 (by decide) (cp_ls7 rfl) ?_
  refine cp_iload O dL_isWell_189 cp_lg7 ?_
  refine cp_if_eq (tgt := 248) O dL_isWell_191 (by decide) (fun c => absurd c (by decide)) (fun _ => ?_)
  refine cp_iload O dL_isWell_194 cp_lg9 ?_
  refine cp_iconst O dL_isWell_196 (v := 1) rfl ?_
  refine cp_icmp_ne (tgt := 204) O dL_isWell_197 (by decide) (fun c => absurd c (by decide)) (fun _ => ?_)
  refine cp_iconst O dL_isWell_200 (v := 1) rfl ?_
  refine cp_goto (tgt := 205) O dL_isWell_201 (by decide) ?_
  refine cp_aload_n O dL_isWell_205 cp_lg0 ?_
  refine cp_iload O dL_isWell_206 cp_lg8 ?_
  refine cp_bipush O dL_isWell_208 (v := 6) rfl ?_
  refine cp_cVi O me_X6_ofPiece mi_X6_ofPiece ml_L_28 cp_cX6 hW.s (tw_ofPieceE hW (cp_f_ofP (f := 6) hn24 hk (by decide))) dL_isWell_210 rfl rfl ⟨Nat.le_of_ble_eq_true rfl, Nat.le_of_ble_eq_true rfl⟩ ⟨Nat.le_refl _, Nat.le_refl _⟩ (Nat.le_of_ble_eq_true rfl) ?_
  refine cp_aload_n O dL_isWell_213 cp_lg0 ?_
  refine cp_iload O dL_isWell_214 cp_lg8 ?_
  refine cp_iconst O dL_isWell_216 (v := 1) rfl ?_
  refine cp_cVi O me_X6_ofPiece mi_X6_ofPiece ml_L_28 cp_cX6 hW.s (tw_ofPieceE hW (cp_f_ofP (f := 1) hn24 hk (by decide))) dL_isWell_217 rfl rfl ⟨Nat.le_of_ble_eq_true rfl, Nat.le_of_ble_eq_true rfl⟩ ⟨Nat.le_refl _, Nat.le_refl _⟩ (Nat.le_of_ble_eq_true rfl) ?_
  refine cp_icmp_ne (tgt := 227) O dL_isWell_220 (by decide) (fun c => absurd c (fun z => z wx.1)) (fun _ => ?_)
  refine cp_iconst O dL_isWell_223 (v := 1) rfl ?_
  refine cp_goto (tgt := 228) O dL_isWell_224 (by decide) ?_
  refine cp_icmp_ne (tgt := 248) O dL_isWell_228 (by decide) (fun c => absurd c (by decide)) (fun _ => ?_)
  refine cp_aload_n O dL_isWell_231 cp_lg0 ?_
  refine cp_iload O dL_isWell_232 cp_lg8 ?_
  refine cp_bipush O dL_isWell_234 (v := 9) rfl ?_
  refine cp_cVi O me_X6_ofPiece mi_X6_ofPiece ml_L_28 cp_cX6 hW.s (tw_ofPieceE hW ((cp_f_ofP9 hn24 hk).trans wx.2.1)) dL_isWell_236 rfl rfl ⟨Nat.le_of_ble_eq_true rfl, Nat.le_of_ble_eq_true rfl⟩ ⟨Nat.le_refl _, Nat.le_refl _⟩ (Nat.le_of_ble_eq_true rfl) ?_
  refine cp_bipush O dL_isWell_239 (v := (-6)) rfl ?_
  refine cp_icmp_ne (tgt := 248) O dL_isWell_241 (by decide) (fun c => absurd c (by decide)) (fun _ => ?_)
  refine cp_iconst O dL_isWell_244 (v := 1) rfl ?_
  refine cp_goto (tgt := 249) O dL_isWell_245 (by decide) ?_
  refine cp_istore O dL_isWell_249 (by decide) (cp_ls7 rfl) ?_
  refine cp_goto (tgt := 328) O dL_isWell_251 (by decide) ?_
  exact cp_Gw (cp_lws (cp_lws (cp_lws (cp_lws (cp_lws (cp_lws (cp_lws (cp_lws (cp_lws (cp_lws (cp_lwn (cp_lwn (cp_lws (cp_lws (cp_lws cp_lw0))))))))))))))) (ww_c1 O hA hW hF hk h4 hq K)
set_option maxHeartbeats 4000000 in
set_option maxRecDepth 100000 in
theorem ww_a0 {x : cp_Cx} {E : cp_En} {cnt : Nat} {sh : cp_Shp} {R : cp_Rem} {I : cp_Mem} {co cq a1 a2 : Nat} {N : cp_Nt} (O : cp_Ok x E RL cL_isWell 15 5 2 12) (hA : cp_ar sh co cq a1 a2) (hW : cp_TW sh R I co cq N N) (hF : cp_WF N) {k : Nat} (hk : k < cp_tn N) (h4 : cp_tP N k 4 = 0) (hq : cp_aq I a1 a2 N k) (K : ∀ I, cp_TW sh R I co cq N N → cp_aq I a1 a2 N (k + 1) → cp_G x E 15 2 12 cnt sh I R 87 [some (.ref co), some (.int (nI (cp_tn N))), some (.ref a1), some (.ref a2), some (.int (nI (cp_cnt (cp_hq N) (k + 1)))), some (.int (nI (cp_cnt (cp_kq N) (k + 1)))), some (.int (cp_st (cp_fr (cp_tP N)) (k + 1))), some (.int 1), some (.int (nI (k + 1))), none, none, none, none, none, none] []) : cp_G x E 15 2 12 cnt sh I R 98 [some (.ref co), some (.int (nI (cp_tn N))), some (.ref a1), some (.ref a2), some (.int (nI (cp_cnt (cp_hq N) k))), some (.int (nI (cp_cnt (cp_kq N) k))), some (.int (cp_st (cp_fr (cp_tP N)) k)), some (.int 1), some (.int (nI k)), none, none, none, none, none, none] [] := by
  obtain ⟨hV, h8⟩ := hW.V
  have hn24 := hV.2.2.1.1
  obtain ⟨w0, w1, w2, w7⟩ := hF.2 k hk
  obtain ⟨⟨kl, kl1, kl2, kl3, ke, ke1, ke2⟩, -, p3, p5, -⟩ := hV.2.2.2.1 k hk
  obtain ⟨d, hd, hd0, hm, hpl, ho⟩ := cp_LQ_0 hV.2.2.1 hk h4
  have hq6 : d < 6 := (by omega)
  have hne := hA.2.2.1
  have hrd : ¬ (1 : Int32) ≤ cp_sReady N (nI k) → cp_sReady N (nI k) = -6 := fun z => by
    rcases cp_f_rd hn24 hk (by rw [h4]; decide) (by rw [h4]; decide) with e | ⟨j, j1, j2, e⟩
    · exact e
    · exact absurd (by rw [e]; exact (nI_leI (a := 1) (by decide) (by omega)).mpr j1) z
  refine cp_aload_n O dL_isWell_98 cp_lg0 ?_
  refine cp_iload O dL_isWell_99 cp_lg8 ?_
  refine cp_iconst O dL_isWell_101 (v := 4) rfl ?_
  refine cp_cVi O me_X6_ofPiece mi_X6_ofPiece ml_L_28 cp_cX6 hW.s (tw_ofPieceE hW ((cp_f_ofP (f := 4) hn24 hk (by decide)).trans h4)) dL_isWell_102 rfl rfl ⟨Nat.le_of_ble_eq_true rfl, Nat.le_of_ble_eq_true rfl⟩ ⟨Nat.le_refl _, Nat.le_refl _⟩ (Nat.le_of_ble_eq_true rfl) ?_
  refine cp_istore O dL_isWell_105 (by decide) (cp_ls9 rfl) ?_
  refine cp_aload_n O dL_isWell_107 cp_lg0 ?_
  refine cp_iload O dL_isWell_108 cp_lg8 ?_
  refine cp_bipush O dL_isWell_110 (v := 8) rfl ?_
  refine cp_cVi O me_X6_ofPiece mi_X6_ofPiece ml_L_28 cp_cX6 hW.s (tw_ofPieceE hW ((cp_f_ofP8 hn24 hk).trans hpl)) dL_isWell_112 rfl rfl ⟨Nat.le_of_ble_eq_true rfl, Nat.le_of_ble_eq_true rfl⟩ ⟨Nat.le_refl _, Nat.le_refl _⟩ (Nat.le_of_ble_eq_true rfl) ?_
  refine cp_istore O dL_isWell_115 (by decide) (cp_ls10 rfl) ?_
  refine cp_iload O dL_isWell_117 cp_lg9 ?_
  refine cp_iconst O dL_isWell_119 (v := 2) rfl ?_
  refine cp_icmp_ge (tgt := 254) O dL_isWell_120 (by decide) (fun c => absurd c (by decide)) (fun _ => ?_)
  refine cp_iload O dL_isWell_123 cp_lg9 ?_
  refine cp_iconst O dL_isWell_125 (v := 1) rfl ?_
  refine cp_icmp_ne (tgt := 133) O dL_isWell_126 (by decide) (fun _ => ?_) (fun c => absurd c (by decide))
  refine cp_aload_n O dL_isWell_133 cp_lg0 ?_
  refine cp_iload O dL_isWell_134 cp_lg8 ?_
  refine cp_iconst O dL_isWell_136 (v := 0) rfl ?_
  refine cp_cVi O me_X6_ofPiece mi_X6_ofPiece ml_L_28 cp_cX6 hW.s (tw_ofPieceE hW ((cp_f_ofP (f := 0) hn24 hk (by decide)).trans hd0)) dL_isWell_137 rfl rfl ⟨Nat.le_of_ble_eq_true rfl, Nat.le_of_ble_eq_true rfl⟩ ⟨Nat.le_refl _, Nat.le_refl _⟩ (Nat.le_of_ble_eq_true rfl) ?_
  refine cp_istore O dL_isWell_140 (by decide) (cp_ls11 rfl) ?_
  refine cp_aload_n O dL_isWell_142 cp_lg2 ?_
  refine cp_iload O dL_isWell_143 cp_lg11 ?_
  refine cp_dup2 O dL_isWell_145 rfl rfl ?_
  refine cp_iald O hA.1 (j := d) rfl (by omega) (by decide) dL_isWell_146 ?_
  rw [(hq d hq6).1]
  refine cp_iconst O dL_isWell_147 (v := 1) rfl ?_
  refine cp_iload O dL_isWell_148 cp_lg10 ?_
  refine cp_ishl O dL_isWell_150 ?_
  refine cp_ior O dL_isWell_151 ?_
  rw [cp_pls_i hm]
  refine cp_iast O hA.1 (j := d) rfl (by omega) (by decide) dL_isWell_152 ?_
  refine cp_aload_n O dL_isWell_153 cp_lg3 ?_
  refine cp_iload O dL_isWell_154 cp_lg11 ?_
  refine cp_dup2 O dL_isWell_156 rfl rfl ?_
  refine cp_iald O hA.2.1 (j := d) rfl (by omega) (by decide) dL_isWell_157 ?_
  rw [cp_wi_a _ _ _ _ (Ne.symm hne), (hq d hq6).2]
  refine cp_iconst O dL_isWell_158 (v := 1) rfl ?_
  refine cp_iadd O dL_isWell_159 ?_
  rw [cp_mny_i hm]
  refine cp_iast O hA.2.1 (j := d) rfl (by omega) (by decide) dL_isWell_160 ?_
  have hW1 := cp_ar_w2 (j := d) (v := nI (cp_mny (cp_LQ N d) (k + 1))) hA (cp_ar_w1 (j := d) (v := cp_pls (cp_LQ N d) (k + 1)) hA hW)
  have hq1 := cp_aq_in hq hne hm ho
  refine cp_aload_n O dL_isWell_161 cp_lg0 ?_
  refine cp_iload O dL_isWell_162 cp_lg8 ?_
  refine cp_cVir O me_X6_readyIn mi_X6_readyIn ml_L_59 cp_cX6 hW1.s (tw_readyIn hW1) dL_isWell_164 rfl rfl ⟨Nat.le_of_ble_eq_true rfl, Nat.le_of_ble_eq_true rfl⟩ ⟨Nat.le_refl _, Nat.le_refl _⟩ (Nat.le_of_ble_eq_true rfl) (fun I164 hT164 => ?_)
  have hW164 := hT164.1
  have hq2 := cp_aq_oc hq1 hA hT164.2
  refine cp_iconst O dL_isWell_167 (v := 1) rfl ?_
  refine cp_icmp_ge (tgt := 182) O dL_isWell_168 (by decide) (fun c_168 => ?_) (fun c_168 => ?_)
  · refine cp_iconst O dL_isWell_182 (v := 1) rfl ?_
    refine cp_goto (tgt := 187) O dL_isWell_183 (by decide) ?_
    exact ww_b0 O hA hW164 hF hk h4 hq2 K
  · refine cp_aload_n O dL_isWell_171 cp_lg0 ?_
    refine cp_iload O dL_isWell_172 cp_lg8 ?_
    refine cp_cVir O me_X6_readyIn mi_X6_readyIn ml_L_59 cp_cX6 hW164.s (tw_readyIn hW164) dL_isWell_174 rfl rfl ⟨Nat.le_of_ble_eq_true rfl, Nat.le_of_ble_eq_true rfl⟩ ⟨Nat.le_refl _, Nat.le_refl _⟩ (Nat.le_of_ble_eq_true rfl) (fun I174 hT174 => ?_)
    have hW174 := hT174.1
    have hq3 := cp_aq_oc hq2 hA hT174.2
    refine cp_bipush O dL_isWell_177 (v := (-6)) rfl ?_
    refine cp_icmp_ne (tgt := 186) O dL_isWell_179 (by decide) (fun c => absurd c (fun z => z (hrd c_168))) (fun _ => ?_)
    refine cp_iconst O dL_isWell_182 (v := 1) rfl ?_
    refine cp_goto (tgt := 187) O dL_isWell_183 (by decide) ?_
    exact ww_b0 O hA hW174 hF hk h4 hq3 K
set_option maxHeartbeats 4000000 in
set_option maxRecDepth 100000 in
theorem ww_a1 {x : cp_Cx} {E : cp_En} {cnt : Nat} {sh : cp_Shp} {R : cp_Rem} {I : cp_Mem} {co cq a1 a2 : Nat} {N : cp_Nt} (O : cp_Ok x E RL cL_isWell 15 5 2 12) (hA : cp_ar sh co cq a1 a2) (hW : cp_TW sh R I co cq N N) (hF : cp_WF N) {k : Nat} (hk : k < cp_tn N) (h4 : cp_tP N k 4 = 1) (hq : cp_aq I a1 a2 N k) (K : ∀ I, cp_TW sh R I co cq N N → cp_aq I a1 a2 N (k + 1) → cp_G x E 15 2 12 cnt sh I R 87 [some (.ref co), some (.int (nI (cp_tn N))), some (.ref a1), some (.ref a2), some (.int (nI (cp_cnt (cp_hq N) (k + 1)))), some (.int (nI (cp_cnt (cp_kq N) (k + 1)))), some (.int (cp_st (cp_fr (cp_tP N)) (k + 1))), some (.int 1), some (.int (nI (k + 1))), none, none, none, none, none, none] []) : cp_G x E 15 2 12 cnt sh I R 98 [some (.ref co), some (.int (nI (cp_tn N))), some (.ref a1), some (.ref a2), some (.int (nI (cp_cnt (cp_hq N) k))), some (.int (nI (cp_cnt (cp_kq N) k))), some (.int (cp_st (cp_fr (cp_tP N)) k)), some (.int 1), some (.int (nI k)), none, none, none, none, none, none] [] := by
  obtain ⟨hV, h8⟩ := hW.V
  have hn24 := hV.2.2.1.1
  obtain ⟨w0, w1, w2, w7⟩ := hF.2 k hk
  obtain ⟨⟨kl, kl1, kl2, kl3, ke, ke1, ke2⟩, -, p3, p5, -⟩ := hV.2.2.2.1 k hk
  obtain ⟨hm, hpl, ho⟩ := cp_LQ_1 hV.2.2.1 hk h4
  have hq6 : 5 < 6 := (by decide)
  have hne := hA.2.2.1
  have hrd : ¬ (1 : Int32) ≤ cp_sReady N (nI k) → cp_sReady N (nI k) = -6 := fun z => by
    rcases cp_f_rd hn24 hk (by rw [h4]; decide) (by rw [h4]; decide) with e | ⟨j, j1, j2, e⟩
    · exact e
    · exact absurd (by rw [e]; exact (nI_leI (a := 1) (by decide) (by omega)).mpr j1) z
  refine cp_aload_n O dL_isWell_98 cp_lg0 ?_
  refine cp_iload O dL_isWell_99 cp_lg8 ?_
  refine cp_iconst O dL_isWell_101 (v := 4) rfl ?_
  refine cp_cVi O me_X6_ofPiece mi_X6_ofPiece ml_L_28 cp_cX6 hW.s (tw_ofPieceE hW ((cp_f_ofP (f := 4) hn24 hk (by decide)).trans h4)) dL_isWell_102 rfl rfl ⟨Nat.le_of_ble_eq_true rfl, Nat.le_of_ble_eq_true rfl⟩ ⟨Nat.le_refl _, Nat.le_refl _⟩ (Nat.le_of_ble_eq_true rfl) ?_
  refine cp_istore O dL_isWell_105 (by decide) (cp_ls9 rfl) ?_
  refine cp_aload_n O dL_isWell_107 cp_lg0 ?_
  refine cp_iload O dL_isWell_108 cp_lg8 ?_
  refine cp_bipush O dL_isWell_110 (v := 8) rfl ?_
  refine cp_cVi O me_X6_ofPiece mi_X6_ofPiece ml_L_28 cp_cX6 hW.s (tw_ofPieceE hW ((cp_f_ofP8 hn24 hk).trans hpl)) dL_isWell_112 rfl rfl ⟨Nat.le_of_ble_eq_true rfl, Nat.le_of_ble_eq_true rfl⟩ ⟨Nat.le_refl _, Nat.le_refl _⟩ (Nat.le_of_ble_eq_true rfl) ?_
  refine cp_istore O dL_isWell_115 (by decide) (cp_ls10 rfl) ?_
  refine cp_iload O dL_isWell_117 cp_lg9 ?_
  refine cp_iconst O dL_isWell_119 (v := 2) rfl ?_
  refine cp_icmp_ge (tgt := 254) O dL_isWell_120 (by decide) (fun c => absurd c (by decide)) (fun _ => ?_)
  refine cp_iload O dL_isWell_123 cp_lg9 ?_
  refine cp_iconst O dL_isWell_125 (v := 1) rfl ?_
  refine cp_icmp_ne (tgt := 133) O dL_isWell_126 (by decide) (fun c => absurd c (by decide)) (fun _ => ?_)
  refine cp_iconst O dL_isWell_129 (v := 5) rfl ?_
  refine cp_goto (tgt := 140) O dL_isWell_130 (by decide) ?_
  refine cp_istore O dL_isWell_140 (by decide) (cp_ls11 rfl) ?_
  refine cp_aload_n O dL_isWell_142 cp_lg2 ?_
  refine cp_iload O dL_isWell_143 cp_lg11 ?_
  refine cp_dup2 O dL_isWell_145 rfl rfl ?_
  refine cp_iald O hA.1 (j := 5) rfl (by decide) (by decide) dL_isWell_146 ?_
  rw [(hq 5 hq6).1]
  refine cp_iconst O dL_isWell_147 (v := 1) rfl ?_
  refine cp_iload O dL_isWell_148 cp_lg10 ?_
  refine cp_ishl O dL_isWell_150 ?_
  refine cp_ior O dL_isWell_151 ?_
  rw [cp_pls_i hm]
  refine cp_iast O hA.1 (j := 5) rfl (by decide) (by decide) dL_isWell_152 ?_
  refine cp_aload_n O dL_isWell_153 cp_lg3 ?_
  refine cp_iload O dL_isWell_154 cp_lg11 ?_
  refine cp_dup2 O dL_isWell_156 rfl rfl ?_
  refine cp_iald O hA.2.1 (j := 5) rfl (by decide) (by decide) dL_isWell_157 ?_
  rw [cp_wi_a _ _ _ _ (Ne.symm hne), (hq 5 hq6).2]
  refine cp_iconst O dL_isWell_158 (v := 1) rfl ?_
  refine cp_iadd O dL_isWell_159 ?_
  rw [cp_mny_i hm]
  refine cp_iast O hA.2.1 (j := 5) rfl (by decide) (by decide) dL_isWell_160 ?_
  have hW1 := cp_ar_w2 (j := 5) (v := nI (cp_mny (cp_LQ N 5) (k + 1))) hA (cp_ar_w1 (j := 5) (v := cp_pls (cp_LQ N 5) (k + 1)) hA hW)
  have hq1 := cp_aq_in hq hne hm ho
  refine cp_aload_n O dL_isWell_161 cp_lg0 ?_
  refine cp_iload O dL_isWell_162 cp_lg8 ?_
  refine cp_cVir O me_X6_readyIn mi_X6_readyIn ml_L_59 cp_cX6 hW1.s (tw_readyIn hW1) dL_isWell_164 rfl rfl ⟨Nat.le_of_ble_eq_true rfl, Nat.le_of_ble_eq_true rfl⟩ ⟨Nat.le_refl _, Nat.le_refl _⟩ (Nat.le_of_ble_eq_true rfl) (fun I164 hT164 => ?_)
  have hW164 := hT164.1
  have hq2 := cp_aq_oc hq1 hA hT164.2
  refine cp_iconst O dL_isWell_167 (v := 1) rfl ?_
  refine cp_icmp_ge (tgt := 182) O dL_isWell_168 (by decide) (fun c_168 => ?_) (fun c_168 => ?_)
  · refine cp_iconst O dL_isWell_182 (v := 1) rfl ?_
    refine cp_goto (tgt := 187) O dL_isWell_183 (by decide) ?_
    exact ww_b1 O hA hW164 hF hk h4 hq2 K
  · refine cp_aload_n O dL_isWell_171 cp_lg0 ?_
    refine cp_iload O dL_isWell_172 cp_lg8 ?_
    refine cp_cVir O me_X6_readyIn mi_X6_readyIn ml_L_59 cp_cX6 hW164.s (tw_readyIn hW164) dL_isWell_174 rfl rfl ⟨Nat.le_of_ble_eq_true rfl, Nat.le_of_ble_eq_true rfl⟩ ⟨Nat.le_refl _, Nat.le_refl _⟩ (Nat.le_of_ble_eq_true rfl) (fun I174 hT174 => ?_)
    have hW174 := hT174.1
    have hq3 := cp_aq_oc hq2 hA hT174.2
    refine cp_bipush O dL_isWell_177 (v := (-6)) rfl ?_
    refine cp_icmp_ne (tgt := 186) O dL_isWell_179 (by decide) (fun c => absurd c (fun z => z (hrd c_168))) (fun _ => ?_)
    refine cp_iconst O dL_isWell_182 (v := 1) rfl ?_
    refine cp_goto (tgt := 187) O dL_isWell_183 (by decide) ?_
    exact ww_b1 O hA hW174 hF hk h4 hq3 K
set_option maxHeartbeats 4000000 in
set_option maxRecDepth 100000 in
theorem ww_a2 {x : cp_Cx} {E : cp_En} {cnt : Nat} {sh : cp_Shp} {R : cp_Rem} {I : cp_Mem} {co cq a1 a2 : Nat} {N : cp_Nt} (O : cp_Ok x E RL cL_isWell 15 5 2 12) (hA : cp_ar sh co cq a1 a2) (hW : cp_TW sh R I co cq N N) (hF : cp_WF N) {k : Nat} (hk : k < cp_tn N) (h4 : cp_tP N k 4 = 2) (hq : cp_aq I a1 a2 N k) (K : ∀ I, cp_TW sh R I co cq N N → cp_aq I a1 a2 N (k + 1) → cp_G x E 15 2 12 cnt sh I R 87 [some (.ref co), some (.int (nI (cp_tn N))), some (.ref a1), some (.ref a2), some (.int (nI (cp_cnt (cp_hq N) (k + 1)))), some (.int (nI (cp_cnt (cp_kq N) (k + 1)))), some (.int (cp_st (cp_fr (cp_tP N)) (k + 1))), some (.int 1), some (.int (nI (k + 1))), none, none, none, none, none, none] []) : cp_G x E 15 2 12 cnt sh I R 98 [some (.ref co), some (.int (nI (cp_tn N))), some (.ref a1), some (.ref a2), some (.int (nI (cp_cnt (cp_hq N) k))), some (.int (nI (cp_cnt (cp_kq N) k))), some (.int (cp_st (cp_fr (cp_tP N)) k)), some (.int 1), some (.int (nI k)), none, none, none, none, none, none] [] := by
  obtain ⟨hV, h8⟩ := hW.V
  have hn24 := hV.2.2.1.1
  obtain ⟨w0, w1, w2, w7⟩ := hF.2 k hk
  obtain ⟨⟨kl, kl1, kl2, kl3, ke, ke1, ke2⟩, -, p3, p5, -⟩ := hV.2.2.2.1 k hk
  obtain ⟨hpl, ho⟩ := cp_LQ_2 hV.2.2.1 (p := k) (by rw [h4]; decide) (by rw [h4]; decide)
  have hq1 := cp_aq_out hq ho
  obtain ⟨w6, t, ht, w8⟩ := w2 h4
  have hmt := hV.2.1
  refine cp_aload_n O dL_isWell_98 cp_lg0 ?_
  refine cp_iload O dL_isWell_99 cp_lg8 ?_
  refine cp_iconst O dL_isWell_101 (v := 4) rfl ?_
  refine cp_cVi O me_X6_ofPiece mi_X6_ofPiece ml_L_28 cp_cX6 hW.s (tw_ofPieceE hW ((cp_f_ofP (f := 4) hn24 hk (by decide)).trans h4)) dL_isWell_102 rfl rfl ⟨Nat.le_of_ble_eq_true rfl, Nat.le_of_ble_eq_true rfl⟩ ⟨Nat.le_refl _, Nat.le_refl _⟩ (Nat.le_of_ble_eq_true rfl) ?_
  refine cp_istore O dL_isWell_105 (by decide) (cp_ls9 rfl) ?_
  refine cp_aload_n O dL_isWell_107 cp_lg0 ?_
  refine cp_iload O dL_isWell_108 cp_lg8 ?_
  refine cp_bipush O dL_isWell_110 (v := 8) rfl ?_
  refine cp_cVi O me_X6_ofPiece mi_X6_ofPiece ml_L_28 cp_cX6 hW.s (tw_ofPieceE hW ((cp_f_ofP8 hn24 hk).trans hpl)) dL_isWell_112 rfl rfl ⟨Nat.le_of_ble_eq_true rfl, Nat.le_of_ble_eq_true rfl⟩ ⟨Nat.le_refl _, Nat.le_refl _⟩ (Nat.le_of_ble_eq_true rfl) ?_
  refine cp_istore O dL_isWell_115 (by decide) (cp_ls10 rfl) ?_
  refine cp_iload O dL_isWell_117 cp_lg9 ?_
  refine cp_iconst O dL_isWell_119 (v := 2) rfl ?_
  refine cp_icmp_ge (tgt := 254) O dL_isWell_120 (by decide) (fun _ => ?_) (fun c => absurd (by decide) c)
  refine cp_iload O dL_isWell_254 cp_lg10 ?_
  refine cp_bipush O dL_isWell_256 (v := (-6)) rfl ?_
  refine cp_icmp_ne (tgt := 325) O dL_isWell_258 (by decide) (fun c => absurd c (by decide)) (fun _ => ?_)
  refine cp_iload O dL_isWell_261 cp_lg9 ?_
  refine cp_iconst O dL_isWell_263 (v := 3) rfl ?_
  refine cp_icmp_eq (tgt := 321) O dL_isWell_264 (by decide) (fun c => absurd c (by decide)) (fun _ => ?_)
  refine cp_aload_n O dL_isWell_267 cp_lg0 ?_
  refine cp_iload O dL_isWell_268 cp_lg8 ?_
  refine cp_bipush O dL_isWell_270 (v := 6) rfl ?_
  refine cp_cVi O me_X6_ofPiece mi_X6_ofPiece ml_L_28 cp_cX6 hW.s (tw_ofPieceE hW (cp_f_ofP (f := 6) hn24 hk (by decide))) dL_isWell_272 rfl rfl ⟨Nat.le_of_ble_eq_true rfl, Nat.le_of_ble_eq_true rfl⟩ ⟨Nat.le_refl _, Nat.le_refl _⟩ (Nat.le_of_ble_eq_true rfl) ?_
  refine cp_aload_n O dL_isWell_275 cp_lg0 ?_
  refine cp_iload O dL_isWell_276 cp_lg8 ?_
  refine cp_iconst O dL_isWell_278 (v := 1) rfl ?_
  refine cp_cVi O me_X6_ofPiece mi_X6_ofPiece ml_L_28 cp_cX6 hW.s (tw_ofPieceE hW (cp_f_ofP (f := 1) hn24 hk (by decide))) dL_isWell_279 rfl rfl ⟨Nat.le_of_ble_eq_true rfl, Nat.le_of_ble_eq_true rfl⟩ ⟨Nat.le_refl _, Nat.le_refl _⟩ (Nat.le_of_ble_eq_true rfl) ?_
  refine cp_icmp_ne (tgt := 325) O dL_isWell_282 (by decide) (fun c => absurd c (fun z => z w6)) (fun _ => ?_)
  refine cp_aload_n O dL_isWell_285 cp_lg0 ?_
  refine cp_iload O dL_isWell_286 cp_lg8 ?_
  refine cp_bipush O dL_isWell_288 (v := 9) rfl ?_
  refine cp_cVi O me_X6_ofPiece mi_X6_ofPiece ml_L_28 cp_cX6 hW.s (tw_ofPieceE hW ((cp_f_ofP9 hn24 hk).trans w8)) dL_isWell_290 rfl rfl ⟨Nat.le_of_ble_eq_true rfl, Nat.le_of_ble_eq_true rfl⟩ ⟨Nat.le_refl _, Nat.le_refl _⟩ (Nat.le_of_ble_eq_true rfl) ?_
  refine cp_if_lt (tgt := 325) O dL_isWell_293 (by decide) (fun c => absurd c (nI_pos (by omega))) (fun _ => ?_)
  refine cp_aload_n O dL_isWell_296 cp_lg0 ?_
  refine cp_iload O dL_isWell_297 cp_lg8 ?_
  refine cp_bipush O dL_isWell_299 (v := 9) rfl ?_
  refine cp_cVi O me_X6_ofPiece mi_X6_ofPiece ml_L_28 cp_cX6 hW.s (tw_ofPieceE hW ((cp_f_ofP9 hn24 hk).trans w8)) dL_isWell_301 rfl rfl ⟨Nat.le_of_ble_eq_true rfl, Nat.le_of_ble_eq_true rfl⟩ ⟨Nat.le_refl _, Nat.le_refl _⟩ (Nat.le_of_ble_eq_true rfl) ?_
  refine cp_aload_n O dL_isWell_304 cp_lg0 ?_
  refine cp_iconst O dL_isWell_305 (v := 0) rfl ?_
  refine cp_cVi O me_X6_count mi_X6_count ml_L_9 cp_cX6 hW.s (tw_cnt hW (r := nI (cp_tm N)) (by decide) (by decide) rfl) dL_isWell_306 rfl rfl ⟨Nat.le_of_ble_eq_true rfl, Nat.le_of_ble_eq_true rfl⟩ ⟨Nat.le_refl _, Nat.le_refl _⟩ (Nat.le_of_ble_eq_true rfl) ?_
  refine cp_icmp_geN (tgt := 325) O dL_isWell_309 (by decide) (a := t) (b := (cp_tm N)) rfl rfl (by omega) (by omega) (fun c => absurd c (by omega)) (fun _ => ?_)
  refine cp_aload_n O dL_isWell_312 cp_lg0 ?_
  refine cp_iload O dL_isWell_313 cp_lg8 ?_
  refine cp_cVir O me_X6_readyIn mi_X6_readyIn ml_L_59 cp_cX6 hW.s (tw_readyIn hW) dL_isWell_315 rfl rfl ⟨Nat.le_of_ble_eq_true rfl, Nat.le_of_ble_eq_true rfl⟩ ⟨Nat.le_refl _, Nat.le_refl _⟩ (Nat.le_of_ble_eq_true rfl) (fun I315 hT315 => ?_)
  have hW315 := hT315.1
  have hq2 := cp_aq_oc hq1 hA hT315.2
  rw [cp_f_rd0 hn24 hk h4]
  refine cp_if_ne (tgt := 325) O dL_isWell_318 (by decide) (fun c => absurd c (by decide)) (fun _ => ?_)
  refine cp_iconst O dL_isWell_321 (v := 1) rfl ?_
  refine cp_goto (tgt := 326) O dL_isWell_322 (by decide) ?_
  refine cp_istore O dL_isWell_326 (by decide) (cp_ls7 rfl) ?_
  exact cp_Gw (cp_lws (cp_lws (cp_lws (cp_lws (cp_lws (cp_lws (cp_lws (cp_lws (cp_lws (cp_lws (cp_lwn (cp_lws (cp_lws (cp_lws (cp_lws cp_lw0))))))))))))))) (ww_c2 O hA hW315 hF hk h4 hq2 K)
set_option maxHeartbeats 4000000 in
set_option maxRecDepth 100000 in
theorem ww_a3 {x : cp_Cx} {E : cp_En} {cnt : Nat} {sh : cp_Shp} {R : cp_Rem} {I : cp_Mem} {co cq a1 a2 : Nat} {N : cp_Nt} (O : cp_Ok x E RL cL_isWell 15 5 2 12) (hA : cp_ar sh co cq a1 a2) (hW : cp_TW sh R I co cq N N) (hF : cp_WF N) {k : Nat} (hk : k < cp_tn N) (h4 : cp_tP N k 4 = 3) (hq : cp_aq I a1 a2 N k) (K : ∀ I, cp_TW sh R I co cq N N → cp_aq I a1 a2 N (k + 1) → cp_G x E 15 2 12 cnt sh I R 87 [some (.ref co), some (.int (nI (cp_tn N))), some (.ref a1), some (.ref a2), some (.int (nI (cp_cnt (cp_hq N) (k + 1)))), some (.int (nI (cp_cnt (cp_kq N) (k + 1)))), some (.int (cp_st (cp_fr (cp_tP N)) (k + 1))), some (.int 1), some (.int (nI (k + 1))), none, none, none, none, none, none] []) : cp_G x E 15 2 12 cnt sh I R 98 [some (.ref co), some (.int (nI (cp_tn N))), some (.ref a1), some (.ref a2), some (.int (nI (cp_cnt (cp_hq N) k))), some (.int (nI (cp_cnt (cp_kq N) k))), some (.int (cp_st (cp_fr (cp_tP N)) k)), some (.int 1), some (.int (nI k)), none, none, none, none, none, none] [] := by
  obtain ⟨hV, h8⟩ := hW.V
  have hn24 := hV.2.2.1.1
  obtain ⟨w0, w1, w2, w7⟩ := hF.2 k hk
  obtain ⟨⟨kl, kl1, kl2, kl3, ke, ke1, ke2⟩, -, p3, p5, -⟩ := hV.2.2.2.1 k hk
  obtain ⟨hpl, ho⟩ := cp_LQ_2 hV.2.2.1 (p := k) (by rw [h4]; decide) (by rw [h4]; decide)
  have hq1 := cp_aq_out hq ho
  refine cp_aload_n O dL_isWell_98 cp_lg0 ?_
  refine cp_iload O dL_isWell_99 cp_lg8 ?_
  refine cp_iconst O dL_isWell_101 (v := 4) rfl ?_
  refine cp_cVi O me_X6_ofPiece mi_X6_ofPiece ml_L_28 cp_cX6 hW.s (tw_ofPieceE hW ((cp_f_ofP (f := 4) hn24 hk (by decide)).trans h4)) dL_isWell_102 rfl rfl ⟨Nat.le_of_ble_eq_true rfl, Nat.le_of_ble_eq_true rfl⟩ ⟨Nat.le_refl _, Nat.le_refl _⟩ (Nat.le_of_ble_eq_true rfl) ?_
  refine cp_istore O dL_isWell_105 (by decide) (cp_ls9 rfl) ?_
  refine cp_aload_n O dL_isWell_107 cp_lg0 ?_
  refine cp_iload O dL_isWell_108 cp_lg8 ?_
  refine cp_bipush O dL_isWell_110 (v := 8) rfl ?_
  refine cp_cVi O me_X6_ofPiece mi_X6_ofPiece ml_L_28 cp_cX6 hW.s (tw_ofPieceE hW ((cp_f_ofP8 hn24 hk).trans hpl)) dL_isWell_112 rfl rfl ⟨Nat.le_of_ble_eq_true rfl, Nat.le_of_ble_eq_true rfl⟩ ⟨Nat.le_refl _, Nat.le_refl _⟩ (Nat.le_of_ble_eq_true rfl) ?_
  refine cp_istore O dL_isWell_115 (by decide) (cp_ls10 rfl) ?_
  refine cp_iload O dL_isWell_117 cp_lg9 ?_
  refine cp_iconst O dL_isWell_119 (v := 2) rfl ?_
  refine cp_icmp_ge (tgt := 254) O dL_isWell_120 (by decide) (fun _ => ?_) (fun c => absurd (by decide) c)
  refine cp_iload O dL_isWell_254 cp_lg10 ?_
  refine cp_bipush O dL_isWell_256 (v := (-6)) rfl ?_
  refine cp_icmp_ne (tgt := 325) O dL_isWell_258 (by decide) (fun c => absurd c (by decide)) (fun _ => ?_)
  refine cp_iload O dL_isWell_261 cp_lg9 ?_
  refine cp_iconst O dL_isWell_263 (v := 3) rfl ?_
  refine cp_icmp_eq (tgt := 321) O dL_isWell_264 (by decide) (fun _ => ?_) (fun c => absurd (by decide) c)
  refine cp_iconst O dL_isWell_321 (v := 1) rfl ?_
  refine cp_goto (tgt := 326) O dL_isWell_322 (by decide) ?_
  refine cp_istore O dL_isWell_326 (by decide) (cp_ls7 rfl) ?_
  exact cp_Gw (cp_lws (cp_lws (cp_lws (cp_lws (cp_lws (cp_lws (cp_lws (cp_lws (cp_lws (cp_lws (cp_lwn (cp_lws (cp_lws (cp_lws (cp_lws cp_lw0))))))))))))))) (ww_c3 O hA hW hF hk h4 hq1 K)
set_option maxHeartbeats 4000000 in
set_option maxRecDepth 100000 in
theorem ww_a {x : cp_Cx} {E : cp_En} {cnt : Nat} {sh : cp_Shp} {R : cp_Rem} {I : cp_Mem} {co cq a1 a2 : Nat} {N : cp_Nt} (O : cp_Ok x E RL cL_isWell 15 5 2 12) (hA : cp_ar sh co cq a1 a2) (hW : cp_TW sh R I co cq N N) (hF : cp_WF N) {k : Nat} (hk : k < cp_tn N) (hq : cp_aq I a1 a2 N k) (K : ∀ I, cp_TW sh R I co cq N N → cp_aq I a1 a2 N (k + 1) → cp_G x E 15 2 12 cnt sh I R 87 [some (.ref co), some (.int (nI (cp_tn N))), some (.ref a1), some (.ref a2), some (.int (nI (cp_cnt (cp_hq N) (k + 1)))), some (.int (nI (cp_cnt (cp_kq N) (k + 1)))), some (.int (cp_st (cp_fr (cp_tP N)) (k + 1))), some (.int 1), some (.int (nI (k + 1))), none, none, none, none, none, none] []) : cp_G x E 15 2 12 cnt sh I R 98 [some (.ref co), some (.int (nI (cp_tn N))), some (.ref a1), some (.ref a2), some (.int (nI (cp_cnt (cp_hq N) k))), some (.int (nI (cp_cnt (cp_kq N) k))), some (.int (cp_st (cp_fr (cp_tP N)) k)), some (.int 1), some (.int (nI k)), none, none, none, none, none, none] [] := by
  rcases (hW.V.1.2.2.1.2.1 k hk).2 with h4 | h4 | h4 | h4
  · exact ww_a0 O hA hW hF hk h4 hq K
  · exact ww_a1 O hA hW hF hk h4 hq K
  · exact ww_a2 O hA hW hF hk h4 hq K
  · exact ww_a3 O hA hW hF hk h4 hq K
