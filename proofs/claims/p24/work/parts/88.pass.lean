set_option maxHeartbeats 4000000 in
set_option maxRecDepth 100000 in
theorem st_pass_c {x : cp_Cx} {E : cp_En} {cnt : Nat} {sh : cp_Shp} {R : cp_Rem} {I : cp_Mem} {co cq : Nat} {N : cp_Nt} {x0 y : Int32} (O : cp_Ok x E RL cL_isStep 14 7 0 0) {c k : Nat} (hV : cp_NV N) (hF : cp_WF N) (hc : cp_tm N + c ≤ 600) (hk : k < c) (hW : cp_TW sh R I co cq (cp_sMins c N).2 (cp_sMins k N).2) (K : ∀ I1, cp_TW sh R I1 co cq (cp_sMins c N).2 (cp_sMins (k + 1) N).2 → cp_G x E 14 0 0 cnt sh I1 R 281 [some (.ref co), some (.ref cq), some (.int x0), some (.int y), some (.int (nI (cp_tn N))), some (.int (nI (cp_tm N))), some (.int (nI c)), some (.int (nI (cp_sMins c N).1)), some (.int (nI (cp_sMins (k + 1) N).1)), some (.int 1), some (.int (nI (k + 1))), none, none, none] []) : cp_G x E 14 0 0 cnt sh I R 364 [some (.ref co), some (.ref cq), some (.int x0), some (.int y), some (.int (nI (cp_tn N))), some (.int (nI (cp_tm N))), some (.int (nI c)), some (.int (nI (cp_sMins c N).1)), some (.int (nI (cp_sMins k N).1)), some (.int 1), some (.int (nI k)), none, none, none] [] := by
  have hVk := cp_sMins_V hV k (by omega)
  have hFk := cp_WF_mins hV hF k (by omega)
  have hmk := cp_sMins_m N k
  have h8k : cp_tp (cp_sMins k N).2 ≤ 8 := hW.sy.V.2
  have h1 := cp_o1_le (cp_sMins k N).2
  refine cp_aload_n O dL_isStep_364 cp_lg1 ?_
  refine cp_cVir O me_X6_nextPlate mi_X6_nextPlate ml_L_34 cp_cX6 hW.s' (tw_nextPlate hW.sy hFk.1) dL_isStep_365 rfl rfl ⟨Nat.le_of_ble_eq_true rfl, Nat.le_of_ble_eq_true rfl⟩ ⟨Nat.le_refl _, Nat.le_refl _⟩ (Nat.le_of_ble_eq_true rfl) (fun I365 hT365 => ?_)
  have hW365 := hT365.1.sy
  refine cp_istore O dL_isStep_368 (by decide) (cp_ls12 rfl) ?_
  refine cp_aload_n O dL_isStep_370 cp_lg1 ?_
  refine cp_iconst O dL_isStep_371 (v := 1) rfl ?_
  refine cp_cVir O me_X6_pass mi_X6_pass ml_L_25 cp_cX6 hW365.s' (tw_passE hW365.sy (cp_f_pass_1 (by omega))) dL_isStep_372 rfl rfl ⟨Nat.le_of_ble_eq_true rfl, Nat.le_of_ble_eq_true rfl⟩ ⟨Nat.le_refl _, Nat.le_refl _⟩ (Nat.le_of_ble_eq_true rfl) (fun I372 hT372 => ?_)
  have hW372 := hT372.1.sy
  refine cp_istore O dL_isStep_375 (by decide) (cp_ls13 rfl) ?_
  refine cp_iload O dL_isStep_377 cp_lg9 ?_
  refine cp_if_eq (tgt := 413) O dL_isStep_379 (by decide) (fun c => absurd c (by decide)) (fun _ => ?_)
  refine cp_iload O dL_isStep_382 cp_lg13 ?_
  refine cp_if_lt (tgt := 413) O dL_isStep_384 (by decide) (fun c => absurd c (nI_pos (by omega))) (fun _ => ?_)
  refine cp_iload O dL_isStep_387 cp_lg13 ?_
  refine cp_if_eq (tgt := 409) O dL_isStep_389 (by decide) (fun c_389 => ?_) (fun c_389 => ?_)
  · refine cp_iconst O dL_isStep_409 (v := 1) rfl ?_
    refine cp_goto (tgt := 414) O dL_isStep_410 (by decide) ?_
    refine cp_istore O dL_isStep_414 (by decide) (cp_ls9 rfl) ?_
    refine cp_iload O dL_isStep_416 cp_lg8 ?_
    refine cp_iload O dL_isStep_418 cp_lg13 ?_
    refine cp_iadd O dL_isStep_420 ?_
    rw [show nI (cp_sMins k N).1 + nI (cp_o1 (cp_sMins k N).2) = nI (cp_sMins (k + 1) N).1 from nI_add _ _]
    refine cp_istore O dL_isStep_421 (by decide) (cp_ls8 rfl) ?_
    refine cp_iinc O dL_isStep_423 cp_lg10 (cp_inc rfl) (by decide) (cp_ls10 rfl) ?_
    refine cp_goto (tgt := 281) O dL_isStep_426 (by decide) ?_
    exact cp_Gw (cp_lws (cp_lws (cp_lws (cp_lws (cp_lws (cp_lws (cp_lws (cp_lws (cp_lws (cp_lws (cp_lws (cp_lws (cp_lwn (cp_lwn cp_lw0)))))))))))))) (K _ hW372)
  · have g := cp_f_next hVk h8k hFk.1 (by omega) (fun z => c_389 (by rw [z]; rfl))
    have h8n : cp_tp (cp_sMin (cp_sMins k N).2).2 ≤ 8 := hW372.sy.V.2
    refine cp_aload_n O dL_isStep_392 cp_lg1 ?_
    refine cp_aload_n O dL_isStep_393 cp_lg1 ?_
    refine cp_iconst O dL_isStep_394 (v := 3) rfl ?_
    refine cp_cVi O me_X6_count mi_X6_count ml_L_9 cp_cX6 hW372.s' (tw_cnt hW372.sy (r := nI (cp_mkN (cp_sMin (cp_sMins k N).2).2)) (by decide) (by decide) rfl) dL_isStep_395 rfl rfl ⟨Nat.le_of_ble_eq_true rfl, Nat.le_of_ble_eq_true rfl⟩ ⟨Nat.le_refl _, Nat.le_refl _⟩ (Nat.le_of_ble_eq_true rfl) ?_
    refine cp_iconst O dL_isStep_398 (v := 1) rfl ?_
    refine cp_isub O dL_isStep_399 ?_
    rw [show nI (cp_mkN (cp_sMin (cp_sMins k N).2).2) - 1 = nI (cp_mkN (cp_sMin (cp_sMins k N).2).2 - 1) from pk_sub (b := 1) g.1]
    refine cp_iconst O dL_isStep_400 (v := 3) rfl ?_
    refine cp_cVi O me_X6_ofPlate mi_X6_ofPlate ml_L_38 cp_cX6 hW372.s' (tw_ofPlateE hW372.sy ((cp_f_ofQ h8n (by omega)).2.2.2.1.trans g.2.2)) dL_isStep_401 rfl rfl ⟨Nat.le_of_ble_eq_true rfl, Nat.le_of_ble_eq_true rfl⟩ ⟨Nat.le_refl _, Nat.le_refl _⟩ (Nat.le_of_ble_eq_true rfl) ?_
    refine cp_iload O dL_isStep_404 cp_lg12 ?_
    refine cp_icmp_ne (tgt := 413) O dL_isStep_406 (by decide) (fun c => absurd c (fun z => z rfl)) (fun _ => ?_)
    refine cp_iconst O dL_isStep_409 (v := 1) rfl ?_
    refine cp_goto (tgt := 414) O dL_isStep_410 (by decide) ?_
    refine cp_istore O dL_isStep_414 (by decide) (cp_ls9 rfl) ?_
    refine cp_iload O dL_isStep_416 cp_lg8 ?_
    refine cp_iload O dL_isStep_418 cp_lg13 ?_
    refine cp_iadd O dL_isStep_420 ?_
    rw [show nI (cp_sMins k N).1 + nI (cp_o1 (cp_sMins k N).2) = nI (cp_sMins (k + 1) N).1 from nI_add _ _]
    refine cp_istore O dL_isStep_421 (by decide) (cp_ls8 rfl) ?_
    refine cp_iinc O dL_isStep_423 cp_lg10 (cp_inc rfl) (by decide) (cp_ls10 rfl) ?_
    refine cp_goto (tgt := 281) O dL_isStep_426 (by decide) ?_
    exact cp_Gw (cp_lws (cp_lws (cp_lws (cp_lws (cp_lws (cp_lws (cp_lws (cp_lws (cp_lws (cp_lws (cp_lws (cp_lws (cp_lwn (cp_lwn cp_lw0)))))))))))))) (K _ hW372)
set_option maxHeartbeats 4000000 in
set_option maxRecDepth 100000 in
theorem st_pass_b {x : cp_Cx} {E : cp_En} {cnt : Nat} {sh : cp_Shp} {R : cp_Rem} {I : cp_Mem} {co cq : Nat} {N : cp_Nt} {x0 y : Int32} (O : cp_Ok x E RL cL_isStep 14 7 0 0) {c k : Nat} (hV : cp_NV N) (hF : cp_WF N) (hc : cp_tm N + c ≤ 600) (hk : k < c) (hW : cp_TW sh R I co cq (cp_sMins c N).2 (cp_sMins k N).2) (K : ∀ I1, cp_TW sh R I1 co cq (cp_sMins c N).2 (cp_sMins (k + 1) N).2 → cp_G x E 14 0 0 cnt sh I1 R 281 [some (.ref co), some (.ref cq), some (.int x0), some (.int y), some (.int (nI (cp_tn N))), some (.int (nI (cp_tm N))), some (.int (nI c)), some (.int (nI (cp_sMins c N).1)), some (.int (nI (cp_sMins (k + 1) N).1)), some (.int 1), some (.int (nI (k + 1))), none, none, none] []) {j : Nat} (hj : 1 ≤ cp_tn N → j < cp_tn N) : cp_G x E 14 0 0 cnt sh I R 314 [some (.ref co), some (.ref cq), some (.int x0), some (.int y), some (.int (nI (cp_tn N))), some (.int (nI (cp_tm N))), some (.int (nI c)), some (.int (nI (cp_sMins c N).1)), some (.int (nI (cp_sMins k N).1)), some (.int 1), some (.int (nI k)), none, none, none] [.int (nI j)] := by
  have hVk := cp_sMins_V hV k (by omega)
  have hn24 := hV.2.2.1.1
  have hnk : cp_tn (cp_sMins k N).2 = cp_tn N := (cp_sMins_k N k).2.1
  refine cp_istore O dL_isStep_314 (by decide) (cp_ls11 rfl) ?_
  refine cp_iload O dL_isStep_316 cp_lg10 ?_
  refine cp_iconst O dL_isStep_318 (v := 4) rfl ?_
  refine cp_irem O (by decide) dL_isStep_319 ?_
  refine cp_iconst O dL_isStep_320 (v := 1) rfl ?_
  refine cp_icmp_ne (tgt := 364) O dL_isStep_321 (by decide) (fun c_321 => ?_) (fun c_321 => ?_)
  · exact cp_Gw (cp_lws (cp_lws (cp_lws (cp_lws (cp_lws (cp_lws (cp_lws (cp_lws (cp_lws (cp_lws (cp_lws (cp_lwn (cp_lws (cp_lws cp_lw0)))))))))))))) (st_pass_c O hV hF hc hk hW K)
  · refine cp_iload O dL_isStep_324 cp_lg4 ?_
    refine cp_if_le (tgt := 364) O dL_isStep_326 (by decide) (fun c_326 => ?_) (fun c_326 => ?_)
    · exact cp_Gw (cp_lws (cp_lws (cp_lws (cp_lws (cp_lws (cp_lws (cp_lws (cp_lws (cp_lws (cp_lws (cp_lws (cp_lwn (cp_lws (cp_lws cp_lw0)))))))))))))) (st_pass_c O hV hF hc hk hW K)
    · have hp : j < cp_tn N := hj (by
        rcases Nat.eq_zero_or_pos (cp_tn N) with z | z
        · exact absurd (by rw [z]; decide) c_326
        · exact z)
      have hpk : j < cp_tn (cp_sMins k N).2 := by omega
      refine cp_aload_n O dL_isStep_329 cp_lg1 ?_
      refine cp_iload O dL_isStep_330 cp_lg11 ?_
      refine cp_iconst O dL_isStep_332 (v := 4) rfl ?_
      refine cp_cVi O me_X6_ofPiece mi_X6_ofPiece ml_L_28 cp_cX6 hW.s' (tw_ofPieceE hW.sy (cp_f_ofP (f := 4) (by omega) hpk (by decide))) dL_isStep_333 rfl rfl ⟨Nat.le_of_ble_eq_true rfl, Nat.le_of_ble_eq_true rfl⟩ ⟨Nat.le_refl _, Nat.le_refl _⟩ (Nat.le_of_ble_eq_true rfl) ?_
      refine cp_iconst O dL_isStep_336 (v := 3) rfl ?_
      refine cp_icmp_ge (tgt := 364) O dL_isStep_337 (by decide) (fun c_337 => ?_) (fun c_337 => ?_)
      · exact cp_Gw (cp_lws (cp_lws (cp_lws (cp_lws (cp_lws (cp_lws (cp_lws (cp_lws (cp_lws (cp_lws (cp_lws (cp_lwn (cp_lws (cp_lws cp_lw0)))))))))))))) (st_pass_c O hV hF hc hk hW K)
      · have hh := cp_f_hold2 hVk hpk (fun z => c_337 (by rw [z]; decide))
        refine cp_aload_n O dL_isStep_340 cp_lg1 ?_
        refine cp_iload O dL_isStep_341 cp_lg11 ?_
        refine cp_cVir O me_X6_hold mi_X6_hold ml_L_31 cp_cX6 hW.s' (tw_hold hW.sy) dL_isStep_343 rfl rfl ⟨Nat.le_of_ble_eq_true rfl, Nat.le_of_ble_eq_true rfl⟩ ⟨Nat.le_refl _, Nat.le_refl _⟩ (Nat.le_of_ble_eq_true rfl) (fun I343 hT343 => ?_)
        have hW343 := hT343.1.sy
        refine cp_aload_n O dL_isStep_346 cp_lg1 ?_
        refine cp_iload O dL_isStep_347 cp_lg11 ?_
        refine cp_cVir O me_X6_hold mi_X6_hold ml_L_31 cp_cX6 hW343.s' (tw_hold hW343.sy) dL_isStep_349 rfl rfl ⟨Nat.le_of_ble_eq_true rfl, Nat.le_of_ble_eq_true rfl⟩ ⟨Nat.le_refl _, Nat.le_refl _⟩ (Nat.le_of_ble_eq_true rfl) (fun I349 hT349 => ?_)
        have hW349 := hT349.1.sy
        rw [hh.2] at hW349
        refine cp_iadd O dL_isStep_352 ?_
        refine cp_iconst O dL_isStep_353 (v := 1) rfl ?_
        refine cp_icmp_ne (tgt := 361) O dL_isStep_354 (by decide) (fun c => absurd c (fun z => z hh.1)) (fun _ => ?_)
        refine cp_iconst O dL_isStep_357 (v := 1) rfl ?_
        refine cp_goto (tgt := 362) O dL_isStep_358 (by decide) ?_
        refine cp_istore O dL_isStep_362 (by decide) (cp_ls9 rfl) ?_
        exact cp_Gw (cp_lws (cp_lws (cp_lws (cp_lws (cp_lws (cp_lws (cp_lws (cp_lws (cp_lws (cp_lws (cp_lws (cp_lwn (cp_lws (cp_lws cp_lw0)))))))))))))) (st_pass_c O hV hF hc hk hW349 K)
set_option maxHeartbeats 4000000 in
set_option maxRecDepth 100000 in
theorem st_pass_a {x : cp_Cx} {E : cp_En} {cnt : Nat} {sh : cp_Shp} {R : cp_Rem} {I : cp_Mem} {co cq : Nat} {N : cp_Nt} {x0 y : Int32} (O : cp_Ok x E RL cL_isStep 14 7 0 0) {c k : Nat} (hV : cp_NV N) (hF : cp_WF N) (hc : cp_tm N + c ≤ 600) (hk : k < c) (hW : cp_TW sh R I co cq (cp_sMins c N).2 (cp_sMins k N).2) (K : ∀ I1, cp_TW sh R I1 co cq (cp_sMins c N).2 (cp_sMins (k + 1) N).2 → cp_G x E 14 0 0 cnt sh I1 R 281 [some (.ref co), some (.ref cq), some (.int x0), some (.int y), some (.int (nI (cp_tn N))), some (.int (nI (cp_tm N))), some (.int (nI c)), some (.int (nI (cp_sMins c N).1)), some (.int (nI (cp_sMins (k + 1) N).1)), some (.int 1), some (.int (nI (k + 1))), none, none, none] []) : cp_G x E 14 0 0 cnt sh I R 293 [some (.ref co), some (.ref cq), some (.int x0), some (.int y), some (.int (nI (cp_tn N))), some (.int (nI (cp_tm N))), some (.int (nI c)), some (.int (nI (cp_sMins c N).1)), some (.int (nI (cp_sMins k N).1)), some (.int 1), some (.int (nI k)), none, none, none] [] := by
  have hn24 := hV.2.2.1.1
  refine cp_iload O dL_isStep_293 cp_lg4 ?_
  refine cp_if_ne (tgt := 302) O dL_isStep_295 (by decide) (fun c_295 => ?_) (fun c_295 => ?_)
  · have hn1 : 1 ≤ cp_tn N := by
      rcases Nat.eq_zero_or_pos (cp_tn N) with z | z
      · exact absurd (by rw [z]; rfl) c_295
      · exact z
    refine cp_iload_n O dL_isStep_302 cp_lg2 ?_
    refine cp_iload O dL_isStep_303 cp_lg10 ?_
    refine cp_bipush O dL_isStep_305 (v := 9) rfl ?_
    refine cp_irem O (by decide) dL_isStep_307 ?_
    refine cp_ishr O dL_isStep_308 ?_
    refine cp_iload O dL_isStep_309 cp_lg4 ?_
    refine cp_cup O (m := cp_tn N) rfl hn1 (by omega) dL_isStep_311 ⟨Nat.le_of_ble_eq_true rfl, Nat.le_of_ble_eq_true rfl⟩ ⟨Nat.le_refl _, Nat.le_refl _⟩ (Nat.le_of_ble_eq_true rfl) (fun j311 hj311 => ?_)
    exact st_pass_b O hV hF hc hk hW K (fun _ => hj311)
  · have hn0 : cp_tn N = 0 := (nI_eq (a := cp_tn N) (b := 0) (by omega) (by decide)).mp c_295
    refine cp_iconst O dL_isStep_298 (v := 0) rfl ?_
    refine cp_goto (tgt := 314) O dL_isStep_299 (by decide) ?_
    exact st_pass_b O hV hF hc hk hW K (j := 0) (fun z => absurd hn0 (by omega))
set_option maxHeartbeats 4000000 in
set_option maxRecDepth 100000 in
theorem st_pass_lo {x : cp_Cx} {E : cp_En} {cnt : Nat} {sh : cp_Shp} {R : cp_Rem} {I : cp_Mem} {co cq : Nat} {N : cp_Nt} {x0 y : Int32} (O : cp_Ok x E RL cL_isStep 14 7 0 0) {c : Nat} (hV : cp_NV N) (hF : cp_WF N) (h1 : 1 ≤ c) (hc : cp_tm N + c ≤ 600) (hr : ∀ (v : Int32) (I1 : cp_Mem) (pc : Nat) (L : List (Option Value)), decode cL_isStep pc = .ok (.ireturn, 1) → v = 1 → cp_ST sh R I1 co cq → cp_G x E 14 0 0 cnt sh I1 R pc L [.int v]) : ∀ k, k ≤ c → ∀ I, cp_TW sh R I co cq (cp_sMins c N).2 (cp_sMins k N).2 → cp_G x E 14 0 0 cnt sh I R 281 [some (.ref co), some (.ref cq), some (.int x0), some (.int y), some (.int (nI (cp_tn N))), some (.int (nI (cp_tm N))), some (.int (nI c)), some (.int (nI (cp_sMins c N).1)), some (.int (nI (cp_sMins k N).1)), some (.int 1), some (.int (nI k)), none, none, none] [] := by
  have h3 := cp_sMins_le N c
  refine cp_up (n := c) (P := fun k => ∀ I, cp_TW sh R I co cq (cp_sMins c N).2 (cp_sMins k N).2 → cp_G x E 14 0 0 cnt sh I R 281 [some (.ref co), some (.ref cq), some (.int x0), some (.int y), some (.int (nI (cp_tn N))), some (.int (nI (cp_tm N))), some (.int (nI c)), some (.int (nI (cp_sMins c N).1)), some (.int (nI (cp_sMins k N).1)), some (.int 1), some (.int (nI k)), none, none, none] []) (fun k hk ih I hW => ?_)
  refine cp_iload O dL_isStep_281 cp_lg10 ?_
  refine cp_iload O dL_isStep_283 cp_lg6 ?_
  refine cp_icmp_geN (tgt := 429) O dL_isStep_285 (by decide) (a := k) (b := c) rfl rfl (by omega) (by omega) (fun c_285 => ?_) (fun c_285 => ?_)
  · have ek : k = c := by omega
    rw [ek] at hW ⊢
    refine cp_iload O dL_isStep_429 cp_lg9 ?_
    refine cp_if_eq (tgt := 458) O dL_isStep_431 (by decide) (fun c => absurd c (by decide)) (fun _ => ?_)
    refine cp_iload O dL_isStep_434 cp_lg7 ?_
    refine cp_iload O dL_isStep_436 cp_lg8 ?_
    refine cp_icmp_neN (tgt := 458) O dL_isStep_438 (by decide) (a := (cp_sMins c N).1) (b := (cp_sMins c N).1) rfl rfl (by omega) (by omega) (fun c => absurd c (fun z => z rfl)) (fun _ => ?_)
    refine cp_aload_n O dL_isStep_441 cp_lg0 ?_
    refine cp_iconst O dL_isStep_442 (v := 0) rfl ?_
    refine cp_cVi O me_X6_count mi_X6_count ml_L_9 cp_cX6 hW.s (tw_cnt hW (r := nI (cp_tm N + c)) (by decide) (by decide) (by rw [← cp_sMins_m N c]; rfl)) dL_isStep_443 rfl rfl ⟨Nat.le_of_ble_eq_true rfl, Nat.le_of_ble_eq_true rfl⟩ ⟨Nat.le_refl _, Nat.le_refl _⟩ (Nat.le_of_ble_eq_true rfl) ?_
    refine cp_iload O dL_isStep_446 cp_lg5 ?_
    refine cp_iload O dL_isStep_448 cp_lg6 ?_
    refine cp_iadd O dL_isStep_450 ?_
    rw [show nI (cp_tm N) + nI c = nI (cp_tm N + c) from nI_add _ _]
    refine cp_icmp_ne (tgt := 458) O dL_isStep_451 (by decide) (fun c => absurd c (fun z => z rfl)) (fun _ => ?_)
    refine cp_iconst O dL_isStep_454 (v := 1) rfl ?_
    refine cp_goto (tgt := 459) O dL_isStep_455 (by decide) ?_
    exact hr _ _ _ _ dL_isStep_459 rfl ⟨_, hW, cp_WF_mins hV hF c hc⟩
  · refine cp_iload O dL_isStep_288 cp_lg9 ?_
    refine cp_if_eq (tgt := 429) O dL_isStep_290 (by decide) (fun c => absurd c (by decide)) (fun _ => ?_)
    exact st_pass_a O hV hF hc c_285 hW (ih c_285)
set_option maxHeartbeats 4000000 in
set_option maxRecDepth 100000 in
theorem st_pass_m {x : cp_Cx} {E : cp_En} {cnt : Nat} {sh : cp_Shp} {R : cp_Rem} {I : cp_Mem} {co cq : Nat} {N : cp_Nt} {x0 y : Int32} (O : cp_Ok x E RL cL_isStep 14 7 0 0) (hW : cp_TW sh R I co cq N N) (hF : cp_WF N) (hr : ∀ (v : Int32) (I1 : cp_Mem) (pc : Nat) (L : List (Option Value)), decode cL_isStep pc = .ok (.ireturn, 1) → v = 1 → cp_ST sh R I1 co cq → cp_G x E 14 0 0 cnt sh I1 R pc L [.int v]) {c : Nat} (h1 : 1 ≤ c) (h25 : c ≤ 25) : cp_G x E 14 0 0 cnt sh I R 238 [some (.ref co), some (.ref cq), some (.int x0), some (.int y), some (.int (nI (cp_tn N))), some (.int (nI (cp_tm N))), none, none, none, none, none, none, none, none] [.int (nI c)] := by
  obtain ⟨hV, h8⟩ := hW.V
  have hm600 := hV.2.1
  rcases Nat.lt_or_ge 600 (cp_tm N + c) with hc | hc
  · refine cp_istore O dL_isStep_238 (by decide) (cp_ls6 rfl) ?_
    refine cp_aload_n O dL_isStep_240 cp_lg0 ?_
    refine cp_iload O dL_isStep_241 cp_lg6 ?_
    refine cp_cVir O me_X6_pass mi_X6_pass ml_L_25 cp_cX6 hW.s (tw_passE hW (cp_f_pass_hi hm600 h1 (by omega) hc)) dL_isStep_243 rfl rfl ⟨Nat.le_of_ble_eq_true rfl, Nat.le_of_ble_eq_true rfl⟩ ⟨Nat.le_refl _, Nat.le_refl _⟩ (Nat.le_of_ble_eq_true rfl) (fun I243 hT243 => ?_)
    have hW243 := hT243.1
    refine cp_istore O dL_isStep_246 (by decide) (cp_ls7 rfl) ?_
    refine cp_iload O dL_isStep_248 cp_lg5 ?_
    refine cp_iload O dL_isStep_250 cp_lg6 ?_
    refine cp_iadd O dL_isStep_252 ?_
    rw [show nI (cp_tm N) + nI c = nI (cp_tm N + c) from nI_add _ _]
    refine cp_sipush O dL_isStep_253 (v := 600) rfl ?_
    refine cp_icmp_leN (tgt := 272) O dL_isStep_256 (by decide) (a := (cp_tm N + c)) (b := 600) rfl rfl (by omega) (by omega) (fun c => absurd c (by omega)) (fun _ => ?_)
    refine cp_iload O dL_isStep_259 cp_lg7 ?_
    refine cp_bipush O dL_isStep_261 (v := (-5)) rfl ?_
    refine cp_icmp_ne (tgt := 270) O dL_isStep_263 (by decide) (fun c => absurd c (fun z => z rfl)) (fun _ => ?_)
    refine cp_iconst O dL_isStep_266 (v := 1) rfl ?_
    refine cp_goto (tgt := 271) O dL_isStep_267 (by decide) ?_
    exact hr _ _ _ _ dL_isStep_271 rfl ⟨_, hW243, hF⟩
  · refine cp_istore O dL_isStep_238 (by decide) (cp_ls6 rfl) ?_
    refine cp_aload_n O dL_isStep_240 cp_lg0 ?_
    refine cp_iload O dL_isStep_241 cp_lg6 ?_
    refine cp_cVir O me_X6_pass mi_X6_pass ml_L_25 cp_cX6 hW.s (tw_passE hW (cp_f_pass_lo h1 hc)) dL_isStep_243 rfl rfl ⟨Nat.le_of_ble_eq_true rfl, Nat.le_of_ble_eq_true rfl⟩ ⟨Nat.le_refl _, Nat.le_refl _⟩ (Nat.le_of_ble_eq_true rfl) (fun I243 hT243 => ?_)
    have hW243 := hT243.1
    refine cp_istore O dL_isStep_246 (by decide) (cp_ls7 rfl) ?_
    refine cp_iload O dL_isStep_248 cp_lg5 ?_
    refine cp_iload O dL_isStep_250 cp_lg6 ?_
    refine cp_iadd O dL_isStep_252 ?_
    rw [show nI (cp_tm N) + nI c = nI (cp_tm N + c) from nI_add _ _]
    refine cp_sipush O dL_isStep_253 (v := 600) rfl ?_
    refine cp_icmp_leN (tgt := 272) O dL_isStep_256 (by decide) (a := (cp_tm N + c)) (b := 600) rfl rfl (by omega) (by omega) (fun _ => ?_) (fun c => absurd c (by omega))
    refine cp_iconst O dL_isStep_272 (v := 0) rfl ?_
    refine cp_istore O dL_isStep_273 (by decide) (cp_ls8 rfl) ?_
    refine cp_iconst O dL_isStep_275 (v := 1) rfl ?_
    refine cp_istore O dL_isStep_276 (by decide) (cp_ls9 rfl) ?_
    refine cp_iconst O dL_isStep_278 (v := 0) rfl ?_
    refine cp_istore O dL_isStep_279 (by decide) (cp_ls10 rfl) ?_
    exact st_pass_lo (I := I) O hV hF h1 hc hr 0 (Nat.zero_le _) _ hW243
set_option maxHeartbeats 4000000 in
set_option maxRecDepth 100000 in
theorem st_pass {x : cp_Cx} {E : cp_En} {cnt : Nat} {sh : cp_Shp} {R : cp_Rem} {I : cp_Mem} {co cq : Nat} {N : cp_Nt} {x0 y : Int32} (O : cp_Ok x E RL cL_isStep 14 7 0 0) (hW : cp_TW sh R I co cq N N) (hF : cp_WF N) (hr : ∀ (v : Int32) (I1 : cp_Mem) (pc : Nat) (L : List (Option Value)), decode cL_isStep pc = .ok (.ireturn, 1) → v = 1 → cp_ST sh R I1 co cq → cp_G x E 14 0 0 cnt sh I1 R pc L [.int v]) : cp_G x E 14 0 0 cnt sh I R 215 [some (.ref co), some (.ref cq), some (.int x0), some (.int y), some (.int (nI (cp_tn N))), some (.int (nI (cp_tm N))), none, none, none, none, none, none, none, none] [] := by
  refine cp_iconst O dL_isStep_215 (v := 1) rfl ?_
  refine cp_iload_n O dL_isStep_216 cp_lg3 ?_
  refine cp_iload_n O dL_isStep_217 cp_lg3 ?_
  refine cp_iconst O dL_isStep_218 (v := 4) rfl ?_
  refine cp_ishr O dL_isStep_219 ?_
  refine cp_iconst O dL_isStep_220 (v := 4) rfl ?_
  refine cp_cup O (m := 4) rfl (by decide) (by decide) dL_isStep_221 ⟨Nat.le_of_ble_eq_true rfl, Nat.le_of_ble_eq_true rfl⟩ ⟨Nat.le_refl _, Nat.le_refl _⟩ (Nat.le_of_ble_eq_true rfl) (fun j221 hj221 => ?_)
  refine cp_if_ne (tgt := 232) O dL_isStep_224 (by decide) (fun c_224 => ?_) (fun c_224 => ?_)
  · refine cp_bipush O dL_isStep_232 (v := 6) rfl ?_
    refine cp_cup O (m := 6) rfl (by decide) (by decide) dL_isStep_234 ⟨Nat.le_of_ble_eq_true rfl, Nat.le_of_ble_eq_true rfl⟩ ⟨Nat.le_refl _, Nat.le_refl _⟩ (Nat.le_of_ble_eq_true rfl) (fun j234 hj234 => ?_)
    refine cp_iadd O dL_isStep_237 ?_
    rw [show (1 : Int32) + nI j234 = nI (1 + j234) from nI_add 1 j234]
    exact st_pass_m O hW hF hr (by omega) (by omega)
  · refine cp_bipush O dL_isStep_227 (v := 25) rfl ?_
    refine cp_goto (tgt := 234) O dL_isStep_229 (by decide) ?_
    refine cp_cup O (m := 25) rfl (by decide) (by decide) dL_isStep_234 ⟨Nat.le_of_ble_eq_true rfl, Nat.le_of_ble_eq_true rfl⟩ ⟨Nat.le_refl _, Nat.le_refl _⟩ (Nat.le_of_ble_eq_true rfl) (fun j234 hj234 => ?_)
    refine cp_iadd O dL_isStep_237 ?_
    rw [show (1 : Int32) + nI j234 = nI (1 + j234) from nI_add 1 j234]
    exact st_pass_m O hW hF hr (by omega) (by omega)
set_option maxHeartbeats 4000000 in
set_option maxRecDepth 100000 in
theorem c_L_isStep {lc : Launch} {E : cp_En} {cnt : Nat} {sh : cp_Shp} {R : cp_Rem} {I : cp_Mem} {co cq : Nat} {v1 : Int32} (hS : cp_ST sh R I co cq) : cp_Fr lc E yL_isStep cL_isStep 14 (some .boolean) 7 [.ref co, .ref cq, .int v1] cnt sh I R (some (.int 1)) (fun I' => cp_ST sh R I' co cq) := by
  obtain ⟨N, hW, hF⟩ := hS
  refine cp_Fn_iR [some (.ref co), some (.ref cq), some (.int v1), none, none, none, none, none, none, none, none, none, none, none] (by decide +kernel) (Nat.le_of_ble_eq_true rfl) rfl rfl (fun x hxl O hr => ?_)
  subst hxl
  refine cp_iload_n O dL_isStep_0 cp_lg2 ?_
  refine cp_iconst O dL_isStep_1 (v := 4) rfl ?_
  refine cp_ishr O dL_isStep_2 ?_
  refine cp_istore_n O dL_isStep_3 (by decide) (cp_ls3 rfl) ?_
  refine cp_aload_n O dL_isStep_4 cp_lg0 ?_
  refine cp_iconst O dL_isStep_5 (v := 1) rfl ?_
  refine cp_cVi O me_X6_count mi_X6_count ml_L_9 cp_cX6 hW.s (tw_cnt hW (r := nI (cp_tn N)) (by decide) (by decide) rfl) dL_isStep_6 rfl rfl ⟨Nat.le_of_ble_eq_true rfl, Nat.le_of_ble_eq_true rfl⟩ ⟨Nat.le_refl _, Nat.le_refl _⟩ (Nat.le_of_ble_eq_true rfl) ?_
  refine cp_istore O dL_isStep_9 (by decide) (cp_ls4 rfl) ?_
  refine cp_aload_n O dL_isStep_11 cp_lg0 ?_
  refine cp_iconst O dL_isStep_12 (v := 0) rfl ?_
  refine cp_cVi O me_X6_count mi_X6_count ml_L_9 cp_cX6 hW.s (tw_cnt hW (r := nI (cp_tm N)) (by decide) (by decide) rfl) dL_isStep_13 rfl rfl ⟨Nat.le_of_ble_eq_true rfl, Nat.le_of_ble_eq_true rfl⟩ ⟨Nat.le_refl _, Nat.le_refl _⟩ (Nat.le_of_ble_eq_true rfl) ?_
  refine cp_istore O dL_isStep_16 (by decide) (cp_ls5 rfl) ?_
  refine cp_iload_n O dL_isStep_18 cp_lg2 ?_
  refine cp_bipush O dL_isStep_19 (v := 16) rfl ?_
  refine cp_cup O (m := 16) rfl (by decide) (by decide) dL_isStep_21 ⟨Nat.le_of_ble_eq_true rfl, Nat.le_of_ble_eq_true rfl⟩ ⟨Nat.le_refl _, Nat.le_refl _⟩ (Nat.le_of_ble_eq_true rfl) (fun j21 hj21 => ?_)
  exact sw_L_isStep_24 O (fun _ => st_piece O hW hF hr) (fun _ => st_piece O hW hF hr) (fun _ => st_piece O hW hF hr) (fun _ => st_piece O hW hF hr) (fun _ => st_piece O hW hF hr) (fun _ => st_pass O hW hF hr) (fun _ => st_pass O hW hF hr) (fun _ => st_pass O hW hF hr) (fun _ => st_pass O hW hF hr) (fun _ => st_plate O hW hF hr) (fun _ => st_plate O hW hF hr) (fun _ => st_set O hW hF hr) (fun _ => st_hold O hW hF hr) (fun _ => st_hold O hW hF hr) (fun _ => st_kill O hW hF hr)
