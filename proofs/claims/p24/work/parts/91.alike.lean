theorem cp_n13 : ∀ {k : Nat}, k < 14 → (nI k ≠ 14 ∧ nI k ≠ 15) := by decide +kernel
set_option maxHeartbeats 4000000 in
set_option maxRecDepth 100000 in
theorem al_207 {x : cp_Cx} {E : cp_En} {cnt : Nat} {sh : cp_Shp} {R : cp_Rem} {I : cp_Mem} {co cq : Nat} {N : cp_Nt} (O : cp_Ok x E RL cL_areAlike 5 7 0 0) (hW : cp_TW sh R I co cq N N) (hF : cp_WF N) {k : Nat} (K : cp_G x E 5 0 0 cnt sh I R 195 [some (.ref co), some (.ref cq), some (.int 1), some (.int (nI (k + 1))), none] []) : ∀ j, j ≤ 5 → cp_G x E 5 0 0 cnt sh I R 207 [some (.ref co), some (.ref cq), some (.int 1), some (.int (nI k)), some (.int (nI j))] [] := by
  refine cp_up (n := 5) (P := fun j => cp_G x E 5 0 0 cnt sh I R 207 [some (.ref co), some (.ref cq), some (.int 1), some (.int (nI k)), some (.int (nI j))] []) (fun j hj ih => ?_)
  refine cp_iload O dL_areAlike_207 cp_lg4 ?_
  refine cp_iconst O dL_areAlike_209 (v := 5) rfl ?_
  refine cp_icmp_geN (tgt := 246) O dL_areAlike_210 (by decide) (a := j) (b := 5) rfl rfl (by omega) (by omega) (fun c_210 => ?_) (fun c_210 => ?_)
  · refine cp_iinc O dL_areAlike_246 cp_lg3 (cp_inc rfl) (by decide) (cp_ls3 rfl) ?_
    refine cp_goto (tgt := 195) O dL_areAlike_249 (by decide) ?_
    exact cp_Gw (cp_lws (cp_lws (cp_lws (cp_lws (cp_lwn cp_lw0))))) K
  · refine cp_iload_n O dL_areAlike_213 cp_lg2 ?_
    refine cp_if_eq (tgt := 238) O dL_areAlike_214 (by decide) (fun c => absurd c (by decide)) (fun _ => ?_)
    refine cp_aload_n O dL_areAlike_217 cp_lg0 ?_
    refine cp_iload_n O dL_areAlike_218 cp_lg3 ?_
    refine cp_iload O dL_areAlike_219 cp_lg4 ?_
    refine cp_cVi O me_X6_ofPlate mi_X6_ofPlate ml_L_38 cp_cX6 hW.s (tw_ofPlate hW) dL_areAlike_221 rfl rfl ⟨Nat.le_of_ble_eq_true rfl, Nat.le_of_ble_eq_true rfl⟩ ⟨Nat.le_refl _, Nat.le_refl _⟩ (Nat.le_of_ble_eq_true rfl) ?_
    refine cp_aload_n O dL_areAlike_224 cp_lg1 ?_
    refine cp_iload_n O dL_areAlike_225 cp_lg3 ?_
    refine cp_iload O dL_areAlike_226 cp_lg4 ?_
    refine cp_cVi O me_X6_ofPlate mi_X6_ofPlate ml_L_38 cp_cX6 hW.s' (tw_ofPlate hW.sy) dL_areAlike_228 rfl rfl ⟨Nat.le_of_ble_eq_true rfl, Nat.le_of_ble_eq_true rfl⟩ ⟨Nat.le_refl _, Nat.le_refl _⟩ (Nat.le_of_ble_eq_true rfl) ?_
    refine cp_icmp_ne (tgt := 238) O dL_areAlike_231 (by decide) (fun c => absurd c (fun z => z rfl)) (fun _ => ?_)
    refine cp_iconst O dL_areAlike_234 (v := 1) rfl ?_
    refine cp_goto (tgt := 239) O dL_areAlike_235 (by decide) ?_
    refine cp_istore_n O dL_areAlike_239 (by decide) (cp_ls2 rfl) ?_
    refine cp_iinc O dL_areAlike_240 cp_lg4 (cp_inc rfl) (by decide) (cp_ls4 rfl) ?_
    refine cp_goto (tgt := 207) O dL_areAlike_243 (by decide) ?_
    exact ih c_210
set_option maxHeartbeats 4000000 in
set_option maxRecDepth 100000 in
theorem al_195 {x : cp_Cx} {E : cp_En} {cnt : Nat} {sh : cp_Shp} {R : cp_Rem} {I : cp_Mem} {co cq : Nat} {N : cp_Nt} (O : cp_Ok x E RL cL_areAlike 5 7 0 0) (hW : cp_TW sh R I co cq N N) (hF : cp_WF N) (hr : ∀ (v : Int32) (I1 : cp_Mem) (pc : Nat) (L : List (Option Value)), decode cL_areAlike pc = .ok (.ireturn, 1) → v = 1 → cp_ST sh R I1 co cq → cp_G x E 5 0 0 cnt sh I1 R pc L [.int v]) : ∀ k, k ≤ cp_tp N → cp_G x E 5 0 0 cnt sh I R 195 [some (.ref co), some (.ref cq), some (.int 1), some (.int (nI k)), none] [] := by
  obtain ⟨hV, h8⟩ := hW.V
  have hn24 := hV.2.2.1.1
  refine cp_up (n := cp_tp N) (P := fun k => cp_G x E 5 0 0 cnt sh I R 195 [some (.ref co), some (.ref cq), some (.int 1), some (.int (nI k)), none] []) (fun k hk ih => ?_)
  refine cp_iload_n O dL_areAlike_195 cp_lg3 ?_
  refine cp_aload_n O dL_areAlike_196 cp_lg0 ?_
  refine cp_iconst O dL_areAlike_197 (v := 2) rfl ?_
  refine cp_cVi O me_X6_count mi_X6_count ml_L_9 cp_cX6 hW.s (tw_cnt hW (r := nI (cp_tp N)) (by decide) (by decide) rfl) dL_areAlike_198 rfl rfl ⟨Nat.le_of_ble_eq_true rfl, Nat.le_of_ble_eq_true rfl⟩ ⟨Nat.le_refl _, Nat.le_refl _⟩ (Nat.le_of_ble_eq_true rfl) ?_
  refine cp_icmp_geN (tgt := 252) O dL_areAlike_201 (by decide) (a := k) (b := (cp_tp N)) rfl rfl (by omega) (by omega) (fun c_201 => ?_) (fun c_201 => ?_)
  · refine cp_iload_n O dL_areAlike_252 cp_lg2 ?_
    exact hr _ _ _ _ dL_areAlike_253 rfl ⟨N, hW, hF⟩
  · refine cp_iconst O dL_areAlike_204 (v := 0) rfl ?_
    refine cp_istore O dL_areAlike_205 (by decide) (cp_ls4 rfl) ?_
    exact al_207 O hW hF (ih c_201) 0 (Nat.zero_le _)
set_option maxHeartbeats 4000000 in
set_option maxRecDepth 100000 in
theorem al_193 {x : cp_Cx} {E : cp_En} {cnt : Nat} {sh : cp_Shp} {R : cp_Rem} {I : cp_Mem} {co cq : Nat} {N : cp_Nt} (O : cp_Ok x E RL cL_areAlike 5 7 0 0) (hW : cp_TW sh R I co cq N N) (hF : cp_WF N) (hr : ∀ (v : Int32) (I1 : cp_Mem) (pc : Nat) (L : List (Option Value)), decode cL_areAlike pc = .ok (.ireturn, 1) → v = 1 → cp_ST sh R I1 co cq → cp_G x E 5 0 0 cnt sh I1 R pc L [.int v]) : cp_G x E 5 0 0 cnt sh I R 193 [some (.ref co), some (.ref cq), some (.int 1), none, none] [] := by
  refine cp_iconst O dL_areAlike_193 (v := 0) rfl ?_
  refine cp_istore_n O dL_areAlike_194 (by decide) (cp_ls3 rfl) ?_
  exact al_195 O hW hF hr 0 (Nat.zero_le _)
set_option maxHeartbeats 4000000 in
set_option maxRecDepth 100000 in
theorem al_134 {x : cp_Cx} {E : cp_En} {cnt : Nat} {sh : cp_Shp} {R : cp_Rem} {I : cp_Mem} {co cq : Nat} {N : cp_Nt} (O : cp_Ok x E RL cL_areAlike 5 7 0 0) (hW : cp_TW sh R I co cq N N) (hF : cp_WF N) {k : Nat} (K : ∀ I, cp_TW sh R I co cq N N → cp_G x E 5 0 0 cnt sh I R 78 [some (.ref co), some (.ref cq), some (.int 1), some (.int (nI (k + 1))), none] []) : cp_G x E 5 0 0 cnt sh I R 134 [some (.ref co), some (.ref cq), some (.int 1), some (.int (nI k)), none] [] := by
  refine cp_iload_n O dL_areAlike_134 cp_lg2 ?_
  refine cp_if_eq (tgt := 185) O dL_areAlike_135 (by decide) (fun c => absurd c (by decide)) (fun _ => ?_)
  refine cp_aload_n O dL_areAlike_138 cp_lg0 ?_
  refine cp_iload_n O dL_areAlike_139 cp_lg3 ?_
  refine cp_iconst O dL_areAlike_140 (v := 0) rfl ?_
  refine cp_cVi O me_X6_why mi_X6_why ml_L_56 cp_cX6 hW.s (tw_why hW) dL_areAlike_141 rfl rfl ⟨Nat.le_of_ble_eq_true rfl, Nat.le_of_ble_eq_true rfl⟩ ⟨Nat.le_refl _, Nat.le_refl _⟩ (Nat.le_of_ble_eq_true rfl) ?_
  refine cp_aload_n O dL_areAlike_144 cp_lg1 ?_
  refine cp_iload_n O dL_areAlike_145 cp_lg3 ?_
  refine cp_iconst O dL_areAlike_146 (v := 0) rfl ?_
  refine cp_cVi O me_X6_why mi_X6_why ml_L_56 cp_cX6 hW.s' (tw_why hW.sy) dL_areAlike_147 rfl rfl ⟨Nat.le_of_ble_eq_true rfl, Nat.le_of_ble_eq_true rfl⟩ ⟨Nat.le_refl _, Nat.le_refl _⟩ (Nat.le_of_ble_eq_true rfl) ?_
  refine cp_icmp_ne (tgt := 185) O dL_areAlike_150 (by decide) (fun c => absurd c (fun z => z rfl)) (fun _ => ?_)
  refine cp_aload_n O dL_areAlike_153 cp_lg0 ?_
  refine cp_iload_n O dL_areAlike_154 cp_lg3 ?_
  refine cp_iconst O dL_areAlike_155 (v := 1) rfl ?_
  refine cp_cVi O me_X6_why mi_X6_why ml_L_56 cp_cX6 hW.s (tw_why hW) dL_areAlike_156 rfl rfl ⟨Nat.le_of_ble_eq_true rfl, Nat.le_of_ble_eq_true rfl⟩ ⟨Nat.le_refl _, Nat.le_refl _⟩ (Nat.le_of_ble_eq_true rfl) ?_
  refine cp_aload_n O dL_areAlike_159 cp_lg1 ?_
  refine cp_iload_n O dL_areAlike_160 cp_lg3 ?_
  refine cp_iconst O dL_areAlike_161 (v := 1) rfl ?_
  refine cp_cVi O me_X6_why mi_X6_why ml_L_56 cp_cX6 hW.s' (tw_why hW.sy) dL_areAlike_162 rfl rfl ⟨Nat.le_of_ble_eq_true rfl, Nat.le_of_ble_eq_true rfl⟩ ⟨Nat.le_refl _, Nat.le_refl _⟩ (Nat.le_of_ble_eq_true rfl) ?_
  refine cp_icmp_ne (tgt := 185) O dL_areAlike_165 (by decide) (fun c => absurd c (fun z => z rfl)) (fun _ => ?_)
  refine cp_aload_n O dL_areAlike_168 cp_lg0 ?_
  refine cp_iload_n O dL_areAlike_169 cp_lg3 ?_
  refine cp_cVir O me_X6_readyIn mi_X6_readyIn ml_L_59 cp_cX6 hW.s (tw_readyIn hW) dL_areAlike_170 rfl rfl ⟨Nat.le_of_ble_eq_true rfl, Nat.le_of_ble_eq_true rfl⟩ ⟨Nat.le_refl _, Nat.le_refl _⟩ (Nat.le_of_ble_eq_true rfl) (fun I170 hT170 => ?_)
  have hW170 := hT170.1
  refine cp_aload_n O dL_areAlike_173 cp_lg1 ?_
  refine cp_iload_n O dL_areAlike_174 cp_lg3 ?_
  refine cp_cVir O me_X6_readyIn mi_X6_readyIn ml_L_59 cp_cX6 hW170.s' (tw_readyIn hW170.sy) dL_areAlike_175 rfl rfl ⟨Nat.le_of_ble_eq_true rfl, Nat.le_of_ble_eq_true rfl⟩ ⟨Nat.le_refl _, Nat.le_refl _⟩ (Nat.le_of_ble_eq_true rfl) (fun I175 hT175 => ?_)
  have hW175 := hT175.1.sy
  refine cp_icmp_ne (tgt := 185) O dL_areAlike_178 (by decide) (fun c => absurd c (fun z => z rfl)) (fun _ => ?_)
  refine cp_iconst O dL_areAlike_181 (v := 1) rfl ?_
  refine cp_goto (tgt := 186) O dL_areAlike_182 (by decide) ?_
  refine cp_istore_n O dL_areAlike_186 (by decide) (cp_ls2 rfl) ?_
  refine cp_iinc O dL_areAlike_187 cp_lg3 (cp_inc rfl) (by decide) (cp_ls3 rfl) ?_
  refine cp_goto (tgt := 78) O dL_areAlike_190 (by decide) ?_
  exact K _ hW175
set_option maxHeartbeats 4000000 in
set_option maxRecDepth 100000 in
theorem al_94 {x : cp_Cx} {E : cp_En} {cnt : Nat} {sh : cp_Shp} {R : cp_Rem} {I : cp_Mem} {co cq : Nat} {N : cp_Nt} (O : cp_Ok x E RL cL_areAlike 5 7 0 0) (hW : cp_TW sh R I co cq N N) (hF : cp_WF N) {k : Nat} (K : ∀ I, cp_TW sh R I co cq N N → cp_G x E 5 0 0 cnt sh I R 78 [some (.ref co), some (.ref cq), some (.int 1), some (.int (nI (k + 1))), none] []) : ∀ j, j ≤ 11 → cp_G x E 5 0 0 cnt sh I R 94 [some (.ref co), some (.ref cq), some (.int 1), some (.int (nI k)), some (.int (nI j))] [] := by
  refine cp_up (n := 11) (P := fun j => cp_G x E 5 0 0 cnt sh I R 94 [some (.ref co), some (.ref cq), some (.int 1), some (.int (nI k)), some (.int (nI j))] []) (fun j hj ih => ?_)
  refine cp_iload O dL_areAlike_94 cp_lg4 ?_
  refine cp_bipush O dL_areAlike_96 (v := 11) rfl ?_
  refine cp_icmp_geN (tgt := 134) O dL_areAlike_98 (by decide) (a := j) (b := 11) rfl rfl (by omega) (by omega) (fun c_98 => ?_) (fun c_98 => ?_)
  · exact cp_Gw (cp_lws (cp_lws (cp_lws (cp_lws (cp_lwn cp_lw0))))) (al_134 O hW hF K)
  · refine cp_iload_n O dL_areAlike_101 cp_lg2 ?_
    refine cp_if_eq (tgt := 126) O dL_areAlike_102 (by decide) (fun c => absurd c (by decide)) (fun _ => ?_)
    refine cp_aload_n O dL_areAlike_105 cp_lg0 ?_
    refine cp_iload_n O dL_areAlike_106 cp_lg3 ?_
    refine cp_iload O dL_areAlike_107 cp_lg4 ?_
    refine cp_cVi O me_X6_ofPiece mi_X6_ofPiece ml_L_28 cp_cX6 hW.s (tw_ofPiece hW) dL_areAlike_109 rfl rfl ⟨Nat.le_of_ble_eq_true rfl, Nat.le_of_ble_eq_true rfl⟩ ⟨Nat.le_refl _, Nat.le_refl _⟩ (Nat.le_of_ble_eq_true rfl) ?_
    refine cp_aload_n O dL_areAlike_112 cp_lg1 ?_
    refine cp_iload_n O dL_areAlike_113 cp_lg3 ?_
    refine cp_iload O dL_areAlike_114 cp_lg4 ?_
    refine cp_cVi O me_X6_ofPiece mi_X6_ofPiece ml_L_28 cp_cX6 hW.s' (tw_ofPiece hW.sy) dL_areAlike_116 rfl rfl ⟨Nat.le_of_ble_eq_true rfl, Nat.le_of_ble_eq_true rfl⟩ ⟨Nat.le_refl _, Nat.le_refl _⟩ (Nat.le_of_ble_eq_true rfl) ?_
    refine cp_icmp_ne (tgt := 126) O dL_areAlike_119 (by decide) (fun c => absurd c (fun z => z rfl)) (fun _ => ?_)
    refine cp_iconst O dL_areAlike_122 (v := 1) rfl ?_
    refine cp_goto (tgt := 127) O dL_areAlike_123 (by decide) ?_
    refine cp_istore_n O dL_areAlike_127 (by decide) (cp_ls2 rfl) ?_
    refine cp_iinc O dL_areAlike_128 cp_lg4 (cp_inc rfl) (by decide) (cp_ls4 rfl) ?_
    refine cp_goto (tgt := 94) O dL_areAlike_131 (by decide) ?_
    exact ih c_98
set_option maxHeartbeats 4000000 in
set_option maxRecDepth 100000 in
theorem al_78 {x : cp_Cx} {E : cp_En} {cnt : Nat} {sh : cp_Shp} {R : cp_Rem} {I : cp_Mem} {co cq : Nat} {N : cp_Nt} (O : cp_Ok x E RL cL_areAlike 5 7 0 0) (hW : cp_TW sh R I co cq N N) (hF : cp_WF N) (hr : ∀ (v : Int32) (I1 : cp_Mem) (pc : Nat) (L : List (Option Value)), decode cL_areAlike pc = .ok (.ireturn, 1) → v = 1 → cp_ST sh R I1 co cq → cp_G x E 5 0 0 cnt sh I1 R pc L [.int v]) : ∀ k, k ≤ cp_tn N → ∀ I, cp_TW sh R I co cq N N → cp_G x E 5 0 0 cnt sh I R 78 [some (.ref co), some (.ref cq), some (.int 1), some (.int (nI k)), none] [] := by
  obtain ⟨hV, h8⟩ := hW.V
  have hn24 := hV.2.2.1.1
  refine cp_up (n := cp_tn N) (P := fun k => ∀ I, cp_TW sh R I co cq N N → cp_G x E 5 0 0 cnt sh I R 78 [some (.ref co), some (.ref cq), some (.int 1), some (.int (nI k)), none] []) (fun k hk ih I hW => ?_)
  refine cp_iload_n O dL_areAlike_78 cp_lg3 ?_
  refine cp_aload_n O dL_areAlike_79 cp_lg0 ?_
  refine cp_iconst O dL_areAlike_80 (v := 1) rfl ?_
  refine cp_cVi O me_X6_count mi_X6_count ml_L_9 cp_cX6 hW.s (tw_cnt hW (r := nI (cp_tn N)) (by decide) (by decide) rfl) dL_areAlike_81 rfl rfl ⟨Nat.le_of_ble_eq_true rfl, Nat.le_of_ble_eq_true rfl⟩ ⟨Nat.le_refl _, Nat.le_refl _⟩ (Nat.le_of_ble_eq_true rfl) ?_
  refine cp_icmp_geN (tgt := 193) O dL_areAlike_84 (by decide) (a := k) (b := (cp_tn N)) rfl rfl (by omega) (by omega) (fun c_84 => ?_) (fun c_84 => ?_)
  · exact cp_Gw (cp_lws (cp_lws (cp_lws (cp_lwn (cp_lws cp_lw0))))) (al_193 O hW hF hr)
  · refine cp_iload_n O dL_areAlike_87 cp_lg2 ?_
    refine cp_if_eq (tgt := 193) O dL_areAlike_88 (by decide) (fun c => absurd c (by decide)) (fun _ => ?_)
    refine cp_iconst O dL_areAlike_91 (v := 0) rfl ?_
    refine cp_istore O dL_areAlike_92 (by decide) (cp_ls4 rfl) ?_
    exact al_94 O hW hF (ih c_84) 0 (Nat.zero_le _)
set_option maxHeartbeats 4000000 in
set_option maxRecDepth 100000 in
theorem al_41 {x : cp_Cx} {E : cp_En} {cnt : Nat} {sh : cp_Shp} {R : cp_Rem} {I : cp_Mem} {co cq : Nat} {N : cp_Nt} (O : cp_Ok x E RL cL_areAlike 5 7 0 0) (hW : cp_TW sh R I co cq N N) (hF : cp_WF N) (hr : ∀ (v : Int32) (I1 : cp_Mem) (pc : Nat) (L : List (Option Value)), decode cL_areAlike pc = .ok (.ireturn, 1) → v = 1 → cp_ST sh R I1 co cq → cp_G x E 5 0 0 cnt sh I1 R pc L [.int v]) : ∀ k, k ≤ 14 → cp_G x E 5 0 0 cnt sh I R 41 [some (.ref co), some (.ref cq), some (.int 1), some (.int (nI k)), none] [] := by
  refine cp_up (n := 14) (P := fun k => cp_G x E 5 0 0 cnt sh I R 41 [some (.ref co), some (.ref cq), some (.int 1), some (.int (nI k)), none] []) (fun k hk ih => ?_)
  refine cp_iload_n O dL_areAlike_41 cp_lg3 ?_
  refine cp_bipush O dL_areAlike_42 (v := 14) rfl ?_
  refine cp_icmp_geN (tgt := 76) O dL_areAlike_44 (by decide) (a := k) (b := 14) rfl rfl (by omega) (by omega) (fun c_44 => ?_) (fun c_44 => ?_)
  · refine cp_iconst O dL_areAlike_76 (v := 0) rfl ?_
    refine cp_istore_n O dL_areAlike_77 (by decide) (cp_ls3 rfl) ?_
    exact al_78 (I := I) O hW hF hr 0 (Nat.zero_le _) I hW
  · refine cp_iload_n O dL_areAlike_47 cp_lg2 ?_
    refine cp_if_eq (tgt := 68) O dL_areAlike_48 (by decide) (fun c => absurd c (by decide)) (fun _ => ?_)
    refine cp_aload_n O dL_areAlike_51 cp_lg0 ?_
    refine cp_iload_n O dL_areAlike_52 cp_lg3 ?_
    refine cp_cVi O me_X6_count mi_X6_count ml_L_9 cp_cX6 hW.s (tw_count hW (cp_n13 c_44).1 (cp_n13 c_44).2) dL_areAlike_53 rfl rfl ⟨Nat.le_of_ble_eq_true rfl, Nat.le_of_ble_eq_true rfl⟩ ⟨Nat.le_refl _, Nat.le_refl _⟩ (Nat.le_of_ble_eq_true rfl) ?_
    refine cp_aload_n O dL_areAlike_56 cp_lg1 ?_
    refine cp_iload_n O dL_areAlike_57 cp_lg3 ?_
    refine cp_cVi O me_X6_count mi_X6_count ml_L_9 cp_cX6 hW.s' (tw_count hW.sy (cp_n13 c_44).1 (cp_n13 c_44).2) dL_areAlike_58 rfl rfl ⟨Nat.le_of_ble_eq_true rfl, Nat.le_of_ble_eq_true rfl⟩ ⟨Nat.le_refl _, Nat.le_refl _⟩ (Nat.le_of_ble_eq_true rfl) ?_
    refine cp_icmp_ne (tgt := 68) O dL_areAlike_61 (by decide) (fun c => absurd c (fun z => z rfl)) (fun _ => ?_)
    refine cp_iconst O dL_areAlike_64 (v := 1) rfl ?_
    refine cp_goto (tgt := 69) O dL_areAlike_65 (by decide) ?_
    refine cp_istore_n O dL_areAlike_69 (by decide) (cp_ls2 rfl) ?_
    refine cp_iinc O dL_areAlike_70 cp_lg3 (cp_inc rfl) (by decide) (cp_ls3 rfl) ?_
    refine cp_goto (tgt := 41) O dL_areAlike_73 (by decide) ?_
    exact ih c_44
set_option maxHeartbeats 4000000 in
set_option maxRecDepth 100000 in
theorem c_L_areAlike {lc : Launch} {E : cp_En} {cnt : Nat} {sh : cp_Shp} {R : cp_Rem} {I : cp_Mem} {co cq : Nat} (hS : cp_ST sh R I co cq) : cp_Fr lc E yL_areAlike cL_areAlike 5 (some .boolean) 7 [.ref co, .ref cq] cnt sh I R (some (.int 1)) (fun I' => cp_ST sh R I' co cq) := by
  obtain ⟨N, hW, hF⟩ := hS
  refine cp_Fn_iR [some (.ref co), some (.ref cq), none, none, none] (by decide +kernel) (Nat.le_of_ble_eq_true rfl) rfl rfl (fun x hxl O hr => ?_)
  subst hxl
  refine cp_aload_n O dL_areAlike_0 cp_lg0 ?_
  refine cp_cVi O me_X6_plateNow mi_X6_plateNow ml_L_50 cp_cX6 hW.s (tw_plateNow hW) dL_areAlike_1 rfl rfl ⟨Nat.le_of_ble_eq_true rfl, Nat.le_of_ble_eq_true rfl⟩ ⟨Nat.le_refl _, Nat.le_refl _⟩ (Nat.le_of_ble_eq_true rfl) ?_
  refine cp_aload_n O dL_areAlike_4 cp_lg1 ?_
  refine cp_cVi O me_X6_plateNow mi_X6_plateNow ml_L_50 cp_cX6 hW.s' (tw_plateNow hW.sy) dL_areAlike_5 rfl rfl ⟨Nat.le_of_ble_eq_true rfl, Nat.le_of_ble_eq_true rfl⟩ ⟨Nat.le_refl _, Nat.le_refl _⟩ (Nat.le_of_ble_eq_true rfl) ?_
  refine cp_icmp_ne (tgt := 37) O dL_areAlike_8 (by decide) (fun c => absurd c (fun z => z rfl)) (fun _ => ?_)
  refine cp_aload_n O dL_areAlike_11 cp_lg0 ?_
  refine cp_cVir O me_X6_nextPlate mi_X6_nextPlate ml_L_34 cp_cX6 hW.s (tw_nextPlate hW hF.1) dL_areAlike_12 rfl rfl ⟨Nat.le_of_ble_eq_true rfl, Nat.le_of_ble_eq_true rfl⟩ ⟨Nat.le_refl _, Nat.le_refl _⟩ (Nat.le_of_ble_eq_true rfl) (fun I12 hT12 => ?_)
  have hW12 := hT12.1
  refine cp_aload_n O dL_areAlike_15 cp_lg1 ?_
  refine cp_cVir O me_X6_nextPlate mi_X6_nextPlate ml_L_34 cp_cX6 hW12.s' (tw_nextPlate hW12.sy hF.1) dL_areAlike_16 rfl rfl ⟨Nat.le_of_ble_eq_true rfl, Nat.le_of_ble_eq_true rfl⟩ ⟨Nat.le_refl _, Nat.le_refl _⟩ (Nat.le_of_ble_eq_true rfl) (fun I16 hT16 => ?_)
  have hW16 := hT16.1.sy
  refine cp_icmp_ne (tgt := 37) O dL_areAlike_19 (by decide) (fun c => absurd c (fun z => z rfl)) (fun _ => ?_)
  refine cp_aload_n O dL_areAlike_22 cp_lg0 ?_
  refine cp_cVir O me_X6_leastRoom mi_X6_leastRoom ml_L_53 cp_cX6 hW16.s (tw_leastRoom hW16 hF.1) dL_areAlike_23 rfl rfl ⟨Nat.le_of_ble_eq_true rfl, Nat.le_of_ble_eq_true rfl⟩ ⟨Nat.le_refl _, Nat.le_refl _⟩ (Nat.le_of_ble_eq_true rfl) (fun I23 hT23 => ?_)
  have hW23 := hT23.1
  refine cp_aload_n O dL_areAlike_26 cp_lg1 ?_
  refine cp_cVir O me_X6_leastRoom mi_X6_leastRoom ml_L_53 cp_cX6 hW23.s' (tw_leastRoom hW23.sy hF.1) dL_areAlike_27 rfl rfl ⟨Nat.le_of_ble_eq_true rfl, Nat.le_of_ble_eq_true rfl⟩ ⟨Nat.le_refl _, Nat.le_refl _⟩ (Nat.le_of_ble_eq_true rfl) (fun I27 hT27 => ?_)
  have hW27 := hT27.1.sy
  refine cp_icmp_ne (tgt := 37) O dL_areAlike_30 (by decide) (fun c => absurd c (fun z => z rfl)) (fun _ => ?_)
  refine cp_iconst O dL_areAlike_33 (v := 1) rfl ?_
  refine cp_goto (tgt := 38) O dL_areAlike_34 (by decide) ?_
  refine cp_istore_n O dL_areAlike_38 (by decide) (cp_ls2 rfl) ?_
  refine cp_iconst O dL_areAlike_39 (v := 0) rfl ?_
  refine cp_istore_n O dL_areAlike_40 (by decide) (cp_ls3 rfl) ?_
  exact al_41 O hW27 hF hr 0 (Nat.zero_le _)
