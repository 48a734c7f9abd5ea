set_option maxHeartbeats 4000000 in
set_option maxRecDepth 100000 in
theorem st_piece {x : cp_Cx} {E : cp_En} {cnt : Nat} {sh : cp_Shp} {R : cp_Rem} {I : cp_Mem} {co cq : Nat} {N : cp_Nt} {x0 y : Int32} (O : cp_Ok x E RL cL_isStep 14 7 0 0) (hW : cp_TW sh R I co cq N N) (hF : cp_WF N) (hr : ∀ (v : Int32) (I1 : cp_Mem) (pc : Nat) (L : List (Option Value)), decode cL_isStep pc = .ok (.ireturn, 1) → v = 1 → cp_ST sh R I1 co cq → cp_G x E 14 0 0 cnt sh I1 R pc L [.int v]) : cp_G x E 14 0 0 cnt sh I R 96 [some (.ref co), some (.ref cq), some (.int x0), some (.int y), some (.int (nI (cp_tn N))), some (.int (nI (cp_tm N))), none, none, none, none, none, none, none, none] [] := by
  obtain ⟨hV, h8⟩ := hW.V
  have hn24 := hV.2.2.1.1
  have hm600 := hV.2.1
  refine cp_iload_n O dL_isStep_96 cp_lg3 ?_
  refine cp_iconst O dL_isStep_97 (v := 5) rfl ?_
  refine cp_cup O (m := 5) rfl (by decide) (by decide) dL_isStep_98 ⟨Nat.le_of_ble_eq_true rfl, Nat.le_of_ble_eq_true rfl⟩ ⟨Nat.le_refl _, Nat.le_refl _⟩ (Nat.le_of_ble_eq_true rfl) (fun j98 hj98 => ?_)
  refine cp_istore O dL_isStep_101 (by decide) (cp_ls6 rfl) ?_
  refine cp_iconst O dL_isStep_103 (v := 1) rfl ?_
  refine cp_iload_n O dL_isStep_104 cp_lg3 ?_
  refine cp_iconst O dL_isStep_105 (v := 3) rfl ?_
  refine cp_ishr O dL_isStep_106 ?_
  refine cp_iload_n O dL_isStep_107 cp_lg3 ?_
  refine cp_iconst O dL_isStep_108 (v := 2) rfl ?_
  refine cp_ishr O dL_isStep_109 ?_
  refine cp_iconst O dL_isStep_110 (v := 3) rfl ?_
  refine cp_cup O (m := 3) rfl (by decide) (by decide) dL_isStep_111 ⟨Nat.le_of_ble_eq_true rfl, Nat.le_of_ble_eq_true rfl⟩ ⟨Nat.le_refl _, Nat.le_refl _⟩ (Nat.le_of_ble_eq_true rfl) (fun j111 hj111 => ?_)
  refine cp_if_ne (tgt := 122) O dL_isStep_114 (by decide) (fun c_114 => ?_) (fun c_114 => ?_)
  · refine cp_bipush O dL_isStep_122 (v := 25) rfl ?_
    refine cp_cup O (m := 25) rfl (by decide) (by decide) dL_isStep_124 ⟨Nat.le_of_ble_eq_true rfl, Nat.le_of_ble_eq_true rfl⟩ ⟨Nat.le_refl _, Nat.le_refl _⟩ (Nat.le_of_ble_eq_true rfl) (fun j124 hj124 => ?_)
    refine cp_iadd O dL_isStep_127 ?_
    rw [show (1 : Int32) + nI j124 = nI (1 + j124) from nI_add 1 j124]
    refine cp_istore O dL_isStep_128 (by decide) (cp_ls7 rfl) ?_
    refine cp_iload_n O dL_isStep_130 cp_lg3 ?_
    refine cp_bipush O dL_isStep_131 (v := 10) rfl ?_
    refine cp_ishr O dL_isStep_133 ?_
    refine cp_bipush O dL_isStep_134 (v := 10) rfl ?_
    refine cp_cup O (m := 10) rfl (by decide) (by decide) dL_isStep_136 ⟨Nat.le_of_ble_eq_true rfl, Nat.le_of_ble_eq_true rfl⟩ ⟨Nat.le_refl _, Nat.le_refl _⟩ (Nat.le_of_ble_eq_true rfl) (fun j136 hj136 => ?_)
    refine cp_istore O dL_isStep_139 (by decide) (cp_ls8 rfl) ?_
    refine cp_iload_n O dL_isStep_141 cp_lg3 ?_
    refine cp_bipush O dL_isStep_142 (v := 14) rfl ?_
    refine cp_ishr O dL_isStep_144 ?_
    refine cp_iconst O dL_isStep_145 (v := 3) rfl ?_
    refine cp_cup O (m := 3) rfl (by decide) (by decide) dL_isStep_146 ⟨Nat.le_of_ble_eq_true rfl, Nat.le_of_ble_eq_true rfl⟩ ⟨Nat.le_refl _, Nat.le_refl _⟩ (Nat.le_of_ble_eq_true rfl) (fun j146 hj146 => ?_)
    refine cp_if_ne (tgt := 156) O dL_isStep_149 (by decide) (fun c_149 => ?_) (fun c_149 => ?_)
    · refine cp_iconst O dL_isStep_156 (v := 0) rfl ?_
      refine cp_istore O dL_isStep_157 (by decide) (cp_ls9 rfl) ?_
      refine cp_aload_n O dL_isStep_159 cp_lg0 ?_
      refine cp_iload O dL_isStep_160 cp_lg6 ?_
      refine cp_iload O dL_isStep_162 cp_lg7 ?_
      refine cp_iload O dL_isStep_164 cp_lg8 ?_
      refine cp_iload O dL_isStep_166 cp_lg9 ?_
      refine cp_cVir O me_X6_piece mi_X6_piece ml_L_21 cp_cX6 hW.s (tw_piece hW) dL_isStep_168 rfl rfl ⟨Nat.le_of_ble_eq_true rfl, Nat.le_of_ble_eq_true rfl⟩ ⟨Nat.le_refl _, Nat.le_refl _⟩ (Nat.le_of_ble_eq_true rfl) (fun I168 hT168 => ?_)
      have hW168 := hT168.1
      refine cp_istore O dL_isStep_171 (by decide) (cp_ls10 rfl) ?_
      refine cp_iload O dL_isStep_173 cp_lg10 ?_
      refine cp_aload_n O dL_isStep_175 cp_lg1 ?_
      refine cp_iload O dL_isStep_176 cp_lg6 ?_
      refine cp_iload O dL_isStep_178 cp_lg7 ?_
      refine cp_iload O dL_isStep_180 cp_lg8 ?_
      refine cp_iload O dL_isStep_182 cp_lg9 ?_
      refine cp_cVir O me_X6_piece mi_X6_piece ml_L_21 cp_cX6 hW168.s' (tw_piece hW168.sy) dL_isStep_184 rfl rfl ⟨Nat.le_of_ble_eq_true rfl, Nat.le_of_ble_eq_true rfl⟩ ⟨Nat.le_refl _, Nat.le_refl _⟩ (Nat.le_of_ble_eq_true rfl) (fun I184 hT184 => ?_)
      have hW184 := hT184.1.sy
      have hf := cp_f_piece (N := N) (d := j98) (l := 1 + j124) (r := j136) (g := 0) (by omega) (by omega) (by omega) (by decide)
      refine cp_icmp_ne (tgt := 213) O dL_isStep_187 (by decide) (fun c => absurd c (fun z => z rfl)) (fun _ => ?_)
      refine cp_iload O dL_isStep_190 cp_lg10 ?_
      refine cp_iload O dL_isStep_192 cp_lg4 ?_
      refine cp_bipush O dL_isStep_194 (v := 24) rfl ?_
      refine cp_icmp_neN (tgt := 204) O dL_isStep_196 (by decide) (a := cp_tn N) (b := 24) rfl rfl (by omega) (by omega) (fun c_196 => ?_) (fun c_196 => ?_)
      · refine cp_iload O dL_isStep_204 cp_lg4 ?_
        refine cp_icmp_ne (tgt := 213) O dL_isStep_206 (by decide) (fun c => absurd c (fun z => z (hf.trans (if_neg c_196)))) (fun _ => ?_)
        refine cp_iconst O dL_isStep_209 (v := 1) rfl ?_
        refine cp_goto (tgt := 214) O dL_isStep_210 (by decide) ?_
        exact hr _ _ _ _ dL_isStep_214 rfl ⟨_, hW184, cp_WF_piece hF⟩
      · refine cp_bipush O dL_isStep_199 (v := (-4)) rfl ?_
        refine cp_goto (tgt := 206) O dL_isStep_201 (by decide) ?_
        refine cp_icmp_ne (tgt := 213) O dL_isStep_206 (by decide) (fun c => absurd c (fun z => z (hf.trans (if_pos c_196)))) (fun _ => ?_)
        refine cp_iconst O dL_isStep_209 (v := 1) rfl ?_
        refine cp_goto (tgt := 214) O dL_isStep_210 (by decide) ?_
        exact hr _ _ _ _ dL_isStep_214 rfl ⟨_, hW184, cp_WF_piece hF⟩
    · refine cp_iconst O dL_isStep_152 (v := 1) rfl ?_
      refine cp_goto (tgt := 157) O dL_isStep_153 (by decide) ?_
      refine cp_istore O dL_isStep_157 (by decide) (cp_ls9 rfl) ?_
      refine cp_aload_n O dL_isStep_159 cp_lg0 ?_
      refine cp_iload O dL_isStep_160 cp_lg6 ?_
      refine cp_iload O dL_isStep_162 cp_lg7 ?_
      refine cp_iload O dL_isStep_164 cp_lg8 ?_
      refine cp_iload O dL_isStep_166 cp_lg9 ?_
      refine cp_cVir O me_X6_piece mi_X6_piece ml_L_21 cp_cX6 hW.s (tw_piece hW) dL_isStep_168 rfl rfl ⟨Nat.le_of_ble_eq_true rfl, Nat.le_of_ble_eq_true rfl⟩ ⟨Nat.le_refl _, Nat.le_refl _⟩ (Nat.le_of_ble_eq_true rfl) (fun I168 hT168 => ?_)
      have hW168 := hT168.1
      refine cp_istore O dL_isStep_171 (by decide) (cp_ls10 rfl) ?_
      refine cp_iload O dL_isStep_173 cp_lg10 ?_
      refine cp_aload_n O dL_isStep_175 cp_lg1 ?_
      refine cp_iload O dL_isStep_176 cp_lg6 ?_
      refine cp_iload O dL_isStep_178 cp_lg7 ?_
      refine cp_iload O dL_isStep_180 cp_lg8 ?_
      refine cp_iload O dL_isStep_182 cp_lg9 ?_
      refine cp_cVir O me_X6_piece mi_X6_piece ml_L_21 cp_cX6 hW168.s' (tw_piece hW168.sy) dL_isStep_184 rfl rfl ⟨Nat.le_of_ble_eq_true rfl, Nat.le_of_ble_eq_true rfl⟩ ⟨Nat.le_refl _, Nat.le_refl _⟩ (Nat.le_of_ble_eq_true rfl) (fun I184 hT184 => ?_)
      have hW184 := hT184.1.sy
      have hf := cp_f_piece (N := N) (d := j98) (l := 1 + j124) (r := j136) (g := 1) (by omega) (by omega) (by omega) (by decide)
      refine cp_icmp_ne (tgt := 213) O dL_isStep_187 (by decide) (fun c => absurd c (fun z => z rfl)) (fun _ => ?_)
      refine cp_iload O dL_isStep_190 cp_lg10 ?_
      refine cp_iload O dL_isStep_192 cp_lg4 ?_
      refine cp_bipush O dL_isStep_194 (v := 24) rfl ?_
      refine cp_icmp_neN (tgt := 204) O dL_isStep_196 (by decide) (a := cp_tn N) (b := 24) rfl rfl (by omega) (by omega) (fun c_196 => ?_) (fun c_196 => ?_)
      · refine cp_iload O dL_isStep_204 cp_lg4 ?_
        refine cp_icmp_ne (tgt := 213) O dL_isStep_206 (by decide) (fun c => absurd c (fun z => z (hf.trans (if_neg c_196)))) (fun _ => ?_)
        refine cp_iconst O dL_isStep_209 (v := 1) rfl ?_
        refine cp_goto (tgt := 214) O dL_isStep_210 (by decide) ?_
        exact hr _ _ _ _ dL_isStep_214 rfl ⟨_, hW184, cp_WF_piece hF⟩
      · refine cp_bipush O dL_isStep_199 (v := (-4)) rfl ?_
        refine cp_goto (tgt := 206) O dL_isStep_201 (by decide) ?_
        refine cp_icmp_ne (tgt := 213) O dL_isStep_206 (by decide) (fun c => absurd c (fun z => z (hf.trans (if_pos c_196)))) (fun _ => ?_)
        refine cp_iconst O dL_isStep_209 (v := 1) rfl ?_
        refine cp_goto (tgt := 214) O dL_isStep_210 (by decide) ?_
        exact hr _ _ _ _ dL_isStep_214 rfl ⟨_, hW184, cp_WF_piece hF⟩
  · refine cp_bipush O dL_isStep_117 (v := 99) rfl ?_
    refine cp_goto (tgt := 124) O dL_isStep_119 (by decide) ?_
    refine cp_cup O (m := 99) rfl (by decide) (by decide) dL_isStep_124 ⟨Nat.le_of_ble_eq_true rfl, Nat.le_of_ble_eq_true rfl⟩ ⟨Nat.le_refl _, Nat.le_refl _⟩ (Nat.le_of_ble_eq_true rfl) (fun j124 hj124 => ?_)
    refine cp_iadd O dL_isStep_127 ?_
    rw [show (1 : Int32) + nI j124 = nI (1 + j124) from nI_add 1 j124]
    refine cp_istore O dL_isStep_128 (by decide) (cp_ls7 rfl) ?_
    refine cp_iload_n O dL_isStep_130 cp_lg3 ?_
    refine cp_bipush O dL_isStep_131 (v := 10) rfl ?_
    refine cp_ishr O dL_isStep_133 ?_
    refine cp_bipush O dL_isStep_134 (v := 10) rfl ?_
    refine cp_cup O (m := 10) rfl (by decide) (by decide) dL_isStep_136 ⟨Nat.le_of_ble_eq_true rfl, Nat.le_of_ble_eq_true rfl⟩ ⟨Nat.le_refl _, Nat.le_refl _⟩ (Nat.le_of_ble_eq_true rfl) (fun j136 hj136 => ?_)
    refine cp_istore O dL_isStep_139 (by decide) (cp_ls8 rfl) ?_
    refine cp_iload_n O dL_isStep_141 cp_lg3 ?_
    refine cp_bipush O dL_isStep_142 (v := 14) rfl ?_
    refine cp_ishr O dL_isStep_144 ?_
    refine cp_iconst O dL_isStep_145 (v := 3) rfl ?_
    refine cp_cup O (m := 3) rfl (by decide) (by decide) dL_isStep_146 ⟨Nat.le_of_ble_eq_true rfl, Nat.le_of_ble_eq_true rfl⟩ ⟨Nat.le_refl _, Nat.le_refl _⟩ (Nat.le_of_ble_eq_true rfl) (fun j146 hj146 => ?_)
    refine cp_if_ne (tgt := 156) O dL_isStep_149 (by decide) (fun c_149 => ?_) (fun c_149 => ?_)
    · refine cp_iconst O dL_isStep_156 (v := 0) rfl ?_
      refine cp_istore O dL_isStep_157 (by decide) (cp_ls9 rfl) ?_
      refine cp_aload_n O dL_isStep_159 cp_lg0 ?_
      refine cp_iload O dL_isStep_160 cp_lg6 ?_
      refine cp_iload O dL_isStep_162 cp_lg7 ?_
      refine cp_iload O dL_isStep_164 cp_lg8 ?_
      refine cp_iload O dL_isStep_166 cp_lg9 ?_
      refine cp_cVir O me_X6_piece mi_X6_piece ml_L_21 cp_cX6 hW.s (tw_piece hW) dL_isStep_168 rfl rfl ⟨Nat.le_of_ble_eq_true rfl, Nat.le_of_ble_eq_true rfl⟩ ⟨Nat.le_refl _, Nat.le_refl _⟩ (Nat.le_of_ble_eq_true rfl) (fun I168 hT168 => ?_)
      have hW168 := hT168.1
      refine cp_istore O dL_isStep_171 (by decide) (cp_ls10 rfl) ?_
      refine cp_iload O dL_isStep_173 cp_lg10 ?_
      refine cp_aload_n O dL_isStep_175 cp_lg1 ?_
      refine cp_iload O dL_isStep_176 cp_lg6 ?_
      refine cp_iload O dL_isStep_178 cp_lg7 ?_
      refine cp_iload O dL_isStep_180 cp_lg8 ?_
      refine cp_iload O dL_isStep_182 cp_lg9 ?_
      refine cp_cVir O me_X6_piece mi_X6_piece ml_L_21 cp_cX6 hW168.s' (tw_piece hW168.sy) dL_isStep_184 rfl rfl ⟨Nat.le_of_ble_eq_true rfl, Nat.le_of_ble_eq_true rfl⟩ ⟨Nat.le_refl _, Nat.le_refl _⟩ (Nat.le_of_ble_eq_true rfl) (fun I184 hT184 => ?_)
      have hW184 := hT184.1.sy
      have hf := cp_f_piece (N := N) (d := j98) (l := 1 + j124) (r := j136) (g := 0) (by omega) (by omega) (by omega) (by decide)
      refine cp_icmp_ne (tgt := 213) O dL_isStep_187 (by decide) (fun c => absurd c (fun z => z rfl)) (fun _ => ?_)
      refine cp_iload O dL_isStep_190 cp_lg10 ?_
      refine cp_iload O dL_isStep_192 cp_lg4 ?_
      refine cp_bipush O dL_isStep_194 (v := 24) rfl ?_
      refine cp_icmp_neN (tgt := 204) O dL_isStep_196 (by decide) (a := cp_tn N) (b := 24) rfl rfl (by omega) (by omega) (fun c_196 => ?_) (fun c_196 => ?_)
      · refine cp_iload O dL_isStep_204 cp_lg4 ?_
        refine cp_icmp_ne (tgt := 213) O dL_isStep_206 (by decide) (fun c => absurd c (fun z => z (hf.trans (if_neg c_196)))) (fun _ => ?_)
        refine cp_iconst O dL_isStep_209 (v := 1) rfl ?_
        refine cp_goto (tgt := 214) O dL_isStep_210 (by decide) ?_
        exact hr _ _ _ _ dL_isStep_214 rfl ⟨_, hW184, cp_WF_piece hF⟩
      · refine cp_bipush O dL_isStep_199 (v := (-4)) rfl ?_
        refine cp_goto (tgt := 206) O dL_isStep_201 (by decide) ?_
        refine cp_icmp_ne (tgt := 213) O dL_isStep_206 (by decide) (fun c => absurd c (fun z => z (hf.trans (if_pos c_196)))) (fun _ => ?_)
        refine cp_iconst O dL_isStep_209 (v := 1) rfl ?_
        refine cp_goto (tgt := 214) O dL_isStep_210 (by decide) ?_
        exact hr _ _ _ _ dL_isStep_214 rfl ⟨_, hW184, cp_WF_piece hF⟩
    · refine cp_iconst O dL_isStep_152 (v := 1) rfl ?_
      refine cp_goto (tgt := 157) O dL_isStep_153 (by decide) ?_
      refine cp_istore O dL_isStep_157 (by decide) (cp_ls9 rfl) ?_
      refine cp_aload_n O dL_isStep_159 cp_lg0 ?_
      refine cp_iload O dL_isStep_160 cp_lg6 ?_
      refine cp_iload O dL_isStep_162 cp_lg7 ?_
      refine cp_iload O dL_isStep_164 cp_lg8 ?_
      refine cp_iload O dL_isStep_166 cp_lg9 ?_
      refine cp_cVir O me_X6_piece mi_X6_piece ml_L_21 cp_cX6 hW.s (tw_piece hW) dL_isStep_168 rfl rfl ⟨Nat.le_of_ble_eq_true rfl, Nat.le_of_ble_eq_true rfl⟩ ⟨Nat.le_refl _, Nat.le_refl _⟩ (Nat.le_of_ble_eq_true rfl) (fun I168 hT168 => ?_)
      have hW168 := hT168.1
      refine cp_istore O dL_isStep_171 (by decide) (cp_ls10 rfl) ?_
      refine cp_iload O dL_isStep_173 cp_lg10 ?_
      refine cp_aload_n O dL_isStep_175 cp_lg1 ?_
      refine cp_iload O dL_isStep_176 cp_lg6 ?_
      refine cp_iload O dL_isStep_178 cp_lg7 ?_
      refine cp_iload O dL_isStep_180 cp_lg8 ?_
      refine cp_iload O dL_isStep_182 cp_lg9 ?_
      refine cp_cVir O me_X6_piece mi_X6_piece ml_L_21 cp_cX6 hW168.s' (tw_piece hW168.sy) dL_isStep_184 rfl rfl ⟨Nat.le_of_ble_eq_true rfl, Nat.le_of_ble_eq_true rfl⟩ ⟨Nat.le_refl _, Nat.le_refl _⟩ (Nat.le_of_ble_eq_true rfl) (fun I184 hT184 => ?_)
      have hW184 := hT184.1.sy
      have hf := cp_f_piece (N := N) (d := j98) (l := 1 + j124) (r := j136) (g := 1) (by omega) (by omega) (by omega) (by decide)
      refine cp_icmp_ne (tgt := 213) O dL_isStep_187 (by decide) (fun c => absurd c (fun z => z rfl)) (fun _ => ?_)
      refine cp_iload O dL_isStep_190 cp_lg10 ?_
      refine cp_iload O dL_isStep_192 cp_lg4 ?_
      refine cp_bipush O dL_isStep_194 (v := 24) rfl ?_
      refine cp_icmp_neN (tgt := 204) O dL_isStep_196 (by decide) (a := cp_tn N) (b := 24) rfl rfl (by omega) (by omega) (fun c_196 => ?_) (fun c_196 => ?_)
      · refine cp_iload O dL_isStep_204 cp_lg4 ?_
        refine cp_icmp_ne (tgt := 213) O dL_isStep_206 (by decide) (fun c => absurd c (fun z => z (hf.trans (if_neg c_196)))) (fun _ => ?_)
        refine cp_iconst O dL_isStep_209 (v := 1) rfl ?_
        refine cp_goto (tgt := 214) O dL_isStep_210 (by decide) ?_
        exact hr _ _ _ _ dL_isStep_214 rfl ⟨_, hW184, cp_WF_piece hF⟩
      · refine cp_bipush O dL_isStep_199 (v := (-4)) rfl ?_
        refine cp_goto (tgt := 206) O dL_isStep_201 (by decide) ?_
        refine cp_icmp_ne (tgt := 213) O dL_isStep_206 (by decide) (fun c => absurd c (fun z => z (hf.trans (if_pos c_196)))) (fun _ => ?_)
        refine cp_iconst O dL_isStep_209 (v := 1) rfl ?_
        refine cp_goto (tgt := 214) O dL_isStep_210 (by decide) ?_
        exact hr _ _ _ _ dL_isStep_214 rfl ⟨_, hW184, cp_WF_piece hF⟩
theorem cp_n14 : ∀ {j : Nat}, j < 4 → (10 + nI j ≠ 14 ∧ 10 + nI j ≠ 15) := by decide +kernel
set_option maxHeartbeats 4000000 in
set_option maxRecDepth 100000 in
theorem st_set {x : cp_Cx} {E : cp_En} {cnt : Nat} {sh : cp_Shp} {R : cp_Rem} {I : cp_Mem} {co cq : Nat} {N : cp_Nt} {x0 y : Int32} (O : cp_Ok x E RL cL_isStep 14 7 0 0) (hW : cp_TW sh R I co cq N N) (hF : cp_WF N) (hr : ∀ (v : Int32) (I1 : cp_Mem) (pc : Nat) (L : List (Option Value)), decode cL_isStep pc = .ok (.ireturn, 1) → v = 1 → cp_ST sh R I1 co cq → cp_G x E 14 0 0 cnt sh I1 R pc L [.int v]) : cp_G x E 14 0 0 cnt sh I R 543 [some (.ref co), some (.ref cq), some (.int x0), some (.int y), some (.int (nI (cp_tn N))), some (.int (nI (cp_tm N))), none, none, none, none, none, none, none, none] [] := by
  obtain ⟨hV, h8⟩ := hW.V
  have hn24 := hV.2.2.1.1
  have hm600 := hV.2.1
  refine cp_iload_n O dL_isStep_543 cp_lg3 ?_
  refine cp_iconst O dL_isStep_544 (v := 4) rfl ?_
  refine cp_cup O (m := 4) rfl (by decide) (by decide) dL_isStep_545 ⟨Nat.le_of_ble_eq_true rfl, Nat.le_of_ble_eq_true rfl⟩ ⟨Nat.le_refl _, Nat.le_refl _⟩ (Nat.le_of_ble_eq_true rfl) (fun j545 hj545 => ?_)
  refine cp_istore O dL_isStep_548 (by decide) (cp_ls6 rfl) ?_
  refine cp_iload O dL_isStep_550 cp_lg6 ?_
  refine cp_if_ne (tgt := 568) O dL_isStep_552 (by decide) (fun c_552 => ?_) (fun c_552 => ?_)
  · have c0 : ¬ j545 = 0 := fun z => c_552 (by rw [z]; rfl)
    refine cp_iload O dL_isStep_568 cp_lg6 ?_
    refine cp_iconst O dL_isStep_570 (v := 1) rfl ?_
    refine cp_icmp_neN (tgt := 587) O dL_isStep_571 (by decide) (a := j545) (b := 1) rfl rfl (by omega) (by omega) (fun c_571 => ?_) (fun c_571 => ?_)
    · refine cp_iload O dL_isStep_587 cp_lg6 ?_
      refine cp_iconst O dL_isStep_589 (v := 2) rfl ?_
      refine cp_icmp_neN (tgt := 607) O dL_isStep_590 (by decide) (a := j545) (b := 2) rfl rfl (by omega) (by omega) (fun c_590 => ?_) (fun c_590 => ?_)
      · refine cp_iconst O dL_isStep_607 (v := 1) rfl ?_
        refine cp_iload_n O dL_isStep_608 cp_lg3 ?_
        refine cp_iconst O dL_isStep_609 (v := 2) rfl ?_
        refine cp_ishr O dL_isStep_610 ?_
        refine cp_bipush O dL_isStep_611 (v := 10) rfl ?_
        refine cp_cup O (m := 10) rfl (by decide) (by decide) dL_isStep_613 ⟨Nat.le_of_ble_eq_true rfl, Nat.le_of_ble_eq_true rfl⟩ ⟨Nat.le_refl _, Nat.le_refl _⟩ (Nat.le_of_ble_eq_true rfl) (fun j613 hj613 => ?_)
        refine cp_iadd O dL_isStep_616 ?_
        rw [show (1 : Int32) + nI j613 = nI (1 + j613) from nI_add 1 j613]
        refine cp_istore O dL_isStep_617 (by decide) (cp_ls7 rfl) ?_
        refine cp_aload_n O dL_isStep_619 cp_lg0 ?_
        refine cp_iload O dL_isStep_620 cp_lg6 ?_
        refine cp_iload O dL_isStep_622 cp_lg7 ?_
        refine cp_cVir O me_X6_set mi_X6_set ml_L_44 cp_cX6 hW.s (tw_set hW) dL_isStep_624 rfl rfl ⟨Nat.le_of_ble_eq_true rfl, Nat.le_of_ble_eq_true rfl⟩ ⟨Nat.le_refl _, Nat.le_refl _⟩ (Nat.le_of_ble_eq_true rfl) (fun I624 hT624 => ?_)
        have hW624 := hT624.1
        refine cp_aload_n O dL_isStep_627 cp_lg1 ?_
        refine cp_iload O dL_isStep_628 cp_lg6 ?_
        refine cp_iload O dL_isStep_630 cp_lg7 ?_
        refine cp_cVir O me_X6_set mi_X6_set ml_L_44 cp_cX6 hW624.s' (tw_set hW624.sy) dL_isStep_632 rfl rfl ⟨Nat.le_of_ble_eq_true rfl, Nat.le_of_ble_eq_true rfl⟩ ⟨Nat.le_refl _, Nat.le_refl _⟩ (Nat.le_of_ble_eq_true rfl) (fun I632 hT632 => ?_)
        have hW632 := hT632.1.sy
        have hs1 : cp_sCount (cp_sSet N (nI j545) (nI (1 + j613))).2 0 0 (10 + nI j545) = nI (1 + j613) := cp_f_set hj545 ⟨fun z => ⟨by omega, by omega⟩, fun z => ⟨by omega, by omega⟩, fun z => ⟨by omega, by omega⟩, fun z => ⟨by omega, by omega⟩⟩
        refine cp_icmp_ne (tgt := 656) O dL_isStep_635 (by decide) (fun c => absurd c (fun z => z rfl)) (fun _ => ?_)
        refine cp_aload_n O dL_isStep_638 cp_lg0 ?_
        refine cp_bipush O dL_isStep_639 (v := 10) rfl ?_
        refine cp_iload O dL_isStep_641 cp_lg6 ?_
        refine cp_iadd O dL_isStep_643 ?_
        refine cp_cVi O me_X6_count mi_X6_count ml_L_9 cp_cX6 hW632.s (tw_cnt hW632 (r := nI (1 + j613)) (cp_n14 hj545).1 (cp_n14 hj545).2 hs1) dL_isStep_644 rfl rfl ⟨Nat.le_of_ble_eq_true rfl, Nat.le_of_ble_eq_true rfl⟩ ⟨Nat.le_refl _, Nat.le_refl _⟩ (Nat.le_of_ble_eq_true rfl) ?_
        refine cp_iload O dL_isStep_647 cp_lg7 ?_
        refine cp_icmp_ne (tgt := 656) O dL_isStep_649 (by decide) (fun c => absurd c (fun z => z rfl)) (fun _ => ?_)
        refine cp_iconst O dL_isStep_652 (v := 1) rfl ?_
        refine cp_goto (tgt := 657) O dL_isStep_653 (by decide) ?_
        exact hr _ _ _ _ dL_isStep_657 rfl ⟨_, hW632, cp_WF_set hF⟩
      · refine cp_bipush O dL_isStep_593 (v := 10) rfl ?_
        refine cp_iload_n O dL_isStep_595 cp_lg3 ?_
        refine cp_iconst O dL_isStep_596 (v := 2) rfl ?_
        refine cp_ishr O dL_isStep_597 ?_
        refine cp_bipush O dL_isStep_598 (v := 120) rfl ?_
        refine cp_cup O (m := 120) rfl (by decide) (by decide) dL_isStep_600 ⟨Nat.le_of_ble_eq_true rfl, Nat.le_of_ble_eq_true rfl⟩ ⟨Nat.le_refl _, Nat.le_refl _⟩ (Nat.le_of_ble_eq_true rfl) (fun j600 hj600 => ?_)
        refine cp_iadd O dL_isStep_603 ?_
        rw [show (10 : Int32) + nI j600 = nI (10 + j600) from nI_add 10 j600]
        refine cp_goto (tgt := 617) O dL_isStep_604 (by decide) ?_
        refine cp_istore O dL_isStep_617 (by decide) (cp_ls7 rfl) ?_
        refine cp_aload_n O dL_isStep_619 cp_lg0 ?_
        refine cp_iload O dL_isStep_620 cp_lg6 ?_
        refine cp_iload O dL_isStep_622 cp_lg7 ?_
        refine cp_cVir O me_X6_set mi_X6_set ml_L_44 cp_cX6 hW.s (tw_set hW) dL_isStep_624 rfl rfl ⟨Nat.le_of_ble_eq_true rfl, Nat.le_of_ble_eq_true rfl⟩ ⟨Nat.le_refl _, Nat.le_refl _⟩ (Nat.le_of_ble_eq_true rfl) (fun I624 hT624 => ?_)
        have hW624 := hT624.1
        refine cp_aload_n O dL_isStep_627 cp_lg1 ?_
        refine cp_iload O dL_isStep_628 cp_lg6 ?_
        refine cp_iload O dL_isStep_630 cp_lg7 ?_
        refine cp_cVir O me_X6_set mi_X6_set ml_L_44 cp_cX6 hW624.s' (tw_set hW624.sy) dL_isStep_632 rfl rfl ⟨Nat.le_of_ble_eq_true rfl, Nat.le_of_ble_eq_true rfl⟩ ⟨Nat.le_refl _, Nat.le_refl _⟩ (Nat.le_of_ble_eq_true rfl) (fun I632 hT632 => ?_)
        have hW632 := hT632.1.sy
        have hs1 : cp_sCount (cp_sSet N (nI j545) (nI (10 + j600))).2 0 0 (10 + nI j545) = nI (10 + j600) := cp_f_set hj545 ⟨fun z => ⟨by omega, by omega⟩, fun z => ⟨by omega, by omega⟩, fun z => ⟨by omega, by omega⟩, fun z => ⟨by omega, by omega⟩⟩
        refine cp_icmp_ne (tgt := 656) O dL_isStep_635 (by decide) (fun c => absurd c (fun z => z rfl)) (fun _ => ?_)
        refine cp_aload_n O dL_isStep_638 cp_lg0 ?_
        refine cp_bipush O dL_isStep_639 (v := 10) rfl ?_
        refine cp_iload O dL_isStep_641 cp_lg6 ?_
        refine cp_iadd O dL_isStep_643 ?_
        refine cp_cVi O me_X6_count mi_X6_count ml_L_9 cp_cX6 hW632.s (tw_cnt hW632 (r := nI (10 + j600)) (cp_n14 hj545).1 (cp_n14 hj545).2 hs1) dL_isStep_644 rfl rfl ⟨Nat.le_of_ble_eq_true rfl, Nat.le_of_ble_eq_true rfl⟩ ⟨Nat.le_refl _, Nat.le_refl _⟩ (Nat.le_of_ble_eq_true rfl) ?_
        refine cp_iload O dL_isStep_647 cp_lg7 ?_
        refine cp_icmp_ne (tgt := 656) O dL_isStep_649 (by decide) (fun c => absurd c (fun z => z rfl)) (fun _ => ?_)
        refine cp_iconst O dL_isStep_652 (v := 1) rfl ?_
        refine cp_goto (tgt := 657) O dL_isStep_653 (by decide) ?_
        exact hr _ _ _ _ dL_isStep_657 rfl ⟨_, hW632, cp_WF_set hF⟩
    · refine cp_iconst O dL_isStep_574 (v := 1) rfl ?_
      refine cp_iload_n O dL_isStep_575 cp_lg3 ?_
      refine cp_iconst O dL_isStep_576 (v := 2) rfl ?_
      refine cp_ishr O dL_isStep_577 ?_
      refine cp_bipush O dL_isStep_578 (v := 15) rfl ?_
      refine cp_cup O (m := 15) rfl (by decide) (by decide) dL_isStep_580 ⟨Nat.le_of_ble_eq_true rfl, Nat.le_of_ble_eq_true rfl⟩ ⟨Nat.le_refl _, Nat.le_refl _⟩ (Nat.le_of_ble_eq_true rfl) (fun j580 hj580 => ?_)
      refine cp_iadd O dL_isStep_583 ?_
      rw [show (1 : Int32) + nI j580 = nI (1 + j580) from nI_add 1 j580]
      refine cp_goto (tgt := 617) O dL_isStep_584 (by decide) ?_
      refine cp_istore O dL_isStep_617 (by decide) (cp_ls7 rfl) ?_
      refine cp_aload_n O dL_isStep_619 cp_lg0 ?_
      refine cp_iload O dL_isStep_620 cp_lg6 ?_
      refine cp_iload O dL_isStep_622 cp_lg7 ?_
      refine cp_cVir O me_X6_set mi_X6_set ml_L_44 cp_cX6 hW.s (tw_set hW) dL_isStep_624 rfl rfl ⟨Nat.le_of_ble_eq_true rfl, Nat.le_of_ble_eq_true rfl⟩ ⟨Nat.le_refl _, Nat.le_refl _⟩ (Nat.le_of_ble_eq_true rfl) (fun I624 hT624 => ?_)
      have hW624 := hT624.1
      refine cp_aload_n O dL_isStep_627 cp_lg1 ?_
      refine cp_iload O dL_isStep_628 cp_lg6 ?_
      refine cp_iload O dL_isStep_630 cp_lg7 ?_
      refine cp_cVir O me_X6_set mi_X6_set ml_L_44 cp_cX6 hW624.s' (tw_set hW624.sy) dL_isStep_632 rfl rfl ⟨Nat.le_of_ble_eq_true rfl, Nat.le_of_ble_eq_true rfl⟩ ⟨Nat.le_refl _, Nat.le_refl _⟩ (Nat.le_of_ble_eq_true rfl) (fun I632 hT632 => ?_)
      have hW632 := hT632.1.sy
      have hs1 : cp_sCount (cp_sSet N (nI j545) (nI (1 + j580))).2 0 0 (10 + nI j545) = nI (1 + j580) := cp_f_set hj545 ⟨fun z => ⟨by omega, by omega⟩, fun z => ⟨by omega, by omega⟩, fun z => ⟨by omega, by omega⟩, fun z => ⟨by omega, by omega⟩⟩
      refine cp_icmp_ne (tgt := 656) O dL_isStep_635 (by decide) (fun c => absurd c (fun z => z rfl)) (fun _ => ?_)
      refine cp_aload_n O dL_isStep_638 cp_lg0 ?_
      refine cp_bipush O dL_isStep_639 (v := 10) rfl ?_
      refine cp_iload O dL_isStep_641 cp_lg6 ?_
      refine cp_iadd O dL_isStep_643 ?_
      refine cp_cVi O me_X6_count mi_X6_count ml_L_9 cp_cX6 hW632.s (tw_cnt hW632 (r := nI (1 + j580)) (cp_n14 hj545).1 (cp_n14 hj545).2 hs1) dL_isStep_644 rfl rfl ⟨Nat.le_of_ble_eq_true rfl, Nat.le_of_ble_eq_true rfl⟩ ⟨Nat.le_refl _, Nat.le_refl _⟩ (Nat.le_of_ble_eq_true rfl) ?_
      refine cp_iload O dL_isStep_647 cp_lg7 ?_
      refine cp_icmp_ne (tgt := 656) O dL_isStep_649 (by decide) (fun c => absurd c (fun z => z rfl)) (fun _ => ?_)
      refine cp_iconst O dL_isStep_652 (v := 1) rfl ?_
      refine cp_goto (tgt := 657) O dL_isStep_653 (by decide) ?_
      exact hr _ _ _ _ dL_isStep_657 rfl ⟨_, hW632, cp_WF_set hF⟩
  · have c0 : j545 = 0 := (nI_eq (a := j545) (b := 0) (by omega) (by decide)).mp c_552
    refine cp_iconst O dL_isStep_555 (v := 1) rfl ?_
    refine cp_iload_n O dL_isStep_556 cp_lg3 ?_
    refine cp_iconst O dL_isStep_557 (v := 2) rfl ?_
    refine cp_ishr O dL_isStep_558 ?_
    refine cp_bipush O dL_isStep_559 (v := 20) rfl ?_
    refine cp_cup O (m := 20) rfl (by decide) (by decide) dL_isStep_561 ⟨Nat.le_of_ble_eq_true rfl, Nat.le_of_ble_eq_true rfl⟩ ⟨Nat.le_refl _, Nat.le_refl _⟩ (Nat.le_of_ble_eq_true rfl) (fun j561 hj561 => ?_)
    refine cp_iadd O dL_isStep_564 ?_
    rw [show (1 : Int32) + nI j561 = nI (1 + j561) from nI_add 1 j561]
    refine cp_goto (tgt := 617) O dL_isStep_565 (by decide) ?_
    refine cp_istore O dL_isStep_617 (by decide) (cp_ls7 rfl) ?_
    refine cp_aload_n O dL_isStep_619 cp_lg0 ?_
    refine cp_iload O dL_isStep_620 cp_lg6 ?_
    refine cp_iload O dL_isStep_622 cp_lg7 ?_
    refine cp_cVir O me_X6_set mi_X6_set ml_L_44 cp_cX6 hW.s (tw_set hW) dL_isStep_624 rfl rfl ⟨Nat.le_of_ble_eq_true rfl, Nat.le_of_ble_eq_true rfl⟩ ⟨Nat.le_refl _, Nat.le_refl _⟩ (Nat.le_of_ble_eq_true rfl) (fun I624 hT624 => ?_)
    have hW624 := hT624.1
    refine cp_aload_n O dL_isStep_627 cp_lg1 ?_
    refine cp_iload O dL_isStep_628 cp_lg6 ?_
    refine cp_iload O dL_isStep_630 cp_lg7 ?_
    refine cp_cVir O me_X6_set mi_X6_set ml_L_44 cp_cX6 hW624.s' (tw_set hW624.sy) dL_isStep_632 rfl rfl ⟨Nat.le_of_ble_eq_true rfl, Nat.le_of_ble_eq_true rfl⟩ ⟨Nat.le_refl _, Nat.le_refl _⟩ (Nat.le_of_ble_eq_true rfl) (fun I632 hT632 => ?_)
    have hW632 := hT632.1.sy
    have hs1 : cp_sCount (cp_sSet N (nI j545) (nI (1 + j561))).2 0 0 (10 + nI j545) = nI (1 + j561) := cp_f_set hj545 ⟨fun z => ⟨by omega, by omega⟩, fun z => ⟨by omega, by omega⟩, fun z => ⟨by omega, by omega⟩, fun z => ⟨by omega, by omega⟩⟩
    refine cp_icmp_ne (tgt := 656) O dL_isStep_635 (by decide) (fun c => absurd c (fun z => z rfl)) (fun _ => ?_)
    refine cp_aload_n O dL_isStep_638 cp_lg0 ?_
    refine cp_bipush O dL_isStep_639 (v := 10) rfl ?_
    refine cp_iload O dL_isStep_641 cp_lg6 ?_
    refine cp_iadd O dL_isStep_643 ?_
    refine cp_cVi O me_X6_count mi_X6_count ml_L_9 cp_cX6 hW632.s (tw_cnt hW632 (r := nI (1 + j561)) (cp_n14 hj545).1 (cp_n14 hj545).2 hs1) dL_isStep_644 rfl rfl ⟨Nat.le_of_ble_eq_true rfl, Nat.le_of_ble_eq_true rfl⟩ ⟨Nat.le_refl _, Nat.le_refl _⟩ (Nat.le_of_ble_eq_true rfl) ?_
    refine cp_iload O dL_isStep_647 cp_lg7 ?_
    refine cp_icmp_ne (tgt := 656) O dL_isStep_649 (by decide) (fun c => absurd c (fun z => z rfl)) (fun _ => ?_)
    refine cp_iconst O dL_isStep_652 (v := 1) rfl ?_
    refine cp_goto (tgt := 657) O dL_isStep_653 (by decide) ?_
    exact hr _ _ _ _ dL_isStep_657 rfl ⟨_, hW632, cp_WF_set hF⟩
set_option maxHeartbeats 4000000 in
set_option maxRecDepth 100000 in
theorem st_plate {x : cp_Cx} {E : cp_En} {cnt : Nat} {sh : cp_Shp} {R : cp_Rem} {I : cp_Mem} {co cq : Nat} {N : cp_Nt} {x0 y : Int32} (O : cp_Ok x E RL cL_isStep 14 7 0 0) (hW : cp_TW sh R I co cq N N) (hF : cp_WF N) (hr : ∀ (v : Int32) (I1 : cp_Mem) (pc : Nat) (L : List (Option Value)), decode cL_isStep pc = .ok (.ireturn, 1) → v = 1 → cp_ST sh R I1 co cq → cp_G x E 14 0 0 cnt sh I1 R pc L [.int v]) : cp_G x E 14 0 0 cnt sh I R 460 [some (.ref co), some (.ref cq), some (.int x0), some (.int y), some (.int (nI (cp_tn N))), some (.int (nI (cp_tm N))), none, none, none, none, none, none, none, none] [] := by
  obtain ⟨hV, h8⟩ := hW.V
  have hn24 := hV.2.2.1.1
  have hm600 := hV.2.1
  refine cp_iload O dL_isStep_460 cp_lg5 ?_
  refine cp_iload_n O dL_isStep_462 cp_lg3 ?_
  refine cp_bipush O dL_isStep_463 (v := 15) rfl ?_
  refine cp_cup O (m := 15) rfl (by decide) (by decide) dL_isStep_465 ⟨Nat.le_of_ble_eq_true rfl, Nat.le_of_ble_eq_true rfl⟩ ⟨Nat.le_refl _, Nat.le_refl _⟩ (Nat.le_of_ble_eq_true rfl) (fun j465 hj465 => ?_)
  refine cp_iadd O dL_isStep_468 ?_
  rw [show nI (cp_tm N) + nI j465 = nI (cp_tm N + j465) from nI_add _ _]
  refine cp_istore O dL_isStep_469 (by decide) (cp_ls6 rfl) ?_
  refine cp_aload_n O dL_isStep_471 cp_lg0 ?_
  refine cp_iload O dL_isStep_472 cp_lg6 ?_
  refine cp_cVir O me_X6_plate mi_X6_plate ml_L_41 cp_cX6 hW.s (tw_plate hW) dL_isStep_474 rfl rfl ⟨Nat.le_of_ble_eq_true rfl, Nat.le_of_ble_eq_true rfl⟩ ⟨Nat.le_refl _, Nat.le_refl _⟩ (Nat.le_of_ble_eq_true rfl) (fun I474 hT474 => ?_)
  have hW474 := hT474.1
  refine cp_istore O dL_isStep_477 (by decide) (cp_ls7 rfl) ?_
  refine cp_iload O dL_isStep_479 cp_lg7 ?_
  refine cp_aload_n O dL_isStep_481 cp_lg1 ?_
  refine cp_iload O dL_isStep_482 cp_lg6 ?_
  refine cp_cVir O me_X6_plate mi_X6_plate ml_L_41 cp_cX6 hW474.s' (tw_plate hW474.sy) dL_isStep_484 rfl rfl ⟨Nat.le_of_ble_eq_true rfl, Nat.le_of_ble_eq_true rfl⟩ ⟨Nat.le_refl _, Nat.le_refl _⟩ (Nat.le_of_ble_eq_true rfl) (fun I484 hT484 => ?_)
  have hW484 := hT484.1.sy
  refine cp_icmp_ne (tgt := 541) O dL_isStep_487 (by decide) (fun c => absurd c (fun z => z rfl)) (fun _ => ?_)
  refine cp_iload O dL_isStep_490 cp_lg7 ?_
  refine cp_if_lt (tgt := 537) O dL_isStep_492 (by decide) (fun c_492 => ?_) (fun c_492 => ?_)
  · refine cp_iconst O dL_isStep_537 (v := 1) rfl ?_
    refine cp_goto (tgt := 542) O dL_isStep_538 (by decide) ?_
    exact hr _ _ _ _ dL_isStep_542 rfl ⟨_, hW484, cp_WF_plate hV hF⟩
  · obtain ⟨j, hj1, hj2, hj3, hj4, hj5, hj6, hj7⟩ := cp_f_plate hV h8 c_492
    rw [hj1]
    refine cp_iload O dL_isStep_495 cp_lg7 ?_
    refine cp_aload_n O dL_isStep_497 cp_lg0 ?_
    refine cp_iconst O dL_isStep_498 (v := 3) rfl ?_
    refine cp_cVi O me_X6_count mi_X6_count ml_L_9 cp_cX6 hW484.s (tw_cnt hW484 (r := nI (cp_mkN (cp_sPlate N (nI (cp_tm N + j465))).2)) (by decide) (by decide) rfl) dL_isStep_499 rfl rfl ⟨Nat.le_of_ble_eq_true rfl, Nat.le_of_ble_eq_true rfl⟩ ⟨Nat.le_refl _, Nat.le_refl _⟩ (Nat.le_of_ble_eq_true rfl) ?_
    refine cp_icmp_lt (tgt := 541) O dL_isStep_502 (by decide) (fun c => absurd c (fun z => absurd ((nI_ltI (by omega) (by omega)).mp z) (by omega))) (fun _ => ?_)
    refine cp_aload_n O dL_isStep_505 cp_lg0 ?_
    refine cp_iload O dL_isStep_506 cp_lg7 ?_
    refine cp_iconst O dL_isStep_508 (v := 0) rfl ?_
    refine cp_cVi O me_X6_ofPlate mi_X6_ofPlate ml_L_38 cp_cX6 hW484.s (tw_ofPlateE hW484 ((cp_f_ofQ hj3 hj2).1.trans hj4)) dL_isStep_509 rfl rfl ⟨Nat.le_of_ble_eq_true rfl, Nat.le_of_ble_eq_true rfl⟩ ⟨Nat.le_refl _, Nat.le_refl _⟩ (Nat.le_of_ble_eq_true rfl) ?_
    refine cp_iload O dL_isStep_512 cp_lg6 ?_
    refine cp_icmp_ne (tgt := 541) O dL_isStep_514 (by decide) (fun c => absurd c (fun z => z rfl)) (fun _ => ?_)
    refine cp_aload_n O dL_isStep_517 cp_lg0 ?_
    refine cp_iload O dL_isStep_518 cp_lg7 ?_
    refine cp_iconst O dL_isStep_520 (v := 1) rfl ?_
    refine cp_cVi O me_X6_ofPlate mi_X6_ofPlate ml_L_38 cp_cX6 hW484.s (tw_ofPlateE hW484 ((cp_f_ofQ hj3 hj2).2.1.trans hj6)) dL_isStep_521 rfl rfl ⟨Nat.le_of_ble_eq_true rfl, Nat.le_of_ble_eq_true rfl⟩ ⟨Nat.le_refl _, Nat.le_refl _⟩ (Nat.le_of_ble_eq_true rfl) ?_
    refine cp_if_ne (tgt := 541) O dL_isStep_524 (by decide) (fun c => absurd c (fun z => z rfl)) (fun _ => ?_)
    refine cp_aload_n O dL_isStep_527 cp_lg0 ?_
    refine cp_iload O dL_isStep_528 cp_lg7 ?_
    refine cp_iconst O dL_isStep_530 (v := 2) rfl ?_
    refine cp_cVi O me_X6_ofPlate mi_X6_ofPlate ml_L_38 cp_cX6 hW484.s (tw_ofPlateE hW484 ((cp_f_ofQ hj3 hj2).2.2.1.trans hj5)) dL_isStep_531 rfl rfl ⟨Nat.le_of_ble_eq_true rfl, Nat.le_of_ble_eq_true rfl⟩ ⟨Nat.le_refl _, Nat.le_refl _⟩ (Nat.le_of_ble_eq_true rfl) ?_
    refine cp_if_ne (tgt := 541) O dL_isStep_534 (by decide) (fun c => absurd c (fun z => z rfl)) (fun _ => ?_)
    refine cp_iconst O dL_isStep_537 (v := 1) rfl ?_
    refine cp_goto (tgt := 542) O dL_isStep_538 (by decide) ?_
    exact hr _ _ _ _ dL_isStep_542 rfl ⟨_, hW484, cp_WF_plate hV hF⟩
set_option maxHeartbeats 4000000 in
set_option maxRecDepth 100000 in
theorem st_hold {x : cp_Cx} {E : cp_En} {cnt : Nat} {sh : cp_Shp} {R : cp_Rem} {I : cp_Mem} {co cq : Nat} {N : cp_Nt} {x0 y : Int32} (O : cp_Ok x E RL cL_isStep 14 7 0 0) (hW : cp_TW sh R I co cq N N) (hF : cp_WF N) (hr : ∀ (v : Int32) (I1 : cp_Mem) (pc : Nat) (L : List (Option Value)), decode cL_isStep pc = .ok (.ireturn, 1) → v = 1 → cp_ST sh R I1 co cq → cp_G x E 14 0 0 cnt sh I1 R pc L [.int v]) : cp_G x E 14 0 0 cnt sh I R 658 [some (.ref co), some (.ref cq), some (.int x0), some (.int y), some (.int (nI (cp_tn N))), some (.int (nI (cp_tm N))), none, none, none, none, none, none, none, none] [] := by
  obtain ⟨hV, h8⟩ := hW.V
  have hn24 := hV.2.2.1.1
  have hm600 := hV.2.1
  refine cp_iload_n O dL_isStep_658 cp_lg3 ?_
  refine cp_iload O dL_isStep_659 cp_lg4 ?_
  refine cp_iconst O dL_isStep_661 (v := 1) rfl ?_
  refine cp_iadd O dL_isStep_662 ?_
  rw [show nI (cp_tn N) + 1 = nI (cp_tn N + 1) from nI_1 _]
  refine cp_cup O (m := cp_tn N + 1) rfl (by omega) (by omega) dL_isStep_663 ⟨Nat.le_of_ble_eq_true rfl, Nat.le_of_ble_eq_true rfl⟩ ⟨Nat.le_refl _, Nat.le_refl _⟩ (Nat.le_of_ble_eq_true rfl) (fun j663 hj663 => ?_)
  refine cp_istore O dL_isStep_666 (by decide) (cp_ls6 rfl) ?_
  refine cp_aload_n O dL_isStep_668 cp_lg0 ?_
  refine cp_iload O dL_isStep_669 cp_lg6 ?_
  refine cp_cVir O me_X6_hold mi_X6_hold ml_L_31 cp_cX6 hW.s (tw_hold hW) dL_isStep_671 rfl rfl ⟨Nat.le_of_ble_eq_true rfl, Nat.le_of_ble_eq_true rfl⟩ ⟨Nat.le_refl _, Nat.le_refl _⟩ (Nat.le_of_ble_eq_true rfl) (fun I671 hT671 => ?_)
  have hW671 := hT671.1
  refine cp_istore O dL_isStep_674 (by decide) (cp_ls7 rfl) ?_
  refine cp_iload O dL_isStep_676 cp_lg7 ?_
  refine cp_aload_n O dL_isStep_678 cp_lg1 ?_
  refine cp_iload O dL_isStep_679 cp_lg6 ?_
  refine cp_cVir O me_X6_hold mi_X6_hold ml_L_31 cp_cX6 hW671.s' (tw_hold hW671.sy) dL_isStep_681 rfl rfl ⟨Nat.le_of_ble_eq_true rfl, Nat.le_of_ble_eq_true rfl⟩ ⟨Nat.le_refl _, Nat.le_refl _⟩ (Nat.le_of_ble_eq_true rfl) (fun I681 hT681 => ?_)
  have hW681 := hT681.1.sy
  refine cp_icmp_ne (tgt := 745) O dL_isStep_684 (by decide) (fun c => absurd c (fun z => z rfl)) (fun _ => ?_)
  refine cp_iload O dL_isStep_687 cp_lg6 ?_
  refine cp_iload O dL_isStep_689 cp_lg4 ?_
  refine cp_icmp_neN (tgt := 703) O dL_isStep_691 (by decide) (a := j663) (b := cp_tn N) rfl rfl (by omega) (by omega) (fun c_691 => ?_) (fun c_691 => ?_)
  · have hp : j663 < cp_tn N := by omega
    have hf := cp_f_hold hV hp
    refine cp_iload O dL_isStep_703 cp_lg7 ?_
    refine cp_if_ge (tgt := 729) O dL_isStep_705 (by decide) (fun c_705 => ?_) (fun c_705 => ?_)
    · refine cp_aload_n O dL_isStep_729 cp_lg0 ?_
      refine cp_iload O dL_isStep_730 cp_lg6 ?_
      refine cp_iconst O dL_isStep_732 (v := 5) rfl ?_
      refine cp_cVi O me_X6_ofPiece mi_X6_ofPiece ml_L_28 cp_cX6 hW681.s (tw_ofPieceE hW681 (hf.2 (Int32.not_lt.mpr c_705))) dL_isStep_733 rfl rfl ⟨Nat.le_of_ble_eq_true rfl, Nat.le_of_ble_eq_true rfl⟩ ⟨Nat.le_refl _, Nat.le_refl _⟩ (Nat.le_of_ble_eq_true rfl) ?_
      refine cp_iload O dL_isStep_736 cp_lg7 ?_
      refine cp_icmp_ne (tgt := 745) O dL_isStep_738 (by decide) (fun c => absurd c (fun z => z rfl)) (fun _ => ?_)
      refine cp_iconst O dL_isStep_741 (v := 1) rfl ?_
      refine cp_goto (tgt := 746) O dL_isStep_742 (by decide) ?_
      exact hr _ _ _ _ dL_isStep_746 rfl ⟨_, hW681, cp_WF_hold hF⟩
    · refine cp_iload O dL_isStep_708 cp_lg7 ?_
      refine cp_bipush O dL_isStep_710 (v := (-5)) rfl ?_
      refine cp_icmp_ne (tgt := 745) O dL_isStep_712 (by decide) (fun c => absurd c (fun z => z (hf.1 (Int32.not_le.mp c_705)).1)) (fun _ => ?_)
      refine cp_aload_n O dL_isStep_715 cp_lg0 ?_
      refine cp_iload O dL_isStep_716 cp_lg6 ?_
      refine cp_iconst O dL_isStep_718 (v := 4) rfl ?_
      refine cp_cVi O me_X6_ofPiece mi_X6_ofPiece ml_L_28 cp_cX6 hW681.s (tw_ofPieceE hW681 (hf.1 (Int32.not_le.mp c_705)).2) dL_isStep_719 rfl rfl ⟨Nat.le_of_ble_eq_true rfl, Nat.le_of_ble_eq_true rfl⟩ ⟨Nat.le_refl _, Nat.le_refl _⟩ (Nat.le_of_ble_eq_true rfl) ?_
      refine cp_iconst O dL_isStep_722 (v := 3) rfl ?_
      refine cp_icmp_ne (tgt := 745) O dL_isStep_723 (by decide) (fun c => absurd c (fun z => z rfl)) (fun _ => ?_)
      refine cp_goto (tgt := 741) O dL_isStep_726 (by decide) ?_
      refine cp_iconst O dL_isStep_741 (v := 1) rfl ?_
      refine cp_goto (tgt := 746) O dL_isStep_742 (by decide) ?_
      exact hr _ _ _ _ dL_isStep_746 rfl ⟨_, hW681, cp_WF_hold hF⟩
  · refine cp_iload O dL_isStep_694 cp_lg7 ?_
    refine cp_iconst O dL_isStep_696 (v := (-1)) rfl ?_
    refine cp_icmp_ne (tgt := 745) O dL_isStep_697 (by decide) (fun c => absurd c (fun z => z (by rw [c_691]; exact cp_f_hold_n hn24))) (fun _ => ?_)
    refine cp_goto (tgt := 741) O dL_isStep_700 (by decide) ?_
    refine cp_iconst O dL_isStep_741 (v := 1) rfl ?_
    refine cp_goto (tgt := 746) O dL_isStep_742 (by decide) ?_
    exact hr _ _ _ _ dL_isStep_746 rfl ⟨_, hW681, cp_WF_hold hF⟩
set_option maxHeartbeats 4000000 in
set_option maxRecDepth 100000 in
theorem st_kill {x : cp_Cx} {E : cp_En} {cnt : Nat} {sh : cp_Shp} {R : cp_Rem} {I : cp_Mem} {co cq : Nat} {N : cp_Nt} {x0 y : Int32} (O : cp_Ok x E RL cL_isStep 14 7 0 0) (hW : cp_TW sh R I co cq N N) (hF : cp_WF N) (hr : ∀ (v : Int32) (I1 : cp_Mem) (pc : Nat) (L : List (Option Value)), decode cL_isStep pc = .ok (.ireturn, 1) → v = 1 → cp_ST sh R I1 co cq → cp_G x E 14 0 0 cnt sh I1 R pc L [.int v]) : cp_G x E 14 0 0 cnt sh I R 747 [some (.ref co), some (.ref cq), some (.int x0), some (.int y), some (.int (nI (cp_tn N))), some (.int (nI (cp_tm N))), none, none, none, none, none, none, none, none] [] := by
  obtain ⟨hV, h8⟩ := hW.V
  have hn24 := hV.2.2.1.1
  have hm600 := hV.2.1
  refine cp_iload_n O dL_isStep_747 cp_lg3 ?_
  refine cp_iload O dL_isStep_748 cp_lg4 ?_
  refine cp_iconst O dL_isStep_750 (v := 1) rfl ?_
  refine cp_iadd O dL_isStep_751 ?_
  rw [show nI (cp_tn N) + 1 = nI (cp_tn N + 1) from nI_1 _]
  refine cp_cup O (m := cp_tn N + 1) rfl (by omega) (by omega) dL_isStep_752 ⟨Nat.le_of_ble_eq_true rfl, Nat.le_of_ble_eq_true rfl⟩ ⟨Nat.le_refl _, Nat.le_refl _⟩ (Nat.le_of_ble_eq_true rfl) (fun j752 hj752 => ?_)
  refine cp_istore O dL_isStep_755 (by decide) (cp_ls6 rfl) ?_
  refine cp_aload_n O dL_isStep_757 cp_lg0 ?_
  refine cp_iconst O dL_isStep_758 (v := 2) rfl ?_
  refine cp_cVi O me_X6_count mi_X6_count ml_L_9 cp_cX6 hW.s (tw_cnt hW (r := cp_sCount N 0 0 2) (by decide) (by decide) rfl) dL_isStep_759 rfl rfl ⟨Nat.le_of_ble_eq_true rfl, Nat.le_of_ble_eq_true rfl⟩ ⟨Nat.le_refl _, Nat.le_refl _⟩ (Nat.le_of_ble_eq_true rfl) ?_
  refine cp_istore O dL_isStep_762 (by decide) (cp_ls7 rfl) ?_
  refine cp_aload_n O dL_isStep_764 cp_lg0 ?_
  refine cp_bipush O dL_isStep_765 (v := 9) rfl ?_
  refine cp_cVi O me_X6_count mi_X6_count ml_L_9 cp_cX6 hW.s (tw_cnt hW (r := cp_sCount N 0 0 9) (by decide) (by decide) rfl) dL_isStep_767 rfl rfl ⟨Nat.le_of_ble_eq_true rfl, Nat.le_of_ble_eq_true rfl⟩ ⟨Nat.le_refl _, Nat.le_refl _⟩ (Nat.le_of_ble_eq_true rfl) ?_
  refine cp_istore O dL_isStep_770 (by decide) (cp_ls8 rfl) ?_
  refine cp_aload_n O dL_isStep_772 cp_lg0 ?_
  refine cp_iload O dL_isStep_773 cp_lg6 ?_
  refine cp_cVir O me_X6_kill mi_X6_kill ml_L_47 cp_cX6 hW.s (tw_kill hW) dL_isStep_775 rfl rfl ⟨Nat.le_of_ble_eq_true rfl, Nat.le_of_ble_eq_true rfl⟩ ⟨Nat.le_refl _, Nat.le_refl _⟩ (Nat.le_of_ble_eq_true rfl) (fun I775 hT775 => ?_)
  have hW775 := hT775.1
  refine cp_istore O dL_isStep_778 (by decide) (cp_ls9 rfl) ?_
  refine cp_iload O dL_isStep_780 cp_lg9 ?_
  refine cp_aload_n O dL_isStep_782 cp_lg1 ?_
  refine cp_iload O dL_isStep_783 cp_lg6 ?_
  refine cp_cVir O me_X6_kill mi_X6_kill ml_L_47 cp_cX6 hW775.s' (tw_kill hW775.sy) dL_isStep_785 rfl rfl ⟨Nat.le_of_ble_eq_true rfl, Nat.le_of_ble_eq_true rfl⟩ ⟨Nat.le_refl _, Nat.le_refl _⟩ (Nat.le_of_ble_eq_true rfl) (fun I785 hT785 => ?_)
  have hW785 := hT785.1.sy
  refine cp_icmp_ne (tgt := 877) O dL_isStep_788 (by decide) (fun c => absurd c (fun z => z rfl)) (fun _ => ?_)
  refine cp_iload O dL_isStep_791 cp_lg6 ?_
  refine cp_iload O dL_isStep_793 cp_lg4 ?_
  refine cp_icmp_neN (tgt := 807) O dL_isStep_795 (by decide) (a := j752) (b := cp_tn N) rfl rfl (by omega) (by omega) (fun c_795 => ?_) (fun c_795 => ?_)
  · have hp : j752 < cp_tn N := by omega
    have hf := cp_f_kill hV hp
    refine cp_iload O dL_isStep_807 cp_lg9 ?_
    refine cp_if_ge (tgt := 822) O dL_isStep_809 (by decide) (fun c_809 => ?_) (fun c_809 => ?_)
    · have g := hf.2 (Int32.not_lt.mpr c_809)
      refine cp_aload_n O dL_isStep_822 cp_lg0 ?_
      refine cp_iload O dL_isStep_823 cp_lg6 ?_
      refine cp_iconst O dL_isStep_825 (v := 4) rfl ?_
      refine cp_cVi O me_X6_ofPiece mi_X6_ofPiece ml_L_28 cp_cX6 hW785.s (tw_ofPieceE hW785 g.1) dL_isStep_826 rfl rfl ⟨Nat.le_of_ble_eq_true rfl, Nat.le_of_ble_eq_true rfl⟩ ⟨Nat.le_refl _, Nat.le_refl _⟩ (Nat.le_of_ble_eq_true rfl) ?_
      refine cp_iconst O dL_isStep_829 (v := 3) rfl ?_
      refine cp_icmp_ne (tgt := 877) O dL_isStep_830 (by decide) (fun c => absurd c (fun z => z rfl)) (fun _ => ?_)
      refine cp_aload_n O dL_isStep_833 cp_lg0 ?_
      refine cp_iconst O dL_isStep_834 (v := 2) rfl ?_
      refine cp_cVi O me_X6_count mi_X6_count ml_L_9 cp_cX6 hW785.s (tw_cnt hW785 (by decide) (by decide) g.2.1) dL_isStep_835 rfl rfl ⟨Nat.le_of_ble_eq_true rfl, Nat.le_of_ble_eq_true rfl⟩ ⟨Nat.le_refl _, Nat.le_refl _⟩ (Nat.le_of_ble_eq_true rfl) ?_
      refine cp_iload O dL_isStep_838 cp_lg7 ?_
      refine cp_iload O dL_isStep_840 cp_lg9 ?_
      refine cp_iadd O dL_isStep_842 ?_
      refine cp_icmp_ne (tgt := 877) O dL_isStep_843 (by decide) (fun c => absurd c (fun z => z rfl)) (fun _ => ?_)
      refine cp_aload_n O dL_isStep_846 cp_lg0 ?_
      refine cp_bipush O dL_isStep_847 (v := 9) rfl ?_
      refine cp_cVi O me_X6_count mi_X6_count ml_L_9 cp_cX6 hW785.s (tw_cnt hW785 (by decide) (by decide) g.2.2.1) dL_isStep_849 rfl rfl ⟨Nat.le_of_ble_eq_true rfl, Nat.le_of_ble_eq_true rfl⟩ ⟨Nat.le_refl _, Nat.le_refl _⟩ (Nat.le_of_ble_eq_true rfl) ?_
      refine cp_iload O dL_isStep_852 cp_lg8 ?_
      refine cp_iload O dL_isStep_854 cp_lg9 ?_
      refine cp_iadd O dL_isStep_856 ?_
      refine cp_icmp_ne (tgt := 877) O dL_isStep_857 (by decide) (fun c => absurd c (fun z => z rfl)) (fun _ => ?_)
      refine cp_aload_n O dL_isStep_860 cp_lg0 ?_
      refine cp_iload O dL_isStep_861 cp_lg6 ?_
      refine cp_bipush O dL_isStep_863 (v := 8) rfl ?_
      refine cp_cVi O me_X6_ofPiece mi_X6_ofPiece ml_L_28 cp_cX6 hW785.s (tw_ofPieceE hW785 g.2.2.2) dL_isStep_865 rfl rfl ⟨Nat.le_of_ble_eq_true rfl, Nat.le_of_ble_eq_true rfl⟩ ⟨Nat.le_refl _, Nat.le_refl _⟩ (Nat.le_of_ble_eq_true rfl) ?_
      refine cp_bipush O dL_isStep_868 (v := (-6)) rfl ?_
      refine cp_icmp_ne (tgt := 877) O dL_isStep_870 (by decide) (fun c => absurd c (fun z => z rfl)) (fun _ => ?_)
      refine cp_iconst O dL_isStep_873 (v := 1) rfl ?_
      refine cp_goto (tgt := 878) O dL_isStep_874 (by decide) ?_
      exact hr _ _ _ _ dL_isStep_878 rfl ⟨_, hW785, cp_WF_kill hV hF⟩
    · refine cp_iload O dL_isStep_812 cp_lg9 ?_
      refine cp_bipush O dL_isStep_814 (v := (-5)) rfl ?_
      refine cp_icmp_ne (tgt := 877) O dL_isStep_816 (by decide) (fun c => absurd c (fun z => z (hf.1 (Int32.not_le.mp c_809)))) (fun _ => ?_)
      refine cp_goto (tgt := 873) O dL_isStep_819 (by decide) ?_
      refine cp_iconst O dL_isStep_873 (v := 1) rfl ?_
      refine cp_goto (tgt := 878) O dL_isStep_874 (by decide) ?_
      exact hr _ _ _ _ dL_isStep_878 rfl ⟨_, hW785, cp_WF_kill hV hF⟩
  · refine cp_iload O dL_isStep_798 cp_lg9 ?_
    refine cp_iconst O dL_isStep_800 (v := (-1)) rfl ?_
    refine cp_icmp_ne (tgt := 877) O dL_isStep_801 (by decide) (fun c => absurd c (fun z => z (by rw [c_795]; exact cp_f_kill_n hn24))) (fun _ => ?_)
    refine cp_goto (tgt := 873) O dL_isStep_804 (by decide) ?_
    refine cp_iconst O dL_isStep_873 (v := 1) rfl ?_
    refine cp_goto (tgt := 878) O dL_isStep_874 (by decide) ?_
    exact hr _ _ _ _ dL_isStep_878 rfl ⟨_, hW785, cp_WF_kill hV hF⟩
