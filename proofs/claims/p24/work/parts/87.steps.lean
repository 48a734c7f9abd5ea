set_option maxHeartbeats 4000000 in
set_option maxRecDepth 100000 in
theorem st_piece {x : cp_Cx} {E : cp_En} {cnt : Nat} {sh : cp_Shp} {R : cp_Rem} {I : cp_Mem} {co cq : Nat} {N : cp_Nt} {x0 y : Int32} (O : cp_Ok x E RL cL_isStep 14 7 0 0) (hW : cp_TW sh R I co cq N N) (hF : cp_WF N) (hr : ∀ (v : Int32) (I1 : cp_Mem) (pc : Nat) (L : List (Option Value)), decode cL_isStep pc = .ok (.ireturn, 1) → v = 1 → cp_ST sh R I1 co cq → cp_G x E 14 0 0 cnt sh I1 R pc L [.int v]) : cp_G x E 14 0 0 cnt sh I R 96 [some (.ref co), some (.ref cq), some (.int x0), some (.int y), some (.int (nI (cp_tn N))), some (.int (nI (cp_tm N))), none, none, none, none, none, none, none, none] [] := by
  obtain ⟨hV, h8⟩ := hW.V
  have hn24 := hV.2.2.1.1
  have hm600 := hV.2.1
  refine cp_iload_n O dL_isStep_96 cp_lg3 ?_
  refine cp_iconst O dL_isStep_97 (v := 5) rfl ?_
  refine cp_cup O (m := 5) rfl (by decide) (by decide) dL_isStep_98 ⟨Nat.le_of_ble_eq_true rfl, Nat.le_of_ble_eq_true rfl⟩ ⟨Nat.le_refl _, Nat.le_refl _⟩ (Nat.le_of_ble_eq_true rfl) (fun j98 hj98 => ?_)
  refine cp_istore O dL_isStep_101 (by decide) (cp_ls6 rfl) ?_
  refine cp_iconst O dL_isStep_103 (v := 1) rfl ?_
  refine cp_iload_n O dL_isStep_104 cp_lg3 ?_
  refine cp_iconst O dL_isStep_105 (v := 3) rfl ?_
  refine cp_ishr O dL_isStep_106 ?_
  refine cp_iload_n O dL_isStep_107 cp_lg3 ?_
  refine cp_iconst O dL_isStep_108 (v := 2) rfl ?_
  refine cp_ishr O dL_isStep_109 ?_
  refine cp_iconst O dL_isStep_110 (v := 3) rfl ?_
  refine cp_cup O (m := 3) rfl (by decide) (by decide) dL_isStep_111 ⟨Nat.le_of_ble_eq_true rfl, Nat.le_of_ble_eq_true rfl⟩ ⟨Nat.le_refl _, Nat.le_refl _⟩ (Nat.le_of_ble_eq_true rfl) (fun j111 hj111 => ?_)
  refine cp_if_ne (tgt := 122) O dL_isStep_114 (by decide) (fun c_114 => ?_) (fun c_114 => ?_)
  · refine cp_bipush O dL_isStep_122 (v := 25) rfl ?_
    refine cp_cup O (m := 25) rfl (by decide) (by decide) dL_isStep_124 ⟨Nat.le_of_ble_eq_true rfl, Nat.le_of_ble_eq_true rfl⟩ ⟨Nat.le_refl _, Nat.le_refl _⟩ (Nat.le_of_ble_eq_true rfl) (fun j124 hj124 => ?_)
    refine cp_iadd O dL_isStep_127 ?_
    rw [show (1 : Int32) + nI j124 = nI (1 + j124) from nI_add 1 j124]
    refine cp_istore O dL_isStep_128 (by decide) (cp_ls7 rfl) ?_
    refine cp_iload_n O dL_isStep_130 cp_lg3 ?_
    refine cp_bipush O dL_isStep_131 (v := 10) rfl ?_
    refine cp_ishr O dL_isStep_133 ?_
    refine cp_bipush O dL_isStep_134 (v := 10) rfl ?_
    refine cp_cup O (m := 10) rfl (by decide) (by decide) dL_isStep_136 ⟨Nat.le_of_ble_eq_true rfl, Nat.le_of_ble_eq_true rfl⟩ ⟨Nat.le_refl _, Nat.le_refl _⟩ (Nat.le_of_ble_eq_true rfl) (fun j136 hj136 => ?_)
    refine cp_istore O dL_isStep_139 (by decide) (cp_ls8 rfl) ?_
    refine cp_iload_n O dL_isStep_141 cp_lg3 ?_
    refine cp_bipush O dL_isStep_142 (v := 14) rfl ?_
    refine cp_ishr O dL_isStep_144 ?_
    refine cp_iconst O dL_isStep_145 (v := 3) rfl ?_
    refine cp_cup O (m := 3) rfl (by decide) (by decide) dL_isStep_146 ⟨Nat.le_of_ble_eq_true rfl, Nat.le_of_ble_eq_true rfl⟩ ⟨Nat.le_refl _, Nat.le_refl _⟩ (Nat.le_of_ble_eq_true rfl) (fun j146 hj146 => ?_)
    refine cp_if_ne (tgt := 156) O dL_isStep_149 (by decide) (fun c_149 => ?_) (fun c_149 => ?_)
    · refine cp_iconst O dL_isStep_156 (v := 0) rfl ?_
      refine cp_istore O dL_isStep_157 (by decide) (cp_ls9 rfl) ?_
      refine cp_aload_n O dL_isStep_159 cp_lg0 ?_
      refine cp_iload O dL_isStep_160 cp_lg6 ?_
      refine cp_iload O dL_isStep_162 cp_lg7 ?_
      refine cp_iload O dL_isStep_164 cp_lg8 ?_
      refine cp_iload O dL_isStep_166 cp_lg9 ?_
      refine cp_cVir O me_X6_piece mi_X6_piece ml_L_21 cp_cX6 hW.s (tw_piece hW) dL_isStep_168 rfl rfl ⟨Nat.le_of_ble_eq_true rfl, Nat.le_of_ble_eq_true rfl⟩ ⟨Nat.le_refl _, Nat.le_refl _⟩ (Nat.le_of_ble_eq_true rfl) (fun I168 hT168 => ?_)
      have hW168 := hT168.1
      refine cp_istore O dL_isStep_171 (by decide) (cp_ls10 rfl) ?_
      refine cp_iload O dL_isStep_173 cp_lg10 ?_
      refine cp_aload_n O dL_isStep_175 cp_lg1 ?_
      refine cp_iload O dL_isStep_176 cp_lg6 ?_
      refine cp_iload O dL_isStep_178 cp_lg7 ?_
      refine cp_iload O dL_isStep_180 cp_lg8 ?_
      refine cp_iload O dL_isStep_182 cp_lg9 ?_
      refine cp_cVir O me_X6_piece mi_X6_piece ml_L_21 cp_cX6 hW168.s' (tw_piece hW168.sy) dL_isStep_184 rfl rfl ⟨Nat.le_of_ble_eq_true rfl, Nat.le_of_ble_eq_true rfl⟩ ⟨Nat.le_refl _, Nat.le_refl _⟩ (Nat.le_of_ble_eq_true rfl) (fun I184 hT184 => ?_)
      have hW184 := hT184.1.sy
      have hf := cp_f_piece (N := N) (d := j98) (l := 1 + j124) (r := j136) (g := 0) (by omega) (by omega) (by omega) (by decide)
      refine cp_icmp_ne (tgt := 213) O dL_isStep_187 (by decide) (fun c => absurd c (fun z => z rfl)) (fun _ => ?_)
      refine cp_iload O dL_isStep_190 cp_lg10 ?_
      refine cp_iload O dL_isStep_192 cp_lg4 ?_
      refine cp_bipush O dL_isStep_194 (v := 24) rfl ?_
      refine cp_icmp_neN (tgt := 204) O dL_isStep_196 (by decide) (a := cp_tn N) (b := 24) rfl rfl (by omega) (by omega) (fun c_196 => ?_) (fun c_196 => ?_)
      · refine cp_iload O dL_isStep_204 cp_lg4 ?_
        refine cp_icmp_ne (tgt := 213) O dL_isStep_206 (by decide) (fun c => absurd c (fun z => z (hf.trans (if_neg c_196)))) (fun _ => ?_)
        refine cp_iconst O dL_isStep_209 (v := 1) rfl ?_
        refine cp_goto (tgt := 214) O dL_isStep_210 (by decide) ?_
        exact hr _ _ _ _ dL_isStep_214 rfl ⟨_, hW184, cp_WF_piece hF⟩
      · refine cp_bipush O dL_isStep_199 (v := (-4)) rfl ?_
        refine cp_goto (tgt := 206) O dL_isStep_201 (by decide) ?_
        refine cp_icmp_ne (tgt := 213) O dL_isStep_206 (by decide) (fun c => absurd c (fun z => z (hf.trans (if_pos c_196)))) (fun _ => ?_)
        refine cp_iconst O dL_isStep_209 (v := 1) rfl ?_
        refine cp_goto (tgt := 214) O dL_isStep_210 (by decide) ?_
        exact hr _ _ _ _ dL_isStep_214 rfl ⟨_, hW184, cp_WF_piece hF⟩
    · refine cp_iconst O dL_isStep_152 (v := 1) rfl ?_
      refine cp_goto (tgt := 157) O dL_isStep_153 (by decide) ?_
      refine cp_istore O dL_isStep_157 (by decide) (cp_ls9 rfl) ?_
      refine cp_aload_n O dL_isStep_159 cp_lg0 ?_
      refine cp_iload O dL_isStep_160 cp_lg6 ?_
      refine cp_iload O dL_isStep_162 cp_lg7 ?_
      refine cp_iload O dL_isStep_164 cp_lg8 ?_
      refine cp_iload O dL_isStep_166 cp_lg9 ?_
      refine cp_cVir O me_X6_piece mi_X6_piece ml_L_21 cp_cX6 hW.s (tw_piece hW) dL_isStep_168 rfl rfl ⟨Nat.le_of_ble_eq_true rfl, Nat.le_of_ble_eq_true rfl⟩ ⟨Nat.le_refl _, Nat.le_refl _⟩ (Nat.le_of_ble_eq_true rfl) (fun I168 hT168 => ?_)
      have hW168 := hT168.1
      refine cp_istore O dL_isStep_171 (by decide) (cp_ls10 rfl) ?_
      refine cp_iload O dL_isStep_173 cp_lg10 ?_
      refine cp_aload_n O dL_isStep_175 cp_lg1 ?_
      refine cp_iload O dL_isStep_176 cp_lg6 ?_
      refine cp_iload O dL_isStep_178 cp_lg7 ?_
      refine cp_iload O dL_isStep_180 cp_lg8 ?_
      refine cp_iload O dL_isStep_182 cp_lg9 ?_
      refine cp_cVir O me_X6_piece mi_X6_piece ml_L_21 cp_cX6 hW168.s' (tw_piece hW168.sy) dL_isStep_184 rfl rfl ⟨Nat.le_of_ble_eq_true rfl, Nat.le_of_ble_eq_true rfl⟩ ⟨Nat.le_refl _, Nat.le_refl _⟩ (Nat.le_of_ble_eq_true rfl) (fun I184 hT184 => ?_)
      have hW184 := hT184.1.sy
      have hf := cp_f_piece (N := N) (d := j98) (l := 1 + j124) (r := j136) (g := 1) (by omega) (by omega) (by omega) (by decide)
      refine cp_icmp_ne (tgt := 213) O dL_isStep_187 (by decide) (fun c => absurd c (fun z => z rfl)) (fun _ => ?_)
      refine cp_iload O dL_isStep_190 cp_lg10 ?_
      refine cp_iload O dL_isStep_192 cp_lg4 ?_
      refine cp_bipush O dL_isStep_194 (v := 24) rfl ?_
      refine cp_icmp_neN (tgt := 204) O dL_isStep_196 (by decide) (a := cp_tn N) (b := 24) rfl rfl (by omega) (by omega) (fun c_196 => ?_) (fun c_196 => ?_)
      · refine cp_iload O dL_isStep_204 cp_lg4 ?_
        refine cp_icmp_ne (tgt := 213) O dL_isStep_206 (by decide) (fun c => absurd c (fun z => z (hf.trans (if_neg c_196)))) (fun _ => ?_)
        refine cp_iconst O dL_isStep_209 (v := 1) rfl ?_
        refine cp_goto (tgt := 214) O dL_isStep_210 (by decide) ?_
        exact hr _ _ _ _ dL_isStep_214 rfl ⟨_, hW184, cp_WF_piece hF⟩
      · refine cp_bipush O dL_isStep_199 (v := (-4)) rfl ?_
        refine cp_goto (tgt := 206) O dL_isStep_201 (by decide) ?_
        refine cp_icmp_ne (tgt := 213) O dL_isStep_206 (by decide) (fun c => absurd c (fun z => z (hf.trans (if_pos c_196)))) (fun _ => ?_)
        refine cp_iconst O dL_isStep_209 (v := 1) rfl ?_
        refine cp_goto (tgt := 214) O dL_isStep_210 (by decide) ?_
        exact hr _ _ _ _ dL_isStep_214 rfl ⟨_, hW184, cp_WF_piece hF⟩
  · refine cp_bipush O dL_isStep_117 (v := 99) rfl ?_
    refine cp_goto (tgt := 124) O dL_isStep_119 (by decide) ?_
    refine cp_cup O (m := 99) rfl (by decide) (by decide) dL_isStep_124 ⟨Nat.le_of_ble_eq_true rfl, Nat.le_of_ble_eq_true rfl⟩ ⟨Nat.le_refl _, Nat.le_refl _⟩ (Nat.le_of_ble_eq_true rfl) (fun j124 hj124 => ?_)
    refine cp_iadd O dL_isStep_127 ?_
    rw [show (1 : Int32) + nI j124 = nI (1 + j124) from nI_add 1 j124]
    refine cp_istore O dL_isStep_128 (by decide) (cp_ls7 rfl) ?_
    refine cp_iload_n O dL_isStep_130 cp_lg3 ?_
    refine cp_bipush O dL_isStep_131 (v := 10) rfl ?_
    refine cp_ishr O dL_isStep_133 ?_
    refine cp_bipush O dL_isStep_134 (v := 10) rfl ?_
    refine cp_cup O (m := 10) rfl (by decide) (by decide) dL_isStep_136 ⟨Nat.le_of_ble_eq_true rfl, Nat.le_of_ble_eq_true rfl⟩ ⟨Nat.le_refl _, Nat.le_refl _⟩ (Nat.le_of_ble_eq_true rfl) (fun j136 hj136 => ?_)
    refine cp_istore O dL_isStep_139 (by decide) (cp_ls8 rfl) ?_
    refine cp_iload_n O dL_isStep_141 cp_lg3 ?_
    refine cp_bipush O dL_isStep_142 (v := 14) rfl ?_
    refine cp_ishr O dL_isStep_144 ?_
    refine cp_iconst O dL_isStep_145 (v := 3) rfl ?_
    refine cp_cup O (m := 3) rfl (by decide) (by decide) dL_isStep_146 ⟨Nat.le_of_ble_eq_true rfl, Nat.le_of_ble_eq_true rfl⟩ ⟨Nat.le_refl _, Nat.le_refl _⟩ (Nat.le_of_ble_eq_true rfl) (fun j146 hj146 => ?_)
    refine cp_if_ne (tgt := 156) O dL_isStep_149 (by decide) (fun c_149 => ?_) (fun c_149 => ?_)
    · refine cp_iconst O dL_isStep_156 (v := 0) rfl ?_
      refine cp_istore O dL_isStep_157 (by decide) (cp_ls9 rfl) ?_
      refine cp_aload_n O dL_isStep_159 cp_lg0 ?_
      refine cp_iload O dL_isStep_160 cp_lg6 ?_
      refine cp_iload O dL_isStep_162 cp_lg7 ?_
      refine cp_iload O dL_isStep_164 cp_lg8 ?_
      refine cp_iload O dL_isStep_166 cp_lg9 ?_
      refine cp_cVir O me_X6_piece mi_X6_piece ml_L_21 cp_cX6 hW.s (tw_piece hW) dL_isStep_168 rfl rfl ⟨Nat.le_of_ble_eq_true rfl, Nat.le_of_ble_eq_true rfl⟩ ⟨Nat.le_refl _, Nat.le_refl _⟩ (Nat.le_of_ble_eq_true rfl) (fun I168 hT168 => ?_)
      have hW168 := hT168.1
      refine cp_istore O dL_isStep_171 (by decide) (cp_ls10 rfl) ?_
      refine cp_iload O dL_isStep_173 cp_lg10 ?_
      refine cp_aload_n O dL_isStep_175 cp_lg1 ?_
      refine cp_iload O dL_isStep_176 cp_lg6 ?_
      refine cp_iload O dL_isStep_178 cp_lg7 ?_
      refine cp_iload O dL_isStep_180 cp_lg8 ?_
      refine cp_iload O dL_isStep_182 cp_lg9 ?_
      refine cp_cVir O me_X6_piece mi_X6_piece ml_L_21 cp_cX6 hW168.s' (tw_piece hW168.sy) dL_isStep_184 rfl rfl ⟨Nat.le_of_ble_eq_true rfl, Nat.le_of_ble_eq_true rfl⟩ ⟨Nat.le_refl _, Nat.le_refl _⟩ (Nat.le_of_ble_eq_true rfl) (fun I184 hT184 => ?_)
      have hW184 := hT184.1.sy
      have hf := cp_f_piece (N := N) (d := j98) (l := 1 + j124) (r := j136) (g := 0) (by omega) (by omega) (by omega) (by decide)
      refine cp_icmp_ne (tgt := 213) O dL_isStep_187 (by decide) (fun c => absurd c (fun z => z rfl)) (fun _ => ?_)
      refine cp_iload O dL_isStep_190 cp_lg10 ?_
      refine cp_iload O dL_isStep_192 cp_lg4 ?_
      refine cp_bipush O dL_isStep_194 (v := 24) rfl ?_
      refine cp_icmp_neN (tgt := 204) O dL_isStep_196 (by decide) (a := cp_tn N) (b := 24) rfl rfl (by omega) (by omega) (fun c_196 => ?_) (fun c_196 => ?_)
      · refine cp_iload O dL_isStep_204 cp_lg4 ?_
        refine cp_icmp_ne (tgt := 213) O dL_isStep_206 (by decide) (fun c => absurd c (fun z => z (hf.trans (if_neg c_196)))) (fun _ => ?_)
        refine cp_iconst O dL_isStep_209 (v := 1) rfl ?_
        refine cp_goto (tgt := 214) O dL_isStep_210 (by decide) ?_
        exact hr _ _ _ _ dL_isStep_214 rfl ⟨_, hW184, cp_WF_piece hF⟩
      · refine cp_bipush O dL_isStep_199 (v := (-4)) rfl ?_
        refine cp_goto (tgt := 206) O dL_isStep_201 (by decide) ?_
        refine cp_icmp_ne (tgt := 213) O dL_isStep_206 (by decide) (fun c => absurd c (fun z => z (hf.trans (if_pos c_196)))) (fun _ => ?_)
        refine cp_iconst O dL_isStep_209 (v := 1) rfl ?_
        refine cp_goto (tgt := 214) O dL_isStep_210 (by decide) ?_
        exact hr _ _ _ _ dL_isStep_214 rfl ⟨_, hW184, cp_WF_piece hF⟩
    · refine cp_iconst O dL_isStep_152 (v := 1) rfl ?_
      refine cp_goto (tgt := 157) O dL_isStep_153 (by decide) ?_
      refine cp_istore O dL_isStep_157 (by decide) (cp_ls9 rfl) ?_
      refine cp_aload_n O dL_isStep_159 cp_lg0 ?_
      refine cp_iload O dL_isStep_160 cp_lg6 ?_
      refine cp_iload O dL_isStep_162 cp_lg7 ?_
      refine cp_iload O dL_isStep_164 cp_lg8 ?_
      refine cp_iload O dL_isStep_166 cp_lg9 ?_
      refine cp_cVir O me_X6_piece mi_X6_piece ml_L_21 cp_cX6 hW.s (tw_piece hW) dL_isStep_168 rfl rfl ⟨Nat.le_of_ble_eq_true rfl, Nat.le_of_ble_eq_true rfl⟩ ⟨Nat.le_refl _, Nat.le_refl _⟩ (Nat.le_of_ble_eq_true rfl) (fun I168 hT168 => ?_)
      have hW168 := hT168.1
      refine cp_istore O dL_isStep_171 (by decide) (cp_ls10 rfl) ?_
      refine cp_iload O dL_isStep_173 cp_lg10 ?_
      refine cp_aload_n O dL_isStep_175 cp_lg1 ?_
      refine cp_iload O dL_isStep_176 cp_lg6 ?_
      refine cp_iload O dL_isStep_178 cp_lg7 ?_
      refine cp_iload O dL_isStep_180 cp_lg8 ?_
      refine cp_iload O dL_isStep_182 cp_lg9 ?_
      refine cp_cVir O me_X6_piece mi_X6_piece ml_L_21 cp_cX6 hW168.s' (tw_piece hW168.sy) dL_isStep_184 rfl rfl ⟨Nat.le_of_ble_eq_true rfl, Nat.le_of_ble_eq_true rfl⟩ ⟨Nat.le_refl _, Nat.le_refl _⟩ (Nat.le_of_ble_eq_true rfl) (fun I184 hT184 => ?_)
      have hW184 := hT184.1.sy
      have hf := cp_f_piece (N := N) (d := j98) (l := 1 + j124) (r := j136) (g := 1) (by omega) (by omega) (by omega) (by decide)
      refine cp_icmp_ne (tgt := 213) O dL_isStep_187 (by decide) (fun c => absurd c (fun z => z rfl)) (fun _ => ?_)
      refine cp_iload O dL_isStep_190 cp_lg10 ?_
      refine cp_iload O dL_isStep_192 cp_lg4 ?_
      refine cp_bipush O dL_isStep_194 (v := 24) rfl ?_
      refine cp_icmp_neN (tgt := 204) O dL_isStep_196 (by decide) (a := cp_tn N) (b := 24) rfl rfl (by omega) (by omega) (fun c_196 => ?_) (fun c_196 => ?_)
      · refine cp_iload O dL_isStep_204 cp_lg4 ?_
        refine cp_icmp_ne (tgt := 213) O dL_isStep_206 (by decide) (fun c => absurd c (fun z => z (hf.trans (if_neg c_196)))) (fun _ => ?_)
        refine cp_iconst O dL_isStep_209 (v := 1) rfl ?_
        refine cp_goto (tgt := 214) O dL_isStep_210 (by decide) ?_
        exact hr _ _ _ _ dL_isStep_214 rfl ⟨_, hW184, cp_WF_piece hF⟩
      · refine cp_bipush O dL_isStep_199 (v := (-4)) rfl ?_
        refine cp_goto (tgt := 206) O dL_isStep_201 (by decide) ?_
        refine cp_icmp_ne (tgt := 213) O dL_isStep_206 (by decide) (fun c => absurd c (fun z => z (hf.trans (if_pos c_196)))) (fun _ => ?_)
        refine cp_iconst O dL_isStep_209 (v := 1) rfl ?_
        refine cp_goto (tgt := 214) O dL_isStep_210 (by decide) ?_
        exact hr _ _ _ _ dL_isStep_214 rfl ⟨_, hW184, cp_WF_piece hF⟩
