theorem sw_L_law_32 {x : cp_Cx} {E : cp_En} {nL d mc ms cells slots cnt : Nat} {sh : cp_Shp} {I : cp_Mem} {R : cp_Rem} {L : List (Option Value)} {st : List Value} {v : Int32} (O : cp_Ok x E RL cL_law nL d mc ms) (k0 : v = 0 → cp_G x E nL cells slots cnt sh I R 132 L st) (k1 : v = 1 → cp_G x E nL cells slots cnt sh I R 165 L st) (k2 : v = 2 → cp_G x E nL cells slots cnt sh I R 218 L st) (k3 : v = 3 → cp_G x E nL cells slots cnt sh I R 241 L st) (k4 : v = 4 → cp_G x E nL cells slots cnt sh I R 264 L st) (k5 : v = 5 → cp_G x E nL cells slots cnt sh I R 287 L st) (k6 : v = 6 → cp_G x E nL cells slots cnt sh I R 310 L st) (k7 : v = 7 → cp_G x E nL cells slots cnt sh I R 343 L st) (k8 : v = 8 → cp_G x E nL cells slots cnt sh I R 376 L st) (k9 : v = 9 → cp_G x E nL cells slots cnt sh I R 399 L st) (k10 : v = 10 → cp_G x E nL cells slots cnt sh I R 432 L st) (k11 : v = 11 → cp_G x E nL cells slots cnt sh I R 445 L st) (k12 : v = 12 → cp_G x E nL cells slots cnt sh I R 468 L st) (k13 : v = 13 → cp_G x E nL cells slots cnt sh I R 481 L st) (k14 : v = 14 → cp_G x E nL cells slots cnt sh I R 494 L st) (k15 : v = 15 → cp_G x E nL cells slots cnt sh I R 547 L st) (k16 : v = 16 → cp_G x E nL cells slots cnt sh I R 560 L st) (k17 : v = 17 → cp_G x E nL cells slots cnt sh I R 573 L st) (k18 : v = 18 → cp_G x E nL cells slots cnt sh I R 586 L st) (k19 : v = 19 → cp_G x E nL cells slots cnt sh I R 599 L st) (k20 : v = 20 → cp_G x E nL cells slots cnt sh I R 622 L st) (kd : (v.toInt < 0 ∨ 20 < v.toInt) → cp_G x E nL cells slots cnt sh I R 645 L st) : cp_G x E nL cells slots cnt sh I R 32 L (.int v :: st) := by
  by_cases h1 : v.toInt < 0
  · exact cp_tableOut O dL_law_32 (Or.inl h1) (by decide) (kd (Or.inl h1))
  by_cases h2 : 20 < v.toInt
  · exact cp_tableOut O dL_law_32 (Or.inr h2) (by decide) (kd (Or.inr h2))
  have h3 : v.toInt = 0 ∨ v.toInt = 1 ∨ v.toInt = 2 ∨ v.toInt = 3 ∨ v.toInt = 4 ∨ v.toInt = 5 ∨ v.toInt = 6 ∨ v.toInt = 7 ∨ v.toInt = 8 ∨ v.toInt = 9 ∨ v.toInt = 10 ∨ v.toInt = 11 ∨ v.toInt = 12 ∨ v.toInt = 13 ∨ v.toInt = 14 ∨ v.toInt = 15 ∨ v.toInt = 16 ∨ v.toInt = 17 ∨ v.toInt = 18 ∨ v.toInt = 19 ∨ v.toInt = 20 := by omega
  rcases h3 with h | h | h | h | h | h | h | h | h | h | h | h | h | h | h | h | h | h | h | h | h
  · exact cp_tableIn (tgt := 132) O dL_law_32 h1 h2 (off := 100) (by rw [h]; rfl) (by decide) (k0 (Int32.toInt_inj.mp (by rw [h]; rfl)))
  · exact cp_tableIn (tgt := 165) O dL_law_32 h1 h2 (off := 133) (by rw [h]; rfl) (by decide) (k1 (Int32.toInt_inj.mp (by rw [h]; rfl)))
  · exact cp_tableIn (tgt := 218) O dL_law_32 h1 h2 (off := 186) (by rw [h]; rfl) (by decide) (k2 (Int32.toInt_inj.mp (by rw [h]; rfl)))
  · exact cp_tableIn (tgt := 241) O dL_law_32 h1 h2 (off := 209) (by rw [h]; rfl) (by decide) (k3 (Int32.toInt_inj.mp (by rw [h]; rfl)))
  · exact cp_tableIn (tgt := 264) O dL_law_32 h1 h2 (off := 232) (by rw [h]; rfl) (by decide) (k4 (Int32.toInt_inj.mp (by rw [h]; rfl)))
  · exact cp_tableIn (tgt := 287) O dL_law_32 h1 h2 (off := 255) (by rw [h]; rfl) (by decide) (k5 (Int32.toInt_inj.mp (by rw [h]; rfl)))
  · exact cp_tableIn (tgt := 310) O dL_law_32 h1 h2 (off := 278) (by rw [h]; rfl) (by decide) (k6 (Int32.toInt_inj.mp (by rw [h]; rfl)))
  · exact cp_tableIn (tgt := 343) O dL_law_32 h1 h2 (off := 311) (by rw [h]; rfl) (by decide) (k7 (Int32.toInt_inj.mp (by rw [h]; rfl)))
  · exact cp_tableIn (tgt := 376) O dL_law_32 h1 h2 (off := 344) (by rw [h]; rfl) (by decide) (k8 (Int32.toInt_inj.mp (by rw [h]; rfl)))
  · exact cp_tableIn (tgt := 399) O dL_law_32 h1 h2 (off := 367) (by rw [h]; rfl) (by decide) (k9 (Int32.toInt_inj.mp (by rw [h]; rfl)))
  · exact cp_tableIn (tgt := 432) O dL_law_32 h1 h2 (off := 400) (by rw [h]; rfl) (by decide) (k10 (Int32.toInt_inj.mp (by rw [h]; rfl)))
  · exact cp_tableIn (tgt := 445) O dL_law_32 h1 h2 (off := 413) (by rw [h]; rfl) (by decide) (k11 (Int32.toInt_inj.mp (by rw [h]; rfl)))
  · exact cp_tableIn (tgt := 468) O dL_law_32 h1 h2 (off := 436) (by rw [h]; rfl) (by decide) (k12 (Int32.toInt_inj.mp (by rw [h]; rfl)))
  · exact cp_tableIn (tgt := 481) O dL_law_32 h1 h2 (off := 449) (by rw [h]; rfl) (by decide) (k13 (Int32.toInt_inj.mp (by rw [h]; rfl)))
  · exact cp_tableIn (tgt := 494) O dL_law_32 h1 h2 (off := 462) (by rw [h]; rfl) (by decide) (k14 (Int32.toInt_inj.mp (by rw [h]; rfl)))
  · exact cp_tableIn (tgt := 547) O dL_law_32 h1 h2 (off := 515) (by rw [h]; rfl) (by decide) (k15 (Int32.toInt_inj.mp (by rw [h]; rfl)))
  · exact cp_tableIn (tgt := 560) O dL_law_32 h1 h2 (off := 528) (by rw [h]; rfl) (by decide) (k16 (Int32.toInt_inj.mp (by rw [h]; rfl)))
  · exact cp_tableIn (tgt := 573) O dL_law_32 h1 h2 (off := 541) (by rw [h]; rfl) (by decide) (k17 (Int32.toInt_inj.mp (by rw [h]; rfl)))
  · exact cp_tableIn (tgt := 586) O dL_law_32 h1 h2 (off := 554) (by rw [h]; rfl) (by decide) (k18 (Int32.toInt_inj.mp (by rw [h]; rfl)))
  · exact cp_tableIn (tgt := 599) O dL_law_32 h1 h2 (off := 567) (by rw [h]; rfl) (by decide) (k19 (Int32.toInt_inj.mp (by rw [h]; rfl)))
  · exact cp_tableIn (tgt := 622) O dL_law_32 h1 h2 (off := 590) (by rw [h]; rfl) (by decide) (k20 (Int32.toInt_inj.mp (by rw [h]; rfl)))
set_option maxHeartbeats 4000000 in
set_option maxRecDepth 100000 in
theorem law_0 {x : cp_Cx} {E : cp_En} {bS LS c j cells slots cnt : Nat} {xs : Nat → Int32} {sh : cp_Shp} {I : cp_Mem} {R : cp_Rem} {X : cp_St} (O : cp_Ok x E RL cL_law 4 13 600000 7302250) (hS0 : cp_scr x E bS LS xs) (hj : j + 5 ≤ LS) (hcl : cells + 36 ≤ 600000) (hsl : slots + 306 ≤ 7302250) (hI : cp_INV E c cnt sh I R X) (hE : cp_xN X = cp_ow I (c + 1) (cp_xN X)) (nx : ∀ cnt' sh' I' R' X', cp_INV E c cnt' sh' I' R' X' → cp_G x E 4 (cells + 36) (slots + 306) cnt' sh' I' R' 645 [some (.ref bS), some (.ref c), some (.ref (c + 331)), some (.int (nI j))] []) : cp_G x E 4 cells slots cnt sh I R 132 [some (.ref bS), some (.ref c), some (.ref (c + 331)), some (.int (nI j))] [] := by
  obtain ⟨Pl, Sl, Sb, Ml, hc, hX, hR⟩ := hI
  have hV := cp_XV_of hR
  have hL25 := hS0.2.2.2
  refine cp_aload_n O dL_law_132 cp_lg1 ?_
  refine cp_aload_n O dL_law_133 cp_lg0 ?_
  refine cp_iload_n O dL_law_134 cp_lg3 ?_
  refine cp_iconst O dL_law_135 (v := 1) rfl ?_
  refine cp_iadd O dL_law_136 ?_
  refine cp_sld O hS0 (j := j + 1) (cp_ad rfl rfl) (by omega) dL_law_137 ?_
  refine cp_aload_n O dL_law_138 cp_lg0 ?_
  refine cp_iload_n O dL_law_139 cp_lg3 ?_
  refine cp_iconst O dL_law_140 (v := 2) rfl ?_
  refine cp_iadd O dL_law_141 ?_
  refine cp_sld O hS0 (j := j + 2) (cp_ad rfl rfl) (by omega) dL_law_142 ?_
  refine cp_cVir O me_X6_set mi_X6_set ml_L_13 cp_cX6 Pl.s (c_X6_set Pl Sl hV hX) dL_law_143 rfl rfl ⟨Nat.le_of_ble_eq_true rfl, Nat.le_of_ble_eq_true rfl⟩ ⟨by omega, by omega⟩ (Nat.le_of_ble_eq_true rfl) (fun I143 hT143 => ?_)
  obtain ⟨hX1, ho1⟩ := hT143
  refine cp_aload_n O dL_law_146 cp_lg2 ?_
  refine cp_aload_n O dL_law_147 cp_lg0 ?_
  refine cp_iload_n O dL_law_148 cp_lg3 ?_
  refine cp_iconst O dL_law_149 (v := 1) rfl ?_
  refine cp_iadd O dL_law_150 ?_
  refine cp_sld O hS0 (j := j + 1) (cp_ad rfl rfl) (by omega) dL_law_151 ?_
  refine cp_aload_n O dL_law_152 cp_lg0 ?_
  refine cp_iload_n O dL_law_153 cp_lg3 ?_
  refine cp_iconst O dL_law_154 (v := 2) rfl ?_
  refine cp_iadd O dL_law_155 ?_
  refine cp_sld O hS0 (j := j + 2) (cp_ad rfl rfl) (by omega) dL_law_156 ?_
  refine cp_cVir O me_X7_set mi_X7_set ml_L_17 cp_cX7 Ml.s (n_X7_set Ml (cp_MR_oc ho1 hR)) dL_law_157 rfl rfl ⟨Nat.le_of_ble_eq_true rfl, Nat.le_of_ble_eq_true rfl⟩ ⟨by omega, by omega⟩ (Nat.le_of_ble_eq_true rfl) (fun I157 hT157 => ?_)
  refine cp_icmp_eq (tgt := 645) O dL_law_160 (by decide) (fun c_160 => ?_) (fun c_160 => ?_)
  · exact cp_Gc (by omega) (by omega) (nx _ _ _ _ _ (cp_INV_nx Pl Sl Sb Ml hc hX1 hT157))
  · exact absurd rfl c_160
set_option maxHeartbeats 4000000 in
set_option maxRecDepth 100000 in
theorem law_1 {x : cp_Cx} {E : cp_En} {bS LS c j cells slots cnt : Nat} {xs : Nat → Int32} {sh : cp_Shp} {I : cp_Mem} {R : cp_Rem} {X : cp_St} (O : cp_Ok x E RL cL_law 4 13 600000 7302250) (hS0 : cp_scr x E bS LS xs) (hj : j + 5 ≤ LS) (hcl : cells + 36 ≤ 600000) (hsl : slots + 306 ≤ 7302250) (hI : cp_INV E c cnt sh I R X) (hE : cp_xN X = cp_ow I (c + 1) (cp_xN X)) (nx : ∀ cnt' sh' I' R' X', cp_INV E c cnt' sh' I' R' X' → cp_G x E 4 (cells + 36) (slots + 306) cnt' sh' I' R' 645 [some (.ref bS), some (.ref c), some (.ref (c + 331)), some (.int (nI j))] []) : cp_G x E 4 cells slots cnt sh I R 165 [some (.ref bS), some (.ref c), some (.ref (c + 331)), some (.int (nI j))] [] := by
  obtain ⟨Pl, Sl, Sb, Ml, hc, hX, hR⟩ := hI
  have hV := cp_XV_of hR
  have hL25 := hS0.2.2.2
  refine cp_aload_n O dL_law_165 cp_lg1 ?_
  refine cp_aload_n O dL_law_166 cp_lg0 ?_
  refine cp_iload_n O dL_law_167 cp_lg3 ?_
  refine cp_iconst O dL_law_168 (v := 1) rfl ?_
  refine cp_iadd O dL_law_169 ?_
  refine cp_sld O hS0 (j := j + 1) (cp_ad rfl rfl) (by omega) dL_law_170 ?_
  refine cp_aload_n O dL_law_171 cp_lg0 ?_
  refine cp_iload_n O dL_law_172 cp_lg3 ?_
  refine cp_iconst O dL_law_173 (v := 2) rfl ?_
  refine cp_iadd O dL_law_174 ?_
  refine cp_sld O hS0 (j := j + 2) (cp_ad rfl rfl) (by omega) dL_law_175 ?_
  refine cp_aload_n O dL_law_176 cp_lg0 ?_
  refine cp_iload_n O dL_law_177 cp_lg3 ?_
  refine cp_iconst O dL_law_178 (v := 3) rfl ?_
  refine cp_iadd O dL_law_179 ?_
  refine cp_sld O hS0 (j := j + 3) (cp_ad rfl rfl) (by omega) dL_law_180 ?_
  refine cp_aload_n O dL_law_181 cp_lg0 ?_
  refine cp_iload_n O dL_law_182 cp_lg3 ?_
  refine cp_iconst O dL_law_183 (v := 4) rfl ?_
  refine cp_iadd O dL_law_184 ?_
  refine cp_sld O hS0 (j := j + 4) (cp_ad rfl rfl) (by omega) dL_law_185 ?_
  refine cp_cVir O me_X6_piece mi_X6_piece ml_L_18 cp_cX6 Pl.s (c_X6_piece Pl Sl hV hX) dL_law_186 rfl rfl ⟨Nat.le_of_ble_eq_true rfl, Nat.le_of_ble_eq_true rfl⟩ ⟨by omega, by omega⟩ (Nat.le_of_ble_eq_true rfl) (fun I186 hT186 => ?_)
  obtain ⟨hX1, ho1⟩ := hT186
  refine cp_aload_n O dL_law_189 cp_lg2 ?_
  refine cp_aload_n O dL_law_190 cp_lg0 ?_
  refine cp_iload_n O dL_law_191 cp_lg3 ?_
  refine cp_iconst O dL_law_192 (v := 1) rfl ?_
  refine cp_iadd O dL_law_193 ?_
  refine cp_sld O hS0 (j := j + 1) (cp_ad rfl rfl) (by omega) dL_law_194 ?_
  refine cp_aload_n O dL_law_195 cp_lg0 ?_
  refine cp_iload_n O dL_law_196 cp_lg3 ?_
  refine cp_iconst O dL_law_197 (v := 2) rfl ?_
  refine cp_iadd O dL_law_198 ?_
  refine cp_sld O hS0 (j := j + 2) (cp_ad rfl rfl) (by omega) dL_law_199 ?_
  refine cp_aload_n O dL_law_200 cp_lg0 ?_
  refine cp_iload_n O dL_law_201 cp_lg3 ?_
  refine cp_iconst O dL_law_202 (v := 3) rfl ?_
  refine cp_iadd O dL_law_203 ?_
  refine cp_sld O hS0 (j := j + 3) (cp_ad rfl rfl) (by omega) dL_law_204 ?_
  refine cp_aload_n O dL_law_205 cp_lg0 ?_
  refine cp_iload_n O dL_law_206 cp_lg3 ?_
  refine cp_iconst O dL_law_207 (v := 4) rfl ?_
  refine cp_iadd O dL_law_208 ?_
  refine cp_sld O hS0 (j := j + 4) (cp_ad rfl rfl) (by omega) dL_law_209 ?_
  refine cp_cVir O me_X7_piece mi_X7_piece ml_L_22 cp_cX7 Ml.s (n_X7_piece Ml (cp_MR_oc ho1 hR)) dL_law_210 rfl rfl ⟨Nat.le_of_ble_eq_true rfl, Nat.le_of_ble_eq_true rfl⟩ ⟨by omega, by omega⟩ (Nat.le_of_ble_eq_true rfl) (fun I210 hT210 => ?_)
  refine cp_icmp_eq (tgt := 645) O dL_law_213 (by decide) (fun c_213 => ?_) (fun c_213 => ?_)
  · exact cp_Gc (by omega) (by omega) (nx _ _ _ _ _ (cp_INV_nx Pl Sl Sb Ml hc hX1 hT210))
  · exact absurd rfl c_213
set_option maxHeartbeats 4000000 in
set_option maxRecDepth 100000 in
theorem law_2 {x : cp_Cx} {E : cp_En} {bS LS c j cells slots cnt : Nat} {xs : Nat → Int32} {sh : cp_Shp} {I : cp_Mem} {R : cp_Rem} {X : cp_St} (O : cp_Ok x E RL cL_law 4 13 600000 7302250) (hS0 : cp_scr x E bS LS xs) (hj : j + 5 ≤ LS) (hcl : cells + 36 ≤ 600000) (hsl : slots + 306 ≤ 7302250) (hI : cp_INV E c cnt sh I R X) (hE : cp_xN X = cp_ow I (c + 1) (cp_xN X)) (nx : ∀ cnt' sh' I' R' X', cp_INV E c cnt' sh' I' R' X' → cp_G x E 4 (cells + 36) (slots + 306) cnt' sh' I' R' 645 [some (.ref bS), some (.ref c), some (.ref (c + 331)), some (.int (nI j))] []) : cp_G x E 4 cells slots cnt sh I R 218 [some (.ref bS), some (.ref c), some (.ref (c + 331)), some (.int (nI j))] [] := by
  obtain ⟨Pl, Sl, Sb, Ml, hc, hX, hR⟩ := hI
  have hV := cp_XV_of hR
  have hL25 := hS0.2.2.2
  refine cp_aload_n O dL_law_218 cp_lg1 ?_
  refine cp_aload_n O dL_law_219 cp_lg0 ?_
  refine cp_iload_n O dL_law_220 cp_lg3 ?_
  refine cp_iconst O dL_law_221 (v := 1) rfl ?_
  refine cp_iadd O dL_law_222 ?_
  refine cp_sld O hS0 (j := j + 1) (cp_ad rfl rfl) (by omega) dL_law_223 ?_
  refine cp_cVir O me_X6_plate mi_X6_plate ml_L_23 cp_cX6 Pl.s (c_X6_plate Pl Sl hV hX) dL_law_224 rfl rfl ⟨Nat.le_of_ble_eq_true rfl, Nat.le_of_ble_eq_true rfl⟩ ⟨by omega, by omega⟩ (Nat.le_of_ble_eq_true rfl) (fun I224 hT224 => ?_)
  obtain ⟨hX1, ho1⟩ := hT224
  refine cp_aload_n O dL_law_227 cp_lg2 ?_
  refine cp_aload_n O dL_law_228 cp_lg0 ?_
  refine cp_iload_n O dL_law_229 cp_lg3 ?_
  refine cp_iconst O dL_law_230 (v := 1) rfl ?_
  refine cp_iadd O dL_law_231 ?_
  refine cp_sld O hS0 (j := j + 1) (cp_ad rfl rfl) (by omega) dL_law_232 ?_
  refine cp_cVir O me_X7_plate mi_X7_plate ml_L_27 cp_cX7 Ml.s (n_X7_plate Ml (cp_MR_oc ho1 hR)) dL_law_233 rfl rfl ⟨Nat.le_of_ble_eq_true rfl, Nat.le_of_ble_eq_true rfl⟩ ⟨by omega, by omega⟩ (Nat.le_of_ble_eq_true rfl) (fun I233 hT233 => ?_)
  refine cp_icmp_eq (tgt := 645) O dL_law_236 (by decide) (fun c_236 => ?_) (fun c_236 => ?_)
  · exact cp_Gc (by omega) (by omega) (nx _ _ _ _ _ (cp_INV_nx Pl Sl Sb Ml hc hX1 hT233))
  · exact absurd rfl c_236
set_option maxHeartbeats 4000000 in
set_option maxRecDepth 100000 in
theorem law_3 {x : cp_Cx} {E : cp_En} {bS LS c j cells slots cnt : Nat} {xs : Nat → Int32} {sh : cp_Shp} {I : cp_Mem} {R : cp_Rem} {X : cp_St} (O : cp_Ok x E RL cL_law 4 13 600000 7302250) (hS0 : cp_scr x E bS LS xs) (hj : j + 5 ≤ LS) (hcl : cells + 36 ≤ 600000) (hsl : slots + 306 ≤ 7302250) (hI : cp_INV E c cnt sh I R X) (hE : cp_xN X = cp_ow I (c + 1) (cp_xN X)) (nx : ∀ cnt' sh' I' R' X', cp_INV E c cnt' sh' I' R' X' → cp_G x E 4 (cells + 36) (slots + 306) cnt' sh' I' R' 645 [some (.ref bS), some (.ref c), some (.ref (c + 331)), some (.int (nI j))] []) : cp_G x E 4 cells slots cnt sh I R 241 [some (.ref bS), some (.ref c), some (.ref (c + 331)), some (.int (nI j))] [] := by
  obtain ⟨Pl, Sl, Sb, Ml, hc, hX, hR⟩ := hI
  have hV := cp_XV_of hR
  have hL25 := hS0.2.2.2
  refine cp_aload_n O dL_law_241 cp_lg1 ?_
  refine cp_aload_n O dL_law_242 cp_lg0 ?_
  refine cp_iload_n O dL_law_243 cp_lg3 ?_
  refine cp_iconst O dL_law_244 (v := 1) rfl ?_
  refine cp_iadd O dL_law_245 ?_
  refine cp_sld O hS0 (j := j + 1) (cp_ad rfl rfl) (by omega) dL_law_246 ?_
  refine cp_cVir O me_X6_hold mi_X6_hold ml_L_28 cp_cX6 Pl.s (c_X6_hold Pl Sl hV hX) dL_law_247 rfl rfl ⟨Nat.le_of_ble_eq_true rfl, Nat.le_of_ble_eq_true rfl⟩ ⟨by omega, by omega⟩ (Nat.le_of_ble_eq_true rfl) (fun I247 hT247 => ?_)
  obtain ⟨hX1, ho1⟩ := hT247
  refine cp_aload_n O dL_law_250 cp_lg2 ?_
  refine cp_aload_n O dL_law_251 cp_lg0 ?_
  refine cp_iload_n O dL_law_252 cp_lg3 ?_
  refine cp_iconst O dL_law_253 (v := 1) rfl ?_
  refine cp_iadd O dL_law_254 ?_
  refine cp_sld O hS0 (j := j + 1) (cp_ad rfl rfl) (by omega) dL_law_255 ?_
  refine cp_cVir O me_X7_hold mi_X7_hold ml_L_31 cp_cX7 Ml.s (n_X7_hold Ml (cp_MR_oc ho1 hR)) dL_law_256 rfl rfl ⟨Nat.le_of_ble_eq_true rfl, Nat.le_of_ble_eq_true rfl⟩ ⟨by omega, by omega⟩ (Nat.le_of_ble_eq_true rfl) (fun I256 hT256 => ?_)
  refine cp_icmp_eq (tgt := 645) O dL_law_259 (by decide) (fun c_259 => ?_) (fun c_259 => ?_)
  · exact cp_Gc (by omega) (by omega) (nx _ _ _ _ _ (cp_INV_nx Pl Sl Sb Ml hc hX1 hT256))
  · exact absurd rfl c_259
set_option maxHeartbeats 4000000 in
set_option maxRecDepth 100000 in
theorem law_4 {x : cp_Cx} {E : cp_En} {bS LS c j cells slots cnt : Nat} {xs : Nat → Int32} {sh : cp_Shp} {I : cp_Mem} {R : cp_Rem} {X : cp_St} (O : cp_Ok x E RL cL_law 4 13 600000 7302250) (hS0 : cp_scr x E bS LS xs) (hj : j + 5 ≤ LS) (hcl : cells + 36 ≤ 600000) (hsl : slots + 306 ≤ 7302250) (hI : cp_INV E c cnt sh I R X) (hE : cp_xN X = cp_ow I (c + 1) (cp_xN X)) (nx : ∀ cnt' sh' I' R' X', cp_INV E c cnt' sh' I' R' X' → cp_G x E 4 (cells + 36) (slots + 306) cnt' sh' I' R' 645 [some (.ref bS), some (.ref c), some (.ref (c + 331)), some (.int (nI j))] []) : cp_G x E 4 cells slots cnt sh I R 264 [some (.ref bS), some (.ref c), some (.ref (c + 331)), some (.int (nI j))] [] := by
  obtain ⟨Pl, Sl, Sb, Ml, hc, hX, hR⟩ := hI
  have hV := cp_XV_of hR
  have hL25 := hS0.2.2.2
  refine cp_aload_n O dL_law_264 cp_lg1 ?_
  refine cp_aload_n O dL_law_265 cp_lg0 ?_
  refine cp_iload_n O dL_law_266 cp_lg3 ?_
  refine cp_iconst O dL_law_267 (v := 1) rfl ?_
  refine cp_iadd O dL_law_268 ?_
  refine cp_sld O hS0 (j := j + 1) (cp_ad rfl rfl) (by omega) dL_law_269 ?_
  refine cp_cVir O me_X6_kill mi_X6_kill ml_L_32 cp_cX6 Pl.s (c_X6_kill Pl Sl hV hX) dL_law_270 rfl rfl ⟨Nat.le_of_ble_eq_true rfl, Nat.le_of_ble_eq_true rfl⟩ ⟨by omega, by omega⟩ (Nat.le_of_ble_eq_true rfl) (fun I270 hT270 => ?_)
  obtain ⟨hX1, ho1⟩ := hT270
  refine cp_aload_n O dL_law_273 cp_lg2 ?_
  refine cp_aload_n O dL_law_274 cp_lg0 ?_
  refine cp_iload_n O dL_law_275 cp_lg3 ?_
  refine cp_iconst O dL_law_276 (v := 1) rfl ?_
  refine cp_iadd O dL_law_277 ?_
  refine cp_sld O hS0 (j := j + 1) (cp_ad rfl rfl) (by omega) dL_law_278 ?_
  refine cp_cVir O me_X7_kill mi_X7_kill ml_L_35 cp_cX7 Ml.s (n_X7_kill Ml (cp_MR_oc ho1 hR)) dL_law_279 rfl rfl ⟨Nat.le_of_ble_eq_true rfl, Nat.le_of_ble_eq_true rfl⟩ ⟨by omega, by omega⟩ (Nat.le_of_ble_eq_true rfl) (fun I279 hT279 => ?_)
  refine cp_icmp_eq (tgt := 645) O dL_law_282 (by decide) (fun c_282 => ?_) (fun c_282 => ?_)
  · exact cp_Gc (by omega) (by omega) (nx _ _ _ _ _ (cp_INV_nx Pl Sl Sb Ml hc hX1 hT279))
  · exact absurd rfl c_282
set_option maxHeartbeats 4000000 in
set_option maxRecDepth 100000 in
theorem law_5 {x : cp_Cx} {E : cp_En} {bS LS c j cells slots cnt : Nat} {xs : Nat → Int32} {sh : cp_Shp} {I : cp_Mem} {R : cp_Rem} {X : cp_St} (O : cp_Ok x E RL cL_law 4 13 600000 7302250) (hS0 : cp_scr x E bS LS xs) (hj : j + 5 ≤ LS) (hcl : cells + 36 ≤ 600000) (hsl : slots + 306 ≤ 7302250) (hI : cp_INV E c cnt sh I R X) (hE : cp_xN X = cp_ow I (c + 1) (cp_xN X)) (nx : ∀ cnt' sh' I' R' X', cp_INV E c cnt' sh' I' R' X' → cp_G x E 4 (cells + 36) (slots + 306) cnt' sh' I' R' 645 [some (.ref bS), some (.ref c), some (.ref (c + 331)), some (.int (nI j))] []) : cp_G x E 4 cells slots cnt sh I R 287 [some (.ref bS), some (.ref c), some (.ref (c + 331)), some (.int (nI j))] [] := by
  obtain ⟨Pl, Sl, Sb, Ml, hc, hX, hR⟩ := hI
  have hV := cp_XV_of hR
  have hL25 := hS0.2.2.2
  refine cp_aload_n O dL_law_287 cp_lg1 ?_
  refine cp_aload_n O dL_law_288 cp_lg0 ?_
  refine cp_iload_n O dL_law_289 cp_lg3 ?_
  refine cp_iconst O dL_law_290 (v := 1) rfl ?_
  refine cp_iadd O dL_law_291 ?_
  refine cp_sld O hS0 (j := j + 1) (cp_ad rfl rfl) (by omega) dL_law_292 ?_
  refine cp_cVir O me_X6_pass mi_X6_pass ml_L_36 cp_cX6 Pl.s (c_X6_pass Pl Sl hV hX) dL_law_293 rfl rfl ⟨Nat.le_of_ble_eq_true rfl, Nat.le_of_ble_eq_true rfl⟩ ⟨by omega, by omega⟩ (Nat.le_of_ble_eq_true rfl) (fun I293 hT293 => ?_)
  obtain ⟨hX1, ho1⟩ := hT293
  refine cp_aload_n O dL_law_296 cp_lg2 ?_
  refine cp_aload_n O dL_law_297 cp_lg0 ?_
  refine cp_iload_n O dL_law_298 cp_lg3 ?_
  refine cp_iconst O dL_law_299 (v := 1) rfl ?_
  refine cp_iadd O dL_law_300 ?_
  refine cp_sld O hS0 (j := j + 1) (cp_ad rfl rfl) (by omega) dL_law_301 ?_
  refine cp_cVir O me_X7_pass mi_X7_pass ml_L_39 cp_cX7 Ml.s (n_X7_pass Ml (cp_MR_oc ho1 hR)) dL_law_302 rfl rfl ⟨Nat.le_of_ble_eq_true rfl, Nat.le_of_ble_eq_true rfl⟩ ⟨by omega, by omega⟩ (Nat.le_of_ble_eq_true rfl) (fun I302 hT302 => ?_)
  refine cp_icmp_eq (tgt := 645) O dL_law_305 (by decide) (fun c_305 => ?_) (fun c_305 => ?_)
  · exact cp_Gc (by omega) (by omega) (nx _ _ _ _ _ (cp_INV_nx Pl Sl Sb Ml hc hX1 hT302))
  · exact absurd rfl c_305
set_option maxHeartbeats 4000000 in
set_option maxRecDepth 100000 in
theorem law_6 {x : cp_Cx} {E : cp_En} {bS LS c j cells slots cnt : Nat} {xs : Nat → Int32} {sh : cp_Shp} {I : cp_Mem} {R : cp_Rem} {X : cp_St} (O : cp_Ok x E RL cL_law 4 13 600000 7302250) (hS0 : cp_scr x E bS LS xs) (hj : j + 5 ≤ LS) (hcl : cells + 36 ≤ 600000) (hsl : slots + 306 ≤ 7302250) (hI : cp_INV E c cnt sh I R X) (hE : cp_xN X = cp_ow I (c + 1) (cp_xN X)) (nx : ∀ cnt' sh' I' R' X', cp_INV E c cnt' sh' I' R' X' → cp_G x E 4 (cells + 36) (slots + 306) cnt' sh' I' R' 645 [some (.ref bS), some (.ref c), some (.ref (c + 331)), some (.int (nI j))] []) : cp_G x E 4 cells slots cnt sh I R 310 [some (.ref bS), some (.ref c), some (.ref (c + 331)), some (.int (nI j))] [] := by
  obtain ⟨Pl, Sl, Sb, Ml, hc, hX, hR⟩ := hI
  have hV := cp_XV_of hR
  have hL25 := hS0.2.2.2
  refine cp_aload_n O dL_law_310 cp_lg1 ?_
  refine cp_aload_n O dL_law_311 cp_lg0 ?_
  refine cp_iload_n O dL_law_312 cp_lg3 ?_
  refine cp_iconst O dL_law_313 (v := 1) rfl ?_
  refine cp_iadd O dL_law_314 ?_
  refine cp_sld O hS0 (j := j + 1) (cp_ad rfl rfl) (by omega) dL_law_315 ?_
  refine cp_aload_n O dL_law_316 cp_lg0 ?_
  refine cp_iload_n O dL_law_317 cp_lg3 ?_
  refine cp_iconst O dL_law_318 (v := 2) rfl ?_
  refine cp_iadd O dL_law_319 ?_
  refine cp_sld O hS0 (j := j + 2) (cp_ad rfl rfl) (by omega) dL_law_320 ?_
  refine cp_cVir O me_X6_ofPiece mi_X6_ofPiece ml_L_40 cp_cX6 Pl.s (cp_Fr_of (T := fun I' => cp_XR I' R c X ∧ cp_oc c I I') (c_X6_ofPiece Pl Sl hV hX hE) ⟨hX, cp_oc.rf⟩) dL_law_321 rfl rfl ⟨Nat.le_of_ble_eq_true rfl, Nat.le_of_ble_eq_true rfl⟩ ⟨by omega, by omega⟩ (Nat.le_of_ble_eq_true rfl) (fun I321 hT321 => ?_)
  obtain ⟨hX1, ho1⟩ := hT321
  refine cp_aload_n O dL_law_324 cp_lg2 ?_
  refine cp_aload_n O dL_law_325 cp_lg0 ?_
  refine cp_iload_n O dL_law_326 cp_lg3 ?_
  refine cp_iconst O dL_law_327 (v := 1) rfl ?_
  refine cp_iadd O dL_law_328 ?_
  refine cp_sld O hS0 (j := j + 1) (cp_ad rfl rfl) (by omega) dL_law_329 ?_
  refine cp_aload_n O dL_law_330 cp_lg0 ?_
  refine cp_iload_n O dL_law_331 cp_lg3 ?_
  refine cp_iconst O dL_law_332 (v := 2) rfl ?_
  refine cp_iadd O dL_law_333 ?_
  refine cp_sld O hS0 (j := j + 2) (cp_ad rfl rfl) (by omega) dL_law_334 ?_
  refine cp_cVir O me_X7_ofPiece mi_X7_ofPiece ml_L_43 cp_cX7 Ml.s (n_X7_ofPiece Ml (cp_MR_oc ho1 hR)) dL_law_335 rfl rfl ⟨Nat.le_of_ble_eq_true rfl, Nat.le_of_ble_eq_true rfl⟩ ⟨by omega, by omega⟩ (Nat.le_of_ble_eq_true rfl) (fun I335 hT335 => ?_)
  refine cp_icmp_eq (tgt := 645) O dL_law_338 (by decide) (fun c_338 => ?_) (fun c_338 => ?_)
  · exact cp_Gc (by omega) (by omega) (nx _ _ _ _ _ (cp_INV_nx Pl Sl Sb Ml hc hX1 hT335))
  · exact absurd rfl c_338
set_option maxHeartbeats 4000000 in
set_option maxRecDepth 100000 in
theorem law_7 {x : cp_Cx} {E : cp_En} {bS LS c j cells slots cnt : Nat} {xs : Nat → Int32} {sh : cp_Shp} {I : cp_Mem} {R : cp_Rem} {X : cp_St} (O : cp_Ok x E RL cL_law 4 13 600000 7302250) (hS0 : cp_scr x E bS LS xs) (hj : j + 5 ≤ LS) (hcl : cells + 36 ≤ 600000) (hsl : slots + 306 ≤ 7302250) (hI : cp_INV E c cnt sh I R X) (hE : cp_xN X = cp_ow I (c + 1) (cp_xN X)) (nx : ∀ cnt' sh' I' R' X', cp_INV E c cnt' sh' I' R' X' → cp_G x E 4 (cells + 36) (slots + 306) cnt' sh' I' R' 645 [some (.ref bS), some (.ref c), some (.ref (c + 331)), some (.int (nI j))] []) : cp_G x E 4 cells slots cnt sh I R 343 [some (.ref bS), some (.ref c), some (.ref (c + 331)), some (.int (nI j))] [] := by
  obtain ⟨Pl, Sl, Sb, Ml, hc, hX, hR⟩ := hI
  have hV := cp_XV_of hR
  have hL25 := hS0.2.2.2
  refine cp_aload_n O dL_law_343 cp_lg1 ?_
  refine cp_aload_n O dL_law_344 cp_lg0 ?_
  refine cp_iload_n O dL_law_345 cp_lg3 ?_
  refine cp_iconst O dL_law_346 (v := 1) rfl ?_
  refine cp_iadd O dL_law_347 ?_
  refine cp_sld O hS0 (j := j + 1) (cp_ad rfl rfl) (by omega) dL_law_348 ?_
  refine cp_aload_n O dL_law_349 cp_lg0 ?_
  refine cp_iload_n O dL_law_350 cp_lg3 ?_
  refine cp_iconst O dL_law_351 (v := 2) rfl ?_
  refine cp_iadd O dL_law_352 ?_
  refine cp_sld O hS0 (j := j + 2) (cp_ad rfl rfl) (by omega) dL_law_353 ?_
  refine cp_cVir O me_X6_ofPlate mi_X6_ofPlate ml_L_44 cp_cX6 Pl.s (cp_Fr_of (T := fun I' => cp_XR I' R c X ∧ cp_oc c I I') (c_X6_ofPlate Pl Sl hV hX hE) ⟨hX, cp_oc.rf⟩) dL_law_354 rfl rfl ⟨Nat.le_of_ble_eq_true rfl, Nat.le_of_ble_eq_true rfl⟩ ⟨by omega, by omega⟩ (Nat.le_of_ble_eq_true rfl) (fun I354 hT354 => ?_)
  obtain ⟨hX1, ho1⟩ := hT354
  refine cp_aload_n O dL_law_357 cp_lg2 ?_
  refine cp_aload_n O dL_law_358 cp_lg0 ?_
  refine cp_iload_n O dL_law_359 cp_lg3 ?_
  refine cp_iconst O dL_law_360 (v := 1) rfl ?_
  refine cp_iadd O dL_law_361 ?_
  refine cp_sld O hS0 (j := j + 1) (cp_ad rfl rfl) (by omega) dL_law_362 ?_
  refine cp_aload_n O dL_law_363 cp_lg0 ?_
  refine cp_iload_n O dL_law_364 cp_lg3 ?_
  refine cp_iconst O dL_law_365 (v := 2) rfl ?_
  refine cp_iadd O dL_law_366 ?_
  refine cp_sld O hS0 (j := j + 2) (cp_ad rfl rfl) (by omega) dL_law_367 ?_
  refine cp_cVir O me_X7_ofPlate mi_X7_ofPlate ml_L_47 cp_cX7 Ml.s (n_X7_ofPlate Ml (cp_MR_oc ho1 hR)) dL_law_368 rfl rfl ⟨Nat.le_of_ble_eq_true rfl, Nat.le_of_ble_eq_true rfl⟩ ⟨by omega, by omega⟩ (Nat.le_of_ble_eq_true rfl) (fun I368 hT368 => ?_)
  refine cp_icmp_eq (tgt := 645) O dL_law_371 (by decide) (fun c_371 => ?_) (fun c_371 => ?_)
  · exact cp_Gc (by omega) (by omega) (nx _ _ _ _ _ (cp_INV_nx Pl Sl Sb Ml hc hX1 hT368))
  · exact absurd rfl c_371
set_option maxHeartbeats 4000000 in
set_option maxRecDepth 100000 in
theorem law_8 {x : cp_Cx} {E : cp_En} {bS LS c j cells slots cnt : Nat} {xs : Nat → Int32} {sh : cp_Shp} {I : cp_Mem} {R : cp_Rem} {X : cp_St} (O : cp_Ok x E RL cL_law 4 13 600000 7302250) (hS0 : cp_scr x E bS LS xs) (hj : j + 5 ≤ LS) (hcl : cells + 36 ≤ 600000) (hsl : slots + 306 ≤ 7302250) (hI : cp_INV E c cnt sh I R X) (hE : cp_xN X = cp_ow I (c + 1) (cp_xN X)) (nx : ∀ cnt' sh' I' R' X', cp_INV E c cnt' sh' I' R' X' → cp_G x E 4 (cells + 36) (slots + 306) cnt' sh' I' R' 645 [some (.ref bS), some (.ref c), some (.ref (c + 331)), some (.int (nI j))] []) : cp_G x E 4 cells slots cnt sh I R 376 [some (.ref bS), some (.ref c), some (.ref (c + 331)), some (.int (nI j))] [] := by
  obtain ⟨Pl, Sl, Sb, Ml, hc, hX, hR⟩ := hI
  have hV := cp_XV_of hR
  have hL25 := hS0.2.2.2
  refine cp_aload_n O dL_law_376 cp_lg1 ?_
  refine cp_aload_n O dL_law_377 cp_lg0 ?_
  refine cp_iload_n O dL_law_378 cp_lg3 ?_
  refine cp_iconst O dL_law_379 (v := 1) rfl ?_
  refine cp_iadd O dL_law_380 ?_
  refine cp_sld O hS0 (j := j + 1) (cp_ad rfl rfl) (by omega) dL_law_381 ?_
  refine cp_cVir O me_X6_count mi_X6_count ml_L_48 cp_cX6 Pl.s (cp_Fr_of (T := fun I' => cp_XR I' R c X ∧ cp_oc c I I') (c_X6_count Pl Sl hV hX hE) ⟨hX, cp_oc.rf⟩) dL_law_382 rfl rfl ⟨Nat.le_of_ble_eq_true rfl, Nat.le_of_ble_eq_true rfl⟩ ⟨by omega, by omega⟩ (Nat.le_of_ble_eq_true rfl) (fun I382 hT382 => ?_)
  obtain ⟨hX1, ho1⟩ := hT382
  refine cp_aload_n O dL_law_385 cp_lg2 ?_
  refine cp_aload_n O dL_law_386 cp_lg0 ?_
  refine cp_iload_n O dL_law_387 cp_lg3 ?_
  refine cp_iconst O dL_law_388 (v := 1) rfl ?_
  refine cp_iadd O dL_law_389 ?_
  refine cp_sld O hS0 (j := j + 1) (cp_ad rfl rfl) (by omega) dL_law_390 ?_
  refine cp_cVir O me_X7_count mi_X7_count ml_L_51 cp_cX7 Ml.s (n_X7_count Ml (cp_MR_oc ho1 hR)) dL_law_391 rfl rfl ⟨Nat.le_of_ble_eq_true rfl, Nat.le_of_ble_eq_true rfl⟩ ⟨by omega, by omega⟩ (Nat.le_of_ble_eq_true rfl) (fun I391 hT391 => ?_)
  refine cp_icmp_eq (tgt := 645) O dL_law_394 (by decide) (fun c_394 => ?_) (fun c_394 => ?_)
  · exact cp_Gc (by omega) (by omega) (nx _ _ _ _ _ (cp_INV_nx Pl Sl Sb Ml hc hX1 hT391))
  · exact absurd rfl c_394
set_option maxHeartbeats 4000000 in
set_option maxRecDepth 100000 in
theorem law_9 {x : cp_Cx} {E : cp_En} {bS LS c j cells slots cnt : Nat} {xs : Nat → Int32} {sh : cp_Shp} {I : cp_Mem} {R : cp_Rem} {X : cp_St} (O : cp_Ok x E RL cL_law 4 13 600000 7302250) (hS0 : cp_scr x E bS LS xs) (hj : j + 5 ≤ LS) (hcl : cells + 36 ≤ 600000) (hsl : slots + 306 ≤ 7302250) (hI : cp_INV E c cnt sh I R X) (hE : cp_xN X = cp_ow I (c + 1) (cp_xN X)) (nx : ∀ cnt' sh' I' R' X', cp_INV E c cnt' sh' I' R' X' → cp_G x E 4 (cells + 36) (slots + 306) cnt' sh' I' R' 645 [some (.ref bS), some (.ref c), some (.ref (c + 331)), some (.int (nI j))] []) : cp_G x E 4 cells slots cnt sh I R 399 [some (.ref bS), some (.ref c), some (.ref (c + 331)), some (.int (nI j))] [] := by
  obtain ⟨Pl, Sl, Sb, Ml, hc, hX, hR⟩ := hI
  have hV := cp_XV_of hR
  have hL25 := hS0.2.2.2
  refine cp_aload_n O dL_law_399 cp_lg1 ?_
  refine cp_aload_n O dL_law_400 cp_lg0 ?_
  refine cp_iload_n O dL_law_401 cp_lg3 ?_
  refine cp_iconst O dL_law_402 (v := 1) rfl ?_
  refine cp_iadd O dL_law_403 ?_
  refine cp_sld O hS0 (j := j + 1) (cp_ad rfl rfl) (by omega) dL_law_404 ?_
  refine cp_aload_n O dL_law_405 cp_lg0 ?_
  refine cp_iload_n O dL_law_406 cp_lg3 ?_
  refine cp_iconst O dL_law_407 (v := 2) rfl ?_
  refine cp_iadd O dL_law_408 ?_
  refine cp_sld O hS0 (j := j + 2) (cp_ad rfl rfl) (by omega) dL_law_409 ?_
  refine cp_cVir O me_X6_why mi_X6_why ml_L_52 cp_cX6 Pl.s (cp_Fr_of (T := fun I' => cp_XR I' R c X ∧ cp_oc c I I') (c_X6_why Pl Sl hV hX hE) ⟨hX, cp_oc.rf⟩) dL_law_410 rfl rfl ⟨Nat.le_of_ble_eq_true rfl, Nat.le_of_ble_eq_true rfl⟩ ⟨by omega, by omega⟩ (Nat.le_of_ble_eq_true rfl) (fun I410 hT410 => ?_)
  obtain ⟨hX1, ho1⟩ := hT410
  refine cp_aload_n O dL_law_413 cp_lg2 ?_
  refine cp_aload_n O dL_law_414 cp_lg0 ?_
  refine cp_iload_n O dL_law_415 cp_lg3 ?_
  refine cp_iconst O dL_law_416 (v := 1) rfl ?_
  refine cp_iadd O dL_law_417 ?_
  refine cp_sld O hS0 (j := j + 1) (cp_ad rfl rfl) (by omega) dL_law_418 ?_
  refine cp_aload_n O dL_law_419 cp_lg0 ?_
  refine cp_iload_n O dL_law_420 cp_lg3 ?_
  refine cp_iconst O dL_law_421 (v := 2) rfl ?_
  refine cp_iadd O dL_law_422 ?_
  refine cp_sld O hS0 (j := j + 2) (cp_ad rfl rfl) (by omega) dL_law_423 ?_
  refine cp_cVir O me_X7_why mi_X7_why ml_L_55 cp_cX7 Ml.s (n_X7_why Ml (cp_MR_oc ho1 hR)) dL_law_424 rfl rfl ⟨Nat.le_of_ble_eq_true rfl, Nat.le_of_ble_eq_true rfl⟩ ⟨by omega, by omega⟩ (Nat.le_of_ble_eq_true rfl) (fun I424 hT424 => ?_)
  refine cp_icmp_eq (tgt := 645) O dL_law_427 (by decide) (fun c_427 => ?_) (fun c_427 => ?_)
  · exact cp_Gc (by omega) (by omega) (nx _ _ _ _ _ (cp_INV_nx Pl Sl Sb Ml hc hX1 hT424))
  · exact absurd rfl c_427
set_option maxHeartbeats 4000000 in
set_option maxRecDepth 100000 in
theorem law_10 {x : cp_Cx} {E : cp_En} {bS LS c j cells slots cnt : Nat} {xs : Nat → Int32} {sh : cp_Shp} {I : cp_Mem} {R : cp_Rem} {X : cp_St} (O : cp_Ok x E RL cL_law 4 13 600000 7302250) (hS0 : cp_scr x E bS LS xs) (hj : j + 5 ≤ LS) (hcl : cells + 36 ≤ 600000) (hsl : slots + 306 ≤ 7302250) (hI : cp_INV E c cnt sh I R X) (hE : cp_xN X = cp_ow I (c + 1) (cp_xN X)) (nx : ∀ cnt' sh' I' R' X', cp_INV E c cnt' sh' I' R' X' → cp_G x E 4 (cells + 36) (slots + 306) cnt' sh' I' R' 645 [some (.ref bS), some (.ref c), some (.ref (c + 331)), some (.int (nI j))] []) : cp_G x E 4 cells slots cnt sh I R 432 [some (.ref bS), some (.ref c), some (.ref (c + 331)), some (.int (nI j))] [] := by
  obtain ⟨Pl, Sl, Sb, Ml, hc, hX, hR⟩ := hI
  have hV := cp_XV_of hR
  have hL25 := hS0.2.2.2
  refine cp_aload_n O dL_law_432 cp_lg1 ?_
  refine cp_cVir O me_X6_plateNow mi_X6_plateNow ml_L_56 cp_cX6 Pl.s (cp_Fr_of (T := fun I' => cp_XR I' R c X ∧ cp_oc c I I') (c_X6_plateNow Pl Sl hV hX hE) ⟨hX, cp_oc.rf⟩) dL_law_433 rfl rfl ⟨Nat.le_of_ble_eq_true rfl, Nat.le_of_ble_eq_true rfl⟩ ⟨by omega, by omega⟩ (Nat.le_of_ble_eq_true rfl) (fun I433 hT433 => ?_)
  obtain ⟨hX1, ho1⟩ := hT433
  refine cp_aload_n O dL_law_436 cp_lg2 ?_
  refine cp_cVir O me_X7_plateNow mi_X7_plateNow ml_L_60 cp_cX7 Ml.s (n_X7_plateNow Ml (cp_MR_oc ho1 hR)) dL_law_437 rfl rfl ⟨Nat.le_of_ble_eq_true rfl, Nat.le_of_ble_eq_true rfl⟩ ⟨by omega, by omega⟩ (Nat.le_of_ble_eq_true rfl) (fun I437 hT437 => ?_)
  refine cp_icmp_eq (tgt := 645) O dL_law_440 (by decide) (fun c_440 => ?_) (fun c_440 => ?_)
  · exact cp_Gc (by omega) (by omega) (nx _ _ _ _ _ (cp_INV_nx Pl Sl Sb Ml hc hX1 hT437))
  · exact absurd rfl c_440
set_option maxHeartbeats 4000000 in
set_option maxRecDepth 100000 in
theorem law_11 {x : cp_Cx} {E : cp_En} {bS LS c j cells slots cnt : Nat} {xs : Nat → Int32} {sh : cp_Shp} {I : cp_Mem} {R : cp_Rem} {X : cp_St} (O : cp_Ok x E RL cL_law 4 13 600000 7302250) (hS0 : cp_scr x E bS LS xs) (hj : j + 5 ≤ LS) (hcl : cells + 36 ≤ 600000) (hsl : slots + 306 ≤ 7302250) (hI : cp_INV E c cnt sh I R X) (hE : cp_xN X = cp_ow I (c + 1) (cp_xN X)) (nx : ∀ cnt' sh' I' R' X', cp_INV E c cnt' sh' I' R' X' → cp_G x E 4 (cells + 36) (slots + 306) cnt' sh' I' R' 645 [some (.ref bS), some (.ref c), some (.ref (c + 331)), some (.int (nI j))] []) : cp_G x E 4 cells slots cnt sh I R 445 [some (.ref bS), some (.ref c), some (.ref (c + 331)), some (.int (nI j))] [] := by
  obtain ⟨Pl, Sl, Sb, Ml, hc, hX, hR⟩ := hI
  have hV := cp_XV_of hR
  have hL25 := hS0.2.2.2
  refine cp_aload_n O dL_law_445 cp_lg1 ?_
  refine cp_aload_n O dL_law_446 cp_lg0 ?_
  refine cp_iload_n O dL_law_447 cp_lg3 ?_
  refine cp_iconst O dL_law_448 (v := 1) rfl ?_
  refine cp_iadd O dL_law_449 ?_
  refine cp_sld O hS0 (j := j + 1) (cp_ad rfl rfl) (by omega) dL_law_450 ?_
  refine cp_cVir O me_X6_readyIn mi_X6_readyIn ml_L_61 cp_cX6 Pl.s (c_X6_readyIn Pl Sl hV hX) dL_law_451 rfl rfl ⟨Nat.le_of_ble_eq_true rfl, Nat.le_of_ble_eq_true rfl⟩ ⟨by omega, by omega⟩ (Nat.le_of_ble_eq_true rfl) (fun I451 hT451 => ?_)
  obtain ⟨hX1, ho1⟩ := hT451
  refine cp_aload_n O dL_law_454 cp_lg2 ?_
  refine cp_aload_n O dL_law_455 cp_lg0 ?_
  refine cp_iload_n O dL_law_456 cp_lg3 ?_
  refine cp_iconst O dL_law_457 (v := 1) rfl ?_
  refine cp_iadd O dL_law_458 ?_
  refine cp_sld O hS0 (j := j + 1) (cp_ad rfl rfl) (by omega) dL_law_459 ?_
  refine cp_cVir O me_X7_readyIn mi_X7_readyIn ml_L_64 cp_cX7 Ml.s (n_X7_readyIn Ml (cp_MR_oc ho1 hR)) dL_law_460 rfl rfl ⟨Nat.le_of_ble_eq_true rfl, Nat.le_of_ble_eq_true rfl⟩ ⟨by omega, by omega⟩ (Nat.le_of_ble_eq_true rfl) (fun I460 hT460 => ?_)
  refine cp_icmp_eq (tgt := 645) O dL_law_463 (by decide) (fun c_463 => ?_) (fun c_463 => ?_)
  · exact cp_Gc (by omega) (by omega) (nx _ _ _ _ _ (cp_INV_nx Pl Sl Sb Ml hc hX1 hT460))
  · exact absurd rfl c_463
set_option maxHeartbeats 4000000 in
set_option maxRecDepth 100000 in
theorem law_12 {x : cp_Cx} {E : cp_En} {bS LS c j cells slots cnt : Nat} {xs : Nat → Int32} {sh : cp_Shp} {I : cp_Mem} {R : cp_Rem} {X : cp_St} (O : cp_Ok x E RL cL_law 4 13 600000 7302250) (hS0 : cp_scr x E bS LS xs) (hj : j + 5 ≤ LS) (hcl : cells + 36 ≤ 600000) (hsl : slots + 306 ≤ 7302250) (hI : cp_INV E c cnt sh I R X) (hE : cp_xN X = cp_ow I (c + 1) (cp_xN X)) (nx : ∀ cnt' sh' I' R' X', cp_INV E c cnt' sh' I' R' X' → cp_G x E 4 (cells + 36) (slots + 306) cnt' sh' I' R' 645 [some (.ref bS), some (.ref c), some (.ref (c + 331)), some (.int (nI j))] []) : cp_G x E 4 cells slots cnt sh I R 468 [some (.ref bS), some (.ref c), some (.ref (c + 331)), some (.int (nI j))] [] := by
  obtain ⟨Pl, Sl, Sb, Ml, hc, hX, hR⟩ := hI
  have hV := cp_XV_of hR
  have hL25 := hS0.2.2.2
  refine cp_aload_n O dL_law_468 cp_lg1 ?_
  refine cp_cVir O me_X6_leastRoom mi_X6_leastRoom ml_L_65 cp_cX6 Pl.s (c_X6_leastRoom Pl Sl hV hX hR.1) dL_law_469 rfl rfl ⟨Nat.le_of_ble_eq_true rfl, Nat.le_of_ble_eq_true rfl⟩ ⟨by omega, by omega⟩ (Nat.le_of_ble_eq_true rfl) (fun I469 hT469 => ?_)
  obtain ⟨hX1, ho1⟩ := hT469
  refine cp_aload_n O dL_law_472 cp_lg2 ?_
  refine cp_cVir O me_X7_leastRoom mi_X7_leastRoom ml_L_68 cp_cX7 Ml.s (n_X7_leastRoom Ml (cp_MR_oc ho1 hR)) dL_law_473 rfl rfl ⟨Nat.le_of_ble_eq_true rfl, Nat.le_of_ble_eq_true rfl⟩ ⟨by omega, by omega⟩ (Nat.le_of_ble_eq_true rfl) (fun I473 hT473 => ?_)
  refine cp_icmp_eq (tgt := 645) O dL_law_476 (by decide) (fun c_476 => ?_) (fun c_476 => ?_)
  · exact cp_Gc (by omega) (by omega) (nx _ _ _ _ _ (cp_INV_nx Pl Sl Sb Ml hc hX1 hT473))
  · exact absurd rfl c_476
set_option maxHeartbeats 4000000 in
set_option maxRecDepth 100000 in
theorem law_13 {x : cp_Cx} {E : cp_En} {bS LS c j cells slots cnt : Nat} {xs : Nat → Int32} {sh : cp_Shp} {I : cp_Mem} {R : cp_Rem} {X : cp_St} (O : cp_Ok x E RL cL_law 4 13 600000 7302250) (hS0 : cp_scr x E bS LS xs) (hj : j + 5 ≤ LS) (hcl : cells + 36 ≤ 600000) (hsl : slots + 306 ≤ 7302250) (hI : cp_INV E c cnt sh I R X) (hE : cp_xN X = cp_ow I (c + 1) (cp_xN X)) (nx : ∀ cnt' sh' I' R' X', cp_INV E c cnt' sh' I' R' X' → cp_G x E 4 (cells + 36) (slots + 306) cnt' sh' I' R' 645 [some (.ref bS), some (.ref c), some (.ref (c + 331)), some (.int (nI j))] []) : cp_G x E 4 cells slots cnt sh I R 481 [some (.ref bS), some (.ref c), some (.ref (c + 331)), some (.int (nI j))] [] := by
  obtain ⟨Pl, Sl, Sb, Ml, hc, hX, hR⟩ := hI
  have hV := cp_XV_of hR
  have hL25 := hS0.2.2.2
  refine cp_aload_n O dL_law_481 cp_lg1 ?_
  refine cp_cVir O me_X6_nextPlate mi_X6_nextPlate ml_L_69 cp_cX6 Pl.s (c_X6_nextPlate Pl Sl hV hX hR.1) dL_law_482 rfl rfl ⟨Nat.le_of_ble_eq_true rfl, Nat.le_of_ble_eq_true rfl⟩ ⟨by omega, by omega⟩ (Nat.le_of_ble_eq_true rfl) (fun I482 hT482 => ?_)
  obtain ⟨hX1, ho1⟩ := hT482
  refine cp_aload_n O dL_law_485 cp_lg2 ?_
  refine cp_cVir O me_X7_nextPlate mi_X7_nextPlate ml_L_72 cp_cX7 Ml.s (n_X7_nextPlate Ml (cp_MR_oc ho1 hR)) dL_law_486 rfl rfl ⟨Nat.le_of_ble_eq_true rfl, Nat.le_of_ble_eq_true rfl⟩ ⟨by omega, by omega⟩ (Nat.le_of_ble_eq_true rfl) (fun I486 hT486 => ?_)
  refine cp_icmp_eq (tgt := 645) O dL_law_489 (by decide) (fun c_489 => ?_) (fun c_489 => ?_)
  · exact cp_Gc (by omega) (by omega) (nx _ _ _ _ _ (cp_INV_nx Pl Sl Sb Ml hc hX1 hT486))
  · exact absurd rfl c_489
set_option maxHeartbeats 4000000 in
set_option maxRecDepth 100000 in
theorem law_14 {x : cp_Cx} {E : cp_En} {bS LS c j cells slots cnt : Nat} {xs : Nat → Int32} {sh : cp_Shp} {I : cp_Mem} {R : cp_Rem} {X : cp_St} (O : cp_Ok x E RL cL_law 4 13 600000 7302250) (hS0 : cp_scr x E bS LS xs) (hj : j + 5 ≤ LS) (hcl : cells + 36 ≤ 600000) (hsl : slots + 306 ≤ 7302250) (hI : cp_INV E c cnt sh I R X) (hE : cp_xN X = cp_ow I (c + 1) (cp_xN X)) (nx : ∀ cnt' sh' I' R' X', cp_INV E c cnt' sh' I' R' X' → cp_G x E 4 (cells + 36) (slots + 306) cnt' sh' I' R' 645 [some (.ref bS), some (.ref c), some (.ref (c + 331)), some (.int (nI j))] []) : cp_G x E 4 cells slots cnt sh I R 494 [some (.ref bS), some (.ref c), some (.ref (c + 331)), some (.int (nI j))] [] := by
  obtain ⟨Pl, Sl, Sb, Ml, hc, hX, hR⟩ := hI
  have hV := cp_XV_of hR
  have hL25 := hS0.2.2.2
  refine cp_aload_n O dL_law_494 cp_lg1 ?_
  refine cp_aload_n O dL_law_495 cp_lg0 ?_
  refine cp_iload_n O dL_law_496 cp_lg3 ?_
  refine cp_iconst O dL_law_497 (v := 1) rfl ?_
  refine cp_iadd O dL_law_498 ?_
  refine cp_sld O hS0 (j := j + 1) (cp_ad rfl rfl) (by omega) dL_law_499 ?_
  refine cp_i2l O dL_law_500 ?_
  refine cp_bipush O dL_law_501 (v := 32) rfl ?_
  refine cp_lshl O dL_law_503 ?_
  refine cp_aload_n O dL_law_504 cp_lg0 ?_
  refine cp_iload_n O dL_law_505 cp_lg3 ?_
  refine cp_iconst O dL_law_506 (v := 2) rfl ?_
  refine cp_iadd O dL_law_507 ?_
  refine cp_sld O hS0 (j := j + 2) (cp_ad rfl rfl) (by omega) dL_law_508 ?_
  refine cp_i2l O dL_law_509 ?_
  refine cp_ldc2 O cl_L_73 dL_law_510 ?_
  refine cp_land O dL_law_513 ?_
  refine cp_lor O dL_law_514 ?_
  obtain ⟨u, hu, eu⟩ := cp_lN_ex (((xs (j + 1)).toInt64 <<< ((32 : Int32).toInt64 &&& 63)) ||| ((xs (j + 2)).toInt64 &&& 4294967295))
  rw [eu]
  refine cp_cVir O me_X6_put mi_X6_put ml_L_75 cp_cX6 Pl.s (c_X6_put Pl Sl hV hX hu) dL_law_515 rfl rfl ⟨Nat.le_of_ble_eq_true rfl, Nat.le_of_ble_eq_true rfl⟩ ⟨by omega, by omega⟩ (Nat.le_of_ble_eq_true rfl) (fun I515 hT515 => ?_)
  obtain ⟨hX1, ho1⟩ := hT515
  refine cp_aload_n O dL_law_518 cp_lg2 ?_
  refine cp_aload_n O dL_law_519 cp_lg0 ?_
  refine cp_iload_n O dL_law_520 cp_lg3 ?_
  refine cp_iconst O dL_law_521 (v := 1) rfl ?_
  refine cp_iadd O dL_law_522 ?_
  refine cp_sld O hS0 (j := j + 1) (cp_ad rfl rfl) (by omega) dL_law_523 ?_
  refine cp_i2l O dL_law_524 ?_
  refine cp_bipush O dL_law_525 (v := 32) rfl ?_
  refine cp_lshl O dL_law_527 ?_
  refine cp_aload_n O dL_law_528 cp_lg0 ?_
  refine cp_iload_n O dL_law_529 cp_lg3 ?_
  refine cp_iconst O dL_law_530 (v := 2) rfl ?_
  refine cp_iadd O dL_law_531 ?_
  refine cp_sld O hS0 (j := j + 2) (cp_ad rfl rfl) (by omega) dL_law_532 ?_
  refine cp_i2l O dL_law_533 ?_
  refine cp_ldc2 O cl_L_73 dL_law_534 ?_
  refine cp_land O dL_law_537 ?_
  refine cp_lor O dL_law_538 ?_
  rw [eu]
  refine cp_cVir O me_X7_put mi_X7_put ml_L_79 cp_cX7 Ml.s (n_X7_put Ml (cp_MR_oc ho1 hR) hu) dL_law_539 rfl rfl ⟨Nat.le_of_ble_eq_true rfl, Nat.le_of_ble_eq_true rfl⟩ ⟨by omega, by omega⟩ (Nat.le_of_ble_eq_true rfl) (fun I539 hT539 => ?_)
  refine cp_icmp_eq (tgt := 645) O dL_law_542 (by decide) (fun c_542 => ?_) (fun c_542 => ?_)
  · exact cp_Gc (by omega) (by omega) (nx _ _ _ _ _ (cp_INV_nx Pl Sl Sb Ml hc hX1 hT539))
  · exact absurd rfl c_542
set_option maxHeartbeats 4000000 in
set_option maxRecDepth 100000 in
theorem law_15 {x : cp_Cx} {E : cp_En} {bS LS c j cells slots cnt : Nat} {xs : Nat → Int32} {sh : cp_Shp} {I : cp_Mem} {R : cp_Rem} {X : cp_St} (O : cp_Ok x E RL cL_law 4 13 600000 7302250) (hS0 : cp_scr x E bS LS xs) (hj : j + 5 ≤ LS) (hcl : cells + 36 ≤ 600000) (hsl : slots + 306 ≤ 7302250) (hI : cp_INV E c cnt sh I R X) (hE : cp_xN X = cp_ow I (c + 1) (cp_xN X)) (nx : ∀ cnt' sh' I' R' X', cp_INV E c cnt' sh' I' R' X' → cp_G x E 4 (cells + 36) (slots + 306) cnt' sh' I' R' 645 [some (.ref bS), some (.ref c), some (.ref (c + 331)), some (.int (nI j))] []) : cp_G x E 4 cells slots cnt sh I R 547 [some (.ref bS), some (.ref c), some (.ref (c + 331)), some (.int (nI j))] [] := by
  obtain ⟨Pl, Sl, Sb, Ml, hc, hX, hR⟩ := hI
  have hV := cp_XV_of hR
  have hL25 := hS0.2.2.2
  refine cp_aload_n O dL_law_547 cp_lg1 ?_
  refine cp_cVir O me_X6_wipe mi_X6_wipe ml_L_80 cp_cX6 Pl.s (c_X6_wipe Pl Sl hV hX) dL_law_548 rfl rfl ⟨Nat.le_of_ble_eq_true rfl, Nat.le_of_ble_eq_true rfl⟩ ⟨by omega, by omega⟩ (Nat.le_of_ble_eq_true rfl) (fun I548 hT548 => ?_)
  obtain ⟨hX1, ho1⟩ := hT548
  refine cp_aload_n O dL_law_551 cp_lg2 ?_
  refine cp_cVir O me_X7_wipe mi_X7_wipe ml_L_83 cp_cX7 Ml.s (n_X7_wipe Ml (cp_MR_oc ho1 hR)) dL_law_552 rfl rfl ⟨Nat.le_of_ble_eq_true rfl, Nat.le_of_ble_eq_true rfl⟩ ⟨by omega, by omega⟩ (Nat.le_of_ble_eq_true rfl) (fun I552 hT552 => ?_)
  refine cp_icmp_eq (tgt := 645) O dL_law_555 (by decide) (fun c_555 => ?_) (fun c_555 => ?_)
  · exact cp_Gc (by omega) (by omega) (nx _ _ _ _ _ (cp_INV_nx Pl Sl Sb Ml hc hX1 hT552))
  · exact absurd rfl c_555
set_option maxHeartbeats 4000000 in
set_option maxRecDepth 100000 in
theorem law_16 {x : cp_Cx} {E : cp_En} {bS LS c j cells slots cnt : Nat} {xs : Nat → Int32} {sh : cp_Shp} {I : cp_Mem} {R : cp_Rem} {X : cp_St} (O : cp_Ok x E RL cL_law 4 13 600000 7302250) (hS0 : cp_scr x E bS LS xs) (hj : j + 5 ≤ LS) (hcl : cells + 36 ≤ 600000) (hsl : slots + 306 ≤ 7302250) (hI : cp_INV E c cnt sh I R X) (hE : cp_xN X = cp_ow I (c + 1) (cp_xN X)) (nx : ∀ cnt' sh' I' R' X', cp_INV E c cnt' sh' I' R' X' → cp_G x E 4 (cells + 36) (slots + 306) cnt' sh' I' R' 645 [some (.ref bS), some (.ref c), some (.ref (c + 331)), some (.int (nI j))] []) : cp_G x E 4 cells slots cnt sh I R 560 [some (.ref bS), some (.ref c), some (.ref (c + 331)), some (.int (nI j))] [] := by
  obtain ⟨Pl, Sl, Sb, Ml, hc, hX, hR⟩ := hI
  have hV := cp_XV_of hR
  have hL25 := hS0.2.2.2
  refine cp_aload_n O dL_law_560 cp_lg1 ?_
  refine cp_cVir O me_X6_fault mi_X6_fault ml_L_84 cp_cX6 Pl.s (c_X6_fault Pl Sl hV hX) dL_law_561 rfl rfl ⟨Nat.le_of_ble_eq_true rfl, Nat.le_of_ble_eq_true rfl⟩ ⟨by omega, by omega⟩ (Nat.le_of_ble_eq_true rfl) (fun I561 hT561 => ?_)
  obtain ⟨hX1, ho1⟩ := hT561
  refine cp_aload_n O dL_law_564 cp_lg2 ?_
  refine cp_cVir O me_X7_fault mi_X7_fault ml_L_87 cp_cX7 Ml.s (n_X7_fault Ml (cp_MR_oc ho1 hR)) dL_law_565 rfl rfl ⟨Nat.le_of_ble_eq_true rfl, Nat.le_of_ble_eq_true rfl⟩ ⟨by omega, by omega⟩ (Nat.le_of_ble_eq_true rfl) (fun I565 hT565 => ?_)
  refine cp_icmp_eq (tgt := 645) O dL_law_568 (by decide) (fun c_568 => ?_) (fun c_568 => ?_)
  · exact cp_Gc (by omega) (by omega) (nx _ _ _ _ _ (cp_INV_nx Pl Sl Sb Ml hc hX1 hT565))
  · exact absurd rfl c_568
set_option maxHeartbeats 4000000 in
set_option maxRecDepth 100000 in
theorem law_17 {x : cp_Cx} {E : cp_En} {bS LS c j cells slots cnt : Nat} {xs : Nat → Int32} {sh : cp_Shp} {I : cp_Mem} {R : cp_Rem} {X : cp_St} (O : cp_Ok x E RL cL_law 4 13 600000 7302250) (hS0 : cp_scr x E bS LS xs) (hj : j + 5 ≤ LS) (hcl : cells + 36 ≤ 600000) (hsl : slots + 306 ≤ 7302250) (hI : cp_INV E c cnt sh I R X) (hE : cp_xN X = cp_ow I (c + 1) (cp_xN X)) (nx : ∀ cnt' sh' I' R' X', cp_INV E c cnt' sh' I' R' X' → cp_G x E 4 (cells + 36) (slots + 306) cnt' sh' I' R' 645 [some (.ref bS), some (.ref c), some (.ref (c + 331)), some (.int (nI j))] []) : cp_G x E 4 cells slots cnt sh I R 573 [some (.ref bS), some (.ref c), some (.ref (c + 331)), some (.int (nI j))] [] := by
  obtain ⟨Pl, Sl, Sb, Ml, hc, hX, hR⟩ := hI
  have hV := cp_XV_of hR
  have hL25 := hS0.2.2.2
  refine cp_aload_n O dL_law_573 cp_lg1 ?_
  refine cp_cVir O me_X6_carryOut mi_X6_carryOut ml_L_88 cp_cX6 Pl.s (c_X6_carryOut Pl Sl hV hX) dL_law_574 rfl rfl ⟨Nat.le_of_ble_eq_true rfl, Nat.le_of_ble_eq_true rfl⟩ ⟨by omega, by omega⟩ (Nat.le_of_ble_eq_true rfl) (fun I574 hT574 => ?_)
  obtain ⟨hX1, ho1⟩ := hT574
  refine cp_aload_n O dL_law_577 cp_lg2 ?_
  refine cp_cVir O me_X7_carryOut mi_X7_carryOut ml_L_91 cp_cX7 Ml.s (n_X7_carryOut Ml (cp_MR_oc ho1 hR)) dL_law_578 rfl rfl ⟨Nat.le_of_ble_eq_true rfl, Nat.le_of_ble_eq_true rfl⟩ ⟨by omega, by omega⟩ (Nat.le_of_ble_eq_true rfl) (fun I578 hT578 => ?_)
  refine cp_icmp_eq (tgt := 645) O dL_law_581 (by decide) (fun c_581 => ?_) (fun c_581 => ?_)
  · exact cp_Gc (by omega) (by omega) (nx _ _ _ _ _ (cp_INV_nx Pl Sl Sb Ml hc hX1 hT578))
  · exact absurd rfl c_581
set_option maxHeartbeats 4000000 in
set_option maxRecDepth 100000 in
theorem law_18 {x : cp_Cx} {E : cp_En} {bS LS c j cells slots cnt : Nat} {xs : Nat → Int32} {sh : cp_Shp} {I : cp_Mem} {R : cp_Rem} {X : cp_St} (O : cp_Ok x E RL cL_law 4 13 600000 7302250) (hS0 : cp_scr x E bS LS xs) (hj : j + 5 ≤ LS) (hcl : cells + 36 ≤ 600000) (hsl : slots + 306 ≤ 7302250) (hI : cp_INV E c cnt sh I R X) (hE : cp_xN X = cp_ow I (c + 1) (cp_xN X)) (nx : ∀ cnt' sh' I' R' X', cp_INV E c cnt' sh' I' R' X' → cp_G x E 4 (cells + 36) (slots + 306) cnt' sh' I' R' 645 [some (.ref bS), some (.ref c), some (.ref (c + 331)), some (.int (nI j))] []) : cp_G x E 4 cells slots cnt sh I R 586 [some (.ref bS), some (.ref c), some (.ref (c + 331)), some (.int (nI j))] [] := by
  obtain ⟨Pl, Sl, Sb, Ml, hc, hX, hR⟩ := hI
  have hV := cp_XV_of hR
  have hL25 := hS0.2.2.2
  refine cp_aload_n O dL_law_586 cp_lg1 ?_
  refine cp_cVir O me_X6_undo mi_X6_undo ml_L_92 cp_cX6 Pl.s (c_X6_undo Pl Sl hV hX) dL_law_587 rfl rfl ⟨Nat.le_of_ble_eq_true rfl, Nat.le_of_ble_eq_true rfl⟩ ⟨by omega, by omega⟩ (Nat.le_of_ble_eq_true rfl) (fun I587 hT587 => ?_)
  obtain ⟨hX1, ho1⟩ := hT587
  refine cp_aload_n O dL_law_590 cp_lg2 ?_
  refine cp_cVir O me_X7_undo mi_X7_undo ml_L_95 cp_cX7 Ml.s (n_X7_undo Ml (cp_MR_oc ho1 hR)) dL_law_591 rfl rfl ⟨Nat.le_of_ble_eq_true rfl, Nat.le_of_ble_eq_true rfl⟩ ⟨by omega, by omega⟩ (Nat.le_of_ble_eq_true rfl) (fun I591 hT591 => ?_)
  refine cp_icmp_eq (tgt := 645) O dL_law_594 (by decide) (fun c_594 => ?_) (fun c_594 => ?_)
  · exact cp_Gc (by omega) (by omega) (nx _ _ _ _ _ (cp_INV_nx Pl Sl Sb Ml hc hX1 hT591))
  · exact absurd rfl c_594
set_option maxHeartbeats 4000000 in
set_option maxRecDepth 100000 in
theorem law_19 {x : cp_Cx} {E : cp_En} {bS LS c j cells slots cnt : Nat} {xs : Nat → Int32} {sh : cp_Shp} {I : cp_Mem} {R : cp_Rem} {X : cp_St} (O : cp_Ok x E RL cL_law 4 13 600000 7302250) (hS0 : cp_scr x E bS LS xs) (hj : j + 5 ≤ LS) (hcl : cells + 36 ≤ 600000) (hsl : slots + 306 ≤ 7302250) (hI : cp_INV E c cnt sh I R X) (hE : cp_xN X = cp_ow I (c + 1) (cp_xN X)) (nx : ∀ cnt' sh' I' R' X', cp_INV E c cnt' sh' I' R' X' → cp_G x E 4 (cells + 36) (slots + 306) cnt' sh' I' R' 645 [some (.ref bS), some (.ref c), some (.ref (c + 331)), some (.int (nI j))] []) : cp_G x E 4 cells slots cnt sh I R 599 [some (.ref bS), some (.ref c), some (.ref (c + 331)), some (.int (nI j))] [] := by
  obtain ⟨Pl, Sl, Sb, Ml, hc, hX, hR⟩ := hI
  have hV := cp_XV_of hR
  have hL25 := hS0.2.2.2
  refine cp_aload_n O dL_law_599 cp_lg1 ?_
  refine cp_aload_n O dL_law_600 cp_lg0 ?_
  refine cp_iload_n O dL_law_601 cp_lg3 ?_
  refine cp_iconst O dL_law_602 (v := 1) rfl ?_
  refine cp_iadd O dL_law_603 ?_
  refine cp_sld O hS0 (j := j + 1) (cp_ad rfl rfl) (by omega) dL_law_604 ?_
  refine cp_callV O me_X6_save mi_X6_save ml_L_96 cp_cX6 Pl.s (c_X6_save Pl Sl Sb hV hX hc) dL_law_605 rfl rfl ⟨Nat.le_of_ble_eq_true rfl, Nat.le_of_ble_eq_true rfl⟩ ⟨by omega, by omega⟩ (Nat.le_of_ble_eq_true rfl) (fun v' cnt1 sh1 I1 R1 hp => ?_)
  obtain ⟨rfl, hX1, Pl1, Sl1, Sb1, hcn, hfr⟩ := hp
  have Ml1 : cp_ML sh1 R1 (c + 331) := cp_ML_e Ml (fun x h1 h2 => ⟨(hfr x (by omega) (by omega)).1, (hfr x (by omega) (by omega)).2.2⟩)
  have hR1 : cp_MR (I1 (c + 331)) (fun k => I1 (c + 331 + k)) X := cp_MR_k hR (hfr _ (by omega) (by omega)).2.1 (fun k h0 h7 => (hfr _ (by omega) (by omega)).2.1)
  refine cp_aload_n O dL_law_608 cp_lg2 ?_
  refine cp_aload_n O dL_law_609 cp_lg0 ?_
  refine cp_iload_n O dL_law_610 cp_lg3 ?_
  refine cp_iconst O dL_law_611 (v := 1) rfl ?_
  refine cp_iadd O dL_law_612 ?_
  refine cp_sld O hS0 (j := j + 1) (cp_ad rfl rfl) (by omega) dL_law_613 ?_
  refine cp_cVir O me_X7_save mi_X7_save ml_L_99 cp_cX7 Ml1.s (n_X7_save Ml1 hR1) dL_law_614 rfl rfl ⟨Nat.le_of_ble_eq_true rfl, Nat.le_of_ble_eq_true rfl⟩ ⟨by omega, by omega⟩ (Nat.le_of_ble_eq_true rfl) (fun I614 hT614 => ?_)
  refine cp_icmp_eq (tgt := 645) O dL_law_617 (by decide) (fun c_617 => ?_) (fun c_617 => ?_)
  · exact cp_Gc (by omega) (by omega) (nx _ _ _ _ _ (cp_INV_nx Pl1 Sl1 Sb1 Ml1 (by omega) hX1 hT614))
  · exact absurd rfl c_617
set_option maxHeartbeats 4000000 in
set_option maxRecDepth 100000 in
theorem law_20 {x : cp_Cx} {E : cp_En} {bS LS c j cells slots cnt : Nat} {xs : Nat → Int32} {sh : cp_Shp} {I : cp_Mem} {R : cp_Rem} {X : cp_St} (O : cp_Ok x E RL cL_law 4 13 600000 7302250) (hS0 : cp_scr x E bS LS xs) (hj : j + 5 ≤ LS) (hcl : cells + 36 ≤ 600000) (hsl : slots + 306 ≤ 7302250) (hI : cp_INV E c cnt sh I R X) (hE : cp_xN X = cp_ow I (c + 1) (cp_xN X)) (nx : ∀ cnt' sh' I' R' X', cp_INV E c cnt' sh' I' R' X' → cp_G x E 4 (cells + 36) (slots + 306) cnt' sh' I' R' 645 [some (.ref bS), some (.ref c), some (.ref (c + 331)), some (.int (nI j))] []) : cp_G x E 4 cells slots cnt sh I R 622 [some (.ref bS), some (.ref c), some (.ref (c + 331)), some (.int (nI j))] [] := by
  obtain ⟨Pl, Sl, Sb, Ml, hc, hX, hR⟩ := hI
  have hV := cp_XV_of hR
  have hL25 := hS0.2.2.2
  refine cp_aload_n O dL_law_622 cp_lg1 ?_
  refine cp_aload_n O dL_law_623 cp_lg0 ?_
  refine cp_iload_n O dL_law_624 cp_lg3 ?_
  refine cp_iconst O dL_law_625 (v := 1) rfl ?_
  refine cp_iadd O dL_law_626 ?_
  refine cp_sld O hS0 (j := j + 1) (cp_ad rfl rfl) (by omega) dL_law_627 ?_
  refine cp_cVir O me_X6_restore mi_X6_restore ml_L_100 cp_cX6 Pl.s (c_X6_restore Pl Sl hV hX) dL_law_628 rfl rfl ⟨Nat.le_of_ble_eq_true rfl, Nat.le_of_ble_eq_true rfl⟩ ⟨by omega, by omega⟩ (Nat.le_of_ble_eq_true rfl) (fun I628 hT628 => ?_)
  obtain ⟨hX1, ho1⟩ := hT628
  refine cp_aload_n O dL_law_631 cp_lg2 ?_
  refine cp_aload_n O dL_law_632 cp_lg0 ?_
  refine cp_iload_n O dL_law_633 cp_lg3 ?_
  refine cp_iconst O dL_law_634 (v := 1) rfl ?_
  refine cp_iadd O dL_law_635 ?_
  refine cp_sld O hS0 (j := j + 1) (cp_ad rfl rfl) (by omega) dL_law_636 ?_
  refine cp_cVir O me_X7_restore mi_X7_restore ml_L_103 cp_cX7 Ml.s (n_X7_restore Ml (cp_MR_oc ho1 hR)) dL_law_637 rfl rfl ⟨Nat.le_of_ble_eq_true rfl, Nat.le_of_ble_eq_true rfl⟩ ⟨by omega, by omega⟩ (Nat.le_of_ble_eq_true rfl) (fun I637 hT637 => ?_)
  refine cp_icmp_eq (tgt := 645) O dL_law_640 (by decide) (fun c_640 => ?_) (fun c_640 => ?_)
  · exact cp_Gc (by omega) (by omega) (nx _ _ _ _ _ (cp_INV_nx Pl Sl Sb Ml hc hX1 hT637))
  · exact absurd rfl c_640
