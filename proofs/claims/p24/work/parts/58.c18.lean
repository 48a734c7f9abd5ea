/-- the memory holds the night Z at b -/
abbrev cp_ow (I : cp_Mem) (b : Nat) (Z : cp_Nt) : cp_Nt := (I (b + 1), cp_tm Z, cp_tn Z, (fun i => I (b + 3 + i)), cp_tp Z, (fun j => I (b + 28 + j)), cp_tl Z)
def cp_HN (I : cp_Mem) (b : Nat) (Z : cp_Nt) : Prop := I b 1 = nI (cp_tm Z) ∧ I b 3 = nI (cp_tn Z) ∧ I b 5 = nI (cp_tp Z) ∧ cp_tp Z ≤ 8 ∧ cp_AN (cp_ow I b Z) Z ∧ cp_LT (cp_tm Z) (fun i => I (b + 3 + i)) (cp_tl Z)
def cp_out (b : Nat) (I I' : cp_Mem) : Prop := ∀ x, (x < b ∨ b + 36 ≤ x) → I' x = I x
theorem cp_out.rf {b : Nat} {I : cp_Mem} : cp_out b I I := fun _ _ => rfl
theorem cp_out.tr {b : Nat} {I I' I'' : cp_Mem} (h : cp_out b I I') (g : cp_out b I' I'') : cp_out b I I'' := fun x hx => (g x hx).trans (h x hx)
theorem cp_LT_P {m : Nat} {P P' : cp_PP} {l : List Nat} (h : cp_LT m P l) (e : ∀ i, i ∈ l → P' i 9 = P i 9) : cp_LT m P' l := cp_LB_LT.mp (cp_LB_P (cp_LB_LT.mpr h) e)
theorem cp_HN_fin {J : cp_Mem} {b : Nat} {o S : Nat → Int32} {P Q : cp_PP} {mi n np : Nat} {lq : List Nat} {Z : cp_Nt} (h1 : o 1 = nI mi) (h3 : o 3 = nI n) (h5 : o 5 = nI np) (hn : n ≤ 24) (hl : ∀ i, i ∈ lq → i < n) (h8 : np ≤ 8) (hA : cp_AN (S, mi, n, P, np, Q, lq) Z) (hL : cp_LT mi P lq) : cp_HN (cp_nn J b o S P Q) b Z ∧ cp_out b J (cp_nn J b o S P Q) := by
  refine ⟨?_, fun x hx => cp_nn_x _ _ _ _ _ _ hx⟩
  obtain ⟨a1, a2, a3, a4, a5, a6, a7⟩ := id hA
  have a2 : mi = cp_tm Z := a2
  have a3 : n = cp_tn Z := a3
  have a5 : np = cp_tp Z := a5
  have a7 : lq = cp_tl Z := a7
  subst a2 a3 a5 a7
  refine ⟨by rw [cp_nn_o]; exact h1, by rw [cp_nn_o]; exact h3, by rw [cp_nn_o]; exact h5, h8, ⟨fun k hk => ?_, rfl, rfl, fun i hi f hf => ?_, rfl, fun j hj f hf => ?_, rfl⟩, cp_LT_P hL fun i hi => ?_⟩
  · show cp_nn J b o S P Q (b + 1) k = _
    rw [cp_nn_S]; exact a1 k hk
  · have hi : i < cp_tn Z := hi
    show cp_nn J b o S P Q (b + 3 + i) f = _
    rw [cp_nn_P _ _ _ _ _ _ (by omega)]; exact a4 i hi f hf
  · have hj : j < cp_tp Z := hj
    show cp_nn J b o S P Q (b + 28 + j) f = _
    rw [cp_nn_Q _ _ _ _ _ _ (by omega)]; exact a6 j hj f hf
  · have := hl i hi
    show cp_nn J b o S P Q (b + 3 + i) 9 = _
    rw [cp_nn_P _ _ _ _ _ _ (by omega)]
theorem cp_HN_o {I I' : cp_Mem} {b : Nat} {Z : cp_Nt} (h : cp_HN I b Z) (e : ∀ x, b ≤ x → x < b + 36 → I' x = I x) (hn : cp_tn Z ≤ 24) (hl : ∀ i, i ∈ cp_tl Z → i < cp_tn Z) : cp_HN I' b Z := by
  obtain ⟨h1, h3, h5, h8, ⟨a1, _, _, a4, _, a6, _⟩, hL⟩ := h
  refine ⟨by rw [e b (by omega) (by omega)]; exact h1, by rw [e b (by omega) (by omega)]; exact h3, by rw [e b (by omega) (by omega)]; exact h5, h8, ⟨fun k hk => ?_, rfl, rfl, fun i hi f hf => ?_, rfl, fun j hj f hf => ?_, rfl⟩, cp_LT_P hL fun i hi => ?_⟩
  · show I' (b + 1) k = _
    rw [e (b + 1) (by omega) (by omega)]; exact a1 k hk
  · have hi : i < cp_tn Z := hi
    show I' (b + 3 + i) f = _
    rw [e (b + 3 + i) (by omega) (by omega)]; exact a4 i hi f hf
  · have hj : j < cp_tp Z := hj
    show I' (b + 28 + j) f = _
    rw [e (b + 28 + j) (by omega) (by omega)]; exact a6 j hj f hf
  · have := hl i hi
    show I' (b + 3 + i) 9 = _
    rw [e (b + 3 + i) (by omega) (by omega)]
theorem cp_NV_l {Z : cp_Nt} (h : cp_PV (cp_tn Z) (cp_tP Z) (cp_tl Z)) : ∀ i, i ∈ cp_tl Z → i < cp_tn Z := fun i hi => ((h.2.2.2 i).mp hi).1
/-- what a minute asks of a night -/
def cp_NU (Z : cp_Nt) : Prop := cp_SV (cp_tS Z) ∧ cp_tm Z < 50000 ∧ cp_PV (cp_tn Z) (cp_tP Z) (cp_tl Z) ∧ cp_PN (cp_tn Z) (cp_tP Z)
theorem cp_NU_V {Z : cp_Nt} (h : cp_NV Z) : cp_NU Z := ⟨h.1, by have := h.2.1; omega, h.2.2.1, h.2.2.2.1⟩
theorem cp_NU_min {Z : cp_Nt} (h : cp_NU Z) (hm : cp_tm Z + 1 < 50000) : cp_NU (cp_sMin Z).2 := by
  obtain ⟨h1, h2, h3, h4⟩ := h
  cases hd : cp_du (cp_tp Z) (cp_tQ Z) (nI (cp_tm Z)) with
  | none =>
    rw [cp_sMin_0 hd]
    exact ⟨h1, hm, cp_PV_wk h3, cp_PN_wk h4 h1 (by omega)⟩
  | some j =>
    rw [cp_sMin_1 hd]
    exact ⟨h1, hm, cp_PV_wk h3, cp_PN_wk h4 h1 (by omega)⟩
theorem cp_P2_a {n mi s0 : Nat} {S : Nat → Int32} {P : cp_PP} {lq : List Nat} (hV : cp_PV n P lq) (hPN : cp_PN n P) (hL : cp_LT mi P lq) (hmi : mi < 100000) (hS : S 0 = nI s0) :
    cp_AP n (cp_P2 S (nI mi) s0 n P lq) (cp_wk S (nI mi) n (P, lq)).1 ∧ cp_LT (mi + 1) (cp_P2 S (nI mi) s0 n P lq) (cp_wk S (nI mi) n (P, lq)).2 ∧ ∀ i, i ∈ (cp_wk S (nI mi) n (P, lq)).2 → i < n := by
  obtain ⟨h1, h2⟩ := cp_eP_a hV hPN hL hmi hS
  have h3 := cp_PV_eds (S := S) (mi := nI mi) hV 5
  obtain ⟨g1, g2⟩ := cp_rd_c (S := S) (S' := S) (mi := nI mi) (l := (cp_eds S (nI mi) n 5 (P, lq)).2) cp_AS.rf h1 (fun i hi => ((h3.2.2.2 i).mp hi).1)
  have h4 := cp_rd_LT (S := S) (mi := nI mi) h2
  rw [← g2] at h4
  exact ⟨g1.sy, h4, fun i hi => (((cp_PV_wk (S := S) (mi := nI mi) hV).2.2.2 i).mp hi).1⟩
theorem cp_pw9 {P : cp_PP} {l : List Nat} : (∀ i j, i < j → j < l.length → P (l.getD i 0) 9 < P (l.getD j 0) 9) ↔ l.Pairwise (fun a c => P a 9 < P c 9) := by
  rw [List.pairwise_iff_getElem]
  constructor
  · intro h i j hi hj hij
    have g := h i j hij hj
    rw [cp_gD hi, cp_gD hj] at g
    exact g
  · intro h i j hij hj
    rw [cp_gD (show i < l.length by omega), cp_gD hj]
    exact h i j (by omega) hj hij
theorem cp_LT_er {m p : Nat} {P : cp_PP} {l : List Nat} (h : cp_LT m P l) : cp_LT m P (l.erase p) := ⟨cp_pw9.mpr ((cp_pw9.mp h.1).sublist List.erase_sublist), fun i hi => h.2 i (List.mem_of_mem_erase hi)⟩
theorem h_X1_passMinute {lc : Launch} {E : cp_En} {cnt : Nat} {sh : cp_Shp} {R : cp_Rem} {I : cp_Mem} {b : Nat} (N : cp_NL sh R b) {Z : cp_Nt} (hU : cp_NU Z) (hH : cp_HN I b Z) : cp_Fr lc E yX1_passMinute cX1_passMinute 2 (some .boolean) 3 [.ref b] cnt sh I R (some (.int (cp_bi (cp_du (cp_tp Z) (cp_tQ Z) (nI (cp_tm Z))).isSome))) (fun I' => cp_HN I' b (cp_sMin Z).2 ∧ cp_out b I I') := by
  obtain ⟨h1, h3, h5, h8, hA, hL⟩ := id hH
  obtain ⟨u1, u2, u3, u4⟩ := id hU
  have v3 : cp_PV (cp_tn Z) (fun i => I (b + 3 + i)) (cp_tl Z) := cp_PV_c u3 hA.sy.2.2.2.1
  have v4 : cp_PN (cp_tn Z) (fun i => I (b + 3 + i)) := cp_PN_c u4 hA.sy.2.2.2.1
  obtain ⟨s0, hs1, hs20, hs0⟩ := u1.1
  have e0 : I (b + 1) 0 = nI s0 := (hA.1 0 (by decide)).trans hs0
  have ed : cp_du (cp_tp Z) (fun j => I (b + 28 + j)) (nI (cp_tm Z)) = cp_du (cp_tp Z) (cp_tQ Z) (nI (cp_tm Z)) := cp_du_c hA.2.2.2.2.2.1
  have hc := cp_sMin_c (N := cp_ow I b Z) v3 hA
  obtain ⟨p1, p2, p3⟩ := cp_P2_a v3 v4 hL (by omega) e0
  cases hd : cp_du (cp_tp Z) (fun j => I (b + 28 + j)) (nI (cp_tm Z)) with
  | none =>
    have g := c_X1_passMinute_0 (lc := lc) (E := E) (cnt := cnt) (J := I) (b := b) (o := I b) (S := I (b + 1)) (P := fun i => I (b + 3 + i)) (Q := fun j => I (b + 28 + j)) N h1 (by omega) h3 h5 h8 v3 v4 hL e0 hs20 hd
    rw [cp_nn_self] at g
    refine cp_Fr_mono (cp_Fr_of (T := fun I' => cp_HN I' b (cp_sMin Z).2 ∧ cp_out b I I') g ?_) (by rw [← ed, hd]; rfl) (fun _ z => z)
    refine cp_HN_fin (lq := (cp_wk (I (b + 1)) (nI (cp_tm Z)) (cp_tn Z) (fun i => I (b + 3 + i), cp_tl Z)).2) cp_upd_s ((cp_upd_n (by decide)).trans h3) ((cp_upd_n (by decide)).trans h5) v3.1 p3 h8 (cp_AN.tr ?_ hc.2) p2
    rw [cp_sMin_0 (N := cp_ow I b Z) hd]
    exact cp_AN_i cp_AS.rf p1 cp_AQ.rf
  | some j =>
    have g := c_X1_passMinute_1 (lc := lc) (E := E) (cnt := cnt) (J := I) (b := b) (o := I b) (S := I (b + 1)) (P := fun i => I (b + 3 + i)) (Q := fun j => I (b + 28 + j)) N h1 (by omega) h3 h5 h8 v3 v4 hL e0 hs20 hd
    rw [cp_nn_self] at g
    refine cp_Fr_mono (cp_Fr_of (T := fun I' => cp_HN I' b (cp_sMin Z).2 ∧ cp_out b I I') g ?_) (by rw [← ed, hd]; rfl) (fun _ z => z)
    refine cp_HN_fin (lq := (cp_wk (I (b + 1)) (nI (cp_tm Z)) (cp_tn Z) (fun i => I (b + 3 + i), cp_tl Z)).2) cp_upd_s ((cp_upd_n (by decide)).trans h3) ((cp_upd_n (by decide)).trans h5) v3.1 p3 h8 (cp_AN.tr ?_ hc.2) p2
    rw [cp_sMin_1 (N := cp_ow I b Z) hd]
    have et : cp_tn2 (I (b + 1)) (cp_tn Z) (cp_P2 (I (b + 1)) (nI (cp_tm Z)) s0 (cp_tn Z) (fun i => I (b + 3 + i)) (cp_tl Z)) = cp_tn2 (I (b + 1)) (cp_tn Z) (cp_wk (I (b + 1)) (nI (cp_tm Z)) (cp_tn Z) (fun i => I (b + 3 + i), cp_tl Z)).1 := by
      unfold cp_tn2
      rw [cp_tk_c p1]
    rw [et]
    exact cp_AN_i cp_AS.rf p1 cp_AQ.rf
theorem cp_sSet_k (N : cp_Nt) (s v : Int32) : (cp_sSet N s v).2 = (cp_tS (cp_sSet N s v).2, N.2) := by
  unfold cp_sSet
  split <;> rfl
theorem cp_sHold_k (N : cp_Nt) (v : Int32) : (cp_sHold N v).2 = (cp_tS N, cp_tm N, cp_tn N, cp_tP (cp_sHold N v).2, cp_tp N, cp_tQ N, cp_tl N) := by
  unfold cp_sHold
  split
  · split <;> rfl
  · rfl
theorem cp_sHold_9 (N : cp_Nt) (v : Int32) (i : Nat) : cp_tP (cp_sHold N v).2 i 9 = cp_tP N i 9 := by
  unfold cp_sHold
  split
  · split
    · rfl
    · exact cp_wi_j _ _ _ _ (fun z => absurd z.2 (by decide))
  · rfl
theorem cp_sPiece_k (N : cp_Nt) (d l r g : Int32) : (cp_sPiece N d l r g).2 = (cp_tS N, cp_tm N, cp_tn (cp_sPiece N d l r g).2, cp_tP (cp_sPiece N d l r g).2, cp_tp N, cp_tQ N, cp_tl N) ∧ cp_tn N ≤ cp_tn (cp_sPiece N d l r g).2 := by
  unfold cp_sPiece
  split
  · split
    · split
      · exact ⟨rfl, Nat.le_refl _⟩
      · exact ⟨rfl, Nat.le_succ _⟩
    · exact ⟨rfl, Nat.le_refl _⟩
  · exact ⟨rfl, Nat.le_refl _⟩
theorem cp_sPlate_k (N : cp_Nt) (v : Int32) : (cp_sPlate N v).2 = (cp_tS N, cp_tm N, cp_tn N, cp_tP N, cp_tp (cp_sPlate N v).2, cp_tQ (cp_sPlate N v).2, cp_tl N) ∧ (cp_tp N ≤ 8 → cp_tp (cp_sPlate N v).2 ≤ 8) := by
  unfold cp_sPlate
  split
  · split
    · exact ⟨rfl, fun h => h⟩
    · cases cp_du (cp_tp N) (cp_tQ N) v with
      | none => exact ⟨rfl, fun h => by show cp_tp N + 1 ≤ 8; omega⟩
      | some j => exact ⟨rfl, fun h => h⟩
  · exact ⟨rfl, fun h => h⟩
theorem cp_sKill_k (N : cp_Nt) (v : Int32) : (cp_sKill N v).2 = (cp_tS N, cp_tm N, cp_tn N, cp_tP (cp_sKill N v).2, cp_tp (cp_sKill N v).2, cp_tQ (cp_sKill N v).2, cp_tl (cp_sKill N v).2) ∧ (cp_tp N ≤ 8 → cp_tp (cp_sKill N v).2 ≤ 8) ∧ (∀ i, cp_tP (cp_sKill N v).2 i 9 = cp_tP N i 9) ∧ (cp_tl (cp_sKill N v).2 = cp_tl N ∨ ∃ p, cp_tl (cp_sKill N v).2 = (cp_tl N).erase p) := by
  unfold cp_sKill
  split
  · split
    · exact ⟨rfl, fun h => h, fun _ => rfl, Or.inl rfl⟩
    · split
      · rename_i h1 h2 h3
        refine ⟨rfl, fun h => ?_, fun _ => cp_wi_j _ _ _ _ (fun z => absurd z.2 (by decide)), Or.inr ⟨_, rfl⟩⟩
        unfold cp_kc at h3
        rw [Bool.and_eq_true, Bool.and_eq_true, decide_eq_true_iff] at h3
        have h4 := h3.1.2
        show cp_tp N + 1 ≤ 8
        omega
      · exact ⟨rfl, fun h => h, fun _ => cp_wi_j _ _ _ _ (fun z => absurd z.2 (by decide)), Or.inr ⟨_, rfl⟩⟩
  · exact ⟨rfl, fun h => h, fun _ => rfl, Or.inl rfl⟩
theorem h_X1_changeSetting {lc : Launch} {E : cp_En} {cnt : Nat} {sh : cp_Shp} {R : cp_Rem} {I : cp_Mem} {b : Nat} (N : cp_NL sh R b) {Z : cp_Nt} (hV : cp_NV Z) (hH : cp_HN I b Z) {v1 v2 : Int32} : cp_Fr lc E yX1_changeSetting cX1_changeSetting 4 (some .int) 0 [.ref b, .int v1, .int v2] cnt sh I R (some (.int ((cp_sSet Z v1 v2).1))) (fun I' => cp_HN I' b (cp_sSet Z v1 v2).2 ∧ cp_out b I I') := by
  obtain ⟨h1, h3, h5, h8, hA, hL⟩ := id hH
  have hn := hV.2.2.1.1
  have hc := cp_sSet_c (s := v1) (v := v2) hA
  have hVo := cp_NV_c hV hA.sy
  have g := c_X1_changeSetting (lc := lc) (E := E) (cnt := cnt) (J := I) (b := b) (o := I b) (S := I (b + 1)) (P := fun i => I (b + 3 + i)) (Q := fun j => I (b + 28 + j)) (n := cp_tn Z) (mi := cp_tm Z) (np := cp_tp Z) (lq := cp_tl Z) (v1 := v1) (v2 := v2) N
  rw [cp_nn_self] at g
  refine cp_Fr_mono (cp_Fr_of (T := fun I' => cp_HN I' b (cp_sSet Z v1 v2).2 ∧ cp_out b I I') g ?_) (by rw [← hc.1]) (fun _ z => z)
  have hk := cp_sSet_k (cp_ow I b Z) v1 v2
  refine cp_HN_fin (lq := cp_tl Z) h1 h3 h5 hn (cp_NV_l hV.2.2.1) h8 (cp_AN.tr ?_ hc.2) hL
  rw [hk]
  exact cp_AN.rf
theorem h_X1_turnHold {lc : Launch} {E : cp_En} {cnt : Nat} {sh : cp_Shp} {R : cp_Rem} {I : cp_Mem} {b : Nat} (N : cp_NL sh R b) {Z : cp_Nt} (hV : cp_NV Z) (hH : cp_HN I b Z) {v1 : Int32} : cp_Fr lc E yX1_turnHold cX1_turnHold 3 (some .int) 1 [.ref b, .int v1] cnt sh I R (some (.int ((cp_sHold Z v1).1))) (fun I' => cp_HN I' b (cp_sHold Z v1).2 ∧ cp_out b I I') := by
  obtain ⟨h1, h3, h5, h8, hA, hL⟩ := id hH
  have hn := hV.2.2.1.1
  have hc := cp_sHold_c (N := cp_ow I b Z) (v := v1) (cp_NV_c hV hA.sy) hA
  have hVo := cp_NV_c hV hA.sy
  have g := c_X1_turnHold (lc := lc) (E := E) (cnt := cnt) (J := I) (b := b) (o := I b) (S := I (b + 1)) (P := fun i => I (b + 3 + i)) (Q := fun j => I (b + 28 + j)) (n := cp_tn Z) (mi := cp_tm Z) (np := cp_tp Z) (lq := cp_tl Z) (v1 := v1) N h3 hn (fun i hi => (hVo.2.2.2.1 i hi).2.2.2.1)
  rw [cp_nn_self] at g
  refine cp_Fr_mono (cp_Fr_of (T := fun I' => cp_HN I' b (cp_sHold Z v1).2 ∧ cp_out b I I') g ?_) (by rw [← hc.1]) (fun _ z => z)
  have hk := cp_sHold_k (cp_ow I b Z) v1
  refine cp_HN_fin (lq := cp_tl Z) h1 h3 h5 hn (cp_NV_l hV.2.2.1) h8 (cp_AN.tr ?_ hc.2) (cp_LT_P hL fun i _ => cp_sHold_9 (cp_ow I b Z) v1 i)
  rw [hk]
  exact cp_AN.rf
theorem h_X1_addPiece {lc : Launch} {E : cp_En} {cnt : Nat} {sh : cp_Shp} {R : cp_Rem} {I : cp_Mem} {b : Nat} (N : cp_NL sh R b) {Z : cp_Nt} (hV : cp_NV Z) (hH : cp_HN I b Z) {v1 v2 v3 v4 : Int32} : cp_Fr lc E yX1_addPiece cX1_addPiece 6 (some .int) 1 [.ref b, .int v1, .int v2, .int v3, .int v4] cnt sh I R (some (.int ((cp_sPiece Z v1 v2 v3 v4).1))) (fun I' => cp_HN I' b (cp_sPiece Z v1 v2 v3 v4).2 ∧ cp_out b I I') := by
  obtain ⟨h1, h3, h5, h8, hA, hL⟩ := id hH
  have hn := hV.2.2.1.1
  have hc := cp_sPiece_c (d := v1) (l := v2) (r := v3) (g := v4) hA
  have hVo := cp_NV_c hV hA.sy
  have g := c_X1_addPiece (lc := lc) (E := E) (cnt := cnt) (J := I) (b := b) (o := I b) (S := I (b + 1)) (P := fun i => I (b + 3 + i)) (Q := fun j => I (b + 28 + j)) (n := cp_tn Z) (mi := cp_tm Z) (np := cp_tp Z) (lq := cp_tl Z) (v1 := v1) (v2 := v2) (v3 := v3) (v4 := v4) N h3 hn
  rw [cp_nn_self] at g
  refine cp_Fr_mono g (by rw [← hc.1]) (fun I' z => ?_)
  obtain ⟨o', P', rfl, z3, zo, zP, z9⟩ := z
  obtain ⟨hk, hk2⟩ := cp_sPiece_k (cp_ow I b Z) v1 v2 v3 v4
  have hVs := (cp_NV_piece (d := v1) (l := v2) (r := v3) (g := v4) hVo).2.2.1.1
  refine cp_HN_fin (lq := cp_tl Z) ((zo 1 (by decide)).trans h1) z3 ((zo 5 (by decide)).trans h5) hVs (fun i hi => Nat.lt_of_lt_of_le (cp_NV_l hV.2.2.1 i hi) hk2) h8 (cp_AN.tr ?_ hc.2) (cp_LT_P hL fun i hi => by rw [z9 i (cp_NV_l hV.2.2.1 i hi)])
  rw [hk]
  exact cp_AN_i cp_AS.rf zP cp_AQ.rf
theorem h_X1_addPlate {lc : Launch} {E : cp_En} {cnt : Nat} {sh : cp_Shp} {R : cp_Rem} {I : cp_Mem} {b : Nat} (N : cp_NL sh R b) {Z : cp_Nt} (hV : cp_NV Z) (hH : cp_HN I b Z) {v1 : Int32} : cp_Fr lc E yX1_addPlate cX1_addPlate 2 (some .int) 2 [.ref b, .int v1] cnt sh I R (some (.int ((cp_sPlate Z v1).1))) (fun I' => cp_HN I' b (cp_sPlate Z v1).2 ∧ cp_out b I I') := by
  obtain ⟨h1, h3, h5, h8, hA, hL⟩ := id hH
  have hn := hV.2.2.1.1
  have hc := cp_sPlate_c (v := v1) hA
  have hVo := cp_NV_c hV hA.sy
  have hm := hV.2.1
  have g := c_X1_addPlate (lc := lc) (E := E) (cnt := cnt) (J := I) (b := b) (o := I b) (S := I (b + 1)) (P := fun i => I (b + 3 + i)) (Q := fun j => I (b + 28 + j)) (n := cp_tn Z) (mi := cp_tm Z) (np := cp_tp Z) (lq := cp_tl Z) (v1 := v1) N h1 (by omega) h5 h8 (fun j hj => (hVo.2.2.2.2.2 j hj).1)
  rw [cp_nn_self] at g
  refine cp_Fr_mono g (by rw [← hc.1]) (fun I' z => ?_)
  obtain ⟨o', Q', rfl, z5, zo, zQ⟩ := z
  obtain ⟨hk, hk2⟩ := cp_sPlate_k (cp_ow I b Z) v1
  refine cp_HN_fin (lq := cp_tl Z) ((zo 1 (by decide)).trans h1) ((zo 3 (by decide)).trans h3) z5 hn (cp_NV_l hV.2.2.1) (hk2 h8) (cp_AN.tr ?_ hc.2) hL
  rw [hk]
  exact cp_AN_i cp_AS.rf cp_AP.rf zQ
theorem h_X1_killPiece {lc : Launch} {E : cp_En} {cnt : Nat} {sh : cp_Shp} {R : cp_Rem} {I : cp_Mem} {b : Nat} (N : cp_NL sh R b) {Z : cp_Nt} (hV : cp_NV Z) (hH : cp_HN I b Z) {v1 : Int32} : cp_Fr lc E yX1_killPiece cX1_killPiece 3 (some .int) 4 [.ref b, .int v1] cnt sh I R (some (.int ((cp_sKill Z v1).1))) (fun I' => cp_HN I' b (cp_sKill Z v1).2 ∧ cp_out b I I') := by
  obtain ⟨h1, h3, h5, h8, hA, hL⟩ := id hH
  have hn := hV.2.2.1.1
  have hc := cp_sKill_c (N := cp_ow I b Z) (v := v1) (cp_NV_c hV hA.sy) hA
  have hVo := cp_NV_c hV hA.sy
  have hm := hV.2.1
  obtain ⟨e, he1, he2, he3⟩ := hVo.1.2.2.2
  have g := c_X1_killPiece (lc := lc) (E := E) (cnt := cnt) (J := I) (b := b) (o := I b) (S := I (b + 1)) (P := fun i => I (b + 3 + i)) (Q := fun j => I (b + 28 + j)) (n := cp_tn Z) (mi := cp_tm Z) (np := cp_tp Z) (lq := cp_tl Z) (v1 := v1) N h1 (by omega) h3 hn h5 h8 hVo.2.2.2.2 he3 he2
  rw [cp_nn_self] at g
  refine cp_Fr_mono g (by rw [← hc.1]) (fun I' z => ?_)
  obtain ⟨o', Q', rfl, z5, zo, zQ⟩ := z
  obtain ⟨hk, hk2, hk3, hk4⟩ := cp_sKill_k (cp_ow I b Z) v1
  have hl9 : cp_LT (cp_tm Z) (cp_tP (cp_sKill (cp_ow I b Z) v1).2) (cp_tl (cp_sKill (cp_ow I b Z) v1).2) := by
    rcases hk4 with e | ⟨p, e⟩
    · rw [e]; exact cp_LT_P hL fun i _ => hk3 i
    · rw [e]; exact cp_LT_P (cp_LT_er hL) fun i _ => hk3 i
  have hls : ∀ i, i ∈ cp_tl (cp_sKill (cp_ow I b Z) v1).2 → i < cp_tn Z := fun i hi => by
    rcases hk4 with e | ⟨p, e⟩
    · rw [e] at hi; exact cp_NV_l hV.2.2.1 i hi
    · rw [e] at hi; exact cp_NV_l hV.2.2.1 i (List.mem_of_mem_erase hi)
  refine cp_HN_fin (lq := cp_tl (cp_sKill (cp_ow I b Z) v1).2) ((zo 1 (by decide)).trans h1) ((zo 3 (by decide)).trans h3) z5 hn hls (hk2 h8) (cp_AN.tr ?_ hc.2) hl9
  conv => rhs; rw [hk]
  exact cp_AN_i cp_AS.rf cp_AP.rf zQ

