def cp_c4 (a b : Nat → Int32) : Nat → Int32 := fun j => if j < 420 then a j else b j
theorem cp_c4_13 (r : cp_PP) (a : Nat → Int32) : cp_cp420 (cp_row r 1 a) 1 3 420 = cp_row (cp_row r 3 (cp_c4 a (r 3))) 1 a := by
  funext q j
  unfold cp_cp420 cp_row cp_c4
  by_cases h3 : q = 3
  · subst h3
    by_cases hj : j < 420 <;> simp [hj]
  · by_cases h1 : q = 1
    · subst h1; simp
    · simp [h3, h1]
theorem cp_c4_31 (r : cp_PP) (a : Nat → Int32) : cp_cp420 (cp_row r 1 a) 3 1 420 = cp_row r 1 (cp_c4 (r 3) a) := by
  funext q j
  unfold cp_cp420 cp_row cp_c4
  by_cases h1 : q = 1
  · subst h1
    by_cases hj : j < 420 <;> simp [hj]
  · simp [h1]
theorem cp_c4_back {a a1 : Nat → Int32} {b : Nat → Int32} (h : ∀ x, 420 ≤ x → a1 x = a x) : cp_c4 (cp_c4 a b) a1 = a := by
  funext j
  unfold cp_c4
  by_cases hj : j < 420
  · rw [if_pos hj, if_pos hj]
  · rw [if_neg hj]; exact h j (by omega)
/-- k minutes of work: at one and the same minute; from a minute on -/
def cp_wks (S : Nat → Int32) (mi : Int32) (n : Nat) : Nat → cp_PP × List Nat → cp_PP × List Nat
  | 0, w => w
  | k + 1, w => cp_wk S mi n (cp_wks S mi n k w)
def cp_wkm (S : Nat → Int32) (mi : Nat) (n : Nat) : Nat → cp_PP × List Nat → cp_PP × List Nat
  | 0, w => w
  | k + 1, w => cp_wk S (nI (mi + k)) n (cp_wkm S mi n k w)
theorem cp_PV_wks {n : Nat} {P : cp_PP} {lq : List Nat} {S : Nat → Int32} {mi : Int32} (h : cp_PV n P lq) : ∀ k, cp_PV n (cp_wks S mi n k (P, lq)).1 (cp_wks S mi n k (P, lq)).2
  | 0 => h
  | k + 1 => cp_PV_wk (P := (cp_wks S mi n k (P, lq)).1) (lq := (cp_wks S mi n k (P, lq)).2) (cp_PV_wks h k)
theorem cp_PV_wkm {n : Nat} {P : cp_PP} {lq : List Nat} {S : Nat → Int32} {mi : Nat} (h : cp_PV n P lq) : ∀ k, cp_PV n (cp_wkm S mi n k (P, lq)).1 (cp_wkm S mi n k (P, lq)).2
  | 0 => h
  | k + 1 => cp_PV_wk (P := (cp_wkm S mi n k (P, lq)).1) (lq := (cp_wkm S mi n k (P, lq)).2) (cp_PV_wkm h k)
theorem cp_PN_wkm {n : Nat} {P : cp_PP} {lq : List Nat} {S : Nat → Int32} {mi : Nat} (h : cp_PN n P) (hS : cp_SV S) : ∀ k, mi + k ≤ 100000 → cp_PN n (cp_wkm S mi n k (P, lq)).1
  | 0, _ => h
  | k + 1, hk => cp_PN_wk (P := (cp_wkm S mi n k (P, lq)).1) (lq := (cp_wkm S mi n k (P, lq)).2) (cp_PN_wkm h hS k (by omega)) hS (by omega)
def cp_rdf (N : cp_Nt) (p : Nat) : Option Nat := (List.range 2001).find? (fun k => decide ((cp_wks (cp_tS N) (nI (cp_tm N)) (cp_tn N) k (cp_tP N, cp_tl N)).1 p 4 = 2))
def cp_sReady (N : cp_Nt) (v : Int32) : Int32 := if cp_ip (cp_tn N) v = true then (if cp_tP N v.toInt.toNat 4 = 3 then -5 else cp_o2i (cp_rdf N v.toInt.toNat)) else -1
theorem cp_cnt_dc {q : Nat → Bool} : ∀ {n : Nat}, (∀ i j, i < j → j < n → q j = true → q i = true) → ∀ j, j < n → (q j = true ↔ j < cp_cnt q n)
  | 0, _, j, hj => absurd hj (by omega)
  | n + 1, h, j, hj => by
    have ih := cp_cnt_dc (n := n) (fun i j hij hj => h i j hij (by omega))
    have hle := cp_cnt_le q n
    show q j = true ↔ j < cp_cnt q n + (if q n = true then 1 else 0)
    by_cases hn : q n = true
    · have hall : ∀ i, i < n → q i = true := fun i hi => h i n hi (by omega) hn
      have hc : cp_cnt q n = n := by
        rcases Nat.lt_or_ge (cp_cnt q n) n with g | g
        · have := (ih (cp_cnt q n) g).mp (hall _ g)
          omega
        · omega
      rw [if_pos hn, hc]
      rcases Nat.lt_or_ge j n with g | g
      · exact ⟨fun _ => by omega, fun _ => hall j g⟩
      · rw [show j = n by omega]
        exact ⟨fun _ => by omega, fun _ => hn⟩
    · rw [if_neg hn]
      rcases Nat.lt_or_ge j n with g | g
      · exact ih j g
      · rw [show j = n by omega]
        exact ⟨fun z => absurd z hn, fun z => by omega⟩
theorem cp_mk_iff {N : cp_Nt} (h : cp_QV (cp_tm N) (cp_tp N) (cp_tQ N)) {j : Nat} (hj : j < cp_tp N) : (cp_tQ N j 0).toInt < cp_tm N ↔ j < cp_mkN N := by
  have h1 := cp_cnt_dc (q := fun j => decide ((cp_tQ N j 0).toInt < cp_tm N)) (n := cp_tp N) (fun i j hij hj hq => by
    have h2 := h.1 i j hij hj
    have h3 := of_decide_eq_true hq
    apply decide_eq_true
    omega) j hj
  exact ⟨fun z => h1.mp (decide_eq_true z), fun z => of_decide_eq_true (h1.mpr z)⟩
def cp_due (N : cp_Nt) : Nat := (cp_tQ N (cp_mkN N) 0).toInt.toNat
/-- the pieces when the next plate is made -/
def cp_nxt (N : cp_Nt) : cp_PP × List Nat := cp_wkm (cp_tS N) (cp_tm N) (cp_tn N) (cp_due N - cp_tm N + 1) (cp_tP N, cp_tl N)
def cp_fl (P : cp_PP) : Nat → Int32
  | 0 => 0
  | n + 1 => cp_fl P n + (if cp_fr P n = true then P n 1 else 0)
def cp_sLeast (N : cp_Nt) : Int32 := if cp_mkN N < cp_tp N then (if cp_fl (cp_nxt N).1 (cp_tn N) ≤ 400 then (if 10 ≤ cp_fl (cp_nxt N).1 (cp_tn N) then cp_fl (cp_nxt N).1 (cp_tn N) else 10) else -6) else -5
def cp_sNext (N : cp_Nt) : Int32 := if cp_mkN N < cp_tp N then (cp_tk (cp_nxt N).1 (cp_tS N 2) (cp_so (cp_tn N) (cp_nxt N).1)).1 else -5
theorem cp_due_f {N : cp_Nt} {a : Nat → Int32} (hA : cp_MA a N) (hV : cp_NV N) (h : cp_mkN N < cp_tp N) : cp_tQ N (cp_mkN N) 0 = nI (cp_due N) ∧ cp_tm N ≤ cp_due N ∧ cp_due N < 600 := by
  obtain ⟨⟨t, ht, et⟩, -⟩ := hA.2.2.2.2.2.2.1 _ h
  have h1 : ¬ (cp_tQ N (cp_mkN N) 0).toInt < cp_tm N := fun z => Nat.lt_irrefl _ ((cp_mk_iff hV.2.2.2.2 h).mp z)
  have h2 : cp_due N = t := by unfold cp_due; rw [et, cp_nIt (by omega)]
  rw [h2]
  refine ⟨et, ?_, ht⟩
  rw [et, nI_toInt (by omega)] at h1
  omega
