/-! the class: keepers and bridges -/
section PZC
variable {ids : List (Nat × Nat)} {I : mm_HI} {L : mm_HL} {κ : Nat → Nat} {A : pz_A} {ck b v s : Nat}
set_option maxRecDepth 100000 in
theorem pz_vs0 : mm_vs 0 0 = 47 ∧ mm_vs 0 1 = 52 ∧ mm_vs 0 2 = 55 ∧ mm_vs 0 3 = 58 ∧ mm_vs 1 0 = 48 ∧ mm_vs 1 1 = 48 ∧ mm_vs 1 2 = 48 ∧ mm_vs 1 3 = 59 ∧ mm_vs 2 0 = 49 ∧ mm_vs 2 1 = 53 ∧ mm_vs 2 2 = 49 ∧ mm_vs 2 3 = 53 ∧ mm_vs 3 0 = 50 ∧ mm_vs 3 1 = 50 ∧ mm_vs 3 2 = 56 ∧ mm_vs 3 3 = 50 := by decide +kernel
theorem s176 {h : mm_H} (hv : v < 64) : mm_ev 176 0 [some (.inl (nI v))] [] h = some (some (.inl (nI (pz_pop v))), h) := by
  rw [b176_0]
  refine congrArg (fun z : Int32 => (some (some (Sum.inl z), h) : Option (Option mm_V × mm_H))) ?_
  revert hv
  revert v
  decide +kernel
/-- kindNumber -/
theorem sC_kind {i : Nat} (hi : i ≤ 3) : mm_ev (mm_vs 0 i) 0 [some (.inr (.inr (3, i)))] [] (ids, I, L, mm_RS κ) = some (some (.inl (nI i)), (ids, I, L, mm_RS κ)) := by
  obtain ⟨h0, h1, h2, h3, -⟩ := pz_vs0
  match i, hi with
  | 0, _ => rw [h0]; exact b47_0 ..
  | 1, _ => rw [h1]; exact b52_0 ..
  | 2, _ => rw [h2]; exact b55_0 ..
  | 3, _ => rw [h3]; exact b58_0 ..
  | i + 4, h => omega
/-- firstHeard -/
theorem sC_first {i : Nat} (hi : i ≤ 3) : mm_ev (mm_vs 1 i) 0 [some (.inr (.inr (3, i)))] [] (ids, I, L, mm_RS κ) = some (some (.inl (nI (pz_st i))), (ids, I, L, mm_RS κ)) := by
  obtain ⟨-, -, -, -, h0, h1, h2, h3, -⟩ := pz_vs0
  match i, hi with
  | 0, _ => rw [h0]; exact b48_0 ..
  | 1, _ => rw [h1]; exact b48_0 ..
  | 2, _ => rw [h2]; exact b48_0 ..
  | 3, _ => rw [h3]; exact b59_0 ..
  | i + 4, h => omega
/-- isContent -/
theorem sC_cont {i n : Nat} (hi : i ≤ 3) (hn : n < 64) (hv : v < 64) : mm_ev (mm_vs 2 i) 0 [some (.inr (.inr (3, i))), some (.inl (nI n)), some (.inl (nI v))] [] (ids, I, L, mm_RS κ) = some (some (.inl (pz_b (pz_cont i n v))), (ids, I, L, mm_RS κ)) := by
  obtain ⟨-, -, -, -, -, -, -, -, h0, h1, h2, h3, -⟩ := pz_vs0
  have e1 : ∀ i, (i = 0 ∨ i = 2) → mm_ev 49 0 [some (.inr (.inr (3, i))), some (.inl (nI n)), some (.inl (nI v))] [] (ids, I, L, mm_RS κ) = some (some (.inl (pz_b (pz_cont i n v))), (ids, I, L, mm_RS κ)) := by
    intro i hi
    rw [b49_0]
    by_cases h : n = 0
    · rw [pz_bT (by unfold pz_cont; rw [if_neg (by omega)]; exact h)]
      simp (disch := omega) only [h, b49_4, b49_9, pz_k0, pz_k1, pz_k2, pz_k3, pz_k4, pz_k5, pz_k6, pz_k7, pz_k8, pz_k9, pz_k10, pz_k16, pz_k31, pz_k63, pz_km, nI_add, pz_mul, nI_ltI, nI_eq, nI_clamp, pz_inI, Option.bind_some, Option.toList_some, Option.toList_none, List.cons_append, List.nil_append, Nat.zero_add, Nat.mul_zero, Nat.add_zero, Nat.lt_irrefl, pz_bb, pz_bTr, Bool.false_eq_true, pz_bFa, Nat.reduceEqDiff, Nat.reduceLT, ite_not, pz_mE, pz_mE2, pz_mL, pz_mG, not_true_eq_false, not_false_eq_true, if_true, if_false, reduceIte, eq_self, true_or, or_true, or_false, false_or, and_true, true_and, and_false, false_and]
    · rw [pz_bF (by unfold pz_cont; rw [if_neg (by omega)]; exact h)]
      simp (disch := omega) only [h, b49_8, b49_9, pz_k0, pz_k1, pz_k2, pz_k3, pz_k4, pz_k5, pz_k6, pz_k7, pz_k8, pz_k9, pz_k10, pz_k16, pz_k31, pz_k63, pz_km, nI_add, pz_mul, nI_ltI, nI_eq, nI_clamp, pz_inI, Option.bind_some, Option.toList_some, Option.toList_none, List.cons_append, List.nil_append, Nat.zero_add, Nat.mul_zero, Nat.add_zero, Nat.lt_irrefl, pz_bb, pz_bTr, Bool.false_eq_true, pz_bFa, Nat.reduceEqDiff, Nat.reduceLT, ite_not, pz_mE, pz_mE2, pz_mL, pz_mG, not_true_eq_false, not_false_eq_true, if_true, if_false, reduceIte, eq_self, true_or, or_true, or_false, false_or, and_true, true_and, and_false, false_and]
  have e2 : ∀ i, (i = 1 ∨ i = 3) → mm_ev 53 0 [some (.inr (.inr (3, i))), some (.inl (nI n)), some (.inl (nI v))] [] (ids, I, L, mm_RS κ) = some (some (.inl (pz_b (pz_cont i n v))), (ids, I, L, mm_RS κ)) := by
    intro i hi
    rw [b53_0]
    by_cases h : 1 < n
    · rw [pz_bF (by unfold pz_cont; rw [if_pos hi]; omega)]
      simp (disch := omega) only [h, b53_13, b53_14, pz_k0, pz_k1, pz_k2, pz_k3, pz_k4, pz_k5, pz_k6, pz_k7, pz_k8, pz_k9, pz_k10, pz_k16, pz_k31, pz_k63, pz_km, nI_add, pz_mul, nI_ltI, nI_eq, nI_clamp, pz_inI, Option.bind_some, Option.toList_some, Option.toList_none, List.cons_append, List.nil_append, Nat.zero_add, Nat.mul_zero, Nat.add_zero, Nat.lt_irrefl, pz_bb, pz_bTr, Bool.false_eq_true, pz_bFa, Nat.reduceEqDiff, Nat.reduceLT, ite_not, pz_mE, pz_mE2, pz_mL, pz_mG, not_true_eq_false, not_false_eq_true, if_true, if_false, reduceIte, eq_self, true_or, or_true, or_false, false_or, and_true, true_and, and_false, false_and]
    · by_cases h2 : v = 0
      · rw [pz_bF (by unfold pz_cont; rw [if_pos hi]; omega)]
        simp (disch := omega) only [h, h2, b53_5, b53_13, b53_14, pz_k0, pz_k1, pz_k2, pz_k3, pz_k4, pz_k5, pz_k6, pz_k7, pz_k8, pz_k9, pz_k10, pz_k16, pz_k31, pz_k63, pz_km, nI_add, pz_mul, nI_ltI, nI_eq, nI_clamp, pz_inI, Option.bind_some, Option.toList_some, Option.toList_none, List.cons_append, List.nil_append, Nat.zero_add, Nat.mul_zero, Nat.add_zero, Nat.lt_irrefl, pz_bb, pz_bTr, Bool.false_eq_true, pz_bFa, Nat.reduceEqDiff, Nat.reduceLT, ite_not, pz_mE, pz_mE2, pz_mL, pz_mG, not_true_eq_false, not_false_eq_true, if_true, if_false, reduceIte, eq_self, true_or, or_true, or_false, false_or, and_true, true_and, and_false, false_and]
      · rw [pz_bT (by unfold pz_cont; rw [if_pos hi]; omega)]
        simp (disch := omega) only [h, h2, b53_5, b53_9, b53_14, pz_k0, pz_k1, pz_k2, pz_k3, pz_k4, pz_k5, pz_k6, pz_k7, pz_k8, pz_k9, pz_k10, pz_k16, pz_k31, pz_k63, pz_km, nI_add, pz_mul, nI_ltI, nI_eq, nI_clamp, pz_inI, Option.bind_some, Option.toList_some, Option.toList_none, List.cons_append, List.nil_append, Nat.zero_add, Nat.mul_zero, Nat.add_zero, Nat.lt_irrefl, pz_bb, pz_bTr, Bool.false_eq_true, pz_bFa, Nat.reduceEqDiff, Nat.reduceLT, ite_not, pz_mE, pz_mE2, pz_mL, pz_mG, not_true_eq_false, not_false_eq_true, if_true, if_false, reduceIte, eq_self, true_or, or_true, or_false, false_or, and_true, true_and, and_false, false_and]
  match i, hi with
  | 0, _ => rw [h0]; exact e1 0 (by decide)
  | 1, _ => rw [h1]; exact e2 1 (by decide)
  | 2, _ => rw [h2]; exact e1 2 (by decide)
  | 3, _ => rw [h3]; exact e2 3 (by decide)
  | i + 4, h => omega
/-- lengthOf -/
theorem sC_len {i n : Nat} (hi : i ≤ 3) (hv : v < 64) : mm_ev (mm_vs 3 i) 0 [some (.inr (.inr (3, i))), some (.inl (nI n)), some (.inl (nI v))] [] (ids, I, L, mm_RS κ) = some (some (.inl (nI (if i = 2 then pz_pop v else n))), (ids, I, L, mm_RS κ)) := by
  obtain ⟨-, -, -, -, -, -, -, -, -, -, -, -, h0, h1, h2, h3⟩ := pz_vs0
  match i, hi with
  | 0, _ => rw [h0]; exact b50_0 ..
  | 1, _ => rw [h1]; exact b50_0 ..
  | 2, _ => rw [h2, b56_0]; simp (disch := omega) only [s176 hv, b56_4, pz_k0, pz_k1, pz_k2, pz_k3, pz_k4, pz_k5, pz_k6, pz_k7, pz_k8, pz_k9, pz_k10, pz_k16, pz_k31, pz_k63, pz_km, nI_add, pz_mul, nI_ltI, nI_eq, nI_clamp, pz_inI, Option.bind_some, Option.toList_some, Option.toList_none, List.cons_append, List.nil_append, Nat.zero_add, Nat.mul_zero, Nat.add_zero, Nat.lt_irrefl, pz_bb, pz_bTr, Bool.false_eq_true, pz_bFa, Nat.reduceEqDiff, Nat.reduceLT, ite_not, pz_mE, pz_mE2, pz_mL, pz_mG, not_true_eq_false, not_false_eq_true, if_true, if_false, reduceIte, eq_self, true_or, or_true, or_false, false_or, and_true, true_and, and_false, false_and]
  | 3, _ => rw [h3]; exact b50_0 ..
  | i + 4, h => omega
/-- hasBridge, hasSinger, isPlace, isVerse -/
def pz_rg (x : Int32) (n : Nat) : Prop := ∃ k, k < n ∧ x = nI k
theorem pz_rg_iff {x : Int32} {n : Nat} (hn : n < 2 ^ 31) : pz_rg x n ↔ ¬ x < 0 ∧ x < nI n := by
  constructor
  · rintro ⟨k, hk, rfl⟩
    exact ⟨nI_pos (by omega), nI_lt hk hn⟩
  · rintro ⟨h1, h2⟩
    obtain ⟨j, hj, rfl⟩ := nI_of h1
    exact ⟨j, (nI_ltI hj hn).mp h2, rfl⟩
theorem sC62 {w n : Nat} {x : Int32} (hn : n < 2 ^ 31) (hI : I 10 w 0 = nI n) : mm_ev 62 0 [some (.inr (.inr (4, w))), some (.inl (x))] [] (ids, I, L, mm_RS κ) = some (some (.inl (pz_b (pz_rg x n))), (ids, I, L, mm_RS κ)) := by
  rw [b62_0]
  by_cases h : pz_rg x n
  · obtain ⟨h1, h2⟩ := (pz_rg_iff hn).mp h
    rw [pz_bT h, if_neg h1, b62_4, hI, if_pos h2, b62_12, b62_17]
    rfl
  · rw [pz_bF h]
    by_cases h1 : x < 0
    · rw [if_pos h1, b62_16, b62_17]
      rfl
    · have h2 : ¬ x < nI n := fun z => h ((pz_rg_iff hn).mpr ⟨h1, z⟩)
      rw [if_neg h1, b62_4, hI, if_neg h2, b62_16, b62_17]
      rfl
theorem sC63 {w n : Nat} {x : Int32} (hn : n < 2 ^ 31) (hI : I 12 w 0 = nI n) : mm_ev 63 0 [some (.inr (.inr (4, w))), some (.inl (x))] [] (ids, I, L, mm_RS κ) = some (some (.inl (pz_b (pz_rg x n))), (ids, I, L, mm_RS κ)) := by
  rw [b63_0]
  by_cases h : pz_rg x n
  · obtain ⟨h1, h2⟩ := (pz_rg_iff hn).mp h
    rw [pz_bT h, if_neg h1, b63_4, hI, if_pos h2, b63_12, b63_17]
    rfl
  · rw [pz_bF h]
    by_cases h1 : x < 0
    · rw [if_pos h1, b63_16, b63_17]
      rfl
    · have h2 : ¬ x < nI n := fun z => h ((pz_rg_iff hn).mpr ⟨h1, z⟩)
      rw [if_neg h1, b63_4, hI, if_neg h2, b63_16, b63_17]
      rfl
theorem sC34 {x : Int32} : mm_ev 34 0 [some (.inl (x))] [] (ids, I, L, mm_RS κ) = some (some (.inl (pz_b (pz_rg x 6))), (ids, I, L, mm_RS κ)) := by
  rw [b34_0]
  by_cases h : pz_rg x 6
  · obtain ⟨h1, h2⟩ := (pz_rg_iff (by decide)).mp h
    rw [pz_bT h, if_neg h1, b34_4, pz_k6, if_pos h2, b34_10, b34_15]
    rfl
  · rw [pz_bF h]
    by_cases h1 : x < 0
    · rw [if_pos h1, b34_14, b34_15]
      rfl
    · have h2 : ¬ x < nI 6 := fun z => h ((pz_rg_iff (by decide)).mpr ⟨h1, z⟩)
      rw [if_neg h1, b34_4, pz_k6, if_neg h2, b34_14, b34_15]
      rfl
theorem sC35 {x : Int32} : mm_ev 35 0 [some (.inl (x))] [] (ids, I, L, mm_RS κ) = some (some (.inl (pz_b (pz_rg x 6))), (ids, I, L, mm_RS κ)) := by
  rw [b35_0]
  by_cases h : pz_rg x 6
  · obtain ⟨h1, h2⟩ := (pz_rg_iff (by decide)).mp h
    rw [pz_bT h, if_neg h1, b35_4, pz_k6, if_pos h2, b35_10, b35_15]
    rfl
  · rw [pz_bF h]
    by_cases h1 : x < 0
    · rw [if_pos h1, b35_14, b35_15]
      rfl
    · have h2 : ¬ x < nI 6 := fun z => h ((pz_rg_iff (by decide)).mpr ⟨h1, z⟩)
      rw [if_neg h1, b35_4, pz_k6, if_neg h2, b35_14, b35_15]
      rfl
/-- verseBits -/
theorem sC77 {i n : Nat} {f : Nat → Nat} (hn : n ≤ 5) (h19 : I 19 i 0 = nI n) (hf : ∀ j, j < n → f j < 6 ∧ I 117 i j = nI (f j)) : mm_ev 77 0 [some (.inr (.inr (5, i))), none, none] [] (ids, I, L, mm_RS κ) = some (some (.inl (nI (pz_vs f n))), (ids, I, L, mm_RS κ)) := by
  rw [b77_0]
  refine (pz_loop (fun k => mm_ev 77 4 [some (.inr (.inr (5, i))), some (.inl (nI (pz_vs f k))), some (.inl (nI k))] [] (ids, I, L, mm_RS κ)) n (fun k hk => ?_)).trans ?_
  · obtain ⟨f1, f2⟩ := hf k hk
    show mm_ev 77 4 [some (.inr (.inr (5, i))), some (.inl (nI (pz_vs f k))), some (.inl (nI k))] [] (ids, I, L, mm_RS κ) = mm_ev 77 4 [some (.inr (.inr (5, i))), some (.inl (nI (pz_vs f k ||| 2 ^ f k))), some (.inl (nI (k + 1)))] [] (ids, I, L, mm_RS κ)
    rw [b77_4]
    simp (disch := omega) only [h19, hk, b77_12, b77_20, f2, pz_one, pz_or, show k < 5 by omega, pz_k0, pz_k1, pz_k2, pz_k3, pz_k4, pz_k5, pz_k6, pz_k7, pz_k8, pz_k9, pz_k10, pz_k16, pz_k31, pz_k63, pz_km, nI_add, pz_mul, nI_ltI, nI_eq, nI_clamp, pz_inI, Option.bind_some, Option.toList_some, Option.toList_none, List.cons_append, List.nil_append, Nat.zero_add, Nat.mul_zero, Nat.add_zero, Nat.lt_irrefl, pz_bb, pz_bTr, Bool.false_eq_true, pz_bFa, Nat.reduceEqDiff, Nat.reduceLT, ite_not, pz_mE, pz_mE2, pz_mL, pz_mG, not_true_eq_false, not_false_eq_true, if_true, if_false, reduceIte, eq_self, true_or, or_true, or_false, false_or, and_true, true_and, and_false, false_and]
  · show mm_ev 77 4 [some (.inr (.inr (5, i))), some (.inl (nI (pz_vs f n))), some (.inl (nI n))] [] (ids, I, L, mm_RS κ) = _
    rw [b77_4]
    simp (disch := omega) only [h19, b77_29, pz_k0, pz_k1, pz_k2, pz_k3, pz_k4, pz_k5, pz_k6, pz_k7, pz_k8, pz_k9, pz_k10, pz_k16, pz_k31, pz_k63, pz_km, nI_add, pz_mul, nI_ltI, nI_eq, nI_clamp, pz_inI, Option.bind_some, Option.toList_some, Option.toList_none, List.cons_append, List.nil_append, Nat.zero_add, Nat.mul_zero, Nat.add_zero, Nat.lt_irrefl, pz_bb, pz_bTr, Bool.false_eq_true, pz_bFa, Nat.reduceEqDiff, Nat.reduceLT, ite_not, pz_mE, pz_mE2, pz_mL, pz_mG, not_true_eq_false, not_false_eq_true, if_true, if_false, reduceIte, eq_self, true_or, or_true, or_false, false_or, and_true, true_and, and_false, false_and]
/-- opensTo -/
def pz_op (A : pz_A) (b v : Nat) : Prop := pz_cont (A 1 b 0) (pz_lk (A 5 b) (pz_st (A 1 b 0)) v (A 4 b 0)) v
theorem sC78 (hA : pz_wf ck A) (hC : pz_C 0 A I κ) (hb : b < A 0 0 0) (hv : v < 64) : mm_ev 78 0 [some (.inr (.inr (5, b))), some (.inl (nI v)), none, none] [] (ids, I, L, mm_RS κ) = some (some (.inl (pz_b (pz_op A b v))), (ids, I, L, mm_RS κ)) := by
  obtain ⟨a1, -, -, -, a4, a5, a6⟩ := hA.2.2.1 b hb
  obtain ⟨c1, -, -, c4, -, c6⟩ := pz_C0b hC hb
  have hst : pz_st (A 1 b 0) ≤ 1 := by unfold pz_st; split <;> omega
  have hk4 : A 1 b 0 < 4 := by omega
  rw [b78_0, c1]
  simp (disch := omega) only [hk4, sC_first a1, b78_9, pz_k0, pz_k1, pz_k2, pz_k3, pz_k4, pz_k5, pz_k6, pz_k7, pz_k8, pz_k9, pz_k10, pz_k16, pz_k31, pz_k63, pz_km, nI_add, pz_mul, nI_ltI, nI_eq, nI_clamp, pz_inI, Option.bind_some, Option.toList_some, Option.toList_none, List.cons_append, List.nil_append, Nat.zero_add, Nat.mul_zero, Nat.add_zero, Nat.lt_irrefl, pz_bb, pz_bTr, Bool.false_eq_true, pz_bFa, Nat.reduceEqDiff, Nat.reduceLT, ite_not, pz_mE, pz_mE2, pz_mL, pz_mG, not_true_eq_false, not_false_eq_true, if_true, if_false, reduceIte, eq_self, true_or, or_true, or_false, false_or, and_true, true_and, and_false, false_and]
  obtain ⟨d, hd⟩ : ∃ d, pz_st (A 1 b 0) + d = A 4 b 0 := ⟨A 4 b 0 - pz_st (A 1 b 0), by omega⟩
  have hl := pz_loop (fun k => mm_ev 78 10 [some (.inr (.inr (5, b))), some (.inl (nI v)), some (.inl (nI (pz_lk (A 5 b) (pz_st (A 1 b 0)) v (pz_st (A 1 b 0) + k)))), some (.inl (nI (pz_st (A 1 b 0) + k)))] [] (ids, I, L, mm_RS κ)) d (fun k hk => ?_)
  · have hl : mm_ev 78 10 [some (.inr (.inr (5, b))), some (.inl (nI v)), some (.inl (nI (pz_lk (A 5 b) (pz_st (A 1 b 0)) v (pz_st (A 1 b 0) + 0)))), some (.inl (nI (pz_st (A 1 b 0) + 0)))] [] (ids, I, L, mm_RS κ) = mm_ev 78 10 [some (.inr (.inr (5, b))), some (.inl (nI v)), some (.inl (nI (pz_lk (A 5 b) (pz_st (A 1 b 0)) v (pz_st (A 1 b 0) + d)))), some (.inl (nI (pz_st (A 1 b 0) + d)))] [] (ids, I, L, mm_RS κ) := hl
    rw [Nat.add_zero, pz_lk_st hst, hd] at hl
    rw [hl, b78_10]
    have hle := pz_lk_le (f := A 5 b) (st := pz_st (A 1 b 0)) (v := v) (A 4 b 0)
    simp (disch := omega) only [c4, b78_40, c1, hk4, sC_cont a1 (show pz_lk (A 5 b) (pz_st (A 1 b 0)) v (A 4 b 0) < 64 by omega) hv, b78_49, pz_k0, pz_k1, pz_k2, pz_k3, pz_k4, pz_k5, pz_k6, pz_k7, pz_k8, pz_k9, pz_k10, pz_k16, pz_k31, pz_k63, pz_km, nI_add, pz_mul, nI_ltI, nI_eq, nI_clamp, pz_inI, Option.bind_some, Option.toList_some, Option.toList_none, List.cons_append, List.nil_append, Nat.zero_add, Nat.mul_zero, Nat.add_zero, Nat.lt_irrefl, pz_bb, pz_bTr, Bool.false_eq_true, pz_bFa, Nat.reduceEqDiff, Nat.reduceLT, ite_not, pz_mE, pz_mE2, pz_mL, pz_mG, not_true_eq_false, not_false_eq_true, if_true, if_false, reduceIte, eq_self, true_or, or_true, or_false, false_or, and_true, true_and, and_false, false_and]
    rfl
  · show mm_ev 78 10 [some (.inr (.inr (5, b))), some (.inl (nI v)), some (.inl (nI (pz_lk (A 5 b) (pz_st (A 1 b 0)) v (pz_st (A 1 b 0) + k)))), some (.inl (nI (pz_st (A 1 b 0) + k)))] [] (ids, I, L, mm_RS κ) = mm_ev 78 10 [some (.inr (.inr (5, b))), some (.inl (nI v)), some (.inl (nI (pz_lk (A 5 b) (pz_st (A 1 b 0)) v (pz_st (A 1 b 0) + k) + (if pz_st (A 1 b 0) ≤ pz_st (A 1 b 0) + k then 1 - pz_bt v (A 5 b (pz_st (A 1 b 0) + k)) else 0)))), some (.inl (nI (pz_st (A 1 b 0) + k + 1)))] [] (ids, I, L, mm_RS κ)
    rw [if_pos (by omega)]
    have hj : pz_st (A 1 b 0) + k < A 4 b 0 := by omega
    have f1 := a6 _ hj
    have f2 := c6 _ hj
    have hbt := pz_bt2 (v := v) (s := A 5 b (pz_st (A 1 b 0) + k))
    rw [b78_10]
    by_cases hz : pz_bt v (A 5 b (pz_st (A 1 b 0) + k)) = 0
    · simp (disch := omega) only [c4, hj, b78_18, f2, b78_25, pz_bit, hz, b78_31, b78_34, show pz_st (A 1 b 0) + k < 5 by omega, pz_k0, pz_k1, pz_k2, pz_k3, pz_k4, pz_k5, pz_k6, pz_k7, pz_k8, pz_k9, pz_k10, pz_k16, pz_k31, pz_k63, pz_km, nI_add, pz_mul, nI_ltI, nI_eq, nI_clamp, pz_inI, Option.bind_some, Option.toList_some, Option.toList_none, List.cons_append, List.nil_append, Nat.zero_add, Nat.mul_zero, Nat.add_zero, Nat.lt_irrefl, pz_bb, pz_bTr, Bool.false_eq_true, pz_bFa, Nat.reduceEqDiff, Nat.reduceLT, ite_not, pz_mE, pz_mE2, pz_mL, pz_mG, not_true_eq_false, not_false_eq_true, if_true, if_false, reduceIte, eq_self, true_or, or_true, or_false, false_or, and_true, true_and, and_false, false_and]
    · have h1 : pz_bt v (A 5 b (pz_st (A 1 b 0) + k)) = 1 := by omega
      simp (disch := omega) only [c4, hj, b78_18, f2, b78_25, pz_bit, h1, b78_34, show pz_st (A 1 b 0) + k < 5 by omega, show ¬ (1 = 0) by decide, pz_k0, pz_k1, pz_k2, pz_k3, pz_k4, pz_k5, pz_k6, pz_k7, pz_k8, pz_k9, pz_k10, pz_k16, pz_k31, pz_k63, pz_km, nI_add, pz_mul, nI_ltI, nI_eq, nI_clamp, pz_inI, Option.bind_some, Option.toList_some, Option.toList_none, List.cons_append, List.nil_append, Nat.zero_add, Nat.mul_zero, Nat.add_zero, Nat.lt_irrefl, pz_bb, pz_bTr, Bool.false_eq_true, pz_bFa, Nat.reduceEqDiff, Nat.reduceLT, ite_not, pz_mE, pz_mE2, pz_mL, pz_mG, not_true_eq_false, not_false_eq_true, if_true, if_false, reduceIte, eq_self, true_or, or_true, or_false, false_or, and_true, true_and, and_false, false_and]
      rfl
/-- hasSameSong -/
def pz_ss (A : pz_A) (b c : Nat) : Prop := A 4 b 0 = A 4 c 0 ∧ ∀ j, j < A 4 b 0 → A 5 b j = A 5 c j
theorem sC79 {c : Nat} (hA : pz_wf ck A) (hC : pz_C 0 A I κ) (hb : b < A 0 0 0) (hc : c < A 0 0 0) : mm_ev 79 0 [some (.inr (.inr (5, b))), some (.inr (.inr (5, c))), none] [] (ids, I, L, mm_RS κ) = some (some (.inl (pz_b (pz_ss A b c))), (ids, I, L, mm_RS κ)) := by
  obtain ⟨-, -, -, -, a4, a5, a6⟩ := hA.2.2.1 b hb
  obtain ⟨-, -, -, -, a4', a5', a6'⟩ := hA.2.2.1 c hc
  obtain ⟨-, -, -, c4, -, c6⟩ := pz_C0b hC hb
  obtain ⟨-, -, -, c4', -, c6'⟩ := pz_C0b hC hc
  rw [b79_0, c4, c4']
  by_cases h : A 4 b 0 = A 4 c 0
  · simp (disch := omega) only [h, b79_13, pz_k0, pz_k1, pz_k2, pz_k3, pz_k4, pz_k5, pz_k6, pz_k7, pz_k8, pz_k9, pz_k10, pz_k16, pz_k31, pz_k63, pz_km, nI_add, pz_mul, nI_ltI, nI_eq, nI_clamp, pz_inI, Option.bind_some, Option.toList_some, Option.toList_none, List.cons_append, List.nil_append, Nat.zero_add, Nat.mul_zero, Nat.add_zero, Nat.lt_irrefl, pz_bb, pz_bTr, Bool.false_eq_true, pz_bFa, Nat.reduceEqDiff, Nat.reduceLT, ite_not, pz_mE, pz_mE2, pz_mL, pz_mG, not_true_eq_false, not_false_eq_true, if_true, if_false, reduceIte, eq_self, true_or, or_true, or_false, false_or, and_true, true_and, and_false, false_and]
    have hl := pz_srch (fun j => decide (A 5 b j ≠ A 5 c j)) (fun k => mm_ev 79 15 [some (.inr (.inr (5, b))), some (.inr (.inr (5, c))), some (.inl (nI k))] [] (ids, I, L, mm_RS κ)) (fun _ => some (some (.inl (nI 0)), (ids, I, L, mm_RS κ))) (A 4 b 0) 0 (fun k h0 hk => ?_)
    · have hl : mm_ev 79 15 [some (.inr (.inr (5, b))), some (.inr (.inr (5, c))), some (.inl (nI 0))] [] (ids, I, L, mm_RS κ) = _ := hl
      rw [hl]
      rw [Nat.zero_add]
      have hfb := pz_fnd_le (p := fun j => decide (A 5 b j ≠ A 5 c j)) (A 4 b 0) 0
      by_cases hs : ∀ j, j < A 4 b 0 → A 5 b j = A 5 c j
      · rw [pz_bT ⟨h, hs⟩, if_neg]
        · show mm_ev 79 15 [some (.inr (.inr (5, b))), some (.inr (.inr (5, c))), some (.inl (nI (A 4 b 0)))] [] (ids, I, L, mm_RS κ) = _
          rw [b79_15]
          simp (disch := omega) only [c4, b79_46, pz_k0, pz_k1, pz_k2, pz_k3, pz_k4, pz_k5, pz_k6, pz_k7, pz_k8, pz_k9, pz_k10, pz_k16, pz_k31, pz_k63, pz_km, nI_add, pz_mul, nI_ltI, nI_eq, nI_clamp, pz_inI, Option.bind_some, Option.toList_some, Option.toList_none, List.cons_append, List.nil_append, Nat.zero_add, Nat.mul_zero, Nat.add_zero, Nat.lt_irrefl, pz_bb, pz_bTr, Bool.false_eq_true, pz_bFa, Nat.reduceEqDiff, Nat.reduceLT, ite_not, pz_mE, pz_mE2, pz_mL, pz_mG, not_true_eq_false, not_false_eq_true, if_true, if_false, reduceIte, eq_self, true_or, or_true, or_false, false_or, and_true, true_and, and_false, false_and]
        · rw [pz_fnd_eq (q := fun _ => false) _ _ (fun j h1 h2 => by simp [hs j (by omega)]), pz_fnd_no]
          omega
      · rw [pz_bF (fun z => hs z.2), if_pos]
        refine Nat.lt_of_not_le (fun hle => hs (fun j hj => ?_))
        have := pz_fnd_not (p := fun j => decide (A 5 b j ≠ A 5 c j)) (A 4 b 0) 0 j (Nat.zero_le j) (by omega)
        simpa using this
    · show mm_ev 79 15 [some (.inr (.inr (5, b))), some (.inr (.inr (5, c))), some (.inl (nI k))] [] (ids, I, L, mm_RS κ) = ite _ _ (mm_ev 79 15 [some (.inr (.inr (5, b))), some (.inr (.inr (5, c))), some (.inl (nI (k + 1)))] [] (ids, I, L, mm_RS κ))
      have hk : k < A 4 b 0 := by omega
      have f1 := a6 k hk
      have f2 := c6 k hk
      have f1' := a6' k (by omega)
      have f2' := c6' k (by omega)
      rw [b79_15]
      by_cases he : A 5 b k = A 5 c k
      · simp (disch := omega) only [c4, hk, b79_23, f2, f2', b79_29, b79_35, he, b79_40, show k < 5 by omega, decide_eq_true_eq, ne_eq, pz_k0, pz_k1, pz_k2, pz_k3, pz_k4, pz_k5, pz_k6, pz_k7, pz_k8, pz_k9, pz_k10, pz_k16, pz_k31, pz_k63, pz_km, nI_add, pz_mul, nI_ltI, nI_eq, nI_clamp, pz_inI, Option.bind_some, Option.toList_some, Option.toList_none, List.cons_append, List.nil_append, Nat.zero_add, Nat.mul_zero, Nat.add_zero, Nat.lt_irrefl, pz_bb, pz_bTr, Bool.false_eq_true, pz_bFa, Nat.reduceEqDiff, Nat.reduceLT, ite_not, pz_mE, pz_mE2, pz_mL, pz_mG, not_true_eq_false, not_false_eq_true, if_true, if_false, reduceIte, eq_self, true_or, or_true, or_false, false_or, and_true, true_and, and_false, false_and]
      · simp (disch := omega) only [c4, hk, b79_23, f2, f2', b79_29, b79_35, he, b79_38, show k < 5 by omega, decide_eq_true_eq, ne_eq, pz_k0, pz_k1, pz_k2, pz_k3, pz_k4, pz_k5, pz_k6, pz_k7, pz_k8, pz_k9, pz_k10, pz_k16, pz_k31, pz_k63, pz_km, nI_add, pz_mul, nI_ltI, nI_eq, nI_clamp, pz_inI, Option.bind_some, Option.toList_some, Option.toList_none, List.cons_append, List.nil_append, Nat.zero_add, Nat.mul_zero, Nat.add_zero, Nat.lt_irrefl, pz_bb, pz_bTr, Bool.false_eq_true, pz_bFa, Nat.reduceEqDiff, Nat.reduceLT, ite_not, pz_mE, pz_mE2, pz_mL, pz_mG, not_true_eq_false, not_false_eq_true, if_true, if_false, reduceIte, eq_self, true_or, or_true, or_false, false_or, and_true, true_and, and_false, false_and]
  · simp (disch := omega) only [h, b79_11, pz_k0, pz_k1, pz_k2, pz_k3, pz_k4, pz_k5, pz_k6, pz_k7, pz_k8, pz_k9, pz_k10, pz_k16, pz_k31, pz_k63, pz_km, nI_add, pz_mul, nI_ltI, nI_eq, nI_clamp, pz_inI, Option.bind_some, Option.toList_some, Option.toList_none, List.cons_append, List.nil_append, Nat.zero_add, Nat.mul_zero, Nat.add_zero, Nat.lt_irrefl, pz_bb, pz_bTr, Bool.false_eq_true, pz_bFa, Nat.reduceEqDiff, Nat.reduceLT, ite_not, pz_mE, pz_mE2, pz_mL, pz_mG, not_true_eq_false, not_false_eq_true, if_true, if_false, reduceIte, eq_self, true_or, or_true, or_false, false_or, and_true, true_and, and_false, false_and]
    rw [pz_bF (fun z => h z.1)]
/-- isInReach, otherEnd, endBits -/
def pz_at (A : pz_A) (b p : Nat) : Prop := p = A 2 b 0 ∨ p = A 3 b 0
def pz_oth (A : pz_A) (b p : Nat) : Nat := if p = A 2 b 0 then A 3 b 0 else A 2 b 0
theorem sC80 {p n : Nat} (hA : pz_wf ck A) (hC : pz_C 0 A I κ) (hb : b < A 0 0 0) (hp : p < 6) (hn : n < 2 ^ 31) : mm_ev 80 0 [some (.inr (.inr (5, b))), some (.inl (nI p)), some (.inl (nI n))] [] (ids, I, L, mm_RS κ) = some (some (.inl (pz_b (pz_at A b p ∧ pz_len A b ≤ n))), (ids, I, L, mm_RS κ)) := by
  obtain ⟨-, a2, a3, -, a4, a5, a6⟩ := hA.2.2.1 b hb
  obtain ⟨-, c2, c3, c4, c5, -⟩ := pz_C0b hC hb
  have hlen := pz_len_b hA hb
  rw [b80_0]
  by_cases h3 : n < pz_len A b
  · rw [pz_bF (fun z => by omega)]
    by_cases h1 : p = A 2 b 0
    · simp (disch := omega) only [c2, h1, b80_16, c5, h3, b80_28, b80_29, pz_k0, pz_k1, pz_k2, pz_k3, pz_k4, pz_k5, pz_k6, pz_k7, pz_k8, pz_k9, pz_k10, pz_k16, pz_k31, pz_k63, pz_km, nI_add, pz_mul, nI_ltI, nI_eq, nI_clamp, pz_inI, Option.bind_some, Option.toList_some, Option.toList_none, List.cons_append, List.nil_append, Nat.zero_add, Nat.mul_zero, Nat.add_zero, Nat.lt_irrefl, pz_bb, pz_bTr, Bool.false_eq_true, pz_bFa, Nat.reduceEqDiff, Nat.reduceLT, ite_not, pz_mE, pz_mE2, pz_mL, pz_mG, not_true_eq_false, not_false_eq_true, if_true, if_false, reduceIte, eq_self, true_or, or_true, or_false, false_or, and_true, true_and, and_false, false_and]
    · by_cases h2 : p = A 3 b 0
      · simp (disch := omega) only [c2, c3, h1, h2, b80_8, b80_16, c5, h3, b80_28, b80_29, pz_k0, pz_k1, pz_k2, pz_k3, pz_k4, pz_k5, pz_k6, pz_k7, pz_k8, pz_k9, pz_k10, pz_k16, pz_k31, pz_k63, pz_km, nI_add, pz_mul, nI_ltI, nI_eq, nI_clamp, pz_inI, Option.bind_some, Option.toList_some, Option.toList_none, List.cons_append, List.nil_append, Nat.zero_add, Nat.mul_zero, Nat.add_zero, Nat.lt_irrefl, pz_bb, pz_bTr, Bool.false_eq_true, pz_bFa, Nat.reduceEqDiff, Nat.reduceLT, ite_not, pz_mE, pz_mE2, pz_mL, pz_mG, not_true_eq_false, not_false_eq_true, if_true, if_false, reduceIte, eq_self, true_or, or_true, or_false, false_or, and_true, true_and, and_false, false_and]
        simp (disch := omega) only [c2, c3, h1, h2, b80_8, b80_16, c5, h3, b80_28, b80_29, show ¬ A 3 b 0 = A 2 b 0 by omega, pz_k0, pz_k1, pz_k2, pz_k3, pz_k4, pz_k5, pz_k6, pz_k7, pz_k8, pz_k9, pz_k10, pz_k16, pz_k31, pz_k63, pz_km, nI_add, pz_mul, nI_ltI, nI_eq, nI_clamp, pz_inI, Option.bind_some, Option.toList_some, Option.toList_none, List.cons_append, List.nil_append, Nat.zero_add, Nat.mul_zero, Nat.add_zero, Nat.lt_irrefl, pz_bb, pz_bTr, Bool.false_eq_true, pz_bFa, Nat.reduceEqDiff, Nat.reduceLT, ite_not, pz_mE, pz_mE2, pz_mL, pz_mG, not_true_eq_false, not_false_eq_true, if_true, if_false, reduceIte, eq_self, true_or, or_true, or_false, false_or, and_true, true_and, and_false, false_and]
      · simp (disch := omega) only [c2, c3, h1, h2, b80_8, b80_28, b80_29, pz_k0, pz_k1, pz_k2, pz_k3, pz_k4, pz_k5, pz_k6, pz_k7, pz_k8, pz_k9, pz_k10, pz_k16, pz_k31, pz_k63, pz_km, nI_add, pz_mul, nI_ltI, nI_eq, nI_clamp, pz_inI, Option.bind_some, Option.toList_some, Option.toList_none, List.cons_append, List.nil_append, Nat.zero_add, Nat.mul_zero, Nat.add_zero, Nat.lt_irrefl, pz_bb, pz_bTr, Bool.false_eq_true, pz_bFa, Nat.reduceEqDiff, Nat.reduceLT, ite_not, pz_mE, pz_mE2, pz_mL, pz_mG, not_true_eq_false, not_false_eq_true, if_true, if_false, reduceIte, eq_self, true_or, or_true, or_false, false_or, and_true, true_and, and_false, false_and]
  · by_cases h1 : p = A 2 b 0
    · rw [pz_bT ⟨Or.inl h1, by omega⟩]
      simp (disch := omega) only [c2, h1, b80_16, c5, h3, b80_24, b80_29, pz_k0, pz_k1, pz_k2, pz_k3, pz_k4, pz_k5, pz_k6, pz_k7, pz_k8, pz_k9, pz_k10, pz_k16, pz_k31, pz_k63, pz_km, nI_add, pz_mul, nI_ltI, nI_eq, nI_clamp, pz_inI, Option.bind_some, Option.toList_some, Option.toList_none, List.cons_append, List.nil_append, Nat.zero_add, Nat.mul_zero, Nat.add_zero, Nat.lt_irrefl, pz_bb, pz_bTr, Bool.false_eq_true, pz_bFa, Nat.reduceEqDiff, Nat.reduceLT, ite_not, pz_mE, pz_mE2, pz_mL, pz_mG, not_true_eq_false, not_false_eq_true, if_true, if_false, reduceIte, eq_self, true_or, or_true, or_false, false_or, and_true, true_and, and_false, false_and]
    · by_cases h2 : p = A 3 b 0
      · rw [pz_bT ⟨Or.inr h2, by omega⟩]
        simp (disch := omega) only [c2, c3, h1, h2, b80_8, b80_16, c5, h3, b80_24, b80_29, show ¬ A 3 b 0 = A 2 b 0 by omega, pz_k0, pz_k1, pz_k2, pz_k3, pz_k4, pz_k5, pz_k6, pz_k7, pz_k8, pz_k9, pz_k10, pz_k16, pz_k31, pz_k63, pz_km, nI_add, pz_mul, nI_ltI, nI_eq, nI_clamp, pz_inI, Option.bind_some, Option.toList_some, Option.toList_none, List.cons_append, List.nil_append, Nat.zero_add, Nat.mul_zero, Nat.add_zero, Nat.lt_irrefl, pz_bb, pz_bTr, Bool.false_eq_true, pz_bFa, Nat.reduceEqDiff, Nat.reduceLT, ite_not, pz_mE, pz_mE2, pz_mL, pz_mG, not_true_eq_false, not_false_eq_true, if_true, if_false, reduceIte, eq_self, true_or, or_true, or_false, false_or, and_true, true_and, and_false, false_and]
      · rw [pz_bF (fun z => z.1.elim h1 h2)]
        simp (disch := omega) only [c2, c3, h1, h2, b80_8, b80_28, b80_29, pz_k0, pz_k1, pz_k2, pz_k3, pz_k4, pz_k5, pz_k6, pz_k7, pz_k8, pz_k9, pz_k10, pz_k16, pz_k31, pz_k63, pz_km, nI_add, pz_mul, nI_ltI, nI_eq, nI_clamp, pz_inI, Option.bind_some, Option.toList_some, Option.toList_none, List.cons_append, List.nil_append, Nat.zero_add, Nat.mul_zero, Nat.add_zero, Nat.lt_irrefl, pz_bb, pz_bTr, Bool.false_eq_true, pz_bFa, Nat.reduceEqDiff, Nat.reduceLT, ite_not, pz_mE, pz_mE2, pz_mL, pz_mG, not_true_eq_false, not_false_eq_true, if_true, if_false, reduceIte, eq_self, true_or, or_true, or_false, false_or, and_true, true_and, and_false, false_and]
theorem sC82 {p : Nat} (hA : pz_wf ck A) (hC : pz_C 0 A I κ) (hb : b < A 0 0 0) (hp : p < 6) : mm_ev 82 0 [some (.inr (.inr (5, b))), some (.inl (nI p))] [] (ids, I, L, mm_RS κ) = some (some (.inl (nI (pz_oth A b p))), (ids, I, L, mm_RS κ)) := by
  obtain ⟨-, a2, a3, -, a4, a5, a6⟩ := hA.2.2.1 b hb
  obtain ⟨-, c2, c3, c4, c5, -⟩ := pz_C0b hC hb
  rw [b82_0]
  unfold pz_oth
  by_cases h1 : p = A 2 b 0
  · simp (disch := omega) only [c2, c3, h1, b82_8, b82_19, pz_k0, pz_k1, pz_k2, pz_k3, pz_k4, pz_k5, pz_k6, pz_k7, pz_k8, pz_k9, pz_k10, pz_k16, pz_k31, pz_k63, pz_km, nI_add, pz_mul, nI_ltI, nI_eq, nI_clamp, pz_inI, Option.bind_some, Option.toList_some, Option.toList_none, List.cons_append, List.nil_append, Nat.zero_add, Nat.mul_zero, Nat.add_zero, Nat.lt_irrefl, pz_bb, pz_bTr, Bool.false_eq_true, pz_bFa, Nat.reduceEqDiff, Nat.reduceLT, ite_not, pz_mE, pz_mE2, pz_mL, pz_mG, not_true_eq_false, not_false_eq_true, if_true, if_false, reduceIte, eq_self, true_or, or_true, or_false, false_or, and_true, true_and, and_false, false_and]
  · simp (disch := omega) only [c2, c3, h1, b82_15, b82_19, pz_k0, pz_k1, pz_k2, pz_k3, pz_k4, pz_k5, pz_k6, pz_k7, pz_k8, pz_k9, pz_k10, pz_k16, pz_k31, pz_k63, pz_km, nI_add, pz_mul, nI_ltI, nI_eq, nI_clamp, pz_inI, Option.bind_some, Option.toList_some, Option.toList_none, List.cons_append, List.nil_append, Nat.zero_add, Nat.mul_zero, Nat.add_zero, Nat.lt_irrefl, pz_bb, pz_bTr, Bool.false_eq_true, pz_bFa, Nat.reduceEqDiff, Nat.reduceLT, ite_not, pz_mE, pz_mE2, pz_mL, pz_mG, not_true_eq_false, not_false_eq_true, if_true, if_false, reduceIte, eq_self, true_or, or_true, or_false, false_or, and_true, true_and, and_false, false_and]
theorem sC81 (hA : pz_wf ck A) (hC : pz_C 0 A I κ) (hb : b < A 0 0 0) : mm_ev 81 0 [some (.inr (.inr (5, b)))] [] (ids, I, L, mm_RS κ) = some (some (.inl (nI (2 ^ A 2 b 0 ||| 2 ^ A 3 b 0))), (ids, I, L, mm_RS κ)) := by
  obtain ⟨-, a2, a3, -, a4, a5, a6⟩ := hA.2.2.1 b hb
  obtain ⟨-, c2, c3, c4, c5, -⟩ := pz_C0b hC hb
  rw [b81_0]
  simp (disch := omega) only [c2, c3, pz_one, pz_or, pz_k0, pz_k1, pz_k2, pz_k3, pz_k4, pz_k5, pz_k6, pz_k7, pz_k8, pz_k9, pz_k10, pz_k16, pz_k31, pz_k63, pz_km, nI_add, pz_mul, nI_ltI, nI_eq, nI_clamp, pz_inI, Option.bind_some, Option.toList_some, Option.toList_none, List.cons_append, List.nil_append, Nat.zero_add, Nat.mul_zero, Nat.add_zero, Nat.lt_irrefl, pz_bb, pz_bTr, Bool.false_eq_true, pz_bFa, Nat.reduceEqDiff, Nat.reduceLT, ite_not, pz_mE, pz_mE2, pz_mL, pz_mG, not_true_eq_false, not_false_eq_true, if_true, if_false, reduceIte, eq_self, true_or, or_true, or_false, false_or, and_true, true_and, and_false, false_and]
end PZC
