/-! the model: bridges -/
section PZM
variable {ids : List (Nat × Nat)} {I : mm_HI} {L : mm_HL} {A : pz_A} {ck b v s : Nat}
theorem pz_M0 (hM : pz_M A I) : I 41 0 0 = nI (A 0 0 0) ∧ I 47 0 0 = nI (A 6 0 0) ∧ (∀ p v, p < 6 → v < 6 → I 133 0 (6 * p + v) = nI (A 13 p v)) ∧ I 57 0 0 = nI (A 14 0 0) ∧ (∀ k, k < A 14 0 0 → I 134 0 k = nI (A 15 0 k)) := ⟨hM.1, hM.2.2.1, hM.2.2.2.2.1, hM.2.2.2.2.2.1, hM.2.2.2.2.2.2⟩
theorem pz_M0b (hM : pz_M A I) (hb : b < A 0 0 0) : I 121 0 b = nI (A 1 b 0) ∧ I 122 0 b = nI (A 2 b 0) ∧ I 123 0 b = nI (A 3 b 0) ∧ I 124 0 b = nI (A 4 b 0) ∧ (∀ j, j < A 4 b 0 → I 125 0 (5 * b + j) = nI (A 5 b j)) ∧ ∀ j, A 4 b 0 ≤ j → j < 5 → I 125 0 (5 * b + j) = pz_m := hM.2.1 b hb
theorem pz_M0s (hM : pz_M A I) (hs : s < A 6 0 0) : I 126 0 s = nI (A 7 s 0) ∧ I 127 0 s = nI (A 8 s 0) ∧ I 128 0 s = nI (A 9 s 0) ∧ I 129 0 s = nI (A 10 s 0) ∧ I 130 0 s = nI (A 11 s 0) ∧ I 131 0 s = nI (A 12 s 0) ∧ ∀ v, v < 6 → I 132 0 (6 * s + v) = nI (A 20 s v) := hM.2.2.2.1 s hs
theorem sM113 {x y z : Int32} : mm_ev 113 0 [some (.inl (x)), some (.inl (y)), some (.inl (z))] [] (ids, I, L, mm_RM) = some (some (.inl (pz_b (¬ x < y ∧ ¬ z < x))), (ids, I, L, mm_RM)) := by
  rw [b113_0]
  by_cases h1 : x < y
  · rw [pz_bF (fun z => z.1 h1), if_pos h1, b113_14, b113_15]
    rfl
  · by_cases h2 : z < x
    · rw [pz_bF (fun z => z.2 h2), if_neg h1, b113_5, if_pos h2, b113_14, b113_15]
      rfl
    · rw [pz_bT ⟨h1, h2⟩, if_neg h1, b113_5, if_neg h2, b113_10, b113_15]
      rfl
theorem pz_rgM {x : Int32} {n : Nat} (hn : n < 2 ^ 31) : (¬ x < 0 ∧ ¬ nI n - nI 1 < x) ↔ pz_rg x n := by
  constructor
  · rintro ⟨h1, h2⟩
    obtain ⟨j, hj, rfl⟩ := nI_of h1
    refine ⟨j, ?_, rfl⟩
    cases n with
    | zero => exact absurd ((pz_mG hj).mpr trivial) h2
    | succ m =>
      rw [show nI (m + 1) - nI 1 = nI m from nI_pred m, nI_ltI (by omega) hj] at h2
      omega
  · rintro ⟨j, hj, rfl⟩
    refine ⟨nI_pos (by omega), ?_⟩
    cases n with
    | zero => omega
    | succ m =>
      rw [show nI (m + 1) - nI 1 = nI m from nI_pred m, nI_ltI (by omega) (by omega)]
      omega
theorem pz_rgE {x : Int32} {n : Nat} (hn : n < 2 ^ 31) : pz_b (¬ x < 0 ∧ ¬ nI n - nI 1 < x) = pz_b (pz_rg x n) := by rw [propext (pz_rgM hn)]
theorem sM123 {x : Int32} (hA : pz_wf ck A) (hM : pz_M A I) : mm_ev 123 0 [some (.inr (.inr (9, 0))), some (.inl (x))] [] (ids, I, L, mm_RM) = some (some (.inl (pz_b (pz_rg x (A 0 0 0)))), (ids, I, L, mm_RM)) := by
  have := hA.2.1
  rw [b123_0, (pz_M0 hM).1, sM113, pz_k1, pz_rgE (by omega)]
  simp (disch := omega) only [b123_11, pz_k0, pz_k1, pz_k2, pz_k3, pz_k4, pz_k5, pz_k6, pz_k7, pz_k8, pz_k9, pz_k10, pz_k16, pz_k31, pz_k63, pz_km, nI_add, pz_mul, nI_ltI, nI_eq, nI_clamp, pz_inI, Option.bind_some, Option.toList_some, Option.toList_none, List.cons_append, List.nil_append, Nat.zero_add, Nat.mul_zero, Nat.add_zero, Nat.lt_irrefl, pz_bb, pz_bTr, Bool.false_eq_true, pz_bFa, Nat.reduceEqDiff, Nat.reduceLT, ite_not, pz_mE, pz_mE2, pz_mL, pz_mG, not_true_eq_false, not_false_eq_true, if_true, if_false, reduceIte, eq_self, true_or, or_true, or_false, false_or, and_true, true_and, and_false, false_and]
theorem sM134 {x : Int32} (hA : pz_wf ck A) (hM : pz_M A I) : mm_ev 134 0 [some (.inr (.inr (9, 0))), some (.inl (x))] [] (ids, I, L, mm_RM) = some (some (.inl (pz_b (pz_rg x (A 6 0 0)))), (ids, I, L, mm_RM)) := by
  have := hA.2.2.2.1
  rw [b134_0, (pz_M0 hM).2.1, sM113, pz_k1, pz_rgE (by omega)]
  simp (disch := omega) only [b134_11, pz_k0, pz_k1, pz_k2, pz_k3, pz_k4, pz_k5, pz_k6, pz_k7, pz_k8, pz_k9, pz_k10, pz_k16, pz_k31, pz_k63, pz_km, nI_add, pz_mul, nI_ltI, nI_eq, nI_clamp, pz_inI, Option.bind_some, Option.toList_some, Option.toList_none, List.cons_append, List.nil_append, Nat.zero_add, Nat.mul_zero, Nat.add_zero, Nat.lt_irrefl, pz_bb, pz_bTr, Bool.false_eq_true, pz_bFa, Nat.reduceEqDiff, Nat.reduceLT, ite_not, pz_mE, pz_mE2, pz_mL, pz_mG, not_true_eq_false, not_false_eq_true, if_true, if_false, reduceIte, eq_self, true_or, or_true, or_false, false_or, and_true, true_and, and_false, false_and]
theorem sM132 {x : Int32} : mm_ev 132 0 [some (.inl (x))] [] (ids, I, L, mm_RM) = some (some (.inl (pz_b (pz_rg x 6))), (ids, I, L, mm_RM)) := by
  rw [b132_0, sM113, show (5 : Int32) = nI 6 - nI 1 from rfl, pz_rgE (by omega)]
  simp (disch := omega) only [b132_6, pz_k0, pz_k1, pz_k2, pz_k3, pz_k4, pz_k5, pz_k6, pz_k7, pz_k8, pz_k9, pz_k10, pz_k16, pz_k31, pz_k63, pz_km, nI_add, pz_mul, nI_ltI, nI_eq, nI_clamp, pz_inI, Option.bind_some, Option.toList_some, Option.toList_none, List.cons_append, List.nil_append, Nat.zero_add, Nat.mul_zero, Nat.add_zero, Nat.lt_irrefl, pz_bb, pz_bTr, Bool.false_eq_true, pz_bFa, Nat.reduceEqDiff, Nat.reduceLT, ite_not, pz_mE, pz_mE2, pz_mL, pz_mG, not_true_eq_false, not_false_eq_true, if_true, if_false, reduceIte, eq_self, true_or, or_true, or_false, false_or, and_true, true_and, and_false, false_and]
theorem sM133 {x : Int32} : mm_ev 133 0 [some (.inl (x))] [] (ids, I, L, mm_RM) = some (some (.inl (pz_b (pz_rg x 6))), (ids, I, L, mm_RM)) := by
  rw [b133_0, sM113, show (5 : Int32) = nI 6 - nI 1 from rfl, pz_rgE (by omega)]
  simp (disch := omega) only [b133_6, pz_k0, pz_k1, pz_k2, pz_k3, pz_k4, pz_k5, pz_k6, pz_k7, pz_k8, pz_k9, pz_k10, pz_k16, pz_k31, pz_k63, pz_km, nI_add, pz_mul, nI_ltI, nI_eq, nI_clamp, pz_inI, Option.bind_some, Option.toList_some, Option.toList_none, List.cons_append, List.nil_append, Nat.zero_add, Nat.mul_zero, Nat.add_zero, Nat.lt_irrefl, pz_bb, pz_bTr, Bool.false_eq_true, pz_bFa, Nat.reduceEqDiff, Nat.reduceLT, ite_not, pz_mE, pz_mE2, pz_mL, pz_mG, not_true_eq_false, not_false_eq_true, if_true, if_false, reduceIte, eq_self, true_or, or_true, or_false, false_or, and_true, true_and, and_false, false_and]
theorem sM114 (hv : v < 512) (hs : s < 10) : mm_ev 114 0 [some (.inl (nI v)), some (.inl (nI s))] [] (ids, I, L, mm_RM) = some (some (.inl (pz_b (pz_bt v s = 1))), (ids, I, L, mm_RM)) := by
  have hbt := pz_bt2 (v := v) (s := s)
  rw [b114_0]
  by_cases h : pz_bt v s = 1
  · rw [pz_bT h]
    simp (disch := omega) only [pz_bit, h, b114_9, b114_14, pz_k0, pz_k1, pz_k2, pz_k3, pz_k4, pz_k5, pz_k6, pz_k7, pz_k8, pz_k9, pz_k10, pz_k16, pz_k31, pz_k63, pz_km, nI_add, pz_mul, nI_ltI, nI_eq, nI_clamp, pz_inI, Option.bind_some, Option.toList_some, Option.toList_none, List.cons_append, List.nil_append, Nat.zero_add, Nat.mul_zero, Nat.add_zero, Nat.lt_irrefl, pz_bb, pz_bTr, Bool.false_eq_true, pz_bFa, Nat.reduceEqDiff, Nat.reduceLT, ite_not, pz_mE, pz_mE2, pz_mL, pz_mG, not_true_eq_false, not_false_eq_true, if_true, if_false, reduceIte, eq_self, true_or, or_true, or_false, false_or, and_true, true_and, and_false, false_and]
  · rw [pz_bF h]
    simp (disch := omega) only [pz_bit, h, b114_13, b114_14, pz_k0, pz_k1, pz_k2, pz_k3, pz_k4, pz_k5, pz_k6, pz_k7, pz_k8, pz_k9, pz_k10, pz_k16, pz_k31, pz_k63, pz_km, nI_add, pz_mul, nI_ltI, nI_eq, nI_clamp, pz_inI, Option.bind_some, Option.toList_some, Option.toList_none, List.cons_append, List.nil_append, Nat.zero_add, Nat.mul_zero, Nat.add_zero, Nat.lt_irrefl, pz_bb, pz_bTr, Bool.false_eq_true, pz_bFa, Nat.reduceEqDiff, Nat.reduceLT, ite_not, pz_mE, pz_mE2, pz_mL, pz_mG, not_true_eq_false, not_false_eq_true, if_true, if_false, reduceIte, eq_self, true_or, or_true, or_false, false_or, and_true, true_and, and_false, false_and]
def pz_cn (v : Nat) : Nat → Nat
  | 0 => 0
  | k + 1 => pz_cn v k + pz_bt v k
theorem pz_cn6 {v : Nat} : pz_cn v 6 = pz_pop v := by
  show 0 + pz_bt v 0 + _ + _ + _ + _ + _ = _
  rw [Nat.zero_add]
  rfl
theorem sM115 (hv : v < 512) : mm_ev 115 0 [some (.inl (nI v)), none, none] [] (ids, I, L, mm_RM) = some (some (.inl (nI (pz_pop v))), (ids, I, L, mm_RM)) := by
  rw [b115_0]
  refine (pz_loop (fun k => mm_ev 115 4 [some (.inl (nI v)), some (.inl (nI (pz_cn v k))), some (.inl (nI k))] [] (ids, I, L, mm_RM)) 6 (fun k hk => ?_)).trans ?_
  · show mm_ev 115 4 [some (.inl (nI v)), some (.inl (nI (pz_cn v k))), some (.inl (nI k))] [] (ids, I, L, mm_RM) = mm_ev 115 4 [some (.inl (nI v)), some (.inl (nI (pz_cn v k + pz_bt v k))), some (.inl (nI (k + 1)))] [] (ids, I, L, mm_RM)
    rw [b115_4]
    simp (disch := omega) only [hk, b115_10, pz_bit, pz_k0, pz_k1, pz_k2, pz_k3, pz_k4, pz_k5, pz_k6, pz_k7, pz_k8, pz_k9, pz_k10, pz_k16, pz_k31, pz_k63, pz_km, nI_add, pz_mul, nI_ltI, nI_eq, nI_clamp, pz_inI, Option.bind_some, Option.toList_some, Option.toList_none, List.cons_append, List.nil_append, Nat.zero_add, Nat.mul_zero, Nat.add_zero, Nat.lt_irrefl, pz_bb, pz_bTr, Bool.false_eq_true, pz_bFa, Nat.reduceEqDiff, Nat.reduceLT, ite_not, pz_mE, pz_mE2, pz_mL, pz_mG, not_true_eq_false, not_false_eq_true, if_true, if_false, reduceIte, eq_self, true_or, or_true, or_false, false_or, and_true, true_and, and_false, false_and]
  · show mm_ev 115 4 [some (.inl (nI v)), some (.inl (nI (pz_cn v 6))), some (.inl (nI 6))] [] (ids, I, L, mm_RM) = _
    rw [b115_4, pz_cn6]
    simp (disch := omega) only [b115_24, pz_k0, pz_k1, pz_k2, pz_k3, pz_k4, pz_k5, pz_k6, pz_k7, pz_k8, pz_k9, pz_k10, pz_k16, pz_k31, pz_k63, pz_km, nI_add, pz_mul, nI_ltI, nI_eq, nI_clamp, pz_inI, Option.bind_some, Option.toList_some, Option.toList_none, List.cons_append, List.nil_append, Nat.zero_add, Nat.mul_zero, Nat.add_zero, Nat.lt_irrefl, pz_bb, pz_bTr, Bool.false_eq_true, pz_bFa, Nat.reduceEqDiff, Nat.reduceLT, ite_not, pz_mE, pz_mE2, pz_mL, pz_mG, not_true_eq_false, not_false_eq_true, if_true, if_false, reduceIte, eq_self, true_or, or_true, or_false, false_or, and_true, true_and, and_false, false_and]
/-- songSet -/
theorem sM124 (hA : pz_wf ck A) (hM : pz_M A I) (hb : b < A 0 0 0) : mm_ev 124 0 [some (.inr (.inr (9, 0))), some (.inl (nI b)), none, none] [] (ids, I, L, mm_RM) = some (some (.inl (nI (pz_vs (A 5 b) (A 4 b 0)))), (ids, I, L, mm_RM)) := by
  have h9 := hA.2.1
  have hb9 : b < 9 := by omega
  obtain ⟨-, -, -, -, a4, a5, a6⟩ := hA.2.2.1 b hb
  obtain ⟨-, -, -, c4, c5, -⟩ := pz_M0b hM hb
  rw [b124_0]
  refine (pz_loop (fun k => mm_ev 124 4 [some (.inr (.inr (9, 0))), some (.inl (nI b)), some (.inl (nI (pz_vs (A 5 b) k))), some (.inl (nI k))] [] (ids, I, L, mm_RM)) (A 4 b 0) (fun k hk => ?_)).trans ?_
  · have f1 := a6 k hk
    have f2 := c5 k hk
    show mm_ev 124 4 [some (.inr (.inr (9, 0))), some (.inl (nI b)), some (.inl (nI (pz_vs (A 5 b) k))), some (.inl (nI k))] [] (ids, I, L, mm_RM) = mm_ev 124 4 [some (.inr (.inr (9, 0))), some (.inl (nI b)), some (.inl (nI (pz_vs (A 5 b) k ||| 2 ^ A 5 b k))), some (.inl (nI (k + 1)))] [] (ids, I, L, mm_RM)
    rw [b124_4]
    simp (disch := omega) only [hb9, c4, hk, b124_11, b124_14, b124_26, f2, pz_one, pz_or, show 5 * b + k < 45 by omega, pz_k0, pz_k1, pz_k2, pz_k3, pz_k4, pz_k5, pz_k6, pz_k7, pz_k8, pz_k9, pz_k10, pz_k16, pz_k31, pz_k63, pz_km, nI_add, pz_mul, nI_ltI, nI_eq, nI_clamp, pz_inI, Option.bind_some, Option.toList_some, Option.toList_none, List.cons_append, List.nil_append, Nat.zero_add, Nat.mul_zero, Nat.add_zero, Nat.lt_irrefl, pz_bb, pz_bTr, Bool.false_eq_true, pz_bFa, Nat.reduceEqDiff, Nat.reduceLT, ite_not, pz_mE, pz_mE2, pz_mL, pz_mG, not_true_eq_false, not_false_eq_true, if_true, if_false, reduceIte, eq_self, true_or, or_true, or_false, false_or, and_true, true_and, and_false, false_and]
  · show mm_ev 124 4 [some (.inr (.inr (9, 0))), some (.inl (nI b)), some (.inl (nI (pz_vs (A 5 b) (A 4 b 0)))), some (.inl (nI (A 4 b 0)))] [] (ids, I, L, mm_RM) = _
    rw [b124_4]
    simp (disch := omega) only [hb9, c4, b124_11, b124_35, pz_k0, pz_k1, pz_k2, pz_k3, pz_k4, pz_k5, pz_k6, pz_k7, pz_k8, pz_k9, pz_k10, pz_k16, pz_k31, pz_k63, pz_km, nI_add, pz_mul, nI_ltI, nI_eq, nI_clamp, pz_inI, Option.bind_some, Option.toList_some, Option.toList_none, List.cons_append, List.nil_append, Nat.zero_add, Nat.mul_zero, Nat.add_zero, Nat.lt_irrefl, pz_bb, pz_bTr, Bool.false_eq_true, pz_bFa, Nat.reduceEqDiff, Nat.reduceLT, ite_not, pz_mE, pz_mE2, pz_mL, pz_mG, not_true_eq_false, not_false_eq_true, if_true, if_false, reduceIte, eq_self, true_or, or_true, or_false, false_or, and_true, true_and, and_false, false_and]
/-- length -/
theorem sM125 (hA : pz_wf ck A) (hM : pz_M A I) (hb : b < A 0 0 0) : mm_ev 125 0 [some (.inr (.inr (9, 0))), some (.inl (nI b))] [] (ids, I, L, mm_RM) = some (some (.inl (nI (pz_len A b))), (ids, I, L, mm_RM)) := by
  have h9 := hA.2.1
  have hb9 : b < 9 := by omega
  obtain ⟨a1, -, -, -, a4, a5, a6⟩ := hA.2.2.1 b hb
  obtain ⟨c1, -, -, c4, c5, -⟩ := pz_M0b hM hb
  have hv := pz_vs_lt a6
  unfold pz_len
  rw [b125_0]
  by_cases h : A 1 b 0 = 2
  · simp (disch := omega) only [hb9, c1, h, b125_6, b125_10, sM124 hA hM hb, b125_15, sM115 (show pz_vs (A 5 b) (A 4 b 0) < 512 by omega), b125_18, b125_27, pz_k0, pz_k1, pz_k2, pz_k3, pz_k4, pz_k5, pz_k6, pz_k7, pz_k8, pz_k9, pz_k10, pz_k16, pz_k31, pz_k63, pz_km, nI_add, pz_mul, nI_ltI, nI_eq, nI_clamp, pz_inI, Option.bind_some, Option.toList_some, Option.toList_none, List.cons_append, List.nil_append, Nat.zero_add, Nat.mul_zero, Nat.add_zero, Nat.lt_irrefl, pz_bb, pz_bTr, Bool.false_eq_true, pz_bFa, Nat.reduceEqDiff, Nat.reduceLT, ite_not, pz_mE, pz_mE2, pz_mL, pz_mG, not_true_eq_false, not_false_eq_true, if_true, if_false, reduceIte, eq_self, true_or, or_true, or_false, false_or, and_true, true_and, and_false, false_and]
  · simp (disch := omega) only [hb9, c1, h, b125_6, b125_21, c4, b125_27, pz_k0, pz_k1, pz_k2, pz_k3, pz_k4, pz_k5, pz_k6, pz_k7, pz_k8, pz_k9, pz_k10, pz_k16, pz_k31, pz_k63, pz_km, nI_add, pz_mul, nI_ltI, nI_eq, nI_clamp, pz_inI, Option.bind_some, Option.toList_some, Option.toList_none, List.cons_append, List.nil_append, Nat.zero_add, Nat.mul_zero, Nat.add_zero, Nat.lt_irrefl, pz_bb, pz_bTr, Bool.false_eq_true, pz_bFa, Nat.reduceEqDiff, Nat.reduceLT, ite_not, pz_mE, pz_mE2, pz_mL, pz_mG, not_true_eq_false, not_false_eq_true, if_true, if_false, reduceIte, eq_self, true_or, or_true, or_false, false_or, and_true, true_and, and_false, false_and]
/-- canSing -/
theorem sM140 (hA : pz_wf ck A) (hM : pz_M A I) (hb : b < A 0 0 0) (hv : v < 64) : mm_ev 140 0 [some (.inr (.inr (9, 0))), some (.inl (nI b)), some (.inl (nI v)), none, none] [] (ids, I, L, mm_RM) = some (some (.inl (pz_b (pz_op A b v))), (ids, I, L, mm_RM)) := by
  have h9 := hA.2.1
  have hb9 : b < 9 := by omega
  obtain ⟨a1, -, -, -, a4, a5, a6⟩ := hA.2.2.1 b hb
  obtain ⟨c1, -, -, c4, c5, -⟩ := pz_M0b hM hb
  have hst : pz_st (A 1 b 0) ≤ 1 := by unfold pz_st; split <;> omega
  have h0 : mm_ev 140 0 [some (.inr (.inr (9, 0))), some (.inl (nI b)), some (.inl (nI v)), none, none] [] (ids, I, L, mm_RM) = mm_ev 140 19 [some (.inr (.inr (9, 0))), some (.inl (nI b)), some (.inl (nI v)), some (.inl (nI 0)), some (.inl (nI (pz_st (A 1 b 0))))] [] (ids, I, L, mm_RM) := by
    rw [b140_0]
    unfold pz_st
    by_cases h : A 1 b 0 = 3
    · simp (disch := omega) only [hb9, c1, h, b140_8, b140_12, b140_17, pz_k0, pz_k1, pz_k2, pz_k3, pz_k4, pz_k5, pz_k6, pz_k7, pz_k8, pz_k9, pz_k10, pz_k16, pz_k31, pz_k63, pz_km, nI_add, pz_mul, nI_ltI, nI_eq, nI_clamp, pz_inI, Option.bind_some, Option.toList_some, Option.toList_none, List.cons_append, List.nil_append, Nat.zero_add, Nat.mul_zero, Nat.add_zero, Nat.lt_irrefl, pz_bb, pz_bTr, Bool.false_eq_true, pz_bFa, Nat.reduceEqDiff, Nat.reduceLT, ite_not, pz_mE, pz_mE2, pz_mL, pz_mG, not_true_eq_false, not_false_eq_true, if_true, if_false, reduceIte, eq_self, true_or, or_true, or_false, false_or, and_true, true_and, and_false, false_and]
    · simp (disch := omega) only [hb9, c1, h, b140_8, b140_16, b140_17, pz_k0, pz_k1, pz_k2, pz_k3, pz_k4, pz_k5, pz_k6, pz_k7, pz_k8, pz_k9, pz_k10, pz_k16, pz_k31, pz_k63, pz_km, nI_add, pz_mul, nI_ltI, nI_eq, nI_clamp, pz_inI, Option.bind_some, Option.toList_some, Option.toList_none, List.cons_append, List.nil_append, Nat.zero_add, Nat.mul_zero, Nat.add_zero, Nat.lt_irrefl, pz_bb, pz_bTr, Bool.false_eq_true, pz_bFa, Nat.reduceEqDiff, Nat.reduceLT, ite_not, pz_mE, pz_mE2, pz_mL, pz_mG, not_true_eq_false, not_false_eq_true, if_true, if_false, reduceIte, eq_self, true_or, or_true, or_false, false_or, and_true, true_and, and_false, false_and]
  rw [h0]
  obtain ⟨d, hd⟩ : ∃ d, pz_st (A 1 b 0) + d = A 4 b 0 := ⟨A 4 b 0 - pz_st (A 1 b 0), by omega⟩
  have hl := pz_loop (fun k => mm_ev 140 19 [some (.inr (.inr (9, 0))), some (.inl (nI b)), some (.inl (nI v)), some (.inl (nI (pz_lk (A 5 b) (pz_st (A 1 b 0)) v (pz_st (A 1 b 0) + k)))), some (.inl (nI (pz_st (A 1 b 0) + k)))] [] (ids, I, L, mm_RM)) d (fun k hk => ?_)
  · have hl : mm_ev 140 19 [some (.inr (.inr (9, 0))), some (.inl (nI b)), some (.inl (nI v)), some (.inl (nI (pz_lk (A 5 b) (pz_st (A 1 b 0)) v (pz_st (A 1 b 0) + 0)))), some (.inl (nI (pz_st (A 1 b 0) + 0)))] [] (ids, I, L, mm_RM) = mm_ev 140 19 [some (.inr (.inr (9, 0))), some (.inl (nI b)), some (.inl (nI v)), some (.inl (nI (pz_lk (A 5 b) (pz_st (A 1 b 0)) v (pz_st (A 1 b 0) + d)))), some (.inl (nI (pz_st (A 1 b 0) + d)))] [] (ids, I, L, mm_RM) := hl
    rw [Nat.add_zero, pz_lk_st hst, hd] at hl
    rw [hl, b140_19]
    have hle := pz_lk_le (f := A 5 b) (st := pz_st (A 1 b 0)) (v := v) (A 4 b 0)
    simp (disch := omega) only [hb9, c4, b140_27, pz_k0, pz_k1, pz_k2, pz_k3, pz_k4, pz_k5, pz_k6, pz_k7, pz_k8, pz_k9, pz_k10, pz_k16, pz_k31, pz_k63, pz_km, nI_add, pz_mul, nI_ltI, nI_eq, nI_clamp, pz_inI, Option.bind_some, Option.toList_some, Option.toList_none, List.cons_append, List.nil_append, Nat.zero_add, Nat.mul_zero, Nat.add_zero, Nat.lt_irrefl, pz_bb, pz_bTr, Bool.false_eq_true, pz_bFa, Nat.reduceEqDiff, Nat.reduceLT, ite_not, pz_mE, pz_mE2, pz_mL, pz_mG, not_true_eq_false, not_false_eq_true, if_true, if_false, reduceIte, eq_self, true_or, or_true, or_false, false_or, and_true, true_and, and_false, false_and]
    unfold pz_op pz_cont
    generalize pz_lk (A 5 b) (pz_st (A 1 b 0)) v (A 4 b 0) = q at hle ⊢
    rw [b140_62]
    by_cases k1 : A 1 b 0 = 1
    · by_cases q1 : q < 2
      · by_cases v0 : v = 0
        · rw [pz_bF (by rw [if_pos (Or.inl k1)]; omega)]
          simp (disch := omega) only [hb9, c1, k1, b140_68, b140_82, q1, b140_87, v0, b140_95, b140_108, pz_k0, pz_k1, pz_k2, pz_k3, pz_k4, pz_k5, pz_k6, pz_k7, pz_k8, pz_k9, pz_k10, pz_k16, pz_k31, pz_k63, pz_km, nI_add, pz_mul, nI_ltI, nI_eq, nI_clamp, pz_inI, Option.bind_some, Option.toList_some, Option.toList_none, List.cons_append, List.nil_append, Nat.zero_add, Nat.mul_zero, Nat.add_zero, Nat.lt_irrefl, pz_bb, pz_bTr, Bool.false_eq_true, pz_bFa, Nat.reduceEqDiff, Nat.reduceLT, ite_not, pz_mE, pz_mE2, pz_mL, pz_mG, not_true_eq_false, not_false_eq_true, if_true, if_false, reduceIte, eq_self, true_or, or_true, or_false, false_or, and_true, true_and, and_false, false_and]
        · rw [pz_bT (by rw [if_pos (Or.inl k1)]; omega)]
          simp (disch := omega) only [hb9, c1, k1, b140_68, b140_82, q1, b140_87, v0, b140_91, b140_108, pz_k0, pz_k1, pz_k2, pz_k3, pz_k4, pz_k5, pz_k6, pz_k7, pz_k8, pz_k9, pz_k10, pz_k16, pz_k31, pz_k63, pz_km, nI_add, pz_mul, nI_ltI, nI_eq, nI_clamp, pz_inI, Option.bind_some, Option.toList_some, Option.toList_none, List.cons_append, List.nil_append, Nat.zero_add, Nat.mul_zero, Nat.add_zero, Nat.lt_irrefl, pz_bb, pz_bTr, Bool.false_eq_true, pz_bFa, Nat.reduceEqDiff, Nat.reduceLT, ite_not, pz_mE, pz_mE2, pz_mL, pz_mG, not_true_eq_false, not_false_eq_true, if_true, if_false, reduceIte, eq_self, true_or, or_true, or_false, false_or, and_true, true_and, and_false, false_and]
      · rw [pz_bF (by rw [if_pos (Or.inl k1)]; omega)]
        simp (disch := omega) only [hb9, c1, k1, b140_68, b140_82, q1, b140_95, b140_108, pz_k0, pz_k1, pz_k2, pz_k3, pz_k4, pz_k5, pz_k6, pz_k7, pz_k8, pz_k9, pz_k10, pz_k16, pz_k31, pz_k63, pz_km, nI_add, pz_mul, nI_ltI, nI_eq, nI_clamp, pz_inI, Option.bind_some, Option.toList_some, Option.toList_none, List.cons_append, List.nil_append, Nat.zero_add, Nat.mul_zero, Nat.add_zero, Nat.lt_irrefl, pz_bb, pz_bTr, Bool.false_eq_true, pz_bFa, Nat.reduceEqDiff, Nat.reduceLT, ite_not, pz_mE, pz_mE2, pz_mL, pz_mG, not_true_eq_false, not_false_eq_true, if_true, if_false, reduceIte, eq_self, true_or, or_true, or_false, false_or, and_true, true_and, and_false, false_and]
    · by_cases k3 : A 1 b 0 = 3
      · have k31 : ¬ (3 = 1) := by decide
        by_cases q1 : q < 2
        · by_cases v0 : v = 0
          · rw [pz_bF (by rw [if_pos (Or.inr k3)]; omega)]
            simp (disch := omega) only [hb9, c1, k3, k31, b140_68, b140_72, b140_78, b140_82, q1, b140_87, v0, b140_95, b140_108, pz_k0, pz_k1, pz_k2, pz_k3, pz_k4, pz_k5, pz_k6, pz_k7, pz_k8, pz_k9, pz_k10, pz_k16, pz_k31, pz_k63, pz_km, nI_add, pz_mul, nI_ltI, nI_eq, nI_clamp, pz_inI, Option.bind_some, Option.toList_some, Option.toList_none, List.cons_append, List.nil_append, Nat.zero_add, Nat.mul_zero, Nat.add_zero, Nat.lt_irrefl, pz_bb, pz_bTr, Bool.false_eq_true, pz_bFa, Nat.reduceEqDiff, Nat.reduceLT, ite_not, pz_mE, pz_mE2, pz_mL, pz_mG, not_true_eq_false, not_false_eq_true, if_true, if_false, reduceIte, eq_self, true_or, or_true, or_false, false_or, and_true, true_and, and_false, false_and]
          · rw [pz_bT (by rw [if_pos (Or.inr k3)]; omega)]
            simp (disch := omega) only [hb9, c1, k3, k31, b140_68, b140_72, b140_78, b140_82, q1, b140_87, v0, b140_91, b140_108, pz_k0, pz_k1, pz_k2, pz_k3, pz_k4, pz_k5, pz_k6, pz_k7, pz_k8, pz_k9, pz_k10, pz_k16, pz_k31, pz_k63, pz_km, nI_add, pz_mul, nI_ltI, nI_eq, nI_clamp, pz_inI, Option.bind_some, Option.toList_some, Option.toList_none, List.cons_append, List.nil_append, Nat.zero_add, Nat.mul_zero, Nat.add_zero, Nat.lt_irrefl, pz_bb, pz_bTr, Bool.false_eq_true, pz_bFa, Nat.reduceEqDiff, Nat.reduceLT, ite_not, pz_mE, pz_mE2, pz_mL, pz_mG, not_true_eq_false, not_false_eq_true, if_true, if_false, reduceIte, eq_self, true_or, or_true, or_false, false_or, and_true, true_and, and_false, false_and]
        · rw [pz_bF (by rw [if_pos (Or.inr k3)]; omega)]
          simp (disch := omega) only [hb9, c1, k3, k31, b140_68, b140_72, b140_78, b140_82, q1, b140_95, b140_108, pz_k0, pz_k1, pz_k2, pz_k3, pz_k4, pz_k5, pz_k6, pz_k7, pz_k8, pz_k9, pz_k10, pz_k16, pz_k31, pz_k63, pz_km, nI_add, pz_mul, nI_ltI, nI_eq, nI_clamp, pz_inI, Option.bind_some, Option.toList_some, Option.toList_none, List.cons_append, List.nil_append, Nat.zero_add, Nat.mul_zero, Nat.add_zero, Nat.lt_irrefl, pz_bb, pz_bTr, Bool.false_eq_true, pz_bFa, Nat.reduceEqDiff, Nat.reduceLT, ite_not, pz_mE, pz_mE2, pz_mL, pz_mG, not_true_eq_false, not_false_eq_true, if_true, if_false, reduceIte, eq_self, true_or, or_true, or_false, false_or, and_true, true_and, and_false, false_and]
      · by_cases q0 : q = 0
        · rw [pz_bT (by rw [if_neg (by omega)]; omega)]
          simp (disch := omega) only [hb9, c1, k1, k3, b140_68, b140_72, b140_78, b140_99, q0, b140_103, b140_108, pz_k0, pz_k1, pz_k2, pz_k3, pz_k4, pz_k5, pz_k6, pz_k7, pz_k8, pz_k9, pz_k10, pz_k16, pz_k31, pz_k63, pz_km, nI_add, pz_mul, nI_ltI, nI_eq, nI_clamp, pz_inI, Option.bind_some, Option.toList_some, Option.toList_none, List.cons_append, List.nil_append, Nat.zero_add, Nat.mul_zero, Nat.add_zero, Nat.lt_irrefl, pz_bb, pz_bTr, Bool.false_eq_true, pz_bFa, Nat.reduceEqDiff, Nat.reduceLT, ite_not, pz_mE, pz_mE2, pz_mL, pz_mG, not_true_eq_false, not_false_eq_true, if_true, if_false, reduceIte, eq_self, true_or, or_true, or_false, false_or, and_true, true_and, and_false, false_and]
        · rw [pz_bF (by rw [if_neg (by omega)]; omega)]
          simp (disch := omega) only [hb9, c1, k1, k3, b140_68, b140_72, b140_78, b140_99, q0, b140_107, b140_108, pz_k0, pz_k1, pz_k2, pz_k3, pz_k4, pz_k5, pz_k6, pz_k7, pz_k8, pz_k9, pz_k10, pz_k16, pz_k31, pz_k63, pz_km, nI_add, pz_mul, nI_ltI, nI_eq, nI_clamp, pz_inI, Option.bind_some, Option.toList_some, Option.toList_none, List.cons_append, List.nil_append, Nat.zero_add, Nat.mul_zero, Nat.add_zero, Nat.lt_irrefl, pz_bb, pz_bTr, Bool.false_eq_true, pz_bFa, Nat.reduceEqDiff, Nat.reduceLT, ite_not, pz_mE, pz_mE2, pz_mL, pz_mG, not_true_eq_false, not_false_eq_true, if_true, if_false, reduceIte, eq_self, true_or, or_true, or_false, false_or, and_true, true_and, and_false, false_and]
  · show mm_ev 140 19 [some (.inr (.inr (9, 0))), some (.inl (nI b)), some (.inl (nI v)), some (.inl (nI (pz_lk (A 5 b) (pz_st (A 1 b 0)) v (pz_st (A 1 b 0) + k)))), some (.inl (nI (pz_st (A 1 b 0) + k)))] [] (ids, I, L, mm_RM) = mm_ev 140 19 [some (.inr (.inr (9, 0))), some (.inl (nI b)), some (.inl (nI v)), some (.inl (nI (pz_lk (A 5 b) (pz_st (A 1 b 0)) v (pz_st (A 1 b 0) + k) + (if pz_st (A 1 b 0) ≤ pz_st (A 1 b 0) + k then 1 - pz_bt v (A 5 b (pz_st (A 1 b 0) + k)) else 0)))), some (.inl (nI (pz_st (A 1 b 0) + k + 1)))] [] (ids, I, L, mm_RM)
    rw [if_pos (by omega)]
    have hj : pz_st (A 1 b 0) + k < A 4 b 0 := by omega
    have f1 := a6 _ hj
    have f2 := c5 _ hj
    have f1' : A 5 b (pz_st (A 1 b 0) + k) < 10 := by omega
    have hv' : v < 512 := by omega
    have hbt := pz_bt2 (v := v) (s := A 5 b (pz_st (A 1 b 0) + k))
    rw [b140_19]
    by_cases hz : pz_bt v (A 5 b (pz_st (A 1 b 0) + k)) = 1
    · simp (disch := omega) only [hb9, c4, hj, b140_27, b140_30, show 5 * b + (pz_st (A 1 b 0) + k) < 45 by omega, f2, b140_43, sM114 hv' f1', pz_bT hz, b140_46, show ¬ (1 = 0) by decide, b140_49, b140_54, hz, Nat.sub_self, pz_k0, pz_k1, pz_k2, pz_k3, pz_k4, pz_k5, pz_k6, pz_k7, pz_k8, pz_k9, pz_k10, pz_k16, pz_k31, pz_k63, pz_km, nI_add, pz_mul, nI_ltI, nI_eq, nI_clamp, pz_inI, Option.bind_some, Option.toList_some, Option.toList_none, List.cons_append, List.nil_append, Nat.zero_add, Nat.mul_zero, Nat.add_zero, Nat.lt_irrefl, pz_bb, pz_bTr, Bool.false_eq_true, pz_bFa, Nat.reduceEqDiff, Nat.reduceLT, ite_not, pz_mE, pz_mE2, pz_mL, pz_mG, not_true_eq_false, not_false_eq_true, if_true, if_false, reduceIte, eq_self, true_or, or_true, or_false, false_or, and_true, true_and, and_false, false_and]
    · have h1 : pz_bt v (A 5 b (pz_st (A 1 b 0) + k)) = 0 := by omega
      simp (disch := omega) only [hb9, c4, hj, b140_27, b140_30, show 5 * b + (pz_st (A 1 b 0) + k) < 45 by omega, f2, b140_43, sM114 hv' f1', pz_bF hz, b140_46, b140_53, b140_54, h1, Nat.sub_zero, pz_k0, pz_k1, pz_k2, pz_k3, pz_k4, pz_k5, pz_k6, pz_k7, pz_k8, pz_k9, pz_k10, pz_k16, pz_k31, pz_k63, pz_km, nI_add, pz_mul, nI_ltI, nI_eq, nI_clamp, pz_inI, Option.bind_some, Option.toList_some, Option.toList_none, List.cons_append, List.nil_append, Nat.zero_add, Nat.mul_zero, Nat.add_zero, Nat.lt_irrefl, pz_bb, pz_bTr, Bool.false_eq_true, pz_bFa, Nat.reduceEqDiff, Nat.reduceLT, ite_not, pz_mE, pz_mE2, pz_mL, pz_mG, not_true_eq_false, not_false_eq_true, if_true, if_false, reduceIte, eq_self, true_or, or_true, or_false, false_or, and_true, true_and, and_false, false_and]
/-- standsAt -/
theorem sM141 {p : Nat} (hA : pz_wf ck A) (hM : pz_M A I) (hb : b < A 0 0 0) (hp : p < 6) : mm_ev 141 0 [some (.inr (.inr (9, 0))), some (.inl (nI b)), some (.inl (nI p))] [] (ids, I, L, mm_RM) = some (some (.inl (pz_b (pz_at A b p))), (ids, I, L, mm_RM)) := by
  have h9 := hA.2.1
  have hb9 : b < 9 := by omega
  obtain ⟨-, a2, a3, -, a4, a5, a6⟩ := hA.2.2.1 b hb
  obtain ⟨-, c2, c3, -⟩ := pz_M0b hM hb
  rw [b141_0]
  by_cases h1 : p = A 2 b 0
  · rw [pz_bT (show pz_at A b p from Or.inl h1)]
    simp (disch := omega) only [hb9, c2, h1, b141_6, b141_20, b141_25, pz_k0, pz_k1, pz_k2, pz_k3, pz_k4, pz_k5, pz_k6, pz_k7, pz_k8, pz_k9, pz_k10, pz_k16, pz_k31, pz_k63, pz_km, nI_add, pz_mul, nI_ltI, nI_eq, nI_clamp, pz_inI, Option.bind_some, Option.toList_some, Option.toList_none, List.cons_append, List.nil_append, Nat.zero_add, Nat.mul_zero, Nat.add_zero, Nat.lt_irrefl, pz_bb, pz_bTr, Bool.false_eq_true, pz_bFa, Nat.reduceEqDiff, Nat.reduceLT, ite_not, pz_mE, pz_mE2, pz_mL, pz_mG, not_true_eq_false, not_false_eq_true, if_true, if_false, reduceIte, eq_self, true_or, or_true, or_false, false_or, and_true, true_and, and_false, false_and]
  · by_cases h2 : p = A 3 b 0
    · rw [pz_bT (show pz_at A b p from Or.inr h2)]
      simp (disch := omega) only [hb9, c2, c3, show ¬ A 2 b 0 = p by omega, b141_6, b141_10, b141_16, h2.symm, b141_20, b141_25, pz_k0, pz_k1, pz_k2, pz_k3, pz_k4, pz_k5, pz_k6, pz_k7, pz_k8, pz_k9, pz_k10, pz_k16, pz_k31, pz_k63, pz_km, nI_add, pz_mul, nI_ltI, nI_eq, nI_clamp, pz_inI, Option.bind_some, Option.toList_some, Option.toList_none, List.cons_append, List.nil_append, Nat.zero_add, Nat.mul_zero, Nat.add_zero, Nat.lt_irrefl, pz_bb, pz_bTr, Bool.false_eq_true, pz_bFa, Nat.reduceEqDiff, Nat.reduceLT, ite_not, pz_mE, pz_mE2, pz_mL, pz_mG, not_true_eq_false, not_false_eq_true, if_true, if_false, reduceIte, eq_self, true_or, or_true, or_false, false_or, and_true, true_and, and_false, false_and]
    · rw [pz_bF (show ¬ pz_at A b p from fun z => z.elim h1 h2)]
      simp (disch := omega) only [hb9, c2, c3, show ¬ A 2 b 0 = p by omega, b141_6, b141_10, b141_16, show ¬ A 3 b 0 = p by omega, b141_24, b141_25, pz_k0, pz_k1, pz_k2, pz_k3, pz_k4, pz_k5, pz_k6, pz_k7, pz_k8, pz_k9, pz_k10, pz_k16, pz_k31, pz_k63, pz_km, nI_add, pz_mul, nI_ltI, nI_eq, nI_clamp, pz_inI, Option.bind_some, Option.toList_some, Option.toList_none, List.cons_append, List.nil_append, Nat.zero_add, Nat.mul_zero, Nat.add_zero, Nat.lt_irrefl, pz_bb, pz_bTr, Bool.false_eq_true, pz_bFa, Nat.reduceEqDiff, Nat.reduceLT, ite_not, pz_mE, pz_mE2, pz_mL, pz_mG, not_true_eq_false, not_false_eq_true, if_true, if_false, reduceIte, eq_self, true_or, or_true, or_false, false_or, and_true, true_and, and_false, false_and]
end PZM
