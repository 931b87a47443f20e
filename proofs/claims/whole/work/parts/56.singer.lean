/-! singer, cross, learn -/
theorem pz_fl_i {I : mm_HI} {c i n c' i' : Nat} {x : Int32} (h : c' ≠ c ∨ i' ≠ i) : pz_fl I c i n x c' i' = I c' i' := by
  funext j
  unfold pz_fl
  rw [if_neg]
  rintro ⟨h1, h2, -⟩
  omega
theorem pz_kk_fl {I' I0 : mm_HI} {c i n : Nat} {z : Int32} (hn : ¬ pz_kk c i) (h : ∀ c' i', pz_kk c' i' → I' c' i' = I0 c' i') : ∀ c' i', pz_kk c' i' → pz_fl I' c i n z c' i' = I0 c' i' := by
  intro c' i' hk
  rw [← h c' i' hk]
  refine pz_fl_i ?_
  refine Classical.byContradiction (fun z => hn ?_)
  rw [show c = c' by omega, show i = i' by omega]
  exact hk
theorem pz_win2 {x : Int32} {n : Nat} (hn : n < 2 ^ 31) (h : ¬ x < nI 1 ∧ ¬ nI n < x) : ∃ w, 1 ≤ w ∧ w ≤ n ∧ x = nI w := by
  by_cases h0 : x < 0
  · refine absurd ?_ h.1
    rw [Int32.lt_iff_toInt_lt] at h0 ⊢
    have e1 : (nI 1).toInt = 1 := by decide
    have e0 : (0 : Int32).toInt = 0 := by decide
    omega
  · obtain ⟨j, hj, rfl⟩ := nI_of h0
    have h1 := h.1
    have h2 := h.2
    rw [nI_ltI hj (by decide)] at h1
    rw [nI_ltI hn hj] at h2
    exact ⟨j, by omega, by omega, rfl⟩
set_option maxRecDepth 100000 in
theorem pz_a2 : ∀ W, W < 64 → ∀ v, v < 6 → ((nI W &&& nI (2 ^ v)) = nI 0 ↔ pz_bt W v = 0) := by decide +kernel
set_option maxRecDepth 100000 in
theorem pz_lrn0 : ∀ K, K < 64 → ∀ v, v < 6 → (2 ^ v &&& (K ||| 2 ^ v)) = 2 ^ v ∧ ∀ u, u < 6 → (pz_bt (K ||| 2 ^ v) u = 1 → (pz_bt K u = 1 ∨ pz_bt (2 ^ v) u = 1)) := by decide +kernel
theorem pz_use_ord {K K' W d ck : Nat} {U V : Nat → Nat} (hU : ∀ v, v < 6 → U v ≤ d ∧ V v ≤ ck) (ho : ∀ u v, u < 6 → v < 6 → pz_bt K u = 1 → pz_bt K v = 1 → (U u < U v ↔ V u < V v)) (hK : ∀ v, v < 6 → pz_bt K' v = 1 → pz_bt K v = 1 ∨ pz_bt W v = 1) : ∀ u v, u < 6 → v < 6 → pz_bt K' u = 1 → pz_bt K' v = 1 → ((if pz_bt W u = 1 then d + 1 else U u) < (if pz_bt W v = 1 then d + 1 else U v) ↔ (if pz_bt W u = 1 then ck + 1 else V u) < (if pz_bt W v = 1 then ck + 1 else V v)) := by
  intro u v hu hv ku kv
  have u1 := hU u hu
  have v1 := hU v hv
  by_cases wu : pz_bt W u = 1
  · by_cases wv : pz_bt W v = 1
    · rw [if_pos wu, if_pos wv, if_pos wu, if_pos wv]
      omega
    · rw [if_pos wu, if_neg wv, if_pos wu, if_neg wv]
      omega
  · by_cases wv : pz_bt W v = 1
    · rw [if_neg wu, if_pos wv, if_neg wu, if_pos wv]
      omega
    · rw [if_neg wu, if_neg wv, if_neg wu, if_neg wv]
      have a := hK u hu ku
      have b := hK v hv kv
      exact ho u v hu hv (by omega) (by omega)
section PZ56
variable {ids : List (Nat × Nat)} {I J I' J' : mm_HI} {L LC LM LC' LM' : mm_HL} {κ f f' : Nat → Nat} {A : pz_A} {k ck n n' g b v s p : Nat}
theorem sC9a {x1 x2 x3 x4 x5 : Int32} : mm_ev 9 10 [some (.inr (.inr (1, 0))), some (.inl (x1)), some (.inl (x2)), some (.inl (x3)), some (.inl (x4)), some (.inl (x5)), none, none] [] (ids, I, L, mm_RS κ) = mm_ev 9 60 [some (.inr (.inr (1, 0))), some (.inl (x1)), some (.inl (x2)), some (.inl (x3)), some (.inl (x4)), some (.inl (x5)), none, none] [(.inl (pz_b ((¬ x2 < nI 0 ∧ ¬ nI 63 < x2) ∧ (¬ x3 < nI 0 ∧ ¬ nI 30 < x3) ∧ (¬ x4 < nI 1 ∧ ¬ nI 6 < x4) ∧ (¬ x5 < nI 0 ∧ ¬ nI 99 < x5))))] (ids, I, L, mm_RS κ) := by
  rw [b9_10]
  by_cases h1 : x2 < nI 0
  · simp (disch := omega) only [h1, b9_59, pz_k0, pz_k1, pz_k2, pz_k3, pz_k4, pz_k5, pz_k6, pz_k7, pz_k8, pz_k9, pz_k10, pz_k16, pz_k31, pz_k63, pz_km, nI_add, pz_mul, nI_ltI, nI_eq, nI_clamp, pz_inI, Option.bind_some, Option.toList_some, Option.toList_none, List.cons_append, List.nil_append, Nat.zero_add, Nat.mul_zero, Nat.add_zero, Nat.lt_irrefl, pz_bb, pz_bTr, Bool.false_eq_true, pz_bFa, Nat.reduceEqDiff, Nat.reduceLT, ite_not, pz_mE, pz_mE2, pz_mL, pz_mG, not_true_eq_false, not_false_eq_true, if_true, if_false, reduceIte, eq_self, true_or, or_true, or_false, false_or, and_true, true_and, and_false, false_and]
  · by_cases h2 : nI 63 < x2
    · simp (disch := omega) only [h1, b9_14, h2, b9_59, pz_k0, pz_k1, pz_k2, pz_k3, pz_k4, pz_k5, pz_k6, pz_k7, pz_k8, pz_k9, pz_k10, pz_k16, pz_k31, pz_k63, pz_km, nI_add, pz_mul, nI_ltI, nI_eq, nI_clamp, pz_inI, Option.bind_some, Option.toList_some, Option.toList_none, List.cons_append, List.nil_append, Nat.zero_add, Nat.mul_zero, Nat.add_zero, Nat.lt_irrefl, pz_bb, pz_bTr, Bool.false_eq_true, pz_bFa, Nat.reduceEqDiff, Nat.reduceLT, ite_not, pz_mE, pz_mE2, pz_mL, pz_mG, not_true_eq_false, not_false_eq_true, if_true, if_false, reduceIte, eq_self, true_or, or_true, or_false, false_or, and_true, true_and, and_false, false_and]
    · by_cases h3 : x3 < nI 0
      · simp (disch := omega) only [h1, b9_14, h2, b9_20, h3, b9_59, pz_k0, pz_k1, pz_k2, pz_k3, pz_k4, pz_k5, pz_k6, pz_k7, pz_k8, pz_k9, pz_k10, pz_k16, pz_k31, pz_k63, pz_km, nI_add, pz_mul, nI_ltI, nI_eq, nI_clamp, pz_inI, Option.bind_some, Option.toList_some, Option.toList_none, List.cons_append, List.nil_append, Nat.zero_add, Nat.mul_zero, Nat.add_zero, Nat.lt_irrefl, pz_bb, pz_bTr, Bool.false_eq_true, pz_bFa, Nat.reduceEqDiff, Nat.reduceLT, ite_not, pz_mE, pz_mE2, pz_mL, pz_mG, not_true_eq_false, not_false_eq_true, if_true, if_false, reduceIte, eq_self, true_or, or_true, or_false, false_or, and_true, true_and, and_false, false_and]
      · by_cases h4 : nI 30 < x3
        · simp (disch := omega) only [h1, b9_14, h2, b9_20, h3, b9_24, pz_k30, h4, b9_59, pz_k0, pz_k1, pz_k2, pz_k3, pz_k4, pz_k5, pz_k6, pz_k7, pz_k8, pz_k9, pz_k10, pz_k16, pz_k31, pz_k63, pz_km, nI_add, pz_mul, nI_ltI, nI_eq, nI_clamp, pz_inI, Option.bind_some, Option.toList_some, Option.toList_none, List.cons_append, List.nil_append, Nat.zero_add, Nat.mul_zero, Nat.add_zero, Nat.lt_irrefl, pz_bb, pz_bTr, Bool.false_eq_true, pz_bFa, Nat.reduceEqDiff, Nat.reduceLT, ite_not, pz_mE, pz_mE2, pz_mL, pz_mG, not_true_eq_false, not_false_eq_true, if_true, if_false, reduceIte, eq_self, true_or, or_true, or_false, false_or, and_true, true_and, and_false, false_and]
        · by_cases h5 : x4 < nI 1
          · simp (disch := omega) only [h1, b9_14, h2, b9_20, h3, b9_24, pz_k30, h4, b9_30, h5, b9_59, pz_k0, pz_k1, pz_k2, pz_k3, pz_k4, pz_k5, pz_k6, pz_k7, pz_k8, pz_k9, pz_k10, pz_k16, pz_k31, pz_k63, pz_km, nI_add, pz_mul, nI_ltI, nI_eq, nI_clamp, pz_inI, Option.bind_some, Option.toList_some, Option.toList_none, List.cons_append, List.nil_append, Nat.zero_add, Nat.mul_zero, Nat.add_zero, Nat.lt_irrefl, pz_bb, pz_bTr, Bool.false_eq_true, pz_bFa, Nat.reduceEqDiff, Nat.reduceLT, ite_not, pz_mE, pz_mE2, pz_mL, pz_mG, not_true_eq_false, not_false_eq_true, if_true, if_false, reduceIte, eq_self, true_or, or_true, or_false, false_or, and_true, true_and, and_false, false_and]
          · by_cases h6 : nI 6 < x4
            · simp (disch := omega) only [h1, b9_14, h2, b9_20, h3, b9_24, pz_k30, h4, b9_30, h5, b9_36, h6, b9_59, pz_k0, pz_k1, pz_k2, pz_k3, pz_k4, pz_k5, pz_k6, pz_k7, pz_k8, pz_k9, pz_k10, pz_k16, pz_k31, pz_k63, pz_km, nI_add, pz_mul, nI_ltI, nI_eq, nI_clamp, pz_inI, Option.bind_some, Option.toList_some, Option.toList_none, List.cons_append, List.nil_append, Nat.zero_add, Nat.mul_zero, Nat.add_zero, Nat.lt_irrefl, pz_bb, pz_bTr, Bool.false_eq_true, pz_bFa, Nat.reduceEqDiff, Nat.reduceLT, ite_not, pz_mE, pz_mE2, pz_mL, pz_mG, not_true_eq_false, not_false_eq_true, if_true, if_false, reduceIte, eq_self, true_or, or_true, or_false, false_or, and_true, true_and, and_false, false_and]
            · by_cases h7 : x5 < nI 0
              · simp (disch := omega) only [h1, b9_14, h2, b9_20, h3, b9_24, pz_k30, h4, b9_30, h5, b9_36, h6, b9_43, h7, b9_59, pz_k0, pz_k1, pz_k2, pz_k3, pz_k4, pz_k5, pz_k6, pz_k7, pz_k8, pz_k9, pz_k10, pz_k16, pz_k31, pz_k63, pz_km, nI_add, pz_mul, nI_ltI, nI_eq, nI_clamp, pz_inI, Option.bind_some, Option.toList_some, Option.toList_none, List.cons_append, List.nil_append, Nat.zero_add, Nat.mul_zero, Nat.add_zero, Nat.lt_irrefl, pz_bb, pz_bTr, Bool.false_eq_true, pz_bFa, Nat.reduceEqDiff, Nat.reduceLT, ite_not, pz_mE, pz_mE2, pz_mL, pz_mG, not_true_eq_false, not_false_eq_true, if_true, if_false, reduceIte, eq_self, true_or, or_true, or_false, false_or, and_true, true_and, and_false, false_and]
              · by_cases h8 : nI 99 < x5
                · simp (disch := omega) only [h1, b9_14, h2, b9_20, h3, b9_24, pz_k30, h4, b9_30, h5, b9_36, h6, b9_43, h7, b9_48, pz_k99, h8, b9_59, pz_k0, pz_k1, pz_k2, pz_k3, pz_k4, pz_k5, pz_k6, pz_k7, pz_k8, pz_k9, pz_k10, pz_k16, pz_k31, pz_k63, pz_km, nI_add, pz_mul, nI_ltI, nI_eq, nI_clamp, pz_inI, Option.bind_some, Option.toList_some, Option.toList_none, List.cons_append, List.nil_append, Nat.zero_add, Nat.mul_zero, Nat.add_zero, Nat.lt_irrefl, pz_bb, pz_bTr, Bool.false_eq_true, pz_bFa, Nat.reduceEqDiff, Nat.reduceLT, ite_not, pz_mE, pz_mE2, pz_mL, pz_mG, not_true_eq_false, not_false_eq_true, if_true, if_false, reduceIte, eq_self, true_or, or_true, or_false, false_or, and_true, true_and, and_false, false_and]
                · simp (disch := omega) only [h1, b9_14, h2, b9_20, h3, b9_24, pz_k30, h4, b9_30, h5, b9_36, h6, b9_43, h7, b9_48, pz_k99, h8, b9_55, pz_k0, pz_k1, pz_k2, pz_k3, pz_k4, pz_k5, pz_k6, pz_k7, pz_k8, pz_k9, pz_k10, pz_k16, pz_k31, pz_k63, pz_km, nI_add, pz_mul, nI_ltI, nI_eq, nI_clamp, pz_inI, Option.bind_some, Option.toList_some, Option.toList_none, List.cons_append, List.nil_append, Nat.zero_add, Nat.mul_zero, Nat.add_zero, Nat.lt_irrefl, pz_bb, pz_bTr, Bool.false_eq_true, pz_bFa, Nat.reduceEqDiff, Nat.reduceLT, ite_not, pz_mE, pz_mE2, pz_mL, pz_mG, not_true_eq_false, not_false_eq_true, if_true, if_false, reduceIte, eq_self, true_or, or_true, or_false, false_or, and_true, true_and, and_false, false_and]
theorem sM135a {x1 x2 x3 x4 x5 : Int32} : ((¬ x2 < nI 0 ∧ ¬ nI 63 < x2) ∧ (¬ x3 < nI 0 ∧ ¬ nI 30 < x3) ∧ (¬ x4 < nI 1 ∧ ¬ nI 6 < x4) ∧ (¬ x5 < nI 0 ∧ ¬ nI 99 < x5) → mm_ev 135 10 [some (.inr (.inr (9, 0))), some (.inl (x1)), some (.inl (x2)), some (.inl (x3)), some (.inl (x4)), some (.inl (x5)), none] [] (ids, I, L, mm_RM) = mm_ev 135 55 [some (.inr (.inr (9, 0))), some (.inl (x1)), some (.inl (x2)), some (.inl (x3)), some (.inl (x4)), some (.inl (x5)), none] [] (ids, I, L, mm_RM)) ∧ (¬ ((¬ x2 < nI 0 ∧ ¬ nI 63 < x2) ∧ (¬ x3 < nI 0 ∧ ¬ nI 30 < x3) ∧ (¬ x4 < nI 1 ∧ ¬ nI 6 < x4) ∧ (¬ x5 < nI 0 ∧ ¬ nI 99 < x5)) → mm_ev 135 10 [some (.inr (.inr (9, 0))), some (.inl (x1)), some (.inl (x2)), some (.inl (x3)), some (.inl (x4)), some (.inl (x5)), none] [] (ids, I, L, mm_RM) = some (some (.inl (-102)), (ids, I, L, mm_RM))) := by
  rw [b135_10]
  by_cases h1 : ¬ x2 < nI 0 ∧ ¬ nI 63 < x2
  · by_cases h2 : ¬ x3 < nI 0 ∧ ¬ nI 30 < x3
    · by_cases h3 : ¬ x4 < nI 1 ∧ ¬ nI 6 < x4
      · by_cases h4 : ¬ x5 < nI 0 ∧ ¬ nI 99 < x5
        · refine ⟨fun _ => ?_, fun q => absurd ⟨h1, h2, h3, h4⟩ q⟩
          simp (disch := omega) only [pz_k30, pz_k99, sM113T h1, sM113T h2, sM113T h3, sM113T h4, b135_17, b135_20, b135_27, b135_30, b135_38, b135_41, b135_49, pz_k0, pz_k1, pz_k2, pz_k3, pz_k4, pz_k5, pz_k6, pz_k7, pz_k8, pz_k9, pz_k10, pz_k16, pz_k31, pz_k63, pz_km, nI_add, pz_mul, nI_ltI, nI_eq, nI_clamp, pz_inI, Option.bind_some, Option.toList_some, Option.toList_none, List.cons_append, List.nil_append, Nat.zero_add, Nat.mul_zero, Nat.add_zero, Nat.lt_irrefl, pz_bb, pz_bTr, Bool.false_eq_true, pz_bFa, Nat.reduceEqDiff, Nat.reduceLT, ite_not, pz_mE, pz_mE2, pz_mL, pz_mG, not_true_eq_false, not_false_eq_true, if_true, if_false, reduceIte, eq_self, true_or, or_true, or_false, false_or, and_true, true_and, and_false, false_and]
        · refine ⟨fun q => absurd q.2.2.2 h4, fun _ => ?_⟩
          simp (disch := omega) only [pz_k30, pz_k99, sM113T h1, sM113T h2, sM113T h3, sM113F h4, b135_17, b135_20, b135_27, b135_30, b135_38, b135_41, b135_49, b135_52, pz_k0, pz_k1, pz_k2, pz_k3, pz_k4, pz_k5, pz_k6, pz_k7, pz_k8, pz_k9, pz_k10, pz_k16, pz_k31, pz_k63, pz_km, nI_add, pz_mul, nI_ltI, nI_eq, nI_clamp, pz_inI, Option.bind_some, Option.toList_some, Option.toList_none, List.cons_append, List.nil_append, Nat.zero_add, Nat.mul_zero, Nat.add_zero, Nat.lt_irrefl, pz_bb, pz_bTr, Bool.false_eq_true, pz_bFa, Nat.reduceEqDiff, Nat.reduceLT, ite_not, pz_mE, pz_mE2, pz_mL, pz_mG, not_true_eq_false, not_false_eq_true, if_true, if_false, reduceIte, eq_self, true_or, or_true, or_false, false_or, and_true, true_and, and_false, false_and]
      · refine ⟨fun q => absurd q.2.2.1 h3, fun _ => ?_⟩
        simp (disch := omega) only [pz_k30, sM113T h1, sM113T h2, sM113F h3, b135_17, b135_20, b135_27, b135_30, b135_38, b135_52, pz_k0, pz_k1, pz_k2, pz_k3, pz_k4, pz_k5, pz_k6, pz_k7, pz_k8, pz_k9, pz_k10, pz_k16, pz_k31, pz_k63, pz_km, nI_add, pz_mul, nI_ltI, nI_eq, nI_clamp, pz_inI, Option.bind_some, Option.toList_some, Option.toList_none, List.cons_append, List.nil_append, Nat.zero_add, Nat.mul_zero, Nat.add_zero, Nat.lt_irrefl, pz_bb, pz_bTr, Bool.false_eq_true, pz_bFa, Nat.reduceEqDiff, Nat.reduceLT, ite_not, pz_mE, pz_mE2, pz_mL, pz_mG, not_true_eq_false, not_false_eq_true, if_true, if_false, reduceIte, eq_self, true_or, or_true, or_false, false_or, and_true, true_and, and_false, false_and]
    · refine ⟨fun q => absurd q.2.1 h2, fun _ => ?_⟩
      simp (disch := omega) only [pz_k30, sM113T h1, sM113F h2, b135_17, b135_20, b135_27, b135_52, pz_k0, pz_k1, pz_k2, pz_k3, pz_k4, pz_k5, pz_k6, pz_k7, pz_k8, pz_k9, pz_k10, pz_k16, pz_k31, pz_k63, pz_km, nI_add, pz_mul, nI_ltI, nI_eq, nI_clamp, pz_inI, Option.bind_some, Option.toList_some, Option.toList_none, List.cons_append, List.nil_append, Nat.zero_add, Nat.mul_zero, Nat.add_zero, Nat.lt_irrefl, pz_bb, pz_bTr, Bool.false_eq_true, pz_bFa, Nat.reduceEqDiff, Nat.reduceLT, ite_not, pz_mE, pz_mE2, pz_mL, pz_mG, not_true_eq_false, not_false_eq_true, if_true, if_false, reduceIte, eq_self, true_or, or_true, or_false, false_or, and_true, true_and, and_false, false_and]
  · refine ⟨fun q => absurd q.1 h1, fun _ => ?_⟩
    simp (disch := omega) only [sM113F h1, b135_17, b135_52, pz_k0, pz_k1, pz_k2, pz_k3, pz_k4, pz_k5, pz_k6, pz_k7, pz_k8, pz_k9, pz_k10, pz_k16, pz_k31, pz_k63, pz_km, nI_add, pz_mul, nI_ltI, nI_eq, nI_clamp, pz_inI, Option.bind_some, Option.toList_some, Option.toList_none, List.cons_append, List.nil_append, Nat.zero_add, Nat.mul_zero, Nat.add_zero, Nat.lt_irrefl, pz_bb, pz_bTr, Bool.false_eq_true, pz_bFa, Nat.reduceEqDiff, Nat.reduceLT, ite_not, pz_mE, pz_mE2, pz_mL, pz_mG, not_true_eq_false, not_false_eq_true, if_true, if_false, reduceIte, eq_self, true_or, or_true, or_false, false_or, and_true, true_and, and_false, false_and]
def pz_sr (p v e m u c : Nat) : Nat := if c = 7 then p else if c = 8 then v else if c = 9 then e else if c = 10 then e else if c = 11 then m else if c = 12 then u else 0
theorem op9 (h : pz_Q k ck n g f A κ I J) (hk : k < 64) (x1 x2 x3 x4 x5 : Int32) : lw_two (pz_R (k + 1)) 9 135 [.inl x1, .inl x2, .inl x3, .inl x4, .inl x5] (mm_idC, I, LC, mm_RS κ) (mm_idM, J, LM, mm_RM) := by
  obtain ⟨q1, q2, q3, hA, hC, hM, -⟩ := id h
  have h5 := hA.2.2.2.1
  have h12 := hC.2.2.1
  have h47 := (pz_M0 hM).2.1
  by_cases hx : pz_rg x1 6
  · have hx' := hx
    obtain ⟨p, hp, rfl⟩ := hx
    by_cases hP : (¬ x2 < nI 0 ∧ ¬ nI 63 < x2) ∧ (¬ x3 < nI 0 ∧ ¬ nI 30 < x3) ∧ (¬ x4 < nI 1 ∧ ¬ nI 6 < x4) ∧ (¬ x5 < nI 0 ∧ ¬ nI 99 < x5)
    · by_cases hf : A 6 0 0 < 5
      · have hP' := hP
        obtain ⟨y2, y3, y4, y5⟩ := hP
        obtain ⟨v, hv, rfl⟩ := pz_win (by decide) y2
        obtain ⟨e, he, rfl⟩ := pz_win (by decide) y3
        obtain ⟨m, hm1, hm, rfl⟩ := pz_win2 (by decide) y4
        obtain ⟨u, hu, rfl⟩ := pz_win (by decide) y5
        obtain ⟨I1, hI1⟩ : ∃ I1, I1 = mm_uI (mm_uI (mm_uI (mm_uI (mm_uI (mm_uI (mm_uI I 22 (A 6 0 0) 0 (nI p)) 23 (A 6 0 0) 0 (nI v)) 24 (A 6 0 0) 0 (nI e)) 25 (A 6 0 0) 0 (nI e)) 26 (A 6 0 0) 0 (nI m)) 27 (A 6 0 0) 0 (nI u)) 28 (A 6 0 0) 0 (nI 0) := ⟨_, rfl⟩
        have hl6 : mm_ln 18 = 6 := by decide +kernel
        have hk1 : mm_kd 18 = 1 := by decide +kernel
        have h177 := s177 (R := mm_RS κ) (ids := mm_idC) (I := I1) (L := LC) (r := 18) (i := A 6 0 0) (x := nI 0) hk1 (by rw [hl6]; decide)
        rw [hl6, show 100 + 18 = 118 from rfl] at h177
        obtain ⟨I2, hI2⟩ : ∃ I2, I2 = pz_fl I1 118 (A 6 0 0) 6 (nI 0) := ⟨_, rfl⟩
        rw [← hI2] at h177
        have hM1 : ∃ J1, mm_ev 135 66 [some (.inr (.inr (9, 0))), some (.inl (nI p)), some (.inl (nI v)), some (.inl (nI e)), some (.inl (nI m)), some (.inl (nI u)), none] [] (mm_idM, J, LM, mm_RM) = some (some (.inl (nI (A 6 0 0))), (mm_idM, J1, LM, mm_RM)) ∧ (∀ c, c ≠ 47 ∧ ¬ (126 ≤ c ∧ c ≤ 132) → J1 c = J c) ∧ (∀ c j, 126 ≤ c ∧ c ≤ 131 ∧ j ≠ A 6 0 0 → J1 c 0 j = J c 0 j) ∧ (∀ j, j < 6 * A 6 0 0 ∨ 6 * A 6 0 0 + 6 ≤ j → J1 132 0 j = J 132 0 j) ∧ J1 47 0 0 = nI (A 6 0 0 + 1) ∧ J1 126 0 (A 6 0 0) = nI p ∧ J1 127 0 (A 6 0 0) = nI v ∧ J1 128 0 (A 6 0 0) = nI e ∧ J1 129 0 (A 6 0 0) = nI e ∧ J1 130 0 (A 6 0 0) = nI m ∧ J1 131 0 (A 6 0 0) = nI u ∧ ∀ v, v < 6 → J1 132 0 (6 * A 6 0 0 + v) = nI 0 := by
          obtain ⟨J0, hJ0⟩ : ∃ J0, J0 = mm_uI (mm_uI (mm_uI (mm_uI (mm_uI (mm_uI J 126 0 (A 6 0 0) (nI p)) 127 0 (A 6 0 0) (nI v)) 128 0 (A 6 0 0) (nI e)) 129 0 (A 6 0 0) (nI e)) 130 0 (A 6 0 0) (nI m)) 131 0 (A 6 0 0) (nI u) := ⟨_, rfl⟩
          have g47 : J0 47 0 0 = nI (A 6 0 0) := by
            rw [hJ0, pz_uI_ne (by decide), pz_uI_ne (by decide), pz_uI_ne (by decide), pz_uI_ne (by decide), pz_uI_ne (by decide), pz_uI_ne (by decide)]
            exact h47
          have hst : mm_ev 135 66 [some (.inr (.inr (9, 0))), some (.inl (nI p)), some (.inl (nI v)), some (.inl (nI e)), some (.inl (nI m)), some (.inl (nI u)), none] [] (mm_idM, J, LM, mm_RM) = mm_ev 135 131 [some (.inr (.inr (9, 0))), some (.inl (nI p)), some (.inl (nI v)), some (.inl (nI e)), some (.inl (nI m)), some (.inl (nI u)), some (.inl (nI 0))] [] (mm_idM, J0, LM, mm_RM) := by
            rw [b135_66]
            simp (disch := omega) only [h47, hf, b135_76, b135_86, b135_96, b135_106, b135_117, b135_128, pz_uI_j, pz_k0, pz_k1, pz_k2, pz_k3, pz_k4, pz_k5, pz_k6, pz_k7, pz_k8, pz_k9, pz_k10, pz_k16, pz_k31, pz_k63, pz_km, nI_add, pz_mul, nI_ltI, nI_eq, nI_clamp, pz_inI, Option.bind_some, Option.toList_some, Option.toList_none, List.cons_append, List.nil_append, Nat.zero_add, Nat.mul_zero, Nat.add_zero, Nat.lt_irrefl, pz_bb, pz_bTr, Bool.false_eq_true, pz_bFa, Nat.reduceEqDiff, Nat.reduceLT, ite_not, pz_mE, pz_mE2, pz_mL, pz_mG, not_true_eq_false, not_false_eq_true, if_true, if_false, reduceIte, eq_self, true_or, or_true, or_false, false_or, and_true, true_and, and_false, false_and]
            rw [← hJ0]
          have hl := pz_loopP (fun v' (j : mm_HI) => mm_ev 135 131 [some (.inr (.inr (9, 0))), some (.inl (nI p)), some (.inl (nI v)), some (.inl (nI e)), some (.inl (nI m)), some (.inl (nI u)), some (.inl (nI v'))] [] (mm_idM, j, LM, mm_RM)) (fun v' j => (∀ c, c ≠ 132 → j c = J0 c) ∧ ∀ q, j 132 0 q = if 6 * A 6 0 0 ≤ q ∧ q < 6 * A 6 0 0 + v' then nI 0 else J0 132 0 q) 6 (fun v' j hv' hj => ?_) J0 ⟨fun _ _ => rfl, fun q => by rw [if_neg (by omega)]⟩
          · obtain ⟨j, hj, g1, g2⟩ := hl
            have gj : j 47 0 0 = nI (A 6 0 0) := by
              rw [g1 47 (by decide)]
              exact g47
            refine ⟨mm_uI j 47 0 0 (nI (A 6 0 0 + 1)), ?_, ?_, ?_, ?_, pz_uI_s, ?_, ?_, ?_, ?_, ?_, ?_, ?_⟩
            · rw [hst]
              refine Eq.trans hj ?_
              rw [b135_131]
              simp (disch := omega) only [b135_160, gj, pz_uI_s, pz_k0, pz_k1, pz_k2, pz_k3, pz_k4, pz_k5, pz_k6, pz_k7, pz_k8, pz_k9, pz_k10, pz_k16, pz_k31, pz_k63, pz_km, nI_add, pz_mul, nI_ltI, nI_eq, nI_clamp, pz_inI, Option.bind_some, Option.toList_some, Option.toList_none, List.cons_append, List.nil_append, Nat.zero_add, Nat.mul_zero, Nat.add_zero, Nat.lt_irrefl, pz_bb, pz_bTr, Bool.false_eq_true, pz_bFa, Nat.reduceEqDiff, Nat.reduceLT, ite_not, pz_mE, pz_mE2, pz_mL, pz_mG, not_true_eq_false, not_false_eq_true, if_true, if_false, reduceIte, eq_self, true_or, or_true, or_false, false_or, and_true, true_and, and_false, false_and]
              rw [pz_sub (by omega), Nat.add_sub_cancel]
            · intro c hc
              rw [pz_uI_ne (by omega), g1 c (by omega), hJ0, pz_uI_ne (by omega), pz_uI_ne (by omega), pz_uI_ne (by omega), pz_uI_ne (by omega), pz_uI_ne (by omega), pz_uI_ne (by omega)]
            · intro c j' hc
              rw [pz_uI_ne (by omega), g1 c (by omega), hJ0, pz_uI_j (by omega), pz_uI_j (by omega), pz_uI_j (by omega), pz_uI_j (by omega), pz_uI_j (by omega), pz_uI_j (by omega)]
            · intro j' hj'
              rw [pz_uI_ne (by decide), g2, if_neg (by omega), hJ0, pz_uI_ne (by decide), pz_uI_ne (by decide), pz_uI_ne (by decide), pz_uI_ne (by decide), pz_uI_ne (by decide), pz_uI_ne (by decide)]
            · rw [pz_uI_ne (by decide), g1 126 (by decide), hJ0, pz_uI_ne (by decide), pz_uI_ne (by decide), pz_uI_ne (by decide), pz_uI_ne (by decide), pz_uI_ne (by decide), pz_uI_s]
            · rw [pz_uI_ne (by decide), g1 127 (by decide), hJ0, pz_uI_ne (by decide), pz_uI_ne (by decide), pz_uI_ne (by decide), pz_uI_ne (by decide), pz_uI_s]
            · rw [pz_uI_ne (by decide), g1 128 (by decide), hJ0, pz_uI_ne (by decide), pz_uI_ne (by decide), pz_uI_ne (by decide), pz_uI_s]
            · rw [pz_uI_ne (by decide), g1 129 (by decide), hJ0, pz_uI_ne (by decide), pz_uI_ne (by decide), pz_uI_s]
            · rw [pz_uI_ne (by decide), g1 130 (by decide), hJ0, pz_uI_ne (by decide), pz_uI_s]
            · rw [pz_uI_ne (by decide), g1 131 (by decide), hJ0, pz_uI_s]
            · intro v' hv'
              rw [pz_uI_ne (by decide), g2, if_pos (by omega)]
          · try dsimp only at hj
            try dsimp only
            obtain ⟨g1, g2⟩ := hj
            have gj : j 47 0 0 = nI (A 6 0 0) := by
              rw [g1 47 (by decide)]
              exact g47
            refine ⟨mm_uI j 132 0 (6 * A 6 0 0 + v') (nI 0), ?_, fun c hc => by rw [pz_uI_ne hc]; exact g1 c hc, fun q => ?_⟩
            · rw [b135_131]
              simp (disch := omega) only [hv', b135_138, gj, show 6 * A 6 0 0 + v' < 30 by omega, b135_154, pz_k0, pz_k1, pz_k2, pz_k3, pz_k4, pz_k5, pz_k6, pz_k7, pz_k8, pz_k9, pz_k10, pz_k16, pz_k31, pz_k63, pz_km, nI_add, pz_mul, nI_ltI, nI_eq, nI_clamp, pz_inI, Option.bind_some, Option.toList_some, Option.toList_none, List.cons_append, List.nil_append, Nat.zero_add, Nat.mul_zero, Nat.add_zero, Nat.lt_irrefl, pz_bb, pz_bTr, Bool.false_eq_true, pz_bFa, Nat.reduceEqDiff, Nat.reduceLT, ite_not, pz_mE, pz_mE2, pz_mL, pz_mG, not_true_eq_false, not_false_eq_true, if_true, if_false, reduceIte, eq_self, true_or, or_true, or_false, false_or, and_true, true_and, and_false, false_and]
            · rw [pz_uI_at, g2]
              by_cases e1 : q = 6 * A 6 0 0 + v'
              · rw [if_pos e1, if_pos (by omega)]
              · rw [if_neg e1]
                by_cases e2 : 6 * A 6 0 0 ≤ q ∧ q < 6 * A 6 0 0 + v'
                · rw [if_pos e2, if_pos (by omega)]
                · rw [if_neg e2, if_neg (by omega)]
        obtain ⟨J1, j0, j1, j2, j3, j4, j5, j6, j7, j8, j9, j10, j11⟩ := hM1
        refine pz_two (laC := [some (.inr (.inr (1, 0))), some (.inl _), some (.inl _), some (.inl _), some (.inl _), some (.inl _), none, none]) (laM := [some (.inr (.inr (9, 0))), some (.inl _), some (.inl _), some (.inl _), some (.inl _), some (.inl _), none]) (by rw [show mm_mL 9 = 8 from by decide +kernel]; rfl) (by rw [show mm_mL 135 = 7 from by decide +kernel]; rfl) (r :=  nI (A 6 0 0)) (hC' := (mm_idC, mm_uI I2 12 0 0 (nI (A 6 0 0 + 1)), LC, mm_RS κ)) (hM' := (mm_idM, J1, LM, mm_RM)) ?_ ?_ ?_
        · rw [b9_0]
          simp (disch := omega) only [sC34, pz_bT hx', b9_4, pz_k0, pz_k1, pz_k2, pz_k3, pz_k4, pz_k5, pz_k6, pz_k7, pz_k8, pz_k9, pz_k10, pz_k16, pz_k31, pz_k63, pz_km, nI_add, pz_mul, nI_ltI, nI_eq, nI_clamp, pz_inI, Option.bind_some, Option.toList_some, Option.toList_none, List.cons_append, List.nil_append, Nat.zero_add, Nat.mul_zero, Nat.add_zero, Nat.lt_irrefl, pz_bb, pz_bTr, Bool.false_eq_true, pz_bFa, Nat.reduceEqDiff, Nat.reduceLT, ite_not, pz_mE, pz_mE2, pz_mL, pz_mG, not_true_eq_false, not_false_eq_true, if_true, if_false, reduceIte, eq_self, true_or, or_true, or_false, false_or, and_true, true_and, and_false, false_and]
          rw [sC9a, pz_bT hP']
          simp (disch := omega) only [b9_60, b9_70, h12, hf, b9_84, b9_103, pz_k0, pz_k1, pz_k2, pz_k3, pz_k4, pz_k5, pz_k6, pz_k7, pz_k8, pz_k9, pz_k10, pz_k16, pz_k31, pz_k63, pz_km, nI_add, pz_mul, nI_ltI, nI_eq, nI_clamp, pz_inI, Option.bind_some, Option.toList_some, Option.toList_none, List.cons_append, List.nil_append, Nat.zero_add, Nat.mul_zero, Nat.add_zero, Nat.lt_irrefl, pz_bb, pz_bTr, Bool.false_eq_true, pz_bFa, Nat.reduceEqDiff, Nat.reduceLT, ite_not, pz_mE, pz_mE2, pz_mL, pz_mG, not_true_eq_false, not_false_eq_true, if_true, if_false, reduceIte, eq_self, true_or, or_true, or_false, false_or, and_true, true_and, and_false, false_and]
          rw [b84_0]
          simp (disch := omega) only [pz_k0, pz_k1, pz_k2, pz_k3, pz_k4, pz_k5, pz_k6, pz_k7, pz_k8, pz_k9, pz_k10, pz_k16, pz_k31, pz_k63, pz_km, nI_add, pz_mul, nI_ltI, nI_eq, nI_clamp, pz_inI, Option.bind_some, Option.toList_some, Option.toList_none, List.cons_append, List.nil_append, Nat.zero_add, Nat.mul_zero, Nat.add_zero, Nat.lt_irrefl, pz_bb, pz_bTr, Bool.false_eq_true, pz_bFa, Nat.reduceEqDiff, Nat.reduceLT, ite_not, pz_mE, pz_mE2, pz_mL, pz_mG, not_true_eq_false, not_false_eq_true, if_true, if_false, reduceIte, eq_self, true_or, or_true, or_false, false_or, and_true, true_and, and_false, false_and]
          rw [← hI1, h177]
          simp (disch := omega) only [b84_45, b9_113, pz_k0, pz_k1, pz_k2, pz_k3, pz_k4, pz_k5, pz_k6, pz_k7, pz_k8, pz_k9, pz_k10, pz_k16, pz_k31, pz_k63, pz_km, nI_add, pz_mul, nI_ltI, nI_eq, nI_clamp, pz_inI, Option.bind_some, Option.toList_some, Option.toList_none, List.cons_append, List.nil_append, Nat.zero_add, Nat.mul_zero, Nat.add_zero, Nat.lt_irrefl, pz_bb, pz_bTr, Bool.false_eq_true, pz_bFa, Nat.reduceEqDiff, Nat.reduceLT, ite_not, pz_mE, pz_mE2, pz_mL, pz_mG, not_true_eq_false, not_false_eq_true, if_true, if_false, reduceIte, eq_self, true_or, or_true, or_false, false_or, and_true, true_and, and_false, false_and]
        · rw [b135_0]
          simp (disch := omega) only [sM132, pz_bT hx', b135_4, pz_k0, pz_k1, pz_k2, pz_k3, pz_k4, pz_k5, pz_k6, pz_k7, pz_k8, pz_k9, pz_k10, pz_k16, pz_k31, pz_k63, pz_km, nI_add, pz_mul, nI_ltI, nI_eq, nI_clamp, pz_inI, Option.bind_some, Option.toList_some, Option.toList_none, List.cons_append, List.nil_append, Nat.zero_add, Nat.mul_zero, Nat.add_zero, Nat.lt_irrefl, pz_bb, pz_bTr, Bool.false_eq_true, pz_bFa, Nat.reduceEqDiff, Nat.reduceLT, ite_not, pz_mE, pz_mE2, pz_mL, pz_mG, not_true_eq_false, not_false_eq_true, if_true, if_false, reduceIte, eq_self, true_or, or_true, or_false, false_or, and_true, true_and, and_false, false_and]
          rw [sM135a.1 hP', b135_55]
          simp (disch := omega) only [h47, show ¬ A 6 0 0 = 5 by omega, pz_k0, pz_k1, pz_k2, pz_k3, pz_k4, pz_k5, pz_k6, pz_k7, pz_k8, pz_k9, pz_k10, pz_k16, pz_k31, pz_k63, pz_km, nI_add, pz_mul, nI_ltI, nI_eq, nI_clamp, pz_inI, Option.bind_some, Option.toList_some, Option.toList_none, List.cons_append, List.nil_append, Nat.zero_add, Nat.mul_zero, Nat.add_zero, Nat.lt_irrefl, pz_bb, pz_bTr, Bool.false_eq_true, pz_bFa, Nat.reduceEqDiff, Nat.reduceLT, ite_not, pz_mE, pz_mE2, pz_mL, pz_mG, not_true_eq_false, not_false_eq_true, if_true, if_false, reduceIte, eq_self, true_or, or_true, or_false, false_or, and_true, true_and, and_false, false_and]
          exact j0
        · obtain ⟨S, hS⟩ : ∃ S : Nat → Nat → Nat, S = fun c _ => pz_sr p v e m u c := ⟨_, rfl⟩
          have e7 : pz_sA A (A 6 0 0) (A 6 0 0 + 1) S 7 (A 6 0 0) = fun _ => p := by rw [pz_sA_e (by decide), hS]; rfl
          have e8 : pz_sA A (A 6 0 0) (A 6 0 0 + 1) S 8 (A 6 0 0) = fun _ => v := by rw [pz_sA_e (by decide), hS]; rfl
          have e9 : pz_sA A (A 6 0 0) (A 6 0 0 + 1) S 9 (A 6 0 0) = fun _ => e := by rw [pz_sA_e (by decide), hS]; rfl
          have e10 : pz_sA A (A 6 0 0) (A 6 0 0 + 1) S 10 (A 6 0 0) = fun _ => e := by rw [pz_sA_e (by decide), hS]; rfl
          have e11 : pz_sA A (A 6 0 0) (A 6 0 0 + 1) S 11 (A 6 0 0) = fun _ => m := by rw [pz_sA_e (by decide), hS]; rfl
          have e12 : pz_sA A (A 6 0 0) (A 6 0 0 + 1) S 12 (A 6 0 0) = fun _ => u := by rw [pz_sA_e (by decide), hS]; rfl
          have e18 : pz_sA A (A 6 0 0) (A 6 0 0 + 1) S 18 (A 6 0 0) = fun _ => 0 := by rw [pz_sA_e (by decide), hS]; rfl
          have e19 : pz_sA A (A 6 0 0) (A 6 0 0 + 1) S 19 (A 6 0 0) = fun _ => 0 := by rw [pz_sA_e (by decide), hS]; rfl
          have e20 : pz_sA A (A 6 0 0) (A 6 0 0 + 1) S 20 (A 6 0 0) = fun _ => 0 := by rw [pz_sA_e (by decide), hS]; rfl
          have hts : ∀ t, t < A 6 0 0 + 1 → t ≠ A 6 0 0 → t < A 6 0 0 := fun t h1 h2 => by omega
          have hkk : ∀ c i, pz_kk c i → mm_uI I2 12 0 0 (nI (A 6 0 0 + 1)) c i = I c i := by
            rw [hI2, hI1]
            refine pz_kk_u (by unfold pz_kk pz_kw; omega) (pz_kk_fl (by unfold pz_kk pz_kw; omega) ?_)
            exact pz_kk_u (by unfold pz_kk pz_kw; omega) (pz_kk_u (by unfold pz_kk pz_kw; omega) (pz_kk_u (by unfold pz_kk pz_kw; omega) (pz_kk_u (by unfold pz_kk pz_kw; omega) (pz_kk_u (by unfold pz_kk pz_kw; omega) (pz_kk_u (by unfold pz_kk pz_kw; omega) (pz_kk_u (by unfold pz_kk pz_kw; omega) pz_kk_0))))))
          refine pz_put (A' := pz_sA A (A 6 0 0) (A 6 0 0 + 1) S) (ck' := ck) h hk q1 (Nat.le_refl _) (by omega) ?_ (pz_wf_s hA (Nat.le_refl _) hA.1 (by omega) hts (fun _ => ?_)) (pz_C_s hC (fun c i hc => ?_) pz_uI_s hts (fun _ => ?_)) (pz_M_s hM (fun c hc => j1 c (by omega)) j2 j3 j4 hts (fun _ => ?_)) hkk (fun _ => rfl) ?_ ?_ ?_ (Nat.le_refl _) (by rw [pz_sA_6]; omega)
          · rw [j1 55 (by omega)]
            exact q3
          · unfold pz_wfs
            rw [e7, e8, e9, e10, e11, e12, e18, e19, e20]
            exact ⟨hp, show v < 64 by omega, he, he, hm1, hm, hu, Nat.zero_le _, fun _ _ => ⟨Nat.le_refl _, Nat.zero_le _⟩, fun _ _ _ _ _ _ => Iff.rfl⟩
          · rw [pz_uI_i (by omega), hI2, pz_fl_i (by omega), hI1, pz_uI_i (by omega), pz_uI_i (by omega), pz_uI_i (by omega), pz_uI_i (by omega), pz_uI_i (by omega), pz_uI_i (by omega), pz_uI_i (by omega)]
          · unfold pz_Cs
            rw [e7, e8, e9, e10, e11, e12, e18, e19, Nat.mul_zero, Nat.zero_add]
            have w : ∀ c, c ≠ 12 → c ≠ 118 → mm_uI I2 12 0 0 (nI (A 6 0 0 + 1)) c = I1 c := by
              intro c h1 h2
              rw [pz_uI_ne h1, hI2]
              funext i
              exact pz_fl_i (Or.inl h2)
            refine ⟨?_, ?_, ?_, ?_, ?_, ?_, ?_, fun v' hv' => ?_⟩
            · rw [w 22 (by decide) (by decide), hI1, pz_uI_ne (by decide), pz_uI_ne (by decide), pz_uI_ne (by decide), pz_uI_ne (by decide), pz_uI_ne (by decide), pz_uI_ne (by decide), pz_uI_s]
            · rw [w 23 (by decide) (by decide), hI1, pz_uI_ne (by decide), pz_uI_ne (by decide), pz_uI_ne (by decide), pz_uI_ne (by decide), pz_uI_ne (by decide), pz_uI_s]
            · rw [w 24 (by decide) (by decide), hI1, pz_uI_ne (by decide), pz_uI_ne (by decide), pz_uI_ne (by decide), pz_uI_ne (by decide), pz_uI_s]
            · rw [w 25 (by decide) (by decide), hI1, pz_uI_ne (by decide), pz_uI_ne (by decide), pz_uI_ne (by decide), pz_uI_s]
            · rw [w 26 (by decide) (by decide), hI1, pz_uI_ne (by decide), pz_uI_ne (by decide), pz_uI_s]
            · rw [w 27 (by decide) (by decide), hI1, pz_uI_ne (by decide), pz_uI_s]
            · rw [w 28 (by decide) (by decide), hI1, pz_uI_s]
            · rw [pz_uI_ne (by decide), hI2]
              exact if_pos ⟨rfl, rfl, hv'⟩
          · unfold pz_Ms
            rw [e7, e8, e9, e10, e11, e12, e20]
            exact ⟨j5, j6, j7, j8, j9, j10, j11⟩
          · intro c hc
            refine j1 c ?_
            unfold pz_kz at hc
            simp only [Bool.or_eq_true, beq_iff_eq] at hc
            omega
          · intro c b hc _
            rw [j1 c (by omega)]
          · intro c s hc hs
            exact j2 c s (by omega)
      · refine pz_two (laC := [some (.inr (.inr (1, 0))), some (.inl _), some (.inl _), some (.inl _), some (.inl _), some (.inl _), none, none]) (laM := [some (.inr (.inr (9, 0))), some (.inl _), some (.inl _), some (.inl _), some (.inl _), some (.inl _), none]) (by rw [show mm_mL 9 = 8 from by decide +kernel]; rfl) (by rw [show mm_mL 135 = 7 from by decide +kernel]; rfl) (r :=  -104) ?_ ?_ (pz_rd0 (LC' := LC) (LM' := LM) h)
        · rw [b9_0]
          simp (disch := omega) only [sC34, pz_bT hx', b9_4, pz_k0, pz_k1, pz_k2, pz_k3, pz_k4, pz_k5, pz_k6, pz_k7, pz_k8, pz_k9, pz_k10, pz_k16, pz_k31, pz_k63, pz_km, nI_add, pz_mul, nI_ltI, nI_eq, nI_clamp, pz_inI, Option.bind_some, Option.toList_some, Option.toList_none, List.cons_append, List.nil_append, Nat.zero_add, Nat.mul_zero, Nat.add_zero, Nat.lt_irrefl, pz_bb, pz_bTr, Bool.false_eq_true, pz_bFa, Nat.reduceEqDiff, Nat.reduceLT, ite_not, pz_mE, pz_mE2, pz_mL, pz_mG, not_true_eq_false, not_false_eq_true, if_true, if_false, reduceIte, eq_self, true_or, or_true, or_false, false_or, and_true, true_and, and_false, false_and]
          rw [sC9a, pz_bT hP]
          simp (disch := omega) only [b9_60, b9_70, h12, hf, b9_81, pz_k0, pz_k1, pz_k2, pz_k3, pz_k4, pz_k5, pz_k6, pz_k7, pz_k8, pz_k9, pz_k10, pz_k16, pz_k31, pz_k63, pz_km, nI_add, pz_mul, nI_ltI, nI_eq, nI_clamp, pz_inI, Option.bind_some, Option.toList_some, Option.toList_none, List.cons_append, List.nil_append, Nat.zero_add, Nat.mul_zero, Nat.add_zero, Nat.lt_irrefl, pz_bb, pz_bTr, Bool.false_eq_true, pz_bFa, Nat.reduceEqDiff, Nat.reduceLT, ite_not, pz_mE, pz_mE2, pz_mL, pz_mG, not_true_eq_false, not_false_eq_true, if_true, if_false, reduceIte, eq_self, true_or, or_true, or_false, false_or, and_true, true_and, and_false, false_and]
        · rw [b135_0]
          simp (disch := omega) only [sM132, pz_bT hx', b135_4, pz_k0, pz_k1, pz_k2, pz_k3, pz_k4, pz_k5, pz_k6, pz_k7, pz_k8, pz_k9, pz_k10, pz_k16, pz_k31, pz_k63, pz_km, nI_add, pz_mul, nI_ltI, nI_eq, nI_clamp, pz_inI, Option.bind_some, Option.toList_some, Option.toList_none, List.cons_append, List.nil_append, Nat.zero_add, Nat.mul_zero, Nat.add_zero, Nat.lt_irrefl, pz_bb, pz_bTr, Bool.false_eq_true, pz_bFa, Nat.reduceEqDiff, Nat.reduceLT, ite_not, pz_mE, pz_mE2, pz_mL, pz_mG, not_true_eq_false, not_false_eq_true, if_true, if_false, reduceIte, eq_self, true_or, or_true, or_false, false_or, and_true, true_and, and_false, false_and]
          rw [sM135a.1 hP, b135_55]
          simp (disch := omega) only [h47, show A 6 0 0 = 5 by omega, b135_63, pz_k0, pz_k1, pz_k2, pz_k3, pz_k4, pz_k5, pz_k6, pz_k7, pz_k8, pz_k9, pz_k10, pz_k16, pz_k31, pz_k63, pz_km, nI_add, pz_mul, nI_ltI, nI_eq, nI_clamp, pz_inI, Option.bind_some, Option.toList_some, Option.toList_none, List.cons_append, List.nil_append, Nat.zero_add, Nat.mul_zero, Nat.add_zero, Nat.lt_irrefl, pz_bb, pz_bTr, Bool.false_eq_true, pz_bFa, Nat.reduceEqDiff, Nat.reduceLT, ite_not, pz_mE, pz_mE2, pz_mL, pz_mG, not_true_eq_false, not_false_eq_true, if_true, if_false, reduceIte, eq_self, true_or, or_true, or_false, false_or, and_true, true_and, and_false, false_and]
    · refine pz_two (laC := [some (.inr (.inr (1, 0))), some (.inl _), some (.inl _), some (.inl _), some (.inl _), some (.inl _), none, none]) (laM := [some (.inr (.inr (9, 0))), some (.inl _), some (.inl _), some (.inl _), some (.inl _), some (.inl _), none]) (by rw [show mm_mL 9 = 8 from by decide +kernel]; rfl) (by rw [show mm_mL 135 = 7 from by decide +kernel]; rfl) (r :=  -102) ?_ ?_ (pz_rd0 (LC' := LC) (LM' := LM) h)
      · rw [b9_0]
        simp (disch := omega) only [sC34, pz_bT hx', b9_4, pz_k0, pz_k1, pz_k2, pz_k3, pz_k4, pz_k5, pz_k6, pz_k7, pz_k8, pz_k9, pz_k10, pz_k16, pz_k31, pz_k63, pz_km, nI_add, pz_mul, nI_ltI, nI_eq, nI_clamp, pz_inI, Option.bind_some, Option.toList_some, Option.toList_none, List.cons_append, List.nil_append, Nat.zero_add, Nat.mul_zero, Nat.add_zero, Nat.lt_irrefl, pz_bb, pz_bTr, Bool.false_eq_true, pz_bFa, Nat.reduceEqDiff, Nat.reduceLT, ite_not, pz_mE, pz_mE2, pz_mL, pz_mG, not_true_eq_false, not_false_eq_true, if_true, if_false, reduceIte, eq_self, true_or, or_true, or_false, false_or, and_true, true_and, and_false, false_and]
        rw [sC9a, pz_bF hP]
        simp (disch := omega) only [b9_60, b9_67, pz_k0, pz_k1, pz_k2, pz_k3, pz_k4, pz_k5, pz_k6, pz_k7, pz_k8, pz_k9, pz_k10, pz_k16, pz_k31, pz_k63, pz_km, nI_add, pz_mul, nI_ltI, nI_eq, nI_clamp, pz_inI, Option.bind_some, Option.toList_some, Option.toList_none, List.cons_append, List.nil_append, Nat.zero_add, Nat.mul_zero, Nat.add_zero, Nat.lt_irrefl, pz_bb, pz_bTr, Bool.false_eq_true, pz_bFa, Nat.reduceEqDiff, Nat.reduceLT, ite_not, pz_mE, pz_mE2, pz_mL, pz_mG, not_true_eq_false, not_false_eq_true, if_true, if_false, reduceIte, eq_self, true_or, or_true, or_false, false_or, and_true, true_and, and_false, false_and]
      · rw [b135_0]
        simp (disch := omega) only [sM132, pz_bT hx', b135_4, pz_k0, pz_k1, pz_k2, pz_k3, pz_k4, pz_k5, pz_k6, pz_k7, pz_k8, pz_k9, pz_k10, pz_k16, pz_k31, pz_k63, pz_km, nI_add, pz_mul, nI_ltI, nI_eq, nI_clamp, pz_inI, Option.bind_some, Option.toList_some, Option.toList_none, List.cons_append, List.nil_append, Nat.zero_add, Nat.mul_zero, Nat.add_zero, Nat.lt_irrefl, pz_bb, pz_bTr, Bool.false_eq_true, pz_bFa, Nat.reduceEqDiff, Nat.reduceLT, ite_not, pz_mE, pz_mE2, pz_mL, pz_mG, not_true_eq_false, not_false_eq_true, if_true, if_false, reduceIte, eq_self, true_or, or_true, or_false, false_or, and_true, true_and, and_false, false_and]
        exact sM135a.2 hP
  · refine pz_two (laC := [some (.inr (.inr (1, 0))), some (.inl _), some (.inl _), some (.inl _), some (.inl _), some (.inl _), none, none]) (laM := [some (.inr (.inr (9, 0))), some (.inl _), some (.inl _), some (.inl _), some (.inl _), some (.inl _), none]) (by rw [show mm_mL 9 = 8 from by decide +kernel]; rfl) (by rw [show mm_mL 135 = 7 from by decide +kernel]; rfl) (r :=  -101) ?_ ?_ (pz_rd0 (LC' := LC) (LM' := LM) h)
    · rw [b9_0]
      simp (disch := omega) only [sC34, pz_bF hx, b9_4, b9_7, pz_k0, pz_k1, pz_k2, pz_k3, pz_k4, pz_k5, pz_k6, pz_k7, pz_k8, pz_k9, pz_k10, pz_k16, pz_k31, pz_k63, pz_km, nI_add, pz_mul, nI_ltI, nI_eq, nI_clamp, pz_inI, Option.bind_some, Option.toList_some, Option.toList_none, List.cons_append, List.nil_append, Nat.zero_add, Nat.mul_zero, Nat.add_zero, Nat.lt_irrefl, pz_bb, pz_bTr, Bool.false_eq_true, pz_bFa, Nat.reduceEqDiff, Nat.reduceLT, ite_not, pz_mE, pz_mE2, pz_mL, pz_mG, not_true_eq_false, not_false_eq_true, if_true, if_false, reduceIte, eq_self, true_or, or_true, or_false, false_or, and_true, true_and, and_false, false_and]
    · rw [b135_0]
      simp (disch := omega) only [sM132, pz_bF hx, b135_4, b135_7, pz_k0, pz_k1, pz_k2, pz_k3, pz_k4, pz_k5, pz_k6, pz_k7, pz_k8, pz_k9, pz_k10, pz_k16, pz_k31, pz_k63, pz_km, nI_add, pz_mul, nI_ltI, nI_eq, nI_clamp, pz_inI, Option.bind_some, Option.toList_some, Option.toList_none, List.cons_append, List.nil_append, Nat.zero_add, Nat.mul_zero, Nat.add_zero, Nat.lt_irrefl, pz_bb, pz_bTr, Bool.false_eq_true, pz_bFa, Nat.reduceEqDiff, Nat.reduceLT, ite_not, pz_mE, pz_mE2, pz_mL, pz_mG, not_true_eq_false, not_false_eq_true, if_true, if_false, reduceIte, eq_self, true_or, or_true, or_false, false_or, and_true, true_and, and_false, false_and]
/-- useKnown -/
theorem sC91 {B K d : Nat} (h23 : I 23 s 0 = nI K) (hK : K < 64) (h28 : I 28 s 0 = nI d) (hB : B < 64) : ∃ I', mm_ev 91 0 [some (.inr (.inr (6, s))), some (.inl (nI B)), none] [] (ids, I, L, mm_RS κ) = some (none, (ids, I', L, mm_RS κ)) ∧ (∀ c i, (c ≠ 28 ∧ c ≠ 118) ∨ i ≠ s → I' c i = I c i) ∧ I' 28 s 0 = nI (d + 1) ∧ ∀ v, v < 6 → I' 118 s v = if pz_bt (B &&& K) v = 1 then nI (d + 1) else I 118 s v := by
  have hW : B &&& K < 64 := Nat.lt_of_le_of_lt Nat.and_le_left hB
  have hl := pz_loopP (fun v (j : mm_HI) => mm_ev 91 12 [some (.inr (.inr (6, s))), some (.inl (nI B)), some (.inl (nI v))] [] (ids, j, L, mm_RS κ)) (fun v j => (∀ c i, (c ≠ 28 ∧ c ≠ 118) ∨ i ≠ s → j c i = I c i) ∧ j 28 s 0 = nI (d + 1) ∧ ∀ u, u < 6 → j 118 s u = if u < v ∧ pz_bt (B &&& K) u = 1 then nI (d + 1) else I 118 s u) 6 (fun v j hv hj => ?_) (mm_uI I 28 s 0 (nI (d + 1))) ⟨fun c i hc => pz_uI_i (by omega), pz_uI_s, fun u _ => by rw [if_neg (by omega), pz_uI_ne (by decide)]⟩
  · obtain ⟨j, hj, g1, g2, g3⟩ := hl
    refine ⟨j, ?_, g1, g2, fun v hv => ?_⟩
    · rw [b91_0, h28, pz_k1, nI_add, pz_k0]
      refine Eq.trans hj ?_
      rw [b91_12]
      simp (disch := omega) only [b91_47, pz_k0, pz_k1, pz_k2, pz_k3, pz_k4, pz_k5, pz_k6, pz_k7, pz_k8, pz_k9, pz_k10, pz_k16, pz_k31, pz_k63, pz_km, nI_add, pz_mul, nI_ltI, nI_eq, nI_clamp, pz_inI, Option.bind_some, Option.toList_some, Option.toList_none, List.cons_append, List.nil_append, Nat.zero_add, Nat.mul_zero, Nat.add_zero, Nat.lt_irrefl, pz_bb, pz_bTr, Bool.false_eq_true, pz_bFa, Nat.reduceEqDiff, Nat.reduceLT, ite_not, pz_mE, pz_mE2, pz_mL, pz_mG, not_true_eq_false, not_false_eq_true, if_true, if_false, reduceIte, eq_self, true_or, or_true, or_false, false_or, and_true, true_and, and_false, false_and]
    · rw [g3 v hv]
      by_cases e : pz_bt (B &&& K) v = 1
      · rw [if_pos ⟨hv, e⟩, if_pos e]
      · rw [if_neg (fun q => e q.2), if_neg e]
  · try dsimp only at hj
    try dsimp only
    obtain ⟨g1, g2, g3⟩ := hj
    have g23 : j 23 s 0 = nI K := by
      rw [g1 23 s (by omega)]
      exact h23
    have hq := pz_a2 (B &&& K) hW v hv
    rw [← pz_and B K] at hq
    have h2 := pz_bt2 (v := B &&& K) (s := v)
    by_cases e : pz_bt (B &&& K) v = 1
    · refine ⟨mm_uI j 118 s v (nI (d + 1)), ?_, fun c i hc => by rw [pz_uI_i (by omega)]; exact g1 c i hc, by rw [pz_uI_ne (by decide)]; exact g2, fun u hu => ?_⟩
      · rw [b91_12]
        simp (disch := omega) only [hv, b91_18, g23, pz_one, show ¬ (nI B &&& nI K &&& nI (2 ^ v)) = nI 0 from fun q => by have := hq.mp q; omega, b91_31, g2, b91_41, pz_k0, pz_k1, pz_k2, pz_k3, pz_k4, pz_k5, pz_k6, pz_k7, pz_k8, pz_k9, pz_k10, pz_k16, pz_k31, pz_k63, pz_km, nI_add, pz_mul, nI_ltI, nI_eq, nI_clamp, pz_inI, Option.bind_some, Option.toList_some, Option.toList_none, List.cons_append, List.nil_append, Nat.zero_add, Nat.mul_zero, Nat.add_zero, Nat.lt_irrefl, pz_bb, pz_bTr, Bool.false_eq_true, pz_bFa, Nat.reduceEqDiff, Nat.reduceLT, ite_not, pz_mE, pz_mE2, pz_mL, pz_mG, not_true_eq_false, not_false_eq_true, if_true, if_false, reduceIte, eq_self, true_or, or_true, or_false, false_or, and_true, true_and, and_false, false_and]
      · rw [pz_uI_at]
        by_cases eu : u = v
        · rw [if_pos eu, if_pos (by rw [eu]; exact ⟨by omega, e⟩)]
        · rw [if_neg eu, g3 u hu]
          by_cases eb : u < v ∧ pz_bt (B &&& K) u = 1
          · rw [if_pos eb, if_pos ⟨by omega, eb.2⟩]
          · rw [if_neg eb, if_neg (fun q => eb ⟨by omega, q.2⟩)]
    · refine ⟨j, ?_, g1, g2, fun u hu => ?_⟩
      · rw [b91_12]
        simp (disch := omega) only [hv, b91_18, g23, pz_one, hq.mpr (show pz_bt (B &&& K) v = 0 by omega), b91_41, pz_k0, pz_k1, pz_k2, pz_k3, pz_k4, pz_k5, pz_k6, pz_k7, pz_k8, pz_k9, pz_k10, pz_k16, pz_k31, pz_k63, pz_km, nI_add, pz_mul, nI_ltI, nI_eq, nI_clamp, pz_inI, Option.bind_some, Option.toList_some, Option.toList_none, List.cons_append, List.nil_append, Nat.zero_add, Nat.mul_zero, Nat.add_zero, Nat.lt_irrefl, pz_bb, pz_bTr, Bool.false_eq_true, pz_bFa, Nat.reduceEqDiff, Nat.reduceLT, ite_not, pz_mE, pz_mE2, pz_mL, pz_mG, not_true_eq_false, not_false_eq_true, if_true, if_false, reduceIte, eq_self, true_or, or_true, or_false, false_or, and_true, true_and, and_false, false_and]
      · rw [g3 u hu]
        by_cases eb : u < v ∧ pz_bt (B &&& K) u = 1
        · rw [if_pos eb, if_pos ⟨by omega, eb.2⟩]
        · rw [if_neg eb, if_neg]
          rintro ⟨w1, w2⟩
          by_cases eu : u = v
          · rw [eu] at w2
            exact e w2
          · exact eb ⟨by omega, w2⟩
end PZ56
