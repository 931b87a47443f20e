/-! home, reach, first -/
theorem pz_C0f {A : pz_A} {I : mm_HI} {κ : Nat → Nat} {p v : Nat} (hC : pz_C 0 A I κ) (hp : p < 6) (hv : v < 6) : I 115 p v = nI (A 13 p v) - nI 1 := by
  have := hC.2.2.2.2.1 p v hp hv
  rw [Nat.mul_zero, Nat.zero_add] at this
  exact this
theorem pz_fe0 : nI 0 - nI 1 = pz_m := by decide
theorem pz_fe1 {z : Nat} (h : ¬ z = 0) : nI z - nI 1 = nI (z - 1) := pz_sub (by omega)
noncomputable def pz_nx (A : pz_A) (s v : Nat) : Nat := pz_pop (pz_rb (pz_T A v (A 7 s 0)) (A 9 s 0) 6)
def pz_fsc (A : pz_A) (s v : Nat) : Bool := decide (pz_bt (A 8 s 0) v = 0 ∧ 1 ≤ A 13 (A 7 s 0) v ∧ A 13 (A 7 s 0) v ≤ A 12 s 0 + 1)
noncomputable def pz_fst (A : pz_A) (s : Nat) : Nat → Option Nat × Nat
  | 0 => (none, pz_nx A s (A 8 s 0))
  | v + 1 => if pz_fsc A s v = true ∧ (pz_fst A s v).2 < pz_nx A s (A 8 s 0 ||| 2 ^ v) then (some v, pz_nx A s (A 8 s 0 ||| 2 ^ v)) else pz_fst A s v
theorem pz_fst_s {A : pz_A} {s v : Nat} : pz_fst A s (v + 1) = if pz_fsc A s v = true ∧ (pz_fst A s v).2 < pz_nx A s (A 8 s 0 ||| 2 ^ v) then (some v, pz_nx A s (A 8 s 0 ||| 2 ^ v)) else pz_fst A s v := rfl
theorem pz_fst_le {A : pz_A} {s : Nat} : ∀ v : Nat, (pz_fst A s v).2 ≤ 6
  | 0 => pz_pop_le
  | v + 1 => by
    rw [pz_fst_s]
    split
    · exact pz_pop_le
    · exact pz_fst_le v
theorem pz_rb64 {T : Nat → Nat} {n : Nat} : pz_rb T n 6 < 64 := pz_rb_lt 6
section PZ50
variable {ids : List (Nat × Nat)} {I J : mm_HI} {L LC LM : mm_HL} {κ f : Nat → Nat} {A : pz_A} {k ck n g b v s : Nat}
theorem op16 (h : pz_Q k ck n g f A κ I J) (x y z : Int32) : lw_two (pz_R (k + 1)) 16 149 [.inl x, .inl y, .inl z] (mm_idC, I, LC, mm_RS κ) (mm_idM, J, LM, mm_RM) := by
  obtain ⟨-, -, -, hA, hC, hM, -⟩ := id h
  have h5 := hA.2.2.2.1
  by_cases hx : pz_rg x (A 6 0 0)
  · by_cases hy : pz_rg y 6
    · have hx' := hx
      have hy' := hy
      obtain ⟨s, hs, rfl⟩ := hx
      obtain ⟨p, hp, rfl⟩ := hy
      by_cases hz : ¬ z < nI 0 ∧ ¬ nI 1 < z
      · have hz' := hz
        obtain ⟨w, hw, rfl⟩ := pz_win (by decide) hz
        have hm := sM148 (ids := mm_idM) (L := LM) (w := w) hA hM hs hp hw
        by_cases w0 : w = 0
        · subst w0
          refine pz_two (laC := [some (.inr (.inr (1, 0))), some (.inl _), some (.inl _), some (.inl _), none]) (laM := [some (.inr (.inr (9, 0))), some (.inl _), some (.inl _), some (.inl _)]) (by rw [show mm_mL 16 = 5 from by decide +kernel]; rfl) (by rw [show mm_mL 149 = 4 from by decide +kernel]; rfl) (r :=  if pz_T A (A 8 s 0) p (A 7 s 0) ≤ A 9 s 0 then nI (pz_T A (A 8 s 0) p (A 7 s 0)) else pz_m) (hC' := (mm_idC, pz_w I 119 6 (pz_T A (A 8 s 0) p), LC, mm_RS κ)) (hM' := (mm_idM, pz_w J 137 6 (pz_G A (A 8 s 0) p), LM, mm_RM)) ?_ ?_ (pz_rdo h (pz_w_fr rfl) (pz_w_fr rfl))
          · rw [b16_0]
            simp (disch := omega) only [sC63 (by omega) hC.2.2.1, pz_bT hx', b16_8, b16_11, sC34, pz_bT hy', b16_15, b16_21, b16_25, b16_33, show s < 5 by omega, b16_42, b16_48, sC94 hA hC hs hp, b16_58, b16_71, pz_k0, pz_k1, pz_k2, pz_k3, pz_k4, pz_k5, pz_k6, pz_k7, pz_k8, pz_k9, pz_k10, pz_k16, pz_k31, pz_k63, pz_km, nI_add, pz_mul, nI_ltI, nI_eq, nI_clamp, pz_inI, Option.bind_some, Option.toList_some, Option.toList_none, List.cons_append, List.nil_append, Nat.zero_add, Nat.mul_zero, Nat.add_zero, Nat.lt_irrefl, pz_bb, pz_bTr, Bool.false_eq_true, pz_bFa, Nat.reduceEqDiff, Nat.reduceLT, ite_not, pz_mE, pz_mE2, pz_mL, pz_mG, not_true_eq_false, not_false_eq_true, if_true, if_false, reduceIte, eq_self, true_or, or_true, or_false, false_or, and_true, true_and, and_false, false_and]
          · rw [b149_0]
            simp (disch := omega) only [sM134 hA hM, pz_bT hx', b149_5, b149_8, sM132, pz_bT hy', b149_12, b149_18, sM113T hz', b149_24, b149_27, pz_k0, pz_k1, pz_k2, pz_k3, pz_k4, pz_k5, pz_k6, pz_k7, pz_k8, pz_k9, pz_k10, pz_k16, pz_k31, pz_k63, pz_km, nI_add, pz_mul, nI_ltI, nI_eq, nI_clamp, pz_inI, Option.bind_some, Option.toList_some, Option.toList_none, List.cons_append, List.nil_append, Nat.zero_add, Nat.mul_zero, Nat.add_zero, Nat.lt_irrefl, pz_bb, pz_bTr, Bool.false_eq_true, pz_bFa, Nat.reduceEqDiff, Nat.reduceLT, ite_not, pz_mE, pz_mE2, pz_mL, pz_mG, not_true_eq_false, not_false_eq_true, if_true, if_false, reduceIte, eq_self, true_or, or_true, or_false, false_or, and_true, true_and, and_false, false_and]
            rw [hm]
            simp (disch := omega) only [b149_34, b149_39, pz_k0, pz_k1, pz_k2, pz_k3, pz_k4, pz_k5, pz_k6, pz_k7, pz_k8, pz_k9, pz_k10, pz_k16, pz_k31, pz_k63, pz_km, nI_add, pz_mul, nI_ltI, nI_eq, nI_clamp, pz_inI, Option.bind_some, Option.toList_some, Option.toList_none, List.cons_append, List.nil_append, Nat.zero_add, Nat.mul_zero, Nat.add_zero, Nat.lt_irrefl, pz_bb, pz_bTr, Bool.false_eq_true, pz_bFa, Nat.reduceEqDiff, Nat.reduceLT, ite_not, pz_mE, pz_mE2, pz_mL, pz_mG, not_true_eq_false, not_false_eq_true, if_true, if_false, reduceIte, eq_self, true_or, or_true, or_false, false_or, and_true, true_and, and_false, false_and]
        · have w1 : w = 1 := by omega
          subst w1
          refine pz_two (laC := [some (.inr (.inr (1, 0))), some (.inl _), some (.inl _), some (.inl _), none]) (laM := [some (.inr (.inr (9, 0))), some (.inl _), some (.inl _), some (.inl _)]) (by rw [show mm_mL 16 = 5 from by decide +kernel]; rfl) (by rw [show mm_mL 149 = 4 from by decide +kernel]; rfl) (r :=  if pz_T A (A 8 s 0) p (A 7 s 0) ≤ A 9 s 0 ∧ pz_fnd (pz_hbb A (A 8 s 0) (A 7 s 0) (pz_T A (A 8 s 0) p) (pz_T A (A 8 s 0) p (A 7 s 0))) (A 0 0 0) 0 < A 0 0 0 then nI (pz_fnd (pz_hbb A (A 8 s 0) (A 7 s 0) (pz_T A (A 8 s 0) p) (pz_T A (A 8 s 0) p (A 7 s 0))) (A 0 0 0) 0) else pz_m) (hC' := (mm_idC, pz_w I 119 6 (pz_T A (A 8 s 0) p), LC, mm_RS κ)) (hM' := (mm_idM, pz_w J 137 6 (pz_G A (A 8 s 0) p), LM, mm_RM)) ?_ ?_ (pz_rdo h (pz_w_fr rfl) (pz_w_fr rfl))
          · have hc := sC95 (ids := mm_idC) (L := LC) hA hC hs hp
            rw [b16_0]
            simp (disch := omega) only [sC63 (by omega) hC.2.2.1, pz_bT hx', b16_8, b16_11, sC34, pz_bT hy', b16_15, b16_21, b16_25, b16_33, show s < 5 by omega, b16_42, b16_61, pz_k0, pz_k1, pz_k2, pz_k3, pz_k4, pz_k5, pz_k6, pz_k7, pz_k8, pz_k9, pz_k10, pz_k16, pz_k31, pz_k63, pz_km, nI_add, pz_mul, nI_ltI, nI_eq, nI_clamp, pz_inI, Option.bind_some, Option.toList_some, Option.toList_none, List.cons_append, List.nil_append, Nat.zero_add, Nat.mul_zero, Nat.add_zero, Nat.lt_irrefl, pz_bb, pz_bTr, Bool.false_eq_true, pz_bFa, Nat.reduceEqDiff, Nat.reduceLT, ite_not, pz_mE, pz_mE2, pz_mL, pz_mG, not_true_eq_false, not_false_eq_true, if_true, if_false, reduceIte, eq_self, true_or, or_true, or_false, false_or, and_true, true_and, and_false, false_and]
            rw [hc]
            exact b16_71 ..
          · have e : (if pz_T A (A 8 s 0) p (A 7 s 0) ≤ A 9 s 0 then (if 1 = 0 then nI (pz_T A (A 8 s 0) p (A 7 s 0)) else if pz_fnd (pz_hbb A (A 8 s 0) (A 7 s 0) (pz_T A (A 8 s 0) p) (pz_T A (A 8 s 0) p (A 7 s 0))) (A 0 0 0) 0 < A 0 0 0 then nI (pz_fnd (pz_hbb A (A 8 s 0) (A 7 s 0) (pz_T A (A 8 s 0) p) (pz_T A (A 8 s 0) p (A 7 s 0))) (A 0 0 0) 0) else pz_m) else pz_m) = (if pz_T A (A 8 s 0) p (A 7 s 0) ≤ A 9 s 0 ∧ pz_fnd (pz_hbb A (A 8 s 0) (A 7 s 0) (pz_T A (A 8 s 0) p) (pz_T A (A 8 s 0) p (A 7 s 0))) (A 0 0 0) 0 < A 0 0 0 then nI (pz_fnd (pz_hbb A (A 8 s 0) (A 7 s 0) (pz_T A (A 8 s 0) p) (pz_T A (A 8 s 0) p (A 7 s 0))) (A 0 0 0) 0) else pz_m) := by
              by_cases e1 : pz_T A (A 8 s 0) p (A 7 s 0) ≤ A 9 s 0
              · rw [if_pos e1, if_neg (by decide)]
                by_cases e2 : pz_fnd (pz_hbb A (A 8 s 0) (A 7 s 0) (pz_T A (A 8 s 0) p) (pz_T A (A 8 s 0) p (A 7 s 0))) (A 0 0 0) 0 < A 0 0 0
                · rw [if_pos e2, if_pos ⟨e1, e2⟩]
                · rw [if_neg e2, if_neg (fun z => e2 z.2)]
              · rw [if_neg e1, if_neg (fun z => e1 z.1)]
            rw [e] at hm
            rw [b149_0]
            simp (disch := omega) only [sM134 hA hM, pz_bT hx', b149_5, b149_8, sM132, pz_bT hy', b149_12, b149_18, sM113T hz', b149_24, b149_27, pz_k0, pz_k1, pz_k2, pz_k3, pz_k4, pz_k5, pz_k6, pz_k7, pz_k8, pz_k9, pz_k10, pz_k16, pz_k31, pz_k63, pz_km, nI_add, pz_mul, nI_ltI, nI_eq, nI_clamp, pz_inI, Option.bind_some, Option.toList_some, Option.toList_none, List.cons_append, List.nil_append, Nat.zero_add, Nat.mul_zero, Nat.add_zero, Nat.lt_irrefl, pz_bb, pz_bTr, Bool.false_eq_true, pz_bFa, Nat.reduceEqDiff, Nat.reduceLT, ite_not, pz_mE, pz_mE2, pz_mL, pz_mG, not_true_eq_false, not_false_eq_true, if_true, if_false, reduceIte, eq_self, true_or, or_true, or_false, false_or, and_true, true_and, and_false, false_and]
            rw [hm]
            exact (b149_34 ..).trans (b149_39 ..)
      · refine pz_two (laC := [some (.inr (.inr (1, 0))), some (.inl _), some (.inl _), some (.inl _), none]) (laM := [some (.inr (.inr (9, 0))), some (.inl _), some (.inl _), some (.inl _)]) (by rw [show mm_mL 16 = 5 from by decide +kernel]; rfl) (by rw [show mm_mL 149 = 4 from by decide +kernel]; rfl) (r :=  -102) ?_ ?_ (pz_rd0 (LC' := LC) (LM' := LM) h)
        · rw [b16_0]
          by_cases h1 : z < nI 0
          · simp (disch := omega) only [sC63 (by omega) hC.2.2.1, pz_bT hx', b16_8, b16_11, sC34, pz_bT hy', b16_15, b16_21, h1, b16_30, pz_k0, pz_k1, pz_k2, pz_k3, pz_k4, pz_k5, pz_k6, pz_k7, pz_k8, pz_k9, pz_k10, pz_k16, pz_k31, pz_k63, pz_km, nI_add, pz_mul, nI_ltI, nI_eq, nI_clamp, pz_inI, Option.bind_some, Option.toList_some, Option.toList_none, List.cons_append, List.nil_append, Nat.zero_add, Nat.mul_zero, Nat.add_zero, Nat.lt_irrefl, pz_bb, pz_bTr, Bool.false_eq_true, pz_bFa, Nat.reduceEqDiff, Nat.reduceLT, ite_not, pz_mE, pz_mE2, pz_mL, pz_mG, not_true_eq_false, not_false_eq_true, if_true, if_false, reduceIte, eq_self, true_or, or_true, or_false, false_or, and_true, true_and, and_false, false_and]
          · have h2 : nI 1 < z := by
              refine Classical.byContradiction (fun q => hz ⟨h1, q⟩)
            simp (disch := omega) only [sC63 (by omega) hC.2.2.1, pz_bT hx', b16_8, b16_11, sC34, pz_bT hy', b16_15, b16_21, h1, b16_25, h2, b16_30, pz_k0, pz_k1, pz_k2, pz_k3, pz_k4, pz_k5, pz_k6, pz_k7, pz_k8, pz_k9, pz_k10, pz_k16, pz_k31, pz_k63, pz_km, nI_add, pz_mul, nI_ltI, nI_eq, nI_clamp, pz_inI, Option.bind_some, Option.toList_some, Option.toList_none, List.cons_append, List.nil_append, Nat.zero_add, Nat.mul_zero, Nat.add_zero, Nat.lt_irrefl, pz_bb, pz_bTr, Bool.false_eq_true, pz_bFa, Nat.reduceEqDiff, Nat.reduceLT, ite_not, pz_mE, pz_mE2, pz_mL, pz_mG, not_true_eq_false, not_false_eq_true, if_true, if_false, reduceIte, eq_self, true_or, or_true, or_false, false_or, and_true, true_and, and_false, false_and]
        · rw [b149_0]
          simp (disch := omega) only [sM134 hA hM, pz_bT hx', b149_5, b149_8, sM132, pz_bT hy', b149_12, b149_18, sM113F hz, b149_24, b149_37, b149_39, pz_k0, pz_k1, pz_k2, pz_k3, pz_k4, pz_k5, pz_k6, pz_k7, pz_k8, pz_k9, pz_k10, pz_k16, pz_k31, pz_k63, pz_km, nI_add, pz_mul, nI_ltI, nI_eq, nI_clamp, pz_inI, Option.bind_some, Option.toList_some, Option.toList_none, List.cons_append, List.nil_append, Nat.zero_add, Nat.mul_zero, Nat.add_zero, Nat.lt_irrefl, pz_bb, pz_bTr, Bool.false_eq_true, pz_bFa, Nat.reduceEqDiff, Nat.reduceLT, ite_not, pz_mE, pz_mE2, pz_mL, pz_mG, not_true_eq_false, not_false_eq_true, if_true, if_false, reduceIte, eq_self, true_or, or_true, or_false, false_or, and_true, true_and, and_false, false_and]
    · refine pz_two (laC := [some (.inr (.inr (1, 0))), some (.inl _), some (.inl _), some (.inl _), none]) (laM := [some (.inr (.inr (9, 0))), some (.inl _), some (.inl _), some (.inl _)]) (by rw [show mm_mL 16 = 5 from by decide +kernel]; rfl) (by rw [show mm_mL 149 = 4 from by decide +kernel]; rfl) (r :=  -101) ?_ ?_ (pz_rd0 (LC' := LC) (LM' := LM) h)
      · rw [b16_0]
        simp (disch := omega) only [sC63 (by omega) hC.2.2.1, pz_bT hx, b16_8, b16_11, sC34, pz_bF hy, b16_15, b16_18, pz_k0, pz_k1, pz_k2, pz_k3, pz_k4, pz_k5, pz_k6, pz_k7, pz_k8, pz_k9, pz_k10, pz_k16, pz_k31, pz_k63, pz_km, nI_add, pz_mul, nI_ltI, nI_eq, nI_clamp, pz_inI, Option.bind_some, Option.toList_some, Option.toList_none, List.cons_append, List.nil_append, Nat.zero_add, Nat.mul_zero, Nat.add_zero, Nat.lt_irrefl, pz_bb, pz_bTr, Bool.false_eq_true, pz_bFa, Nat.reduceEqDiff, Nat.reduceLT, ite_not, pz_mE, pz_mE2, pz_mL, pz_mG, not_true_eq_false, not_false_eq_true, if_true, if_false, reduceIte, eq_self, true_or, or_true, or_false, false_or, and_true, true_and, and_false, false_and]
      · rw [b149_0]
        simp (disch := omega) only [sM134 hA hM, pz_bT hx, b149_5, b149_8, sM132, pz_bF hy, b149_12, b149_15, pz_k0, pz_k1, pz_k2, pz_k3, pz_k4, pz_k5, pz_k6, pz_k7, pz_k8, pz_k9, pz_k10, pz_k16, pz_k31, pz_k63, pz_km, nI_add, pz_mul, nI_ltI, nI_eq, nI_clamp, pz_inI, Option.bind_some, Option.toList_some, Option.toList_none, List.cons_append, List.nil_append, Nat.zero_add, Nat.mul_zero, Nat.add_zero, Nat.lt_irrefl, pz_bb, pz_bTr, Bool.false_eq_true, pz_bFa, Nat.reduceEqDiff, Nat.reduceLT, ite_not, pz_mE, pz_mE2, pz_mL, pz_mG, not_true_eq_false, not_false_eq_true, if_true, if_false, reduceIte, eq_self, true_or, or_true, or_false, false_or, and_true, true_and, and_false, false_and]
  · refine pz_two (laC := [some (.inr (.inr (1, 0))), some (.inl _), some (.inl _), some (.inl _), none]) (laM := [some (.inr (.inr (9, 0))), some (.inl _), some (.inl _), some (.inl _)]) (by rw [show mm_mL 16 = 5 from by decide +kernel]; rfl) (by rw [show mm_mL 149 = 4 from by decide +kernel]; rfl) (r :=  -101) ?_ ?_ (pz_rd0 (LC' := LC) (LM' := LM) h)
    · rw [b16_0]
      simp (disch := omega) only [sC63 (by omega) hC.2.2.1, pz_bF hx, b16_8, b16_18, pz_k0, pz_k1, pz_k2, pz_k3, pz_k4, pz_k5, pz_k6, pz_k7, pz_k8, pz_k9, pz_k10, pz_k16, pz_k31, pz_k63, pz_km, nI_add, pz_mul, nI_ltI, nI_eq, nI_clamp, pz_inI, Option.bind_some, Option.toList_some, Option.toList_none, List.cons_append, List.nil_append, Nat.zero_add, Nat.mul_zero, Nat.add_zero, Nat.lt_irrefl, pz_bb, pz_bTr, Bool.false_eq_true, pz_bFa, Nat.reduceEqDiff, Nat.reduceLT, ite_not, pz_mE, pz_mE2, pz_mL, pz_mG, not_true_eq_false, not_false_eq_true, if_true, if_false, reduceIte, eq_self, true_or, or_true, or_false, false_or, and_true, true_and, and_false, false_and]
    · rw [b149_0]
      simp (disch := omega) only [sM134 hA hM, pz_bF hx, b149_5, b149_15, pz_k0, pz_k1, pz_k2, pz_k3, pz_k4, pz_k5, pz_k6, pz_k7, pz_k8, pz_k9, pz_k10, pz_k16, pz_k31, pz_k63, pz_km, nI_add, pz_mul, nI_ltI, nI_eq, nI_clamp, pz_inI, Option.bind_some, Option.toList_some, Option.toList_none, List.cons_append, List.nil_append, Nat.zero_add, Nat.mul_zero, Nat.add_zero, Nat.lt_irrefl, pz_bb, pz_bTr, Bool.false_eq_true, pz_bFa, Nat.reduceEqDiff, Nat.reduceLT, ite_not, pz_mE, pz_mE2, pz_mL, pz_mG, not_true_eq_false, not_false_eq_true, if_true, if_false, reduceIte, eq_self, true_or, or_true, or_false, false_or, and_true, true_and, and_false, false_and]
theorem op17 (h : pz_Q k ck n g f A κ I J) (x : Int32) : lw_two (pz_R (k + 1)) 17 151 [.inl x] (mm_idC, I, LC, mm_RS κ) (mm_idM, J, LM, mm_RM) := by
  obtain ⟨-, -, -, hA, hC, hM, -⟩ := id h
  have h5 := hA.2.2.2.1
  by_cases hx : pz_rg x (A 6 0 0)
  · have hx' := hx
    obtain ⟨s, hs, rfl⟩ := hx
    have a8 := (hA.2.2.2.2.1 s hs).2.1
    have c8 := (pz_C0s hC hs).2.1
    have m8 := (pz_M0s hM hs).2.1
    refine pz_two (laC := [some (.inr (.inr (1, 0))), some (.inl _), none]) (laM := [some (.inr (.inr (9, 0))), some (.inl _)]) (by rw [show mm_mL 17 = 3 from by decide +kernel]; rfl) (by rw [show mm_mL 151 = 2 from by decide +kernel]; rfl) (r :=  nI (pz_rb (pz_T A (A 8 s 0) (A 7 s 0)) (A 9 s 0) 6)) (hC' := (mm_idC, pz_w I 119 6 (pz_T A (A 8 s 0) (A 7 s 0)), LC, mm_RS κ)) (hM' := (mm_idM, pz_w J 137 6 (pz_G A (A 8 s 0) (A 7 s 0)), LM, mm_RM)) ?_ ?_ (pz_rdo h (pz_w_fr rfl) (pz_w_fr rfl))
    · rw [b17_0]
      simp (disch := omega) only [sC63 (by omega) hC.2.2.1, pz_bT hx', b17_8, b17_14, show s < 5 by omega, b17_23, c8, sC98 hA hC hs a8, b17_36, pz_k0, pz_k1, pz_k2, pz_k3, pz_k4, pz_k5, pz_k6, pz_k7, pz_k8, pz_k9, pz_k10, pz_k16, pz_k31, pz_k63, pz_km, nI_add, pz_mul, nI_ltI, nI_eq, nI_clamp, pz_inI, Option.bind_some, Option.toList_some, Option.toList_none, List.cons_append, List.nil_append, Nat.zero_add, Nat.mul_zero, Nat.add_zero, Nat.lt_irrefl, pz_bb, pz_bTr, Bool.false_eq_true, pz_bFa, Nat.reduceEqDiff, Nat.reduceLT, ite_not, pz_mE, pz_mE2, pz_mL, pz_mG, not_true_eq_false, not_false_eq_true, if_true, if_false, reduceIte, eq_self, true_or, or_true, or_false, false_or, and_true, true_and, and_false, false_and]
    · rw [b151_0]
      simp (disch := omega) only [sM134 hA hM, pz_bT hx', b151_5, b151_8, show s < 5 by omega, m8, b151_16, sM150 hA hM hs a8, b151_19, b151_24, pz_k0, pz_k1, pz_k2, pz_k3, pz_k4, pz_k5, pz_k6, pz_k7, pz_k8, pz_k9, pz_k10, pz_k16, pz_k31, pz_k63, pz_km, nI_add, pz_mul, nI_ltI, nI_eq, nI_clamp, pz_inI, Option.bind_some, Option.toList_some, Option.toList_none, List.cons_append, List.nil_append, Nat.zero_add, Nat.mul_zero, Nat.add_zero, Nat.lt_irrefl, pz_bb, pz_bTr, Bool.false_eq_true, pz_bFa, Nat.reduceEqDiff, Nat.reduceLT, ite_not, pz_mE, pz_mE2, pz_mL, pz_mG, not_true_eq_false, not_false_eq_true, if_true, if_false, reduceIte, eq_self, true_or, or_true, or_false, false_or, and_true, true_and, and_false, false_and]
  · refine pz_two (laC := [some (.inr (.inr (1, 0))), some (.inl _), none]) (laM := [some (.inr (.inr (9, 0))), some (.inl _)]) (by rw [show mm_mL 17 = 3 from by decide +kernel]; rfl) (by rw [show mm_mL 151 = 2 from by decide +kernel]; rfl) (r :=  -101) ?_ ?_ (pz_rd0 (LC' := LC) (LM' := LM) h)
    · rw [b17_0]
      simp (disch := omega) only [sC63 (by omega) hC.2.2.1, pz_bF hx, b17_8, b17_11, pz_k0, pz_k1, pz_k2, pz_k3, pz_k4, pz_k5, pz_k6, pz_k7, pz_k8, pz_k9, pz_k10, pz_k16, pz_k31, pz_k63, pz_km, nI_add, pz_mul, nI_ltI, nI_eq, nI_clamp, pz_inI, Option.bind_some, Option.toList_some, Option.toList_none, List.cons_append, List.nil_append, Nat.zero_add, Nat.mul_zero, Nat.add_zero, Nat.lt_irrefl, pz_bb, pz_bTr, Bool.false_eq_true, pz_bFa, Nat.reduceEqDiff, Nat.reduceLT, ite_not, pz_mE, pz_mE2, pz_mL, pz_mG, not_true_eq_false, not_false_eq_true, if_true, if_false, reduceIte, eq_self, true_or, or_true, or_false, false_or, and_true, true_and, and_false, false_and]
    · rw [b151_0]
      simp (disch := omega) only [sM134 hA hM, pz_bF hx, b151_5, b151_22, b151_24, pz_k0, pz_k1, pz_k2, pz_k3, pz_k4, pz_k5, pz_k6, pz_k7, pz_k8, pz_k9, pz_k10, pz_k16, pz_k31, pz_k63, pz_km, nI_add, pz_mul, nI_ltI, nI_eq, nI_clamp, pz_inI, Option.bind_some, Option.toList_some, Option.toList_none, List.cons_append, List.nil_append, Nat.zero_add, Nat.mul_zero, Nat.add_zero, Nat.lt_irrefl, pz_bb, pz_bTr, Bool.false_eq_true, pz_bFa, Nat.reduceEqDiff, Nat.reduceLT, ite_not, pz_mE, pz_mE2, pz_mL, pz_mG, not_true_eq_false, not_false_eq_true, if_true, if_false, reduceIte, eq_self, true_or, or_true, or_false, false_or, and_true, true_and, and_false, false_and]
/-- verseToLearn -/
theorem sC99 (hA : pz_wf ck A) (hC : pz_C 0 A I κ) (hs : s < A 6 0 0) : ∃ D, mm_ev 99 0 [some (.inr (.inr (7, 0))), some (.inr (.inr (6, s))), none, none, none, none, none] [] (ids, I, L, mm_RS κ) = some (some (.inl (pz_oI (pz_fst A s 6).1)), (ids, pz_w I 119 6 D, L, mm_RS κ)) := by
  obtain ⟨a7, a8, a9, -, -, -, a12, -⟩ := hA.2.2.2.2.1 s hs
  obtain ⟨c7, c8, c9, -⟩ := pz_C0s hC hs
  have hl := pz_loopJ (fun v (j : Option mm_V × (Nat → Nat)) => mm_ev 99 32 [some (.inr (.inr (7, 0))), some (.inr (.inr (6, s))), some (.inr (.inr (15, (A 7 s 0)))), some (.inl (pz_oI (pz_fst A s v).1)), some (.inl (nI (pz_fst A s v).2)), some (.inl (nI v)), j.1] [] (ids, pz_w I 119 6 j.2, L, mm_RS κ)) 6 (fun v j hv => ?_) (none, pz_T A (A 8 s 0) (A 7 s 0))
  · obtain ⟨j, hj⟩ := hl
    refine ⟨j.2, ?_⟩
    have h0 : mm_ev 99 0 [some (.inr (.inr (7, 0))), some (.inr (.inr (6, s))), none, none, none, none, none] [] (ids, I, L, mm_RS κ) = mm_ev 99 32 [some (.inr (.inr (7, 0))), some (.inr (.inr (6, s))), some (.inr (.inr (15, (A 7 s 0)))), some (.inl (pz_m)), some (.inl (nI (pz_nx A s (A 8 s 0)))), some (.inl (nI 0)), none] [] (ids, pz_w I 119 6 (pz_T A (A 8 s 0) (A 7 s 0)), L, mm_RS κ) := by
      rw [b99_0]
      simp (disch := omega) only [c7, a7, b99_12, c8, sC98 hA hC hs a8, b99_24, s176 pz_rb64, b99_27, pz_nx, pz_k0, pz_k1, pz_k2, pz_k3, pz_k4, pz_k5, pz_k6, pz_k7, pz_k8, pz_k9, pz_k10, pz_k16, pz_k31, pz_k63, pz_km, nI_add, pz_mul, nI_ltI, nI_eq, nI_clamp, pz_inI, Option.bind_some, Option.toList_some, Option.toList_none, List.cons_append, List.nil_append, Nat.zero_add, Nat.mul_zero, Nat.add_zero, Nat.lt_irrefl, pz_bb, pz_bTr, Bool.false_eq_true, pz_bFa, Nat.reduceEqDiff, Nat.reduceLT, ite_not, pz_mE, pz_mE2, pz_mL, pz_mG, not_true_eq_false, not_false_eq_true, if_true, if_false, reduceIte, eq_self, true_or, or_true, or_false, false_or, and_true, true_and, and_false, false_and]
    rw [h0]
    refine Eq.trans hj ?_
    rw [b99_32]
    simp (disch := omega) only [b99_106, pz_k0, pz_k1, pz_k2, pz_k3, pz_k4, pz_k5, pz_k6, pz_k7, pz_k8, pz_k9, pz_k10, pz_k16, pz_k31, pz_k63, pz_km, nI_add, pz_mul, nI_ltI, nI_eq, nI_clamp, pz_inI, Option.bind_some, Option.toList_some, Option.toList_none, List.cons_append, List.nil_append, Nat.zero_add, Nat.mul_zero, Nat.add_zero, Nat.lt_irrefl, pz_bb, pz_bTr, Bool.false_eq_true, pz_bFa, Nat.reduceEqDiff, Nat.reduceLT, ite_not, pz_mE, pz_mE2, pz_mL, pz_mG, not_true_eq_false, not_false_eq_true, if_true, if_false, reduceIte, eq_self, true_or, or_true, or_false, false_or, and_true, true_and, and_false, false_and]
  · try dsimp only
    have hC' := pz_C_fr (pz_w_fr (n := 6) (D := j.2) (show pz_sc 119 = true from rfl)) hC
    obtain ⟨d7, d8, d9, -, -, d12, -⟩ := pz_C0s hC' hs
    have hfee := pz_C0f hC' a7 hv
    have hz100 := hA.2.2.2.2.2.1 (A 7 s 0) v a7 hv
    have hle := pz_fst_le (A := A) (s := s) v
    have hbt := pz_bt2 (v := A 8 s 0) (s := v)
    have hor : A 8 s 0 ||| 2 ^ v < 64 := pz_orlt (n := 6) a8 (Nat.pow_lt_pow_right (by decide) hv)
    have hnx : pz_nx A s (A 8 s 0 ||| 2 ^ v) ≤ 6 := pz_pop_le
    rw [pz_fst_s]
    by_cases hb : pz_bt (A 8 s 0) v = 1
    · refine ⟨j, ?_⟩
      rw [if_neg (fun z => by have := of_decide_eq_true z.1; omega), b99_32]
      simp (disch := omega) only [hv, b99_39, sC87 d8 a8 hv, pz_bT hb, b99_45, b99_100, pz_k0, pz_k1, pz_k2, pz_k3, pz_k4, pz_k5, pz_k6, pz_k7, pz_k8, pz_k9, pz_k10, pz_k16, pz_k31, pz_k63, pz_km, nI_add, pz_mul, nI_ltI, nI_eq, nI_clamp, pz_inI, Option.bind_some, Option.toList_some, Option.toList_none, List.cons_append, List.nil_append, Nat.zero_add, Nat.mul_zero, Nat.add_zero, Nat.lt_irrefl, pz_bb, pz_bTr, Bool.false_eq_true, pz_bFa, Nat.reduceEqDiff, Nat.reduceLT, ite_not, pz_mE, pz_mE2, pz_mL, pz_mG, not_true_eq_false, not_false_eq_true, if_true, if_false, reduceIte, eq_self, true_or, or_true, or_false, false_or, and_true, true_and, and_false, false_and]
    · by_cases hz : A 13 (A 7 s 0) v = 0
      · refine ⟨j, ?_⟩
        rw [if_neg (fun z => by have := of_decide_eq_true z.1; omega), b99_32]
        rw [hz, pz_fe0] at hfee
        simp (disch := omega) only [hv, b99_39, sC87 d8 a8 hv, pz_bF hb, b99_45, b99_48, hfee, b99_52, b99_100, pz_k0, pz_k1, pz_k2, pz_k3, pz_k4, pz_k5, pz_k6, pz_k7, pz_k8, pz_k9, pz_k10, pz_k16, pz_k31, pz_k63, pz_km, nI_add, pz_mul, nI_ltI, nI_eq, nI_clamp, pz_inI, Option.bind_some, Option.toList_some, Option.toList_none, List.cons_append, List.nil_append, Nat.zero_add, Nat.mul_zero, Nat.add_zero, Nat.lt_irrefl, pz_bb, pz_bTr, Bool.false_eq_true, pz_bFa, Nat.reduceEqDiff, Nat.reduceLT, ite_not, pz_mE, pz_mE2, pz_mL, pz_mG, not_true_eq_false, not_false_eq_true, if_true, if_false, reduceIte, eq_self, true_or, or_true, or_false, false_or, and_true, true_and, and_false, false_and]
      · rw [pz_fe1 hz] at hfee
        by_cases hp : A 12 s 0 < A 13 (A 7 s 0) v - 1
        · refine ⟨j, ?_⟩
          rw [if_neg (fun z => by have := of_decide_eq_true z.1; omega), b99_32]
          simp (disch := omega) only [hv, b99_39, sC87 d8 a8 hv, pz_bF hb, b99_45, b99_48, hfee, b99_52, b99_56, b99_60, d12, hp, b99_100, pz_k0, pz_k1, pz_k2, pz_k3, pz_k4, pz_k5, pz_k6, pz_k7, pz_k8, pz_k9, pz_k10, pz_k16, pz_k31, pz_k63, pz_km, nI_add, pz_mul, nI_ltI, nI_eq, nI_clamp, pz_inI, Option.bind_some, Option.toList_some, Option.toList_none, List.cons_append, List.nil_append, Nat.zero_add, Nat.mul_zero, Nat.add_zero, Nat.lt_irrefl, pz_bb, pz_bTr, Bool.false_eq_true, pz_bFa, Nat.reduceEqDiff, Nat.reduceLT, ite_not, pz_mE, pz_mE2, pz_mL, pz_mG, not_true_eq_false, not_false_eq_true, if_true, if_false, reduceIte, eq_self, true_or, or_true, or_false, false_or, and_true, true_and, and_false, false_and]
        · have hc : pz_fsc A s v = true := decide_eq_true ⟨by omega, by omega, by omega⟩
          refine ⟨(some (.inl (nI (pz_nx A s (A 8 s 0 ||| 2 ^ v)))), pz_T A (A 8 s 0 ||| 2 ^ v) (A 7 s 0)), ?_⟩
          have hgo : mm_ev 99 39 [some (.inr (.inr (7, 0))), some (.inr (.inr (6, s))), some (.inr (.inr (15, (A 7 s 0)))), some (.inl (pz_oI (pz_fst A s v).1)), some (.inl (nI (pz_fst A s v).2)), some (.inl (nI v)), j.1] [] (ids, pz_w I 119 6 j.2, L, mm_RS κ) = mm_ev 99 84 [some (.inr (.inr (7, 0))), some (.inr (.inr (6, s))), some (.inr (.inr (15, (A 7 s 0)))), some (.inl (pz_oI (pz_fst A s v).1)), some (.inl (nI (pz_fst A s v).2)), some (.inl (nI v)), j.1] [(.inl (nI (pz_nx A s (A 8 s 0 ||| 2 ^ v))))] (ids, pz_w I 119 6 (pz_T A (A 8 s 0 ||| 2 ^ v) (A 7 s 0)), L, mm_RS κ) := by
            rw [b99_39]
            simp (disch := omega) only [hv, sC87 d8 a8 hv, pz_bF hb, b99_45, b99_48, hfee, b99_52, b99_56, b99_60, d12, hp, b99_67, d8, pz_one, pz_or, sC98 hA hC' hs hor, pz_w_w, b99_81, s176 pz_rb64, pz_nx, pz_k0, pz_k1, pz_k2, pz_k3, pz_k4, pz_k5, pz_k6, pz_k7, pz_k8, pz_k9, pz_k10, pz_k16, pz_k31, pz_k63, pz_km, nI_add, pz_mul, nI_ltI, nI_eq, nI_clamp, pz_inI, Option.bind_some, Option.toList_some, Option.toList_none, List.cons_append, List.nil_append, Nat.zero_add, Nat.mul_zero, Nat.add_zero, Nat.lt_irrefl, pz_bb, pz_bTr, Bool.false_eq_true, pz_bFa, Nat.reduceEqDiff, Nat.reduceLT, ite_not, pz_mE, pz_mE2, pz_mL, pz_mG, not_true_eq_false, not_false_eq_true, if_true, if_false, reduceIte, eq_self, true_or, or_true, or_false, false_or, and_true, true_and, and_false, false_and]
          by_cases hlt : (pz_fst A s v).2 < pz_nx A s (A 8 s 0 ||| 2 ^ v)
          · rw [if_pos ⟨hc, hlt⟩, b99_32]
            simp (disch := omega) only [hv, pz_k0, pz_k1, pz_k2, pz_k3, pz_k4, pz_k5, pz_k6, pz_k7, pz_k8, pz_k9, pz_k10, pz_k16, pz_k31, pz_k63, pz_km, nI_add, pz_mul, nI_ltI, nI_eq, nI_clamp, pz_inI, Option.bind_some, Option.toList_some, Option.toList_none, List.cons_append, List.nil_append, Nat.zero_add, Nat.mul_zero, Nat.add_zero, Nat.lt_irrefl, pz_bb, pz_bTr, Bool.false_eq_true, pz_bFa, Nat.reduceEqDiff, Nat.reduceLT, ite_not, pz_mE, pz_mE2, pz_mL, pz_mG, not_true_eq_false, not_false_eq_true, if_true, if_false, reduceIte, eq_self, true_or, or_true, or_false, false_or, and_true, true_and, and_false, false_and]
            rw [hgo, b99_84]
            simp (disch := omega) only [hlt, b99_93, b99_100, pz_k0, pz_k1, pz_k2, pz_k3, pz_k4, pz_k5, pz_k6, pz_k7, pz_k8, pz_k9, pz_k10, pz_k16, pz_k31, pz_k63, pz_km, nI_add, pz_mul, nI_ltI, nI_eq, nI_clamp, pz_inI, Option.bind_some, Option.toList_some, Option.toList_none, List.cons_append, List.nil_append, Nat.zero_add, Nat.mul_zero, Nat.add_zero, Nat.lt_irrefl, pz_bb, pz_bTr, Bool.false_eq_true, pz_bFa, Nat.reduceEqDiff, Nat.reduceLT, ite_not, pz_mE, pz_mE2, pz_mL, pz_mG, not_true_eq_false, not_false_eq_true, if_true, if_false, reduceIte, eq_self, true_or, or_true, or_false, false_or, and_true, true_and, and_false, false_and]
            rfl
          · rw [if_neg (fun z => hlt z.2), b99_32]
            simp (disch := omega) only [hv, pz_k0, pz_k1, pz_k2, pz_k3, pz_k4, pz_k5, pz_k6, pz_k7, pz_k8, pz_k9, pz_k10, pz_k16, pz_k31, pz_k63, pz_km, nI_add, pz_mul, nI_ltI, nI_eq, nI_clamp, pz_inI, Option.bind_some, Option.toList_some, Option.toList_none, List.cons_append, List.nil_append, Nat.zero_add, Nat.mul_zero, Nat.add_zero, Nat.lt_irrefl, pz_bb, pz_bTr, Bool.false_eq_true, pz_bFa, Nat.reduceEqDiff, Nat.reduceLT, ite_not, pz_mE, pz_mE2, pz_mL, pz_mG, not_true_eq_false, not_false_eq_true, if_true, if_false, reduceIte, eq_self, true_or, or_true, or_false, false_or, and_true, true_and, and_false, false_and]
            rw [hgo, b99_84]
            simp (disch := omega) only [hlt, b99_100, pz_k0, pz_k1, pz_k2, pz_k3, pz_k4, pz_k5, pz_k6, pz_k7, pz_k8, pz_k9, pz_k10, pz_k16, pz_k31, pz_k63, pz_km, nI_add, pz_mul, nI_ltI, nI_eq, nI_clamp, pz_inI, Option.bind_some, Option.toList_some, Option.toList_none, List.cons_append, List.nil_append, Nat.zero_add, Nat.mul_zero, Nat.add_zero, Nat.lt_irrefl, pz_bb, pz_bTr, Bool.false_eq_true, pz_bFa, Nat.reduceEqDiff, Nat.reduceLT, ite_not, pz_mE, pz_mE2, pz_mL, pz_mG, not_true_eq_false, not_false_eq_true, if_true, if_false, reduceIte, eq_self, true_or, or_true, or_false, false_or, and_true, true_and, and_false, false_and]
/-- firstNow -/
theorem sM152 (hA : pz_wf ck A) (hM : pz_M A I) (hs : s < A 6 0 0) : ∃ D, mm_ev 152 0 [some (.inr (.inr (9, 0))), some (.inl (nI s)), none, none, none, none, none] [] (ids, I, L, mm_RM) = some (some (.inl (pz_oI (pz_fst A s 6).1)), (ids, pz_w I 137 6 D, L, mm_RM)) := by
  obtain ⟨a7, a8, a9, -, -, -, a12, -⟩ := hA.2.2.2.2.1 s hs
  obtain ⟨c7, c8, c9, -⟩ := pz_M0s hM hs
  have h5 := hA.2.2.2.1
  have hs5 : s < 5 := by omega
  have hl := pz_loopJ (fun v (j : (Option mm_V × Option mm_V) × (Nat → Nat)) => mm_ev 152 20 [some (.inr (.inr (9, 0))), some (.inl (nI s)), some (.inl (pz_oI (pz_fst A s v).1)), some (.inl (nI (pz_fst A s v).2)), some (.inl (nI v)), j.1.1, j.1.2] [] (ids, pz_w I 137 6 j.2, L, mm_RM)) 6 (fun v j hv => ?_) ((none, none), pz_G A (A 8 s 0) (A 7 s 0))
  · obtain ⟨j, hj⟩ := hl
    refine ⟨j.2, ?_⟩
    have hrb : pz_rb (pz_T A (A 8 s 0) (A 7 s 0)) (A 9 s 0) 6 < 512 := Nat.lt_trans pz_rb64 (by decide)
    have h0 : mm_ev 152 0 [some (.inr (.inr (9, 0))), some (.inl (nI s)), none, none, none, none, none] [] (ids, I, L, mm_RM) = mm_ev 152 20 [some (.inr (.inr (9, 0))), some (.inl (nI s)), some (.inl (pz_m)), some (.inl (nI (pz_nx A s (A 8 s 0)))), some (.inl (nI 0)), none, none] [] (ids, pz_w I 137 6 (pz_G A (A 8 s 0) (A 7 s 0)), L, mm_RM) := by
      rw [b152_0]
      simp (disch := omega) only [hs5, c8, b152_10, sM150 hA hM hs a8, b152_13, sM115 hrb, b152_16, pz_nx, pz_k0, pz_k1, pz_k2, pz_k3, pz_k4, pz_k5, pz_k6, pz_k7, pz_k8, pz_k9, pz_k10, pz_k16, pz_k31, pz_k63, pz_km, nI_add, pz_mul, nI_ltI, nI_eq, nI_clamp, pz_inI, Option.bind_some, Option.toList_some, Option.toList_none, List.cons_append, List.nil_append, Nat.zero_add, Nat.mul_zero, Nat.add_zero, Nat.lt_irrefl, pz_bb, pz_bTr, Bool.false_eq_true, pz_bFa, Nat.reduceEqDiff, Nat.reduceLT, ite_not, pz_mE, pz_mE2, pz_mL, pz_mG, not_true_eq_false, not_false_eq_true, if_true, if_false, reduceIte, eq_self, true_or, or_true, or_false, false_or, and_true, true_and, and_false, false_and]
    rw [h0]
    refine Eq.trans hj ?_
    rw [b152_20]
    simp (disch := omega) only [b152_131, pz_k0, pz_k1, pz_k2, pz_k3, pz_k4, pz_k5, pz_k6, pz_k7, pz_k8, pz_k9, pz_k10, pz_k16, pz_k31, pz_k63, pz_km, nI_add, pz_mul, nI_ltI, nI_eq, nI_clamp, pz_inI, Option.bind_some, Option.toList_some, Option.toList_none, List.cons_append, List.nil_append, Nat.zero_add, Nat.mul_zero, Nat.add_zero, Nat.lt_irrefl, pz_bb, pz_bTr, Bool.false_eq_true, pz_bFa, Nat.reduceEqDiff, Nat.reduceLT, ite_not, pz_mE, pz_mE2, pz_mL, pz_mG, not_true_eq_false, not_false_eq_true, if_true, if_false, reduceIte, eq_self, true_or, or_true, or_false, false_or, and_true, true_and, and_false, false_and]
  · try dsimp only
    have hM' := pz_M_fr (pz_w_fr (n := 6) (D := j.2) (show pz_sc 137 = true from rfl)) hM
    obtain ⟨d7, d8, d9, -, -, d12, -⟩ := pz_M0s hM' hs
    have hfee := (pz_M0 hM').2.2.1 (A 7 s 0) v a7 hv
    have hz100 := hA.2.2.2.2.2.1 (A 7 s 0) v a7 hv
    have hle := pz_fst_le (A := A) (s := s) v
    have hbt := pz_bt2 (v := A 8 s 0) (s := v)
    have hor : A 8 s 0 ||| 2 ^ v < 64 := pz_orlt (n := 6) a8 (Nat.pow_lt_pow_right (by decide) hv)
    have hnx : pz_nx A s (A 8 s 0 ||| 2 ^ v) ≤ 6 := pz_pop_le
    have hK' : A 8 s 0 < 512 := by omega
    have hv' : v < 10 := by omega
    have h36 : 6 * A 7 s 0 + v < 36 := by omega
    rw [pz_fst_s]
    by_cases hb : pz_bt (A 8 s 0) v = 1
    · refine ⟨((some (.inl (nI (A 13 (A 7 s 0) v) - nI 1)), j.1.2), j.2), ?_⟩
      rw [if_neg (fun z => by have := of_decide_eq_true z.1; omega), b152_20]
      simp (disch := omega) only [hv, b152_27, hs5, d7, b152_39, h36, hfee, b152_44, d8, b152_54, sM114 hK' hv', pz_bT hb, b152_59, b152_125, pz_k0, pz_k1, pz_k2, pz_k3, pz_k4, pz_k5, pz_k6, pz_k7, pz_k8, pz_k9, pz_k10, pz_k16, pz_k31, pz_k63, pz_km, nI_add, pz_mul, nI_ltI, nI_eq, nI_clamp, pz_inI, Option.bind_some, Option.toList_some, Option.toList_none, List.cons_append, List.nil_append, Nat.zero_add, Nat.mul_zero, Nat.add_zero, Nat.lt_irrefl, pz_bb, pz_bTr, Bool.false_eq_true, pz_bFa, Nat.reduceEqDiff, Nat.reduceLT, ite_not, pz_mE, pz_mE2, pz_mL, pz_mG, not_true_eq_false, not_false_eq_true, if_true, if_false, reduceIte, eq_self, true_or, or_true, or_false, false_or, and_true, true_and, and_false, false_and]
    · by_cases hz : A 13 (A 7 s 0) v = 0
      · refine ⟨((some (.inl pz_m), j.1.2), j.2), ?_⟩
        rw [if_neg (fun z => by have := of_decide_eq_true z.1; omega), b152_20]
        rw [hz] at hfee
        simp (disch := omega) only [hv, b152_27, hs5, d7, b152_39, h36, hfee, pz_fe0, b152_44, d8, b152_54, sM114 hK' hv', pz_bF hb, b152_59, b152_62, b152_125, pz_k0, pz_k1, pz_k2, pz_k3, pz_k4, pz_k5, pz_k6, pz_k7, pz_k8, pz_k9, pz_k10, pz_k16, pz_k31, pz_k63, pz_km, nI_add, pz_mul, nI_ltI, nI_eq, nI_clamp, pz_inI, Option.bind_some, Option.toList_some, Option.toList_none, List.cons_append, List.nil_append, Nat.zero_add, Nat.mul_zero, Nat.add_zero, Nat.lt_irrefl, pz_bb, pz_bTr, Bool.false_eq_true, pz_bFa, Nat.reduceEqDiff, Nat.reduceLT, ite_not, pz_mE, pz_mE2, pz_mL, pz_mG, not_true_eq_false, not_false_eq_true, if_true, if_false, reduceIte, eq_self, true_or, or_true, or_false, false_or, and_true, true_and, and_false, false_and]
      · by_cases hp : A 12 s 0 < A 13 (A 7 s 0) v - 1
        · refine ⟨((some (.inl (nI (A 13 (A 7 s 0) v - 1))), j.1.2), j.2), ?_⟩
          rw [if_neg (fun z => by have := of_decide_eq_true z.1; omega), b152_20]
          simp (disch := omega) only [hv, b152_27, hs5, d7, b152_39, h36, hfee, pz_fe1 hz, b152_44, d8, b152_54, sM114 hK' hv', pz_bF hb, b152_59, b152_62, Nat.not_lt_zero, b152_67, d12, b152_75, hp, b152_125, pz_k0, pz_k1, pz_k2, pz_k3, pz_k4, pz_k5, pz_k6, pz_k7, pz_k8, pz_k9, pz_k10, pz_k16, pz_k31, pz_k63, pz_km, nI_add, pz_mul, nI_ltI, nI_eq, nI_clamp, pz_inI, Option.bind_some, Option.toList_some, Option.toList_none, List.cons_append, List.nil_append, Nat.zero_add, Nat.mul_zero, Nat.add_zero, Nat.lt_irrefl, pz_bb, pz_bTr, Bool.false_eq_true, pz_bFa, Nat.reduceEqDiff, Nat.reduceLT, ite_not, pz_mE, pz_mE2, pz_mL, pz_mG, not_true_eq_false, not_false_eq_true, if_true, if_false, reduceIte, eq_self, true_or, or_true, or_false, false_or, and_true, true_and, and_false, false_and]
        · have hc : pz_fsc A s v = true := decide_eq_true ⟨by omega, by omega, by omega⟩
          have hrb : pz_rb (pz_T A (A 8 s 0 ||| 2 ^ v) (A 7 s 0)) (A 9 s 0) 6 < 512 := Nat.lt_trans pz_rb64 (by decide)
          refine ⟨((some (.inl (nI (A 13 (A 7 s 0) v - 1))), some (.inl (nI (pz_nx A s (A 8 s 0 ||| 2 ^ v))))), pz_G A (A 8 s 0 ||| 2 ^ v) (A 7 s 0)), ?_⟩
          have hgo : mm_ev 152 27 [some (.inr (.inr (9, 0))), some (.inl (nI s)), some (.inl (pz_oI (pz_fst A s v).1)), some (.inl (nI (pz_fst A s v).2)), some (.inl (nI v)), j.1.1, j.1.2] [] (ids, pz_w I 137 6 j.2, L, mm_RM) = mm_ev 152 97 [some (.inr (.inr (9, 0))), some (.inl (nI s)), some (.inl (pz_oI (pz_fst A s v).1)), some (.inl (nI (pz_fst A s v).2)), some (.inl (nI v)), some (.inl (nI (A 13 (A 7 s 0) v - 1))), j.1.2] [(.inl (nI (pz_nx A s (A 8 s 0 ||| 2 ^ v))))] (ids, pz_w I 137 6 (pz_G A (A 8 s 0 ||| 2 ^ v) (A 7 s 0)), L, mm_RM) := by
            rw [b152_27]
            simp (disch := omega) only [hs5, d7, b152_39, h36, hfee, pz_fe1 hz, b152_44, d8, b152_54, sM114 hK' hv', pz_bF hb, b152_59, b152_62, Nat.not_lt_zero, b152_67, d12, b152_75, hp, b152_78, b152_86, pz_one, pz_or, sM150 hA hM' hs hor, pz_w_w, b152_94, sM115 hrb, pz_nx, pz_k0, pz_k1, pz_k2, pz_k3, pz_k4, pz_k5, pz_k6, pz_k7, pz_k8, pz_k9, pz_k10, pz_k16, pz_k31, pz_k63, pz_km, nI_add, pz_mul, nI_ltI, nI_eq, nI_clamp, pz_inI, Option.bind_some, Option.toList_some, Option.toList_none, List.cons_append, List.nil_append, Nat.zero_add, Nat.mul_zero, Nat.add_zero, Nat.lt_irrefl, pz_bb, pz_bTr, Bool.false_eq_true, pz_bFa, Nat.reduceEqDiff, Nat.reduceLT, ite_not, pz_mE, pz_mE2, pz_mL, pz_mG, not_true_eq_false, not_false_eq_true, if_true, if_false, reduceIte, eq_self, true_or, or_true, or_false, false_or, and_true, true_and, and_false, false_and]
          by_cases hlt : (pz_fst A s v).2 < pz_nx A s (A 8 s 0 ||| 2 ^ v)
          · rw [if_pos ⟨hc, hlt⟩, b152_20]
            simp (disch := omega) only [hv, pz_k0, pz_k1, pz_k2, pz_k3, pz_k4, pz_k5, pz_k6, pz_k7, pz_k8, pz_k9, pz_k10, pz_k16, pz_k31, pz_k63, pz_km, nI_add, pz_mul, nI_ltI, nI_eq, nI_clamp, pz_inI, Option.bind_some, Option.toList_some, Option.toList_none, List.cons_append, List.nil_append, Nat.zero_add, Nat.mul_zero, Nat.add_zero, Nat.lt_irrefl, pz_bb, pz_bTr, Bool.false_eq_true, pz_bFa, Nat.reduceEqDiff, Nat.reduceLT, ite_not, pz_mE, pz_mE2, pz_mL, pz_mG, not_true_eq_false, not_false_eq_true, if_true, if_false, reduceIte, eq_self, true_or, or_true, or_false, false_or, and_true, true_and, and_false, false_and]
            rw [hgo, b152_97]
            simp (disch := omega) only [hlt, b152_105, b152_111, b152_118, b152_124, b152_125, pz_k0, pz_k1, pz_k2, pz_k3, pz_k4, pz_k5, pz_k6, pz_k7, pz_k8, pz_k9, pz_k10, pz_k16, pz_k31, pz_k63, pz_km, nI_add, pz_mul, nI_ltI, nI_eq, nI_clamp, pz_inI, Option.bind_some, Option.toList_some, Option.toList_none, List.cons_append, List.nil_append, Nat.zero_add, Nat.mul_zero, Nat.add_zero, Nat.lt_irrefl, pz_bb, pz_bTr, Bool.false_eq_true, pz_bFa, Nat.reduceEqDiff, Nat.reduceLT, ite_not, pz_mE, pz_mE2, pz_mL, pz_mG, not_true_eq_false, not_false_eq_true, if_true, if_false, reduceIte, eq_self, true_or, or_true, or_false, false_or, and_true, true_and, and_false, false_and]
            rfl
          · rw [if_neg (fun z => hlt z.2), b152_20]
            simp (disch := omega) only [hv, pz_k0, pz_k1, pz_k2, pz_k3, pz_k4, pz_k5, pz_k6, pz_k7, pz_k8, pz_k9, pz_k10, pz_k16, pz_k31, pz_k63, pz_km, nI_add, pz_mul, nI_ltI, nI_eq, nI_clamp, pz_inI, Option.bind_some, Option.toList_some, Option.toList_none, List.cons_append, List.nil_append, Nat.zero_add, Nat.mul_zero, Nat.add_zero, Nat.lt_irrefl, pz_bb, pz_bTr, Bool.false_eq_true, pz_bFa, Nat.reduceEqDiff, Nat.reduceLT, ite_not, pz_mE, pz_mE2, pz_mL, pz_mG, not_true_eq_false, not_false_eq_true, if_true, if_false, reduceIte, eq_self, true_or, or_true, or_false, false_or, and_true, true_and, and_false, false_and]
            rw [hgo, b152_97]
            simp (disch := omega) only [hlt, b152_110, b152_111, b152_123, b152_124, b152_125, pz_k0, pz_k1, pz_k2, pz_k3, pz_k4, pz_k5, pz_k6, pz_k7, pz_k8, pz_k9, pz_k10, pz_k16, pz_k31, pz_k63, pz_km, nI_add, pz_mul, nI_ltI, nI_eq, nI_clamp, pz_inI, Option.bind_some, Option.toList_some, Option.toList_none, List.cons_append, List.nil_append, Nat.zero_add, Nat.mul_zero, Nat.add_zero, Nat.lt_irrefl, pz_bb, pz_bTr, Bool.false_eq_true, pz_bFa, Nat.reduceEqDiff, Nat.reduceLT, ite_not, pz_mE, pz_mE2, pz_mL, pz_mG, not_true_eq_false, not_false_eq_true, if_true, if_false, reduceIte, eq_self, true_or, or_true, or_false, false_or, and_true, true_and, and_false, false_and]
theorem op18 (h : pz_Q k ck n g f A κ I J) (x : Int32) : lw_two (pz_R (k + 1)) 18 153 [.inl x] (mm_idC, I, LC, mm_RS κ) (mm_idM, J, LM, mm_RM) := by
  obtain ⟨-, -, -, hA, hC, hM, -⟩ := id h
  have h5 := hA.2.2.2.1
  by_cases hx : pz_rg x (A 6 0 0)
  · have hx' := hx
    obtain ⟨s, hs, rfl⟩ := hx
    obtain ⟨D, hD⟩ := sC99 (ids := mm_idC) (L := LC) hA hC hs
    obtain ⟨E, hE⟩ := sM152 (ids := mm_idM) (L := LM) hA hM hs
    refine pz_two (laC := [some (.inr (.inr (1, 0))), some (.inl _)]) (laM := [some (.inr (.inr (9, 0))), some (.inl _)]) (by rw [show mm_mL 18 = 2 from by decide +kernel]; rfl) (by rw [show mm_mL 153 = 2 from by decide +kernel]; rfl) (r :=  pz_oI (pz_fst A s 6).1) (hC' := (mm_idC, pz_w I 119 6 D, LC, mm_RS κ)) (hM' := (mm_idM, pz_w J 137 6 E, LM, mm_RM)) ?_ ?_ (pz_rdo h (pz_w_fr rfl) (pz_w_fr rfl))
    · rw [b18_0]
      simp (disch := omega) only [sC63 (by omega) hC.2.2.1, pz_bT hx', b18_8, b18_11, show s < 5 by omega, b18_24, hD, b18_27, b18_32, pz_k0, pz_k1, pz_k2, pz_k3, pz_k4, pz_k5, pz_k6, pz_k7, pz_k8, pz_k9, pz_k10, pz_k16, pz_k31, pz_k63, pz_km, nI_add, pz_mul, nI_ltI, nI_eq, nI_clamp, pz_inI, Option.bind_some, Option.toList_some, Option.toList_none, List.cons_append, List.nil_append, Nat.zero_add, Nat.mul_zero, Nat.add_zero, Nat.lt_irrefl, pz_bb, pz_bTr, Bool.false_eq_true, pz_bFa, Nat.reduceEqDiff, Nat.reduceLT, ite_not, pz_mE, pz_mE2, pz_mL, pz_mG, not_true_eq_false, not_false_eq_true, if_true, if_false, reduceIte, eq_self, true_or, or_true, or_false, false_or, and_true, true_and, and_false, false_and]
    · rw [b153_0]
      simp (disch := omega) only [sM134 hA hM, pz_bT hx', b153_5, b153_8, hE, b153_13, b153_18, pz_k0, pz_k1, pz_k2, pz_k3, pz_k4, pz_k5, pz_k6, pz_k7, pz_k8, pz_k9, pz_k10, pz_k16, pz_k31, pz_k63, pz_km, nI_add, pz_mul, nI_ltI, nI_eq, nI_clamp, pz_inI, Option.bind_some, Option.toList_some, Option.toList_none, List.cons_append, List.nil_append, Nat.zero_add, Nat.mul_zero, Nat.add_zero, Nat.lt_irrefl, pz_bb, pz_bTr, Bool.false_eq_true, pz_bFa, Nat.reduceEqDiff, Nat.reduceLT, ite_not, pz_mE, pz_mE2, pz_mL, pz_mG, not_true_eq_false, not_false_eq_true, if_true, if_false, reduceIte, eq_self, true_or, or_true, or_false, false_or, and_true, true_and, and_false, false_and]
  · refine pz_two (laC := [some (.inr (.inr (1, 0))), some (.inl _)]) (laM := [some (.inr (.inr (9, 0))), some (.inl _)]) (by rw [show mm_mL 18 = 2 from by decide +kernel]; rfl) (by rw [show mm_mL 153 = 2 from by decide +kernel]; rfl) (r :=  -101) ?_ ?_ (pz_rd0 (LC' := LC) (LM' := LM) h)
    · rw [b18_0]
      simp (disch := omega) only [sC63 (by omega) hC.2.2.1, pz_bF hx, b18_8, b18_30, b18_32, pz_k0, pz_k1, pz_k2, pz_k3, pz_k4, pz_k5, pz_k6, pz_k7, pz_k8, pz_k9, pz_k10, pz_k16, pz_k31, pz_k63, pz_km, nI_add, pz_mul, nI_ltI, nI_eq, nI_clamp, pz_inI, Option.bind_some, Option.toList_some, Option.toList_none, List.cons_append, List.nil_append, Nat.zero_add, Nat.mul_zero, Nat.add_zero, Nat.lt_irrefl, pz_bb, pz_bTr, Bool.false_eq_true, pz_bFa, Nat.reduceEqDiff, Nat.reduceLT, ite_not, pz_mE, pz_mE2, pz_mL, pz_mG, not_true_eq_false, not_false_eq_true, if_true, if_false, reduceIte, eq_self, true_or, or_true, or_false, false_or, and_true, true_and, and_false, false_and]
    · rw [b153_0]
      simp (disch := omega) only [sM134 hA hM, pz_bF hx, b153_5, b153_16, b153_18, pz_k0, pz_k1, pz_k2, pz_k3, pz_k4, pz_k5, pz_k6, pz_k7, pz_k8, pz_k9, pz_k10, pz_k16, pz_k31, pz_k63, pz_km, nI_add, pz_mul, nI_ltI, nI_eq, nI_clamp, pz_inI, Option.bind_some, Option.toList_some, Option.toList_none, List.cons_append, List.nil_append, Nat.zero_add, Nat.mul_zero, Nat.add_zero, Nat.lt_irrefl, pz_bb, pz_bTr, Bool.false_eq_true, pz_bFa, Nat.reduceEqDiff, Nat.reduceLT, ite_not, pz_mE, pz_mE2, pz_mL, pz_mG, not_true_eq_false, not_false_eq_true, if_true, if_false, reduceIte, eq_self, true_or, or_true, or_false, false_or, and_true, true_and, and_false, false_and]
end PZ50
