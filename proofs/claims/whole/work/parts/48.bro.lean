/-! bridges: about, as, alike -/
def pz_sg (A : pz_A) (b j : Nat) : Int32 := if j < A 4 b 0 then nI (A 5 b j) else pz_m
noncomputable def pz_pr (A : pz_A) (b w : Nat) : Int32 := match w with
  | 0 => nI (A 1 b 0)
  | 1 => nI (A 2 b 0)
  | 2 => nI (A 3 b 0)
  | 3 => nI (A 4 b 0)
  | 4 => nI (pz_len A b)
  | j + 5 => pz_sg A b j
noncomputable def pz_alk (A : pz_A) (b k : Nat) : Bool := pz_d (k ≠ b ∧ pz_ss A k b)
noncomputable def pz_al (A : pz_A) (b : Nat) : Int32 := if pz_fnd (pz_alk A b) (A 0 0 0) 0 < A 0 0 0 then nI (pz_fnd (pz_alk A b) (A 0 0 0) 0) else pz_m
def pz_ofk (i w : Nat) : Prop := w = 0 ∨ i = w ∨ (w = 1 ∧ i = 3)
section PZ48
variable {ids : List (Nat × Nat)} {I J : mm_HI} {L LC LM : mm_HL} {κ f : Nat → Nat} {A : pz_A} {k ck n g b v s : Nat}
theorem sC75a {j : Nat} (hA : pz_wf ck A) (hC : pz_C 0 A I κ) (hb : b < A 0 0 0) (hj : j < 5) : mm_ev 75 0 [some (.inr (.inr (5, b))), some (.inl (nI j))] [] (ids, I, L, mm_RS κ) = some (some (.inl (pz_sg A b j)), (ids, I, L, mm_RS κ)) := by
  obtain ⟨-, -, -, -, a4, a5, a6⟩ := hA.2.2.1 b hb
  obtain ⟨-, -, -, c4, -, c6⟩ := pz_C0b hC hb
  unfold pz_sg
  rw [b75_0]
  by_cases h : j < A 4 b 0
  · rw [if_pos h]
    simp (disch := omega) only [Nat.not_lt_zero, b75_4, c4, h, b75_12, show j < 5 by omega, c6 j h, b75_18, b75_22, pz_k0, pz_k1, pz_k2, pz_k3, pz_k4, pz_k5, pz_k6, pz_k7, pz_k8, pz_k9, pz_k10, pz_k16, pz_k31, pz_k63, pz_km, nI_add, pz_mul, nI_ltI, nI_eq, nI_clamp, pz_inI, Option.bind_some, Option.toList_some, Option.toList_none, List.cons_append, List.nil_append, Nat.zero_add, Nat.mul_zero, Nat.add_zero, Nat.lt_irrefl, pz_bb, pz_bTr, Bool.false_eq_true, pz_bFa, Nat.reduceEqDiff, Nat.reduceLT, ite_not, pz_mE, pz_mE2, pz_mL, pz_mG, not_true_eq_false, not_false_eq_true, if_true, if_false, reduceIte, eq_self, true_or, or_true, or_false, false_or, and_true, true_and, and_false, false_and]
  · rw [if_neg h]
    simp (disch := omega) only [Nat.not_lt_zero, b75_4, c4, h, b75_21, b75_22, pz_k0, pz_k1, pz_k2, pz_k3, pz_k4, pz_k5, pz_k6, pz_k7, pz_k8, pz_k9, pz_k10, pz_k16, pz_k31, pz_k63, pz_km, nI_add, pz_mul, nI_ltI, nI_eq, nI_clamp, pz_inI, Option.bind_some, Option.toList_some, Option.toList_none, List.cons_append, List.nil_append, Nat.zero_add, Nat.mul_zero, Nat.add_zero, Nat.lt_irrefl, pz_bb, pz_bTr, Bool.false_eq_true, pz_bFa, Nat.reduceEqDiff, Nat.reduceLT, ite_not, pz_mE, pz_mE2, pz_mL, pz_mG, not_true_eq_false, not_false_eq_true, if_true, if_false, reduceIte, eq_self, true_or, or_true, or_false, false_or, and_true, true_and, and_false, false_and]
theorem sC75b {x : Int32} (hA : pz_wf ck A) (hC : pz_C 0 A I κ) (hb : b < A 0 0 0) (hx : ¬ pz_rg x (A 4 b 0)) : mm_ev 75 0 [some (.inr (.inr (5, b))), some (.inl (x))] [] (ids, I, L, mm_RS κ) = some (some (.inl pz_m), (ids, I, L, mm_RS κ)) := by
  obtain ⟨-, -, -, -, a4, a5, a6⟩ := hA.2.2.1 b hb
  obtain ⟨-, -, -, c4, -, c6⟩ := pz_C0b hC hb
  rw [b75_0]
  by_cases h : x < 0
  · rw [if_pos h, b75_21, b75_22]
    rfl
  · rw [if_neg h, b75_4, c4, if_neg (fun z => hx ((pz_rg_iff (by omega)).mpr ⟨h, z⟩)), b75_21, b75_22]
    rfl
theorem sC74 {w : Nat} (hA : pz_wf ck A) (hC : pz_C 0 A I κ) (hb : b < A 0 0 0) (hw : w ≤ 9) : mm_ev 74 0 [some (.inr (.inr (5, b))), some (.inl (nI w))] [] (ids, I, L, mm_RS κ) = some (some (.inl (pz_pr A b w)), (ids, I, L, mm_RS κ)) := by
  obtain ⟨a1, a2, a3, -, a4, a5, a6⟩ := hA.2.2.1 b hb
  obtain ⟨c1, c2, c3, c4, c5, c6⟩ := pz_C0b hC hb
  have hk4 : A 1 b 0 < 4 := by omega
  match w, hw with
  | 0, _ =>
    rw [b74_0, show mm_ts 64 0 [36, 44, 49, 54, 59] (nI 0) = 36 from by decide +kernel, b74_36, c1, if_pos hk4, sC_kind a1]
    exact b74_43 ..
  | 1, _ =>
    rw [b74_0, show mm_ts 64 0 [36, 44, 49, 54, 59] (nI 1) = 44 from by decide +kernel, b74_44, c2]
    rfl
  | 2, _ =>
    rw [b74_0, show mm_ts 64 0 [36, 44, 49, 54, 59] (nI 2) = 49 from by decide +kernel, b74_49, c3]
    rfl
  | 3, _ =>
    rw [b74_0, show mm_ts 64 0 [36, 44, 49, 54, 59] (nI 3) = 54 from by decide +kernel, b74_54, c4]
    rfl
  | 4, _ =>
    rw [b74_0, show mm_ts 64 0 [36, 44, 49, 54, 59] (nI 4) = 59 from by decide +kernel, b74_59, c5]
    rfl
  | j + 5, hw =>
    rw [b74_0, pz_ts (by omega), show List.getD [36, 44, 49, 54, 59] (j + 5) 64 = 64 from rfl, b74_64, show nI (j + 5) - 5 = nI j from by rw [pz_k5, pz_sub (by omega), Nat.add_sub_cancel], sC75a hA hC hb (by omega)]
    exact b74_71 ..
theorem pz_Msg (hA : pz_wf ck A) (hM : pz_M A I) (hb : b < A 0 0 0) {j : Nat} (hj : j < 5) : I 125 0 (5 * b + j) = pz_sg A b j := by
  obtain ⟨-, -, -, -, c5, c6⟩ := pz_M0b hM hb
  unfold pz_sg
  by_cases h : j < A 4 b 0
  · rw [if_pos h]
    exact c5 j h
  · rw [if_neg h]
    exact c6 j (by omega) hj
theorem sM126 {w : Nat} (hA : pz_wf ck A) (hM : pz_M A I) (hb : b < A 0 0 0) (hw : w ≤ 9) : mm_ev 126 0 [some (.inr (.inr (9, 0))), some (.inl (nI b)), some (.inl (nI w))] [] (ids, I, L, mm_RM) = some (some (.inl (pz_pr A b w)), (ids, I, L, mm_RM)) := by
  have h9 := hA.2.1
  have hb9 : b < 9 := by omega
  have hin : mm_in (nI b) 9 = true := (pz_inI (by omega)).mpr hb9
  have hcl : (nI b).toNatClampNeg = b := nI_clamp (by omega)
  obtain ⟨c1, c2, c3, c4, c5, -⟩ := pz_M0b hM hb
  match w, hw with
  | 0, _ =>
    rw [b126_0, show mm_ts 70 0 [36, 43, 50, 57, 64] (nI 0) = 36 from by decide +kernel, b126_36, if_pos hin, hcl, c1]
    exact b126_42 ..
  | 1, _ =>
    rw [b126_0, show mm_ts 70 0 [36, 43, 50, 57, 64] (nI 1) = 43 from by decide +kernel, b126_43, if_pos hin, hcl, c2]
    exact b126_49 ..
  | 2, _ =>
    rw [b126_0, show mm_ts 70 0 [36, 43, 50, 57, 64] (nI 2) = 50 from by decide +kernel, b126_50, if_pos hin, hcl, c3]
    exact b126_56 ..
  | 3, _ =>
    rw [b126_0, show mm_ts 70 0 [36, 43, 50, 57, 64] (nI 3) = 57 from by decide +kernel, b126_57, if_pos hin, hcl, c4]
    exact b126_63 ..
  | 4, _ =>
    rw [b126_0, show mm_ts 70 0 [36, 43, 50, 57, 64] (nI 4) = 64 from by decide +kernel, b126_64, sM125 hA hM hb]
    exact b126_69 ..
  | j + 5, hw =>
    rw [b126_0, pz_ts (by omega), show List.getD [36, 43, 50, 57, 64] (j + 5) 70 = 70 from rfl, b126_70, show 5 * nI b + nI (j + 5) - 5 = nI (5 * b + j) from by rw [pz_k5, pz_mul, nI_add, pz_sub (by omega), show 5 * b + (j + 5) - 5 = 5 * b + j by omega], if_pos ((pz_inI (by omega)).mpr (by omega)), nI_clamp (by omega), pz_Msg hA hM hb (by omega)]
    exact b126_82 ..
theorem op5 (h : pz_Q k ck n g f A κ I J) (x y : Int32) : lw_two (pz_R (k + 1)) 5 127 [.inl x, .inl y] (mm_idC, I, LC, mm_RS κ) (mm_idM, J, LM, mm_RM) := by
  obtain ⟨-, -, -, hA, hC, hM, -⟩ := id h
  have h9 := hA.2.1
  by_cases hx : pz_rg x (A 0 0 0)
  · have hx' := hx
    obtain ⟨b, hb, rfl⟩ := hx
    by_cases hy : ¬ y < nI 0 ∧ ¬ nI 9 < y
    · have hy' := hy
      obtain ⟨w, hw, rfl⟩ := pz_win (by decide) hy
      refine pz_two (laC := [some (.inr (.inr (1, 0))), some (.inl _), some (.inl _)]) (laM := [some (.inr (.inr (9, 0))), some (.inl _), some (.inl _)]) (by rw [show mm_mL 5 = 3 from by decide +kernel]; rfl) (by rw [show mm_mL 127 = 3 from by decide +kernel]; rfl) (r :=  pz_pr A b w) ?_ ?_ (pz_rd0 (LC' := LC) (LM' := LM) h)
      · rw [b5_0]
        simp (disch := omega) only [sC62 (by omega) hC.1, pz_bT hx', b5_8, b5_14, Nat.not_lt_zero, b5_18, show ¬ 9 < w by omega, b5_27, show b < 9 by omega, b5_36, sC74 hA hC hb hw, b5_40, pz_k0, pz_k1, pz_k2, pz_k3, pz_k4, pz_k5, pz_k6, pz_k7, pz_k8, pz_k9, pz_k10, pz_k16, pz_k31, pz_k63, pz_km, nI_add, pz_mul, nI_ltI, nI_eq, nI_clamp, pz_inI, Option.bind_some, Option.toList_some, Option.toList_none, List.cons_append, List.nil_append, Nat.zero_add, Nat.mul_zero, Nat.add_zero, Nat.lt_irrefl, pz_bb, pz_bTr, Bool.false_eq_true, pz_bFa, Nat.reduceEqDiff, Nat.reduceLT, ite_not, pz_mE, pz_mE2, pz_mL, pz_mG, not_true_eq_false, not_false_eq_true, if_true, if_false, reduceIte, eq_self, true_or, or_true, or_false, false_or, and_true, true_and, and_false, false_and]
      · rw [b127_0]
        simp (disch := omega) only [sM123 hA hM, pz_bT hx', b127_5, b127_13, sM113T hy', b127_20, b127_23, sM126 hA hM hb hw, b127_29, b127_34, pz_k0, pz_k1, pz_k2, pz_k3, pz_k4, pz_k5, pz_k6, pz_k7, pz_k8, pz_k9, pz_k10, pz_k16, pz_k31, pz_k63, pz_km, nI_add, pz_mul, nI_ltI, nI_eq, nI_clamp, pz_inI, Option.bind_some, Option.toList_some, Option.toList_none, List.cons_append, List.nil_append, Nat.zero_add, Nat.mul_zero, Nat.add_zero, Nat.lt_irrefl, pz_bb, pz_bTr, Bool.false_eq_true, pz_bFa, Nat.reduceEqDiff, Nat.reduceLT, ite_not, pz_mE, pz_mE2, pz_mL, pz_mG, not_true_eq_false, not_false_eq_true, if_true, if_false, reduceIte, eq_self, true_or, or_true, or_false, false_or, and_true, true_and, and_false, false_and]
    · refine pz_two (laC := [some (.inr (.inr (1, 0))), some (.inl _), some (.inl _)]) (laM := [some (.inr (.inr (9, 0))), some (.inl _), some (.inl _)]) (by rw [show mm_mL 5 = 3 from by decide +kernel]; rfl) (by rw [show mm_mL 127 = 3 from by decide +kernel]; rfl) (r :=  -102) ?_ ?_ (pz_rd0 (LC' := LC) (LM' := LM) h)
      · rw [b5_0]
        by_cases h1 : y < nI 0
        · simp (disch := omega) only [sC62 (by omega) hC.1, pz_bT hx', b5_8, b5_14, h1, b5_24, pz_k0, pz_k1, pz_k2, pz_k3, pz_k4, pz_k5, pz_k6, pz_k7, pz_k8, pz_k9, pz_k10, pz_k16, pz_k31, pz_k63, pz_km, nI_add, pz_mul, nI_ltI, nI_eq, nI_clamp, pz_inI, Option.bind_some, Option.toList_some, Option.toList_none, List.cons_append, List.nil_append, Nat.zero_add, Nat.mul_zero, Nat.add_zero, Nat.lt_irrefl, pz_bb, pz_bTr, Bool.false_eq_true, pz_bFa, Nat.reduceEqDiff, Nat.reduceLT, ite_not, pz_mE, pz_mE2, pz_mL, pz_mG, not_true_eq_false, not_false_eq_true, if_true, if_false, reduceIte, eq_self, true_or, or_true, or_false, false_or, and_true, true_and, and_false, false_and]
        · have h2 : nI 9 < y := by
            refine Classical.byContradiction (fun z => hy ⟨h1, z⟩)
          simp (disch := omega) only [sC62 (by omega) hC.1, pz_bT hx', b5_8, b5_14, h1, b5_18, h2, b5_24, pz_k0, pz_k1, pz_k2, pz_k3, pz_k4, pz_k5, pz_k6, pz_k7, pz_k8, pz_k9, pz_k10, pz_k16, pz_k31, pz_k63, pz_km, nI_add, pz_mul, nI_ltI, nI_eq, nI_clamp, pz_inI, Option.bind_some, Option.toList_some, Option.toList_none, List.cons_append, List.nil_append, Nat.zero_add, Nat.mul_zero, Nat.add_zero, Nat.lt_irrefl, pz_bb, pz_bTr, Bool.false_eq_true, pz_bFa, Nat.reduceEqDiff, Nat.reduceLT, ite_not, pz_mE, pz_mE2, pz_mL, pz_mG, not_true_eq_false, not_false_eq_true, if_true, if_false, reduceIte, eq_self, true_or, or_true, or_false, false_or, and_true, true_and, and_false, false_and]
      · rw [b127_0]
        simp (disch := omega) only [sM123 hA hM, pz_bT hx', b127_5, b127_13, sM113F hy, b127_20, b127_32, b127_34, pz_k0, pz_k1, pz_k2, pz_k3, pz_k4, pz_k5, pz_k6, pz_k7, pz_k8, pz_k9, pz_k10, pz_k16, pz_k31, pz_k63, pz_km, nI_add, pz_mul, nI_ltI, nI_eq, nI_clamp, pz_inI, Option.bind_some, Option.toList_some, Option.toList_none, List.cons_append, List.nil_append, Nat.zero_add, Nat.mul_zero, Nat.add_zero, Nat.lt_irrefl, pz_bb, pz_bTr, Bool.false_eq_true, pz_bFa, Nat.reduceEqDiff, Nat.reduceLT, ite_not, pz_mE, pz_mE2, pz_mL, pz_mG, not_true_eq_false, not_false_eq_true, if_true, if_false, reduceIte, eq_self, true_or, or_true, or_false, false_or, and_true, true_and, and_false, false_and]
  · refine pz_two (laC := [some (.inr (.inr (1, 0))), some (.inl _), some (.inl _)]) (laM := [some (.inr (.inr (9, 0))), some (.inl _), some (.inl _)]) (by rw [show mm_mL 5 = 3 from by decide +kernel]; rfl) (by rw [show mm_mL 127 = 3 from by decide +kernel]; rfl) (r :=  -101) ?_ ?_ (pz_rd0 (LC' := LC) (LM' := LM) h)
    · rw [b5_0]
      simp (disch := omega) only [sC62 (by omega) hC.1, pz_bF hx, b5_8, b5_11, pz_k0, pz_k1, pz_k2, pz_k3, pz_k4, pz_k5, pz_k6, pz_k7, pz_k8, pz_k9, pz_k10, pz_k16, pz_k31, pz_k63, pz_km, nI_add, pz_mul, nI_ltI, nI_eq, nI_clamp, pz_inI, Option.bind_some, Option.toList_some, Option.toList_none, List.cons_append, List.nil_append, Nat.zero_add, Nat.mul_zero, Nat.add_zero, Nat.lt_irrefl, pz_bb, pz_bTr, Bool.false_eq_true, pz_bFa, Nat.reduceEqDiff, Nat.reduceLT, ite_not, pz_mE, pz_mE2, pz_mL, pz_mG, not_true_eq_false, not_false_eq_true, if_true, if_false, reduceIte, eq_self, true_or, or_true, or_false, false_or, and_true, true_and, and_false, false_and]
    · rw [b127_0]
      simp (disch := omega) only [sM123 hA hM, pz_bF hx, b127_5, b127_8, b127_34, pz_k0, pz_k1, pz_k2, pz_k3, pz_k4, pz_k5, pz_k6, pz_k7, pz_k8, pz_k9, pz_k10, pz_k16, pz_k31, pz_k63, pz_km, nI_add, pz_mul, nI_ltI, nI_eq, nI_clamp, pz_inI, Option.bind_some, Option.toList_some, Option.toList_none, List.cons_append, List.nil_append, Nat.zero_add, Nat.mul_zero, Nat.add_zero, Nat.lt_irrefl, pz_bb, pz_bTr, Bool.false_eq_true, pz_bFa, Nat.reduceEqDiff, Nat.reduceLT, ite_not, pz_mE, pz_mE2, pz_mL, pz_mG, not_true_eq_false, not_false_eq_true, if_true, if_false, reduceIte, eq_self, true_or, or_true, or_false, false_or, and_true, true_and, and_false, false_and]
/-- isOfKind -/
theorem sC36 {i w : Nat} (hi : i ≤ 3) (hw : w ≤ 3) : mm_ev 36 0 [some (.inr (.inr (3, i))), some (.inl (nI w))] [] (ids, I, L, mm_RS κ) = some (some (.inl (pz_b (pz_ofk i w))), (ids, I, L, mm_RS κ)) := by
  match w, hw with
  | 0, _ =>
    rw [b36_0, show mm_ts 43 1 [28, 33, 38] (nI 0) = 43 from by decide +kernel, b36_43, pz_bT (show pz_ofk i 0 from Or.inl rfl)]
    rfl
  | 1, _ =>
    rw [b36_0, show mm_ts 43 1 [28, 33, 38] (nI 1) = 28 from by decide +kernel, b36_28, b36_32]
    match i, hi with
    | 0, _ => rw [pz_bF (by unfold pz_ofk; omega)]; rfl
    | 1, _ => rw [pz_bT (by unfold pz_ofk; omega)]; rfl
    | 2, _ => rw [pz_bF (by unfold pz_ofk; omega)]; rfl
    | 3, _ => rw [pz_bT (by unfold pz_ofk; omega)]; rfl
    | i + 4, h => omega
  | 2, _ =>
    rw [b36_0, show mm_ts 43 1 [28, 33, 38] (nI 2) = 33 from by decide +kernel, b36_33, b36_37]
    match i, hi with
    | 0, _ => rw [pz_bF (by unfold pz_ofk; omega)]; rfl
    | 1, _ => rw [pz_bF (by unfold pz_ofk; omega)]; rfl
    | 2, _ => rw [pz_bT (by unfold pz_ofk; omega)]; rfl
    | 3, _ => rw [pz_bF (by unfold pz_ofk; omega)]; rfl
    | i + 4, h => omega
  | 3, _ =>
    rw [b36_0, show mm_ts 43 1 [28, 33, 38] (nI 3) = 38 from by decide +kernel, b36_38, b36_42]
    match i, hi with
    | 0, _ => rw [pz_bF (by unfold pz_ofk; omega)]; rfl
    | 1, _ => rw [pz_bF (by unfold pz_ofk; omega)]; rfl
    | 2, _ => rw [pz_bF (by unfold pz_ofk; omega)]; rfl
    | 3, _ => rw [pz_bT (by unfold pz_ofk; omega)]; rfl
    | i + 4, h => omega
  | w + 4, h => omega
theorem op6 (h : pz_Q k ck n g f A κ I J) (x y : Int32) : lw_two (pz_R (k + 1)) 6 128 [.inl x, .inl y] (mm_idC, I, LC, mm_RS κ) (mm_idM, J, LM, mm_RM) := by
  obtain ⟨-, -, -, hA, hC, hM, -⟩ := id h
  have h9 := hA.2.1
  by_cases hx : pz_rg x (A 0 0 0)
  · have hx' := hx
    obtain ⟨b, hb, rfl⟩ := hx
    by_cases hy : ¬ y < nI 0 ∧ ¬ nI 3 < y
    · have hy' := hy
      obtain ⟨w, hw, rfl⟩ := pz_win (by decide) hy
      have a1 := (hA.2.2.1 b hb).1
      have c1 := (pz_C0b hC hb).1
      have m1 := (pz_M0b hM hb).1
      by_cases ho : pz_ofk (A 1 b 0) w
      · refine pz_two (laC := [some (.inr (.inr (1, 0))), some (.inl _), some (.inl _)]) (laM := [some (.inr (.inr (9, 0))), some (.inl _), some (.inl _), none]) (by rw [show mm_mL 6 = 3 from by decide +kernel]; rfl) (by rw [show mm_mL 128 = 4 from by decide +kernel]; rfl) (r :=  nI b) ?_ ?_ (pz_rd0 (LC' := LC) (LM' := LM) h)
        · rw [b6_0]
          simp (disch := omega) only [sC62 (by omega) hC.1, pz_bT hx', b6_8, b6_14, Nat.not_lt_zero, b6_18, show ¬ 3 < w by omega, b6_26, show b < 9 by omega, b6_35, c1, sC36 a1 hw, pz_bT ho, b6_42, b6_45, b6_50, pz_k0, pz_k1, pz_k2, pz_k3, pz_k4, pz_k5, pz_k6, pz_k7, pz_k8, pz_k9, pz_k10, pz_k16, pz_k31, pz_k63, pz_km, nI_add, pz_mul, nI_ltI, nI_eq, nI_clamp, pz_inI, Option.bind_some, Option.toList_some, Option.toList_none, List.cons_append, List.nil_append, Nat.zero_add, Nat.mul_zero, Nat.add_zero, Nat.lt_irrefl, pz_bb, pz_bTr, Bool.false_eq_true, pz_bFa, Nat.reduceEqDiff, Nat.reduceLT, ite_not, pz_mE, pz_mE2, pz_mL, pz_mG, not_true_eq_false, not_false_eq_true, if_true, if_false, reduceIte, eq_self, true_or, or_true, or_false, false_or, and_true, true_and, and_false, false_and]
        · rw [b128_0]
          simp (disch := omega) only [sM123 hA hM, pz_bT hx', b128_5, b128_11, sM113T hy', b128_17, b128_23, show b < 9 by omega, m1, pz_k0, pz_k1, pz_k2, pz_k3, pz_k4, pz_k5, pz_k6, pz_k7, pz_k8, pz_k9, pz_k10, pz_k16, pz_k31, pz_k63, pz_km, nI_add, pz_mul, nI_ltI, nI_eq, nI_clamp, pz_inI, Option.bind_some, Option.toList_some, Option.toList_none, List.cons_append, List.nil_append, Nat.zero_add, Nat.mul_zero, Nat.add_zero, Nat.lt_irrefl, pz_bb, pz_bTr, Bool.false_eq_true, pz_bFa, Nat.reduceEqDiff, Nat.reduceLT, ite_not, pz_mE, pz_mE2, pz_mL, pz_mG, not_true_eq_false, not_false_eq_true, if_true, if_false, reduceIte, eq_self, true_or, or_true, or_false, false_or, and_true, true_and, and_false, false_and]
          rw [b128_29]
          by_cases w0 : w = 0
          · simp (disch := omega) only [w0, b128_49, b128_54, pz_k0, pz_k1, pz_k2, pz_k3, pz_k4, pz_k5, pz_k6, pz_k7, pz_k8, pz_k9, pz_k10, pz_k16, pz_k31, pz_k63, pz_km, nI_add, pz_mul, nI_ltI, nI_eq, nI_clamp, pz_inI, Option.bind_some, Option.toList_some, Option.toList_none, List.cons_append, List.nil_append, Nat.zero_add, Nat.mul_zero, Nat.add_zero, Nat.lt_irrefl, pz_bb, pz_bTr, Bool.false_eq_true, pz_bFa, Nat.reduceEqDiff, Nat.reduceLT, ite_not, pz_mE, pz_mE2, pz_mL, pz_mG, not_true_eq_false, not_false_eq_true, if_true, if_false, reduceIte, eq_self, true_or, or_true, or_false, false_or, and_true, true_and, and_false, false_and]
          · by_cases w1 : A 1 b 0 = w
            · simp (disch := omega) only [w0, b128_34, w1, b128_49, b128_54, pz_k0, pz_k1, pz_k2, pz_k3, pz_k4, pz_k5, pz_k6, pz_k7, pz_k8, pz_k9, pz_k10, pz_k16, pz_k31, pz_k63, pz_km, nI_add, pz_mul, nI_ltI, nI_eq, nI_clamp, pz_inI, Option.bind_some, Option.toList_some, Option.toList_none, List.cons_append, List.nil_append, Nat.zero_add, Nat.mul_zero, Nat.add_zero, Nat.lt_irrefl, pz_bb, pz_bTr, Bool.false_eq_true, pz_bFa, Nat.reduceEqDiff, Nat.reduceLT, ite_not, pz_mE, pz_mE2, pz_mL, pz_mG, not_true_eq_false, not_false_eq_true, if_true, if_false, reduceIte, eq_self, true_or, or_true, or_false, false_or, and_true, true_and, and_false, false_and]
            · have w2 : w = 1 ∧ A 1 b 0 = 3 := by
                unfold pz_ofk at ho
                omega
              simp (disch := omega) only [w0, b128_34, w1, b128_39, w2.1, w2.2, b128_44, b128_49, b128_54, pz_k0, pz_k1, pz_k2, pz_k3, pz_k4, pz_k5, pz_k6, pz_k7, pz_k8, pz_k9, pz_k10, pz_k16, pz_k31, pz_k63, pz_km, nI_add, pz_mul, nI_ltI, nI_eq, nI_clamp, pz_inI, Option.bind_some, Option.toList_some, Option.toList_none, List.cons_append, List.nil_append, Nat.zero_add, Nat.mul_zero, Nat.add_zero, Nat.lt_irrefl, pz_bb, pz_bTr, Bool.false_eq_true, pz_bFa, Nat.reduceEqDiff, Nat.reduceLT, ite_not, pz_mE, pz_mE2, pz_mL, pz_mG, not_true_eq_false, not_false_eq_true, if_true, if_false, reduceIte, eq_self, true_or, or_true, or_false, false_or, and_true, true_and, and_false, false_and]
      · refine pz_two (laC := [some (.inr (.inr (1, 0))), some (.inl _), some (.inl _)]) (laM := [some (.inr (.inr (9, 0))), some (.inl _), some (.inl _), none]) (by rw [show mm_mL 6 = 3 from by decide +kernel]; rfl) (by rw [show mm_mL 128 = 4 from by decide +kernel]; rfl) (r :=  pz_m) ?_ ?_ (pz_rd0 (LC' := LC) (LM' := LM) h)
        · rw [b6_0]
          simp (disch := omega) only [sC62 (by omega) hC.1, pz_bT hx', b6_8, b6_14, Nat.not_lt_zero, b6_18, show ¬ 3 < w by omega, b6_26, show b < 9 by omega, b6_35, c1, sC36 a1 hw, pz_bF ho, b6_42, b6_49, b6_50, pz_k0, pz_k1, pz_k2, pz_k3, pz_k4, pz_k5, pz_k6, pz_k7, pz_k8, pz_k9, pz_k10, pz_k16, pz_k31, pz_k63, pz_km, nI_add, pz_mul, nI_ltI, nI_eq, nI_clamp, pz_inI, Option.bind_some, Option.toList_some, Option.toList_none, List.cons_append, List.nil_append, Nat.zero_add, Nat.mul_zero, Nat.add_zero, Nat.lt_irrefl, pz_bb, pz_bTr, Bool.false_eq_true, pz_bFa, Nat.reduceEqDiff, Nat.reduceLT, ite_not, pz_mE, pz_mE2, pz_mL, pz_mG, not_true_eq_false, not_false_eq_true, if_true, if_false, reduceIte, eq_self, true_or, or_true, or_false, false_or, and_true, true_and, and_false, false_and]
        · rw [b128_0]
          simp (disch := omega) only [sM123 hA hM, pz_bT hx', b128_5, b128_11, sM113T hy', b128_17, b128_23, show b < 9 by omega, m1, pz_k0, pz_k1, pz_k2, pz_k3, pz_k4, pz_k5, pz_k6, pz_k7, pz_k8, pz_k9, pz_k10, pz_k16, pz_k31, pz_k63, pz_km, nI_add, pz_mul, nI_ltI, nI_eq, nI_clamp, pz_inI, Option.bind_some, Option.toList_some, Option.toList_none, List.cons_append, List.nil_append, Nat.zero_add, Nat.mul_zero, Nat.add_zero, Nat.lt_irrefl, pz_bb, pz_bTr, Bool.false_eq_true, pz_bFa, Nat.reduceEqDiff, Nat.reduceLT, ite_not, pz_mE, pz_mE2, pz_mL, pz_mG, not_true_eq_false, not_false_eq_true, if_true, if_false, reduceIte, eq_self, true_or, or_true, or_false, false_or, and_true, true_and, and_false, false_and]
          rw [b128_29]
          unfold pz_ofk at ho
          have w0 : ¬ w = 0 := by omega
          have w1 : ¬ A 1 b 0 = w := by omega
          by_cases w2 : w = 1
          · have w3 : ¬ A 1 b 0 = 3 := by omega
            subst w2
            simp (disch := omega) only [b128_34, w1, b128_39, b128_44, w3, b128_53, b128_54, pz_k0, pz_k1, pz_k2, pz_k3, pz_k4, pz_k5, pz_k6, pz_k7, pz_k8, pz_k9, pz_k10, pz_k16, pz_k31, pz_k63, pz_km, nI_add, pz_mul, nI_ltI, nI_eq, nI_clamp, pz_inI, Option.bind_some, Option.toList_some, Option.toList_none, List.cons_append, List.nil_append, Nat.zero_add, Nat.mul_zero, Nat.add_zero, Nat.lt_irrefl, pz_bb, pz_bTr, Bool.false_eq_true, pz_bFa, Nat.reduceEqDiff, Nat.reduceLT, ite_not, pz_mE, pz_mE2, pz_mL, pz_mG, not_true_eq_false, not_false_eq_true, if_true, if_false, reduceIte, eq_self, true_or, or_true, or_false, false_or, and_true, true_and, and_false, false_and]
          · simp (disch := omega) only [w0, b128_34, w1, b128_39, w2, b128_53, b128_54, pz_k0, pz_k1, pz_k2, pz_k3, pz_k4, pz_k5, pz_k6, pz_k7, pz_k8, pz_k9, pz_k10, pz_k16, pz_k31, pz_k63, pz_km, nI_add, pz_mul, nI_ltI, nI_eq, nI_clamp, pz_inI, Option.bind_some, Option.toList_some, Option.toList_none, List.cons_append, List.nil_append, Nat.zero_add, Nat.mul_zero, Nat.add_zero, Nat.lt_irrefl, pz_bb, pz_bTr, Bool.false_eq_true, pz_bFa, Nat.reduceEqDiff, Nat.reduceLT, ite_not, pz_mE, pz_mE2, pz_mL, pz_mG, not_true_eq_false, not_false_eq_true, if_true, if_false, reduceIte, eq_self, true_or, or_true, or_false, false_or, and_true, true_and, and_false, false_and]
    · refine pz_two (laC := [some (.inr (.inr (1, 0))), some (.inl _), some (.inl _)]) (laM := [some (.inr (.inr (9, 0))), some (.inl _), some (.inl _), none]) (by rw [show mm_mL 6 = 3 from by decide +kernel]; rfl) (by rw [show mm_mL 128 = 4 from by decide +kernel]; rfl) (r :=  -102) ?_ ?_ (pz_rd0 (LC' := LC) (LM' := LM) h)
      · rw [b6_0]
        by_cases h1 : y < nI 0
        · simp (disch := omega) only [sC62 (by omega) hC.1, pz_bT hx', b6_8, b6_14, h1, b6_23, pz_k0, pz_k1, pz_k2, pz_k3, pz_k4, pz_k5, pz_k6, pz_k7, pz_k8, pz_k9, pz_k10, pz_k16, pz_k31, pz_k63, pz_km, nI_add, pz_mul, nI_ltI, nI_eq, nI_clamp, pz_inI, Option.bind_some, Option.toList_some, Option.toList_none, List.cons_append, List.nil_append, Nat.zero_add, Nat.mul_zero, Nat.add_zero, Nat.lt_irrefl, pz_bb, pz_bTr, Bool.false_eq_true, pz_bFa, Nat.reduceEqDiff, Nat.reduceLT, ite_not, pz_mE, pz_mE2, pz_mL, pz_mG, not_true_eq_false, not_false_eq_true, if_true, if_false, reduceIte, eq_self, true_or, or_true, or_false, false_or, and_true, true_and, and_false, false_and]
        · have h2 : nI 3 < y := by
            refine Classical.byContradiction (fun z => hy ⟨h1, z⟩)
          simp (disch := omega) only [sC62 (by omega) hC.1, pz_bT hx', b6_8, b6_14, h1, b6_18, h2, b6_23, pz_k0, pz_k1, pz_k2, pz_k3, pz_k4, pz_k5, pz_k6, pz_k7, pz_k8, pz_k9, pz_k10, pz_k16, pz_k31, pz_k63, pz_km, nI_add, pz_mul, nI_ltI, nI_eq, nI_clamp, pz_inI, Option.bind_some, Option.toList_some, Option.toList_none, List.cons_append, List.nil_append, Nat.zero_add, Nat.mul_zero, Nat.add_zero, Nat.lt_irrefl, pz_bb, pz_bTr, Bool.false_eq_true, pz_bFa, Nat.reduceEqDiff, Nat.reduceLT, ite_not, pz_mE, pz_mE2, pz_mL, pz_mG, not_true_eq_false, not_false_eq_true, if_true, if_false, reduceIte, eq_self, true_or, or_true, or_false, false_or, and_true, true_and, and_false, false_and]
      · rw [b128_0]
        simp (disch := omega) only [sM123 hA hM, pz_bT hx', b128_5, b128_11, sM113F hy, b128_17, b128_20, pz_k0, pz_k1, pz_k2, pz_k3, pz_k4, pz_k5, pz_k6, pz_k7, pz_k8, pz_k9, pz_k10, pz_k16, pz_k31, pz_k63, pz_km, nI_add, pz_mul, nI_ltI, nI_eq, nI_clamp, pz_inI, Option.bind_some, Option.toList_some, Option.toList_none, List.cons_append, List.nil_append, Nat.zero_add, Nat.mul_zero, Nat.add_zero, Nat.lt_irrefl, pz_bb, pz_bTr, Bool.false_eq_true, pz_bFa, Nat.reduceEqDiff, Nat.reduceLT, ite_not, pz_mE, pz_mE2, pz_mL, pz_mG, not_true_eq_false, not_false_eq_true, if_true, if_false, reduceIte, eq_self, true_or, or_true, or_false, false_or, and_true, true_and, and_false, false_and]
  · refine pz_two (laC := [some (.inr (.inr (1, 0))), some (.inl _), some (.inl _)]) (laM := [some (.inr (.inr (9, 0))), some (.inl _), some (.inl _), none]) (by rw [show mm_mL 6 = 3 from by decide +kernel]; rfl) (by rw [show mm_mL 128 = 4 from by decide +kernel]; rfl) (r :=  -101) ?_ ?_ (pz_rd0 (LC' := LC) (LM' := LM) h)
    · rw [b6_0]
      simp (disch := omega) only [sC62 (by omega) hC.1, pz_bF hx, b6_8, b6_11, pz_k0, pz_k1, pz_k2, pz_k3, pz_k4, pz_k5, pz_k6, pz_k7, pz_k8, pz_k9, pz_k10, pz_k16, pz_k31, pz_k63, pz_km, nI_add, pz_mul, nI_ltI, nI_eq, nI_clamp, pz_inI, Option.bind_some, Option.toList_some, Option.toList_none, List.cons_append, List.nil_append, Nat.zero_add, Nat.mul_zero, Nat.add_zero, Nat.lt_irrefl, pz_bb, pz_bTr, Bool.false_eq_true, pz_bFa, Nat.reduceEqDiff, Nat.reduceLT, ite_not, pz_mE, pz_mE2, pz_mL, pz_mG, not_true_eq_false, not_false_eq_true, if_true, if_false, reduceIte, eq_self, true_or, or_true, or_false, false_or, and_true, true_and, and_false, false_and]
    · rw [b128_0]
      simp (disch := omega) only [sM123 hA hM, pz_bF hx, b128_5, b128_8, pz_k0, pz_k1, pz_k2, pz_k3, pz_k4, pz_k5, pz_k6, pz_k7, pz_k8, pz_k9, pz_k10, pz_k16, pz_k31, pz_k63, pz_km, nI_add, pz_mul, nI_ltI, nI_eq, nI_clamp, pz_inI, Option.bind_some, Option.toList_some, Option.toList_none, List.cons_append, List.nil_append, Nat.zero_add, Nat.mul_zero, Nat.add_zero, Nat.lt_irrefl, pz_bb, pz_bTr, Bool.false_eq_true, pz_bFa, Nat.reduceEqDiff, Nat.reduceLT, ite_not, pz_mE, pz_mE2, pz_mL, pz_mG, not_true_eq_false, not_false_eq_true, if_true, if_false, reduceIte, eq_self, true_or, or_true, or_false, false_or, and_true, true_and, and_false, false_and]
/-- leastAlike -/
theorem sC64 (hA : pz_wf ck A) (hC : pz_C 0 A I κ) (hb : b < A 0 0 0) : mm_ev 64 0 [some (.inr (.inr (4, 0))), some (.inl (nI b)), none] [] (ids, I, L, mm_RS κ) = some (some (.inl (pz_al A b)), (ids, I, L, mm_RS κ)) := by
  have h9 := hA.2.1
  rw [b64_0]
  have hl := pz_srch (pz_alk A b) (fun k => mm_ev 64 2 [some (.inr (.inr (4, 0))), some (.inl (nI b)), some (.inl (nI k))] [] (ids, I, L, mm_RS κ)) (fun k => some (some (.inl (nI k)), (ids, I, L, mm_RS κ))) (A 0 0 0) 0 (fun k _ hk => ?_)
  · refine Eq.trans hl ?_
    rw [Nat.zero_add]
    unfold pz_al
    split
    · rfl
    · try dsimp only
      rw [b64_2]
      simp (disch := omega) only [hC.1, b64_41, pz_k0, pz_k1, pz_k2, pz_k3, pz_k4, pz_k5, pz_k6, pz_k7, pz_k8, pz_k9, pz_k10, pz_k16, pz_k31, pz_k63, pz_km, nI_add, pz_mul, nI_ltI, nI_eq, nI_clamp, pz_inI, Option.bind_some, Option.toList_some, Option.toList_none, List.cons_append, List.nil_append, Nat.zero_add, Nat.mul_zero, Nat.add_zero, Nat.lt_irrefl, pz_bb, pz_bTr, Bool.false_eq_true, pz_bFa, Nat.reduceEqDiff, Nat.reduceLT, ite_not, pz_mE, pz_mE2, pz_mL, pz_mG, not_true_eq_false, not_false_eq_true, if_true, if_false, reduceIte, eq_self, true_or, or_true, or_false, false_or, and_true, true_and, and_false, false_and]
  · try dsimp only
    have hk : k < A 0 0 0 := by omega
    rw [b64_2]
    unfold pz_alk
    by_cases he : k = b
    · rw [pz_dF (P := k ≠ b ∧ pz_ss A k b) (fun z => z.1 he)]
      subst he
      simp (disch := omega) only [hC.1, hk, b64_10, b64_35, pz_k0, pz_k1, pz_k2, pz_k3, pz_k4, pz_k5, pz_k6, pz_k7, pz_k8, pz_k9, pz_k10, pz_k16, pz_k31, pz_k63, pz_km, nI_add, pz_mul, nI_ltI, nI_eq, nI_clamp, pz_inI, Option.bind_some, Option.toList_some, Option.toList_none, List.cons_append, List.nil_append, Nat.zero_add, Nat.mul_zero, Nat.add_zero, Nat.lt_irrefl, pz_bb, pz_bTr, Bool.false_eq_true, pz_bFa, Nat.reduceEqDiff, Nat.reduceLT, ite_not, pz_mE, pz_mE2, pz_mL, pz_mG, not_true_eq_false, not_false_eq_true, if_true, if_false, reduceIte, eq_self, true_or, or_true, or_false, false_or, and_true, true_and, and_false, false_and]
    · by_cases ho : pz_ss A k b
      · rw [pz_dT (P := k ≠ b ∧ pz_ss A k b) ⟨he, ho⟩]
        simp (disch := omega) only [hC.1, hk, b64_10, he, b64_15, show k < 9 by omega, b64_21, show b < 9 by omega, b64_27, sC79 hA hC hk hb, pz_bT ho, b64_30, b64_33, pz_k0, pz_k1, pz_k2, pz_k3, pz_k4, pz_k5, pz_k6, pz_k7, pz_k8, pz_k9, pz_k10, pz_k16, pz_k31, pz_k63, pz_km, nI_add, pz_mul, nI_ltI, nI_eq, nI_clamp, pz_inI, Option.bind_some, Option.toList_some, Option.toList_none, List.cons_append, List.nil_append, Nat.zero_add, Nat.mul_zero, Nat.add_zero, Nat.lt_irrefl, pz_bb, pz_bTr, Bool.false_eq_true, pz_bFa, Nat.reduceEqDiff, Nat.reduceLT, ite_not, pz_mE, pz_mE2, pz_mL, pz_mG, not_true_eq_false, not_false_eq_true, if_true, if_false, reduceIte, eq_self, true_or, or_true, or_false, false_or, and_true, true_and, and_false, false_and]
      · rw [pz_dF (P := k ≠ b ∧ pz_ss A k b) (fun z => ho z.2)]
        simp (disch := omega) only [hC.1, hk, b64_10, he, b64_15, show k < 9 by omega, b64_21, show b < 9 by omega, b64_27, sC79 hA hC hk hb, pz_bF ho, b64_30, b64_35, pz_k0, pz_k1, pz_k2, pz_k3, pz_k4, pz_k5, pz_k6, pz_k7, pz_k8, pz_k9, pz_k10, pz_k16, pz_k31, pz_k63, pz_km, nI_add, pz_mul, nI_ltI, nI_eq, nI_clamp, pz_inI, Option.bind_some, Option.toList_some, Option.toList_none, List.cons_append, List.nil_append, Nat.zero_add, Nat.mul_zero, Nat.add_zero, Nat.lt_irrefl, pz_bb, pz_bTr, Bool.false_eq_true, pz_bFa, Nat.reduceEqDiff, Nat.reduceLT, ite_not, pz_mE, pz_mE2, pz_mL, pz_mG, not_true_eq_false, not_false_eq_true, if_true, if_false, reduceIte, eq_self, true_or, or_true, or_false, false_or, and_true, true_and, and_false, false_and]
theorem pz_ss_sg (hA : pz_wf ck A) (hk : k < A 0 0 0) (hb : b < A 0 0 0) (he : A 4 k 0 = A 4 b 0) : (∀ j, j < 5 → pz_sg A k j = pz_sg A b j) ↔ pz_ss A k b := by
  obtain ⟨-, -, -, -, a4, a5, a6⟩ := hA.2.2.1 b hb
  obtain ⟨-, -, -, -, d4, d5, d6⟩ := hA.2.2.1 k hk
  constructor
  · refine fun h => ⟨he, fun j hj => ?_⟩
    have := h j (by omega)
    have z1 := a6 j (by omega)
    have z2 := d6 j hj
    unfold pz_sg at this
    rw [if_pos hj, if_pos (by omega), nI_eq (by omega) (by omega)] at this
    exact this
  · intro h j hj
    unfold pz_sg
    rw [he]
    by_cases hj2 : j < A 4 b 0
    · rw [if_pos hj2, if_pos hj2, h.2 j (by omega)]
    · rw [if_neg hj2, if_neg hj2]
/-- alikeNow -/
theorem sM130 (hA : pz_wf ck A) (hM : pz_M A I) (hb : b < A 0 0 0) : mm_ev 130 0 [some (.inr (.inr (9, 0))), some (.inl (nI b)), none, none, none] [] (ids, I, L, mm_RM) = some (some (.inl (pz_al A b)), (ids, I, L, mm_RM)) := by
  have h9 := hA.2.1
  have h41 := (pz_M0 hM).1
  have hb9 : b < 9 := by omega
  obtain ⟨-, -, -, b4, -⟩ := pz_M0b hM hb
  obtain ⟨-, -, -, -, a4, a5, a6⟩ := hA.2.2.1 b hb
  rw [b130_0]
  have hl := pz_srchJ (pz_alk A b) (fun k (j : Option mm_V × Option mm_V) => mm_ev 130 2 [some (.inr (.inr (9, 0))), some (.inl (nI b)), some (.inl (nI k)), j.1, j.2] [] (ids, I, L, mm_RM)) (fun k _ => some (some (.inl (nI k)), (ids, I, L, mm_RM))) (A 0 0 0) 0 (fun k j _ hk => ?_) (none, none)
  · rw [Nat.zero_add] at hl
    unfold pz_al
    by_cases hf : pz_fnd (pz_alk A b) (A 0 0 0) 0 < A 0 0 0
    · rw [if_pos hf]
      obtain ⟨j, hj⟩ := hl.1 hf
      exact hj
    · rw [if_neg hf]
      obtain ⟨j, hj⟩ := hl.2 hf
      refine Eq.trans hj ?_
      rw [b130_2]
      simp (disch := omega) only [h41, b130_98, pz_k0, pz_k1, pz_k2, pz_k3, pz_k4, pz_k5, pz_k6, pz_k7, pz_k8, pz_k9, pz_k10, pz_k16, pz_k31, pz_k63, pz_km, nI_add, pz_mul, nI_ltI, nI_eq, nI_clamp, pz_inI, Option.bind_some, Option.toList_some, Option.toList_none, List.cons_append, List.nil_append, Nat.zero_add, Nat.mul_zero, Nat.add_zero, Nat.lt_irrefl, pz_bb, pz_bTr, Bool.false_eq_true, pz_bFa, Nat.reduceEqDiff, Nat.reduceLT, ite_not, pz_mE, pz_mE2, pz_mL, pz_mG, not_true_eq_false, not_false_eq_true, if_true, if_false, reduceIte, eq_self, true_or, or_true, or_false, false_or, and_true, true_and, and_false, false_and]
  · try dsimp only
    have hk : k < A 0 0 0 := by omega
    have hk9 : k < 9 := by omega
    obtain ⟨-, -, -, k4, -⟩ := pz_M0b hM hk
    obtain ⟨-, -, -, -, d4, d5, d6⟩ := hA.2.2.1 k hk
    by_cases he : k = b
    · subst he
      refine ⟨fun z => absurd rfl (pz_dI.mp z).1, fun _ => ⟨(some (.inl (nI 0)), some (.inl (nI 0))), ?_⟩⟩
      rw [b130_2]
      simp (disch := omega) only [h41, hk, b130_10, b130_34, b130_35, b130_39, b130_45, b130_86, b130_92, pz_k0, pz_k1, pz_k2, pz_k3, pz_k4, pz_k5, pz_k6, pz_k7, pz_k8, pz_k9, pz_k10, pz_k16, pz_k31, pz_k63, pz_km, nI_add, pz_mul, nI_ltI, nI_eq, nI_clamp, pz_inI, Option.bind_some, Option.toList_some, Option.toList_none, List.cons_append, List.nil_append, Nat.zero_add, Nat.mul_zero, Nat.add_zero, Nat.lt_irrefl, pz_bb, pz_bTr, Bool.false_eq_true, pz_bFa, Nat.reduceEqDiff, Nat.reduceLT, ite_not, pz_mE, pz_mE2, pz_mL, pz_mG, not_true_eq_false, not_false_eq_true, if_true, if_false, reduceIte, eq_self, true_or, or_true, or_false, false_or, and_true, true_and, and_false, false_and]
    · by_cases hz : A 4 k 0 = A 4 b 0
      · have hin : mm_ev 130 2 [some (.inr (.inr (9, 0))), some (.inl (nI b)), some (.inl (nI k)), j.1, j.2] [] (ids, I, L, mm_RM) = mm_ev 130 39 [some (.inr (.inr (9, 0))), some (.inl (nI b)), some (.inl (nI k)), some (.inl (nI 1)), some (.inl (nI 0))] [] (ids, I, L, mm_RM) := by
          rw [b130_2]
          simp (disch := omega) only [h41, hk, b130_10, he, b130_15, hk9, k4, b130_21, hb9, b4, b130_27, hz, b130_30, b130_35, pz_k0, pz_k1, pz_k2, pz_k3, pz_k4, pz_k5, pz_k6, pz_k7, pz_k8, pz_k9, pz_k10, pz_k16, pz_k31, pz_k63, pz_km, nI_add, pz_mul, nI_ltI, nI_eq, nI_clamp, pz_inI, Option.bind_some, Option.toList_some, Option.toList_none, List.cons_append, List.nil_append, Nat.zero_add, Nat.mul_zero, Nat.add_zero, Nat.lt_irrefl, pz_bb, pz_bTr, Bool.false_eq_true, pz_bFa, Nat.reduceEqDiff, Nat.reduceLT, ite_not, pz_mE, pz_mE2, pz_mL, pz_mG, not_true_eq_false, not_false_eq_true, if_true, if_false, reduceIte, eq_self, true_or, or_true, or_false, false_or, and_true, true_and, and_false, false_and]
        rw [hin]
        have hs := pz_srch (fun i => decide (pz_sg A k i ≠ pz_sg A b i)) (fun i => mm_ev 130 39 [some (.inr (.inr (9, 0))), some (.inl (nI b)), some (.inl (nI k)), some (.inl (nI 1)), some (.inl (nI i))] [] (ids, I, L, mm_RM)) (fun i => mm_ev 130 2 [some (.inr (.inr (9, 0))), some (.inl (nI b)), some (.inl (nI (k + 1))), some (.inl (nI 0)), some (.inl (nI (i + 1)))] [] (ids, I, L, mm_RM)) 5 0 (fun i _ hi => ?_)
        · have hs : mm_ev 130 39 [some (.inr (.inr (9, 0))), some (.inl (nI b)), some (.inl (nI k)), some (.inl (nI 1)), some (.inl (nI 0))] [] (ids, I, L, mm_RM) = _ := hs
          rw [Nat.zero_add] at hs
          by_cases hall : ∀ j, j < 5 → pz_sg A k j = pz_sg A b j
          · have hss := (pz_ss_sg hA hk hb hz).mp hall
            rw [if_neg] at hs
            · refine ⟨fun _ => ⟨(none, none), ?_⟩, fun z => ?_⟩
              · rw [hs, b130_39]
                simp (disch := omega) only [b130_86, b130_90, pz_k0, pz_k1, pz_k2, pz_k3, pz_k4, pz_k5, pz_k6, pz_k7, pz_k8, pz_k9, pz_k10, pz_k16, pz_k31, pz_k63, pz_km, nI_add, pz_mul, nI_ltI, nI_eq, nI_clamp, pz_inI, Option.bind_some, Option.toList_some, Option.toList_none, List.cons_append, List.nil_append, Nat.zero_add, Nat.mul_zero, Nat.add_zero, Nat.lt_irrefl, pz_bb, pz_bTr, Bool.false_eq_true, pz_bFa, Nat.reduceEqDiff, Nat.reduceLT, ite_not, pz_mE, pz_mE2, pz_mL, pz_mG, not_true_eq_false, not_false_eq_true, if_true, if_false, reduceIte, eq_self, true_or, or_true, or_false, false_or, and_true, true_and, and_false, false_and]
              · rw [show pz_alk A b k = true from pz_dT ⟨he, hss⟩] at z
                cases z
            · rw [pz_fnd_eq (q := fun _ => false) _ _ (fun j h1 h2 => by simp [hall j (by omega)]), pz_fnd_no]
              omega
          · have hss : ¬ pz_ss A k b := fun z => hall ((pz_ss_sg hA hk hb hz).mpr z)
            rw [if_pos] at hs
            · exact ⟨fun z => absurd (pz_dI.mp z).2 hss, fun _ => ⟨(some (.inl (nI 0)), some (.inl (nI (pz_fnd (fun i => decide (pz_sg A k i ≠ pz_sg A b i)) 5 0 + 1)))), hs⟩⟩
            · refine Nat.lt_of_not_le (fun hle => hall (fun j hj => ?_))
              have := pz_fnd_not (p := fun i => decide (pz_sg A k i ≠ pz_sg A b i)) 5 0 j (Nat.zero_le j) (by omega)
              simpa using this
        · try dsimp only
          have hi : i < 5 := by omega
          have g1 := pz_Msg hA hM hk hi
          have g2 := pz_Msg hA hM hb hi
          rw [b130_39]
          by_cases hq : pz_sg A k i = pz_sg A b i
          · simp (disch := omega) only [hi, b130_45, b130_49, show 5 * k + i < 45 by omega, g1, b130_60, show 5 * b + i < 45 by omega, g2, b130_71, hq, b130_74, b130_79, decide_eq_true_eq, ne_eq, pz_k0, pz_k1, pz_k2, pz_k3, pz_k4, pz_k5, pz_k6, pz_k7, pz_k8, pz_k9, pz_k10, pz_k16, pz_k31, pz_k63, pz_km, nI_add, pz_mul, nI_ltI, nI_eq, nI_clamp, pz_inI, Option.bind_some, Option.toList_some, Option.toList_none, List.cons_append, List.nil_append, Nat.zero_add, Nat.mul_zero, Nat.add_zero, Nat.lt_irrefl, pz_bb, pz_bTr, Bool.false_eq_true, pz_bFa, Nat.reduceEqDiff, Nat.reduceLT, ite_not, pz_mE, pz_mE2, pz_mL, pz_mG, not_true_eq_false, not_false_eq_true, if_true, if_false, reduceIte, eq_self, true_or, or_true, or_false, false_or, and_true, true_and, and_false, false_and]
          · by_cases hi4 : i + 1 < 5
            · simp (disch := omega) only [hi, b130_45, b130_49, show 5 * k + i < 45 by omega, g1, b130_60, show 5 * b + i < 45 by omega, g2, b130_71, hq, b130_78, b130_79, decide_eq_true_eq, ne_eq, pz_k0, pz_k1, pz_k2, pz_k3, pz_k4, pz_k5, pz_k6, pz_k7, pz_k8, pz_k9, pz_k10, pz_k16, pz_k31, pz_k63, pz_km, nI_add, pz_mul, nI_ltI, nI_eq, nI_clamp, pz_inI, Option.bind_some, Option.toList_some, Option.toList_none, List.cons_append, List.nil_append, Nat.zero_add, Nat.mul_zero, Nat.add_zero, Nat.lt_irrefl, pz_bb, pz_bTr, Bool.false_eq_true, pz_bFa, Nat.reduceEqDiff, Nat.reduceLT, ite_not, pz_mE, pz_mE2, pz_mL, pz_mG, not_true_eq_false, not_false_eq_true, if_true, if_false, reduceIte, eq_self, true_or, or_true, or_false, false_or, and_true, true_and, and_false, false_and]
              rw [b130_39]
              simp (disch := omega) only [hi4, b130_45, b130_86, b130_92, pz_k0, pz_k1, pz_k2, pz_k3, pz_k4, pz_k5, pz_k6, pz_k7, pz_k8, pz_k9, pz_k10, pz_k16, pz_k31, pz_k63, pz_km, nI_add, pz_mul, nI_ltI, nI_eq, nI_clamp, pz_inI, Option.bind_some, Option.toList_some, Option.toList_none, List.cons_append, List.nil_append, Nat.zero_add, Nat.mul_zero, Nat.add_zero, Nat.lt_irrefl, pz_bb, pz_bTr, Bool.false_eq_true, pz_bFa, Nat.reduceEqDiff, Nat.reduceLT, ite_not, pz_mE, pz_mE2, pz_mL, pz_mG, not_true_eq_false, not_false_eq_true, if_true, if_false, reduceIte, eq_self, true_or, or_true, or_false, false_or, and_true, true_and, and_false, false_and]
            · simp (disch := omega) only [hi, b130_45, b130_49, show 5 * k + i < 45 by omega, g1, b130_60, show 5 * b + i < 45 by omega, g2, b130_71, hq, b130_78, b130_79, decide_eq_true_eq, ne_eq, pz_k0, pz_k1, pz_k2, pz_k3, pz_k4, pz_k5, pz_k6, pz_k7, pz_k8, pz_k9, pz_k10, pz_k16, pz_k31, pz_k63, pz_km, nI_add, pz_mul, nI_ltI, nI_eq, nI_clamp, pz_inI, Option.bind_some, Option.toList_some, Option.toList_none, List.cons_append, List.nil_append, Nat.zero_add, Nat.mul_zero, Nat.add_zero, Nat.lt_irrefl, pz_bb, pz_bTr, Bool.false_eq_true, pz_bFa, Nat.reduceEqDiff, Nat.reduceLT, ite_not, pz_mE, pz_mE2, pz_mL, pz_mG, not_true_eq_false, not_false_eq_true, if_true, if_false, reduceIte, eq_self, true_or, or_true, or_false, false_or, and_true, true_and, and_false, false_and]
              rw [b130_39]
              simp (disch := omega) only [hi4, b130_45, b130_86, b130_92, pz_k0, pz_k1, pz_k2, pz_k3, pz_k4, pz_k5, pz_k6, pz_k7, pz_k8, pz_k9, pz_k10, pz_k16, pz_k31, pz_k63, pz_km, nI_add, pz_mul, nI_ltI, nI_eq, nI_clamp, pz_inI, Option.bind_some, Option.toList_some, Option.toList_none, List.cons_append, List.nil_append, Nat.zero_add, Nat.mul_zero, Nat.add_zero, Nat.lt_irrefl, pz_bb, pz_bTr, Bool.false_eq_true, pz_bFa, Nat.reduceEqDiff, Nat.reduceLT, ite_not, pz_mE, pz_mE2, pz_mL, pz_mG, not_true_eq_false, not_false_eq_true, if_true, if_false, reduceIte, eq_self, true_or, or_true, or_false, false_or, and_true, true_and, and_false, false_and]
      · refine ⟨fun z => absurd (pz_dI.mp z).2.1 hz, fun _ => ⟨(some (.inl (nI 0)), some (.inl (nI 0))), ?_⟩⟩
        rw [b130_2]
        simp (disch := omega) only [h41, hk, b130_10, he, b130_15, hk9, k4, b130_21, hb9, b4, b130_27, hz, b130_34, b130_35, b130_39, b130_45, b130_86, b130_92, pz_k0, pz_k1, pz_k2, pz_k3, pz_k4, pz_k5, pz_k6, pz_k7, pz_k8, pz_k9, pz_k10, pz_k16, pz_k31, pz_k63, pz_km, nI_add, pz_mul, nI_ltI, nI_eq, nI_clamp, pz_inI, Option.bind_some, Option.toList_some, Option.toList_none, List.cons_append, List.nil_append, Nat.zero_add, Nat.mul_zero, Nat.add_zero, Nat.lt_irrefl, pz_bb, pz_bTr, Bool.false_eq_true, pz_bFa, Nat.reduceEqDiff, Nat.reduceLT, ite_not, pz_mE, pz_mE2, pz_mL, pz_mG, not_true_eq_false, not_false_eq_true, if_true, if_false, reduceIte, eq_self, true_or, or_true, or_false, false_or, and_true, true_and, and_false, false_and]
theorem op8 (h : pz_Q k ck n g f A κ I J) (x : Int32) : lw_two (pz_R (k + 1)) 8 131 [.inl x] (mm_idC, I, LC, mm_RS κ) (mm_idM, J, LM, mm_RM) := by
  obtain ⟨-, -, -, hA, hC, hM, -⟩ := id h
  have h9 := hA.2.1
  by_cases hx : pz_rg x (A 0 0 0)
  · have hx' := hx
    obtain ⟨b, hb, rfl⟩ := hx
    refine pz_two (laC := [some (.inr (.inr (1, 0))), some (.inl _)]) (laM := [some (.inr (.inr (9, 0))), some (.inl _)]) (by rw [show mm_mL 8 = 2 from by decide +kernel]; rfl) (by rw [show mm_mL 131 = 2 from by decide +kernel]; rfl) (r :=  pz_al A b) ?_ ?_ (pz_rd0 (LC' := LC) (LM' := LM) h)
    · rw [b8_0]
      simp (disch := omega) only [sC62 (by omega) hC.1, pz_bT hx', b8_8, b8_11, sC64 hA hC hb, b8_19, b8_24, pz_k0, pz_k1, pz_k2, pz_k3, pz_k4, pz_k5, pz_k6, pz_k7, pz_k8, pz_k9, pz_k10, pz_k16, pz_k31, pz_k63, pz_km, nI_add, pz_mul, nI_ltI, nI_eq, nI_clamp, pz_inI, Option.bind_some, Option.toList_some, Option.toList_none, List.cons_append, List.nil_append, Nat.zero_add, Nat.mul_zero, Nat.add_zero, Nat.lt_irrefl, pz_bb, pz_bTr, Bool.false_eq_true, pz_bFa, Nat.reduceEqDiff, Nat.reduceLT, ite_not, pz_mE, pz_mE2, pz_mL, pz_mG, not_true_eq_false, not_false_eq_true, if_true, if_false, reduceIte, eq_self, true_or, or_true, or_false, false_or, and_true, true_and, and_false, false_and]
    · rw [b131_0]
      simp (disch := omega) only [sM123 hA hM, pz_bT hx', b131_5, b131_8, sM130 hA hM hb, b131_13, b131_18, pz_k0, pz_k1, pz_k2, pz_k3, pz_k4, pz_k5, pz_k6, pz_k7, pz_k8, pz_k9, pz_k10, pz_k16, pz_k31, pz_k63, pz_km, nI_add, pz_mul, nI_ltI, nI_eq, nI_clamp, pz_inI, Option.bind_some, Option.toList_some, Option.toList_none, List.cons_append, List.nil_append, Nat.zero_add, Nat.mul_zero, Nat.add_zero, Nat.lt_irrefl, pz_bb, pz_bTr, Bool.false_eq_true, pz_bFa, Nat.reduceEqDiff, Nat.reduceLT, ite_not, pz_mE, pz_mE2, pz_mL, pz_mG, not_true_eq_false, not_false_eq_true, if_true, if_false, reduceIte, eq_self, true_or, or_true, or_false, false_or, and_true, true_and, and_false, false_and]
  · refine pz_two (laC := [some (.inr (.inr (1, 0))), some (.inl _)]) (laM := [some (.inr (.inr (9, 0))), some (.inl _)]) (by rw [show mm_mL 8 = 2 from by decide +kernel]; rfl) (by rw [show mm_mL 131 = 2 from by decide +kernel]; rfl) (r :=  -101) ?_ ?_ (pz_rd0 (LC' := LC) (LM' := LM) h)
    · rw [b8_0]
      simp (disch := omega) only [sC62 (by omega) hC.1, pz_bF hx, b8_8, b8_22, b8_24, pz_k0, pz_k1, pz_k2, pz_k3, pz_k4, pz_k5, pz_k6, pz_k7, pz_k8, pz_k9, pz_k10, pz_k16, pz_k31, pz_k63, pz_km, nI_add, pz_mul, nI_ltI, nI_eq, nI_clamp, pz_inI, Option.bind_some, Option.toList_some, Option.toList_none, List.cons_append, List.nil_append, Nat.zero_add, Nat.mul_zero, Nat.add_zero, Nat.lt_irrefl, pz_bb, pz_bTr, Bool.false_eq_true, pz_bFa, Nat.reduceEqDiff, Nat.reduceLT, ite_not, pz_mE, pz_mE2, pz_mL, pz_mG, not_true_eq_false, not_false_eq_true, if_true, if_false, reduceIte, eq_self, true_or, or_true, or_false, false_or, and_true, true_and, and_false, false_and]
    · rw [b131_0]
      simp (disch := omega) only [sM123 hA hM, pz_bF hx, b131_5, b131_16, b131_18, pz_k0, pz_k1, pz_k2, pz_k3, pz_k4, pz_k5, pz_k6, pz_k7, pz_k8, pz_k9, pz_k10, pz_k16, pz_k31, pz_k63, pz_km, nI_add, pz_mul, nI_ltI, nI_eq, nI_clamp, pz_inI, Option.bind_some, Option.toList_some, Option.toList_none, List.cons_append, List.nil_append, Nat.zero_add, Nat.mul_zero, Nat.add_zero, Nat.lt_irrefl, pz_bb, pz_bTr, Bool.false_eq_true, pz_bFa, Nat.reduceEqDiff, Nat.reduceLT, ite_not, pz_mE, pz_mE2, pz_mL, pz_mG, not_true_eq_false, not_false_eq_true, if_true, if_false, reduceIte, eq_self, true_or, or_true, or_false, false_or, and_true, true_and, and_false, false_and]
end PZ48
