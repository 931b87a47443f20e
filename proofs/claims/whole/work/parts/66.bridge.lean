/-! bridge -/
section PZ66
variable {ids : List (Nat × Nat)} {I J I' J' : mm_HI} {L LC LM LC' LM' : mm_HL} {κ κ' f f' : Nat → Nat} {A A' : pz_A} {k ck ck' n n' g a b v s p q e r m i c d : Nat}
theorem pz_putQ (h : pz_Q k ck n g f A κ I J) (hk : k < 64) (hκ : ∀ i, κ' i < 4) (h55 : J' 55 0 0 = nI ck) (hA' : pz_wf ck A') (hC' : pz_C 0 A' I' κ') (hM' : pz_M A' J') (hI : ∀ c i, pz_kk c i → I' c i = I c i) (hκ1 : ∀ b, κ' (9 + b) = κ (9 + b)) (hJ : ∀ c, pz_kz c = true → J' c = J c) (hJb : ∀ c b, (c = 121 ∨ c = 122 ∨ c = 123 ∨ c = 124) → b < A 0 0 0 → J' c 0 b = J c 0 b) (hJs : ∀ c s, (c = 129 ∨ c = 130) → s < A 6 0 0 → J' c 0 s = J c 0 s) (hn : A 0 0 0 ≤ A' 0 0 0) (hs : A 6 0 0 ≤ A' 6 0 0) : pz_Q k ck n g f A' κ' I' J' := by
  obtain ⟨q1, q2, q3, q4, q5, q6, q7, q8, q9, q10, q11⟩ := h
  refine ⟨hκ, q2, h55, hA', hC', hM', pz_pg_fr q7 (funext fun i => hI 8 i (by unfold pz_kk; omega)) (funext fun i => hI 110 i (by unfold pz_kk; omega)) (hJ 59 rfl) (hJ 135 rfl), q8, by rw [hI 4 0 (by unfold pz_kk; omega)]; exact q9, by rw [hJ 73 rfl]; exact q10, fun hg => ?_⟩
  obtain ⟨B, b1, b2, b3, b4, b5⟩ := q11 hg
  exact ⟨B, b1, pz_C_w b1 (fun c i h => hI c i (Or.inl h)) (fun b _ => hκ1 b) b2, pz_MK_k hJ (fun c b h1 h2 => hJb c b h1 (by omega)) (fun c s h1 h2 => hJs c s h1 (by omega)) b3, by omega, by omega⟩
/-- what a whole page tells -/
theorem pz_whole (h1 : pz_s0 n f < n) (h2 : pz_ff n f = n) : pz_plc (f 0) ∧ pz_plc (f 1) ∧ f 1 ≠ f 0 ∧ 1 ≤ n - pz_s0 n f ∧ n - pz_s0 n f ≤ 5 ∧ ∀ j, j < n - pz_s0 n f → pz_ltr (f (pz_s0 n f + j)) := by
  have hs0 := pz_s0_b (n := n) (f := f)
  have hf : ∀ i, i < n → pz_fit n f i := fun i hi => pz_ff_fit (by omega)
  have f0 := (hf 0 (by omega)).1 (by decide)
  have f1 := (hf 1 (by omega)).1 (by decide)
  have fl := (hf (n - 1) (by omega)).2 (by omega)
  refine ⟨f0.1, f1.1, f1.2.resolve_left (by decide), by omega, by omega, fun j hj => ?_⟩
  exact ((hf (pz_s0 n f + j) (by omega)).2 (by omega)).elim (fun q => absurd q (by omega)) (fun q => q.1)
/-- readFrom -/
theorem sC72 {kd : Nat} (h : pz_cp n f I) (h1 : pz_s0 n f < n) (h2 : pz_ff n f = n) (hkd : kd ≤ 3) : ∃ I', mm_ev 72 0 [some (.inr (.inr (5, b))), some (.inr (.inr (2, 0))), some (.inr (.inr (3, kd))), none] [] (ids, I, L, mm_RS κ) = some (none, (ids, I', L, mm_RS (mm_uk κ b kd))) ∧ (∀ c i, ¬ (c = 17 ∨ c = 18 ∨ c = 19 ∨ c = 21 ∨ c = 117) ∨ i ≠ b → I' c i = I c i) ∧ I' 17 b 0 = nI (f 0 - 48) ∧ I' 18 b 0 = nI (f 1 - 48) ∧ I' 19 b 0 = nI (n - pz_s0 n f) ∧ (∀ j, j < n - pz_s0 n f → I' 117 b j = nI (f (pz_s0 n f + j) - 97)) ∧ I' 21 b 0 = nI (if kd = 2 then pz_pop (pz_vs (fun j => f (pz_s0 n f + j) - 97) (n - pz_s0 n f)) else n - pz_s0 n f) := by
  have hs0 := pz_s0_b (n := n) (f := f)
  obtain ⟨w1, w2, w3, w4, w5, w6⟩ := pz_whole h1 h2
  have hcp := h
  obtain ⟨g1, g2, g3, g4⟩ := h
  have p0 := w1
  have p1 := w2
  unfold pz_plc at p0 p1
  have e0 := g4 0 (by omega)
  have e1 := g4 1 (by omega)
  obtain ⟨I1, hI1⟩ : ∃ I1, I1 = mm_uI (mm_uI (mm_uI I 17 b 0 (nI (f 0 - 48))) 18 b 0 (nI (f 1 - 48))) 19 b 0 (nI 0) := ⟨_, rfl⟩
  have n1 : ∀ c, c ≠ 17 → c ≠ 18 → c ≠ 19 → I1 c = I c := fun c z1 z2 z3 => by rw [hI1, pz_uI_ne z3, pz_uI_ne z2, pz_uI_ne z1]
  have hcp1 : pz_cp n f I1 := ⟨g1, g2, by rw [n1 8 (by decide) (by decide) (by decide)]; exact g3, fun j hj => by rw [n1 110 (by decide) (by decide) (by decide)]; exact g4 j hj⟩
  have hst : mm_ev 72 0 [some (.inr (.inr (5, b))), some (.inr (.inr (2, 0))), some (.inr (.inr (3, kd))), none] [] (ids, I, L, mm_RS κ) = mm_ev 72 41 [some (.inr (.inr (5, b))), some (.inr (.inr (2, 0))), some (.inr (.inr (3, kd))), some (.inl (nI (pz_s0 n f + 0)))] [] (ids, I1, L, mm_RS (mm_uk κ b kd)) := by
    have e1' : mm_uI I 17 b 0 (nI (f 0 - 48)) 110 0 1 = nI (f 1) := by rw [pz_uI_ne (by decide)]; exact e1
    rw [b72_0, if_pos (by decide), e0, b72_12, if_pos (by decide), pz_k48, pz_sub p0.1, e1', b72_25, pz_k48, pz_sub p1.1, pz_k0, ← hI1, sC44 hcp1]
    simp (disch := omega) only [b72_40, pz_k0, pz_k1, pz_k2, pz_k3, pz_k4, pz_k5, pz_k6, pz_k7, pz_k8, pz_k9, pz_k10, pz_k16, pz_k31, pz_k63, pz_km, nI_add, pz_mul, nI_ltI, nI_eq, nI_clamp, pz_inI, Option.bind_some, Option.toList_some, Option.toList_none, List.cons_append, List.nil_append, Nat.zero_add, Nat.mul_zero, Nat.add_zero, Nat.lt_irrefl, pz_bb, pz_bTr, Bool.false_eq_true, pz_bFa, Nat.reduceEqDiff, Nat.reduceLT, ite_not, pz_mE, pz_mE2, pz_mL, pz_mG, not_true_eq_false, not_false_eq_true, if_true, if_false, reduceIte, eq_self, true_or, or_true, or_false, false_or, and_true, true_and, and_false, false_and]
  have hl := pz_loopP (fun t (j : mm_HI) => mm_ev 72 41 [some (.inr (.inr (5, b))), some (.inr (.inr (2, 0))), some (.inr (.inr (3, kd))), some (.inl (nI (pz_s0 n f + t)))] [] (ids, j, L, mm_RS (mm_uk κ b kd))) (fun t j => (∀ c i, (c ≠ 19 ∧ c ≠ 117) ∨ i ≠ b → j c i = I1 c i) ∧ j 19 b 0 = nI t ∧ ∀ q, q < t → j 117 b q = nI (f (pz_s0 n f + q) - 97)) (n - pz_s0 n f) (fun t j ht hj => ?_) I1 ⟨fun _ _ _ => rfl, by rw [hI1, pz_uI_s], fun q hq => absurd hq (Nat.not_lt_zero q)⟩
  · obtain ⟨j, l0, l1, l2, l3⟩ := hl
    obtain ⟨F, hF⟩ : ∃ F : Nat → Nat, F = fun j => f (pz_s0 n f + j) - 97 := ⟨_, rfl⟩
    have hF6 : ∀ q, q < n - pz_s0 n f → F q < 6 ∧ j 117 b q = nI (F q) := by
      intro q hq
      have := w6 q hq
      unfold pz_ltr at this
      rw [hF]
      exact ⟨show f (pz_s0 n f + q) - 97 < 6 by omega, l3 q hq⟩
    have h77 := sC77 (ids := ids) (L := L) (κ := mm_uk κ b kd) (I := j) (i := b) (f := F) w5 l2 hF6
    have hvs := pz_vs_lt (fun q hq => (hF6 q hq).1)
    have e8 : j 8 0 0 = nI n := by rw [l1 8 0 (by omega), n1 8 (by decide) (by decide) (by decide)]; exact g3
    have huk : mm_uk κ b kd b = kd := if_pos rfl
    have n2 : ∀ c, c ≠ 21 → mm_uI j 21 b 0 (nI (if kd = 2 then pz_pop (pz_vs F (n - pz_s0 n f)) else n - pz_s0 n f)) c = j c := fun c z => pz_uI_ne z
    rw [← hF]
    refine ⟨mm_uI j 21 b 0 (nI (if kd = 2 then pz_pop (pz_vs F (n - pz_s0 n f)) else n - pz_s0 n f)), ?_, fun c i hc => ?_, ?_, ?_, ?_, fun q hq => ?_, pz_uI_s⟩
    · rw [hst]
      refine Eq.trans l0 ?_
      try dsimp only
      rw [b72_41]
      simp (disch := omega) only [e8, show ¬ pz_s0 n f + (n - pz_s0 n f) < n by omega, b72_91, h77, l2, huk, b72_104, show kd < 4 by omega, sC_len hkd hvs, b72_107, pz_k0, pz_k1, pz_k2, pz_k3, pz_k4, pz_k5, pz_k6, pz_k7, pz_k8, pz_k9, pz_k10, pz_k16, pz_k31, pz_k63, pz_km, nI_add, pz_mul, nI_ltI, nI_eq, nI_clamp, pz_inI, Option.bind_some, Option.toList_some, Option.toList_none, List.cons_append, List.nil_append, Nat.zero_add, Nat.mul_zero, Nat.add_zero, Nat.lt_irrefl, pz_bb, pz_bTr, Bool.false_eq_true, pz_bFa, Nat.reduceEqDiff, Nat.reduceLT, ite_not, pz_mE, pz_mE2, pz_mL, pz_mG, not_true_eq_false, not_false_eq_true, if_true, if_false, reduceIte, eq_self, true_or, or_true, or_false, false_or, and_true, true_and, and_false, false_and]
    · rw [pz_uI_i (by omega), l1 c i (by omega), hI1, pz_uI_i (by omega), pz_uI_i (by omega), pz_uI_i (by omega)]
    · rw [n2 17 (by decide), l1 17 b (by omega), hI1, pz_uI_ne (by decide), pz_uI_ne (by decide), pz_uI_s]
    · rw [n2 18 (by decide), l1 18 b (by omega), hI1, pz_uI_ne (by decide), pz_uI_s]
    · rw [n2 19 (by decide)]
      exact l2
    · rw [n2 117 (by decide)]
      exact l3 q hq
  · try dsimp only at hj
    try dsimp only
    obtain ⟨l1, l2, l3⟩ := hj
    have e8 : j 8 0 0 = nI n := by rw [l1 8 0 (by omega), n1 8 (by decide) (by decide) (by decide)]; exact g3
    have e110 : j 110 0 (pz_s0 n f + t) = nI (f (pz_s0 n f + t)) := by rw [l1 110 0 (by omega), n1 110 (by decide) (by decide) (by decide)]; exact g4 _ (by omega)
    have hlt := w6 t ht
    unfold pz_ltr at hlt
    refine ⟨mm_uI (mm_uI j 117 b t (nI (f (pz_s0 n f + t) - 97))) 19 b 0 (nI (t + 1)), ?_, fun c i hc => ?_, pz_uI_s, fun q hq => ?_⟩
    · rw [b72_41]
      simp (disch := omega) only [e8, show pz_s0 n f + t < n by omega, b72_49, l2, show t < 5 by omega, b72_57, show pz_s0 n f + t < 16 by omega, e110, b72_71, pz_k97, pz_sub hlt.1, b72_75, pz_uI_j, Nat.add_assoc, pz_k0, pz_k1, pz_k2, pz_k3, pz_k4, pz_k5, pz_k6, pz_k7, pz_k8, pz_k9, pz_k10, pz_k16, pz_k31, pz_k63, pz_km, nI_add, pz_mul, nI_ltI, nI_eq, nI_clamp, pz_inI, Option.bind_some, Option.toList_some, Option.toList_none, List.cons_append, List.nil_append, Nat.zero_add, Nat.mul_zero, Nat.add_zero, Nat.lt_irrefl, pz_bb, pz_bTr, Bool.false_eq_true, pz_bFa, Nat.reduceEqDiff, Nat.reduceLT, ite_not, pz_mE, pz_mE2, pz_mL, pz_mG, not_true_eq_false, not_false_eq_true, if_true, if_false, reduceIte, eq_self, true_or, or_true, or_false, false_or, and_true, true_and, and_false, false_and]
    · rw [pz_uI_i (by omega), pz_uI_i (by omega)]
      exact l1 c i hc
    · rw [pz_uI_ne (by decide), pz_uI_at]
      by_cases z : q = t
      · rw [if_pos z, z]
      · rw [if_neg z]
        exact l3 q (by omega)
theorem op4 (h : pz_Q k ck n g f A κ I J) (hk : k < 64) : lw_two (pz_R (k + 1)) 4 122 [] (mm_idC, I, LC, mm_RS κ) (mm_idM, J, LM, mm_RM) := by
  obtain ⟨q1, q2, q3, hA, hC, hM, hp, -⟩ := id h
  have h9 := hA.2.1
  have hcp := pz_pgC hp
  have h16 := hcp.1
  obtain ⟨J', j0, j1, j2, j3, j4⟩ := sM120 (ids := mm_idM) (L := LM) (pz_pgM hp)
  have hM' := pz_M_fr j1 hM
  by_cases hw : pz_s0 n f < n ∧ pz_ff n f = n
  · rw [pz_bT hw] at j3
    by_cases hn : A 0 0 0 < 9
    · obtain ⟨w1, w2⟩ := hw
      have hs0 := pz_s0_b (n := n) (f := f)
      obtain ⟨x1, x2, x3, x4, x5, x6⟩ := pz_whole w1 w2
      have hkt := pz_kt_le (n := n) (f := f)
      obtain ⟨I', i0, i1, i2, i3, i4, i5, i6⟩ := sC72 (ids := mm_idC) (L := LC) (κ := κ) (b := A 0 0 0) hcp w1 w2 hkt
      obtain ⟨r1, r2, r3, r4, r5⟩ := j4 w2
      rw [if_pos (by omega)] at r3 r4
      have r1 := r1 (by omega)
      have r2 := r2 (by omega)
      have r5 := r5 (by omega)
      have h41 : J' 41 0 0 = nI (A 0 0 0) := hM'.1
      obtain ⟨J1, hJ1⟩ : ∃ J1, J1 = mm_uI (mm_uI (mm_uI (mm_uI J' 121 0 (A 0 0 0) (nI (pz_kt n f))) 122 0 (A 0 0 0) (nI (f 0 - 48))) 123 0 (A 0 0 0) (nI (f 1 - 48))) 124 0 (A 0 0 0) (nI (n - pz_s0 n f)) := ⟨_, rfl⟩
      have n1 : ∀ c, ¬ (121 ≤ c ∧ c ≤ 124) → J1 c = J' c := fun c z => by rw [hJ1, pz_uI_ne (by omega), pz_uI_ne (by omega), pz_uI_ne (by omega), pz_uI_ne (by omega)]
      obtain ⟨F, hF⟩ : ∃ F : Nat → Nat, F = fun j => f (pz_s0 n f + j) - 97 := ⟨_, rfl⟩
      rw [← hF] at i6
      have i5' : ∀ j, j < n - pz_s0 n f → I' 117 (A 0 0 0) j = nI (F j) := fun j hj => by rw [i5 j hj, hF]
      have r5' : ∀ j, j < n - pz_s0 n f → J' 136 0 j = nI (F j) := fun j hj => by rw [r5 j hj, hF]
      have hF6 : ∀ j, j < n - pz_s0 n f → F j < 6 := by
        intro j hj
        have := x6 j hj
        unfold pz_ltr at this
        rw [hF]
        show f (pz_s0 n f + j) - 97 < 6
        omega
      have hl := pz_loopP (fun t (j : mm_HI) => mm_ev 122 80 [some (.inr (.inr (9, 0))), some (.inl (nI t))] [] (mm_idM, j, LM, mm_RM)) (fun t j => (∀ c, c ≠ 125 → j c = J1 c) ∧ ∀ q, j 125 0 q = if 5 * A 0 0 0 ≤ q ∧ q < 5 * A 0 0 0 + t then (if q - 5 * A 0 0 0 < n - pz_s0 n f then nI (F (q - 5 * A 0 0 0)) else pz_m) else J1 125 0 q) 5 (fun t j ht hj => ?_) J1 ⟨fun _ _ => rfl, fun q => by rw [if_neg (by omega)]⟩
      · obtain ⟨J2, l0, l1, l2⟩ := hl
        have e41 : J2 41 0 0 = nI (A 0 0 0) := by rw [l1 41 (by decide), n1 41 (by omega)]; exact h41
        have f41 : mm_uI (mm_uI J2 41 0 0 (nI (A 0 0 0 + 1))) 59 0 0 (nI 0) 41 0 0 = nI (A 0 0 0 + 1) := by rw [pz_uI_ne (by decide), pz_uI_s]
        refine pz_two (laC := [some (.inr (.inr (1, 0))), none]) (laM := [some (.inr (.inr (9, 0))), none]) (by rw [show mm_mL 4 = 2 from by decide +kernel]; rfl) (by rw [show mm_mL 122 = 2 from by decide +kernel]; rfl) (r :=  nI (A 0 0 0)) (hC' := (mm_idC, mm_uI (mm_uI I' 10 0 0 (nI (A 0 0 0 + 1))) 8 0 0 (nI 0), LC, mm_RS (mm_uk κ (A 0 0 0) (pz_kt n f)))) (hM' := (mm_idM, mm_uI (mm_uI J2 41 0 0 (nI (A 0 0 0 + 1))) 59 0 0 (nI 0), LM, mm_RM)) ?_ ?_ ?_
        · rw [b4_0, sC42 hcp, pz_bT ⟨w1, w2⟩]
          simp (disch := omega) only [b4_7, b4_13, hC.1, hn, b4_28, b4_45, sC45 hcp, b4_60, show pz_kt n f < 4 by omega, b4_61, i0, b4_64, pz_k0, pz_k1, pz_k2, pz_k3, pz_k4, pz_k5, pz_k6, pz_k7, pz_k8, pz_k9, pz_k10, pz_k16, pz_k31, pz_k63, pz_km, nI_add, pz_mul, nI_ltI, nI_eq, nI_clamp, pz_inI, Option.bind_some, Option.toList_some, Option.toList_none, List.cons_append, List.nil_append, Nat.zero_add, Nat.mul_zero, Nat.add_zero, Nat.lt_irrefl, pz_bb, pz_bTr, Bool.false_eq_true, pz_bFa, Nat.reduceEqDiff, Nat.reduceLT, ite_not, pz_mE, pz_mE2, pz_mL, pz_mG, not_true_eq_false, not_false_eq_true, if_true, if_false, reduceIte, eq_self, true_or, or_true, or_false, false_or, and_true, true_and, and_false, false_and]
        · rw [b122_0, j0]
          simp (disch := omega) only [b122_4, j3, b122_14, h41, show ¬ A 0 0 0 = 9 by omega, b122_26, hn, r3, b122_39, r1, pz_uI_j, b122_52, r2, b122_65, r4, b122_78, pz_k0, pz_k1, pz_k2, pz_k3, pz_k4, pz_k5, pz_k6, pz_k7, pz_k8, pz_k9, pz_k10, pz_k16, pz_k31, pz_k63, pz_km, nI_add, pz_mul, nI_ltI, nI_eq, nI_clamp, pz_inI, Option.bind_some, Option.toList_some, Option.toList_none, List.cons_append, List.nil_append, Nat.zero_add, Nat.mul_zero, Nat.add_zero, Nat.lt_irrefl, pz_bb, pz_bTr, Bool.false_eq_true, pz_bFa, Nat.reduceEqDiff, Nat.reduceLT, ite_not, pz_mE, pz_mE2, pz_mL, pz_mG, not_true_eq_false, not_false_eq_true, if_true, if_false, reduceIte, eq_self, true_or, or_true, or_false, false_or, and_true, true_and, and_false, false_and]
          rw [← hJ1]
          refine Eq.trans l0 ?_
          try dsimp only
          rw [b122_80]
          simp (disch := omega) only [b122_122, e41, f41, pz_k0, pz_k1, pz_k2, pz_k3, pz_k4, pz_k5, pz_k6, pz_k7, pz_k8, pz_k9, pz_k10, pz_k16, pz_k31, pz_k63, pz_km, nI_add, pz_mul, nI_ltI, nI_eq, nI_clamp, pz_inI, Option.bind_some, Option.toList_some, Option.toList_none, List.cons_append, List.nil_append, Nat.zero_add, Nat.mul_zero, Nat.add_zero, Nat.lt_irrefl, pz_bb, pz_bTr, Bool.false_eq_true, pz_bFa, Nat.reduceEqDiff, Nat.reduceLT, ite_not, pz_mE, pz_mE2, pz_mL, pz_mG, not_true_eq_false, not_false_eq_true, if_true, if_false, reduceIte, eq_self, true_or, or_true, or_false, false_or, and_true, true_and, and_false, false_and]
          rw [pz_sub (by omega), Nat.add_sub_cancel]
        · obtain ⟨B, hB⟩ : ∃ B : Nat → Nat → Nat, B = fun c j => if c = 1 then pz_kt n f else if c = 2 then f 0 - 48 else if c = 3 then f 1 - 48 else if c = 4 then n - pz_s0 n f else F j := ⟨_, rfl⟩
          have b1 : pz_bA A (A 0 0 0) (A 0 0 0 + 1) B 1 (A 0 0 0) = fun _ => pz_kt n f := by rw [pz_bA_e (by decide), hB]; rfl
          have b2 : pz_bA A (A 0 0 0) (A 0 0 0 + 1) B 2 (A 0 0 0) = fun _ => f 0 - 48 := by rw [pz_bA_e (by decide), hB]; rfl
          have b3 : pz_bA A (A 0 0 0) (A 0 0 0 + 1) B 3 (A 0 0 0) = fun _ => f 1 - 48 := by rw [pz_bA_e (by decide), hB]; rfl
          have b4 : pz_bA A (A 0 0 0) (A 0 0 0 + 1) B 4 (A 0 0 0) = fun _ => n - pz_s0 n f := by rw [pz_bA_e (by decide), hB]; rfl
          have b5 : pz_bA A (A 0 0 0) (A 0 0 0 + 1) B 5 (A 0 0 0) = F := by rw [pz_bA_e (by decide), hB]; rfl
          have hts : ∀ t, t < A 0 0 0 + 1 → t ≠ A 0 0 0 → t < A 0 0 0 := fun t z1 z2 => by omega
          have p0 := x1
          have p1 := x2
          unfold pz_plc at p0 p1
          have kC : ∀ c, c ≠ 10 → mm_uI I' 10 0 0 (nI (A 0 0 0 + 1)) c = I' c := fun c z => pz_uI_ne z
          have kM : ∀ c, c ≠ 41 → mm_uI J2 41 0 0 (nI (A 0 0 0 + 1)) c = J2 c := fun c z => pz_uI_ne z
          have hQ : pz_Q k ck n g f (pz_bA A (A 0 0 0) (A 0 0 0 + 1) B) (mm_uk κ (A 0 0 0) (pz_kt n f)) (mm_uI I' 10 0 0 (nI (A 0 0 0 + 1))) (mm_uI J2 41 0 0 (nI (A 0 0 0 + 1))) := by
            refine pz_putQ h hk (fun i => ?_) ?_ (pz_wf_b hA (by omega) (by omega) hts (fun _ => ?_)) (pz_C_b hC (fun c i hc => ?_) (fun i hi => if_neg hi) pz_uI_s hts (fun _ => ?_)) (pz_M_b (ck := ck) hM' (fun c hc => ?_) (fun c j hc => ?_) (fun j hj => ?_) pz_uI_s hts (fun _ => ?_) hA) (fun c i hc => ?_) (fun b => if_neg (by omega)) (fun c hc => ?_) (fun c b hc hb => ?_) (fun c s hc hs => ?_) (by rw [pz_bA_0]; omega) (by rw [pz_bA_c (by decide)]; omega)
            · unfold mm_uk
              split
              · omega
              · exact q1 i
            · rw [kM 55 (by decide), l1 55 (by decide), n1 55 (by omega), j1 55 rfl]
              exact q3
            · unfold pz_wfb
              rw [b1, b2, b3, b4, b5]
              exact ⟨hkt, show f 0 - 48 < 6 by omega, show f 1 - 48 < 6 by omega, show f 0 - 48 ≠ f 1 - 48 by omega, x4, x5, hF6⟩
            · rw [pz_uI_i (by omega), i1 c i (by omega)]
            · unfold pz_Cb pz_len
              rw [b1, b2, b3, b4, b5, Nat.mul_zero, Nat.zero_add, kC 17 (by decide), kC 18 (by decide), kC 19 (by decide), kC 21 (by decide), kC 117 (by decide)]
              exact ⟨if_pos rfl, i2, i3, i4, i6, i5'⟩
            · rw [kM c (by omega), l1 c (by omega), n1 c (by omega)]
            · rw [kM c (by omega), l1 c (by omega), hJ1, pz_uI_j (by omega), pz_uI_j (by omega), pz_uI_j (by omega), pz_uI_j (by omega)]
            · rw [kM 125 (by decide), l2, if_neg (by omega), n1 125 (by omega)]
            · unfold pz_Mb
              rw [b1, b2, b3, b4, b5, kM 121 (by decide), kM 122 (by decide), kM 123 (by decide), kM 124 (by decide), kM 125 (by decide), l1 121 (by decide), l1 122 (by decide), l1 123 (by decide), l1 124 (by decide)]
              refine ⟨?_, ?_, ?_, ?_, fun j hj => ?_, fun j hj1 hj2 => ?_⟩
              · rw [hJ1, pz_uI_ne (by decide), pz_uI_ne (by decide), pz_uI_ne (by decide), pz_uI_s]
              · rw [hJ1, pz_uI_ne (by decide), pz_uI_ne (by decide), pz_uI_s]
              · rw [hJ1, pz_uI_ne (by decide), pz_uI_s]
              · rw [hJ1, pz_uI_s]
              · have hj' : j < n - pz_s0 n f := hj
                rw [l2, if_pos (by omega), show 5 * A 0 0 0 + j - 5 * A 0 0 0 = j by omega, if_pos hj']
              · have hj' : n - pz_s0 n f ≤ j := hj1
                rw [l2, if_pos (by omega), show 5 * A 0 0 0 + j - 5 * A 0 0 0 = j by omega, if_neg (by omega)]
            · unfold pz_kk pz_kw at hc
              rw [pz_uI_i (by omega), i1 c i (by omega)]
            · have hc' := hc
              unfold pz_kz at hc'
              simp only [Bool.or_eq_true, beq_iff_eq] at hc'
              rw [kM c (by omega), l1 c (by omega), n1 c (by omega), j1 c ?_]
              unfold pz_sc
              simp only [Bool.or_eq_false_iff, beq_eq_false_iff_ne]
              omega
            · rw [kM c (by omega), l1 c (by omega), hJ1, pz_uI_j (by omega), pz_uI_j (by omega), pz_uI_j (by omega), pz_uI_j (by omega), j1 c ?_]
              unfold pz_sc
              simp only [Bool.or_eq_false_iff, beq_eq_false_iff_ne]
              omega
            · rw [kM c (by omega), l1 c (by omega), n1 c (by omega), j1 c ?_]
              unfold pz_sc
              simp only [Bool.or_eq_false_iff, beq_eq_false_iff_ne]
              omega
          exact pz_putP (n' := 0) (f' := f) hQ (fun c hc => pz_uI_ne hc.2.1) (fun c hc => pz_uI_ne hc.2.1) ⟨by decide, fun j hj => absurd hj (Nat.not_lt_zero j), pz_uI_s, pz_uI_s, fun j hj => absurd hj (Nat.not_lt_zero j)⟩
      · try dsimp only at hj
        try dsimp only
        obtain ⟨l1, l2⟩ := hj
        have e41 : j 41 0 0 = nI (A 0 0 0) := by rw [l1 41 (by decide), n1 41 (by omega)]; exact h41
        have e66 : j 66 0 0 = nI (n - pz_s0 n f) := by rw [l1 66 (by decide), n1 66 (by omega)]; exact r4
        have hfin : ∀ x, x = (if t < n - pz_s0 n f then nI (F t) else pz_m) → ∀ q, mm_uI j 125 0 (5 * A 0 0 0 + t) x 125 0 q = if 5 * A 0 0 0 ≤ q ∧ q < 5 * A 0 0 0 + (t + 1) then (if q - 5 * A 0 0 0 < n - pz_s0 n f then nI (F (q - 5 * A 0 0 0)) else pz_m) else J1 125 0 q := by
          intro x hx q
          rw [pz_uI_at, l2]
          by_cases z : q = 5 * A 0 0 0 + t
          · rw [if_pos z, if_pos (show 5 * A 0 0 0 ≤ q ∧ q < 5 * A 0 0 0 + (t + 1) by omega), show q - 5 * A 0 0 0 = t by omega]
            exact hx
          · rw [if_neg z]
            by_cases y : 5 * A 0 0 0 ≤ q ∧ q < 5 * A 0 0 0 + t
            · rw [if_pos y, if_pos (show 5 * A 0 0 0 ≤ q ∧ q < 5 * A 0 0 0 + (t + 1) by omega)]
            · rw [if_neg y, if_neg (show ¬ (5 * A 0 0 0 ≤ q ∧ q < 5 * A 0 0 0 + (t + 1)) by omega)]
        by_cases ht2 : t < n - pz_s0 n f
        · have e136 : j 136 0 t = nI (F t) := by rw [l1 136 (by decide), n1 136 (by omega)]; exact r5' t ht2
          refine ⟨mm_uI j 125 0 (5 * A 0 0 0 + t) (nI (F t)), ?_, fun c hc => by rw [pz_uI_ne hc]; exact l1 c hc, hfin _ (by rw [if_pos ht2])⟩
          rw [b122_80]
          simp (disch := omega) only [ht, b122_85, e66, ht2, e41, b122_105, e136, b122_111, b122_115, show 5 * A 0 0 0 + t < 45 by omega, b122_116, pz_k0, pz_k1, pz_k2, pz_k3, pz_k4, pz_k5, pz_k6, pz_k7, pz_k8, pz_k9, pz_k10, pz_k16, pz_k31, pz_k63, pz_km, nI_add, pz_mul, nI_ltI, nI_eq, nI_clamp, pz_inI, Option.bind_some, Option.toList_some, Option.toList_none, List.cons_append, List.nil_append, Nat.zero_add, Nat.mul_zero, Nat.add_zero, Nat.lt_irrefl, pz_bb, pz_bTr, Bool.false_eq_true, pz_bFa, Nat.reduceEqDiff, Nat.reduceLT, ite_not, pz_mE, pz_mE2, pz_mL, pz_mG, not_true_eq_false, not_false_eq_true, if_true, if_false, reduceIte, eq_self, true_or, or_true, or_false, false_or, and_true, true_and, and_false, false_and]
        · refine ⟨mm_uI j 125 0 (5 * A 0 0 0 + t) pz_m, ?_, fun c hc => by rw [pz_uI_ne hc]; exact l1 c hc, hfin _ (by rw [if_neg ht2])⟩
          rw [b122_80]
          simp (disch := omega) only [ht, b122_85, e66, ht2, e41, b122_114, b122_115, show 5 * A 0 0 0 + t < 45 by omega, b122_116, pz_k0, pz_k1, pz_k2, pz_k3, pz_k4, pz_k5, pz_k6, pz_k7, pz_k8, pz_k9, pz_k10, pz_k16, pz_k31, pz_k63, pz_km, nI_add, pz_mul, nI_ltI, nI_eq, nI_clamp, pz_inI, Option.bind_some, Option.toList_some, Option.toList_none, List.cons_append, List.nil_append, Nat.zero_add, Nat.mul_zero, Nat.add_zero, Nat.lt_irrefl, pz_bb, pz_bTr, Bool.false_eq_true, pz_bFa, Nat.reduceEqDiff, Nat.reduceLT, ite_not, pz_mE, pz_mE2, pz_mL, pz_mG, not_true_eq_false, not_false_eq_true, if_true, if_false, reduceIte, eq_self, true_or, or_true, or_false, false_or, and_true, true_and, and_false, false_and]
    · have h41 : J' 41 0 0 = nI (A 0 0 0) := hM'.1
      refine pz_two (laC := [some (.inr (.inr (1, 0))), none]) (laM := [some (.inr (.inr (9, 0))), none]) (by rw [show mm_mL 4 = 2 from by decide +kernel]; rfl) (by rw [show mm_mL 122 = 2 from by decide +kernel]; rfl) (r :=  -104) (hC' := (mm_idC, I, LC, mm_RS κ)) (hM' := (mm_idM, J', LM, mm_RM)) ?_ ?_ (pz_rdo h pz_fr0 j1)
      · rw [b4_0, sC42 hcp, pz_bT hw]
        simp (disch := omega) only [b4_7, b4_13, hC.1, hn, b4_25, pz_k0, pz_k1, pz_k2, pz_k3, pz_k4, pz_k5, pz_k6, pz_k7, pz_k8, pz_k9, pz_k10, pz_k16, pz_k31, pz_k63, pz_km, nI_add, pz_mul, nI_ltI, nI_eq, nI_clamp, pz_inI, Option.bind_some, Option.toList_some, Option.toList_none, List.cons_append, List.nil_append, Nat.zero_add, Nat.mul_zero, Nat.add_zero, Nat.lt_irrefl, pz_bb, pz_bTr, Bool.false_eq_true, pz_bFa, Nat.reduceEqDiff, Nat.reduceLT, ite_not, pz_mE, pz_mE2, pz_mL, pz_mG, not_true_eq_false, not_false_eq_true, if_true, if_false, reduceIte, eq_self, true_or, or_true, or_false, false_or, and_true, true_and, and_false, false_and]
      · rw [b122_0, j0]
        simp (disch := omega) only [b122_4, j3, b122_14, h41, show A 0 0 0 = 9 by omega, b122_23, pz_k0, pz_k1, pz_k2, pz_k3, pz_k4, pz_k5, pz_k6, pz_k7, pz_k8, pz_k9, pz_k10, pz_k16, pz_k31, pz_k63, pz_km, nI_add, pz_mul, nI_ltI, nI_eq, nI_clamp, pz_inI, Option.bind_some, Option.toList_some, Option.toList_none, List.cons_append, List.nil_append, Nat.zero_add, Nat.mul_zero, Nat.add_zero, Nat.lt_irrefl, pz_bb, pz_bTr, Bool.false_eq_true, pz_bFa, Nat.reduceEqDiff, Nat.reduceLT, ite_not, pz_mE, pz_mE2, pz_mL, pz_mG, not_true_eq_false, not_false_eq_true, if_true, if_false, reduceIte, eq_self, true_or, or_true, or_false, false_or, and_true, true_and, and_false, false_and]
  · rw [pz_bF hw] at j3
    refine pz_two (laC := [some (.inr (.inr (1, 0))), none]) (laM := [some (.inr (.inr (9, 0))), none]) (by rw [show mm_mL 4 = 2 from by decide +kernel]; rfl) (by rw [show mm_mL 122 = 2 from by decide +kernel]; rfl) (r :=  -103) (hC' := (mm_idC, I, LC, mm_RS κ)) (hM' := (mm_idM, J', LM, mm_RM)) ?_ ?_ (pz_rdo h pz_fr0 j1)
    · rw [b4_0, sC42 hcp, pz_bF hw]
      simp (disch := omega) only [b4_7, b4_10, pz_k0, pz_k1, pz_k2, pz_k3, pz_k4, pz_k5, pz_k6, pz_k7, pz_k8, pz_k9, pz_k10, pz_k16, pz_k31, pz_k63, pz_km, nI_add, pz_mul, nI_ltI, nI_eq, nI_clamp, pz_inI, Option.bind_some, Option.toList_some, Option.toList_none, List.cons_append, List.nil_append, Nat.zero_add, Nat.mul_zero, Nat.add_zero, Nat.lt_irrefl, pz_bb, pz_bTr, Bool.false_eq_true, pz_bFa, Nat.reduceEqDiff, Nat.reduceLT, ite_not, pz_mE, pz_mE2, pz_mL, pz_mG, not_true_eq_false, not_false_eq_true, if_true, if_false, reduceIte, eq_self, true_or, or_true, or_false, false_or, and_true, true_and, and_false, false_and]
    · rw [b122_0, j0]
      simp (disch := omega) only [b122_4, j3, b122_11, pz_k0, pz_k1, pz_k2, pz_k3, pz_k4, pz_k5, pz_k6, pz_k7, pz_k8, pz_k9, pz_k10, pz_k16, pz_k31, pz_k63, pz_km, nI_add, pz_mul, nI_ltI, nI_eq, nI_clamp, pz_inI, Option.bind_some, Option.toList_some, Option.toList_none, List.cons_append, List.nil_append, Nat.zero_add, Nat.mul_zero, Nat.add_zero, Nat.lt_irrefl, pz_bb, pz_bTr, Bool.false_eq_true, pz_bFa, Nat.reduceEqDiff, Nat.reduceLT, ite_not, pz_mE, pz_mE2, pz_mL, pz_mG, not_true_eq_false, not_false_eq_true, if_true, if_false, reduceIte, eq_self, true_or, or_true, or_false, false_or, and_true, true_and, and_false, false_and]
end PZ66
