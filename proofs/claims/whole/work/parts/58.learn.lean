/-! learn, night -/
section PZ58
variable {ids : List (Nat × Nat)} {I J I' J' : mm_HI} {L LC LM LC' LM' : mm_HL} {κ f f' : Nat → Nat} {A : pz_A} {k ck n n' g b v s p K e u W m : Nat}
/-- buy -/
theorem sC90 {y : Nat} (hA : pz_wf ck A) (hC : pz_C 0 A I κ) (hs : s < A 6 0 0) (hv : v < 6) (hy : y ≤ A 12 s 0) : ∃ I', mm_ev 90 0 [some (.inr (.inr (6, s))), some (.inl (nI v)), some (.inl (nI y))] [] (ids, I, L, mm_RS κ) = some (none, (ids, I', L, mm_RS κ)) ∧ (∀ c i, (c ≠ 23 ∧ c ≠ 27 ∧ c ≠ 28 ∧ c ≠ 118) ∨ i ≠ s → I' c i = I c i) ∧ I' 23 s 0 = nI (A 8 s 0 ||| 2 ^ v) ∧ I' 27 s 0 = nI (A 12 s 0 - y) ∧ I' 28 s 0 = nI (A 19 s 0 + 1) ∧ ∀ x, x < 6 → I' 118 s x = if pz_bt (2 ^ v) x = 1 then nI (A 19 s 0 + 1) else I 118 s x := by
  obtain ⟨a7, a8, a9, -⟩ := hA.2.2.2.2.1 s hs
  obtain ⟨d1, d2, d3, d4, d5, d6, d7, d8⟩ := pz_C0s hC hs
  obtain ⟨I1, hI1⟩ : ∃ I1, I1 = mm_uI (mm_uI I 27 s 0 (nI (A 12 s 0 - y))) 23 s 0 (nI (A 8 s 0 ||| 2 ^ v)) := ⟨_, rfl⟩
  have n1 : ∀ c, c ≠ 23 → c ≠ 27 → I1 c = I c := fun c h1 h2 => by rw [hI1, pz_uI_ne h1, pz_uI_ne h2]
  have h2v : 2 ^ v < 64 := (pz_tp0 v hv).1
  have hK' : A 8 s 0 ||| 2 ^ v < 64 := pz_orlt (n := 6) a8 h2v
  obtain ⟨I', g0, g1, g2, g3⟩ := sC91 (ids := ids) (L := L) (κ := κ) (I := I1) (s := s) (B := 2 ^ v) (K := A 8 s 0 ||| 2 ^ v) (d := A 19 s 0) (by rw [hI1, pz_uI_s]) hK' (by rw [n1 28 (by decide) (by decide)]; exact d7) h2v
  rw [(pz_lrn0 (A 8 s 0) a8 v hv).1] at g3
  refine ⟨I', ?_, fun c i hc => ?_, ?_, ?_, g2, fun x hx => ?_⟩
  · rw [b90_0]
    simp (disch := omega) only [d6, pz_uI_j, d2, pz_one, pz_or, pz_k0, pz_k1, pz_k2, pz_k3, pz_k4, pz_k5, pz_k6, pz_k7, pz_k8, pz_k9, pz_k10, pz_k16, pz_k31, pz_k63, pz_km, nI_add, pz_mul, nI_ltI, nI_eq, nI_clamp, pz_inI, Option.bind_some, Option.toList_some, Option.toList_none, List.cons_append, List.nil_append, Nat.zero_add, Nat.mul_zero, Nat.add_zero, Nat.lt_irrefl, pz_bb, pz_bTr, Bool.false_eq_true, pz_bFa, Nat.reduceEqDiff, Nat.reduceLT, ite_not, pz_mE, pz_mE2, pz_mL, pz_mG, not_true_eq_false, not_false_eq_true, if_true, if_false, reduceIte, eq_self, true_or, or_true, or_false, false_or, and_true, true_and, and_false, false_and]
    rw [pz_sub hy, ← hI1, g0]
    simp (disch := omega) only [pz_k0, pz_k1, pz_k2, pz_k3, pz_k4, pz_k5, pz_k6, pz_k7, pz_k8, pz_k9, pz_k10, pz_k16, pz_k31, pz_k63, pz_km, nI_add, pz_mul, nI_ltI, nI_eq, nI_clamp, pz_inI, Option.bind_some, Option.toList_some, Option.toList_none, List.cons_append, List.nil_append, Nat.zero_add, Nat.mul_zero, Nat.add_zero, Nat.lt_irrefl, pz_bb, pz_bTr, Bool.false_eq_true, pz_bFa, Nat.reduceEqDiff, Nat.reduceLT, ite_not, pz_mE, pz_mE2, pz_mL, pz_mG, not_true_eq_false, not_false_eq_true, if_true, if_false, reduceIte, eq_self, true_or, or_true, or_false, false_or, and_true, true_and, and_false, false_and]
    rw [b90_29]
  · rw [g1 c i (by omega), hI1, pz_uI_i (by omega), pz_uI_i (by omega)]
  · rw [g1 23 s (by omega), hI1, pz_uI_s]
  · rw [g1 27 s (by omega), hI1, pz_uI_ne (by decide), pz_uI_s]
  · rw [g3 x hx, n1 118 (by decide) (by decide)]
theorem op14 (h : pz_Q k ck n g f A κ I J) (hk : k < 64) (x y : Int32) : lw_two (pz_R (k + 1)) 14 145 [.inl x, .inl y] (mm_idC, I, LC, mm_RS κ) (mm_idM, J, LM, mm_RM) := by
  obtain ⟨q1, q2, q3, hA, hC, hM, -⟩ := id h
  have h5 := hA.2.2.2.1
  by_cases hx : pz_rg x (A 6 0 0)
  · have hx' := hx
    by_cases hy : pz_rg y 6
    · have hy' := hy
      obtain ⟨s, hs, rfl⟩ := hx
      obtain ⟨v, hv, rfl⟩ := hy
      have hs5 : s < 5 := by omega
      have hv10 : v < 10 := by omega
      obtain ⟨a7, a8, a9, a10, a11, a11', a12, -⟩ := hA.2.2.2.2.1 s hs
      obtain ⟨d1, d2, d3, d4, d5, d6, d7, d8⟩ := pz_C0s hC hs
      obtain ⟨m1, m2, m3, m4, m5, m6, m7⟩ := pz_M0s hM hs
      have hfe := pz_C0f hC a7 hv
      have hfm := (pz_M0 hM).2.2.1 (A 7 s 0) v a7 hv
      have hz2 := hA.2.2.2.2.2.1 (A 7 s 0) v a7 hv
      have h36 : 6 * A 7 s 0 + v < 36 := by omega
      have a85 : A 8 s 0 < 512 := by omega
      by_cases hb : pz_bt (A 8 s 0) v = 1
      · refine pz_two (laC := [some (.inr (.inr (1, 0))), some (.inl _), some (.inl _), none, none]) (laM := [some (.inr (.inr (9, 0))), some (.inl _), some (.inl _), none, none]) (by rw [show mm_mL 14 = 5 from by decide +kernel]; rfl) (by rw [show mm_mL 145 = 5 from by decide +kernel]; rfl) (r :=  -103) ?_ ?_ (pz_rd0 (LC' := LC) (LM' := LM) h)
        · rw [b14_0]
          simp (disch := omega) only [sC63 (by omega) hC.2.2.1, pz_bT hx', b14_8, b14_11, sC35, pz_bT hy', b14_15, b14_21, hs5, b14_30, d1, a7, b14_43, hv, hfe, b14_45, sC87 d2 a8 hv, pz_bT hb, b14_52, b14_70, pz_k0, pz_k1, pz_k2, pz_k3, pz_k4, pz_k5, pz_k6, pz_k7, pz_k8, pz_k9, pz_k10, pz_k16, pz_k31, pz_k63, pz_km, nI_add, pz_mul, nI_ltI, nI_eq, nI_clamp, pz_inI, Option.bind_some, Option.toList_some, Option.toList_none, List.cons_append, List.nil_append, Nat.zero_add, Nat.mul_zero, Nat.add_zero, Nat.lt_irrefl, pz_bb, pz_bTr, Bool.false_eq_true, pz_bFa, Nat.reduceEqDiff, Nat.reduceLT, ite_not, pz_mE, pz_mE2, pz_mL, pz_mG, not_true_eq_false, not_false_eq_true, if_true, if_false, reduceIte, eq_self, true_or, or_true, or_false, false_or, and_true, true_and, and_false, false_and]
        · rw [b145_0]
          simp (disch := omega) only [sM134 hA hM, pz_bT hx', b145_5, b145_8, sM133, pz_bT hy', b145_12, b145_18, hs5, m1, b145_26, h36, hfm, b145_36, m2, b145_46, sM114 a85 hv10, pz_bT hb, b145_50, b145_69, pz_k0, pz_k1, pz_k2, pz_k3, pz_k4, pz_k5, pz_k6, pz_k7, pz_k8, pz_k9, pz_k10, pz_k16, pz_k31, pz_k63, pz_km, nI_add, pz_mul, nI_ltI, nI_eq, nI_clamp, pz_inI, Option.bind_some, Option.toList_some, Option.toList_none, List.cons_append, List.nil_append, Nat.zero_add, Nat.mul_zero, Nat.add_zero, Nat.lt_irrefl, pz_bb, pz_bTr, Bool.false_eq_true, pz_bFa, Nat.reduceEqDiff, Nat.reduceLT, ite_not, pz_mE, pz_mE2, pz_mL, pz_mG, not_true_eq_false, not_false_eq_true, if_true, if_false, reduceIte, eq_self, true_or, or_true, or_false, false_or, and_true, true_and, and_false, false_and]
      · by_cases hz : A 13 (A 7 s 0) v = 0
        · rw [hz] at hfe hfm
          rw [pz_fe0] at hfe
          refine pz_two (laC := [some (.inr (.inr (1, 0))), some (.inl _), some (.inl _), none, none]) (laM := [some (.inr (.inr (9, 0))), some (.inl _), some (.inl _), none, none]) (by rw [show mm_mL 14 = 5 from by decide +kernel]; rfl) (by rw [show mm_mL 145 = 5 from by decide +kernel]; rfl) (r :=  -103) ?_ ?_ (pz_rd0 (LC' := LC) (LM' := LM) h)
          · rw [b14_0]
            simp (disch := omega) only [sC63 (by omega) hC.2.2.1, pz_bT hx', b14_8, b14_11, sC35, pz_bT hy', b14_15, b14_21, hs5, b14_30, d1, a7, b14_43, hv, hfe, b14_45, sC87 d2 a8 hv, pz_bF hb, b14_52, b14_55, b14_70, pz_k0, pz_k1, pz_k2, pz_k3, pz_k4, pz_k5, pz_k6, pz_k7, pz_k8, pz_k9, pz_k10, pz_k16, pz_k31, pz_k63, pz_km, nI_add, pz_mul, nI_ltI, nI_eq, nI_clamp, pz_inI, Option.bind_some, Option.toList_some, Option.toList_none, List.cons_append, List.nil_append, Nat.zero_add, Nat.mul_zero, Nat.add_zero, Nat.lt_irrefl, pz_bb, pz_bTr, Bool.false_eq_true, pz_bFa, Nat.reduceEqDiff, Nat.reduceLT, ite_not, pz_mE, pz_mE2, pz_mL, pz_mG, not_true_eq_false, not_false_eq_true, if_true, if_false, reduceIte, eq_self, true_or, or_true, or_false, false_or, and_true, true_and, and_false, false_and]
          · rw [b145_0]
            simp (disch := omega) only [sM134 hA hM, pz_bT hx', b145_5, b145_8, sM133, pz_bT hy', b145_12, b145_18, hs5, m1, b145_26, h36, hfm, b145_36, m2, pz_fe0, b145_46, sM114 a85 hv10, pz_bF hb, b145_50, b145_53, show pz_m < nI 0 by decide, b145_69, pz_k0, pz_k1, pz_k2, pz_k3, pz_k4, pz_k5, pz_k6, pz_k7, pz_k8, pz_k9, pz_k10, pz_k16, pz_k31, pz_k63, pz_km, nI_add, pz_mul, nI_ltI, nI_eq, nI_clamp, pz_inI, Option.bind_some, Option.toList_some, Option.toList_none, List.cons_append, List.nil_append, Nat.zero_add, Nat.mul_zero, Nat.add_zero, Nat.lt_irrefl, pz_bb, pz_bTr, Bool.false_eq_true, pz_bFa, Nat.reduceEqDiff, Nat.reduceLT, ite_not, pz_mE, pz_mE2, pz_mL, pz_mG, not_true_eq_false, not_false_eq_true, if_true, if_false, reduceIte, eq_self, true_or, or_true, or_false, false_or, and_true, true_and, and_false, false_and]
        · rw [pz_fe1 hz] at hfe
          by_cases hp : A 12 s 0 < A 13 (A 7 s 0) v - 1
          · refine pz_two (laC := [some (.inr (.inr (1, 0))), some (.inl _), some (.inl _), none, none]) (laM := [some (.inr (.inr (9, 0))), some (.inl _), some (.inl _), none, none]) (by rw [show mm_mL 14 = 5 from by decide +kernel]; rfl) (by rw [show mm_mL 145 = 5 from by decide +kernel]; rfl) (r :=  -103) ?_ ?_ (pz_rd0 (LC' := LC) (LM' := LM) h)
            · rw [b14_0]
              simp (disch := omega) only [sC63 (by omega) hC.2.2.1, pz_bT hx', b14_8, b14_11, sC35, pz_bT hy', b14_15, b14_21, hs5, b14_30, d1, a7, b14_43, hv, hfe, b14_45, sC87 d2 a8 hv, pz_bF hb, b14_52, b14_55, b14_61, d6, hp, b14_70, pz_k0, pz_k1, pz_k2, pz_k3, pz_k4, pz_k5, pz_k6, pz_k7, pz_k8, pz_k9, pz_k10, pz_k16, pz_k31, pz_k63, pz_km, nI_add, pz_mul, nI_ltI, nI_eq, nI_clamp, pz_inI, Option.bind_some, Option.toList_some, Option.toList_none, List.cons_append, List.nil_append, Nat.zero_add, Nat.mul_zero, Nat.add_zero, Nat.lt_irrefl, pz_bb, pz_bTr, Bool.false_eq_true, pz_bFa, Nat.reduceEqDiff, Nat.reduceLT, ite_not, pz_mE, pz_mE2, pz_mL, pz_mG, not_true_eq_false, not_false_eq_true, if_true, if_false, reduceIte, eq_self, true_or, or_true, or_false, false_or, and_true, true_and, and_false, false_and]
            · rw [b145_0]
              simp (disch := omega) only [sM134 hA hM, pz_bT hx', b145_5, b145_8, sM133, pz_bT hy', b145_12, b145_18, hs5, m1, b145_26, h36, hfm, b145_36, m2, pz_fe1 hz, b145_46, sM114 a85 hv10, pz_bF hb, b145_50, b145_53, Nat.not_lt_zero, b145_58, m6, b145_66, hp, b145_69, pz_k0, pz_k1, pz_k2, pz_k3, pz_k4, pz_k5, pz_k6, pz_k7, pz_k8, pz_k9, pz_k10, pz_k16, pz_k31, pz_k63, pz_km, nI_add, pz_mul, nI_ltI, nI_eq, nI_clamp, pz_inI, Option.bind_some, Option.toList_some, Option.toList_none, List.cons_append, List.nil_append, Nat.zero_add, Nat.mul_zero, Nat.add_zero, Nat.lt_irrefl, pz_bb, pz_bTr, Bool.false_eq_true, pz_bFa, Nat.reduceEqDiff, Nat.reduceLT, ite_not, pz_mE, pz_mE2, pz_mL, pz_mG, not_true_eq_false, not_false_eq_true, if_true, if_false, reduceIte, eq_self, true_or, or_true, or_false, false_or, and_true, true_and, and_false, false_and]
          · obtain ⟨z, hze⟩ : ∃ z, A 13 (A 7 s 0) v = z + 1 := ⟨A 13 (A 7 s 0) v - 1, by omega⟩
            rw [hze, Nat.add_sub_cancel] at hfe hp
            rw [hze] at hfm hz2
            obtain ⟨I', g0, g1, g2, g3, g4, g5⟩ := sC90 (ids := mm_idC) (L := LC) (y := z) hA hC hs hv (by omega)
            obtain ⟨t, ht⟩ : ∃ t, t = min z 98 + 2 := ⟨_, rfl⟩
            have hC2 : (if 99 < z + 1 then nI 99 else nI (z + 1)) = nI t - nI 1 := by
              rw [pz_sub (by omega)]
              by_cases q : 99 < z + 1
              · rw [if_pos q, show t - 1 = 99 by omega]
              · rw [if_neg q, show t - 1 = z + 1 by omega]
            obtain ⟨J1, hJ1⟩ : ∃ J1, J1 = mm_uI J 131 0 s (nI (A 12 s 0 - z)) := ⟨_, rfl⟩
            obtain ⟨J2, hJ2⟩ : ∃ J2, J2 = mm_uI J1 127 0 s (nI (A 8 s 0 ||| 2 ^ v)) := ⟨_, rfl⟩
            obtain ⟨J3, hJ3⟩ : ∃ J3, J3 = mm_uI (mm_uI J2 55 0 0 (nI (ck + 1))) 132 0 (6 * s + v) (nI (ck + 1)) := ⟨_, rfl⟩
            have n3 : ∀ c, c ≠ 131 → c ≠ 127 → c ≠ 55 → c ≠ 132 → J3 c = J c := fun c h1 h2 h3 h4 => by rw [hJ3, pz_uI_ne h4, pz_uI_ne h3, hJ2, pz_uI_ne h2, hJ1, pz_uI_ne h1]
            have t131 : J3 131 0 s = nI (A 12 s 0 - z) := by rw [hJ3, pz_uI_ne (by decide), pz_uI_ne (by decide), hJ2, pz_uI_ne (by decide), hJ1, pz_uI_s]
            have t127 : J3 127 0 s = nI (A 8 s 0 ||| 2 ^ v) := by rw [hJ3, pz_uI_ne (by decide), pz_uI_ne (by decide), hJ2, pz_uI_s]
            have hj2 : ∀ c j, c ≠ 55 ∧ c ≠ 132 ∧ j ≠ s → J3 c 0 j = J c 0 j := fun c j hc => by rw [hJ3, pz_uI_ne hc.2.1, pz_uI_ne hc.1, hJ2, pz_uI_j (by omega), hJ1, pz_uI_j (by omega)]
            have h132 : ∀ q, J3 132 0 q = if 6 * s ≤ q ∧ q < 6 * s + 6 ∧ pz_bt (2 ^ v) (q - 6 * s) = 1 then nI (ck + 1) else J 132 0 q := by
              intro q
              rw [hJ3, pz_uI_at, pz_uI_ne (by decide), hJ2, pz_uI_ne (by decide), hJ1, pz_uI_ne (by decide)]
              by_cases e : q = 6 * s + v
              · rw [if_pos e, if_pos (by rw [e, show 6 * s + v - 6 * s = v by omega]; exact ⟨by omega, by omega, ((pz_tp0 v hv).2 v hv).mpr rfl⟩)]
              · rw [if_neg e, if_neg]
                rintro ⟨z1, z2, z3⟩
                have := ((pz_tp0 v hv).2 (q - 6 * s) (by omega)).mp z3
                omega
            have e22 : I' 22 s 0 = nI (A 7 s 0) := by rw [g1 22 s (by omega)]; exact d1
            have f27 : mm_uI I' 115 (A 7 s 0) v (if 99 < z + 1 then nI 99 else nI (z + 1)) 27 s 0 = nI (A 12 s 0 - z) := by rw [pz_uI_ne (by decide)]; exact g3
            have f131 : mm_uI J3 133 0 (6 * A 7 s 0 + v) (nI t) 131 0 s = nI (A 12 s 0 - z) := by rw [pz_uI_ne (by decide)]; exact t131
            refine pz_two (laC := [some (.inr (.inr (1, 0))), some (.inl _), some (.inl _), none, none]) (laM := [some (.inr (.inr (9, 0))), some (.inl _), some (.inl _), none, none]) (by rw [show mm_mL 14 = 5 from by decide +kernel]; rfl) (by rw [show mm_mL 145 = 5 from by decide +kernel]; rfl) (r :=  nI (A 12 s 0 - z)) (hC' := (mm_idC, mm_uI I' 115 (A 7 s 0) v (if 99 < z + 1 then nI 99 else nI (z + 1)), LC, mm_RS κ)) (hM' := (mm_idM, mm_uI J3 133 0 (6 * A 7 s 0 + v) (nI t), LM, mm_RM)) ?_ ?_ ?_
            · rw [b14_0]
              simp (disch := omega) only [sC63 (by omega) hC.2.2.1, pz_bT hx', b14_8, b14_11, sC35, pz_bT hy', b14_15, b14_21, hs5, b14_30, d1, a7, b14_43, hv, hfe, b14_45, sC87 d2 a8 hv, pz_bF hb, b14_52, b14_55, b14_61, d6, hp, b14_73, g0, b14_80, e22, b14_92, pz_k99, pz_k0, pz_k1, pz_k2, pz_k3, pz_k4, pz_k5, pz_k6, pz_k7, pz_k8, pz_k9, pz_k10, pz_k16, pz_k31, pz_k63, pz_km, nI_add, pz_mul, nI_ltI, nI_eq, nI_clamp, pz_inI, Option.bind_some, Option.toList_some, Option.toList_none, List.cons_append, List.nil_append, Nat.zero_add, Nat.mul_zero, Nat.add_zero, Nat.lt_irrefl, pz_bb, pz_bTr, Bool.false_eq_true, pz_bFa, Nat.reduceEqDiff, Nat.reduceLT, ite_not, pz_mE, pz_mE2, pz_mL, pz_mG, not_true_eq_false, not_false_eq_true, if_true, if_false, reduceIte, eq_self, true_or, or_true, or_false, false_or, and_true, true_and, and_false, false_and]
              rw [b14_103, f27]
            · rw [b145_0]
              simp (disch := omega) only [sM134 hA hM, pz_bT hx', b145_5, b145_8, sM133, pz_bT hy', b145_12, b145_18, hs5, m1, b145_26, h36, hfm, b145_36, m2, pz_sub (show 1 ≤ z + 1 by omega), Nat.add_sub_cancel, b145_46, sM114 a85 hv10, pz_bF hb, b145_50, b145_53, Nat.not_lt_zero, b145_58, m6, b145_66, hp, b145_72, b145_79, pz_k0, pz_k1, pz_k2, pz_k3, pz_k4, pz_k5, pz_k6, pz_k7, pz_k8, pz_k9, pz_k10, pz_k16, pz_k31, pz_k63, pz_km, nI_add, pz_mul, nI_ltI, nI_eq, nI_clamp, pz_inI, Option.bind_some, Option.toList_some, Option.toList_none, List.cons_append, List.nil_append, Nat.zero_add, Nat.mul_zero, Nat.add_zero, Nat.lt_irrefl, pz_bb, pz_bTr, Bool.false_eq_true, pz_bFa, Nat.reduceEqDiff, Nat.reduceLT, ite_not, pz_mE, pz_mE2, pz_mL, pz_mG, not_true_eq_false, not_false_eq_true, if_true, if_false, reduceIte, eq_self, true_or, or_true, or_false, false_or, and_true, true_and, and_false, false_and]
              rw [pz_sub (show z ≤ A 12 s 0 by omega), ← hJ1]
              have k2 : J1 127 0 s = nI (A 8 s 0) := by rw [hJ1, pz_uI_ne (by decide)]; exact m2
              simp (disch := omega) only [b145_83, hs5, k2, b145_90, pz_one, pz_or, pz_k0, pz_k1, pz_k2, pz_k3, pz_k4, pz_k5, pz_k6, pz_k7, pz_k8, pz_k9, pz_k10, pz_k16, pz_k31, pz_k63, pz_km, nI_add, pz_mul, nI_ltI, nI_eq, nI_clamp, pz_inI, Option.bind_some, Option.toList_some, Option.toList_none, List.cons_append, List.nil_append, Nat.zero_add, Nat.mul_zero, Nat.add_zero, Nat.lt_irrefl, pz_bb, pz_bTr, Bool.false_eq_true, pz_bFa, Nat.reduceEqDiff, Nat.reduceLT, ite_not, pz_mE, pz_mE2, pz_mL, pz_mG, not_true_eq_false, not_false_eq_true, if_true, if_false, reduceIte, eq_self, true_or, or_true, or_false, false_or, and_true, true_and, and_false, false_and]
              rw [← hJ2]
              have k55 : J2 55 0 0 = nI ck := by rw [hJ2, pz_uI_ne (by decide), hJ1, pz_uI_ne (by decide)]; exact q3
              simp (disch := omega) only [b145_95, k55, show 6 * s + v < 30 by omega, pz_uI_s, pz_k0, pz_k1, pz_k2, pz_k3, pz_k4, pz_k5, pz_k6, pz_k7, pz_k8, pz_k9, pz_k10, pz_k16, pz_k31, pz_k63, pz_km, nI_add, pz_mul, nI_ltI, nI_eq, nI_clamp, pz_inI, Option.bind_some, Option.toList_some, Option.toList_none, List.cons_append, List.nil_append, Nat.zero_add, Nat.mul_zero, Nat.add_zero, Nat.lt_irrefl, pz_bb, pz_bTr, Bool.false_eq_true, pz_bFa, Nat.reduceEqDiff, Nat.reduceLT, ite_not, pz_mE, pz_mE2, pz_mL, pz_mG, not_true_eq_false, not_false_eq_true, if_true, if_false, reduceIte, eq_self, true_or, or_true, or_false, false_or, and_true, true_and, and_false, false_and]
              rw [← hJ3]
              by_cases q : z < 99
              · rw [show t = z + 2 by omega] at f131 ⊢
                simp (disch := omega) only [b145_120, pz_k99, q, b145_132, b145_141, h36, b145_142, hs5, pz_k0, pz_k1, pz_k2, pz_k3, pz_k4, pz_k5, pz_k6, pz_k7, pz_k8, pz_k9, pz_k10, pz_k16, pz_k31, pz_k63, pz_km, nI_add, pz_mul, nI_ltI, nI_eq, nI_clamp, pz_inI, Option.bind_some, Option.toList_some, Option.toList_none, List.cons_append, List.nil_append, Nat.zero_add, Nat.mul_zero, Nat.add_zero, Nat.lt_irrefl, pz_bb, pz_bTr, Bool.false_eq_true, pz_bFa, Nat.reduceEqDiff, Nat.reduceLT, ite_not, pz_mE, pz_mE2, pz_mL, pz_mG, not_true_eq_false, not_false_eq_true, if_true, if_false, reduceIte, eq_self, true_or, or_true, or_false, false_or, and_true, true_and, and_false, false_and]
                rw [f131, b145_148]
              · rw [show t = 100 by omega] at f131 ⊢
                simp (disch := omega) only [b145_120, pz_k99, pz_k100, q, b145_139, b145_141, h36, b145_142, hs5, pz_k0, pz_k1, pz_k2, pz_k3, pz_k4, pz_k5, pz_k6, pz_k7, pz_k8, pz_k9, pz_k10, pz_k16, pz_k31, pz_k63, pz_km, nI_add, pz_mul, nI_ltI, nI_eq, nI_clamp, pz_inI, Option.bind_some, Option.toList_some, Option.toList_none, List.cons_append, List.nil_append, Nat.zero_add, Nat.mul_zero, Nat.add_zero, Nat.lt_irrefl, pz_bb, pz_bTr, Bool.false_eq_true, pz_bFa, Nat.reduceEqDiff, Nat.reduceLT, ite_not, pz_mE, pz_mE2, pz_mL, pz_mG, not_true_eq_false, not_false_eq_true, if_true, if_false, reduceIte, eq_self, true_or, or_true, or_false, false_or, and_true, true_and, and_false, false_and]
                rw [f131, b145_148]
            · refine pz_put (A' := pz_fA (pz_sA A s (A 6 0 0) (pz_us A s (A 7 s 0) (A 8 s 0 ||| 2 ^ v) (A 9 s 0) (A 12 s 0 - z) (2 ^ v) ck)) (A 7 s 0) v t) (ck' := ck + 1) h hk q1 (by omega) (Nat.le_refl _) ?_ (pz_wf_f (by omega) (pz_us_wf hA (by omega) hs a7 (pz_orlt (n := 6) a8 (pz_tp0 v hv).1) a9 (by omega) (pz_lrn0 (A 8 s 0) a8 v hv).2)) (pz_C_f hC2 (pz_us_C hC hs (fun c i hc => g1 c i (by omega)) e22 g2 ?_ g3 g4 g5)) (pz_M_f a7 hv (pz_us_M hM hs (fun c hc => n3 c (by omega) (by omega) (by omega) (by omega)) hj2 ?_ t127 ?_ t131 h132)) ?_ (fun _ => rfl) ?_ ?_ ?_ (Nat.le_refl _) (by rw [pz_fA_c (by decide), pz_sA_6]; omega)
              · rw [pz_uI_ne (by decide), hJ3, pz_uI_ne (by decide), pz_uI_s]
              · rw [g1 24 s (by omega)]
                exact d3
              · rw [n3 126 (by decide) (by decide) (by decide) (by decide)]
                exact m1
              · rw [n3 128 (by decide) (by decide) (by decide) (by decide)]
                exact m3
              · refine pz_kk_u (by unfold pz_kk pz_kw; omega) (fun c i hc => g1 c i ?_)
                unfold pz_kk pz_kw at hc
                omega
              · refine pz_kz_u rfl (fun c hc => ?_)
                unfold pz_kz at hc
                simp only [Bool.or_eq_true, beq_iff_eq] at hc
                exact n3 c (by omega) (by omega) (by omega) (by omega)
              · intro c b hc _
                rw [pz_uI_ne (by omega), n3 c (by omega) (by omega) (by omega) (by omega)]
              · intro c b hc _
                rw [pz_uI_ne (by omega), n3 c (by omega) (by omega) (by omega) (by omega)]
    · refine pz_two (laC := [some (.inr (.inr (1, 0))), some (.inl _), some (.inl _), none, none]) (laM := [some (.inr (.inr (9, 0))), some (.inl _), some (.inl _), none, none]) (by rw [show mm_mL 14 = 5 from by decide +kernel]; rfl) (by rw [show mm_mL 145 = 5 from by decide +kernel]; rfl) (r :=  -101) ?_ ?_ (pz_rd0 (LC' := LC) (LM' := LM) h)
      · rw [b14_0]
        simp (disch := omega) only [sC63 (by omega) hC.2.2.1, pz_bT hx', b14_8, b14_11, sC35, pz_bF hy, b14_15, b14_18, pz_k0, pz_k1, pz_k2, pz_k3, pz_k4, pz_k5, pz_k6, pz_k7, pz_k8, pz_k9, pz_k10, pz_k16, pz_k31, pz_k63, pz_km, nI_add, pz_mul, nI_ltI, nI_eq, nI_clamp, pz_inI, Option.bind_some, Option.toList_some, Option.toList_none, List.cons_append, List.nil_append, Nat.zero_add, Nat.mul_zero, Nat.add_zero, Nat.lt_irrefl, pz_bb, pz_bTr, Bool.false_eq_true, pz_bFa, Nat.reduceEqDiff, Nat.reduceLT, ite_not, pz_mE, pz_mE2, pz_mL, pz_mG, not_true_eq_false, not_false_eq_true, if_true, if_false, reduceIte, eq_self, true_or, or_true, or_false, false_or, and_true, true_and, and_false, false_and]
      · rw [b145_0]
        simp (disch := omega) only [sM134 hA hM, pz_bT hx', b145_5, b145_8, sM133, pz_bF hy, b145_12, b145_15, pz_k0, pz_k1, pz_k2, pz_k3, pz_k4, pz_k5, pz_k6, pz_k7, pz_k8, pz_k9, pz_k10, pz_k16, pz_k31, pz_k63, pz_km, nI_add, pz_mul, nI_ltI, nI_eq, nI_clamp, pz_inI, Option.bind_some, Option.toList_some, Option.toList_none, List.cons_append, List.nil_append, Nat.zero_add, Nat.mul_zero, Nat.add_zero, Nat.lt_irrefl, pz_bb, pz_bTr, Bool.false_eq_true, pz_bFa, Nat.reduceEqDiff, Nat.reduceLT, ite_not, pz_mE, pz_mE2, pz_mL, pz_mG, not_true_eq_false, not_false_eq_true, if_true, if_false, reduceIte, eq_self, true_or, or_true, or_false, false_or, and_true, true_and, and_false, false_and]
  · refine pz_two (laC := [some (.inr (.inr (1, 0))), some (.inl _), some (.inl _), none, none]) (laM := [some (.inr (.inr (9, 0))), some (.inl _), some (.inl _), none, none]) (by rw [show mm_mL 14 = 5 from by decide +kernel]; rfl) (by rw [show mm_mL 145 = 5 from by decide +kernel]; rfl) (r :=  -101) ?_ ?_ (pz_rd0 (LC' := LC) (LM' := LM) h)
    · rw [b14_0]
      simp (disch := omega) only [sC63 (by omega) hC.2.2.1, pz_bF hx, b14_8, b14_18, pz_k0, pz_k1, pz_k2, pz_k3, pz_k4, pz_k5, pz_k6, pz_k7, pz_k8, pz_k9, pz_k10, pz_k16, pz_k31, pz_k63, pz_km, nI_add, pz_mul, nI_ltI, nI_eq, nI_clamp, pz_inI, Option.bind_some, Option.toList_some, Option.toList_none, List.cons_append, List.nil_append, Nat.zero_add, Nat.mul_zero, Nat.add_zero, Nat.lt_irrefl, pz_bb, pz_bTr, Bool.false_eq_true, pz_bFa, Nat.reduceEqDiff, Nat.reduceLT, ite_not, pz_mE, pz_mE2, pz_mL, pz_mG, not_true_eq_false, not_false_eq_true, if_true, if_false, reduceIte, eq_self, true_or, or_true, or_false, false_or, and_true, true_and, and_false, false_and]
    · rw [b145_0]
      simp (disch := omega) only [sM134 hA hM, pz_bF hx, b145_5, b145_15, pz_k0, pz_k1, pz_k2, pz_k3, pz_k4, pz_k5, pz_k6, pz_k7, pz_k8, pz_k9, pz_k10, pz_k16, pz_k31, pz_k63, pz_km, nI_add, pz_mul, nI_ltI, nI_eq, nI_clamp, pz_inI, Option.bind_some, Option.toList_some, Option.toList_none, List.cons_append, List.nil_append, Nat.zero_add, Nat.mul_zero, Nat.add_zero, Nat.lt_irrefl, pz_bb, pz_bTr, Bool.false_eq_true, pz_bFa, Nat.reduceEqDiff, Nat.reduceLT, ite_not, pz_mE, pz_mE2, pz_mL, pz_mG, not_true_eq_false, not_false_eq_true, if_true, if_false, reduceIte, eq_self, true_or, or_true, or_false, false_or, and_true, true_and, and_false, false_and]
end PZ58
