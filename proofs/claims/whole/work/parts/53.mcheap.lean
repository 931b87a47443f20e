/-! cheapest: the model's, and the call -/
section PZ53
variable {ids : List (Nat × Nat)} {I J : mm_HI} {L LC LM : mm_HL} {κ f : Nat → Nat} {A : pz_A} {k ck n g b v s p : Nat}
theorem pz_fr_ne2 {I' : mm_HI} {c d : Nat} (hc : pz_sc c = true) (hd : pz_sc d = true) (h : ∀ c', c' ≠ c → c' ≠ d → I' c' = I c') : pz_fr I I' := by
  intro c' hc'
  refine h c' ?_ ?_
  · rintro rfl
    rw [hc] at hc'
    cases hc'
  · rintro rfl
    rw [hd] at hc'
    cases hc'
theorem pz_G_lt (hA : pz_wf ck A) (hp : p < 6) {x : Nat} : (pz_G A v p x < 1048576 ↔ pz_T A v p x < 10000) ∧ pz_G A v p x ≤ 1048576 := by
  have h := pz_G_eq (v := v) hA hp x
  by_cases e : pz_T A v p x < 10000
  · rw [if_pos e] at h
    rw [h]
    exact ⟨⟨fun _ => e, fun _ => by omega⟩, by omega⟩
  · rw [if_neg e] at h
    rw [h]
    exact ⟨⟨fun z => absurd z (by decide), fun z => absurd z e⟩, Nat.le_refl _⟩
/-- learnOn -/
theorem sM154 {p0 st : Nat} {F : Nat → Nat} (hA : pz_wf ck A) (hM : pz_M A I) (hp : p0 < 6) (hst : st < 64) (hF : ∀ x, F x ≤ 1048576) (hI : ∀ x, x < 64 → I 138 0 x = nI (F x)) : ∃ I', mm_ev 154 0 [some (.inr (.inr (9, 0))), some (.inl (nI p0)), some (.inl (nI st)), none, none, none, none] [] (ids, I, L, mm_RM) = some (none, (ids, I', L, mm_RM)) ∧ (∀ c, c ≠ 137 → c ≠ 138 → I' c = I c) ∧ (∀ x, x < 6 → I' 137 0 x = nI (pz_G A st p0 x)) ∧ ∀ x, x < 64 → I' 138 0 x = nI (pz_lm A p0 st 1048576 F 6 x) := by
  obtain ⟨I1, hI1⟩ : ∃ I1, I1 = pz_w I 137 6 (pz_G A st p0) := ⟨_, rfl⟩
  have n1 : ∀ c, c ≠ 137 → I1 c = I c := by
    intro c hc
    rw [hI1]
    funext i j
    exact if_neg (fun z => hc z.1)
  have g1 : ∀ x, x < 6 → I1 137 0 x = nI (pz_G A st p0 x) := by
    intro x hx
    rw [hI1]
    exact pz_w_r hx
  have hl := pz_loopP (fun v (j : (Option mm_V × Option mm_V × Option mm_V) × mm_HI) => mm_ev 154 8 [some (.inr (.inr (9, 0))), some (.inl (nI p0)), some (.inl (nI st)), some (.inl (nI v)), j.1.1, j.1.2.1, j.1.2.2] [] (ids, j.2, L, mm_RM)) (fun v j => (∀ c, c ≠ 138 → j.2 c = I1 c) ∧ ∀ x, x < 64 → j.2 138 0 x = nI (pz_lm A p0 st 1048576 F v x)) 6 (fun v j hv hj => ?_) ((none, none, none), I1) ⟨fun _ _ => rfl, fun x hx => by rw [show (((none, none, none), I1) : (Option mm_V × Option mm_V × Option mm_V) × mm_HI).2 = I1 from rfl, n1 138 (by decide)]; exact hI x hx⟩
  · obtain ⟨j, hj, h1, h2⟩ := hl
    refine ⟨j.2, ?_, fun c c1 c2 => (h1 c c2).trans (n1 c c1), fun x hx => by rw [h1 137 (by decide)]; exact g1 x hx, h2⟩
    rw [b154_0]
    simp (disch := omega) only [sM147 hA hM hp hst, b154_6, pz_k0, pz_k1, pz_k2, pz_k3, pz_k4, pz_k5, pz_k6, pz_k7, pz_k8, pz_k9, pz_k10, pz_k16, pz_k31, pz_k63, pz_km, nI_add, pz_mul, nI_ltI, nI_eq, nI_clamp, pz_inI, Option.bind_some, Option.toList_some, Option.toList_none, List.cons_append, List.nil_append, Nat.zero_add, Nat.mul_zero, Nat.add_zero, Nat.lt_irrefl, pz_bb, pz_bTr, Bool.false_eq_true, pz_bFa, Nat.reduceEqDiff, Nat.reduceLT, ite_not, pz_mE, pz_mE2, pz_mL, pz_mG, not_true_eq_false, not_false_eq_true, if_true, if_false, reduceIte, eq_self, true_or, or_true, or_false, false_or, and_true, true_and, and_false, false_and]
    rw [← hI1]
    refine Eq.trans hj ?_
    rw [b154_8]
    simp (disch := omega) only [b154_144, pz_k0, pz_k1, pz_k2, pz_k3, pz_k4, pz_k5, pz_k6, pz_k7, pz_k8, pz_k9, pz_k10, pz_k16, pz_k31, pz_k63, pz_km, nI_add, pz_mul, nI_ltI, nI_eq, nI_clamp, pz_inI, Option.bind_some, Option.toList_some, Option.toList_none, List.cons_append, List.nil_append, Nat.zero_add, Nat.mul_zero, Nat.add_zero, Nat.lt_irrefl, pz_bb, pz_bTr, Bool.false_eq_true, pz_bFa, Nat.reduceEqDiff, Nat.reduceLT, ite_not, pz_mE, pz_mE2, pz_mL, pz_mG, not_true_eq_false, not_false_eq_true, if_true, if_false, reduceIte, eq_self, true_or, or_true, or_false, false_or, and_true, true_and, and_false, false_and]
  · try dsimp only at hj
    try dsimp only
    obtain ⟨j1, j2⟩ := hj
    have hM' := pz_M_fr (pz_fr_ne2 (show pz_sc 138 = true from rfl) (show pz_sc 137 = true from rfl) (fun c c1 c2 => (j1 c c1).trans (n1 c c2))) hM
    have hfee := (pz_M0 hM').2.2.1
    have hor : st ||| 2 ^ v < 64 := pz_orlt (n := 6) hst (Nat.pow_lt_pow_right (by decide) hv)
    have e1 := j2 _ hst
    have e2 := j2 _ hor
    rw [pz_lm_set] at e1
    have hFs := hF st
    have hFm := pz_lm_le (A := A) (p0 := p0) (st := st) (inf := 1048576) hF v (st ||| 2 ^ v)
    have hlf := pz_lf_le (A := A) (p0 := p0) (st := st) (v := v) (inf := 1048576) 6
    have hom : st ||| 2 ^ v < 2 ^ 31 := Nat.lt_trans hor (by decide)
    have hqi : nI (st ||| 2 ^ v) = nI st ↔ st ||| 2 ^ v = st := nI_eq hom (by omega)
    have hmi : mm_in (nI (st ||| 2 ^ v)) 64 = true := (pz_inI hom).mpr hor
    have hmc : (nI (st ||| 2 ^ v)).toNatClampNeg = st ||| 2 ^ v := nI_clamp hom
    have hin := pz_loopJ (fun p (o : Option mm_V) => mm_ev 154 21 [some (.inr (.inr (9, 0))), some (.inl (nI p0)), some (.inl (nI st)), some (.inl (nI v)), some (.inl (nI (pz_lf A p0 st v 1048576 p))), some (.inl (nI p)), o] [] (ids, j.2, L, mm_RM)) 6 (fun p o hp6 => ?_) j.1.2.2
    · obtain ⟨o, ho⟩ := hin
      have hgo : mm_ev 154 8 [some (.inr (.inr (9, 0))), some (.inl (nI p0)), some (.inl (nI st)), some (.inl (nI v)), j.1.1, j.1.2.1, j.1.2.2] [] (ids, j.2, L, mm_RM) = mm_ev 154 83 [some (.inr (.inr (9, 0))), some (.inl (nI p0)), some (.inl (nI st)), some (.inl (nI v)), some (.inl (nI (pz_lf A p0 st v 1048576 6))), some (.inl (nI 6)), o] [] (ids, j.2, L, mm_RM) := by
        rw [b154_8, show (6 : Int32) = nI 6 from rfl, if_pos (nI_lt hv (by decide)), b154_14]
        refine Eq.trans ho ?_
        rw [b154_21]
        simp (disch := omega) only [pz_k0, pz_k1, pz_k2, pz_k3, pz_k4, pz_k5, pz_k6, pz_k7, pz_k8, pz_k9, pz_k10, pz_k16, pz_k31, pz_k63, pz_km, nI_add, pz_mul, nI_ltI, nI_eq, nI_clamp, pz_inI, Option.bind_some, Option.toList_some, Option.toList_none, List.cons_append, List.nil_append, Nat.zero_add, Nat.mul_zero, Nat.add_zero, Nat.lt_irrefl, pz_bb, pz_bTr, Bool.false_eq_true, pz_bFa, Nat.reduceEqDiff, Nat.reduceLT, ite_not, pz_mE, pz_mE2, pz_mL, pz_mG, not_true_eq_false, not_false_eq_true, if_true, if_false, reduceIte, eq_self, true_or, or_true, or_false, false_or, and_true, true_and, and_false, false_and]
      rw [hgo, b154_83]
      by_cases he : st ||| 2 ^ v = st
      · refine ⟨((some (.inl (nI (pz_lf A p0 st v 1048576 6))), some (.inl (nI (st ||| 2 ^ v))), o), j.2), ?_, j1, ?_⟩
        · simp (disch := omega) only [pz_one, pz_or, hqi.mpr he, b154_138, pz_k0, pz_k1, pz_k2, pz_k3, pz_k4, pz_k5, pz_k6, pz_k7, pz_k8, pz_k9, pz_k10, pz_k16, pz_k31, pz_k63, pz_km, nI_add, pz_mul, nI_ltI, nI_eq, nI_clamp, pz_inI, Option.bind_some, Option.toList_some, Option.toList_none, List.cons_append, List.nil_append, Nat.zero_add, Nat.mul_zero, Nat.add_zero, Nat.lt_irrefl, pz_bb, pz_bTr, Bool.false_eq_true, pz_bFa, Nat.reduceEqDiff, Nat.reduceLT, ite_not, pz_mE, pz_mE2, pz_mL, pz_mG, not_true_eq_false, not_false_eq_true, if_true, if_false, reduceIte, eq_self, true_or, or_true, or_false, false_or, and_true, true_and, and_false, false_and]
        · rw [pz_lm_s, if_pos he]
          exact j2
      · by_cases hlt : pz_lf A p0 st v 1048576 6 < 1048576 ∧ F st + pz_lf A p0 st v 1048576 6 < pz_lm A p0 st 1048576 F v (st ||| 2 ^ v)
        · refine ⟨((some (.inl (nI (pz_lf A p0 st v 1048576 6))), some (.inl (nI (st ||| 2 ^ v))), o), mm_uI j.2 138 0 (st ||| 2 ^ v) (nI (F st + pz_lf A p0 st v 1048576 6))), ?_, fun c hc => ?_, fun x hx => ?_⟩
          · simp (disch := omega) only [pz_one, pz_or, show ¬ nI (st ||| 2 ^ v) = nI st from fun q => he (hqi.mp q), show (1048576 : Int32) = nI 1048576 from rfl, b154_96, hlt.1, b154_103, hst, e1, b154_109, hmi, hmc, e2, b154_119, hlt.2, b154_122, b154_134, b154_138, pz_k0, pz_k1, pz_k2, pz_k3, pz_k4, pz_k5, pz_k6, pz_k7, pz_k8, pz_k9, pz_k10, pz_k16, pz_k31, pz_k63, pz_km, nI_add, pz_mul, nI_ltI, nI_eq, nI_clamp, pz_inI, Option.bind_some, Option.toList_some, Option.toList_none, List.cons_append, List.nil_append, Nat.zero_add, Nat.mul_zero, Nat.add_zero, Nat.lt_irrefl, pz_bb, pz_bTr, Bool.false_eq_true, pz_bFa, Nat.reduceEqDiff, Nat.reduceLT, ite_not, pz_mE, pz_mE2, pz_mL, pz_mG, not_true_eq_false, not_false_eq_true, if_true, if_false, reduceIte, eq_self, true_or, or_true, or_false, false_or, and_true, true_and, and_false, false_and]
          · show mm_uI j.2 138 0 (st ||| 2 ^ v) _ c = I1 c
            rw [pz_uI_ne hc]
            exact j1 c hc
          · show mm_uI j.2 138 0 (st ||| 2 ^ v) _ 138 0 x = _
            rw [pz_uI_at, pz_lm_s, if_neg he]
            unfold pz_up
            by_cases hxe : x = st ||| 2 ^ v
            · rw [if_pos hxe, if_pos hxe, Nat.min_eq_right (by omega)]
            · rw [if_neg hxe, if_neg hxe]
              exact j2 x hx
        · refine ⟨((some (.inl (nI (pz_lf A p0 st v 1048576 6))), some (.inl (nI (st ||| 2 ^ v))), o), j.2), ?_, j1, fun x hx => ?_⟩
          · by_cases h1 : pz_lf A p0 st v 1048576 6 < 1048576
            · simp (disch := omega) only [pz_one, pz_or, show ¬ nI (st ||| 2 ^ v) = nI st from fun q => he (hqi.mp q), show (1048576 : Int32) = nI 1048576 from rfl, b154_96, h1, b154_103, hst, e1, b154_109, hmi, hmc, e2, b154_119, show ¬ F st + pz_lf A p0 st v 1048576 6 < pz_lm A p0 st 1048576 F v (st ||| 2 ^ v) by omega, b154_138, pz_k0, pz_k1, pz_k2, pz_k3, pz_k4, pz_k5, pz_k6, pz_k7, pz_k8, pz_k9, pz_k10, pz_k16, pz_k31, pz_k63, pz_km, nI_add, pz_mul, nI_ltI, nI_eq, nI_clamp, pz_inI, Option.bind_some, Option.toList_some, Option.toList_none, List.cons_append, List.nil_append, Nat.zero_add, Nat.mul_zero, Nat.add_zero, Nat.lt_irrefl, pz_bb, pz_bTr, Bool.false_eq_true, pz_bFa, Nat.reduceEqDiff, Nat.reduceLT, ite_not, pz_mE, pz_mE2, pz_mL, pz_mG, not_true_eq_false, not_false_eq_true, if_true, if_false, reduceIte, eq_self, true_or, or_true, or_false, false_or, and_true, true_and, and_false, false_and]
            · simp (disch := omega) only [pz_one, pz_or, show ¬ nI (st ||| 2 ^ v) = nI st from fun q => he (hqi.mp q), show (1048576 : Int32) = nI 1048576 from rfl, b154_96, h1, b154_138, pz_k0, pz_k1, pz_k2, pz_k3, pz_k4, pz_k5, pz_k6, pz_k7, pz_k8, pz_k9, pz_k10, pz_k16, pz_k31, pz_k63, pz_km, nI_add, pz_mul, nI_ltI, nI_eq, nI_clamp, pz_inI, Option.bind_some, Option.toList_some, Option.toList_none, List.cons_append, List.nil_append, Nat.zero_add, Nat.mul_zero, Nat.add_zero, Nat.lt_irrefl, pz_bb, pz_bTr, Bool.false_eq_true, pz_bFa, Nat.reduceEqDiff, Nat.reduceLT, ite_not, pz_mE, pz_mE2, pz_mL, pz_mG, not_true_eq_false, not_false_eq_true, if_true, if_false, reduceIte, eq_self, true_or, or_true, or_false, false_or, and_true, true_and, and_false, false_and]
          · show j.2 138 0 x = _
            rw [pz_lm_s, if_neg he]
            unfold pz_up
            by_cases hxe : x = st ||| 2 ^ v
            · rw [if_pos hxe, Nat.min_eq_left (by omega), hxe]
              exact e2
            · rw [if_neg hxe]
              exact j2 x hx
    · try dsimp only
      have hz := hfee p v hp6 hv
      have hz100 := hA.2.2.2.2.2.1 p v hp6 hv
      have hle := pz_lf_le (A := A) (p0 := p0) (st := st) (v := v) (inf := 1048576) p
      have hgp : j.2 137 0 p = nI (pz_G A st p0 p) := by
        rw [j1 137 (by decide)]
        exact g1 p hp6
      obtain ⟨hg1, hg2⟩ := pz_G_lt (v := st) hA hp (x := p)
      rw [pz_lf_s]
      by_cases hT : pz_T A st p0 p < 10000
      · have hG := hg1.mpr hT
        by_cases hz0 : A 13 p v = 0
        · rw [hz0] at hz
          rw [if_neg (by omega), b154_21]
          refine ⟨some (.inl pz_m), ?_⟩
          simp (disch := omega) only [hp6, b154_28, show 6 * p + v < 36 by omega, hz, pz_fe0, b154_40, hgp, b154_51, show (1048576 : Int32) = nI 1048576 from rfl, hG, b154_56, b154_73, b154_75, pz_k0, pz_k1, pz_k2, pz_k3, pz_k4, pz_k5, pz_k6, pz_k7, pz_k8, pz_k9, pz_k10, pz_k16, pz_k31, pz_k63, pz_km, nI_add, pz_mul, nI_ltI, nI_eq, nI_clamp, pz_inI, Option.bind_some, Option.toList_some, Option.toList_none, List.cons_append, List.nil_append, Nat.zero_add, Nat.mul_zero, Nat.add_zero, Nat.lt_irrefl, pz_bb, pz_bTr, Bool.false_eq_true, pz_bFa, Nat.reduceEqDiff, Nat.reduceLT, ite_not, pz_mE, pz_mE2, pz_mL, pz_mG, not_true_eq_false, not_false_eq_true, if_true, if_false, reduceIte, eq_self, true_or, or_true, or_false, false_or, and_true, true_and, and_false, false_and]
        · rw [if_pos ⟨hT, by omega⟩, b154_21]
          refine ⟨some (.inl (nI (A 13 p v - 1))), ?_⟩
          by_cases hlt : A 13 p v - 1 < pz_lf A p0 st v 1048576 p
          · rw [Nat.min_eq_right (by omega)]
            simp (disch := omega) only [hp6, b154_28, show 6 * p + v < 36 by omega, hz, pz_fe1 hz0, b154_40, hgp, b154_51, show (1048576 : Int32) = nI 1048576 from rfl, hG, b154_56, Nat.not_lt_zero, b154_61, hlt, b154_68, b154_75, pz_k0, pz_k1, pz_k2, pz_k3, pz_k4, pz_k5, pz_k6, pz_k7, pz_k8, pz_k9, pz_k10, pz_k16, pz_k31, pz_k63, pz_km, nI_add, pz_mul, nI_ltI, nI_eq, nI_clamp, pz_inI, Option.bind_some, Option.toList_some, Option.toList_none, List.cons_append, List.nil_append, Nat.zero_add, Nat.mul_zero, Nat.add_zero, Nat.lt_irrefl, pz_bb, pz_bTr, Bool.false_eq_true, pz_bFa, Nat.reduceEqDiff, Nat.reduceLT, ite_not, pz_mE, pz_mE2, pz_mL, pz_mG, not_true_eq_false, not_false_eq_true, if_true, if_false, reduceIte, eq_self, true_or, or_true, or_false, false_or, and_true, true_and, and_false, false_and]
          · rw [Nat.min_eq_left (by omega)]
            simp (disch := omega) only [hp6, b154_28, show 6 * p + v < 36 by omega, hz, pz_fe1 hz0, b154_40, hgp, b154_51, show (1048576 : Int32) = nI 1048576 from rfl, hG, b154_56, Nat.not_lt_zero, b154_61, hlt, b154_73, b154_75, pz_k0, pz_k1, pz_k2, pz_k3, pz_k4, pz_k5, pz_k6, pz_k7, pz_k8, pz_k9, pz_k10, pz_k16, pz_k31, pz_k63, pz_km, nI_add, pz_mul, nI_ltI, nI_eq, nI_clamp, pz_inI, Option.bind_some, Option.toList_some, Option.toList_none, List.cons_append, List.nil_append, Nat.zero_add, Nat.mul_zero, Nat.add_zero, Nat.lt_irrefl, pz_bb, pz_bTr, Bool.false_eq_true, pz_bFa, Nat.reduceEqDiff, Nat.reduceLT, ite_not, pz_mE, pz_mE2, pz_mL, pz_mG, not_true_eq_false, not_false_eq_true, if_true, if_false, reduceIte, eq_self, true_or, or_true, or_false, false_or, and_true, true_and, and_false, false_and]
      · have hG : ¬ pz_G A st p0 p < 1048576 := fun z => hT (hg1.mp z)
        rw [if_neg (fun z => hT z.1), b154_21]
        refine ⟨some (.inl (nI (A 13 p v) - nI 1)), ?_⟩
        simp (disch := omega) only [hp6, b154_28, show 6 * p + v < 36 by omega, hz, b154_40, hgp, b154_51, show (1048576 : Int32) = nI 1048576 from rfl, hG, b154_73, b154_75, pz_k0, pz_k1, pz_k2, pz_k3, pz_k4, pz_k5, pz_k6, pz_k7, pz_k8, pz_k9, pz_k10, pz_k16, pz_k31, pz_k63, pz_km, nI_add, pz_mul, nI_ltI, nI_eq, nI_clamp, pz_inI, Option.bind_some, Option.toList_some, Option.toList_none, List.cons_append, List.nil_append, Nat.zero_add, Nat.mul_zero, Nat.add_zero, Nat.lt_irrefl, pz_bb, pz_bTr, Bool.false_eq_true, pz_bFa, Nat.reduceEqDiff, Nat.reduceLT, ite_not, pz_mE, pz_mE2, pz_mL, pz_mG, not_true_eq_false, not_false_eq_true, if_true, if_false, reduceIte, eq_self, true_or, or_true, or_false, false_or, and_true, true_and, and_false, false_and]
/-- cheapestNow -/
theorem sM155 {pl w : Nat} (hA : pz_wf ck A) (hM : pz_M A I) (hs : s < A 6 0 0) (hpl : pl < 6) (hw : w ≤ 1) : ∃ I', mm_ev 155 0 [some (.inr (.inr (9, 0))), some (.inl (nI s)), some (.inl (nI pl)), some (.inl (nI w)), none, none, none] [] (ids, I, L, mm_RM) = some (some (.inl (pz_cf (pz_sC A (A 7 s 0) pl (A 8 s 0) (A 12 s 0) (64 - A 8 s 0)) w)), (ids, I', L, mm_RM)) ∧ pz_fr I I' := by
  obtain ⟨a7, a8, a9, -, -, -, a12, -⟩ := hA.2.2.2.2.1 s hs
  have h5 := hA.2.2.2.1
  have hs5 : s < 5 := by omega
  have hM0 := fun k => pz_M0s (pz_M_fr (pz_w_fr (n := k) (D := pz_i0 (A 8 s 0) 1048576) (show pz_sc 138 = true from rfl)) hM) hs
  have hfill := pz_loop (fun k => mm_ev 155 3 [some (.inr (.inr (9, 0))), some (.inl (nI s)), some (.inl (nI pl)), some (.inl (nI w)), some (.inl (nI k)), none, none] [] (ids, pz_w I 138 k (pz_i0 (A 8 s 0) 1048576), L, mm_RM)) 64 (fun k hk => ?_)
  · rw [pz_w_0] at hfill
    obtain ⟨sT, hsT⟩ : ∃ sT, sT = pz_sM A (A 7 s 0) pl (A 8 s 0) := ⟨_, rfl⟩
    have hl := pz_loopP (fun m (j : mm_HI) => mm_ev 155 50 [some (.inr (.inr (9, 0))), some (.inl (nI s)), some (.inl (nI pl)), some (.inl (nI w)), some (.inl (pz_oI (sT m).2.2)), some (.inl (nI (sT m).2.1)), some (.inl (nI m))] [] (ids, j, L, mm_RM)) (fun m j => pz_fr I j ∧ (∀ x, x < 64 → j 138 0 x = nI ((sT m).1 x)) ∧ (∀ x, (sT m).1 x ≤ 1048576) ∧ (sT m).2.1 ≤ 1048576 ∧ ∀ d, (sT m).2.2 = some d → d < 64) 64 (fun m j hm hj => ?_) (pz_w I 138 64 (pz_i0 (A 8 s 0) 1048576)) ⟨pz_w_fr rfl, fun x hx => by rw [hsT]; exact pz_w_r hx, fun x => by rw [hsT]; exact pz_i0_le, by rw [hsT]; exact Nat.le_refl _, fun d hd => by rw [hsT] at hd; cases hd⟩
    · obtain ⟨j, hj, f1, -, -, hL2, hd2⟩ := hl
      refine ⟨j, ?_, f1⟩
      have h0 : sT 0 = (pz_i0 (A 8 s 0) 1048576, 1048576, none) := by rw [hsT]; rfl
      rw [h0] at hj
      rw [b155_0]
      refine Eq.trans hfill ?_
      rw [b155_3, show (64 : Int32) = nI 64 from rfl, if_neg (nI_nlt (Nat.le_refl 64) (by decide)), b155_40]
      refine Eq.trans hj ?_
      rw [b155_50]
      simp (disch := omega) only [show (64 : Int32) = nI 64 from rfl, pz_k0, pz_k1, pz_k2, pz_k3, pz_k4, pz_k5, pz_k6, pz_k7, pz_k8, pz_k9, pz_k10, pz_k16, pz_k31, pz_k63, pz_km, nI_add, pz_mul, nI_ltI, nI_eq, nI_clamp, pz_inI, Option.bind_some, Option.toList_some, Option.toList_none, List.cons_append, List.nil_append, Nat.zero_add, Nat.mul_zero, Nat.add_zero, Nat.lt_irrefl, pz_bb, pz_bTr, Bool.false_eq_true, pz_bFa, Nat.reduceEqDiff, Nat.reduceLT, ite_not, pz_mE, pz_mE2, pz_mL, pz_mG, not_true_eq_false, not_false_eq_true, if_true, if_false, reduceIte, eq_self, true_or, or_true, or_false, false_or, and_true, true_and, and_false, false_and]
      have c12 := (pz_M0s (pz_M_fr f1 hM) hs).2.2.2.2.2.1
      have hrl := pz_rlt_all (p0 := A 7 s 0) (pl := pl) (K := A 8 s 0) hA a12 (64 - A 8 s 0)
      rw [show A 8 s 0 + (64 - A 8 s 0) = 64 by omega, ← hsT] at hrl
      obtain ⟨r1, r2, r3, -⟩ := hrl
      rw [b155_132]
      by_cases hle : (sT 64).2.1 ≤ A 12 s 0
      · obtain ⟨d, d1, d2⟩ := r2 hle
        have hd64 := hd2 d d2
        have hL' : (pz_sC A (A 7 s 0) pl (A 8 s 0) (A 12 s 0) (64 - A 8 s 0)).2.1 = (sT 64).2.1 := by omega
        unfold pz_cf
        rw [d1, d2, hL']
        by_cases hw0 : w = 0
        · simp (disch := omega) only [show pz_oI (some d) = nI d from rfl, b155_138, hs5, c12, b155_146, show ¬ A 12 s 0 < (sT 64).2.1 by omega, b155_151, hw0, b155_155, b155_162, pz_k0, pz_k1, pz_k2, pz_k3, pz_k4, pz_k5, pz_k6, pz_k7, pz_k8, pz_k9, pz_k10, pz_k16, pz_k31, pz_k63, pz_km, nI_add, pz_mul, nI_ltI, nI_eq, nI_clamp, pz_inI, Option.bind_some, Option.toList_some, Option.toList_none, List.cons_append, List.nil_append, Nat.zero_add, Nat.mul_zero, Nat.add_zero, Nat.lt_irrefl, pz_bb, pz_bTr, Bool.false_eq_true, pz_bFa, Nat.reduceEqDiff, Nat.reduceLT, ite_not, pz_mE, pz_mE2, pz_mL, pz_mG, not_true_eq_false, not_false_eq_true, if_true, if_false, reduceIte, eq_self, true_or, or_true, or_false, false_or, and_true, true_and, and_false, false_and]
        · simp (disch := omega) only [show pz_oI (some d) = nI d from rfl, b155_138, hs5, c12, b155_146, show ¬ A 12 s 0 < (sT 64).2.1 by omega, b155_151, hw0, b155_160, b155_162, pz_k0, pz_k1, pz_k2, pz_k3, pz_k4, pz_k5, pz_k6, pz_k7, pz_k8, pz_k9, pz_k10, pz_k16, pz_k31, pz_k63, pz_km, nI_add, pz_mul, nI_ltI, nI_eq, nI_clamp, pz_inI, Option.bind_some, Option.toList_some, Option.toList_none, List.cons_append, List.nil_append, Nat.zero_add, Nat.mul_zero, Nat.add_zero, Nat.lt_irrefl, pz_bb, pz_bTr, Bool.false_eq_true, pz_bFa, Nat.reduceEqDiff, Nat.reduceLT, ite_not, pz_mE, pz_mE2, pz_mL, pz_mG, not_true_eq_false, not_false_eq_true, if_true, if_false, reduceIte, eq_self, true_or, or_true, or_false, false_or, and_true, true_and, and_false, false_and]
      · unfold pz_cf
        rw [r3 (by omega)]
        cases hb : (sT 64).2.2 with
        | none => simp (disch := omega) only [show pz_oI none = pz_m from rfl, b155_149, pz_k0, pz_k1, pz_k2, pz_k3, pz_k4, pz_k5, pz_k6, pz_k7, pz_k8, pz_k9, pz_k10, pz_k16, pz_k31, pz_k63, pz_km, nI_add, pz_mul, nI_ltI, nI_eq, nI_clamp, pz_inI, Option.bind_some, Option.toList_some, Option.toList_none, List.cons_append, List.nil_append, Nat.zero_add, Nat.mul_zero, Nat.add_zero, Nat.lt_irrefl, pz_bb, pz_bTr, Bool.false_eq_true, pz_bFa, Nat.reduceEqDiff, Nat.reduceLT, ite_not, pz_mE, pz_mE2, pz_mL, pz_mG, not_true_eq_false, not_false_eq_true, if_true, if_false, reduceIte, eq_self, true_or, or_true, or_false, false_or, and_true, true_and, and_false, false_and]
        | some d =>
          have hd64 := hd2 d hb
          simp (disch := omega) only [show pz_oI (some d) = nI d from rfl, b155_138, hs5, c12, b155_146, show A 12 s 0 < (sT 64).2.1 by omega, b155_149, pz_k0, pz_k1, pz_k2, pz_k3, pz_k4, pz_k5, pz_k6, pz_k7, pz_k8, pz_k9, pz_k10, pz_k16, pz_k31, pz_k63, pz_km, nI_add, pz_mul, nI_ltI, nI_eq, nI_clamp, pz_inI, Option.bind_some, Option.toList_some, Option.toList_none, List.cons_append, List.nil_append, Nat.zero_add, Nat.mul_zero, Nat.add_zero, Nat.lt_irrefl, pz_bb, pz_bTr, Bool.false_eq_true, pz_bFa, Nat.reduceEqDiff, Nat.reduceLT, ite_not, pz_mE, pz_mE2, pz_mL, pz_mG, not_true_eq_false, not_false_eq_true, if_true, if_false, reduceIte, eq_self, true_or, or_true, or_false, false_or, and_true, true_and, and_false, false_and]
    · obtain ⟨j1, j2, j3, j4, j5⟩ := hj
      try dsimp only
      have hM' := pz_M_fr j1 hM
      obtain ⟨d7, d8, -⟩ := pz_M0s hM' hs
      have e1 := j2 m hm
      have hFs := j3 m
      have hss : sT (m + 1) = pz_s1 A (A 7 s 0) pl (A 8 s 0) 1048576 1048576 (sT m) m := by rw [hsT]; rfl
      rw [hss]
      unfold pz_s1
      by_cases hlt : (sT m).1 m < 1048576
      · rw [if_pos hlt]
        obtain ⟨I5, g1, g2, g3, g4⟩ := sM154 (ids := ids) (L := L) hA hM' a7 hm j3 j2
        have f5 : pz_fr I I5 := pz_frT j1 (pz_fr_ne2 rfl rfl g2)
        have k8 := (pz_M0s (pz_M_fr f5 hM) hs).2.1
        have g3p := g3 pl hpl
        have g4m := g4 m hm
        rw [pz_lm_set] at g4m
        obtain ⟨hg1, hg2⟩ := pz_G_lt (v := m) hA a7 (x := pl)
        have hgo : mm_ev 155 50 [some (.inr (.inr (9, 0))), some (.inl (nI s)), some (.inl (nI pl)), some (.inl (nI w)), some (.inl (pz_oI (sT m).2.2)), some (.inl (nI (sT m).2.1)), some (.inl (nI m))] [] (ids, j, L, mm_RM) = mm_ev 155 81 [some (.inr (.inr (9, 0))), some (.inl (nI s)), some (.inl (nI pl)), some (.inl (nI w)), some (.inl (pz_oI (sT m).2.2)), some (.inl (nI (sT m).2.1)), some (.inl (nI m))] [] (ids, I5, L, mm_RM) := by
          rw [b155_50]
          simp (disch := omega) only [show (64 : Int32) = nI 64 from rfl, hm, b155_57, e1, b155_64, show (1048576 : Int32) = nI 1048576 from rfl, hlt, b155_69, hs5, d7, b155_76, g1, pz_k0, pz_k1, pz_k2, pz_k3, pz_k4, pz_k5, pz_k6, pz_k7, pz_k8, pz_k9, pz_k10, pz_k16, pz_k31, pz_k63, pz_km, nI_add, pz_mul, nI_ltI, nI_eq, nI_clamp, pz_inI, Option.bind_some, Option.toList_some, Option.toList_none, List.cons_append, List.nil_append, Nat.zero_add, Nat.mul_zero, Nat.add_zero, Nat.lt_irrefl, pz_bb, pz_bTr, Bool.false_eq_true, pz_bFa, Nat.reduceEqDiff, Nat.reduceLT, ite_not, pz_mE, pz_mE2, pz_mL, pz_mG, not_true_eq_false, not_false_eq_true, if_true, if_false, reduceIte, eq_self, true_or, or_true, or_false, false_or, and_true, true_and, and_false, false_and]
        by_cases hT : pz_T A m (A 7 s 0) pl < 10000
        · have hG := hg1.mpr hT
          by_cases hlt2 : (sT m).1 m < (sT m).2.1
          · rw [if_pos ⟨hT, hlt2⟩, hgo, b155_81]
            refine ⟨I5, ?_, f5, g4, pz_lm_le j3 6, hFs, fun d hd => ?_⟩
            · simp (disch := omega) only [hpl, g3p, b155_87, show (1048576 : Int32) = nI 1048576 from rfl, hG, b155_92, hm, g4m, b155_99, hlt2, b155_104, b155_111, hs5, k8, b155_121, pz_dfl hm a8, b155_126, pz_k0, pz_k1, pz_k2, pz_k3, pz_k4, pz_k5, pz_k6, pz_k7, pz_k8, pz_k9, pz_k10, pz_k16, pz_k31, pz_k63, pz_km, nI_add, pz_mul, nI_ltI, nI_eq, nI_clamp, pz_inI, Option.bind_some, Option.toList_some, Option.toList_none, List.cons_append, List.nil_append, Nat.zero_add, Nat.mul_zero, Nat.add_zero, Nat.lt_irrefl, pz_bb, pz_bTr, Bool.false_eq_true, pz_bFa, Nat.reduceEqDiff, Nat.reduceLT, ite_not, pz_mE, pz_mE2, pz_mL, pz_mG, not_true_eq_false, not_false_eq_true, if_true, if_false, reduceIte, eq_self, true_or, or_true, or_false, false_or, and_true, true_and, and_false, false_and]
              rfl
            · cases hd
              exact (pz_dfl0 m hm _ a8).2
          · rw [if_neg (fun z => hlt2 z.2), hgo, b155_81]
            refine ⟨I5, ?_, f5, g4, pz_lm_le j3 6, j4, j5⟩
            simp (disch := omega) only [hpl, g3p, b155_87, show (1048576 : Int32) = nI 1048576 from rfl, hG, b155_92, hm, g4m, b155_99, hlt2, b155_126, pz_k0, pz_k1, pz_k2, pz_k3, pz_k4, pz_k5, pz_k6, pz_k7, pz_k8, pz_k9, pz_k10, pz_k16, pz_k31, pz_k63, pz_km, nI_add, pz_mul, nI_ltI, nI_eq, nI_clamp, pz_inI, Option.bind_some, Option.toList_some, Option.toList_none, List.cons_append, List.nil_append, Nat.zero_add, Nat.mul_zero, Nat.add_zero, Nat.lt_irrefl, pz_bb, pz_bTr, Bool.false_eq_true, pz_bFa, Nat.reduceEqDiff, Nat.reduceLT, ite_not, pz_mE, pz_mE2, pz_mL, pz_mG, not_true_eq_false, not_false_eq_true, if_true, if_false, reduceIte, eq_self, true_or, or_true, or_false, false_or, and_true, true_and, and_false, false_and]
        · have hG : ¬ pz_G A m (A 7 s 0) pl < 1048576 := fun z => hT (hg1.mp z)
          rw [if_neg (fun z => hT z.1), hgo, b155_81]
          refine ⟨I5, ?_, f5, g4, pz_lm_le j3 6, j4, j5⟩
          simp (disch := omega) only [hpl, g3p, b155_87, show (1048576 : Int32) = nI 1048576 from rfl, hG, b155_126, pz_k0, pz_k1, pz_k2, pz_k3, pz_k4, pz_k5, pz_k6, pz_k7, pz_k8, pz_k9, pz_k10, pz_k16, pz_k31, pz_k63, pz_km, nI_add, pz_mul, nI_ltI, nI_eq, nI_clamp, pz_inI, Option.bind_some, Option.toList_some, Option.toList_none, List.cons_append, List.nil_append, Nat.zero_add, Nat.mul_zero, Nat.add_zero, Nat.lt_irrefl, pz_bb, pz_bTr, Bool.false_eq_true, pz_bFa, Nat.reduceEqDiff, Nat.reduceLT, ite_not, pz_mE, pz_mE2, pz_mL, pz_mG, not_true_eq_false, not_false_eq_true, if_true, if_false, reduceIte, eq_self, true_or, or_true, or_false, false_or, and_true, true_and, and_false, false_and]
      · rw [if_neg hlt]
        refine ⟨j, ?_, j1, j2, j3, j4, j5⟩
        rw [b155_50]
        simp (disch := omega) only [show (64 : Int32) = nI 64 from rfl, hm, b155_57, e1, b155_64, show (1048576 : Int32) = nI 1048576 from rfl, hlt, b155_126, pz_k0, pz_k1, pz_k2, pz_k3, pz_k4, pz_k5, pz_k6, pz_k7, pz_k8, pz_k9, pz_k10, pz_k16, pz_k31, pz_k63, pz_km, nI_add, pz_mul, nI_ltI, nI_eq, nI_clamp, pz_inI, Option.bind_some, Option.toList_some, Option.toList_none, List.cons_append, List.nil_append, Nat.zero_add, Nat.mul_zero, Nat.add_zero, Nat.lt_irrefl, pz_bb, pz_bTr, Bool.false_eq_true, pz_bFa, Nat.reduceEqDiff, Nat.reduceLT, ite_not, pz_mE, pz_mE2, pz_mL, pz_mG, not_true_eq_false, not_false_eq_true, if_true, if_false, reduceIte, eq_self, true_or, or_true, or_false, false_or, and_true, true_and, and_false, false_and]
  · try dsimp only
    have c8 := (hM0 k).2.1
    rw [b155_3, ← pz_w_g]
    unfold pz_i0
    by_cases h : k = A 8 s 0
    · rw [if_pos h]
      simp (disch := omega) only [show (64 : Int32) = nI 64 from rfl, hk, b155_10, hs5, pz_k0, pz_k1, pz_k2, pz_k3, pz_k4, pz_k5, pz_k6, pz_k7, pz_k8, pz_k9, pz_k10, pz_k16, pz_k31, pz_k63, pz_km, nI_add, pz_mul, nI_ltI, nI_eq, nI_clamp, pz_inI, Option.bind_some, Option.toList_some, Option.toList_none, List.cons_append, List.nil_append, Nat.zero_add, Nat.mul_zero, Nat.add_zero, Nat.lt_irrefl, pz_bb, pz_bTr, Bool.false_eq_true, pz_bFa, Nat.reduceEqDiff, Nat.reduceLT, ite_not, pz_mE, pz_mE2, pz_mL, pz_mG, not_true_eq_false, not_false_eq_true, if_true, if_false, reduceIte, eq_self, true_or, or_true, or_false, false_or, and_true, true_and, and_false, false_and]
      rw [show (pz_w I 138 k fun z => if z = A 8 s 0 then 0 else 1048576) = pz_w I 138 k (pz_i0 (A 8 s 0) 1048576) from rfl, c8, b155_24]
      simp (disch := omega) only [h, b155_27, b155_33, a8, b155_34, pz_k0, pz_k1, pz_k2, pz_k3, pz_k4, pz_k5, pz_k6, pz_k7, pz_k8, pz_k9, pz_k10, pz_k16, pz_k31, pz_k63, pz_km, nI_add, pz_mul, nI_ltI, nI_eq, nI_clamp, pz_inI, Option.bind_some, Option.toList_some, Option.toList_none, List.cons_append, List.nil_append, Nat.zero_add, Nat.mul_zero, Nat.add_zero, Nat.lt_irrefl, pz_bb, pz_bTr, Bool.false_eq_true, pz_bFa, Nat.reduceEqDiff, Nat.reduceLT, ite_not, pz_mE, pz_mE2, pz_mL, pz_mG, not_true_eq_false, not_false_eq_true, if_true, if_false, reduceIte, eq_self, true_or, or_true, or_false, false_or, and_true, true_and, and_false, false_and]
    · rw [if_neg h]
      simp (disch := omega) only [show (64 : Int32) = nI 64 from rfl, hk, b155_10, hs5, pz_k0, pz_k1, pz_k2, pz_k3, pz_k4, pz_k5, pz_k6, pz_k7, pz_k8, pz_k9, pz_k10, pz_k16, pz_k31, pz_k63, pz_km, nI_add, pz_mul, nI_ltI, nI_eq, nI_clamp, pz_inI, Option.bind_some, Option.toList_some, Option.toList_none, List.cons_append, List.nil_append, Nat.zero_add, Nat.mul_zero, Nat.add_zero, Nat.lt_irrefl, pz_bb, pz_bTr, Bool.false_eq_true, pz_bFa, Nat.reduceEqDiff, Nat.reduceLT, ite_not, pz_mE, pz_mE2, pz_mL, pz_mG, not_true_eq_false, not_false_eq_true, if_true, if_false, reduceIte, eq_self, true_or, or_true, or_false, false_or, and_true, true_and, and_false, false_and]
      rw [show (pz_w I 138 k fun z => if z = A 8 s 0 then 0 else 1048576) = pz_w I 138 k (pz_i0 (A 8 s 0) 1048576) from rfl, c8, b155_24]
      simp (disch := omega) only [h, b155_31, show (1048576 : Int32) = nI 1048576 from rfl, b155_33, hk, b155_34, pz_k0, pz_k1, pz_k2, pz_k3, pz_k4, pz_k5, pz_k6, pz_k7, pz_k8, pz_k9, pz_k10, pz_k16, pz_k31, pz_k63, pz_km, nI_add, pz_mul, nI_ltI, nI_eq, nI_clamp, pz_inI, Option.bind_some, Option.toList_some, Option.toList_none, List.cons_append, List.nil_append, Nat.zero_add, Nat.mul_zero, Nat.add_zero, Nat.lt_irrefl, pz_bb, pz_bTr, Bool.false_eq_true, pz_bFa, Nat.reduceEqDiff, Nat.reduceLT, ite_not, pz_mE, pz_mE2, pz_mL, pz_mG, not_true_eq_false, not_false_eq_true, if_true, if_false, reduceIte, eq_self, true_or, or_true, or_false, false_or, and_true, true_and, and_false, false_and]
theorem op19 (h : pz_Q k ck n g f A κ I J) (x y z : Int32) : lw_two (pz_R (k + 1)) 19 156 [.inl x, .inl y, .inl z] (mm_idC, I, LC, mm_RS κ) (mm_idM, J, LM, mm_RM) := by
  obtain ⟨-, -, -, hA, hC, hM, -⟩ := id h
  have h5 := hA.2.2.2.1
  by_cases hx : pz_rg x (A 6 0 0)
  · by_cases hy : pz_rg y 6
    · have hx' := hx
      have hy' := hy
      obtain ⟨s, hs, rfl⟩ := hx
      obtain ⟨p, hp, rfl⟩ := hy
      by_cases hz : ¬ z < nI 0 ∧ ¬ nI 1 < z
      · have hz' := hz
        obtain ⟨w, hw, rfl⟩ := pz_win (by decide) hz
        obtain ⟨I', c1, c2, c3, c4⟩ := sC100 (ids := mm_idC) (L := LC) hA hC hs hp
        obtain ⟨J', m1, m2⟩ := sM155 (ids := mm_idM) (L := LM) (w := w) hA hM hs hp hw
        refine pz_two (laC := [some (.inr (.inr (1, 0))), some (.inl _), some (.inl _), some (.inl _)]) (laM := [some (.inr (.inr (9, 0))), some (.inl _), some (.inl _), some (.inl _)]) (by rw [show mm_mL 19 = 4 from by decide +kernel]; rfl) (by rw [show mm_mL 156 = 4 from by decide +kernel]; rfl) (r :=  pz_cf (pz_sC A (A 7 s 0) p (A 8 s 0) (A 12 s 0) (64 - A 8 s 0)) w) (hC' := (mm_idC, I', LC, mm_RS κ)) (hM' := (mm_idM, J', LM, mm_RM)) ?_ ?_ (pz_rdo h c2 m2)
        · rw [b19_0]
          by_cases w0 : w = 0
          · subst w0
            simp (disch := omega) only [sC63 (by omega) hC.2.2.1, pz_bT hx', b19_8, b19_11, sC34, pz_bT hy', b19_15, b19_21, b19_25, b19_33, show s < 5 by omega, b19_46, c1, b19_50, b19_54, c3, b19_71, pz_k0, pz_k1, pz_k2, pz_k3, pz_k4, pz_k5, pz_k6, pz_k7, pz_k8, pz_k9, pz_k10, pz_k16, pz_k31, pz_k63, pz_km, nI_add, pz_mul, nI_ltI, nI_eq, nI_clamp, pz_inI, Option.bind_some, Option.toList_some, Option.toList_none, List.cons_append, List.nil_append, Nat.zero_add, Nat.mul_zero, Nat.add_zero, Nat.lt_irrefl, pz_bb, pz_bTr, Bool.false_eq_true, pz_bFa, Nat.reduceEqDiff, Nat.reduceLT, ite_not, pz_mE, pz_mE2, pz_mL, pz_mG, not_true_eq_false, not_false_eq_true, if_true, if_false, reduceIte, eq_self, true_or, or_true, or_false, false_or, and_true, true_and, and_false, false_and]
          · have w1 : w = 1 := by omega
            subst w1
            simp (disch := omega) only [sC63 (by omega) hC.2.2.1, pz_bT hx', b19_8, b19_11, sC34, pz_bT hy', b19_15, b19_21, b19_25, b19_33, show s < 5 by omega, b19_46, c1, b19_50, b19_64, c4, b19_71, pz_k0, pz_k1, pz_k2, pz_k3, pz_k4, pz_k5, pz_k6, pz_k7, pz_k8, pz_k9, pz_k10, pz_k16, pz_k31, pz_k63, pz_km, nI_add, pz_mul, nI_ltI, nI_eq, nI_clamp, pz_inI, Option.bind_some, Option.toList_some, Option.toList_none, List.cons_append, List.nil_append, Nat.zero_add, Nat.mul_zero, Nat.add_zero, Nat.lt_irrefl, pz_bb, pz_bTr, Bool.false_eq_true, pz_bFa, Nat.reduceEqDiff, Nat.reduceLT, ite_not, pz_mE, pz_mE2, pz_mL, pz_mG, not_true_eq_false, not_false_eq_true, if_true, if_false, reduceIte, eq_self, true_or, or_true, or_false, false_or, and_true, true_and, and_false, false_and]
        · rw [b156_0]
          simp (disch := omega) only [sM134 hA hM, pz_bT hx', b156_5, b156_8, sM132, pz_bT hy', b156_12, b156_18, sM113T hz', b156_24, b156_27, m1, b156_34, b156_39, pz_k0, pz_k1, pz_k2, pz_k3, pz_k4, pz_k5, pz_k6, pz_k7, pz_k8, pz_k9, pz_k10, pz_k16, pz_k31, pz_k63, pz_km, nI_add, pz_mul, nI_ltI, nI_eq, nI_clamp, pz_inI, Option.bind_some, Option.toList_some, Option.toList_none, List.cons_append, List.nil_append, Nat.zero_add, Nat.mul_zero, Nat.add_zero, Nat.lt_irrefl, pz_bb, pz_bTr, Bool.false_eq_true, pz_bFa, Nat.reduceEqDiff, Nat.reduceLT, ite_not, pz_mE, pz_mE2, pz_mL, pz_mG, not_true_eq_false, not_false_eq_true, if_true, if_false, reduceIte, eq_self, true_or, or_true, or_false, false_or, and_true, true_and, and_false, false_and]
      · refine pz_two (laC := [some (.inr (.inr (1, 0))), some (.inl _), some (.inl _), some (.inl _)]) (laM := [some (.inr (.inr (9, 0))), some (.inl _), some (.inl _), some (.inl _)]) (by rw [show mm_mL 19 = 4 from by decide +kernel]; rfl) (by rw [show mm_mL 156 = 4 from by decide +kernel]; rfl) (r :=  -102) ?_ ?_ (pz_rd0 (LC' := LC) (LM' := LM) h)
        · rw [b19_0]
          by_cases h1 : z < nI 0
          · simp (disch := omega) only [sC63 (by omega) hC.2.2.1, pz_bT hx', b19_8, b19_11, sC34, pz_bT hy', b19_15, b19_21, h1, b19_30, pz_k0, pz_k1, pz_k2, pz_k3, pz_k4, pz_k5, pz_k6, pz_k7, pz_k8, pz_k9, pz_k10, pz_k16, pz_k31, pz_k63, pz_km, nI_add, pz_mul, nI_ltI, nI_eq, nI_clamp, pz_inI, Option.bind_some, Option.toList_some, Option.toList_none, List.cons_append, List.nil_append, Nat.zero_add, Nat.mul_zero, Nat.add_zero, Nat.lt_irrefl, pz_bb, pz_bTr, Bool.false_eq_true, pz_bFa, Nat.reduceEqDiff, Nat.reduceLT, ite_not, pz_mE, pz_mE2, pz_mL, pz_mG, not_true_eq_false, not_false_eq_true, if_true, if_false, reduceIte, eq_self, true_or, or_true, or_false, false_or, and_true, true_and, and_false, false_and]
          · have h2 : nI 1 < z := by
              refine Classical.byContradiction (fun q => hz ⟨h1, q⟩)
            simp (disch := omega) only [sC63 (by omega) hC.2.2.1, pz_bT hx', b19_8, b19_11, sC34, pz_bT hy', b19_15, b19_21, h1, b19_25, h2, b19_30, pz_k0, pz_k1, pz_k2, pz_k3, pz_k4, pz_k5, pz_k6, pz_k7, pz_k8, pz_k9, pz_k10, pz_k16, pz_k31, pz_k63, pz_km, nI_add, pz_mul, nI_ltI, nI_eq, nI_clamp, pz_inI, Option.bind_some, Option.toList_some, Option.toList_none, List.cons_append, List.nil_append, Nat.zero_add, Nat.mul_zero, Nat.add_zero, Nat.lt_irrefl, pz_bb, pz_bTr, Bool.false_eq_true, pz_bFa, Nat.reduceEqDiff, Nat.reduceLT, ite_not, pz_mE, pz_mE2, pz_mL, pz_mG, not_true_eq_false, not_false_eq_true, if_true, if_false, reduceIte, eq_self, true_or, or_true, or_false, false_or, and_true, true_and, and_false, false_and]
        · rw [b156_0]
          simp (disch := omega) only [sM134 hA hM, pz_bT hx', b156_5, b156_8, sM132, pz_bT hy', b156_12, b156_18, sM113F hz, b156_24, b156_37, b156_39, pz_k0, pz_k1, pz_k2, pz_k3, pz_k4, pz_k5, pz_k6, pz_k7, pz_k8, pz_k9, pz_k10, pz_k16, pz_k31, pz_k63, pz_km, nI_add, pz_mul, nI_ltI, nI_eq, nI_clamp, pz_inI, Option.bind_some, Option.toList_some, Option.toList_none, List.cons_append, List.nil_append, Nat.zero_add, Nat.mul_zero, Nat.add_zero, Nat.lt_irrefl, pz_bb, pz_bTr, Bool.false_eq_true, pz_bFa, Nat.reduceEqDiff, Nat.reduceLT, ite_not, pz_mE, pz_mE2, pz_mL, pz_mG, not_true_eq_false, not_false_eq_true, if_true, if_false, reduceIte, eq_self, true_or, or_true, or_false, false_or, and_true, true_and, and_false, false_and]
    · refine pz_two (laC := [some (.inr (.inr (1, 0))), some (.inl _), some (.inl _), some (.inl _)]) (laM := [some (.inr (.inr (9, 0))), some (.inl _), some (.inl _), some (.inl _)]) (by rw [show mm_mL 19 = 4 from by decide +kernel]; rfl) (by rw [show mm_mL 156 = 4 from by decide +kernel]; rfl) (r :=  -101) ?_ ?_ (pz_rd0 (LC' := LC) (LM' := LM) h)
      · rw [b19_0]
        simp (disch := omega) only [sC63 (by omega) hC.2.2.1, pz_bT hx, b19_8, b19_11, sC34, pz_bF hy, b19_15, b19_18, pz_k0, pz_k1, pz_k2, pz_k3, pz_k4, pz_k5, pz_k6, pz_k7, pz_k8, pz_k9, pz_k10, pz_k16, pz_k31, pz_k63, pz_km, nI_add, pz_mul, nI_ltI, nI_eq, nI_clamp, pz_inI, Option.bind_some, Option.toList_some, Option.toList_none, List.cons_append, List.nil_append, Nat.zero_add, Nat.mul_zero, Nat.add_zero, Nat.lt_irrefl, pz_bb, pz_bTr, Bool.false_eq_true, pz_bFa, Nat.reduceEqDiff, Nat.reduceLT, ite_not, pz_mE, pz_mE2, pz_mL, pz_mG, not_true_eq_false, not_false_eq_true, if_true, if_false, reduceIte, eq_self, true_or, or_true, or_false, false_or, and_true, true_and, and_false, false_and]
      · rw [b156_0]
        simp (disch := omega) only [sM134 hA hM, pz_bT hx, b156_5, b156_8, sM132, pz_bF hy, b156_12, b156_15, pz_k0, pz_k1, pz_k2, pz_k3, pz_k4, pz_k5, pz_k6, pz_k7, pz_k8, pz_k9, pz_k10, pz_k16, pz_k31, pz_k63, pz_km, nI_add, pz_mul, nI_ltI, nI_eq, nI_clamp, pz_inI, Option.bind_some, Option.toList_some, Option.toList_none, List.cons_append, List.nil_append, Nat.zero_add, Nat.mul_zero, Nat.add_zero, Nat.lt_irrefl, pz_bb, pz_bTr, Bool.false_eq_true, pz_bFa, Nat.reduceEqDiff, Nat.reduceLT, ite_not, pz_mE, pz_mE2, pz_mL, pz_mG, not_true_eq_false, not_false_eq_true, if_true, if_false, reduceIte, eq_self, true_or, or_true, or_false, false_or, and_true, true_and, and_false, false_and]
  · refine pz_two (laC := [some (.inr (.inr (1, 0))), some (.inl _), some (.inl _), some (.inl _)]) (laM := [some (.inr (.inr (9, 0))), some (.inl _), some (.inl _), some (.inl _)]) (by rw [show mm_mL 19 = 4 from by decide +kernel]; rfl) (by rw [show mm_mL 156 = 4 from by decide +kernel]; rfl) (r :=  -101) ?_ ?_ (pz_rd0 (LC' := LC) (LM' := LM) h)
    · rw [b19_0]
      simp (disch := omega) only [sC63 (by omega) hC.2.2.1, pz_bF hx, b19_8, b19_18, pz_k0, pz_k1, pz_k2, pz_k3, pz_k4, pz_k5, pz_k6, pz_k7, pz_k8, pz_k9, pz_k10, pz_k16, pz_k31, pz_k63, pz_km, nI_add, pz_mul, nI_ltI, nI_eq, nI_clamp, pz_inI, Option.bind_some, Option.toList_some, Option.toList_none, List.cons_append, List.nil_append, Nat.zero_add, Nat.mul_zero, Nat.add_zero, Nat.lt_irrefl, pz_bb, pz_bTr, Bool.false_eq_true, pz_bFa, Nat.reduceEqDiff, Nat.reduceLT, ite_not, pz_mE, pz_mE2, pz_mL, pz_mG, not_true_eq_false, not_false_eq_true, if_true, if_false, reduceIte, eq_self, true_or, or_true, or_false, false_or, and_true, true_and, and_false, false_and]
    · rw [b156_0]
      simp (disch := omega) only [sM134 hA hM, pz_bF hx, b156_5, b156_15, pz_k0, pz_k1, pz_k2, pz_k3, pz_k4, pz_k5, pz_k6, pz_k7, pz_k8, pz_k9, pz_k10, pz_k16, pz_k31, pz_k63, pz_km, nI_add, pz_mul, nI_ltI, nI_eq, nI_clamp, pz_inI, Option.bind_some, Option.toList_some, Option.toList_none, List.cons_append, List.nil_append, Nat.zero_add, Nat.mul_zero, Nat.add_zero, Nat.lt_irrefl, pz_bb, pz_bTr, Bool.false_eq_true, pz_bFa, Nat.reduceEqDiff, Nat.reduceLT, ite_not, pz_mE, pz_mE2, pz_mL, pz_mG, not_true_eq_false, not_false_eq_true, if_true, if_false, reduceIte, eq_self, true_or, or_true, or_false, false_or, and_true, true_and, and_false, false_and]
end PZ53
