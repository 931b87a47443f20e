/-! choir -/
def pz_cv (A : pz_A) (c : Nat) : Nat → Nat
  | 0 => 0
  | t + 1 => if pz_bt c t = 1 then pz_cv A c t ||| A 8 t 0 else pz_cv A c t
theorem pz_cv_s {A : pz_A} {c t : Nat} : pz_cv A c (t + 1) = if pz_bt c t = 1 then pz_cv A c t ||| A 8 t 0 else pz_cv A c t := rfl
theorem pz_cv_lt {A : pz_A} {c ck : Nat} (hA : pz_wf ck A) : ∀ t, t ≤ A 6 0 0 → pz_cv A c t < 64
  | 0, _ => by
    show 0 < 64
    decide
  | t + 1, ht => by
    have ih := pz_cv_lt (c := c) hA t (by omega)
    rw [pz_cv_s]
    split
    · exact pz_orlt (n := 6) ih (hA.2.2.2.2.1 t (by omega)).2.1
    · exact ih
def pz_ow (o : Option Nat) : Nat := match o with
  | none => 6
  | some d => pz_pop d
theorem pz_ow_le {o : Option Nat} : pz_ow o ≤ 6 := by
  cases o with
  | none => exact Nat.le_refl _
  | some d => exact pz_pop_le
noncomputable def pz_ch (A : pz_A) (a b : Nat) : Nat → Option Nat
  | 0 => none
  | c + 1 => if pz_T A (pz_cv A c (A 6 0 0)) a b < 10000 ∧ pz_pop c < pz_ow (pz_ch A a b c) then some c else pz_ch A a b c
theorem pz_ch_s {A : pz_A} {a b c : Nat} : pz_ch A a b (c + 1) = if pz_T A (pz_cv A c (A 6 0 0)) a b < 10000 ∧ pz_pop c < pz_ow (pz_ch A a b c) then some c else pz_ch A a b c := rfl
theorem pz_ch_lt {A : pz_A} {a b : Nat} : ∀ c d : Nat, pz_ch A a b c = some d → d < c
  | 0, d, h => by cases h
  | c + 1, d, h => by
    rw [pz_ch_s] at h
    split at h
    · cases h
      omega
    · have := pz_ch_lt c d h
      omega
theorem pz_pop5 {c : Nat} (h : c < 32) : pz_pop c < 6 := by
  have h0 := pz_bt2 (v := c) (s := 0)
  have h1 := pz_bt2 (v := c) (s := 1)
  have h2 := pz_bt2 (v := c) (s := 2)
  have h3 := pz_bt2 (v := c) (s := 3)
  have h4 := pz_bt2 (v := c) (s := 4)
  have h5 : pz_bt c 5 = 0 := by
    unfold pz_bt
    omega
  unfold pz_pop
  omega
def pz_oP (o : Option Nat) : Int32 := match o with
  | none => pz_m
  | some d => nI (pz_pop d)
noncomputable def pz_chv (A : pz_A) (a b w : Nat) : Int32 := match pz_ch A a b (2 ^ A 6 0 0) with
  | none => pz_m
  | some d => if w = 0 then nI (pz_pop d) else nI d
section PZ61
variable {ids : List (Nat × Nat)} {I J I' J' : mm_HI} {L LC LM LC' LM' : mm_HL} {κ f f' : Nat → Nat} {A : pz_A} {k ck n n' g a b v s p : Nat}
theorem pz_n32 (hA : pz_wf ck A) : 2 ^ A 6 0 0 ≤ 32 := (Nat.pow_le_pow_right (by decide) hA.2.2.2.1 : 2 ^ A 6 0 0 ≤ 2 ^ 5)
/-- versesOf -/
theorem sC104 {c : Nat} (hA : pz_wf ck A) (hC : pz_C 0 A I κ) (hc : c < 32) : mm_ev 104 0 [some (.inr (.inr (7, 0))), some (.inl (nI c)), none, none] [] (ids, I, L, mm_RS κ) = some (some (.inl (nI (pz_cv A c (A 6 0 0)))), (ids, I, L, mm_RS κ)) := by
  have h5 := hA.2.2.2.1
  have h12 := hC.2.2.1
  have hl := pz_loop (fun t => mm_ev 104 4 [some (.inr (.inr (7, 0))), some (.inl (nI c)), some (.inl (nI (pz_cv A c t))), some (.inl (nI t))] [] (ids, I, L, mm_RS κ)) (A 6 0 0) (fun t ht => ?_)
  · rw [b104_0]
    refine Eq.trans hl ?_
    try dsimp only
    rw [b104_4]
    simp (disch := omega) only [h12, b104_44, pz_k0, pz_k1, pz_k2, pz_k3, pz_k4, pz_k5, pz_k6, pz_k7, pz_k8, pz_k9, pz_k10, pz_k16, pz_k31, pz_k63, pz_km, nI_add, pz_mul, nI_ltI, nI_eq, nI_clamp, pz_inI, Option.bind_some, Option.toList_some, Option.toList_none, List.cons_append, List.nil_append, Nat.zero_add, Nat.mul_zero, Nat.add_zero, Nat.lt_irrefl, pz_bb, pz_bTr, Bool.false_eq_true, pz_bFa, Nat.reduceEqDiff, Nat.reduceLT, ite_not, pz_mE, pz_mE2, pz_mL, pz_mG, not_true_eq_false, not_false_eq_true, if_true, if_false, reduceIte, eq_self, true_or, or_true, or_false, false_or, and_true, true_and, and_false, false_and]
  · try dsimp only
    have h2 := pz_bt2 (v := c) (s := t)
    have d2 := (pz_C0s hC ht).2.1
    have c5 : c < 512 := by omega
    have t10 : t < 10 := by omega
    rw [pz_cv_s, b104_4]
    by_cases hb : pz_bt c t = 1
    · rw [if_pos hb]
      simp (disch := omega) only [h12, ht, b104_15, pz_bit c5 t10, hb, b104_23, show t < 5 by omega, b104_33, d2, pz_or, b104_38, pz_k0, pz_k1, pz_k2, pz_k3, pz_k4, pz_k5, pz_k6, pz_k7, pz_k8, pz_k9, pz_k10, pz_k16, pz_k31, pz_k63, pz_km, nI_add, pz_mul, nI_ltI, nI_eq, nI_clamp, pz_inI, Option.bind_some, Option.toList_some, Option.toList_none, List.cons_append, List.nil_append, Nat.zero_add, Nat.mul_zero, Nat.add_zero, Nat.lt_irrefl, pz_bb, pz_bTr, Bool.false_eq_true, pz_bFa, Nat.reduceEqDiff, Nat.reduceLT, ite_not, pz_mE, pz_mE2, pz_mL, pz_mG, not_true_eq_false, not_false_eq_true, if_true, if_false, reduceIte, eq_self, true_or, or_true, or_false, false_or, and_true, true_and, and_false, false_and]
    · have hb0 : pz_bt c t = 0 := by omega
      rw [if_neg hb]
      simp (disch := omega) only [h12, ht, b104_15, pz_bit c5 t10, hb0, b104_38, pz_k0, pz_k1, pz_k2, pz_k3, pz_k4, pz_k5, pz_k6, pz_k7, pz_k8, pz_k9, pz_k10, pz_k16, pz_k31, pz_k63, pz_km, nI_add, pz_mul, nI_ltI, nI_eq, nI_clamp, pz_inI, Option.bind_some, Option.toList_some, Option.toList_none, List.cons_append, List.nil_append, Nat.zero_add, Nat.mul_zero, Nat.add_zero, Nat.lt_irrefl, pz_bb, pz_bTr, Bool.false_eq_true, pz_bFa, Nat.reduceEqDiff, Nat.reduceLT, ite_not, pz_mE, pz_mE2, pz_mL, pz_mG, not_true_eq_false, not_false_eq_true, if_true, if_false, reduceIte, eq_self, true_or, or_true, or_false, false_or, and_true, true_and, and_false, false_and]
/-- leastChoir -/
theorem sC103 (hA : pz_wf ck A) (hC : pz_C 0 A I κ) (ha : a < 6) (hb : b < 6) : mm_ev 103 0 [some (.inr (.inr (7, 0))), some (.inl (nI a)), some (.inl (nI b)), none, none, none, none] [] (ids, I, L, mm_RS κ) = some (some (.inl (pz_oI (pz_ch A a b (2 ^ A 6 0 0)))), (ids, I, L, mm_RS κ)) := by
  have h5 := hA.2.2.2.1
  have h12 := hC.2.2.1
  have hN := pz_n32 hA
  have hsh : (nI 1 <<< (nI (A 6 0 0) &&& nI 31)) = nI (2 ^ A 6 0 0) := pz_one (by omega)
  obtain ⟨N, hNe⟩ : ∃ N, N = 2 ^ A 6 0 0 := ⟨_, rfl⟩
  rw [← hNe] at hsh hN ⊢
  have hl := pz_loopJ (fun c (j : Option mm_V) => mm_ev 103 9 [some (.inr (.inr (7, 0))), some (.inl (nI a)), some (.inl (nI b)), some (.inl (pz_oI (pz_ch A a b c))), some (.inl (nI (pz_ow (pz_ch A a b c)))), some (.inl (nI c)), j] [] (ids, I, L, mm_RS κ)) N (fun c j hc => ?_) none
  · obtain ⟨j, hj⟩ := hl
    rw [b103_0]
    refine Eq.trans hj ?_
    try dsimp only
    rw [b103_9]
    simp (disch := omega) only [h12, hsh, b103_71, pz_k0, pz_k1, pz_k2, pz_k3, pz_k4, pz_k5, pz_k6, pz_k7, pz_k8, pz_k9, pz_k10, pz_k16, pz_k31, pz_k63, pz_km, nI_add, pz_mul, nI_ltI, nI_eq, nI_clamp, pz_inI, Option.bind_some, Option.toList_some, Option.toList_none, List.cons_append, List.nil_append, Nat.zero_add, Nat.mul_zero, Nat.add_zero, Nat.lt_irrefl, pz_bb, pz_bTr, Bool.false_eq_true, pz_bFa, Nat.reduceEqDiff, Nat.reduceLT, ite_not, pz_mE, pz_mE2, pz_mL, pz_mG, not_true_eq_false, not_false_eq_true, if_true, if_false, reduceIte, eq_self, true_or, or_true, or_false, false_or, and_true, true_and, and_false, false_and]
  · try dsimp only
    have hV := pz_cv_lt (c := c) hA (A 6 0 0) (Nat.le_refl _)
    have hpo := pz_po_lt (v := pz_cv A c (A 6 0 0)) hA ha
    have hpo5 : pz_po A (pz_cv A c (A 6 0 0)) a < 512 := by omega
    have hbt := pz_po_bt (v := pz_cv A c (A 6 0 0)) hA ha hb
    have hb2 := pz_bt2 (v := pz_po A (pz_cv A c (A 6 0 0)) a) (s := b)
    have how := pz_ow_le (o := pz_ch A a b c)
    have hpp := pz_pop_le (v := c)
    have b10 : b < 10 := by omega
    refine ⟨some (.inl (nI (pz_pop c))), ?_⟩
    by_cases hp : pz_pop c < pz_ow (pz_ch A a b c)
    · by_cases hT : pz_T A (pz_cv A c (A 6 0 0)) a b < 10000
      · have h1 := hbt.mpr hT
        have hch : pz_ch A a b (c + 1) = some c := by
          rw [pz_ch_s]
          exact if_pos ⟨hT, hp⟩
        rw [hch, b103_9]
        simp (disch := omega) only [h12, hsh, hc, b103_23, s176 (show c < 64 by omega), b103_28, hp, b103_37, sC104 hA hC (show c < 32 by omega), b103_48, sC70 hA hC ha hV, b103_51, pz_bit hpo5 b10, h1, b103_58, b103_65, show pz_oI (some c) = nI c from rfl, show pz_ow (some c) = pz_pop c from rfl, pz_k0, pz_k1, pz_k2, pz_k3, pz_k4, pz_k5, pz_k6, pz_k7, pz_k8, pz_k9, pz_k10, pz_k16, pz_k31, pz_k63, pz_km, nI_add, pz_mul, nI_ltI, nI_eq, nI_clamp, pz_inI, Option.bind_some, Option.toList_some, Option.toList_none, List.cons_append, List.nil_append, Nat.zero_add, Nat.mul_zero, Nat.add_zero, Nat.lt_irrefl, pz_bb, pz_bTr, Bool.false_eq_true, pz_bFa, Nat.reduceEqDiff, Nat.reduceLT, ite_not, pz_mE, pz_mE2, pz_mL, pz_mG, not_true_eq_false, not_false_eq_true, if_true, if_false, reduceIte, eq_self, true_or, or_true, or_false, false_or, and_true, true_and, and_false, false_and]
      · have h0 : pz_bt (pz_po A (pz_cv A c (A 6 0 0)) a) b = 0 := by
          have : ¬ pz_bt (pz_po A (pz_cv A c (A 6 0 0)) a) b = 1 := fun z => hT (hbt.mp z)
          omega
        have hch : pz_ch A a b (c + 1) = pz_ch A a b c := by
          rw [pz_ch_s]
          exact if_neg (fun z => hT z.1)
        rw [hch, b103_9]
        simp (disch := omega) only [h12, hsh, hc, b103_23, s176 (show c < 64 by omega), b103_28, hp, b103_37, sC104 hA hC (show c < 32 by omega), b103_48, sC70 hA hC ha hV, b103_51, pz_bit hpo5 b10, h0, b103_65, pz_k0, pz_k1, pz_k2, pz_k3, pz_k4, pz_k5, pz_k6, pz_k7, pz_k8, pz_k9, pz_k10, pz_k16, pz_k31, pz_k63, pz_km, nI_add, pz_mul, nI_ltI, nI_eq, nI_clamp, pz_inI, Option.bind_some, Option.toList_some, Option.toList_none, List.cons_append, List.nil_append, Nat.zero_add, Nat.mul_zero, Nat.add_zero, Nat.lt_irrefl, pz_bb, pz_bTr, Bool.false_eq_true, pz_bFa, Nat.reduceEqDiff, Nat.reduceLT, ite_not, pz_mE, pz_mE2, pz_mL, pz_mG, not_true_eq_false, not_false_eq_true, if_true, if_false, reduceIte, eq_self, true_or, or_true, or_false, false_or, and_true, true_and, and_false, false_and]
    · have hch : pz_ch A a b (c + 1) = pz_ch A a b c := by
        rw [pz_ch_s]
        exact if_neg (fun z => hp z.2)
      rw [hch, b103_9]
      simp (disch := omega) only [h12, hsh, hc, b103_23, s176 (show c < 64 by omega), b103_28, hp, b103_65, pz_k0, pz_k1, pz_k2, pz_k3, pz_k4, pz_k5, pz_k6, pz_k7, pz_k8, pz_k9, pz_k10, pz_k16, pz_k31, pz_k63, pz_km, nI_add, pz_mul, nI_ltI, nI_eq, nI_clamp, pz_inI, Option.bind_some, Option.toList_some, Option.toList_none, List.cons_append, List.nil_append, Nat.zero_add, Nat.mul_zero, Nat.add_zero, Nat.lt_irrefl, pz_bb, pz_bTr, Bool.false_eq_true, pz_bFa, Nat.reduceEqDiff, Nat.reduceLT, ite_not, pz_mE, pz_mE2, pz_mL, pz_mG, not_true_eq_false, not_false_eq_true, if_true, if_false, reduceIte, eq_self, true_or, or_true, or_false, false_or, and_true, true_and, and_false, false_and]
/-- choirSize -/
theorem sC33 {o : Option Nat} (ho : ∀ d, o = some d → d < 64) : mm_ev 33 0 [some (.inl (pz_oI o))] [] (ids, I, L, mm_RS κ) = some (some (.inl (pz_oP o)), (ids, I, L, mm_RS κ)) := by
  cases o with
  | none =>
    rw [show pz_oI none = pz_m from rfl, b33_0]
    simp (disch := omega) only [b33_5, b33_13, pz_k0, pz_k1, pz_k2, pz_k3, pz_k4, pz_k5, pz_k6, pz_k7, pz_k8, pz_k9, pz_k10, pz_k16, pz_k31, pz_k63, pz_km, nI_add, pz_mul, nI_ltI, nI_eq, nI_clamp, pz_inI, Option.bind_some, Option.toList_some, Option.toList_none, List.cons_append, List.nil_append, Nat.zero_add, Nat.mul_zero, Nat.add_zero, Nat.lt_irrefl, pz_bb, pz_bTr, Bool.false_eq_true, pz_bFa, Nat.reduceEqDiff, Nat.reduceLT, ite_not, pz_mE, pz_mE2, pz_mL, pz_mG, not_true_eq_false, not_false_eq_true, if_true, if_false, reduceIte, eq_self, true_or, or_true, or_false, false_or, and_true, true_and, and_false, false_and]
    rfl
  | some d =>
    have hd := ho d rfl
    rw [show pz_oI (some d) = nI d from rfl, b33_0]
    simp (disch := omega) only [b33_9, s176 hd, b33_13, pz_k0, pz_k1, pz_k2, pz_k3, pz_k4, pz_k5, pz_k6, pz_k7, pz_k8, pz_k9, pz_k10, pz_k16, pz_k31, pz_k63, pz_km, nI_add, pz_mul, nI_ltI, nI_eq, nI_clamp, pz_inI, Option.bind_some, Option.toList_some, Option.toList_none, List.cons_append, List.nil_append, Nat.zero_add, Nat.mul_zero, Nat.add_zero, Nat.lt_irrefl, pz_bb, pz_bTr, Bool.false_eq_true, pz_bFa, Nat.reduceEqDiff, Nat.reduceLT, ite_not, pz_mE, pz_mE2, pz_mL, pz_mG, not_true_eq_false, not_false_eq_true, if_true, if_false, reduceIte, eq_self, true_or, or_true, or_false, false_or, and_true, true_and, and_false, false_and]
    rfl
/-- choirNow -/
theorem sM157 {w : Nat} (hA : pz_wf ck A) (hM : pz_M A I) (ha : a < 6) (hb : b < 6) (hw : w ≤ 1) : ∃ J', mm_ev 157 0 [some (.inr (.inr (9, 0))), some (.inl (nI a)), some (.inl (nI b)), some (.inl (nI w)), none, none, none, none] [] (ids, I, L, mm_RM) = some (some (.inl (pz_chv A a b w)), (ids, J', L, mm_RM)) ∧ pz_fr I J' := by
  have h5 := hA.2.2.2.1
  have hN := pz_n32 hA
  have hsh : (nI 1 <<< (nI (A 6 0 0) &&& nI 31)) = nI (2 ^ A 6 0 0) := pz_one (by omega)
  unfold pz_chv
  obtain ⟨N, hNe⟩ : ∃ N, N = 2 ^ A 6 0 0 := ⟨_, rfl⟩
  rw [← hNe] at hsh hN ⊢
  have hl := pz_loopP (fun c (j : (Option mm_V × Option mm_V) × mm_HI) => mm_ev 157 6 [some (.inr (.inr (9, 0))), some (.inl (nI a)), some (.inl (nI b)), some (.inl (nI w)), some (.inl (pz_oI (pz_ch A a b c))), some (.inl (nI c)), j.1.1, j.1.2] [] (ids, j.2, L, mm_RM)) (fun _ j => pz_fr I j.2) N (fun c j hc hj => ?_) ((none, none), I) pz_fr0
  · obtain ⟨j, hj, hf⟩ := hl
    have h47 := (pz_M0 (pz_M_fr hf hM)).2.1
    refine ⟨j.2, ?_, hf⟩
    rw [b157_0]
    refine Eq.trans hj ?_
    try dsimp only
    rw [b157_6]
    cases ho : pz_ch A a b N with
    | none =>
      simp (disch := omega) only [h47, hsh, b157_116, show pz_oI none = pz_m from rfl, b157_127, b157_137, pz_k0, pz_k1, pz_k2, pz_k3, pz_k4, pz_k5, pz_k6, pz_k7, pz_k8, pz_k9, pz_k10, pz_k16, pz_k31, pz_k63, pz_km, nI_add, pz_mul, nI_ltI, nI_eq, nI_clamp, pz_inI, Option.bind_some, Option.toList_some, Option.toList_none, List.cons_append, List.nil_append, Nat.zero_add, Nat.mul_zero, Nat.add_zero, Nat.lt_irrefl, pz_bb, pz_bTr, Bool.false_eq_true, pz_bFa, Nat.reduceEqDiff, Nat.reduceLT, ite_not, pz_mE, pz_mE2, pz_mL, pz_mG, not_true_eq_false, not_false_eq_true, if_true, if_false, reduceIte, eq_self, true_or, or_true, or_false, false_or, and_true, true_and, and_false, false_and]
    | some d =>
      have hd := pz_ch_lt N d ho
      by_cases hw0 : w = 0
      · rw [hw0]
        simp (disch := omega) only [h47, hsh, b157_116, show pz_oI (some d) = nI d from rfl, b157_122, b157_132, sM115 (show d < 512 by omega), b157_137, pz_k0, pz_k1, pz_k2, pz_k3, pz_k4, pz_k5, pz_k6, pz_k7, pz_k8, pz_k9, pz_k10, pz_k16, pz_k31, pz_k63, pz_km, nI_add, pz_mul, nI_ltI, nI_eq, nI_clamp, pz_inI, Option.bind_some, Option.toList_some, Option.toList_none, List.cons_append, List.nil_append, Nat.zero_add, Nat.mul_zero, Nat.add_zero, Nat.lt_irrefl, pz_bb, pz_bTr, Bool.false_eq_true, pz_bFa, Nat.reduceEqDiff, Nat.reduceLT, ite_not, pz_mE, pz_mE2, pz_mL, pz_mG, not_true_eq_false, not_false_eq_true, if_true, if_false, reduceIte, eq_self, true_or, or_true, or_false, false_or, and_true, true_and, and_false, false_and]
      · rw [show w = 1 by omega]
        simp (disch := omega) only [h47, hsh, b157_116, show pz_oI (some d) = nI d from rfl, b157_122, b157_127, b157_137, pz_k0, pz_k1, pz_k2, pz_k3, pz_k4, pz_k5, pz_k6, pz_k7, pz_k8, pz_k9, pz_k10, pz_k16, pz_k31, pz_k63, pz_km, nI_add, pz_mul, nI_ltI, nI_eq, nI_clamp, pz_inI, Option.bind_some, Option.toList_some, Option.toList_none, List.cons_append, List.nil_append, Nat.zero_add, Nat.mul_zero, Nat.add_zero, Nat.lt_irrefl, pz_bb, pz_bTr, Bool.false_eq_true, pz_bFa, Nat.reduceEqDiff, Nat.reduceLT, ite_not, pz_mE, pz_mE2, pz_mL, pz_mG, not_true_eq_false, not_false_eq_true, if_true, if_false, reduceIte, eq_self, true_or, or_true, or_false, false_or, and_true, true_and, and_false, false_and]
  · try dsimp only at hj
    try dsimp only
    have hM' := pz_M_fr hj hM
    have h47 := (pz_M0 hM').2.1
    have hV := pz_cv_lt (c := c) hA (A 6 0 0) (Nat.le_refl _)
    have c5 : c < 512 := by omega
    have inner := pz_loop (fun t => mm_ev 157 23 [some (.inr (.inr (9, 0))), some (.inl (nI a)), some (.inl (nI b)), some (.inl (nI w)), some (.inl (pz_oI (pz_ch A a b c))), some (.inl (nI c)), some (.inl (nI (pz_cv A c t))), some (.inl (nI t))] [] (ids, j.2, L, mm_RM)) (A 6 0 0) (fun t ht => ?_)
    · have hG := pz_G_lt (v := pz_cv A c (A 6 0 0)) hA hb (x := a)
      have hTs : pz_T A (pz_cv A c (A 6 0 0)) b a < 10000 ↔ pz_T A (pz_cv A c (A 6 0 0)) a b < 10000 := ⟨pz_T_sym hA hb ha, pz_T_sym hA ha hb⟩
      have hpp := pz_pop_le (v := c)
      have hp5 := pz_pop5 (c := c) (by omega)
      refine ⟨((some (.inl (nI (pz_cv A c (A 6 0 0)))), some (.inl (nI (A 6 0 0)))), pz_w j.2 137 6 (pz_G A (pz_cv A c (A 6 0 0)) b)), ?_, pz_frT hj (pz_w_fr rfl)⟩
      try dsimp only
      rw [b157_6]
      simp (disch := omega) only [h47, hsh, hc, b157_17, pz_k0, pz_k1, pz_k2, pz_k3, pz_k4, pz_k5, pz_k6, pz_k7, pz_k8, pz_k9, pz_k10, pz_k16, pz_k31, pz_k63, pz_km, nI_add, pz_mul, nI_ltI, nI_eq, nI_clamp, pz_inI, Option.bind_some, Option.toList_some, Option.toList_none, List.cons_append, List.nil_append, Nat.zero_add, Nat.mul_zero, Nat.add_zero, Nat.lt_irrefl, pz_bb, pz_bTr, Bool.false_eq_true, pz_bFa, Nat.reduceEqDiff, Nat.reduceLT, ite_not, pz_mE, pz_mE2, pz_mL, pz_mG, not_true_eq_false, not_false_eq_true, if_true, if_false, reduceIte, eq_self, true_or, or_true, or_false, false_or, and_true, true_and, and_false, false_and]
      refine Eq.trans inner ?_
      try dsimp only
      rw [b157_23]
      simp (disch := omega) only [h47, b157_64, sM147 hA hM' hb hV, b157_71, ha, pz_w_r, pz_k0, pz_k1, pz_k2, pz_k3, pz_k4, pz_k5, pz_k6, pz_k7, pz_k8, pz_k9, pz_k10, pz_k16, pz_k31, pz_k63, pz_km, nI_add, pz_mul, nI_ltI, nI_eq, nI_clamp, pz_inI, Option.bind_some, Option.toList_some, Option.toList_none, List.cons_append, List.nil_append, Nat.zero_add, Nat.mul_zero, Nat.add_zero, Nat.lt_irrefl, pz_bb, pz_bTr, Bool.false_eq_true, pz_bFa, Nat.reduceEqDiff, Nat.reduceLT, ite_not, pz_mE, pz_mE2, pz_mL, pz_mG, not_true_eq_false, not_false_eq_true, if_true, if_false, reduceIte, eq_self, true_or, or_true, or_false, false_or, and_true, true_and, and_false, false_and]
      rw [b157_77, show (1048576 : Int32) = nI 1048576 from rfl]
      by_cases hT : pz_T A (pz_cv A c (A 6 0 0)) a b < 10000
      · have hg : pz_G A (pz_cv A c (A 6 0 0)) b a < 1048576 := hG.1.mpr (hTs.mpr hT)
        cases ho : pz_ch A a b c with
        | none =>
          have hch : pz_ch A a b (c + 1) = some c := by
            rw [pz_ch_s, ho]
            exact if_pos ⟨hT, hp5⟩
          rw [hch]
          simp (disch := omega) only [hg, b157_82, show pz_oI none = pz_m from rfl, b157_101, b157_108, show pz_oI (some c) = nI c from rfl, pz_k0, pz_k1, pz_k2, pz_k3, pz_k4, pz_k5, pz_k6, pz_k7, pz_k8, pz_k9, pz_k10, pz_k16, pz_k31, pz_k63, pz_km, nI_add, pz_mul, nI_ltI, nI_eq, nI_clamp, pz_inI, Option.bind_some, Option.toList_some, Option.toList_none, List.cons_append, List.nil_append, Nat.zero_add, Nat.mul_zero, Nat.add_zero, Nat.lt_irrefl, pz_bb, pz_bTr, Bool.false_eq_true, pz_bFa, Nat.reduceEqDiff, Nat.reduceLT, ite_not, pz_mE, pz_mE2, pz_mL, pz_mG, not_true_eq_false, not_false_eq_true, if_true, if_false, reduceIte, eq_self, true_or, or_true, or_false, false_or, and_true, true_and, and_false, false_and]
        | some d =>
          have hd := pz_ch_lt c d ho
          have hpd := pz_pop_le (v := d)
          by_cases hp : pz_pop c < pz_pop d
          · have hch : pz_ch A a b (c + 1) = some c := by
              rw [pz_ch_s, ho]
              exact if_pos ⟨hT, hp⟩
            rw [hch]
            simp (disch := omega) only [hg, b157_82, show pz_oI (some d) = nI d from rfl, b157_88, sM115 c5, b157_93, sM115 (show d < 512 by omega), b157_98, hp, b157_101, b157_108, show pz_oI (some c) = nI c from rfl, pz_k0, pz_k1, pz_k2, pz_k3, pz_k4, pz_k5, pz_k6, pz_k7, pz_k8, pz_k9, pz_k10, pz_k16, pz_k31, pz_k63, pz_km, nI_add, pz_mul, nI_ltI, nI_eq, nI_clamp, pz_inI, Option.bind_some, Option.toList_some, Option.toList_none, List.cons_append, List.nil_append, Nat.zero_add, Nat.mul_zero, Nat.add_zero, Nat.lt_irrefl, pz_bb, pz_bTr, Bool.false_eq_true, pz_bFa, Nat.reduceEqDiff, Nat.reduceLT, ite_not, pz_mE, pz_mE2, pz_mL, pz_mG, not_true_eq_false, not_false_eq_true, if_true, if_false, reduceIte, eq_self, true_or, or_true, or_false, false_or, and_true, true_and, and_false, false_and]
          · have hch : pz_ch A a b (c + 1) = some d := by
              rw [pz_ch_s, ho]
              exact if_neg (fun z => hp z.2)
            rw [hch]
            simp (disch := omega) only [hg, b157_82, show pz_oI (some d) = nI d from rfl, b157_88, sM115 c5, b157_93, sM115 (show d < 512 by omega), b157_98, hp, b157_106, b157_108, pz_k0, pz_k1, pz_k2, pz_k3, pz_k4, pz_k5, pz_k6, pz_k7, pz_k8, pz_k9, pz_k10, pz_k16, pz_k31, pz_k63, pz_km, nI_add, pz_mul, nI_ltI, nI_eq, nI_clamp, pz_inI, Option.bind_some, Option.toList_some, Option.toList_none, List.cons_append, List.nil_append, Nat.zero_add, Nat.mul_zero, Nat.add_zero, Nat.lt_irrefl, pz_bb, pz_bTr, Bool.false_eq_true, pz_bFa, Nat.reduceEqDiff, Nat.reduceLT, ite_not, pz_mE, pz_mE2, pz_mL, pz_mG, not_true_eq_false, not_false_eq_true, if_true, if_false, reduceIte, eq_self, true_or, or_true, or_false, false_or, and_true, true_and, and_false, false_and]
      · have hg : ¬ pz_G A (pz_cv A c (A 6 0 0)) b a < 1048576 := fun z => hT (hTs.mp (hG.1.mp z))
        have hg2 := hG.2
        have hch : pz_ch A a b (c + 1) = pz_ch A a b c := by
          rw [pz_ch_s]
          exact if_neg (fun z => hT z.1)
        rw [hch]
        simp (disch := omega) only [hg, b157_106, b157_108, pz_k0, pz_k1, pz_k2, pz_k3, pz_k4, pz_k5, pz_k6, pz_k7, pz_k8, pz_k9, pz_k10, pz_k16, pz_k31, pz_k63, pz_km, nI_add, pz_mul, nI_ltI, nI_eq, nI_clamp, pz_inI, Option.bind_some, Option.toList_some, Option.toList_none, List.cons_append, List.nil_append, Nat.zero_add, Nat.mul_zero, Nat.add_zero, Nat.lt_irrefl, pz_bb, pz_bTr, Bool.false_eq_true, pz_bFa, Nat.reduceEqDiff, Nat.reduceLT, ite_not, pz_mE, pz_mE2, pz_mL, pz_mG, not_true_eq_false, not_false_eq_true, if_true, if_false, reduceIte, eq_self, true_or, or_true, or_false, false_or, and_true, true_and, and_false, false_and]
    · try dsimp only
      have h2 := pz_bt2 (v := c) (s := t)
      have d2 := (pz_M0s hM' ht).2.1
      rw [pz_cv_s, b157_23]
      by_cases hb1 : pz_bt c t = 1
      · rw [if_pos hb1]
        simp (disch := omega) only [h47, ht, b157_32, sM114 c5 (show t < 10 by omega), pz_bT hb1, b157_41, b157_44, show t < 5 by omega, d2, b157_51, b157_55, pz_or, pz_k0, pz_k1, pz_k2, pz_k3, pz_k4, pz_k5, pz_k6, pz_k7, pz_k8, pz_k9, pz_k10, pz_k16, pz_k31, pz_k63, pz_km, nI_add, pz_mul, nI_ltI, nI_eq, nI_clamp, pz_inI, Option.bind_some, Option.toList_some, Option.toList_none, List.cons_append, List.nil_append, Nat.zero_add, Nat.mul_zero, Nat.add_zero, Nat.lt_irrefl, pz_bb, pz_bTr, Bool.false_eq_true, pz_bFa, Nat.reduceEqDiff, Nat.reduceLT, ite_not, pz_mE, pz_mE2, pz_mL, pz_mG, not_true_eq_false, not_false_eq_true, if_true, if_false, reduceIte, eq_self, true_or, or_true, or_false, false_or, and_true, true_and, and_false, false_and]
      · rw [if_neg hb1]
        simp (disch := omega) only [h47, ht, b157_32, sM114 c5 (show t < 10 by omega), pz_bF hb1, b157_41, b157_54, b157_55, pz_or, Nat.or_zero, pz_k0, pz_k1, pz_k2, pz_k3, pz_k4, pz_k5, pz_k6, pz_k7, pz_k8, pz_k9, pz_k10, pz_k16, pz_k31, pz_k63, pz_km, nI_add, pz_mul, nI_ltI, nI_eq, nI_clamp, pz_inI, Option.bind_some, Option.toList_some, Option.toList_none, List.cons_append, List.nil_append, Nat.zero_add, Nat.mul_zero, Nat.add_zero, Nat.lt_irrefl, pz_bb, pz_bTr, Bool.false_eq_true, pz_bFa, Nat.reduceEqDiff, Nat.reduceLT, ite_not, pz_mE, pz_mE2, pz_mL, pz_mG, not_true_eq_false, not_false_eq_true, if_true, if_false, reduceIte, eq_self, true_or, or_true, or_false, false_or, and_true, true_and, and_false, false_and]
theorem op20 (h : pz_Q k ck n g f A κ I J) (x y z : Int32) : lw_two (pz_R (k + 1)) 20 158 [.inl x, .inl y, .inl z] (mm_idC, I, LC, mm_RS κ) (mm_idM, J, LM, mm_RM) := by
  obtain ⟨-, -, -, hA, hC, hM, -⟩ := id h
  by_cases hx : pz_rg x 6
  · have hx' := hx
    by_cases hy : pz_rg y 6
    · have hy' := hy
      obtain ⟨a, ha, rfl⟩ := hx
      obtain ⟨b, hb, rfl⟩ := hy
      by_cases hz : ¬ z < nI 0 ∧ ¬ nI 1 < z
      · have hz' := hz
        obtain ⟨w, hw, rfl⟩ := pz_win (by decide) hz
        obtain ⟨J', j0, j1⟩ := sM157 (ids := mm_idM) (L := LM) hA hM ha hb hw
        have hN := pz_n32 hA
        refine pz_two (laC := [some (.inr (.inr (1, 0))), some (.inl _), some (.inl _), some (.inl _), none]) (laM := [some (.inr (.inr (9, 0))), some (.inl _), some (.inl _), some (.inl _)]) (by rw [show mm_mL 20 = 5 from by decide +kernel]; rfl) (by rw [show mm_mL 158 = 4 from by decide +kernel]; rfl) (r :=  pz_chv A a b w) (hC' := (mm_idC, I, LC, mm_RS κ)) (hM' := (mm_idM, J', LM, mm_RM)) ?_ ?_ (pz_rdo h pz_fr0 j1)
        · rw [b20_0]
          simp (disch := omega) only [sC34, pz_bT hx', pz_bT hy', b20_4, b20_7, b20_11, b20_17, Nat.not_lt_zero, b20_21, show ¬ 1 < w by omega, b20_29, sC103 hA hC ha hb, pz_k0, pz_k1, pz_k2, pz_k3, pz_k4, pz_k5, pz_k6, pz_k7, pz_k8, pz_k9, pz_k10, pz_k16, pz_k31, pz_k63, pz_km, nI_add, pz_mul, nI_ltI, nI_eq, nI_clamp, pz_inI, Option.bind_some, Option.toList_some, Option.toList_none, List.cons_append, List.nil_append, Nat.zero_add, Nat.mul_zero, Nat.add_zero, Nat.lt_irrefl, pz_bb, pz_bTr, Bool.false_eq_true, pz_bFa, Nat.reduceEqDiff, Nat.reduceLT, ite_not, pz_mE, pz_mE2, pz_mL, pz_mG, not_true_eq_false, not_false_eq_true, if_true, if_false, reduceIte, eq_self, true_or, or_true, or_false, false_or, and_true, true_and, and_false, false_and]
          rw [b20_38]
          unfold pz_chv
          by_cases hw0 : w = 0
          · rw [hw0]
            simp (disch := omega) only [b20_44, pz_k0, pz_k1, pz_k2, pz_k3, pz_k4, pz_k5, pz_k6, pz_k7, pz_k8, pz_k9, pz_k10, pz_k16, pz_k31, pz_k63, pz_km, nI_add, pz_mul, nI_ltI, nI_eq, nI_clamp, pz_inI, Option.bind_some, Option.toList_some, Option.toList_none, List.cons_append, List.nil_append, Nat.zero_add, Nat.mul_zero, Nat.add_zero, Nat.lt_irrefl, pz_bb, pz_bTr, Bool.false_eq_true, pz_bFa, Nat.reduceEqDiff, Nat.reduceLT, ite_not, pz_mE, pz_mE2, pz_mL, pz_mG, not_true_eq_false, not_false_eq_true, if_true, if_false, reduceIte, eq_self, true_or, or_true, or_false, false_or, and_true, true_and, and_false, false_and]
            rw [sC33 (fun d hd => by have := pz_ch_lt _ _ hd; omega)]
            simp (disch := omega) only [b20_49, b20_54, pz_k0, pz_k1, pz_k2, pz_k3, pz_k4, pz_k5, pz_k6, pz_k7, pz_k8, pz_k9, pz_k10, pz_k16, pz_k31, pz_k63, pz_km, nI_add, pz_mul, nI_ltI, nI_eq, nI_clamp, pz_inI, Option.bind_some, Option.toList_some, Option.toList_none, List.cons_append, List.nil_append, Nat.zero_add, Nat.mul_zero, Nat.add_zero, Nat.lt_irrefl, pz_bb, pz_bTr, Bool.false_eq_true, pz_bFa, Nat.reduceEqDiff, Nat.reduceLT, ite_not, pz_mE, pz_mE2, pz_mL, pz_mG, not_true_eq_false, not_false_eq_true, if_true, if_false, reduceIte, eq_self, true_or, or_true, or_false, false_or, and_true, true_and, and_false, false_and]
            cases pz_ch A a b (2 ^ A 6 0 0) <;> rfl
          · rw [show w = 1 by omega]
            simp (disch := omega) only [b20_52, b20_54, pz_k0, pz_k1, pz_k2, pz_k3, pz_k4, pz_k5, pz_k6, pz_k7, pz_k8, pz_k9, pz_k10, pz_k16, pz_k31, pz_k63, pz_km, nI_add, pz_mul, nI_ltI, nI_eq, nI_clamp, pz_inI, Option.bind_some, Option.toList_some, Option.toList_none, List.cons_append, List.nil_append, Nat.zero_add, Nat.mul_zero, Nat.add_zero, Nat.lt_irrefl, pz_bb, pz_bTr, Bool.false_eq_true, pz_bFa, Nat.reduceEqDiff, Nat.reduceLT, ite_not, pz_mE, pz_mE2, pz_mL, pz_mG, not_true_eq_false, not_false_eq_true, if_true, if_false, reduceIte, eq_self, true_or, or_true, or_false, false_or, and_true, true_and, and_false, false_and]
            cases pz_ch A a b (2 ^ A 6 0 0) <;> rfl
        · rw [b158_0]
          simp (disch := omega) only [sM132, pz_bT hx', pz_bT hy', b158_4, b158_7, b158_11, b158_17, sM113T hz', b158_23, b158_26, j0, b158_33, b158_38, pz_k0, pz_k1, pz_k2, pz_k3, pz_k4, pz_k5, pz_k6, pz_k7, pz_k8, pz_k9, pz_k10, pz_k16, pz_k31, pz_k63, pz_km, nI_add, pz_mul, nI_ltI, nI_eq, nI_clamp, pz_inI, Option.bind_some, Option.toList_some, Option.toList_none, List.cons_append, List.nil_append, Nat.zero_add, Nat.mul_zero, Nat.add_zero, Nat.lt_irrefl, pz_bb, pz_bTr, Bool.false_eq_true, pz_bFa, Nat.reduceEqDiff, Nat.reduceLT, ite_not, pz_mE, pz_mE2, pz_mL, pz_mG, not_true_eq_false, not_false_eq_true, if_true, if_false, reduceIte, eq_self, true_or, or_true, or_false, false_or, and_true, true_and, and_false, false_and]
      · refine pz_two (laC := [some (.inr (.inr (1, 0))), some (.inl _), some (.inl _), some (.inl _), none]) (laM := [some (.inr (.inr (9, 0))), some (.inl _), some (.inl _), some (.inl _)]) (by rw [show mm_mL 20 = 5 from by decide +kernel]; rfl) (by rw [show mm_mL 158 = 4 from by decide +kernel]; rfl) (r :=  -102) ?_ ?_ (pz_rd0 (LC' := LC) (LM' := LM) h)
        · rw [b20_0]
          by_cases h1 : z < nI 0
          · simp (disch := omega) only [sC34, pz_bT hx', pz_bT hy', b20_4, b20_7, b20_11, b20_17, h1, b20_26, pz_k0, pz_k1, pz_k2, pz_k3, pz_k4, pz_k5, pz_k6, pz_k7, pz_k8, pz_k9, pz_k10, pz_k16, pz_k31, pz_k63, pz_km, nI_add, pz_mul, nI_ltI, nI_eq, nI_clamp, pz_inI, Option.bind_some, Option.toList_some, Option.toList_none, List.cons_append, List.nil_append, Nat.zero_add, Nat.mul_zero, Nat.add_zero, Nat.lt_irrefl, pz_bb, pz_bTr, Bool.false_eq_true, pz_bFa, Nat.reduceEqDiff, Nat.reduceLT, ite_not, pz_mE, pz_mE2, pz_mL, pz_mG, not_true_eq_false, not_false_eq_true, if_true, if_false, reduceIte, eq_self, true_or, or_true, or_false, false_or, and_true, true_and, and_false, false_and]
          · have h2 : nI 1 < z := Classical.byContradiction (fun q => hz ⟨h1, q⟩)
            simp (disch := omega) only [sC34, pz_bT hx', pz_bT hy', b20_4, b20_7, b20_11, b20_17, h1, b20_21, h2, b20_26, pz_k0, pz_k1, pz_k2, pz_k3, pz_k4, pz_k5, pz_k6, pz_k7, pz_k8, pz_k9, pz_k10, pz_k16, pz_k31, pz_k63, pz_km, nI_add, pz_mul, nI_ltI, nI_eq, nI_clamp, pz_inI, Option.bind_some, Option.toList_some, Option.toList_none, List.cons_append, List.nil_append, Nat.zero_add, Nat.mul_zero, Nat.add_zero, Nat.lt_irrefl, pz_bb, pz_bTr, Bool.false_eq_true, pz_bFa, Nat.reduceEqDiff, Nat.reduceLT, ite_not, pz_mE, pz_mE2, pz_mL, pz_mG, not_true_eq_false, not_false_eq_true, if_true, if_false, reduceIte, eq_self, true_or, or_true, or_false, false_or, and_true, true_and, and_false, false_and]
        · rw [b158_0]
          simp (disch := omega) only [sM132, pz_bT hx', pz_bT hy', b158_4, b158_7, b158_11, b158_17, sM113F hz, b158_23, b158_36, b158_38, pz_k0, pz_k1, pz_k2, pz_k3, pz_k4, pz_k5, pz_k6, pz_k7, pz_k8, pz_k9, pz_k10, pz_k16, pz_k31, pz_k63, pz_km, nI_add, pz_mul, nI_ltI, nI_eq, nI_clamp, pz_inI, Option.bind_some, Option.toList_some, Option.toList_none, List.cons_append, List.nil_append, Nat.zero_add, Nat.mul_zero, Nat.add_zero, Nat.lt_irrefl, pz_bb, pz_bTr, Bool.false_eq_true, pz_bFa, Nat.reduceEqDiff, Nat.reduceLT, ite_not, pz_mE, pz_mE2, pz_mL, pz_mG, not_true_eq_false, not_false_eq_true, if_true, if_false, reduceIte, eq_self, true_or, or_true, or_false, false_or, and_true, true_and, and_false, false_and]
    · refine pz_two (laC := [some (.inr (.inr (1, 0))), some (.inl _), some (.inl _), some (.inl _), none]) (laM := [some (.inr (.inr (9, 0))), some (.inl _), some (.inl _), some (.inl _)]) (by rw [show mm_mL 20 = 5 from by decide +kernel]; rfl) (by rw [show mm_mL 158 = 4 from by decide +kernel]; rfl) (r :=  -101) ?_ ?_ (pz_rd0 (LC' := LC) (LM' := LM) h)
      · rw [b20_0]
        simp (disch := omega) only [sC34, pz_bT hx', pz_bF hy, b20_4, b20_7, b20_11, b20_14, pz_k0, pz_k1, pz_k2, pz_k3, pz_k4, pz_k5, pz_k6, pz_k7, pz_k8, pz_k9, pz_k10, pz_k16, pz_k31, pz_k63, pz_km, nI_add, pz_mul, nI_ltI, nI_eq, nI_clamp, pz_inI, Option.bind_some, Option.toList_some, Option.toList_none, List.cons_append, List.nil_append, Nat.zero_add, Nat.mul_zero, Nat.add_zero, Nat.lt_irrefl, pz_bb, pz_bTr, Bool.false_eq_true, pz_bFa, Nat.reduceEqDiff, Nat.reduceLT, ite_not, pz_mE, pz_mE2, pz_mL, pz_mG, not_true_eq_false, not_false_eq_true, if_true, if_false, reduceIte, eq_self, true_or, or_true, or_false, false_or, and_true, true_and, and_false, false_and]
      · rw [b158_0]
        simp (disch := omega) only [sM132, pz_bT hx', pz_bF hy, b158_4, b158_7, b158_11, b158_14, pz_k0, pz_k1, pz_k2, pz_k3, pz_k4, pz_k5, pz_k6, pz_k7, pz_k8, pz_k9, pz_k10, pz_k16, pz_k31, pz_k63, pz_km, nI_add, pz_mul, nI_ltI, nI_eq, nI_clamp, pz_inI, Option.bind_some, Option.toList_some, Option.toList_none, List.cons_append, List.nil_append, Nat.zero_add, Nat.mul_zero, Nat.add_zero, Nat.lt_irrefl, pz_bb, pz_bTr, Bool.false_eq_true, pz_bFa, Nat.reduceEqDiff, Nat.reduceLT, ite_not, pz_mE, pz_mE2, pz_mL, pz_mG, not_true_eq_false, not_false_eq_true, if_true, if_false, reduceIte, eq_self, true_or, or_true, or_false, false_or, and_true, true_and, and_false, false_and]
  · refine pz_two (laC := [some (.inr (.inr (1, 0))), some (.inl _), some (.inl _), some (.inl _), none]) (laM := [some (.inr (.inr (9, 0))), some (.inl _), some (.inl _), some (.inl _)]) (by rw [show mm_mL 20 = 5 from by decide +kernel]; rfl) (by rw [show mm_mL 158 = 4 from by decide +kernel]; rfl) (r :=  -101) ?_ ?_ (pz_rd0 (LC' := LC) (LM' := LM) h)
    · rw [b20_0]
      simp (disch := omega) only [sC34, pz_bF hx, b20_4, b20_14, pz_k0, pz_k1, pz_k2, pz_k3, pz_k4, pz_k5, pz_k6, pz_k7, pz_k8, pz_k9, pz_k10, pz_k16, pz_k31, pz_k63, pz_km, nI_add, pz_mul, nI_ltI, nI_eq, nI_clamp, pz_inI, Option.bind_some, Option.toList_some, Option.toList_none, List.cons_append, List.nil_append, Nat.zero_add, Nat.mul_zero, Nat.add_zero, Nat.lt_irrefl, pz_bb, pz_bTr, Bool.false_eq_true, pz_bFa, Nat.reduceEqDiff, Nat.reduceLT, ite_not, pz_mE, pz_mE2, pz_mL, pz_mG, not_true_eq_false, not_false_eq_true, if_true, if_false, reduceIte, eq_self, true_or, or_true, or_false, false_or, and_true, true_and, and_false, false_and]
    · rw [b158_0]
      simp (disch := omega) only [sM132, pz_bF hx, b158_4, b158_14, pz_k0, pz_k1, pz_k2, pz_k3, pz_k4, pz_k5, pz_k6, pz_k7, pz_k8, pz_k9, pz_k10, pz_k16, pz_k31, pz_k63, pz_km, nI_add, pz_mul, nI_ltI, nI_eq, nI_clamp, pz_inI, Option.bind_some, Option.toList_some, Option.toList_none, List.cons_append, List.nil_append, Nat.zero_add, Nat.mul_zero, Nat.add_zero, Nat.lt_irrefl, pz_bb, pz_bTr, Bool.false_eq_true, pz_bFa, Nat.reduceEqDiff, Nat.reduceLT, ite_not, pz_mE, pz_mE2, pz_mL, pz_mG, not_true_eq_false, not_false_eq_true, if_true, if_false, reduceIte, eq_self, true_or, or_true, or_false, false_or, and_true, true_and, and_false, false_and]
end PZ61
