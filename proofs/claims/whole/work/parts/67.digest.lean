/-! digest -/
def pz_mx (h : Int64) (x : Int32) : Int64 := 31 * h + x.toInt64
def pz_mf (F : Nat → Int32) (h : Int64) : Nat → Int64
  | 0 => h
  | w + 1 => pz_mx (pz_mf F h w) (F w)
theorem pz_mf_s {F : Nat → Int32} {h : Int64} {w : Nat} : pz_mf F h (w + 1) = pz_mx (pz_mf F h w) (F w) := rfl
theorem pz_mf_eq {F G : Nat → Int32} {h : Int64} : ∀ w, (∀ q, q < w → F q = G q) → pz_mf F h w = pz_mf G h w
  | 0, _ => rfl
  | w + 1, hq => by rw [pz_mf_s, pz_mf_s, pz_mf_eq w (fun q h => hq q (by omega)), hq w (by omega)]
theorem pz_mf_add {F : Nat → Int32} {h : Int64} {a : Nat} : ∀ w, pz_mf (fun q => F (a + q)) (pz_mf F h a) w = pz_mf F h (a + w)
  | 0 => rfl
  | w + 1 => by
    rw [pz_mf_s, pz_mf_add w]
    rfl
noncomputable def pz_mB (A : pz_A) (h : Int64) : Nat → Int64
  | 0 => h
  | b + 1 => pz_mx (pz_mf (pz_pr A b) (pz_mB A h b) 10) (pz_al A b)
theorem pz_mB_s {A : pz_A} {h : Int64} {b : Nat} : pz_mB A h (b + 1) = pz_mx (pz_mf (pz_pr A b) (pz_mB A h b) 10) (pz_al A b) := rfl
noncomputable def pz_cz (A : pz_A) (s w : Nat) : Int32 := pz_cf (pz_sC A (A 7 s 0) 5 (A 8 s 0) (A 12 s 0) (64 - A 8 s 0)) w
noncomputable def pz_rz (A : pz_A) (s : Nat) : Int32 := nI (pz_rb (pz_T A (A 8 s 0) (A 7 s 0)) (A 9 s 0) 6)
noncomputable def pz_m1 (A : pz_A) (s : Nat) (h : Int64) : Int64 := pz_mx (pz_mx (pz_mx (pz_mx (pz_mf (pz_ps A s) h 7) (pz_rz A s)) (pz_oI (pz_fst A s 6).1)) (pz_cz A s 0)) (pz_cz A s 1)
noncomputable def pz_mS (A : pz_A) (h : Int64) : Nat → Int64
  | 0 => h
  | s + 1 => pz_m1 A s (pz_mS A h s)
theorem pz_mS_s {A : pz_A} {h : Int64} {s : Nat} : pz_mS A h (s + 1) = pz_m1 A s (pz_mS A h s) := rfl
def pz_fz (A : pz_A) (q : Nat) : Int32 := nI (A 13 (q / 6) (q % 6)) - nI 1
noncomputable def pz_h1 (A : pz_A) : Int64 := pz_mS A (pz_mB A 599 (A 0 0 0)) (A 6 0 0)
noncomputable def pz_h2 (A : pz_A) : Int64 := pz_mf (pz_fz A) (pz_h1 A) 36
noncomputable def pz_h3 (A : pz_A) : Int64 := pz_mf (fun q => nI (A 15 0 q)) (pz_h2 A) (A 14 0 0)
noncomputable def pz_h4 (A : pz_A) : Int64 := pz_mx (pz_mx (pz_mx (pz_h3 A) (nI (pz_who A))) (pz_chv A 0 5 0)) (pz_chv A 0 5 1)
noncomputable def pz_h5 (A : pz_A) (n : Nat) (f : Nat → Nat) : Int64 := pz_mf (fun q => nI (f q)) (pz_h4 A) n
noncomputable def pz_dg (A : pz_A) (n : Nat) (f : Nat → Nat) : Int64 := pz_mf (pz_co A n) (pz_h5 A n f) 5
section PZ67
variable {ids : List (Nat × Nat)} {I J I' J' : mm_HI} {L LC LM LC' LM' : mm_HL} {κ f f' : Nat → Nat} {A : pz_A} {k ck n n' g a b v s p q e r m i c d w : Nat} {h : Int64} {x : Int32}
theorem s32 : mm_ev 32 0 [some (.inr (.inl (h))), none, some (.inl (x))] [] (ids, I, L, mm_RS κ) = some (some (.inr (.inl (pz_mx h x))), (ids, I, L, mm_RS κ)) := b32_0 ..
/-- mixRow -/
theorem sC31 (hk : mm_kd r = 1) (hn : mm_ln r < 2 ^ 31) (hm : m ≤ mm_ln r) : mm_ev 31 0 [some (.inr (.inl (h))), none, some (.inr (.inr (r, i))), some (.inl (nI m)), none, none, none] [] (ids, I, L, mm_RS κ) = some (some (.inr (.inl (pz_mf (fun q => I (100 + r) i q) h m))), (ids, I, L, mm_RS κ)) := by
  have hl := pz_loop (fun t => mm_ev 31 6 [some (.inr (.inl (h))), none, some (.inr (.inr (r, i))), some (.inl (nI m)), some (.inr (.inl ((pz_mf (fun q => I (100 + r) i q) h t)))), none, some (.inl (nI t))] [] (ids, I, L, mm_RS κ)) m (fun t ht => ?_)
  · rw [b31_0 _ _ _ _ _ hk]
    refine Eq.trans hl ?_
    try dsimp only
    rw [b31_6 _ _ _ _ _ hk]
    simp (disch := omega) only [b31_36 _ _ _ _ _ hk, pz_k0, pz_k1, pz_k2, pz_k3, pz_k4, pz_k5, pz_k6, pz_k7, pz_k8, pz_k9, pz_k10, pz_k16, pz_k31, pz_k63, pz_km, nI_add, pz_mul, nI_ltI, nI_eq, nI_clamp, pz_inI, Option.bind_some, Option.toList_some, Option.toList_none, List.cons_append, List.nil_append, Nat.zero_add, Nat.mul_zero, Nat.add_zero, Nat.lt_irrefl, pz_bb, pz_bTr, Bool.false_eq_true, pz_bFa, Nat.reduceEqDiff, Nat.reduceLT, ite_not, pz_mE, pz_mE2, pz_mL, pz_mG, not_true_eq_false, not_false_eq_true, if_true, if_false, reduceIte, eq_self, true_or, or_true, or_false, false_or, and_true, true_and, and_false, false_and]
  · try dsimp only
    rw [pz_mf_s, b31_6 _ _ _ _ _ hk]
    simp (disch := omega) only [ht, b31_12 _ _ _ _ _ hk, show Int32.ofNat (mm_ln r) = nI (mm_ln r) from rfl, show t < mm_ln r by omega, b31_19 _ _ _ _ _ hk, b31_25 _ _ _ _ _ hk, s32, b31_28 _ _ _ _ _ hk, pz_k0, pz_k1, pz_k2, pz_k3, pz_k4, pz_k5, pz_k6, pz_k7, pz_k8, pz_k9, pz_k10, pz_k16, pz_k31, pz_k63, pz_km, nI_add, pz_mul, nI_ltI, nI_eq, nI_clamp, pz_inI, Option.bind_some, Option.toList_some, Option.toList_none, List.cons_append, List.nil_append, Nat.zero_add, Nat.mul_zero, Nat.add_zero, Nat.lt_irrefl, pz_bb, pz_bTr, Bool.false_eq_true, pz_bFa, Nat.reduceEqDiff, Nat.reduceLT, ite_not, pz_mE, pz_mE2, pz_mL, pz_mG, not_true_eq_false, not_false_eq_true, if_true, if_false, reduceIte, eq_self, true_or, or_true, or_false, false_or, and_true, true_and, and_false, false_and]
/-- mixBridges -/
theorem sC29 (hA : pz_wf ck A) (hC : pz_C 0 A I κ) : mm_ev 29 0 [some (.inr (.inr (1, 0))), some (.inr (.inl (h))), none, none, none, none, none] [] (ids, I, L, mm_RS κ) = some (some (.inr (.inl (pz_mB A h (A 0 0 0)))), (ids, I, L, mm_RS κ)) := by
  have h9 := hA.2.1
  have h10 := hC.1
  have hl := pz_loopJ (fun b (j : Option mm_V) => mm_ev 29 5 [some (.inr (.inr (1, 0))), some (.inr (.inl (h))), none, some (.inr (.inl ((pz_mB A h b)))), none, some (.inl (nI b)), j] [] (ids, I, L, mm_RS κ)) (A 0 0 0) (fun b j hb => ?_) none
  · obtain ⟨j, hj⟩ := hl
    rw [b29_0]
    refine Eq.trans hj ?_
    try dsimp only
    rw [b29_5]
    simp (disch := omega) only [h10, b29_73, pz_k0, pz_k1, pz_k2, pz_k3, pz_k4, pz_k5, pz_k6, pz_k7, pz_k8, pz_k9, pz_k10, pz_k16, pz_k31, pz_k63, pz_km, nI_add, pz_mul, nI_ltI, nI_eq, nI_clamp, pz_inI, Option.bind_some, Option.toList_some, Option.toList_none, List.cons_append, List.nil_append, Nat.zero_add, Nat.mul_zero, Nat.add_zero, Nat.lt_irrefl, pz_bb, pz_bTr, Bool.false_eq_true, pz_bFa, Nat.reduceEqDiff, Nat.reduceLT, ite_not, pz_mE, pz_mE2, pz_mL, pz_mG, not_true_eq_false, not_false_eq_true, if_true, if_false, reduceIte, eq_self, true_or, or_true, or_false, false_or, and_true, true_and, and_false, false_and]
  · try dsimp only
    have inner := pz_loop (fun w => mm_ev 29 20 [some (.inr (.inr (1, 0))), some (.inr (.inl (h))), none, some (.inr (.inl ((pz_mf (pz_pr A b) (pz_mB A h b) w)))), none, some (.inl (nI b)), some (.inl (nI w))] [] (ids, I, L, mm_RS κ)) 10 (fun w hw => ?_)
    · refine ⟨some (.inl (nI 10)), ?_⟩
      rw [b29_5]
      simp (disch := omega) only [h10, hb, b29_17, pz_k0, pz_k1, pz_k2, pz_k3, pz_k4, pz_k5, pz_k6, pz_k7, pz_k8, pz_k9, pz_k10, pz_k16, pz_k31, pz_k63, pz_km, nI_add, pz_mul, nI_ltI, nI_eq, nI_clamp, pz_inI, Option.bind_some, Option.toList_some, Option.toList_none, List.cons_append, List.nil_append, Nat.zero_add, Nat.mul_zero, Nat.add_zero, Nat.lt_irrefl, pz_bb, pz_bTr, Bool.false_eq_true, pz_bFa, Nat.reduceEqDiff, Nat.reduceLT, ite_not, pz_mE, pz_mE2, pz_mL, pz_mG, not_true_eq_false, not_false_eq_true, if_true, if_false, reduceIte, eq_self, true_or, or_true, or_false, false_or, and_true, true_and, and_false, false_and]
      refine Eq.trans inner ?_
      try dsimp only
      rw [b29_20, pz_mB_s]
      simp (disch := omega) only [b29_53, sC64 hA hC hb, b29_63, s32, b29_66, pz_k0, pz_k1, pz_k2, pz_k3, pz_k4, pz_k5, pz_k6, pz_k7, pz_k8, pz_k9, pz_k10, pz_k16, pz_k31, pz_k63, pz_km, nI_add, pz_mul, nI_ltI, nI_eq, nI_clamp, pz_inI, Option.bind_some, Option.toList_some, Option.toList_none, List.cons_append, List.nil_append, Nat.zero_add, Nat.mul_zero, Nat.add_zero, Nat.lt_irrefl, pz_bb, pz_bTr, Bool.false_eq_true, pz_bFa, Nat.reduceEqDiff, Nat.reduceLT, ite_not, pz_mE, pz_mE2, pz_mL, pz_mG, not_true_eq_false, not_false_eq_true, if_true, if_false, reduceIte, eq_self, true_or, or_true, or_false, false_or, and_true, true_and, and_false, false_and]
    · try dsimp only
      rw [pz_mf_s, b29_20]
      simp (disch := omega) only [show ¬ 9 < w by omega, b29_27, show b < 9 by omega, b29_38, sC74 hA hC hb (show w ≤ 9 by omega), b29_43, s32, b29_46, pz_k0, pz_k1, pz_k2, pz_k3, pz_k4, pz_k5, pz_k6, pz_k7, pz_k8, pz_k9, pz_k10, pz_k16, pz_k31, pz_k63, pz_km, nI_add, pz_mul, nI_ltI, nI_eq, nI_clamp, pz_inI, Option.bind_some, Option.toList_some, Option.toList_none, List.cons_append, List.nil_append, Nat.zero_add, Nat.mul_zero, Nat.add_zero, Nat.lt_irrefl, pz_bb, pz_bTr, Bool.false_eq_true, pz_bFa, Nat.reduceEqDiff, Nat.reduceLT, ite_not, pz_mE, pz_mE2, pz_mL, pz_mG, not_true_eq_false, not_false_eq_true, if_true, if_false, reduceIte, eq_self, true_or, or_true, or_false, false_or, and_true, true_and, and_false, false_and]
/-- mixSingers -/
theorem sC30 (hA : pz_wf ck A) (hC : pz_C 0 A I κ) : ∃ I', mm_ev 30 0 [some (.inr (.inr (1, 0))), some (.inr (.inl (h))), none, none, none, none, none, none] [] (ids, I, L, mm_RS κ) = some (some (.inr (.inl (pz_mS A h (A 6 0 0)))), (ids, I', L, mm_RS κ)) ∧ pz_fr I I' := by
  have h5 := hA.2.2.2.1
  have hl := pz_loopP (fun s (j : (Option mm_V × Option mm_V) × mm_HI) => mm_ev 30 5 [some (.inr (.inr (1, 0))), some (.inr (.inl (h))), none, some (.inr (.inl ((pz_mS A h s)))), none, some (.inl (nI s)), j.1.1, j.1.2] [] (ids, j.2, L, mm_RS κ)) (fun _ j => pz_fr I j.2) (A 6 0 0) (fun s j hs hj => ?_) ((none, none), I) pz_fr0
  · obtain ⟨j, hj, hf⟩ := hl
    have h12 := (pz_C_fr hf hC).2.2.1
    refine ⟨j.2, ?_, hf⟩
    rw [b30_0]
    refine Eq.trans hj ?_
    try dsimp only
    rw [b30_5]
    simp (disch := omega) only [h12, b30_130, pz_k0, pz_k1, pz_k2, pz_k3, pz_k4, pz_k5, pz_k6, pz_k7, pz_k8, pz_k9, pz_k10, pz_k16, pz_k31, pz_k63, pz_km, nI_add, pz_mul, nI_ltI, nI_eq, nI_clamp, pz_inI, Option.bind_some, Option.toList_some, Option.toList_none, List.cons_append, List.nil_append, Nat.zero_add, Nat.mul_zero, Nat.add_zero, Nat.lt_irrefl, pz_bb, pz_bTr, Bool.false_eq_true, pz_bFa, Nat.reduceEqDiff, Nat.reduceLT, ite_not, pz_mE, pz_mE2, pz_mL, pz_mG, not_true_eq_false, not_false_eq_true, if_true, if_false, reduceIte, eq_self, true_or, or_true, or_false, false_or, and_true, true_and, and_false, false_and]
  · try dsimp only at hj
    try dsimp only
    have hC' := pz_C_fr hj hC
    have h12 := hC'.2.2.1
    have a8 := (hA.2.2.2.2.1 s hs).2.1
    have d2 := (pz_C0s hC' hs).2.1
    have inner := pz_loop (fun w => mm_ev 30 32 [some (.inr (.inr (1, 0))), some (.inr (.inl (h))), none, some (.inr (.inl ((pz_mf (pz_ps A s) (pz_mS A h s) w)))), none, some (.inl (nI s)), some (.inr (.inr (6, s))), some (.inl (nI w))] [] (ids, j.2, L, mm_RS κ)) 7 (fun w hw => ?_)
    · have f1 : pz_fr I (pz_w j.2 119 6 (pz_T A (A 8 s 0) (A 7 s 0))) := pz_frT hj (pz_w_fr rfl)
      obtain ⟨D, t1⟩ := sC99 (ids := ids) (L := L) hA (pz_C_fr f1 hC) hs
      rw [pz_w_w] at t1
      have f2 : pz_fr I (pz_w j.2 119 6 D) := pz_frT hj (pz_w_fr rfl)
      obtain ⟨I2, u1, u2, u3, u4⟩ := sC100 (ids := ids) (L := L) (pl := 5) hA (pz_C_fr f2 hC) hs (by decide)
      refine ⟨((some (.inr (.inr (6, s))), some (.inl (nI 7))), I2), ?_, pz_frT f2 u2⟩
      try dsimp only
      rw [b30_5]
      simp (disch := omega) only [h12, hs, b30_17, show s < 5 by omega, b30_27, pz_k0, pz_k1, pz_k2, pz_k3, pz_k4, pz_k5, pz_k6, pz_k7, pz_k8, pz_k9, pz_k10, pz_k16, pz_k31, pz_k63, pz_km, nI_add, pz_mul, nI_ltI, nI_eq, nI_clamp, pz_inI, Option.bind_some, Option.toList_some, Option.toList_none, List.cons_append, List.nil_append, Nat.zero_add, Nat.mul_zero, Nat.add_zero, Nat.lt_irrefl, pz_bb, pz_bTr, Bool.false_eq_true, pz_bFa, Nat.reduceEqDiff, Nat.reduceLT, ite_not, pz_mE, pz_mE2, pz_mL, pz_mG, not_true_eq_false, not_false_eq_true, if_true, if_false, reduceIte, eq_self, true_or, or_true, or_false, false_or, and_true, true_and, and_false, false_and]
      refine Eq.trans inner ?_
      try dsimp only
      rw [b30_32, pz_mS_s]
      simp (disch := omega) only [b30_57, d2, sC98 hA hC' hs a8, b30_72, s32, b30_75, t1, b30_86, b30_89, u1, b30_100, u3, b30_111, u4, b30_123, pz_k0, pz_k1, pz_k2, pz_k3, pz_k4, pz_k5, pz_k6, pz_k7, pz_k8, pz_k9, pz_k10, pz_k16, pz_k31, pz_k63, pz_km, nI_add, pz_mul, nI_ltI, nI_eq, nI_clamp, pz_inI, Option.bind_some, Option.toList_some, Option.toList_none, List.cons_append, List.nil_append, Nat.zero_add, Nat.mul_zero, Nat.add_zero, Nat.lt_irrefl, pz_bb, pz_bTr, Bool.false_eq_true, pz_bFa, Nat.reduceEqDiff, Nat.reduceLT, ite_not, pz_mE, pz_mE2, pz_mL, pz_mG, not_true_eq_false, not_false_eq_true, if_true, if_false, reduceIte, eq_self, true_or, or_true, or_false, false_or, and_true, true_and, and_false, false_and]
      rfl
    · try dsimp only
      rw [pz_mf_s, b30_32]
      simp (disch := omega) only [show ¬ 6 < w by omega, b30_39, sC86 hA hC' hs (show w ≤ 6 by omega), b30_47, s32, b30_50, pz_k0, pz_k1, pz_k2, pz_k3, pz_k4, pz_k5, pz_k6, pz_k7, pz_k8, pz_k9, pz_k10, pz_k16, pz_k31, pz_k63, pz_km, nI_add, pz_mul, nI_ltI, nI_eq, nI_clamp, pz_inI, Option.bind_some, Option.toList_some, Option.toList_none, List.cons_append, List.nil_append, Nat.zero_add, Nat.mul_zero, Nat.add_zero, Nat.lt_irrefl, pz_bb, pz_bTr, Bool.false_eq_true, pz_bFa, Nat.reduceEqDiff, Nat.reduceLT, ite_not, pz_mE, pz_mE2, pz_mL, pz_mG, not_true_eq_false, not_false_eq_true, if_true, if_false, reduceIte, eq_self, true_or, or_true, or_false, false_or, and_true, true_and, and_false, false_and]
theorem pz_chv0 : pz_chv A a b 0 = pz_oP (pz_ch A a b (2 ^ A 6 0 0)) := by
  unfold pz_chv
  cases pz_ch A a b (2 ^ A 6 0 0) <;> rfl
theorem pz_chv1 : pz_chv A a b 1 = pz_oI (pz_ch A a b (2 ^ A 6 0 0)) := by
  unfold pz_chv
  cases pz_ch A a b (2 ^ A 6 0 0) <;> rfl
/-- the class's digest -/
theorem sC28 (hA : pz_wf ck A) (hC : pz_C 0 A I κ) (hp : pz_cp n f I) : ∃ I', mm_ev 28 0 [some (.inr (.inr (1, 0))), none, none, none, none] [] (ids, I, L, mm_RS κ) = some (some (.inr (.inl (pz_dg A n f))), (ids, I', L, mm_RS κ)) ∧ pz_fr I I' := by
  obtain ⟨I', t1, t2⟩ := sC30 (ids := ids) (L := L) (h := pz_mB A 599 (A 0 0 0)) hA hC
  refine ⟨I', ?_, t2⟩
  have hC' := pz_C_fr t2 hC
  obtain ⟨g1, g2, g3, g4⟩ := hp
  have e8 : I' 8 0 0 = nI n := by rw [t2 8 rfl]; exact g3
  have h15 := hC'.2.2.2.2.2.1
  have h10 := hA.2.2.2.2.2.2.1
  have hN := pz_n32 hA
  have kd15 : mm_kd 15 = 1 := by decide +kernel
  have kd16 : mm_kd 16 = 1 := by decide +kernel
  have kd10 : mm_kd 10 = 1 := by decide +kernel
  have ln15 : mm_ln 15 = 6 := by decide +kernel
  have ln16 : mm_ln 16 = 10 := by decide +kernel
  have ln10 : mm_ln 10 = 16 := by decide +kernel
  have lf := pz_loop (fun p => mm_ev 28 16 [some (.inr (.inr (1, 0))), some (.inr (.inl ((pz_mf (pz_fz A) (pz_h1 A) (6 * p))))), none, some (.inl (nI p)), none] [] (ids, I', L, mm_RS κ)) 6 (fun p hp => ?_)
  · have row2 : mm_ev 31 0 [some (.inr (.inl ((pz_h2 A)))), none, some (.inr (.inr (16, 0))), some (.inl (nI (A 14 0 0))), none, none, none] [] (ids, I', L, mm_RS κ) = some (some (.inr (.inl (pz_h3 A))), (ids, I', L, mm_RS κ)) := by
      rw [sC31 kd16 (by rw [ln16]; decide) (by rw [ln16]; exact h10)]
      rw [pz_mf_eq (F := fun q => I' (100 + 16) 0 q) (G := fun q => nI (A 15 0 q)) (A 14 0 0) (fun q hq => hC'.2.2.2.2.2.2 q hq)]
      rfl
    have row3 : mm_ev 31 0 [some (.inr (.inl ((pz_h4 A)))), none, some (.inr (.inr (10, 0))), some (.inl (nI n)), none, none, none] [] (ids, I', L, mm_RS κ) = some (some (.inr (.inl (pz_h5 A n f))), (ids, I', L, mm_RS κ)) := by
      rw [sC31 kd10 (by rw [ln10]; decide) (by rw [ln10]; exact g1)]
      rw [pz_mf_eq (F := fun q => I' (100 + 10) 0 q) (G := fun q => nI (f q)) n (fun q hq => by show I' 110 0 q = nI (f q); rw [t2 110 rfl]; exact g4 q hq)]
      rfl
    have h33 := sC33 (ids := ids) (I := I') (L := L) (κ := κ) (o := pz_ch A 0 5 (2 ^ A 6 0 0)) (fun d hd => by have := pz_ch_lt _ _ hd; omega)
    have h103 := sC103 (ids := ids) (L := L) hA hC' (a := 0) (b := 5) (by decide) (by decide)
    have lc := pz_loop (fun w => mm_ev 28 119 [some (.inr (.inr (1, 0))), some (.inr (.inl ((pz_mf (pz_co A n) (pz_h5 A n f) w)))), none, some (.inl (pz_chv A 0 5 1)), some (.inl (nI w))] [] (ids, I', L, mm_RS κ)) 5 (fun w hw => ?_)
    · have hst : mm_ev 28 0 [some (.inr (.inr (1, 0))), none, none, none, none] [] (ids, I, L, mm_RS κ) = mm_ev 28 16 [some (.inr (.inr (1, 0))), some (.inr (.inl ((pz_mf (pz_fz A) (pz_h1 A) (6 * 0))))), none, some (.inl (nI 0)), none] [] (ids, I', L, mm_RS κ) := by
        rw [b28_0, sC29 hA hC]
        simp (disch := omega) only [b28_7, t1, b28_13, pz_k0, pz_k1, pz_k2, pz_k3, pz_k4, pz_k5, pz_k6, pz_k7, pz_k8, pz_k9, pz_k10, pz_k16, pz_k31, pz_k63, pz_km, nI_add, pz_mul, nI_ltI, nI_eq, nI_clamp, pz_inI, Option.bind_some, Option.toList_some, Option.toList_none, List.cons_append, List.nil_append, Nat.zero_add, Nat.mul_zero, Nat.add_zero, Nat.lt_irrefl, pz_bb, pz_bTr, Bool.false_eq_true, pz_bFa, Nat.reduceEqDiff, Nat.reduceLT, ite_not, pz_mE, pz_mE2, pz_mL, pz_mG, not_true_eq_false, not_false_eq_true, if_true, if_false, reduceIte, eq_self, true_or, or_true, or_false, false_or, and_true, true_and, and_false, false_and]
        rfl
      rw [hst]
      refine Eq.trans lf ?_
      try dsimp only
      rw [b28_16, show pz_mf (pz_fz A) (pz_h1 A) (6 * 6) = pz_h2 A from rfl]
      simp (disch := omega) only [b28_44, h15, row2, b28_62, sC23 hA hC', b28_68, s32, b28_71, h103, b28_81, h33, b28_87, s32, b28_90, pz_k0, pz_k1, pz_k2, pz_k3, pz_k4, pz_k5, pz_k6, pz_k7, pz_k8, pz_k9, pz_k10, pz_k16, pz_k31, pz_k63, pz_km, nI_add, pz_mul, nI_ltI, nI_eq, nI_clamp, pz_inI, Option.bind_some, Option.toList_some, Option.toList_none, List.cons_append, List.nil_append, Nat.zero_add, Nat.mul_zero, Nat.add_zero, Nat.lt_irrefl, pz_bb, pz_bTr, Bool.false_eq_true, pz_bFa, Nat.reduceEqDiff, Nat.reduceLT, ite_not, pz_mE, pz_mE2, pz_mL, pz_mG, not_true_eq_false, not_false_eq_true, if_true, if_false, reduceIte, eq_self, true_or, or_true, or_false, false_or, and_true, true_and, and_false, false_and]
      rw [← pz_chv0, ← pz_chv1, show pz_mx (pz_mx (pz_mx (pz_h3 A) (nI (pz_who A))) (pz_chv A 0 5 0)) (pz_chv A 0 5 1) = pz_h4 A from rfl]
      simp (disch := omega) only [b28_96, e8, row3, b28_115, pz_k0, pz_k1, pz_k2, pz_k3, pz_k4, pz_k5, pz_k6, pz_k7, pz_k8, pz_k9, pz_k10, pz_k16, pz_k31, pz_k63, pz_km, nI_add, pz_mul, nI_ltI, nI_eq, nI_clamp, pz_inI, Option.bind_some, Option.toList_some, Option.toList_none, List.cons_append, List.nil_append, Nat.zero_add, Nat.mul_zero, Nat.add_zero, Nat.lt_irrefl, pz_bb, pz_bTr, Bool.false_eq_true, pz_bFa, Nat.reduceEqDiff, Nat.reduceLT, ite_not, pz_mE, pz_mE2, pz_mL, pz_mG, not_true_eq_false, not_false_eq_true, if_true, if_false, reduceIte, eq_self, true_or, or_true, or_false, false_or, and_true, true_and, and_false, false_and]
      refine Eq.trans lc ?_
      try dsimp only
      rw [b28_119]
      simp (disch := omega) only [b28_142, pz_k0, pz_k1, pz_k2, pz_k3, pz_k4, pz_k5, pz_k6, pz_k7, pz_k8, pz_k9, pz_k10, pz_k16, pz_k31, pz_k63, pz_km, nI_add, pz_mul, nI_ltI, nI_eq, nI_clamp, pz_inI, Option.bind_some, Option.toList_some, Option.toList_none, List.cons_append, List.nil_append, Nat.zero_add, Nat.mul_zero, Nat.add_zero, Nat.lt_irrefl, pz_bb, pz_bTr, Bool.false_eq_true, pz_bFa, Nat.reduceEqDiff, Nat.reduceLT, ite_not, pz_mE, pz_mE2, pz_mL, pz_mG, not_true_eq_false, not_false_eq_true, if_true, if_false, reduceIte, eq_self, true_or, or_true, or_false, false_or, and_true, true_and, and_false, false_and]
      rfl
    · try dsimp only
      rw [pz_mf_s, b28_119]
      simp (disch := omega) only [show ¬ 4 < w by omega, b28_125, sC27 hA hC' e8 (show w ≤ 4 by omega), b28_132, s32, b28_135, pz_k0, pz_k1, pz_k2, pz_k3, pz_k4, pz_k5, pz_k6, pz_k7, pz_k8, pz_k9, pz_k10, pz_k16, pz_k31, pz_k63, pz_km, nI_add, pz_mul, nI_ltI, nI_eq, nI_clamp, pz_inI, Option.bind_some, Option.toList_some, Option.toList_none, List.cons_append, List.nil_append, Nat.zero_add, Nat.mul_zero, Nat.add_zero, Nat.lt_irrefl, pz_bb, pz_bTr, Bool.false_eq_true, pz_bFa, Nat.reduceEqDiff, Nat.reduceLT, ite_not, pz_mE, pz_mE2, pz_mL, pz_mG, not_true_eq_false, not_false_eq_true, if_true, if_false, reduceIte, eq_self, true_or, or_true, or_false, false_or, and_true, true_and, and_false, false_and]
  · try dsimp only
    have row1 : mm_ev 31 0 [some (.inr (.inl ((pz_mf (pz_fz A) (pz_h1 A) (6 * p))))), none, some (.inr (.inr (15, p))), some (.inl (nI 6)), none, none, none] [] (ids, I', L, mm_RS κ) = some (some (.inr (.inl (pz_mf (pz_fz A) (pz_h1 A) (6 * p + 6)))), (ids, I', L, mm_RS κ)) := by
      rw [sC31 kd15 (by rw [ln15]; decide) (by rw [ln15]; decide)]
      rw [pz_mf_eq (F := fun q => I' (100 + 15) p q) (G := fun q => pz_fz A (6 * p + q)) 6 (fun q hq => by
        show I' 115 p q = pz_fz A (6 * p + q)
        rw [pz_C0f hC' hp hq]
        unfold pz_fz
        rw [show (6 * p + q) / 6 = p by omega, show (6 * p + q) % 6 = q by omega])]
      rw [pz_mf_add]
    rw [b28_16, show 6 * (p + 1) = 6 * p + 6 by omega]
    simp (disch := omega) only [hp, b28_22, b28_32, row1, b28_37, pz_k0, pz_k1, pz_k2, pz_k3, pz_k4, pz_k5, pz_k6, pz_k7, pz_k8, pz_k9, pz_k10, pz_k16, pz_k31, pz_k63, pz_km, nI_add, pz_mul, nI_ltI, nI_eq, nI_clamp, pz_inI, Option.bind_some, Option.toList_some, Option.toList_none, List.cons_append, List.nil_append, Nat.zero_add, Nat.mul_zero, Nat.add_zero, Nat.lt_irrefl, pz_bb, pz_bTr, Bool.false_eq_true, pz_bFa, Nat.reduceEqDiff, Nat.reduceLT, ite_not, pz_mE, pz_mE2, pz_mL, pz_mG, not_true_eq_false, not_false_eq_true, if_true, if_false, reduceIte, eq_self, true_or, or_true, or_false, false_or, and_true, true_and, and_false, false_and]
theorem s173 (hL : L 85 0 = h) : ∃ L', mm_ev 173 0 [some (.inr (.inr (9, 0))), some (.inr (.inl ((x.toInt64)))), none] [] (ids, I, L, mm_RM) = some (none, (ids, I, L', mm_RM)) ∧ L' 85 0 = pz_mx h x := by
  refine ⟨mm_uL L 85 0 (31 * L 85 0 + x.toInt64), b173_0 .., ?_⟩
  rw [pz_uL_s, hL]
  rfl
/-- mixSinger -/
theorem sM174 (hA : pz_wf ck A) (hM : pz_M A I) (hs : s < A 6 0 0) (hL : L 85 0 = h) : ∃ J' L', mm_ev 174 0 [some (.inr (.inr (9, 0))), some (.inl (nI s)), none] [] (ids, I, L, mm_RM) = some (none, (ids, J', L', mm_RM)) ∧ pz_fr I J' ∧ L' 85 0 = pz_m1 A s h := by
  have h5 := hA.2.2.2.1
  have hs5 : s < 5 := by omega
  have a8 := (hA.2.2.2.2.1 s hs).2.1
  have d2 := (pz_M0s hM hs).2.1
  have hl := pz_loopP (fun w (j : mm_HL) => mm_ev 174 2 [some (.inr (.inr (9, 0))), some (.inl (nI s)), some (.inl (nI w))] [] (ids, I, j, mm_RM)) (fun w j => j 85 0 = pz_mf (pz_ps A s) h w) 7 (fun w j hw hj => ?_) L hL
  · obtain ⟨L0, l0, l1⟩ := hl
    obtain ⟨J1, hJ1⟩ : ∃ J1, J1 = pz_w I 137 6 (pz_G A (A 8 s 0) (A 7 s 0)) := ⟨_, rfl⟩
    have f1 : pz_fr I J1 := by
      rw [hJ1]
      exact pz_w_fr rfl
    have h150 := sM150 (ids := ids) (L := L0) hA hM hs a8
    rw [← hJ1] at h150
    obtain ⟨L1, m1, e1⟩ := s173 (ids := ids) (I := J1) (x := pz_rz A s) l1
    obtain ⟨D, h152⟩ := sM152 (ids := ids) (L := L1) hA (pz_M_fr f1 hM) hs
    obtain ⟨J2, hJ2⟩ : ∃ J2, J2 = pz_w J1 137 6 D := ⟨_, rfl⟩
    rw [← hJ2] at h152
    have f2 : pz_fr I J2 := by
      rw [hJ2]
      exact pz_frT f1 (pz_w_fr rfl)
    obtain ⟨L2, m2, e2⟩ := s173 (ids := ids) (I := J2) (x := pz_oI (pz_fst A s 6).1) e1
    obtain ⟨J3, h155, f3⟩ := sM155 (ids := ids) (L := L2) (pl := 5) (w := 0) hA (pz_M_fr f2 hM) hs (by decide) (by decide)
    have f3' := pz_frT f2 f3
    obtain ⟨L3, m3, e3⟩ := s173 (ids := ids) (I := J3) (x := pz_cz A s 0) e2
    obtain ⟨J4, h155b, f4⟩ := sM155 (ids := ids) (L := L3) (pl := 5) (w := 1) hA (pz_M_fr f3' hM) hs (by decide) (by decide)
    obtain ⟨L4, m4, e4⟩ := s173 (ids := ids) (I := J4) (x := pz_cz A s 1) e3
    unfold pz_rz at m1
    unfold pz_cz at m3 m4
    refine ⟨J4, L4, ?_, pz_frT f3' f4, e4⟩
    rw [b174_0]
    refine Eq.trans l0 ?_
    try dsimp only
    rw [b174_2]
    simp (disch := omega) only [b174_25, hs5, d2, b174_34, h150, b174_37, m1, b174_41, h152, b174_47, m2, b174_51, h155, b174_59, m3, b174_63, h155b, b174_71, m4, b174_75, show (7 : Int32) = nI 7 from rfl, pz_k0, pz_k1, pz_k2, pz_k3, pz_k4, pz_k5, pz_k6, pz_k7, pz_k8, pz_k9, pz_k10, pz_k16, pz_k31, pz_k63, pz_km, nI_add, pz_mul, nI_ltI, nI_eq, nI_clamp, pz_inI, Option.bind_some, Option.toList_some, Option.toList_none, List.cons_append, List.nil_append, Nat.zero_add, Nat.mul_zero, Nat.add_zero, Nat.lt_irrefl, pz_bb, pz_bTr, Bool.false_eq_true, pz_bFa, Nat.reduceEqDiff, Nat.reduceLT, ite_not, pz_mE, pz_mE2, pz_mL, pz_mG, not_true_eq_false, not_false_eq_true, if_true, if_false, reduceIte, eq_self, true_or, or_true, or_false, false_or, and_true, true_and, and_false, false_and]
  · try dsimp only at hj
    try dsimp only
    obtain ⟨L1, m1, e1⟩ := s173 (ids := ids) (I := I) (x := pz_ps A s w) hj
    refine ⟨L1, ?_, e1⟩
    rw [b174_2]
    simp (disch := omega) only [hw, b174_8, sM137 hA hM hs (show w ≤ 6 by omega), b174_15, m1, b174_19, pz_k0, pz_k1, pz_k2, pz_k3, pz_k4, pz_k5, pz_k6, pz_k7, pz_k8, pz_k9, pz_k10, pz_k16, pz_k31, pz_k63, pz_km, nI_add, pz_mul, nI_ltI, nI_eq, nI_clamp, pz_inI, Option.bind_some, Option.toList_some, Option.toList_none, List.cons_append, List.nil_append, Nat.zero_add, Nat.mul_zero, Nat.add_zero, Nat.lt_irrefl, pz_bb, pz_bTr, Bool.false_eq_true, pz_bFa, Nat.reduceEqDiff, Nat.reduceLT, ite_not, pz_mE, pz_mE2, pz_mL, pz_mG, not_true_eq_false, not_false_eq_true, if_true, if_false, reduceIte, eq_self, true_or, or_true, or_false, false_or, and_true, true_and, and_false, false_and]
/-- the model's digest -/
theorem sM175 (hA : pz_wf ck A) (hM : pz_M A I) (hp : pz_mp n f I) : ∃ J' L', mm_ev 175 0 [some (.inr (.inr (9, 0))), none, none] [] (ids, I, L, mm_RM) = some (some (.inr (.inl (pz_dg A n f))), (ids, J', L', mm_RM)) ∧ pz_fr I J' := by
  have h9 := hA.2.1
  have h5 := hA.2.2.2.1
  have h10 := hA.2.2.2.2.2.2.1
  obtain ⟨g1, g2, g3, g4⟩ := hp
  have l1 := pz_loopP (fun b (j : Option mm_V × mm_HL) => mm_ev 175 9 [some (.inr (.inr (9, 0))), some (.inl (nI b)), j.1] [] (ids, I, j.2, mm_RM)) (fun b j => j.2 85 0 = pz_mB A 599 b) (A 0 0 0) (fun b j hb hj => ?_) (none, mm_uL L 85 0 599) (show mm_uL L 85 0 599 85 0 = 599 from pz_uL_s)
  · obtain ⟨j1, s1, t1⟩ := l1
    try dsimp only at s1 t1
    have l2 := pz_loopP (fun s (j : mm_HI × mm_HL) => mm_ev 175 60 [some (.inr (.inr (9, 0))), some (.inl (nI s)), j1.1] [] (ids, j.1, j.2, mm_RM)) (fun s j => pz_fr I j.1 ∧ j.2 85 0 = pz_mS A (pz_mB A 599 (A 0 0 0)) s) (A 6 0 0) (fun s j hs hj => ?_) (I, j1.2) ⟨pz_fr0, t1⟩
    · obtain ⟨⟨J2, L2⟩, s2, f2, t2⟩ := l2
      try dsimp only at s2 f2 t2
      have hM2 := pz_M_fr f2 hM
      have l3 := pz_loopP (fun q (j : mm_HL) => mm_ev 175 81 [some (.inr (.inr (9, 0))), some (.inl (nI q)), j1.1] [] (ids, J2, j, mm_RM)) (fun q j => j 85 0 = pz_mf (pz_fz A) (pz_h1 A) q) 36 (fun q j hq hj => ?_) L2 t2
      · obtain ⟨L3, s3, t3⟩ := l3
        have h57 := (pz_M0 hM2).2.2.2.1
        have l4 := pz_loopP (fun q (j : mm_HL) => mm_ev 175 108 [some (.inr (.inr (9, 0))), some (.inl (nI q)), j1.1] [] (ids, J2, j, mm_RM)) (fun q j => j 85 0 = pz_mf (fun q => nI (A 15 0 q)) (pz_h2 A) q) (A 14 0 0) (fun q j hq hj => ?_) L3 t3
        · obtain ⟨L4, s4, t4⟩ := l4
          obtain ⟨L5, m5, t5⟩ := s173 (ids := ids) (I := J2) (x := nI (pz_who A)) t4
          obtain ⟨J6, h6, f6⟩ := sM157 (ids := ids) (L := L5) (a := 0) (b := 5) (w := 0) hA hM2 (by decide) (by decide) (by decide)
          have f6' := pz_frT f2 f6
          obtain ⟨L6, m6, t6⟩ := s173 (ids := ids) (I := J6) (x := pz_chv A 0 5 0) t5
          obtain ⟨J7, h7, f7⟩ := sM157 (ids := ids) (L := L6) (a := 0) (b := 5) (w := 1) hA (pz_M_fr f6' hM) (by decide) (by decide) (by decide)
          have f7' := pz_frT f6' f7
          obtain ⟨L7, m7, t7⟩ := s173 (ids := ids) (I := J7) (x := pz_chv A 0 5 1) t6
          have hM7 := pz_M_fr f7' hM
          have e59 : J7 59 0 0 = nI n := by rw [f7' 59 rfl]; exact g3
          have l5 := pz_loopP (fun q (j : mm_HL) => mm_ev 175 168 [some (.inr (.inr (9, 0))), some (.inl (nI q)), j1.1] [] (ids, J7, j, mm_RM)) (fun q j => j 85 0 = pz_mf (fun q => nI (f q)) (pz_h4 A) q) n (fun q j hq hj => ?_) L7 t7
          · obtain ⟨L8, s8, t8⟩ := l5
            have l6 := pz_loopP (fun q (j : mm_HL) => mm_ev 175 195 [some (.inr (.inr (9, 0))), some (.inl (nI q)), j1.1] [] (ids, J7, j, mm_RM)) (fun q j => j 85 0 = pz_mf (pz_co A n) (pz_h5 A n f) q) 5 (fun q j hq hj => ?_) L8 t8
            · obtain ⟨L9, s9, t9⟩ := l6
              refine ⟨J7, L9, ?_, f7'⟩
              have h41 := (pz_M0 hM).1
              have h47 := (pz_M0 hM2).2.1
              rw [b175_0, pz_k0]
              refine Eq.trans s1 ?_
              rw [b175_9]
              simp (disch := omega) only [h41, b175_58, pz_k0, pz_k1, pz_k2, pz_k3, pz_k4, pz_k5, pz_k6, pz_k7, pz_k8, pz_k9, pz_k10, pz_k16, pz_k31, pz_k63, pz_km, nI_add, pz_mul, nI_ltI, nI_eq, nI_clamp, pz_inI, Option.bind_some, Option.toList_some, Option.toList_none, List.cons_append, List.nil_append, Nat.zero_add, Nat.mul_zero, Nat.add_zero, Nat.lt_irrefl, pz_bb, pz_bTr, Bool.false_eq_true, pz_bFa, Nat.reduceEqDiff, Nat.reduceLT, ite_not, pz_mE, pz_mE2, pz_mL, pz_mG, not_true_eq_false, not_false_eq_true, if_true, if_false, reduceIte, eq_self, true_or, or_true, or_false, false_or, and_true, true_and, and_false, false_and]
              refine Eq.trans s2 ?_
              rw [b175_60]
              simp (disch := omega) only [h47, b175_79, pz_k0, pz_k1, pz_k2, pz_k3, pz_k4, pz_k5, pz_k6, pz_k7, pz_k8, pz_k9, pz_k10, pz_k16, pz_k31, pz_k63, pz_km, nI_add, pz_mul, nI_ltI, nI_eq, nI_clamp, pz_inI, Option.bind_some, Option.toList_some, Option.toList_none, List.cons_append, List.nil_append, Nat.zero_add, Nat.mul_zero, Nat.add_zero, Nat.lt_irrefl, pz_bb, pz_bTr, Bool.false_eq_true, pz_bFa, Nat.reduceEqDiff, Nat.reduceLT, ite_not, pz_mE, pz_mE2, pz_mL, pz_mG, not_true_eq_false, not_false_eq_true, if_true, if_false, reduceIte, eq_self, true_or, or_true, or_false, false_or, and_true, true_and, and_false, false_and]
              refine Eq.trans s3 ?_
              try dsimp only
              rw [b175_81]
              simp (disch := omega) only [pz_k36, b175_106, pz_k0, pz_k1, pz_k2, pz_k3, pz_k4, pz_k5, pz_k6, pz_k7, pz_k8, pz_k9, pz_k10, pz_k16, pz_k31, pz_k63, pz_km, nI_add, pz_mul, nI_ltI, nI_eq, nI_clamp, pz_inI, Option.bind_some, Option.toList_some, Option.toList_none, List.cons_append, List.nil_append, Nat.zero_add, Nat.mul_zero, Nat.add_zero, Nat.lt_irrefl, pz_bb, pz_bTr, Bool.false_eq_true, pz_bFa, Nat.reduceEqDiff, Nat.reduceLT, ite_not, pz_mE, pz_mE2, pz_mL, pz_mG, not_true_eq_false, not_false_eq_true, if_true, if_false, reduceIte, eq_self, true_or, or_true, or_false, false_or, and_true, true_and, and_false, false_and]
              refine Eq.trans s4 ?_
              try dsimp only
              rw [b175_108]
              simp (disch := omega) only [h57, b175_133, sM162 hA hM2, b175_138, m5, b175_142, h6, b175_150, m6, b175_154, h7, b175_162, m7, b175_166, pz_k0, pz_k1, pz_k2, pz_k3, pz_k4, pz_k5, pz_k6, pz_k7, pz_k8, pz_k9, pz_k10, pz_k16, pz_k31, pz_k63, pz_km, nI_add, pz_mul, nI_ltI, nI_eq, nI_clamp, pz_inI, Option.bind_some, Option.toList_some, Option.toList_none, List.cons_append, List.nil_append, Nat.zero_add, Nat.mul_zero, Nat.add_zero, Nat.lt_irrefl, pz_bb, pz_bTr, Bool.false_eq_true, pz_bFa, Nat.reduceEqDiff, Nat.reduceLT, ite_not, pz_mE, pz_mE2, pz_mL, pz_mG, not_true_eq_false, not_false_eq_true, if_true, if_false, reduceIte, eq_self, true_or, or_true, or_false, false_or, and_true, true_and, and_false, false_and]
              refine Eq.trans s8 ?_
              try dsimp only
              rw [b175_168]
              simp (disch := omega) only [e59, b175_193, pz_k0, pz_k1, pz_k2, pz_k3, pz_k4, pz_k5, pz_k6, pz_k7, pz_k8, pz_k9, pz_k10, pz_k16, pz_k31, pz_k63, pz_km, nI_add, pz_mul, nI_ltI, nI_eq, nI_clamp, pz_inI, Option.bind_some, Option.toList_some, Option.toList_none, List.cons_append, List.nil_append, Nat.zero_add, Nat.mul_zero, Nat.add_zero, Nat.lt_irrefl, pz_bb, pz_bTr, Bool.false_eq_true, pz_bFa, Nat.reduceEqDiff, Nat.reduceLT, ite_not, pz_mE, pz_mE2, pz_mL, pz_mG, not_true_eq_false, not_false_eq_true, if_true, if_false, reduceIte, eq_self, true_or, or_true, or_false, false_or, and_true, true_and, and_false, false_and]
              refine Eq.trans s9 ?_
              try dsimp only
              rw [b175_195]
              simp (disch := omega) only [b175_216, t9, pz_k0, pz_k1, pz_k2, pz_k3, pz_k4, pz_k5, pz_k6, pz_k7, pz_k8, pz_k9, pz_k10, pz_k16, pz_k31, pz_k63, pz_km, nI_add, pz_mul, nI_ltI, nI_eq, nI_clamp, pz_inI, Option.bind_some, Option.toList_some, Option.toList_none, List.cons_append, List.nil_append, Nat.zero_add, Nat.mul_zero, Nat.add_zero, Nat.lt_irrefl, pz_bb, pz_bTr, Bool.false_eq_true, pz_bFa, Nat.reduceEqDiff, Nat.reduceLT, ite_not, pz_mE, pz_mE2, pz_mL, pz_mG, not_true_eq_false, not_false_eq_true, if_true, if_false, reduceIte, eq_self, true_or, or_true, or_false, false_or, and_true, true_and, and_false, false_and]
              rfl
            · try dsimp only at hj
              try dsimp only
              obtain ⟨L1, m1, e1⟩ := s173 (ids := ids) (I := J7) (x := pz_co A n q) hj
              refine ⟨L1, ?_, e1⟩
              rw [b175_195]
              simp (disch := omega) only [hq, b175_200, sM171 hA hM7 e59 (show q ≤ 4 by omega), b175_206, m1, b175_210, pz_k0, pz_k1, pz_k2, pz_k3, pz_k4, pz_k5, pz_k6, pz_k7, pz_k8, pz_k9, pz_k10, pz_k16, pz_k31, pz_k63, pz_km, nI_add, pz_mul, nI_ltI, nI_eq, nI_clamp, pz_inI, Option.bind_some, Option.toList_some, Option.toList_none, List.cons_append, List.nil_append, Nat.zero_add, Nat.mul_zero, Nat.add_zero, Nat.lt_irrefl, pz_bb, pz_bTr, Bool.false_eq_true, pz_bFa, Nat.reduceEqDiff, Nat.reduceLT, ite_not, pz_mE, pz_mE2, pz_mL, pz_mG, not_true_eq_false, not_false_eq_true, if_true, if_false, reduceIte, eq_self, true_or, or_true, or_false, false_or, and_true, true_and, and_false, false_and]
          · try dsimp only at hj
            try dsimp only
            have e135 : J7 135 0 q = nI (f q) := by rw [f7' 135 rfl]; exact g4 q hq
            obtain ⟨L1, m1, e1⟩ := s173 (ids := ids) (I := J7) (x := nI (f q)) hj
            refine ⟨L1, ?_, e1⟩
            rw [b175_168]
            simp (disch := omega) only [e59, hq, b175_176, show q < 16 by omega, e135, b175_183, m1, b175_187, pz_k0, pz_k1, pz_k2, pz_k3, pz_k4, pz_k5, pz_k6, pz_k7, pz_k8, pz_k9, pz_k10, pz_k16, pz_k31, pz_k63, pz_km, nI_add, pz_mul, nI_ltI, nI_eq, nI_clamp, pz_inI, Option.bind_some, Option.toList_some, Option.toList_none, List.cons_append, List.nil_append, Nat.zero_add, Nat.mul_zero, Nat.add_zero, Nat.lt_irrefl, pz_bb, pz_bTr, Bool.false_eq_true, pz_bFa, Nat.reduceEqDiff, Nat.reduceLT, ite_not, pz_mE, pz_mE2, pz_mL, pz_mG, not_true_eq_false, not_false_eq_true, if_true, if_false, reduceIte, eq_self, true_or, or_true, or_false, false_or, and_true, true_and, and_false, false_and]
        · try dsimp only at hj
          try dsimp only
          have e134 := (pz_M0 hM2).2.2.2.2 q hq
          obtain ⟨L1, m1, e1⟩ := s173 (ids := ids) (I := J2) (x := nI (A 15 0 q)) hj
          refine ⟨L1, ?_, e1⟩
          rw [b175_108]
          simp (disch := omega) only [h57, hq, b175_116, show q < 10 by omega, e134, b175_123, m1, b175_127, pz_k0, pz_k1, pz_k2, pz_k3, pz_k4, pz_k5, pz_k6, pz_k7, pz_k8, pz_k9, pz_k10, pz_k16, pz_k31, pz_k63, pz_km, nI_add, pz_mul, nI_ltI, nI_eq, nI_clamp, pz_inI, Option.bind_some, Option.toList_some, Option.toList_none, List.cons_append, List.nil_append, Nat.zero_add, Nat.mul_zero, Nat.add_zero, Nat.lt_irrefl, pz_bb, pz_bTr, Bool.false_eq_true, pz_bFa, Nat.reduceEqDiff, Nat.reduceLT, ite_not, pz_mE, pz_mE2, pz_mL, pz_mG, not_true_eq_false, not_false_eq_true, if_true, if_false, reduceIte, eq_self, true_or, or_true, or_false, false_or, and_true, true_and, and_false, false_and]
      · try dsimp only at hj
        try dsimp only
        have e133 := (pz_M0 hM2).2.2.1 (q / 6) (q % 6) (by omega) (by omega)
        rw [show 6 * (q / 6) + q % 6 = q by omega] at e133
        obtain ⟨L1, m1, e1⟩ := s173 (ids := ids) (I := J2) (x := pz_fz A q) hj
        unfold pz_fz at m1
        refine ⟨L1, ?_, e1⟩
        rw [b175_81]
        simp (disch := omega) only [pz_k36, hq, b175_87, e133, b175_94, m1, b175_100, pz_k0, pz_k1, pz_k2, pz_k3, pz_k4, pz_k5, pz_k6, pz_k7, pz_k8, pz_k9, pz_k10, pz_k16, pz_k31, pz_k63, pz_km, nI_add, pz_mul, nI_ltI, nI_eq, nI_clamp, pz_inI, Option.bind_some, Option.toList_some, Option.toList_none, List.cons_append, List.nil_append, Nat.zero_add, Nat.mul_zero, Nat.add_zero, Nat.lt_irrefl, pz_bb, pz_bTr, Bool.false_eq_true, pz_bFa, Nat.reduceEqDiff, Nat.reduceLT, ite_not, pz_mE, pz_mE2, pz_mL, pz_mG, not_true_eq_false, not_false_eq_true, if_true, if_false, reduceIte, eq_self, true_or, or_true, or_false, false_or, and_true, true_and, and_false, false_and]
    · try dsimp only at hj
      try dsimp only
      obtain ⟨f1, hj⟩ := hj
      have hM1 := pz_M_fr f1 hM
      have h47 := (pz_M0 hM1).2.1
      obtain ⟨J', L', m1, f2, e1⟩ := sM174 (ids := ids) hA hM1 hs hj
      refine ⟨(J', L'), ?_, pz_frT f1 f2, e1⟩
      rw [b175_60]
      simp (disch := omega) only [h47, hs, b175_68, m1, b175_73, pz_k0, pz_k1, pz_k2, pz_k3, pz_k4, pz_k5, pz_k6, pz_k7, pz_k8, pz_k9, pz_k10, pz_k16, pz_k31, pz_k63, pz_km, nI_add, pz_mul, nI_ltI, nI_eq, nI_clamp, pz_inI, Option.bind_some, Option.toList_some, Option.toList_none, List.cons_append, List.nil_append, Nat.zero_add, Nat.mul_zero, Nat.add_zero, Nat.lt_irrefl, pz_bb, pz_bTr, Bool.false_eq_true, pz_bFa, Nat.reduceEqDiff, Nat.reduceLT, ite_not, pz_mE, pz_mE2, pz_mL, pz_mG, not_true_eq_false, not_false_eq_true, if_true, if_false, reduceIte, eq_self, true_or, or_true, or_false, false_or, and_true, true_and, and_false, false_and]
  · try dsimp only at hj
    try dsimp only
    have h41 := (pz_M0 hM).1
    have inner := pz_loopP (fun w (L1 : mm_HL) => mm_ev 175 19 [some (.inr (.inr (9, 0))), some (.inl (nI b)), some (.inl (nI w))] [] (ids, I, L1, mm_RM)) (fun w L1 => L1 85 0 = pz_mf (pz_pr A b) (pz_mB A 599 b) w) 10 (fun w L1 hw hL1 => ?_) j.2 hj
    · obtain ⟨L2, s2, t2⟩ := inner
      obtain ⟨L3, m3, e3⟩ := s173 (ids := ids) (I := I) (x := pz_al A b) t2
      refine ⟨(some (.inl (nI 10)), L3), ?_, e3⟩
      try dsimp only
      rw [b175_9]
      simp (disch := omega) only [h41, hb, b175_17, pz_k0, pz_k1, pz_k2, pz_k3, pz_k4, pz_k5, pz_k6, pz_k7, pz_k8, pz_k9, pz_k10, pz_k16, pz_k31, pz_k63, pz_km, nI_add, pz_mul, nI_ltI, nI_eq, nI_clamp, pz_inI, Option.bind_some, Option.toList_some, Option.toList_none, List.cons_append, List.nil_append, Nat.zero_add, Nat.mul_zero, Nat.add_zero, Nat.lt_irrefl, pz_bb, pz_bTr, Bool.false_eq_true, pz_bFa, Nat.reduceEqDiff, Nat.reduceLT, ite_not, pz_mE, pz_mE2, pz_mL, pz_mG, not_true_eq_false, not_false_eq_true, if_true, if_false, reduceIte, eq_self, true_or, or_true, or_false, false_or, and_true, true_and, and_false, false_and]
      refine Eq.trans s2 ?_
      try dsimp only
      rw [b175_19]
      simp (disch := omega) only [b175_42, sM130 hA hM hb, b175_48, m3, b175_52, pz_k0, pz_k1, pz_k2, pz_k3, pz_k4, pz_k5, pz_k6, pz_k7, pz_k8, pz_k9, pz_k10, pz_k16, pz_k31, pz_k63, pz_km, nI_add, pz_mul, nI_ltI, nI_eq, nI_clamp, pz_inI, Option.bind_some, Option.toList_some, Option.toList_none, List.cons_append, List.nil_append, Nat.zero_add, Nat.mul_zero, Nat.add_zero, Nat.lt_irrefl, pz_bb, pz_bTr, Bool.false_eq_true, pz_bFa, Nat.reduceEqDiff, Nat.reduceLT, ite_not, pz_mE, pz_mE2, pz_mL, pz_mG, not_true_eq_false, not_false_eq_true, if_true, if_false, reduceIte, eq_self, true_or, or_true, or_false, false_or, and_true, true_and, and_false, false_and]
    · try dsimp only at hL1
      try dsimp only
      obtain ⟨L2, m2, e2⟩ := s173 (ids := ids) (I := I) (x := pz_pr A b w) hL1
      refine ⟨L2, ?_, e2⟩
      rw [b175_19]
      simp (disch := omega) only [hw, b175_25, sM126 hA hM hb (show w ≤ 9 by omega), b175_32, m2, b175_36, pz_k0, pz_k1, pz_k2, pz_k3, pz_k4, pz_k5, pz_k6, pz_k7, pz_k8, pz_k9, pz_k10, pz_k16, pz_k31, pz_k63, pz_km, nI_add, pz_mul, nI_ltI, nI_eq, nI_clamp, pz_inI, Option.bind_some, Option.toList_some, Option.toList_none, List.cons_append, List.nil_append, Nat.zero_add, Nat.mul_zero, Nat.add_zero, Nat.lt_irrefl, pz_bb, pz_bTr, Bool.false_eq_true, pz_bFa, Nat.reduceEqDiff, Nat.reduceLT, ite_not, pz_mE, pz_mE2, pz_mL, pz_mG, not_true_eq_false, not_false_eq_true, if_true, if_false, reduceIte, eq_self, true_or, or_true, or_false, false_or, and_true, true_and, and_false, false_and]
theorem op28 (h : pz_Q k ck n g f A κ I J) : lw_twoL (pz_R (k + 1)) 28 175 [] (mm_idC, I, LC, mm_RS κ) (mm_idM, J, LM, mm_RM) := by
  obtain ⟨-, -, -, hA, hC, hM, hp, -⟩ := id h
  obtain ⟨I', c1, c2⟩ := sC28 (ids := mm_idC) (L := LC) hA hC (pz_pgC hp)
  obtain ⟨J', L', m1, m2⟩ := sM175 (ids := mm_idM) (L := LM) hA hM (pz_pgM hp)
  refine ⟨pz_dg A n f, (mm_idC, I', LC, mm_RS κ), (mm_idM, J', L', mm_RM), ?_, ?_, pz_rdo h c2 m2⟩
  · rw [show mm_mL 28 = 5 from by decide +kernel]
    exact c1
  · rw [show mm_mL 175 = 3 from by decide +kernel]
    exact m1
end PZ67
