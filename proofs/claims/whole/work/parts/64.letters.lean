/-! letters -/
def pz_by (w : Int64) (i : Nat) : Nat := w.toBitVec.toNat / 2 ^ (8 * i) % 256
theorem pz_by_lt {w : Int64} {i : Nat} : pz_by w i < 256 := Nat.mod_lt _ (by decide)
theorem pz_and255 (y : Int64) : (y &&& 255).toInt32 = nI (y.toBitVec.toNat % 256) := by
  have e255 : ((255 : Int64).toBitVec).toNat = 255 := by decide
  have hn : (y.toBitVec &&& (255 : Int64).toBitVec).toNat = y.toBitVec.toNat % 256 := by
    rw [BitVec.toNat_and, e255, show (255 : Nat) = 2 ^ 8 - 1 from rfl, Nat.and_two_pow_sub_one_eq_mod]
  have h1 : (y &&& 255).toInt = ((y.toBitVec.toNat % 256 : Nat) : Int) := by
    rw [← Int64.toInt_toBitVec, Int64.toBitVec_and, BitVec.toInt_eq_toNat_of_lt (by rw [hn]; omega), hn]
  apply Int32.toInt_inj.mp
  rw [Int64.toInt_toInt32, h1, nI_toInt (by omega)]
  exact Int.bmod_eq_of_le_mul_two (by omega) (by omega)
theorem pz_sh0 : ∀ i, i < 8 → ((8 * nI i).toInt64.toUInt64 &&& Int64.toUInt64 63).toNat % 64 = 8 * i := by decide +kernel
theorem pz_sh1 : ∀ i, i < 8 → (((8 * nI i).toInt64 &&& 63).toBitVec.smod 64).toNat = 8 * i := by decide +kernel
theorem pz_byC {w : Int64} {i : Nat} (hi : i < 8) : ((w.toUInt64 >>> ((8 * nI i).toInt64.toUInt64 &&& Int64.toUInt64 63)).toInt64 &&& 255).toInt32 = nI (pz_by w i) := by
  rw [pz_and255]
  have h : ((w.toUInt64 >>> ((8 * nI i).toInt64.toUInt64 &&& Int64.toUInt64 63)).toInt64).toBitVec.toNat = w.toBitVec.toNat / 2 ^ (8 * i) := by
    show (w.toUInt64 >>> ((8 * nI i).toInt64.toUInt64 &&& Int64.toUInt64 63)).toNat = _
    rw [UInt64.toNat_shiftRight, pz_sh0 i hi, Nat.shiftRight_eq_div_pow]
    rfl
  rw [h]
  rfl
theorem pz_toI (x : BitVec 64) : x.toInt % 256 = ((x.toNat % 256 : Nat) : Int) := by
  rw [BitVec.toInt_eq_toNat_cond]
  split
  · omega
  · omega
theorem pz_byV {w : Int64} {i : Nat} (hi : i < 8) : (w >>> ((8 * nI i).toInt64 &&& 63)).toInt % 256 = (pz_by w i : Int) := by
  have e : (w >>> ((8 * nI i).toInt64 &&& 63)).toBitVec = w.toBitVec.sshiftRight (8 * i) := by
    rw [Int64.toBitVec_shiftRight]
    show w.toBitVec.sshiftRight (((8 * nI i).toInt64 &&& 63).toBitVec.smod 64).toNat = _
    rw [pz_sh1 i hi]
  rw [← Int64.toInt_toBitVec, e, BitVec.toInt_sshiftRight, Int.shiftRight_eq_div_pow]
  unfold pz_by
  have hlt := w.toBitVec.isLt
  rw [BitVec.toInt_eq_toNat_cond]
  match i, hi with
  | 0, _ => simp only [Nat.reduceMul, Nat.reducePow]; split <;> omega
  | 1, _ => simp only [Nat.reduceMul, Nat.reducePow]; split <;> omega
  | 2, _ => simp only [Nat.reduceMul, Nat.reducePow]; split <;> omega
  | 3, _ => simp only [Nat.reduceMul, Nat.reducePow]; split <;> omega
  | 4, _ => simp only [Nat.reduceMul, Nat.reducePow]; split <;> omega
  | 5, _ => simp only [Nat.reduceMul, Nat.reducePow]; split <;> omega
  | 6, _ => simp only [Nat.reduceMul, Nat.reducePow]; split <;> omega
  | 7, _ => simp only [Nat.reduceMul, Nat.reducePow]; split <;> omega
theorem pz_byM {w : Int64} {i : Nat} (hi : i < 8) : ((w >>> ((8 * nI i).toInt64 &&& 63)) &&& 255).toInt32 = nI (pz_by w i) := by
  rw [pz_and255]
  have h1 := pz_byV (w := w) hi
  rw [← Int64.toInt_toBitVec, pz_toI] at h1
  rw [show (w >>> ((8 * nI i).toInt64 &&& 63)).toBitVec.toNat % 256 = pz_by w i by omega]
theorem pz_byB {w : Int64} {i : Nat} (hi : i < 8) (h : pz_by w i ≤ 126) : (((w >>> ((8 * nI i).toInt64 &&& 63)).toInt32).toInt8.toInt32).toInt8.toInt32 = nI (pz_by w i) := by
  have h1 := pz_byV (w := w) hi
  apply Int32.toInt_inj.mp
  rw [Int8.toInt_toInt32, Int32.toInt_toInt8, Int8.toInt_toInt32, Int32.toInt_toInt8, Int64.toInt_toInt32, Int.bmod_bmod_of_dvd (by decide), Int.bmod_bmod_of_dvd (by decide), Int.bmod_def, nI_toInt (by omega)]
  rw [show ((2 ^ 8 : Nat) : Int) = 256 from rfl, h1]
  split
  · rfl
  · omega
def pz_tl (w : Int64) : Nat → Nat
  | 0 => 0
  | i + 1 => pz_tl w i + (if pz_by w i = 0 then 0 else 1)
theorem pz_tl_s {w : Int64} {i : Nat} : pz_tl w (i + 1) = pz_tl w i + (if pz_by w i = 0 then 0 else 1) := rfl
theorem pz_tl_T {w : Int64} {i : Nat} (h : pz_by w i = 0) : pz_tl w (i + 1) = pz_tl w i := by rw [pz_tl_s, if_pos h]; rfl
theorem pz_tl_F {w : Int64} {i : Nat} (h : ¬ pz_by w i = 0) : pz_tl w (i + 1) = pz_tl w i + 1 := by rw [pz_tl_s, if_neg h]
theorem pz_tl_le {w : Int64} : ∀ i, pz_tl w i ≤ i
  | 0 => Nat.le_refl 0
  | i + 1 => by
    have := pz_tl_le (w := w) i
    rw [pz_tl_s]
    split <;> omega
def pz_lb (w : Int64) (i : Nat) : Bool := decide (126 < pz_by w i ∨ (pz_tl w i < i ∧ ¬ pz_by w i = 0))
/-- none of the eight is wrong: the first ones are letters -/
theorem pz_lb_ok {w : Int64} (h : ∀ i, i < 8 → pz_lb w i = false) {j : Nat} (hj : j < pz_tl w 8) : 1 ≤ pz_by w j ∧ pz_by w j ≤ 126 := by
  have h8 := pz_tl_le (w := w) 8
  have hb : ∀ i, i < 8 → ¬ (126 < pz_by w i ∨ (pz_tl w i < i ∧ ¬ pz_by w i = 0)) := fun i hi => of_decide_eq_false (h i hi)
  have h1 := hb j (by omega)
  refine ⟨?_, by omega⟩
  refine Classical.byContradiction (fun q => ?_)
  have hz : pz_by w j = 0 := by omega
  have hst : ∀ d, j + 1 + d ≤ 8 → pz_tl w (j + 1 + d) ≤ j := by
    intro d
    induction d with
    | zero =>
      intro _
      rw [Nat.add_zero, pz_tl_T hz]
      exact pz_tl_le j
    | succ d ih =>
      intro hd
      have i1 := ih (by omega)
      have i2 := hb (j + 1 + d) (by omega)
      rw [show j + 1 + (d + 1) = j + 1 + d + 1 by omega, pz_tl_T (by omega)]
      exact i1
  have := hst (8 - (j + 1)) (by omega)
  rw [show j + 1 + (8 - (j + 1)) = 8 by omega] at this
  omega
section PZ64
variable {ids : List (Nat × Nat)} {I J I' J' : mm_HI} {L LC LM LC' LM' : mm_HL} {κ f f' : Nat → Nat} {A : pz_A} {k ck n n' g a b v s p q e r m : Nat} {w : Int64}
/-- lettersIn -/
theorem sC39 : mm_ev 39 0 [some (.inr (.inl (w))), none, none, none, none, none] [] (ids, I, L, mm_RS κ) = some (some (.inl (if pz_fnd (pz_lb w) 8 0 < 8 then pz_m else nI (pz_tl w 8))), (ids, I, L, mm_RS κ)) := by
  have hl := pz_srchJ (pz_lb w) (fun i (j : Option mm_V × Option mm_V) => mm_ev 39 4 [some (.inr (.inl (w))), none, some (.inl (nI (pz_tl w i))), some (.inl (nI i)), j.1, j.2] [] (ids, I, L, mm_RS κ)) (fun _ _ => some (some (.inl pz_m), (ids, I, L, mm_RS κ))) 8 0 (fun i j _ hi => ?_) (none, none)
  · rw [b39_0]
    rw [Nat.zero_add] at hl
    by_cases hf : pz_fnd (pz_lb w) 8 0 < 8
    · obtain ⟨j, hj⟩ := hl.1 hf
      rw [if_pos hf]
      exact hj
    · obtain ⟨j, hj⟩ := hl.2 hf
      rw [if_neg hf]
      refine Eq.trans hj ?_
      try dsimp only
      rw [b39_4]
      simp (disch := omega) only [b39_62, pz_k0, pz_k1, pz_k2, pz_k3, pz_k4, pz_k5, pz_k6, pz_k7, pz_k8, pz_k9, pz_k10, pz_k16, pz_k31, pz_k63, pz_km, nI_add, pz_mul, nI_ltI, nI_eq, nI_clamp, pz_inI, Option.bind_some, Option.toList_some, Option.toList_none, List.cons_append, List.nil_append, Nat.zero_add, Nat.mul_zero, Nat.add_zero, Nat.lt_irrefl, pz_bb, pz_bTr, Bool.false_eq_true, pz_bFa, Nat.reduceEqDiff, Nat.reduceLT, ite_not, pz_mE, pz_mE2, pz_mL, pz_mG, not_true_eq_false, not_false_eq_true, if_true, if_false, reduceIte, eq_self, true_or, or_true, or_false, false_or, and_true, true_and, and_false, false_and]
  · try dsimp only
    have hi8 : i < 8 := by omega
    have hlt := pz_by_lt (w := w) (i := i)
    have hle := pz_tl_le (w := w) i
    have h38 : mm_ev 38 0 [some (.inr (.inl (w))), none, some (.inl (nI i))] [] (ids, I, L, mm_RS κ) = some (some (.inl (nI (pz_by w i))), (ids, I, L, mm_RS κ)) := by
      rw [b38_0, pz_byC hi8]
    refine ⟨fun hp => ?_, fun hp => ?_⟩
    · have hc := of_decide_eq_true hp
      refine ⟨(none, none), ?_⟩
      rw [b39_4]
      by_cases ht : pz_tl w i < i
      · by_cases h1 : 126 < pz_by w i
        · simp (disch := omega) only [hi8, b39_10, h38, b39_15, ht, b39_22, b39_27, pz_k126, h1, b39_46, pz_k0, pz_k1, pz_k2, pz_k3, pz_k4, pz_k5, pz_k6, pz_k7, pz_k8, pz_k9, pz_k10, pz_k16, pz_k31, pz_k63, pz_km, nI_add, pz_mul, nI_ltI, nI_eq, nI_clamp, pz_inI, Option.bind_some, Option.toList_some, Option.toList_none, List.cons_append, List.nil_append, Nat.zero_add, Nat.mul_zero, Nat.add_zero, Nat.lt_irrefl, pz_bb, pz_bTr, Bool.false_eq_true, pz_bFa, Nat.reduceEqDiff, Nat.reduceLT, ite_not, pz_mE, pz_mE2, pz_mL, pz_mG, not_true_eq_false, not_false_eq_true, if_true, if_false, reduceIte, eq_self, true_or, or_true, or_false, false_or, and_true, true_and, and_false, false_and]
        · simp (disch := omega) only [hi8, b39_10, h38, b39_15, ht, b39_22, b39_27, pz_k126, h1, b39_36, b39_41, show ¬ pz_by w i = 0 by omega, b39_46, pz_k0, pz_k1, pz_k2, pz_k3, pz_k4, pz_k5, pz_k6, pz_k7, pz_k8, pz_k9, pz_k10, pz_k16, pz_k31, pz_k63, pz_km, nI_add, pz_mul, nI_ltI, nI_eq, nI_clamp, pz_inI, Option.bind_some, Option.toList_some, Option.toList_none, List.cons_append, List.nil_append, Nat.zero_add, Nat.mul_zero, Nat.add_zero, Nat.lt_irrefl, pz_bb, pz_bTr, Bool.false_eq_true, pz_bFa, Nat.reduceEqDiff, Nat.reduceLT, ite_not, pz_mE, pz_mE2, pz_mL, pz_mG, not_true_eq_false, not_false_eq_true, if_true, if_false, reduceIte, eq_self, true_or, or_true, or_false, false_or, and_true, true_and, and_false, false_and]
      · simp (disch := omega) only [hi8, b39_10, h38, b39_15, ht, b39_26, b39_27, pz_k126, show 126 < pz_by w i by omega, b39_46, pz_k0, pz_k1, pz_k2, pz_k3, pz_k4, pz_k5, pz_k6, pz_k7, pz_k8, pz_k9, pz_k10, pz_k16, pz_k31, pz_k63, pz_km, nI_add, pz_mul, nI_ltI, nI_eq, nI_clamp, pz_inI, Option.bind_some, Option.toList_some, Option.toList_none, List.cons_append, List.nil_append, Nat.zero_add, Nat.mul_zero, Nat.add_zero, Nat.lt_irrefl, pz_bb, pz_bTr, Bool.false_eq_true, pz_bFa, Nat.reduceEqDiff, Nat.reduceLT, ite_not, pz_mE, pz_mE2, pz_mL, pz_mG, not_true_eq_false, not_false_eq_true, if_true, if_false, reduceIte, eq_self, true_or, or_true, or_false, false_or, and_true, true_and, and_false, false_and]
    · have hc := of_decide_eq_false hp
      rw [b39_4]
      by_cases hz : pz_by w i = 0
      · rw [pz_tl_T hz]
        rw [hz] at h38
        by_cases ht : pz_tl w i < i
        · refine ⟨(some (.inl (nI 0)), some (.inl (nI 1))), ?_⟩
          simp (disch := omega) only [hi8, b39_10, h38, b39_15, ht, b39_22, b39_27, pz_k126, b39_36, b39_41, b39_48, b39_56, pz_k0, pz_k1, pz_k2, pz_k3, pz_k4, pz_k5, pz_k6, pz_k7, pz_k8, pz_k9, pz_k10, pz_k16, pz_k31, pz_k63, pz_km, nI_add, pz_mul, nI_ltI, nI_eq, nI_clamp, pz_inI, Option.bind_some, Option.toList_some, Option.toList_none, List.cons_append, List.nil_append, Nat.zero_add, Nat.mul_zero, Nat.add_zero, Nat.lt_irrefl, pz_bb, pz_bTr, Bool.false_eq_true, pz_bFa, Nat.reduceEqDiff, Nat.reduceLT, ite_not, pz_mE, pz_mE2, pz_mL, pz_mG, not_true_eq_false, not_false_eq_true, if_true, if_false, reduceIte, eq_self, true_or, or_true, or_false, false_or, and_true, true_and, and_false, false_and]
        · refine ⟨(some (.inl (nI 0)), some (.inl (nI 0))), ?_⟩
          simp (disch := omega) only [hi8, b39_10, h38, b39_15, ht, b39_26, b39_27, pz_k126, b39_36, b39_48, b39_56, pz_k0, pz_k1, pz_k2, pz_k3, pz_k4, pz_k5, pz_k6, pz_k7, pz_k8, pz_k9, pz_k10, pz_k16, pz_k31, pz_k63, pz_km, nI_add, pz_mul, nI_ltI, nI_eq, nI_clamp, pz_inI, Option.bind_some, Option.toList_some, Option.toList_none, List.cons_append, List.nil_append, Nat.zero_add, Nat.mul_zero, Nat.add_zero, Nat.lt_irrefl, pz_bb, pz_bTr, Bool.false_eq_true, pz_bFa, Nat.reduceEqDiff, Nat.reduceLT, ite_not, pz_mE, pz_mE2, pz_mL, pz_mG, not_true_eq_false, not_false_eq_true, if_true, if_false, reduceIte, eq_self, true_or, or_true, or_false, false_or, and_true, true_and, and_false, false_and]
      · rw [pz_tl_F hz]
        refine ⟨(some (.inl (nI (pz_by w i))), some (.inl (nI 0))), ?_⟩
        simp (disch := omega) only [hi8, b39_10, h38, b39_15, show ¬ pz_tl w i < i by omega, b39_26, b39_27, pz_k126, show ¬ 126 < pz_by w i by omega, b39_36, b39_48, hz, b39_53, b39_56, pz_k0, pz_k1, pz_k2, pz_k3, pz_k4, pz_k5, pz_k6, pz_k7, pz_k8, pz_k9, pz_k10, pz_k16, pz_k31, pz_k63, pz_km, nI_add, pz_mul, nI_ltI, nI_eq, nI_clamp, pz_inI, Option.bind_some, Option.toList_some, Option.toList_none, List.cons_append, List.nil_append, Nat.zero_add, Nat.mul_zero, Nat.add_zero, Nat.lt_irrefl, pz_bb, pz_bTr, Bool.false_eq_true, pz_bFa, Nat.reduceEqDiff, Nat.reduceLT, ite_not, pz_mE, pz_mE2, pz_mL, pz_mG, not_true_eq_false, not_false_eq_true, if_true, if_false, reduceIte, eq_self, true_or, or_true, or_false, false_or, and_true, true_and, and_false, false_and]
/-- the first loop of the model's letters -/
theorem sM116a : (pz_fnd (pz_lb w) 8 0 < 8 → mm_ev 116 0 [some (.inr (.inr (9, 0))), some (.inr (.inl (w))), none, none, none, none, none] [] (ids, I, L, mm_RM) = some (some (.inl (-102)), (ids, I, L, mm_RM))) ∧ (¬ pz_fnd (pz_lb w) 8 0 < 8 → ∃ x o, mm_ev 116 0 [some (.inr (.inr (9, 0))), some (.inr (.inl (w))), none, none, none, none, none] [] (ids, I, L, mm_RM) = mm_ev 116 85 [some (.inr (.inr (9, 0))), some (.inr (.inl (w))), none, some (.inl (nI (pz_tl w 8))), some (.inl (x)), some (.inl (nI 8)), o] [] (ids, I, L, mm_RM)) := by
  have hl := pz_srchJ (pz_lb w) (fun i (j : Option mm_V) => mm_ev 116 8 [some (.inr (.inr (9, 0))), some (.inr (.inl (w))), none, some (.inl (nI (pz_tl w i))), some (.inl (pz_b (pz_tl w i < i))), some (.inl (nI i)), j] [] (ids, I, L, mm_RM)) (fun _ _ => some (some (.inl (-102)), (ids, I, L, mm_RM))) 8 0 (fun i j _ hi => ?_) none
  · rw [Nat.zero_add] at hl
    have hst : mm_ev 116 0 [some (.inr (.inr (9, 0))), some (.inr (.inl (w))), none, none, none, none, none] [] (ids, I, L, mm_RM) = mm_ev 116 8 [some (.inr (.inr (9, 0))), some (.inr (.inl (w))), none, some (.inl (nI (pz_tl w 0))), some (.inl (pz_b (pz_tl w 0 < 0))), some (.inl (nI 0)), none] [] (ids, I, L, mm_RM) := by
      rw [b116_0, pz_bF (Nat.not_lt_zero _)]
      rfl
    rw [hst]
    refine ⟨fun hf => ?_, fun hf => ?_⟩
    · obtain ⟨j, hj⟩ := hl.1 hf
      exact hj
    · obtain ⟨j, hj⟩ := hl.2 hf
      refine ⟨pz_b (pz_tl w 8 < 8), j, ?_⟩
      refine Eq.trans hj ?_
      try dsimp only
      rw [b116_8]
      simp (disch := omega) only [pz_k0, pz_k1, pz_k2, pz_k3, pz_k4, pz_k5, pz_k6, pz_k7, pz_k8, pz_k9, pz_k10, pz_k16, pz_k31, pz_k63, pz_km, nI_add, pz_mul, nI_ltI, nI_eq, nI_clamp, pz_inI, Option.bind_some, Option.toList_some, Option.toList_none, List.cons_append, List.nil_append, Nat.zero_add, Nat.mul_zero, Nat.add_zero, Nat.lt_irrefl, pz_bb, pz_bTr, Bool.false_eq_true, pz_bFa, Nat.reduceEqDiff, Nat.reduceLT, ite_not, pz_mE, pz_mE2, pz_mL, pz_mG, not_true_eq_false, not_false_eq_true, if_true, if_false, reduceIte, eq_self, true_or, or_true, or_false, false_or, and_true, true_and, and_false, false_and]
  · try dsimp only
    have hi8 : i < 8 := by omega
    have hlt := pz_by_lt (w := w) (i := i)
    have hle := pz_tl_le (w := w) i
    have hcode := pz_byM (w := w) hi8
    have h15 : mm_ev 116 8 [some (.inr (.inr (9, 0))), some (.inr (.inl (w))), none, some (.inl (nI (pz_tl w i))), some (.inl (pz_b (pz_tl w i < i))), some (.inl (nI i)), j] [] (ids, I, L, mm_RM) = if 126 < pz_by w i then mm_ev 116 46 [some (.inr (.inr (9, 0))), some (.inr (.inl (w))), none, some (.inl (nI (pz_tl w i))), some (.inl (pz_b (pz_tl w i < i))), some (.inl (nI i)), some (.inl (nI (pz_by w i)))] [] (ids, I, L, mm_RM) else mm_ev 116 36 [some (.inr (.inr (9, 0))), some (.inr (.inl (w))), none, some (.inl (nI (pz_tl w i))), some (.inl (pz_b (pz_tl w i < i))), some (.inl (nI i)), some (.inl (nI (pz_by w i)))] [] (ids, I, L, mm_RM) := by
      rw [b116_8, pz_k8, if_pos ((nI_ltI (by omega) (by decide)).mpr hi8), b116_15, hcode, pz_k126]
      by_cases q : 126 < pz_by w i
      · rw [if_pos q, if_pos ((nI_ltI (by decide) (by omega)).mpr q)]
      · rw [if_neg q, if_neg (fun z => q ((nI_ltI (by decide) (by omega)).mp z))]
    rw [h15]
    refine ⟨fun hp => ?_, fun hp => ?_⟩
    · have hc := of_decide_eq_true hp
      refine ⟨none, ?_⟩
      by_cases h1 : 126 < pz_by w i
      · rw [if_pos h1, b116_46]
      · have ht : pz_tl w i < i := by omega
        rw [if_neg h1, pz_bT ht, b116_36]
        simp (disch := omega) only [b116_41, show ¬ pz_by w i = 0 by omega, b116_46, pz_k0, pz_k1, pz_k2, pz_k3, pz_k4, pz_k5, pz_k6, pz_k7, pz_k8, pz_k9, pz_k10, pz_k16, pz_k31, pz_k63, pz_km, nI_add, pz_mul, nI_ltI, nI_eq, nI_clamp, pz_inI, Option.bind_some, Option.toList_some, Option.toList_none, List.cons_append, List.nil_append, Nat.zero_add, Nat.mul_zero, Nat.add_zero, Nat.lt_irrefl, pz_bb, pz_bTr, Bool.false_eq_true, pz_bFa, Nat.reduceEqDiff, Nat.reduceLT, ite_not, pz_mE, pz_mE2, pz_mL, pz_mG, not_true_eq_false, not_false_eq_true, if_true, if_false, reduceIte, eq_self, true_or, or_true, or_false, false_or, and_true, true_and, and_false, false_and]
    · have hc := of_decide_eq_false hp
      rw [if_neg (by omega)]
      refine ⟨some (.inl (nI (pz_by w i))), ?_⟩
      by_cases hz : pz_by w i = 0
      · rw [pz_tl_T hz, pz_bT (show pz_tl w i < i + 1 by omega), hz]
        by_cases ht : pz_tl w i < i
        · rw [pz_bT ht, b116_36]
          simp (disch := omega) only [b116_41, b116_49, b116_59, b116_64, b116_72, b116_77, pz_k0, pz_k1, pz_k2, pz_k3, pz_k4, pz_k5, pz_k6, pz_k7, pz_k8, pz_k9, pz_k10, pz_k16, pz_k31, pz_k63, pz_km, nI_add, pz_mul, nI_ltI, nI_eq, nI_clamp, pz_inI, Option.bind_some, Option.toList_some, Option.toList_none, List.cons_append, List.nil_append, Nat.zero_add, Nat.mul_zero, Nat.add_zero, Nat.lt_irrefl, pz_bb, pz_bTr, Bool.false_eq_true, pz_bFa, Nat.reduceEqDiff, Nat.reduceLT, ite_not, pz_mE, pz_mE2, pz_mL, pz_mG, not_true_eq_false, not_false_eq_true, if_true, if_false, reduceIte, eq_self, true_or, or_true, or_false, false_or, and_true, true_and, and_false, false_and]
        · rw [pz_bF ht, b116_36]
          simp (disch := omega) only [b116_49, b116_54, b116_59, b116_64, b116_72, b116_77, pz_k0, pz_k1, pz_k2, pz_k3, pz_k4, pz_k5, pz_k6, pz_k7, pz_k8, pz_k9, pz_k10, pz_k16, pz_k31, pz_k63, pz_km, nI_add, pz_mul, nI_ltI, nI_eq, nI_clamp, pz_inI, Option.bind_some, Option.toList_some, Option.toList_none, List.cons_append, List.nil_append, Nat.zero_add, Nat.mul_zero, Nat.add_zero, Nat.lt_irrefl, pz_bb, pz_bTr, Bool.false_eq_true, pz_bFa, Nat.reduceEqDiff, Nat.reduceLT, ite_not, pz_mE, pz_mE2, pz_mL, pz_mG, not_true_eq_false, not_false_eq_true, if_true, if_false, reduceIte, eq_self, true_or, or_true, or_false, false_or, and_true, true_and, and_false, false_and]
      · have ht : ¬ pz_tl w i < i := by omega
        rw [pz_tl_F hz, pz_bF ht, pz_bF (show ¬ pz_tl w i + 1 < i + 1 by omega), b116_36]
        simp (disch := omega) only [b116_49, b116_54, hz, b116_63, b116_64, b116_76, b116_77, pz_k0, pz_k1, pz_k2, pz_k3, pz_k4, pz_k5, pz_k6, pz_k7, pz_k8, pz_k9, pz_k10, pz_k16, pz_k31, pz_k63, pz_km, nI_add, pz_mul, nI_ltI, nI_eq, nI_clamp, pz_inI, Option.bind_some, Option.toList_some, Option.toList_none, List.cons_append, List.nil_append, Nat.zero_add, Nat.mul_zero, Nat.add_zero, Nat.lt_irrefl, pz_bb, pz_bTr, Bool.false_eq_true, pz_bFa, Nat.reduceEqDiff, Nat.reduceLT, ite_not, pz_mE, pz_mE2, pz_mL, pz_mG, not_true_eq_false, not_false_eq_true, if_true, if_false, reduceIte, eq_self, true_or, or_true, or_false, false_or, and_true, true_and, and_false, false_and]
theorem op1 (h : pz_Q k ck n g f A κ I J) (w : Int64) : lw_two (pz_R (k + 1)) 1 116 [.inr (.inl w)] (mm_idC, I, LC, mm_RS κ) (mm_idM, J, LM, mm_RM) := by
  obtain ⟨p1, p2, p3, p4, p5⟩ := h.2.2.2.2.2.2.1
  have h8 := pz_tl_le (w := w) 8
  by_cases hf : pz_fnd (pz_lb w) 8 0 < 8
  · refine pz_two (laC := [some (.inr (.inr (1, 0))), some (.inr (.inl _)), none, none]) (laM := [some (.inr (.inr (9, 0))), some (.inr (.inl _)), none, none, none, none, none]) (by rw [show mm_mL 1 = 4 from by decide +kernel]; rfl) (by rw [show mm_mL 116 = 7 from by decide +kernel]; rfl) (r :=  -102) ?_ ?_ (pz_rd0 (LC' := LC) (LM' := LM) h)
    · rw [b1_0, sC39, if_pos hf]
      simp (disch := omega) only [b1_4, show pz_m < nI 0 by decide, b1_9, pz_k0, pz_k1, pz_k2, pz_k3, pz_k4, pz_k5, pz_k6, pz_k7, pz_k8, pz_k9, pz_k10, pz_k16, pz_k31, pz_k63, pz_km, nI_add, pz_mul, nI_ltI, nI_eq, nI_clamp, pz_inI, Option.bind_some, Option.toList_some, Option.toList_none, List.cons_append, List.nil_append, Nat.zero_add, Nat.mul_zero, Nat.add_zero, Nat.lt_irrefl, pz_bb, pz_bTr, Bool.false_eq_true, pz_bFa, Nat.reduceEqDiff, Nat.reduceLT, ite_not, pz_mE, pz_mE2, pz_mL, pz_mG, not_true_eq_false, not_false_eq_true, if_true, if_false, reduceIte, eq_self, true_or, or_true, or_false, false_or, and_true, true_and, and_false, false_and]
    · exact sM116a.1 hf
  · obtain ⟨x, o, hM1⟩ := (sM116a (ids := mm_idM) (I := J) (L := LM) (w := w)).2 hf
    have hok : ∀ i, i < 8 → pz_lb w i = false := fun i hi => pz_fnd_not (p := pz_lb w) 8 0 i (Nat.zero_le _) (by omega)
    by_cases hn : 16 < n + pz_tl w 8
    · refine pz_two (laC := [some (.inr (.inr (1, 0))), some (.inr (.inl _)), none, none]) (laM := [some (.inr (.inr (9, 0))), some (.inr (.inl _)), none, none, none, none, none]) (by rw [show mm_mL 1 = 4 from by decide +kernel]; rfl) (by rw [show mm_mL 116 = 7 from by decide +kernel]; rfl) (r :=  -104) ?_ ?_ (pz_rd0 (LC' := LC) (LM' := LM) h)
      · rw [b1_0, sC39, if_neg hf]
        simp (disch := omega) only [b1_4, Nat.not_lt_zero, b1_12, p3, hn, b1_26, pz_k0, pz_k1, pz_k2, pz_k3, pz_k4, pz_k5, pz_k6, pz_k7, pz_k8, pz_k9, pz_k10, pz_k16, pz_k31, pz_k63, pz_km, nI_add, pz_mul, nI_ltI, nI_eq, nI_clamp, pz_inI, Option.bind_some, Option.toList_some, Option.toList_none, List.cons_append, List.nil_append, Nat.zero_add, Nat.mul_zero, Nat.add_zero, Nat.lt_irrefl, pz_bb, pz_bTr, Bool.false_eq_true, pz_bFa, Nat.reduceEqDiff, Nat.reduceLT, ite_not, pz_mE, pz_mE2, pz_mL, pz_mG, not_true_eq_false, not_false_eq_true, if_true, if_false, reduceIte, eq_self, true_or, or_true, or_false, false_or, and_true, true_and, and_false, false_and]
      · rw [hM1, b116_85]
        simp (disch := omega) only [p4, hn, b116_96, pz_k0, pz_k1, pz_k2, pz_k3, pz_k4, pz_k5, pz_k6, pz_k7, pz_k8, pz_k9, pz_k10, pz_k16, pz_k31, pz_k63, pz_km, nI_add, pz_mul, nI_ltI, nI_eq, nI_clamp, pz_inI, Option.bind_some, Option.toList_some, Option.toList_none, List.cons_append, List.nil_append, Nat.zero_add, Nat.mul_zero, Nat.add_zero, Nat.lt_irrefl, pz_bb, pz_bTr, Bool.false_eq_true, pz_bFa, Nat.reduceEqDiff, Nat.reduceLT, ite_not, pz_mE, pz_mE2, pz_mL, pz_mG, not_true_eq_false, not_false_eq_true, if_true, if_false, reduceIte, eq_self, true_or, or_true, or_false, false_or, and_true, true_and, and_false, false_and]
    · have lC := pz_loopP (fun i (j : mm_HI) => mm_ev 40 3 [some (.inr (.inr (2, 0))), some (.inr (.inl (w))), none, some (.inl (nI (pz_tl w 8))), some (.inl (nI i))] [] (mm_idC, j, LC, mm_RS κ)) (fun i j => (∀ c, c ≠ 8 ∧ c ≠ 110 → j c = I c) ∧ j 8 0 0 = nI (n + i) ∧ ∀ q, q < n + i → j 110 0 q = nI (if q < n then f q else pz_by w (q - n))) (pz_tl w 8) (fun i j hi hj => ?_) I ⟨fun _ _ => rfl, p3, fun q hq => by rw [if_pos (by omega)]; exact (p5 q (by omega)).1⟩
      · have lM := pz_loopP (fun i (j : mm_HI) => mm_ev 116 102 [some (.inr (.inr (9, 0))), some (.inr (.inl (w))), none, some (.inl (nI (pz_tl w 8))), some (.inl (x)), some (.inl (nI i)), o] [] (mm_idM, j, LM, mm_RM)) (fun i j => (∀ c, c ≠ 135 → j c = J c) ∧ ∀ q, q < n + i → j 135 0 q = nI (if q < n then f q else pz_by w (q - n))) (pz_tl w 8) (fun i j hi hj => ?_) J ⟨fun _ _ => rfl, fun q hq => by rw [if_pos (by omega)]; exact (p5 q (by omega)).2⟩
        · obtain ⟨I', c0, c1, c2, c3⟩ := lC
          obtain ⟨J', e0, e1, e2⟩ := lM
          have e59 : J' 59 0 0 = nI n := by rw [e1 59 (by decide)]; exact p4
          refine pz_two (laC := [some (.inr (.inr (1, 0))), some (.inr (.inl _)), none, none]) (laM := [some (.inr (.inr (9, 0))), some (.inr (.inl _)), none, none, none, none, none]) (by rw [show mm_mL 1 = 4 from by decide +kernel]; rfl) (by rw [show mm_mL 116 = 7 from by decide +kernel]; rfl) (r :=  nI (n + pz_tl w 8)) (hC' := (mm_idC, I', LC, mm_RS κ)) (hM' := (mm_idM, mm_uI J' 59 0 0 (nI (n + pz_tl w 8)), LM, mm_RM)) ?_ ?_ ?_
          · rw [b1_0, sC39, if_neg hf]
            simp (disch := omega) only [b1_4, Nat.not_lt_zero, b1_12, p3, hn, pz_k0, pz_k1, pz_k2, pz_k3, pz_k4, pz_k5, pz_k6, pz_k7, pz_k8, pz_k9, pz_k10, pz_k16, pz_k31, pz_k63, pz_km, nI_add, pz_mul, nI_ltI, nI_eq, nI_clamp, pz_inI, Option.bind_some, Option.toList_some, Option.toList_none, List.cons_append, List.nil_append, Nat.zero_add, Nat.mul_zero, Nat.add_zero, Nat.lt_irrefl, pz_bb, pz_bTr, Bool.false_eq_true, pz_bFa, Nat.reduceEqDiff, Nat.reduceLT, ite_not, pz_mE, pz_mE2, pz_mL, pz_mG, not_true_eq_false, not_false_eq_true, if_true, if_false, reduceIte, eq_self, true_or, or_true, or_false, false_or, and_true, true_and, and_false, false_and]
            have h40 : mm_ev 40 0 [some (.inr (.inr (2, 0))), some (.inr (.inl (w))), none, some (.inl (nI (pz_tl w 8))), none] [] (mm_idC, I, LC, mm_RS κ) = some (none, (mm_idC, I', LC, mm_RS κ)) := by
              rw [b40_0, pz_k0]
              refine Eq.trans c0 ?_
              try dsimp only
              rw [b40_3]
              simp (disch := omega) only [b40_49, pz_k0, pz_k1, pz_k2, pz_k3, pz_k4, pz_k5, pz_k6, pz_k7, pz_k8, pz_k9, pz_k10, pz_k16, pz_k31, pz_k63, pz_km, nI_add, pz_mul, nI_ltI, nI_eq, nI_clamp, pz_inI, Option.bind_some, Option.toList_some, Option.toList_none, List.cons_append, List.nil_append, Nat.zero_add, Nat.mul_zero, Nat.add_zero, Nat.lt_irrefl, pz_bb, pz_bTr, Bool.false_eq_true, pz_bFa, Nat.reduceEqDiff, Nat.reduceLT, ite_not, pz_mE, pz_mE2, pz_mL, pz_mG, not_true_eq_false, not_false_eq_true, if_true, if_false, reduceIte, eq_self, true_or, or_true, or_false, false_or, and_true, true_and, and_false, false_and]
            rw [b1_29, h40]
            simp (disch := omega) only [pz_k0, pz_k1, pz_k2, pz_k3, pz_k4, pz_k5, pz_k6, pz_k7, pz_k8, pz_k9, pz_k10, pz_k16, pz_k31, pz_k63, pz_km, nI_add, pz_mul, nI_ltI, nI_eq, nI_clamp, pz_inI, Option.bind_some, Option.toList_some, Option.toList_none, List.cons_append, List.nil_append, Nat.zero_add, Nat.mul_zero, Nat.add_zero, Nat.lt_irrefl, pz_bb, pz_bTr, Bool.false_eq_true, pz_bFa, Nat.reduceEqDiff, Nat.reduceLT, ite_not, pz_mE, pz_mE2, pz_mL, pz_mG, not_true_eq_false, not_false_eq_true, if_true, if_false, reduceIte, eq_self, true_or, or_true, or_false, false_or, and_true, true_and, and_false, false_and]
            rw [b1_38, c2]
          · rw [hM1, b116_85]
            simp (disch := omega) only [p4, hn, b116_99, pz_k0, pz_k1, pz_k2, pz_k3, pz_k4, pz_k5, pz_k6, pz_k7, pz_k8, pz_k9, pz_k10, pz_k16, pz_k31, pz_k63, pz_km, nI_add, pz_mul, nI_ltI, nI_eq, nI_clamp, pz_inI, Option.bind_some, Option.toList_some, Option.toList_none, List.cons_append, List.nil_append, Nat.zero_add, Nat.mul_zero, Nat.add_zero, Nat.lt_irrefl, pz_bb, pz_bTr, Bool.false_eq_true, pz_bFa, Nat.reduceEqDiff, Nat.reduceLT, ite_not, pz_mE, pz_mE2, pz_mL, pz_mG, not_true_eq_false, not_false_eq_true, if_true, if_false, reduceIte, eq_self, true_or, or_true, or_false, false_or, and_true, true_and, and_false, false_and]
            refine Eq.trans e0 ?_
            try dsimp only
            rw [b116_102]
            simp (disch := omega) only [b116_135, e59, pz_uI_s, pz_k0, pz_k1, pz_k2, pz_k3, pz_k4, pz_k5, pz_k6, pz_k7, pz_k8, pz_k9, pz_k10, pz_k16, pz_k31, pz_k63, pz_km, nI_add, pz_mul, nI_ltI, nI_eq, nI_clamp, pz_inI, Option.bind_some, Option.toList_some, Option.toList_none, List.cons_append, List.nil_append, Nat.zero_add, Nat.mul_zero, Nat.add_zero, Nat.lt_irrefl, pz_bb, pz_bTr, Bool.false_eq_true, pz_bFa, Nat.reduceEqDiff, Nat.reduceLT, ite_not, pz_mE, pz_mE2, pz_mL, pz_mG, not_true_eq_false, not_false_eq_true, if_true, if_false, reduceIte, eq_self, true_or, or_true, or_false, false_or, and_true, true_and, and_false, false_and]
          · refine pz_putP (n' := n + pz_tl w 8) (f' := fun q => if q < n then f q else pz_by w (q - n)) h (fun c hc => c1 c ⟨hc.2.1, hc.2.2⟩) (fun c hc => by rw [pz_uI_ne hc.2.1]; exact e1 c hc.2.2) ⟨by omega, fun q hq => ?_, c2, pz_uI_s, fun q hq => ⟨c3 q hq, by rw [pz_uI_ne (by decide)]; exact e2 q hq⟩⟩
            dsimp only
            by_cases hq2 : q < n
            · rw [if_pos hq2]
              exact p2 q hq2
            · rw [if_neg hq2]
              exact pz_lb_ok hok (by omega)
        · try dsimp only at hj
          try dsimp only
          obtain ⟨g1, g2⟩ := hj
          have e59 : j 59 0 0 = nI n := by rw [g1 59 (by decide)]; exact p4
          have hby := pz_lb_ok hok hi
          refine ⟨mm_uI j 135 0 (n + i) (nI (pz_by w i)), ?_, fun c hc => by rw [pz_uI_ne hc]; exact g1 c hc, fun q hq => ?_⟩
          · rw [b116_102, if_pos ((nI_ltI (by omega) (by omega)).mpr hi), b116_108, e59, nI_add, if_pos ((pz_inI (by omega)).mpr (by omega)), nI_clamp (by omega), pz_byB (by omega) hby.2, b116_129, pz_k1, nI_add]
          · rw [pz_uI_at]
            by_cases e : q = n + i
            · rw [if_pos e, if_neg (by omega), show q - n = i by omega]
            · rw [if_neg e]
              exact g2 q (by omega)
      · try dsimp only at hj
        try dsimp only
        obtain ⟨g1, g2, g3⟩ := hj
        have h38 : mm_ev 38 0 [some (.inr (.inl (w))), none, some (.inl (nI i))] [] (mm_idC, j, LC, mm_RS κ) = some (some (.inl (nI (pz_by w i))), (mm_idC, j, LC, mm_RS κ)) := by
          rw [b38_0, pz_byC (by omega)]
        refine ⟨mm_uI (mm_uI j 110 0 (n + i) (nI (pz_by w i))) 8 0 0 (nI (n + (i + 1))), ?_, fun c hc => by rw [pz_uI_ne hc.1, pz_uI_ne hc.2]; exact g1 c hc, pz_uI_s, fun q hq => ?_⟩
        · rw [b40_3]
          simp (disch := omega) only [hi, b40_9, g2, show n + i < 16 by omega, b40_18, h38, b40_32, b40_33, pz_uI_j, Nat.add_assoc, pz_k0, pz_k1, pz_k2, pz_k3, pz_k4, pz_k5, pz_k6, pz_k7, pz_k8, pz_k9, pz_k10, pz_k16, pz_k31, pz_k63, pz_km, nI_add, pz_mul, nI_ltI, nI_eq, nI_clamp, pz_inI, Option.bind_some, Option.toList_some, Option.toList_none, List.cons_append, List.nil_append, Nat.zero_add, Nat.mul_zero, Nat.add_zero, Nat.lt_irrefl, pz_bb, pz_bTr, Bool.false_eq_true, pz_bFa, Nat.reduceEqDiff, Nat.reduceLT, ite_not, pz_mE, pz_mE2, pz_mL, pz_mG, not_true_eq_false, not_false_eq_true, if_true, if_false, reduceIte, eq_self, true_or, or_true, or_false, false_or, and_true, true_and, and_false, false_and]
        · rw [pz_uI_ne (by decide), pz_uI_at]
          by_cases e : q = n + i
          · rw [if_pos e, if_neg (by omega), show q - n = i by omega]
          · rw [if_neg e]
            exact g3 q (by omega)
end PZ64
