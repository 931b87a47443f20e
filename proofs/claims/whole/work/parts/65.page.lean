/-! fault: the page read as a bridge -/
theorem pz_k48 : (48 : Int32) = nI 48 := rfl
theorem pz_k53 : (53 : Int32) = nI 53 := rfl
theorem pz_k54 : (54 : Int32) = nI 54 := rfl
theorem pz_k97 : (97 : Int32) = nI 97 := rfl
theorem pz_k102 : (102 : Int32) = nI 102 := rfl
theorem pz_k103 : (103 : Int32) = nI 103 := rfl
theorem pz_k33 : (33 : Int32) = nI 33 := rfl
def pz_sgn (c : Nat) : Nat := if c = 63 then 1 else if c = 33 then 2 else if c = 126 then 3 else 0
theorem pz_sgn_le {c : Nat} : pz_sgn c ≤ 3 := by
  unfold pz_sgn
  split
  · decide
  · split
    · decide
    · split <;> decide
def pz_kt (n : Nat) (f : Nat → Nat) : Nat := if n < 3 then 0 else pz_sgn (f 2)
def pz_s0 (n : Nat) (f : Nat → Nat) : Nat := if pz_kt n f = 0 then 2 else 3
theorem pz_s0_b {n : Nat} {f : Nat → Nat} : 2 ≤ pz_s0 n f ∧ pz_s0 n f ≤ 3 := by
  unfold pz_s0
  split <;> omega
def pz_plc (c : Nat) : Prop := 48 ≤ c ∧ c ≤ 53
def pz_ltr (c : Nat) : Prop := 97 ≤ c ∧ c ≤ 102
def pz_fit (n : Nat) (f : Nat → Nat) (i : Nat) : Prop := (i < 2 → pz_plc (f i) ∧ (i = 0 ∨ f i ≠ f 0)) ∧ (¬ i < 2 → i < pz_s0 n f ∨ (pz_ltr (f i) ∧ i < pz_s0 n f + 5))
noncomputable def pz_nf (n : Nat) (f : Nat → Nat) (i : Nat) : Bool := pz_d (¬ pz_fit n f i)
noncomputable def pz_ff (n : Nat) (f : Nat → Nat) : Nat := pz_fnd (pz_nf n f) n 0
theorem pz_ff_le {n : Nat} {f : Nat → Nat} : pz_ff n f ≤ n := by
  have := (pz_fnd_le (p := pz_nf n f) n 0).2
  unfold pz_ff
  omega
theorem pz_ff_fit {n i : Nat} {f : Nat → Nat} (h : i < pz_ff n f) : pz_fit n f i := by
  have h1 := pz_fnd_not (p := pz_nf n f) n 0 i (Nat.zero_le _) h
  refine Classical.byContradiction (fun q => ?_)
  unfold pz_nf at h1
  rw [pz_dT q] at h1
  cases h1
theorem pz_ff_not {n : Nat} {f : Nat → Nat} (h : pz_ff n f < n) : ¬ pz_fit n f (pz_ff n f) := pz_dI.mp (pz_fnd_is (p := pz_nf n f) n 0 (by unfold pz_ff at h; omega))
section PZ65
variable {ids : List (Nat × Nat)} {I J I' J' : mm_HI} {L LC LM LC' LM' : mm_HL} {κ f f' : Nat → Nat} {A : pz_A} {k ck n n' g a b v s p q e r m i c d : Nat}
/-- the class's page -/
def pz_cp (n : Nat) (f : Nat → Nat) (I : mm_HI) : Prop := n ≤ 16 ∧ (∀ j, j < n → f j ≤ 126) ∧ I 8 0 0 = nI n ∧ ∀ j, j < n → I 110 0 j = nI (f j)
theorem pz_lkt (hc : c ≤ 126) : mm_lk 58 [33, 54, 63, 52, 126, 56] (nI c) = if c = 63 then 52 else if c = 33 then 54 else if c = 126 then 56 else 58 := by
  have e := nI_toInt (n := c) (by omega)
  unfold mm_lk
  rw [e]
  by_cases h1 : c = 33
  · rw [if_pos (by omega), if_neg (by omega), if_pos h1]
  · rw [if_neg (by omega)]
    unfold mm_lk
    rw [e]
    by_cases h2 : c = 63
    · rw [if_pos (by omega), if_pos h2]
    · rw [if_neg (by omega), if_neg h2, if_neg h1]
      unfold mm_lk
      rw [e]
      by_cases h3 : c = 126
      · rw [if_pos (by omega), if_pos h3]
      · rw [if_neg (by omega), if_neg h3]
        rfl
/-- kindTold -/
theorem sC45 (h : pz_cp n f I) : mm_ev 45 0 [some (.inr (.inr (2, 0)))] [] (ids, I, L, mm_RS κ) = some (some (.inl (nI (pz_kt n f))), (ids, I, L, mm_RS κ)) := by
  obtain ⟨h1, h2, h3, h4⟩ := h
  unfold pz_kt
  by_cases hn : n < 3
  · rw [if_pos hn, b45_0]
    simp (disch := omega) only [h3, hn, b45_8, pz_k0, pz_k1, pz_k2, pz_k3, pz_k4, pz_k5, pz_k6, pz_k7, pz_k8, pz_k9, pz_k10, pz_k16, pz_k31, pz_k63, pz_km, nI_add, pz_mul, nI_ltI, nI_eq, nI_clamp, pz_inI, Option.bind_some, Option.toList_some, Option.toList_none, List.cons_append, List.nil_append, Nat.zero_add, Nat.mul_zero, Nat.add_zero, Nat.lt_irrefl, pz_bb, pz_bTr, Bool.false_eq_true, pz_bFa, Nat.reduceEqDiff, Nat.reduceLT, ite_not, pz_mE, pz_mE2, pz_mL, pz_mG, not_true_eq_false, not_false_eq_true, if_true, if_false, reduceIte, eq_self, true_or, or_true, or_false, false_or, and_true, true_and, and_false, false_and]
  · have e2 := h4 2 (by omega)
    have l2 := h2 2 (by omega)
    rw [if_neg hn, b45_0]
    simp (disch := omega) only [h3, hn, pz_k0, pz_k1, pz_k2, pz_k3, pz_k4, pz_k5, pz_k6, pz_k7, pz_k8, pz_k9, pz_k10, pz_k16, pz_k31, pz_k63, pz_km, nI_add, pz_mul, nI_ltI, nI_eq, nI_clamp, pz_inI, Option.bind_some, Option.toList_some, Option.toList_none, List.cons_append, List.nil_append, Nat.zero_add, Nat.mul_zero, Nat.add_zero, Nat.lt_irrefl, pz_bb, pz_bTr, Bool.false_eq_true, pz_bFa, Nat.reduceEqDiff, Nat.reduceLT, ite_not, pz_mE, pz_mE2, pz_mL, pz_mG, not_true_eq_false, not_false_eq_true, if_true, if_false, reduceIte, eq_self, true_or, or_true, or_false, false_or, and_true, true_and, and_false, false_and]
    rw [b45_10, if_pos (by decide), b45_16, e2, pz_lkt l2]
    unfold pz_sgn
    by_cases q1 : f 2 = 63
    · rw [if_pos q1, if_pos q1, b45_52]
      rfl
    · rw [if_neg q1, if_neg q1]
      by_cases q2 : f 2 = 33
      · rw [if_pos q2, if_pos q2, b45_54]
        rfl
      · rw [if_neg q2, if_neg q2]
        by_cases q3 : f 2 = 126
        · rw [if_pos q3, if_pos q3, b45_56]
          rfl
        · rw [if_neg q3, if_neg q3, b45_58]
          rfl
theorem pz_kt_le : pz_kt n f ≤ 3 := by
  unfold pz_kt
  split
  · decide
  · exact pz_sgn_le
/-- songStart -/
theorem sC44 (h : pz_cp n f I) : mm_ev 44 0 [some (.inr (.inr (2, 0)))] [] (ids, I, L, mm_RS κ) = some (some (.inl (nI (pz_s0 n f))), (ids, I, L, mm_RS κ)) := by
  have hk := pz_kt_le (n := n) (f := f)
  unfold pz_s0
  rw [b44_0, sC45 h]
  by_cases q : pz_kt n f = 0
  · rw [if_pos q, q]
    simp (disch := omega) only [b44_4, b44_7, b44_12, pz_k0, pz_k1, pz_k2, pz_k3, pz_k4, pz_k5, pz_k6, pz_k7, pz_k8, pz_k9, pz_k10, pz_k16, pz_k31, pz_k63, pz_km, nI_add, pz_mul, nI_ltI, nI_eq, nI_clamp, pz_inI, Option.bind_some, Option.toList_some, Option.toList_none, List.cons_append, List.nil_append, Nat.zero_add, Nat.mul_zero, Nat.add_zero, Nat.lt_irrefl, pz_bb, pz_bTr, Bool.false_eq_true, pz_bFa, Nat.reduceEqDiff, Nat.reduceLT, ite_not, pz_mE, pz_mE2, pz_mL, pz_mG, not_true_eq_false, not_false_eq_true, if_true, if_false, reduceIte, eq_self, true_or, or_true, or_false, false_or, and_true, true_and, and_false, false_and]
  · rw [if_neg q]
    simp (disch := omega) only [b44_4, q, b44_11, b44_12, pz_k0, pz_k1, pz_k2, pz_k3, pz_k4, pz_k5, pz_k6, pz_k7, pz_k8, pz_k9, pz_k10, pz_k16, pz_k31, pz_k63, pz_km, nI_add, pz_mul, nI_ltI, nI_eq, nI_clamp, pz_inI, Option.bind_some, Option.toList_some, Option.toList_none, List.cons_append, List.nil_append, Nat.zero_add, Nat.mul_zero, Nat.add_zero, Nat.lt_irrefl, pz_bb, pz_bTr, Bool.false_eq_true, pz_bFa, Nat.reduceEqDiff, Nat.reduceLT, ite_not, pz_mE, pz_mE2, pz_mL, pz_mG, not_true_eq_false, not_false_eq_true, if_true, if_false, reduceIte, eq_self, true_or, or_true, or_false, false_or, and_true, true_and, and_false, false_and]
/-- fitsAt -/
theorem sC43 (h : pz_cp n f I) (hi : i < n) : mm_ev 43 0 [some (.inr (.inr (2, 0))), some (.inl (nI i)), none, none] [] (ids, I, L, mm_RS κ) = some (some (.inl (pz_b (pz_fit n f i))), (ids, I, L, mm_RS κ)) := by
  have hs0 := pz_s0_b (n := n) (f := f)
  have h44 := sC44 (ids := ids) (L := L) (κ := κ) h
  obtain ⟨h1, h2, h3, h4⟩ := h
  have ei := h4 i hi
  have li := h2 i hi
  have e0 := h4 0 (by omega)
  have l0 := h2 0 (by omega)
  have hi16 : i < 16 := by omega
  by_cases hi2 : i < 2
  · by_cases hp : pz_plc (f i)
    · by_cases hz : i = 0
      · subst hz
        have hft : pz_fit n f 0 := ⟨fun _ => ⟨hp, Or.inl rfl⟩, fun q => absurd hi2 q⟩
        unfold pz_plc at hp
        rw [pz_bT hft, b43_0]
        simp (disch := omega) only [hi16, ei, b43_6, hi2, b43_12, pz_k48, show ¬ f 0 < 48 by omega, b43_18, pz_k54, show f 0 < 54 by omega, b43_24, b43_29, b43_34, b43_48, b43_53, pz_k0, pz_k1, pz_k2, pz_k3, pz_k4, pz_k5, pz_k6, pz_k7, pz_k8, pz_k9, pz_k10, pz_k16, pz_k31, pz_k63, pz_km, nI_add, pz_mul, nI_ltI, nI_eq, nI_clamp, pz_inI, Option.bind_some, Option.toList_some, Option.toList_none, List.cons_append, List.nil_append, Nat.zero_add, Nat.mul_zero, Nat.add_zero, Nat.lt_irrefl, pz_bb, pz_bTr, Bool.false_eq_true, pz_bFa, Nat.reduceEqDiff, Nat.reduceLT, ite_not, pz_mE, pz_mE2, pz_mL, pz_mG, not_true_eq_false, not_false_eq_true, if_true, if_false, reduceIte, eq_self, true_or, or_true, or_false, false_or, and_true, true_and, and_false, false_and]
      · by_cases he : f i = f 0
        · have hft : ¬ pz_fit n f i := fun q => ((q.1 hi2).2.elim hz (fun z => z he))
          unfold pz_plc at hp
          rw [pz_bF hft, b43_0]
          simp (disch := omega) only [hi16, ei, b43_6, hi2, b43_12, pz_k48, show ¬ f i < 48 by omega, b43_18, pz_k54, show f i < 54 by omega, b43_24, b43_29, b43_34, hz, b43_38, e0, pz_k0, pz_k1, pz_k2, pz_k3, pz_k4, pz_k5, pz_k6, pz_k7, pz_k8, pz_k9, pz_k10, pz_k16, pz_k31, pz_k63, pz_km, nI_add, pz_mul, nI_ltI, nI_eq, nI_clamp, pz_inI, Option.bind_some, Option.toList_some, Option.toList_none, List.cons_append, List.nil_append, Nat.zero_add, Nat.mul_zero, Nat.add_zero, Nat.lt_irrefl, pz_bb, pz_bTr, Bool.false_eq_true, pz_bFa, Nat.reduceEqDiff, Nat.reduceLT, ite_not, pz_mE, pz_mE2, pz_mL, pz_mG, not_true_eq_false, not_false_eq_true, if_true, if_false, reduceIte, eq_self, true_or, or_true, or_false, false_or, and_true, true_and, and_false, false_and]
          rw [b43_45, if_pos (by rw [he]), b43_52]
          simp (disch := omega) only [b43_53, pz_k0, pz_k1, pz_k2, pz_k3, pz_k4, pz_k5, pz_k6, pz_k7, pz_k8, pz_k9, pz_k10, pz_k16, pz_k31, pz_k63, pz_km, nI_add, pz_mul, nI_ltI, nI_eq, nI_clamp, pz_inI, Option.bind_some, Option.toList_some, Option.toList_none, List.cons_append, List.nil_append, Nat.zero_add, Nat.mul_zero, Nat.add_zero, Nat.lt_irrefl, pz_bb, pz_bTr, Bool.false_eq_true, pz_bFa, Nat.reduceEqDiff, Nat.reduceLT, ite_not, pz_mE, pz_mE2, pz_mL, pz_mG, not_true_eq_false, not_false_eq_true, if_true, if_false, reduceIte, eq_self, true_or, or_true, or_false, false_or, and_true, true_and, and_false, false_and]
        · have hft : pz_fit n f i := ⟨fun _ => ⟨hp, Or.inr he⟩, fun q => absurd hi2 q⟩
          unfold pz_plc at hp
          rw [pz_bT hft, b43_0]
          simp (disch := omega) only [hi16, ei, b43_6, hi2, b43_12, pz_k48, show ¬ f i < 48 by omega, b43_18, pz_k54, show f i < 54 by omega, b43_24, b43_29, b43_34, hz, b43_38, e0, pz_k0, pz_k1, pz_k2, pz_k3, pz_k4, pz_k5, pz_k6, pz_k7, pz_k8, pz_k9, pz_k10, pz_k16, pz_k31, pz_k63, pz_km, nI_add, pz_mul, nI_ltI, nI_eq, nI_clamp, pz_inI, Option.bind_some, Option.toList_some, Option.toList_none, List.cons_append, List.nil_append, Nat.zero_add, Nat.mul_zero, Nat.add_zero, Nat.lt_irrefl, pz_bb, pz_bTr, Bool.false_eq_true, pz_bFa, Nat.reduceEqDiff, Nat.reduceLT, ite_not, pz_mE, pz_mE2, pz_mL, pz_mG, not_true_eq_false, not_false_eq_true, if_true, if_false, reduceIte, eq_self, true_or, or_true, or_false, false_or, and_true, true_and, and_false, false_and]
          rw [b43_45, if_neg (fun z => he ((nI_eq (by omega) (by omega)).mp z)), b43_48]
          simp (disch := omega) only [b43_53, pz_k0, pz_k1, pz_k2, pz_k3, pz_k4, pz_k5, pz_k6, pz_k7, pz_k8, pz_k9, pz_k10, pz_k16, pz_k31, pz_k63, pz_km, nI_add, pz_mul, nI_ltI, nI_eq, nI_clamp, pz_inI, Option.bind_some, Option.toList_some, Option.toList_none, List.cons_append, List.nil_append, Nat.zero_add, Nat.mul_zero, Nat.add_zero, Nat.lt_irrefl, pz_bb, pz_bTr, Bool.false_eq_true, pz_bFa, Nat.reduceEqDiff, Nat.reduceLT, ite_not, pz_mE, pz_mE2, pz_mL, pz_mG, not_true_eq_false, not_false_eq_true, if_true, if_false, reduceIte, eq_self, true_or, or_true, or_false, false_or, and_true, true_and, and_false, false_and]
    · have hft : ¬ pz_fit n f i := fun q => hp (q.1 hi2).1
      unfold pz_plc at hp
      rw [pz_bF hft, b43_0]
      by_cases h48 : f i < 48
      · simp (disch := omega) only [hi16, ei, b43_6, hi2, b43_12, pz_k48, h48, b43_28, b43_29, b43_52, b43_53, pz_k0, pz_k1, pz_k2, pz_k3, pz_k4, pz_k5, pz_k6, pz_k7, pz_k8, pz_k9, pz_k10, pz_k16, pz_k31, pz_k63, pz_km, nI_add, pz_mul, nI_ltI, nI_eq, nI_clamp, pz_inI, Option.bind_some, Option.toList_some, Option.toList_none, List.cons_append, List.nil_append, Nat.zero_add, Nat.mul_zero, Nat.add_zero, Nat.lt_irrefl, pz_bb, pz_bTr, Bool.false_eq_true, pz_bFa, Nat.reduceEqDiff, Nat.reduceLT, ite_not, pz_mE, pz_mE2, pz_mL, pz_mG, not_true_eq_false, not_false_eq_true, if_true, if_false, reduceIte, eq_self, true_or, or_true, or_false, false_or, and_true, true_and, and_false, false_and]
      · simp (disch := omega) only [hi16, ei, b43_6, hi2, b43_12, pz_k48, h48, b43_18, pz_k54, show ¬ f i < 54 by omega, b43_28, b43_29, b43_52, b43_53, pz_k0, pz_k1, pz_k2, pz_k3, pz_k4, pz_k5, pz_k6, pz_k7, pz_k8, pz_k9, pz_k10, pz_k16, pz_k31, pz_k63, pz_km, nI_add, pz_mul, nI_ltI, nI_eq, nI_clamp, pz_inI, Option.bind_some, Option.toList_some, Option.toList_none, List.cons_append, List.nil_append, Nat.zero_add, Nat.mul_zero, Nat.add_zero, Nat.lt_irrefl, pz_bb, pz_bTr, Bool.false_eq_true, pz_bFa, Nat.reduceEqDiff, Nat.reduceLT, ite_not, pz_mE, pz_mE2, pz_mL, pz_mG, not_true_eq_false, not_false_eq_true, if_true, if_false, reduceIte, eq_self, true_or, or_true, or_false, false_or, and_true, true_and, and_false, false_and]
  · by_cases hs : i < pz_s0 n f
    · have hft : pz_fit n f i := ⟨fun q => absurd q hi2, fun _ => Or.inl hs⟩
      rw [pz_bT hft, b43_0]
      simp (disch := omega) only [hi16, ei, b43_6, hi2, b43_54, h44, b43_59, hs, b43_62, pz_k0, pz_k1, pz_k2, pz_k3, pz_k4, pz_k5, pz_k6, pz_k7, pz_k8, pz_k9, pz_k10, pz_k16, pz_k31, pz_k63, pz_km, nI_add, pz_mul, nI_ltI, nI_eq, nI_clamp, pz_inI, Option.bind_some, Option.toList_some, Option.toList_none, List.cons_append, List.nil_append, Nat.zero_add, Nat.mul_zero, Nat.add_zero, Nat.lt_irrefl, pz_bb, pz_bTr, Bool.false_eq_true, pz_bFa, Nat.reduceEqDiff, Nat.reduceLT, ite_not, pz_mE, pz_mE2, pz_mL, pz_mG, not_true_eq_false, not_false_eq_true, if_true, if_false, reduceIte, eq_self, true_or, or_true, or_false, false_or, and_true, true_and, and_false, false_and]
    · by_cases hl : pz_ltr (f i)
      · by_cases h5 : i < pz_s0 n f + 5
        · have hft : pz_fit n f i := ⟨fun q => absurd q hi2, fun _ => Or.inr ⟨hl, h5⟩⟩
          unfold pz_ltr at hl
          rw [pz_bT hft, b43_0]
          simp (disch := omega) only [hi16, ei, b43_6, hi2, b43_54, h44, b43_59, hs, b43_64, pz_k97, show ¬ f i < 97 by omega, b43_70, pz_k103, show f i < 103 by omega, b43_76, b43_81, h5, b43_86, b43_91, pz_k0, pz_k1, pz_k2, pz_k3, pz_k4, pz_k5, pz_k6, pz_k7, pz_k8, pz_k9, pz_k10, pz_k16, pz_k31, pz_k63, pz_km, nI_add, pz_mul, nI_ltI, nI_eq, nI_clamp, pz_inI, Option.bind_some, Option.toList_some, Option.toList_none, List.cons_append, List.nil_append, Nat.zero_add, Nat.mul_zero, Nat.add_zero, Nat.lt_irrefl, pz_bb, pz_bTr, Bool.false_eq_true, pz_bFa, Nat.reduceEqDiff, Nat.reduceLT, ite_not, pz_mE, pz_mE2, pz_mL, pz_mG, not_true_eq_false, not_false_eq_true, if_true, if_false, reduceIte, eq_self, true_or, or_true, or_false, false_or, and_true, true_and, and_false, false_and]
        · have hft : ¬ pz_fit n f i := fun q => (q.2 hi2).elim hs (fun z => h5 z.2)
          unfold pz_ltr at hl
          rw [pz_bF hft, b43_0]
          simp (disch := omega) only [hi16, ei, b43_6, hi2, b43_54, h44, b43_59, hs, b43_64, pz_k97, show ¬ f i < 97 by omega, b43_70, pz_k103, show f i < 103 by omega, b43_76, b43_81, h5, b43_90, b43_91, pz_k0, pz_k1, pz_k2, pz_k3, pz_k4, pz_k5, pz_k6, pz_k7, pz_k8, pz_k9, pz_k10, pz_k16, pz_k31, pz_k63, pz_km, nI_add, pz_mul, nI_ltI, nI_eq, nI_clamp, pz_inI, Option.bind_some, Option.toList_some, Option.toList_none, List.cons_append, List.nil_append, Nat.zero_add, Nat.mul_zero, Nat.add_zero, Nat.lt_irrefl, pz_bb, pz_bTr, Bool.false_eq_true, pz_bFa, Nat.reduceEqDiff, Nat.reduceLT, ite_not, pz_mE, pz_mE2, pz_mL, pz_mG, not_true_eq_false, not_false_eq_true, if_true, if_false, reduceIte, eq_self, true_or, or_true, or_false, false_or, and_true, true_and, and_false, false_and]
      · have hft : ¬ pz_fit n f i := fun q => (q.2 hi2).elim hs (fun z => hl z.1)
        unfold pz_ltr at hl
        rw [pz_bF hft, b43_0]
        by_cases h97 : f i < 97
        · simp (disch := omega) only [hi16, ei, b43_6, hi2, b43_54, h44, b43_59, hs, b43_64, pz_k97, h97, b43_90, b43_91, pz_k0, pz_k1, pz_k2, pz_k3, pz_k4, pz_k5, pz_k6, pz_k7, pz_k8, pz_k9, pz_k10, pz_k16, pz_k31, pz_k63, pz_km, nI_add, pz_mul, nI_ltI, nI_eq, nI_clamp, pz_inI, Option.bind_some, Option.toList_some, Option.toList_none, List.cons_append, List.nil_append, Nat.zero_add, Nat.mul_zero, Nat.add_zero, Nat.lt_irrefl, pz_bb, pz_bTr, Bool.false_eq_true, pz_bFa, Nat.reduceEqDiff, Nat.reduceLT, ite_not, pz_mE, pz_mE2, pz_mL, pz_mG, not_true_eq_false, not_false_eq_true, if_true, if_false, reduceIte, eq_self, true_or, or_true, or_false, false_or, and_true, true_and, and_false, false_and]
        · simp (disch := omega) only [hi16, ei, b43_6, hi2, b43_54, h44, b43_59, hs, b43_64, pz_k97, h97, b43_70, pz_k103, show ¬ f i < 103 by omega, b43_90, b43_91, pz_k0, pz_k1, pz_k2, pz_k3, pz_k4, pz_k5, pz_k6, pz_k7, pz_k8, pz_k9, pz_k10, pz_k16, pz_k31, pz_k63, pz_km, nI_add, pz_mul, nI_ltI, nI_eq, nI_clamp, pz_inI, Option.bind_some, Option.toList_some, Option.toList_none, List.cons_append, List.nil_append, Nat.zero_add, Nat.mul_zero, Nat.add_zero, Nat.lt_irrefl, pz_bb, pz_bTr, Bool.false_eq_true, pz_bFa, Nat.reduceEqDiff, Nat.reduceLT, ite_not, pz_mE, pz_mE2, pz_mL, pz_mG, not_true_eq_false, not_false_eq_true, if_true, if_false, reduceIte, eq_self, true_or, or_true, or_false, false_or, and_true, true_and, and_false, false_and]
/-- firstFault -/
theorem sC41 (h : pz_cp n f I) : mm_ev 41 0 [some (.inr (.inr (2, 0))), none] [] (ids, I, L, mm_RS κ) = some (some (.inl (nI (pz_ff n f))), (ids, I, L, mm_RS κ)) := by
  have hl := pz_srch (pz_nf n f) (fun i => mm_ev 41 2 [some (.inr (.inr (2, 0))), some (.inl (nI i))] [] (ids, I, L, mm_RS κ)) (fun i => some (some (.inl (nI i)), (ids, I, L, mm_RS κ))) n 0 (fun i _ hi => ?_)
  · rw [Nat.zero_add] at hl
    rw [b41_0]
    refine Eq.trans hl ?_
    have hle := pz_ff_le (n := n) (f := f)
    unfold pz_ff at hle ⊢
    by_cases hf : pz_fnd (pz_nf n f) n 0 < n
    · rw [if_pos hf]
    · have h16 := h.1
      rw [if_neg hf, show pz_fnd (pz_nf n f) n 0 = n by omega]
      try dsimp only
      rw [b41_2]
      simp (disch := omega) only [h.2.2.1, b41_26, pz_k0, pz_k1, pz_k2, pz_k3, pz_k4, pz_k5, pz_k6, pz_k7, pz_k8, pz_k9, pz_k10, pz_k16, pz_k31, pz_k63, pz_km, nI_add, pz_mul, nI_ltI, nI_eq, nI_clamp, pz_inI, Option.bind_some, Option.toList_some, Option.toList_none, List.cons_append, List.nil_append, Nat.zero_add, Nat.mul_zero, Nat.add_zero, Nat.lt_irrefl, pz_bb, pz_bTr, Bool.false_eq_true, pz_bFa, Nat.reduceEqDiff, Nat.reduceLT, ite_not, pz_mE, pz_mE2, pz_mL, pz_mG, not_true_eq_false, not_false_eq_true, if_true, if_false, reduceIte, eq_self, true_or, or_true, or_false, false_or, and_true, true_and, and_false, false_and]
  · try dsimp only
    have hi' : i < n := by omega
    have h16 := h.1
    have h43 := sC43 (ids := ids) (L := L) (κ := κ) h hi'
    unfold pz_nf
    by_cases hf : pz_fit n f i
    · rw [pz_dF (fun q => q hf), if_neg (by decide), b41_2]
      simp (disch := omega) only [h.2.2.1, hi', b41_10, h43, pz_bT hf, b41_15, b41_20, pz_k0, pz_k1, pz_k2, pz_k3, pz_k4, pz_k5, pz_k6, pz_k7, pz_k8, pz_k9, pz_k10, pz_k16, pz_k31, pz_k63, pz_km, nI_add, pz_mul, nI_ltI, nI_eq, nI_clamp, pz_inI, Option.bind_some, Option.toList_some, Option.toList_none, List.cons_append, List.nil_append, Nat.zero_add, Nat.mul_zero, Nat.add_zero, Nat.lt_irrefl, pz_bb, pz_bTr, Bool.false_eq_true, pz_bFa, Nat.reduceEqDiff, Nat.reduceLT, ite_not, pz_mE, pz_mE2, pz_mL, pz_mG, not_true_eq_false, not_false_eq_true, if_true, if_false, reduceIte, eq_self, true_or, or_true, or_false, false_or, and_true, true_and, and_false, false_and]
    · rw [pz_dT hf, if_pos rfl, b41_2]
      simp (disch := omega) only [h.2.2.1, hi', b41_10, h43, pz_bF hf, b41_15, b41_18, pz_k0, pz_k1, pz_k2, pz_k3, pz_k4, pz_k5, pz_k6, pz_k7, pz_k8, pz_k9, pz_k10, pz_k16, pz_k31, pz_k63, pz_km, nI_add, pz_mul, nI_ltI, nI_eq, nI_clamp, pz_inI, Option.bind_some, Option.toList_some, Option.toList_none, List.cons_append, List.nil_append, Nat.zero_add, Nat.mul_zero, Nat.add_zero, Nat.lt_irrefl, pz_bb, pz_bTr, Bool.false_eq_true, pz_bFa, Nat.reduceEqDiff, Nat.reduceLT, ite_not, pz_mE, pz_mE2, pz_mL, pz_mG, not_true_eq_false, not_false_eq_true, if_true, if_false, reduceIte, eq_self, true_or, or_true, or_false, false_or, and_true, true_and, and_false, false_and]
/-- isBridge -/
theorem sC42 (h : pz_cp n f I) : mm_ev 42 0 [some (.inr (.inr (2, 0)))] [] (ids, I, L, mm_RS κ) = some (some (.inl (pz_b (pz_s0 n f < n ∧ pz_ff n f = n))), (ids, I, L, mm_RS κ)) := by
  have h16 := h.1
  have hs0 := pz_s0_b (n := n) (f := f)
  have hle := pz_ff_le (n := n) (f := f)
  have h44 := sC44 (ids := ids) (L := L) (κ := κ) h
  have h41 := sC41 (ids := ids) (L := L) (κ := κ) h
  by_cases h1 : pz_s0 n f < n
  · by_cases h2 : pz_ff n f = n
    · rw [pz_bT ⟨h1, h2⟩, b42_0]
      simp (disch := omega) only [h44, h.2.2.1, b42_8, h1, b42_11, h41, b42_15, h2, b42_22, b42_27, pz_k0, pz_k1, pz_k2, pz_k3, pz_k4, pz_k5, pz_k6, pz_k7, pz_k8, pz_k9, pz_k10, pz_k16, pz_k31, pz_k63, pz_km, nI_add, pz_mul, nI_ltI, nI_eq, nI_clamp, pz_inI, Option.bind_some, Option.toList_some, Option.toList_none, List.cons_append, List.nil_append, Nat.zero_add, Nat.mul_zero, Nat.add_zero, Nat.lt_irrefl, pz_bb, pz_bTr, Bool.false_eq_true, pz_bFa, Nat.reduceEqDiff, Nat.reduceLT, ite_not, pz_mE, pz_mE2, pz_mL, pz_mG, not_true_eq_false, not_false_eq_true, if_true, if_false, reduceIte, eq_self, true_or, or_true, or_false, false_or, and_true, true_and, and_false, false_and]
    · rw [pz_bF (fun q : pz_s0 n f < n ∧ pz_ff n f = n => h2 q.2), b42_0]
      simp (disch := omega) only [h44, h.2.2.1, b42_8, h1, b42_11, h41, b42_15, h2, b42_26, b42_27, pz_k0, pz_k1, pz_k2, pz_k3, pz_k4, pz_k5, pz_k6, pz_k7, pz_k8, pz_k9, pz_k10, pz_k16, pz_k31, pz_k63, pz_km, nI_add, pz_mul, nI_ltI, nI_eq, nI_clamp, pz_inI, Option.bind_some, Option.toList_some, Option.toList_none, List.cons_append, List.nil_append, Nat.zero_add, Nat.mul_zero, Nat.add_zero, Nat.lt_irrefl, pz_bb, pz_bTr, Bool.false_eq_true, pz_bFa, Nat.reduceEqDiff, Nat.reduceLT, ite_not, pz_mE, pz_mE2, pz_mL, pz_mG, not_true_eq_false, not_false_eq_true, if_true, if_false, reduceIte, eq_self, true_or, or_true, or_false, false_or, and_true, true_and, and_false, false_and]
  · rw [pz_bF (fun q : pz_s0 n f < n ∧ pz_ff n f = n => h1 q.1), b42_0]
    simp (disch := omega) only [h44, h.2.2.1, b42_8, h1, b42_26, b42_27, pz_k0, pz_k1, pz_k2, pz_k3, pz_k4, pz_k5, pz_k6, pz_k7, pz_k8, pz_k9, pz_k10, pz_k16, pz_k31, pz_k63, pz_km, nI_add, pz_mul, nI_ltI, nI_eq, nI_clamp, pz_inI, Option.bind_some, Option.toList_some, Option.toList_none, List.cons_append, List.nil_append, Nat.zero_add, Nat.mul_zero, Nat.add_zero, Nat.lt_irrefl, pz_bb, pz_bTr, Bool.false_eq_true, pz_bFa, Nat.reduceEqDiff, Nat.reduceLT, ite_not, pz_mE, pz_mE2, pz_mL, pz_mG, not_true_eq_false, not_false_eq_true, if_true, if_false, reduceIte, eq_self, true_or, or_true, or_false, false_or, and_true, true_and, and_false, false_and]
/-- signOf -/
theorem sM118 (hc : c ≤ 126) : mm_ev 118 0 [some (.inl (nI c))] [] (ids, I, L, mm_RM) = some (some (.inl (nI (pz_sgn c))), (ids, I, L, mm_RM)) := by
  unfold pz_sgn
  rw [b118_0, pz_k63]
  by_cases q1 : c = 63
  · rw [if_pos q1, q1]
    simp (disch := omega) only [b118_6, b118_31, pz_k0, pz_k1, pz_k2, pz_k3, pz_k4, pz_k5, pz_k6, pz_k7, pz_k8, pz_k9, pz_k10, pz_k16, pz_k31, pz_k63, pz_km, nI_add, pz_mul, nI_ltI, nI_eq, nI_clamp, pz_inI, Option.bind_some, Option.toList_some, Option.toList_none, List.cons_append, List.nil_append, Nat.zero_add, Nat.mul_zero, Nat.add_zero, Nat.lt_irrefl, pz_bb, pz_bTr, Bool.false_eq_true, pz_bFa, Nat.reduceEqDiff, Nat.reduceLT, ite_not, pz_mE, pz_mE2, pz_mL, pz_mG, not_true_eq_false, not_false_eq_true, if_true, if_false, reduceIte, eq_self, true_or, or_true, or_false, false_or, and_true, true_and, and_false, false_and]
  · by_cases q2 : c = 33
    · rw [if_neg q1, if_pos q2, q2]
      simp (disch := omega) only [b118_10, pz_k33, b118_16, b118_31, pz_k0, pz_k1, pz_k2, pz_k3, pz_k4, pz_k5, pz_k6, pz_k7, pz_k8, pz_k9, pz_k10, pz_k16, pz_k31, pz_k63, pz_km, nI_add, pz_mul, nI_ltI, nI_eq, nI_clamp, pz_inI, Option.bind_some, Option.toList_some, Option.toList_none, List.cons_append, List.nil_append, Nat.zero_add, Nat.mul_zero, Nat.add_zero, Nat.lt_irrefl, pz_bb, pz_bTr, Bool.false_eq_true, pz_bFa, Nat.reduceEqDiff, Nat.reduceLT, ite_not, pz_mE, pz_mE2, pz_mL, pz_mG, not_true_eq_false, not_false_eq_true, if_true, if_false, reduceIte, eq_self, true_or, or_true, or_false, false_or, and_true, true_and, and_false, false_and]
    · by_cases q3 : c = 126
      · rw [if_neg q1, if_neg q2, if_pos q3, q3]
        simp (disch := omega) only [b118_10, pz_k33, b118_20, pz_k126, b118_26, b118_31, pz_k0, pz_k1, pz_k2, pz_k3, pz_k4, pz_k5, pz_k6, pz_k7, pz_k8, pz_k9, pz_k10, pz_k16, pz_k31, pz_k63, pz_km, nI_add, pz_mul, nI_ltI, nI_eq, nI_clamp, pz_inI, Option.bind_some, Option.toList_some, Option.toList_none, List.cons_append, List.nil_append, Nat.zero_add, Nat.mul_zero, Nat.add_zero, Nat.lt_irrefl, pz_bb, pz_bTr, Bool.false_eq_true, pz_bFa, Nat.reduceEqDiff, Nat.reduceLT, ite_not, pz_mE, pz_mE2, pz_mL, pz_mG, not_true_eq_false, not_false_eq_true, if_true, if_false, reduceIte, eq_self, true_or, or_true, or_false, false_or, and_true, true_and, and_false, false_and]
      · rw [if_neg q1, if_neg q2, if_neg q3]
        simp (disch := omega) only [q1, b118_10, pz_k33, q2, b118_20, pz_k126, q3, b118_30, b118_31, pz_k0, pz_k1, pz_k2, pz_k3, pz_k4, pz_k5, pz_k6, pz_k7, pz_k8, pz_k9, pz_k10, pz_k16, pz_k31, pz_k63, pz_km, nI_add, pz_mul, nI_ltI, nI_eq, nI_clamp, pz_inI, Option.bind_some, Option.toList_some, Option.toList_none, List.cons_append, List.nil_append, Nat.zero_add, Nat.mul_zero, Nat.add_zero, Nat.lt_irrefl, pz_bb, pz_bTr, Bool.false_eq_true, pz_bFa, Nat.reduceEqDiff, Nat.reduceLT, ite_not, pz_mE, pz_mE2, pz_mL, pz_mG, not_true_eq_false, not_false_eq_true, if_true, if_false, reduceIte, eq_self, true_or, or_true, or_false, false_or, and_true, true_and, and_false, false_and]
theorem pz_plI (hc : c ≤ 126) : (¬ nI c < nI 48 ∧ ¬ nI 53 < nI c) ↔ pz_plc c := by
  rw [nI_ltI (by omega) (by decide), nI_ltI (by decide) (by omega)]
  unfold pz_plc
  omega
theorem pz_ltI (hc : c ≤ 126) : (¬ nI c < nI 97 ∧ ¬ nI 102 < nI c) ↔ pz_ltr c := by
  rw [nI_ltI (by omega) (by decide), nI_ltI (by decide) (by omega)]
  unfold pz_ltr
  omega
theorem sM113p (hc : c ≤ 126) : mm_ev 113 0 [some (.inl (nI c)), some (.inl (nI 48)), some (.inl (nI 53))] [] (ids, I, L, mm_RM) = some (some (.inl (pz_b (pz_plc c))), (ids, I, L, mm_RM)) := by
  rw [sM113, propext (pz_plI hc)]
theorem sM113l (hc : c ≤ 126) : mm_ev 113 0 [some (.inl (nI c)), some (.inl (nI 97)), some (.inl (nI 102))] [] (ids, I, L, mm_RM) = some (some (.inl (pz_b (pz_ltr c))), (ids, I, L, mm_RM)) := by
  rw [sM113, propext (pz_ltI hc)]
theorem sM119_0 (hc : c ≤ 126) (hp : pz_plc c) : mm_ev 119 0 [some (.inr (.inr (9, 0))), some (.inl (nI 0)), some (.inl (nI c)), none] [] (ids, I, L, mm_RM) = some (some (.inl (nI 1)), (ids, mm_uI I 63 0 0 (nI (c - 48)), L, mm_RM)) := by
  have hp' := hp
  unfold pz_plc at hp'
  rw [b119_0, pz_k48, pz_k53, sM113p hc, pz_bT hp]
  simp (disch := omega) only [b119_8, b119_13, pz_k48, pz_sub hp'.1, b119_25, b119_30, pz_k0, pz_k1, pz_k2, pz_k3, pz_k4, pz_k5, pz_k6, pz_k7, pz_k8, pz_k9, pz_k10, pz_k16, pz_k31, pz_k63, pz_km, nI_add, pz_mul, nI_ltI, nI_eq, nI_clamp, pz_inI, Option.bind_some, Option.toList_some, Option.toList_none, List.cons_append, List.nil_append, Nat.zero_add, Nat.mul_zero, Nat.add_zero, Nat.lt_irrefl, pz_bb, pz_bTr, Bool.false_eq_true, pz_bFa, Nat.reduceEqDiff, Nat.reduceLT, ite_not, pz_mE, pz_mE2, pz_mL, pz_mG, not_true_eq_false, not_false_eq_true, if_true, if_false, reduceIte, eq_self, true_or, or_true, or_false, false_or, and_true, true_and, and_false, false_and]
theorem sM119_0F (hc : c ≤ 126) (hp : ¬ pz_plc c) : ∃ I', mm_ev 119 0 [some (.inr (.inr (9, 0))), some (.inl (nI 0)), some (.inl (nI c)), none] [] (ids, I, L, mm_RM) = some (some (.inl pz_m), (ids, I', L, mm_RM)) ∧ ∀ c', c' ≠ 63 → I' c' = I c' := by
  refine ⟨mm_uI I 63 0 0 (nI c - nI 48), ?_, fun c' h => pz_uI_ne h⟩
  rw [b119_0, pz_k48, pz_k53, sM113p hc, pz_bF hp]
  simp (disch := omega) only [b119_8, b119_13, pz_k48, b119_29, b119_30, pz_k0, pz_k1, pz_k2, pz_k3, pz_k4, pz_k5, pz_k6, pz_k7, pz_k8, pz_k9, pz_k10, pz_k16, pz_k31, pz_k63, pz_km, nI_add, pz_mul, nI_ltI, nI_eq, nI_clamp, pz_inI, Option.bind_some, Option.toList_some, Option.toList_none, List.cons_append, List.nil_append, Nat.zero_add, Nat.mul_zero, Nat.add_zero, Nat.lt_irrefl, pz_bb, pz_bTr, Bool.false_eq_true, pz_bFa, Nat.reduceEqDiff, Nat.reduceLT, ite_not, pz_mE, pz_mE2, pz_mL, pz_mG, not_true_eq_false, not_false_eq_true, if_true, if_false, reduceIte, eq_self, true_or, or_true, or_false, false_or, and_true, true_and, and_false, false_and]
theorem sM119_1 (hc : c ≤ 126) (hp : pz_plc c) (hd : pz_plc d) (h63 : I 63 0 0 = nI (d - 48)) (hcd : c ≠ d) : mm_ev 119 0 [some (.inr (.inr (9, 0))), some (.inl (nI 1)), some (.inl (nI c)), none] [] (ids, I, L, mm_RM) = some (some (.inl (nI 2)), (ids, mm_uI I 64 0 0 (nI (c - 48)), L, mm_RM)) := by
  have hp' := hp
  have hd' := hd
  unfold pz_plc at hp' hd'
  have e63 : mm_uI I 64 0 0 (nI (c - 48)) 63 0 0 = nI (d - 48) := by rw [pz_uI_ne (by decide)]; exact h63
  rw [b119_0, pz_k48, pz_k53, sM113p hc, pz_bT hp]
  simp (disch := omega) only [b119_8, b119_31, b119_36, pz_k48, pz_sub hp'.1, b119_48, pz_uI_s, e63, show ¬ c - 48 = d - 48 by omega, b119_59, b119_64, pz_k0, pz_k1, pz_k2, pz_k3, pz_k4, pz_k5, pz_k6, pz_k7, pz_k8, pz_k9, pz_k10, pz_k16, pz_k31, pz_k63, pz_km, nI_add, pz_mul, nI_ltI, nI_eq, nI_clamp, pz_inI, Option.bind_some, Option.toList_some, Option.toList_none, List.cons_append, List.nil_append, Nat.zero_add, Nat.mul_zero, Nat.add_zero, Nat.lt_irrefl, pz_bb, pz_bTr, Bool.false_eq_true, pz_bFa, Nat.reduceEqDiff, Nat.reduceLT, ite_not, pz_mE, pz_mE2, pz_mL, pz_mG, not_true_eq_false, not_false_eq_true, if_true, if_false, reduceIte, eq_self, true_or, or_true, or_false, false_or, and_true, true_and, and_false, false_and]
theorem sM119_1F (hc : c ≤ 126) (hd : pz_plc d) (h63 : I 63 0 0 = nI (d - 48)) (hp : ¬ (pz_plc c ∧ c ≠ d)) : ∃ I', mm_ev 119 0 [some (.inr (.inr (9, 0))), some (.inl (nI 1)), some (.inl (nI c)), none] [] (ids, I, L, mm_RM) = some (some (.inl pz_m), (ids, I', L, mm_RM)) ∧ ∀ c', c' ≠ 64 → I' c' = I c' := by
  refine ⟨mm_uI I 64 0 0 (nI c - nI 48), ?_, fun c' h => pz_uI_ne h⟩
  rw [b119_0, pz_k48, pz_k53, sM113p hc]
  by_cases hq : pz_plc c
  · have hcd : c = d := Classical.byContradiction (fun z => hp ⟨hq, z⟩)
    have hq' := hq
    unfold pz_plc at hq'
    have e63 : mm_uI I 64 0 0 (nI (c - 48)) 63 0 0 = nI (d - 48) := by rw [pz_uI_ne (by decide)]; exact h63
    subst hcd
    rw [pz_bT hq]
    simp (disch := omega) only [b119_8, b119_31, b119_36, pz_k48, pz_sub hq'.1, b119_48, pz_uI_s, e63, b119_63, b119_64, pz_k0, pz_k1, pz_k2, pz_k3, pz_k4, pz_k5, pz_k6, pz_k7, pz_k8, pz_k9, pz_k10, pz_k16, pz_k31, pz_k63, pz_km, nI_add, pz_mul, nI_ltI, nI_eq, nI_clamp, pz_inI, Option.bind_some, Option.toList_some, Option.toList_none, List.cons_append, List.nil_append, Nat.zero_add, Nat.mul_zero, Nat.add_zero, Nat.lt_irrefl, pz_bb, pz_bTr, Bool.false_eq_true, pz_bFa, Nat.reduceEqDiff, Nat.reduceLT, ite_not, pz_mE, pz_mE2, pz_mL, pz_mG, not_true_eq_false, not_false_eq_true, if_true, if_false, reduceIte, eq_self, true_or, or_true, or_false, false_or, and_true, true_and, and_false, false_and]
  · rw [pz_bF hq]
    simp (disch := omega) only [b119_8, b119_31, b119_36, pz_k48, b119_63, b119_64, pz_k0, pz_k1, pz_k2, pz_k3, pz_k4, pz_k5, pz_k6, pz_k7, pz_k8, pz_k9, pz_k10, pz_k16, pz_k31, pz_k63, pz_km, nI_add, pz_mul, nI_ltI, nI_eq, nI_clamp, pz_inI, Option.bind_some, Option.toList_some, Option.toList_none, List.cons_append, List.nil_append, Nat.zero_add, Nat.mul_zero, Nat.add_zero, Nat.lt_irrefl, pz_bb, pz_bTr, Bool.false_eq_true, pz_bFa, Nat.reduceEqDiff, Nat.reduceLT, ite_not, pz_mE, pz_mE2, pz_mL, pz_mG, not_true_eq_false, not_false_eq_true, if_true, if_false, reduceIte, eq_self, true_or, or_true, or_false, false_or, and_true, true_and, and_false, false_and]
theorem sM119_s (hc : c ≤ 126) (hs : ¬ pz_sgn c = 0) : mm_ev 119 0 [some (.inr (.inr (9, 0))), some (.inl (nI 2)), some (.inl (nI c)), none] [] (ids, I, L, mm_RM) = some (some (.inl (nI 3)), (ids, mm_uI I 65 0 0 (nI (pz_sgn c)), L, mm_RM)) := by
  have hle := pz_sgn_le (c := c)
  rw [b119_0, pz_k48, pz_k53, sM113p hc]
  simp (disch := omega) only [b119_8, b119_31, b119_65, b119_70, sM118 hc, b119_74, show 0 < pz_sgn c by omega, b119_77, b119_82, pz_k0, pz_k1, pz_k2, pz_k3, pz_k4, pz_k5, pz_k6, pz_k7, pz_k8, pz_k9, pz_k10, pz_k16, pz_k31, pz_k63, pz_km, nI_add, pz_mul, nI_ltI, nI_eq, nI_clamp, pz_inI, Option.bind_some, Option.toList_some, Option.toList_none, List.cons_append, List.nil_append, Nat.zero_add, Nat.mul_zero, Nat.add_zero, Nat.lt_irrefl, pz_bb, pz_bTr, Bool.false_eq_true, pz_bFa, Nat.reduceEqDiff, Nat.reduceLT, ite_not, pz_mE, pz_mE2, pz_mL, pz_mG, not_true_eq_false, not_false_eq_true, if_true, if_false, reduceIte, eq_self, true_or, or_true, or_false, false_or, and_true, true_and, and_false, false_and]
theorem sM119_87 {y : Nat} {x3 : Int32} (hc : c ≤ 126) (h66 : I 66 0 0 = nI m) (hm : m ≤ 5) : (pz_ltr c ∧ m < 5 → mm_ev 119 87 [some (.inr (.inr (9, 0))), some (.inl (nI y)), some (.inl (nI c)), some (.inl (x3))] [] (ids, I, L, mm_RM) = some (some (.inl (nI 3)), (ids, mm_uI (mm_uI I 136 0 m (nI (c - 97))) 66 0 0 (nI (m + 1)), L, mm_RM))) ∧ (¬ (pz_ltr c ∧ m < 5) → mm_ev 119 87 [some (.inr (.inr (9, 0))), some (.inl (nI y)), some (.inl (nI c)), some (.inl (x3))] [] (ids, I, L, mm_RM) = some (some (.inl pz_m), (ids, I, L, mm_RM))) := by
  have h66' : mm_uI I 136 0 m (nI (c - 97)) 66 0 0 = nI m := by rw [pz_uI_ne (by decide)]; exact h66
  rw [b119_87, pz_k97, pz_k102, sM113l hc]
  by_cases hl : pz_ltr c
  · have hl' := hl
    unfold pz_ltr at hl'
    rw [pz_bT hl]
    by_cases h5 : m < 5
    · refine ⟨fun _ => ?_, fun q => absurd ⟨hl, h5⟩ q⟩
      simp (disch := omega) only [b119_95, b119_98, h66, show ¬ m = 5 by omega, b119_108, h5, pz_k97, pz_sub hl'.1, b119_121, h66', pz_k0, pz_k1, pz_k2, pz_k3, pz_k4, pz_k5, pz_k6, pz_k7, pz_k8, pz_k9, pz_k10, pz_k16, pz_k31, pz_k63, pz_km, nI_add, pz_mul, nI_ltI, nI_eq, nI_clamp, pz_inI, Option.bind_some, Option.toList_some, Option.toList_none, List.cons_append, List.nil_append, Nat.zero_add, Nat.mul_zero, Nat.add_zero, Nat.lt_irrefl, pz_bb, pz_bTr, Bool.false_eq_true, pz_bFa, Nat.reduceEqDiff, Nat.reduceLT, ite_not, pz_mE, pz_mE2, pz_mL, pz_mG, not_true_eq_false, not_false_eq_true, if_true, if_false, reduceIte, eq_self, true_or, or_true, or_false, false_or, and_true, true_and, and_false, false_and]
    · refine ⟨fun q => absurd q.2 h5, fun _ => ?_⟩
      simp (disch := omega) only [b119_95, b119_98, h66, show m = 5 by omega, b119_106, pz_k0, pz_k1, pz_k2, pz_k3, pz_k4, pz_k5, pz_k6, pz_k7, pz_k8, pz_k9, pz_k10, pz_k16, pz_k31, pz_k63, pz_km, nI_add, pz_mul, nI_ltI, nI_eq, nI_clamp, pz_inI, Option.bind_some, Option.toList_some, Option.toList_none, List.cons_append, List.nil_append, Nat.zero_add, Nat.mul_zero, Nat.add_zero, Nat.lt_irrefl, pz_bb, pz_bTr, Bool.false_eq_true, pz_bFa, Nat.reduceEqDiff, Nat.reduceLT, ite_not, pz_mE, pz_mE2, pz_mL, pz_mG, not_true_eq_false, not_false_eq_true, if_true, if_false, reduceIte, eq_self, true_or, or_true, or_false, false_or, and_true, true_and, and_false, false_and]
  · rw [pz_bF hl]
    refine ⟨fun q => absurd q.1 hl, fun _ => ?_⟩
    simp (disch := omega) only [b119_95, b119_106, pz_k0, pz_k1, pz_k2, pz_k3, pz_k4, pz_k5, pz_k6, pz_k7, pz_k8, pz_k9, pz_k10, pz_k16, pz_k31, pz_k63, pz_km, nI_add, pz_mul, nI_ltI, nI_eq, nI_clamp, pz_inI, Option.bind_some, Option.toList_some, Option.toList_none, List.cons_append, List.nil_append, Nat.zero_add, Nat.mul_zero, Nat.add_zero, Nat.lt_irrefl, pz_bb, pz_bTr, Bool.false_eq_true, pz_bFa, Nat.reduceEqDiff, Nat.reduceLT, ite_not, pz_mE, pz_mE2, pz_mL, pz_mG, not_true_eq_false, not_false_eq_true, if_true, if_false, reduceIte, eq_self, true_or, or_true, or_false, false_or, and_true, true_and, and_false, false_and]
theorem sM119_2 (hc : c ≤ 126) (hs : pz_sgn c = 0) : mm_ev 119 0 [some (.inr (.inr (9, 0))), some (.inl (nI 2)), some (.inl (nI c)), none] [] (ids, I, L, mm_RM) = mm_ev 119 87 [some (.inr (.inr (9, 0))), some (.inl (nI 2)), some (.inl (nI c)), some (.inl (pz_b (pz_plc c)))] [] (ids, I, L, mm_RM) := by
  rw [b119_0, pz_k48, pz_k53, sM113p hc]
  simp (disch := omega) only [b119_8, b119_31, b119_65, b119_70, sM118 hc, hs, b119_74, pz_k0, pz_k1, pz_k2, pz_k3, pz_k4, pz_k5, pz_k6, pz_k7, pz_k8, pz_k9, pz_k10, pz_k16, pz_k31, pz_k63, pz_km, nI_add, pz_mul, nI_ltI, nI_eq, nI_clamp, pz_inI, Option.bind_some, Option.toList_some, Option.toList_none, List.cons_append, List.nil_append, Nat.zero_add, Nat.mul_zero, Nat.add_zero, Nat.lt_irrefl, pz_bb, pz_bTr, Bool.false_eq_true, pz_bFa, Nat.reduceEqDiff, Nat.reduceLT, ite_not, pz_mE, pz_mE2, pz_mL, pz_mG, not_true_eq_false, not_false_eq_true, if_true, if_false, reduceIte, eq_self, true_or, or_true, or_false, false_or, and_true, true_and, and_false, false_and]
theorem sM119_3 (hc : c ≤ 126) : mm_ev 119 0 [some (.inr (.inr (9, 0))), some (.inl (nI 3)), some (.inl (nI c)), none] [] (ids, I, L, mm_RM) = mm_ev 119 87 [some (.inr (.inr (9, 0))), some (.inl (nI 3)), some (.inl (nI c)), some (.inl (pz_b (pz_plc c)))] [] (ids, I, L, mm_RM) := by
  rw [b119_0, pz_k48, pz_k53, sM113p hc]
  simp (disch := omega) only [b119_8, b119_31, b119_65, pz_k0, pz_k1, pz_k2, pz_k3, pz_k4, pz_k5, pz_k6, pz_k7, pz_k8, pz_k9, pz_k10, pz_k16, pz_k31, pz_k63, pz_km, nI_add, pz_mul, nI_ltI, nI_eq, nI_clamp, pz_inI, Option.bind_some, Option.toList_some, Option.toList_none, List.cons_append, List.nil_append, Nat.zero_add, Nat.mul_zero, Nat.add_zero, Nat.lt_irrefl, pz_bb, pz_bTr, Bool.false_eq_true, pz_bFa, Nat.reduceEqDiff, Nat.reduceLT, ite_not, pz_mE, pz_mE2, pz_mL, pz_mG, not_true_eq_false, not_false_eq_true, if_true, if_false, reduceIte, eq_self, true_or, or_true, or_false, false_or, and_true, true_and, and_false, false_and]
/-- the model's page -/
def pz_mp (n : Nat) (f : Nat → Nat) (J : mm_HI) : Prop := n ≤ 16 ∧ (∀ j, j < n → f j ≤ 126) ∧ J 59 0 0 = nI n ∧ ∀ j, j < n → J 135 0 j = nI (f j)
def pz_rs (n : Nat) (f : Nat → Nat) (k : Nat) (J : mm_HI) : Prop := (0 < k → J 63 0 0 = nI (f 0 - 48)) ∧ (1 < k → J 64 0 0 = nI (f 1 - 48)) ∧ J 65 0 0 = nI (if 2 < k then pz_kt n f else 0) ∧ J 66 0 0 = nI (if 2 < k then k - pz_s0 n f else 0) ∧ (2 < k → ∀ q, q < k - pz_s0 n f → J 136 0 q = nI (f (pz_s0 n f + q) - 97))
/-- a step of reading that fits -/
theorem sM120s (h : pz_mp n f I) (hf : pz_fr I J) (hk : k < n) (h0 : 0 < k → pz_plc (f 0)) (hft : pz_fit n f k) (hr : pz_rs n f k J) : ∃ J', mm_ev 119 0 [some (.inr (.inr (9, 0))), some (.inl (nI (min k 3))), some (.inl (nI (f k))), none] [] (ids, J, L, mm_RM) = some (some (.inl (nI (min (k + 1) 3))), (ids, J', L, mm_RM)) ∧ pz_fr I J' ∧ pz_rs n f (k + 1) J' := by
  obtain ⟨h1, h2, h3, h4⟩ := h
  obtain ⟨r1, r2, r3, r4, r5⟩ := hr
  have hc := h2 k hk
  have hs0 := pz_s0_b (n := n) (f := f)
  by_cases k0 : k = 0
  · subst k0
    have hp := (hft.1 (by decide)).1
    refine ⟨_, sM119_0 hc hp, pz_frU rfl hf, ?_⟩
    rw [if_neg (by decide)] at r3 r4
    refine ⟨fun _ => pz_uI_s, fun q => absurd q (by decide), ?_, ?_, fun q => absurd q (by decide)⟩
    · rw [if_neg (by decide), pz_uI_ne (by decide)]
      exact r3
    · rw [if_neg (by decide), pz_uI_ne (by decide)]
      exact r4
  · by_cases k1 : k = 1
    · subst k1
      obtain ⟨hp, hne⟩ := hft.1 (by decide)
      have hp0 := h0 (by decide)
      have hcd : f 1 ≠ f 0 := hne.resolve_left (by decide)
      refine ⟨_, sM119_1 hc hp hp0 (r1 (by decide)) hcd, pz_frU rfl hf, ?_⟩
      rw [if_neg (by decide)] at r3 r4
      refine ⟨fun _ => by rw [pz_uI_ne (by decide)]; exact r1 (by decide), fun q => pz_uI_s, ?_, ?_, fun q => absurd q (by decide)⟩
      · rw [if_neg (by decide), pz_uI_ne (by decide)]
        exact r3
      · rw [if_neg (by decide), pz_uI_ne (by decide)]
        exact r4
    · by_cases k2 : k = 2
      · subst k2
        have hkt : pz_kt n f = pz_sgn (f 2) := by
          unfold pz_kt
          rw [if_neg (by omega)]
        rw [if_neg (by decide)] at r3 r4
        by_cases hs : pz_sgn (f 2) = 0
        · have hs2 : pz_s0 n f = 2 := by
            unfold pz_s0
            rw [if_pos (by omega)]
          have hl := (hft.2 (by decide)).resolve_left (by omega)
          have h87 := ((sM119_87 (ids := ids) (L := L) (y := 2) (x3 := pz_b (pz_plc (f 2))) hc r4 (by decide)).1 ⟨hl.1, by decide⟩)
          refine ⟨_, (sM119_2 hc hs).trans h87, pz_frU rfl (pz_frU rfl hf), ?_⟩
          refine ⟨fun _ => by rw [pz_uI_ne (by decide), pz_uI_ne (by decide)]; exact r1 (by decide), fun _ => by rw [pz_uI_ne (by decide), pz_uI_ne (by decide)]; exact r2 (by decide), ?_, ?_, fun _ q hq => ?_⟩
          · rw [if_pos (by decide), pz_uI_ne (by decide), pz_uI_ne (by decide), hkt, hs]
            exact r3
          · rw [if_pos (by decide), pz_uI_s, hs2]
          · rw [hs2] at hq ⊢
            rw [pz_uI_ne (by decide), show q = 0 by omega, pz_uI_s]
        · have hs3 : pz_s0 n f = 3 := by
            unfold pz_s0
            rw [if_neg (by omega)]
          refine ⟨_, sM119_s hc hs, pz_frU rfl hf, ?_⟩
          refine ⟨fun _ => by rw [pz_uI_ne (by decide)]; exact r1 (by decide), fun _ => by rw [pz_uI_ne (by decide)]; exact r2 (by decide), ?_, ?_, fun _ q hq => ?_⟩
          · rw [if_pos (by decide), pz_uI_s, hkt]
          · rw [if_pos (by decide), pz_uI_ne (by decide), hs3]
            exact r4
          · rw [hs3] at hq
            omega
      · have hk3 : min k 3 = 3 := by omega
        have hk4 : min (k + 1) 3 = 3 := by omega
        rw [if_pos (by omega)] at r3 r4
        have hl := (hft.2 (by omega)).resolve_left (by omega)
        have h87 := ((sM119_87 (ids := ids) (L := L) (y := 3) (x3 := pz_b (pz_plc (f k))) hc r4 (by omega)).1 ⟨hl.1, by omega⟩)
        rw [hk3, hk4]
        refine ⟨_, (sM119_3 hc).trans h87, pz_frU rfl (pz_frU rfl hf), ?_⟩
        refine ⟨fun _ => by rw [pz_uI_ne (by decide), pz_uI_ne (by decide)]; exact r1 (by omega), fun _ => by rw [pz_uI_ne (by decide), pz_uI_ne (by decide)]; exact r2 (by omega), ?_, ?_, fun _ q hq => ?_⟩
        · rw [if_pos (by omega), pz_uI_ne (by decide), pz_uI_ne (by decide)]
          exact r3
        · rw [if_pos (by omega), pz_uI_s, show k - pz_s0 n f + 1 = k + 1 - pz_s0 n f by omega]
        · rw [pz_uI_ne (by decide), pz_uI_at]
          by_cases e : q = k - pz_s0 n f
          · rw [if_pos e, show pz_s0 n f + q = k by omega]
          · rw [if_neg e]
            exact r5 (by omega) q (by omega)
/-- a step of reading that doesn't fit -/
theorem sM120f (h : pz_mp n f I) (hf : pz_fr I J) (hk : k < n) (h0 : 0 < k → pz_plc (f 0)) (h3 : 2 < k → k ≤ pz_s0 n f + 5) (hft : ¬ pz_fit n f k) (hr : pz_rs n f k J) : ∃ J', mm_ev 119 0 [some (.inr (.inr (9, 0))), some (.inl (nI (min k 3))), some (.inl (nI (f k))), none] [] (ids, J, L, mm_RM) = some (some (.inl pz_m), (ids, J', L, mm_RM)) ∧ pz_fr I J' := by
  obtain ⟨h1, h2, h3', h4⟩ := h
  obtain ⟨r1, r2, r3, r4, r5⟩ := hr
  have hc := h2 k hk
  have hs0 := pz_s0_b (n := n) (f := f)
  by_cases k0 : k = 0
  · subst k0
    have hp : ¬ pz_plc (f 0) := fun q => hft ⟨fun _ => ⟨q, Or.inl rfl⟩, fun q => absurd (by decide) q⟩
    obtain ⟨I', e1, e2⟩ := sM119_0F (ids := ids) (I := J) (L := L) hc hp
    exact ⟨I', e1, pz_frT hf (pz_fr_ne rfl e2)⟩
  · by_cases k1 : k = 1
    · subst k1
      have hp : ¬ (pz_plc (f 1) ∧ f 1 ≠ f 0) := fun q => hft ⟨fun _ => ⟨q.1, Or.inr q.2⟩, fun q => absurd (by decide) q⟩
      obtain ⟨I', e1, e2⟩ := sM119_1F (ids := ids) (I := J) (L := L) hc (h0 (by decide)) (r1 (by decide)) hp
      exact ⟨I', e1, pz_frT hf (pz_fr_ne rfl e2)⟩
    · by_cases k2 : k = 2
      · subst k2
        have hkt : pz_kt n f = pz_sgn (f 2) := by
          unfold pz_kt
          rw [if_neg (by omega)]
        rw [if_neg (by decide)] at r3 r4
        have hs : pz_sgn (f 2) = 0 := by
          refine Classical.byContradiction (fun z => hft ⟨fun q => absurd q (by decide), fun _ => Or.inl ?_⟩)
          unfold pz_s0
          rw [if_neg (by omega)]
          decide
        have hl : ¬ (pz_ltr (f 2) ∧ 0 < 5) := fun q => hft ⟨fun q => absurd q (by decide), fun _ => Or.inr ⟨q.1, by omega⟩⟩
        have h87 := ((sM119_87 (ids := ids) (L := L) (y := 2) (x3 := pz_b (pz_plc (f 2))) hc r4 (by decide)).2 hl)
        exact ⟨_, (sM119_2 hc hs).trans h87, hf⟩
      · have hk3 : min k 3 = 3 := by omega
        rw [if_pos (by omega)] at r3 r4
        have h3k := h3 (by omega)
        have hl : ¬ (pz_ltr (f k) ∧ k - pz_s0 n f < 5) := fun q => hft ⟨fun q => absurd q (by omega), fun _ => Or.inr ⟨q.1, by omega⟩⟩
        have h87 := ((sM119_87 (ids := ids) (L := L) (y := 3) (x3 := pz_b (pz_plc (f k))) hc r4 (by omega)).2 hl)
        rw [hk3]
        exact ⟨_, (sM119_3 hc).trans h87, hf⟩
/-- readBridge -/
theorem sM120 (h : pz_mp n f I) : ∃ J', mm_ev 120 0 [some (.inr (.inr (9, 0))), none, none, none, none] [] (ids, I, L, mm_RM) = some (none, (ids, J', L, mm_RM)) ∧ pz_fr I J' ∧ J' 61 0 0 = nI (pz_ff n f) ∧ J' 62 0 0 = pz_b (pz_s0 n f < n ∧ pz_ff n f = n) ∧ (pz_ff n f = n → pz_rs n f n J') := by
  have hmp := h
  obtain ⟨h1, h2, h3, h4⟩ := h
  have hle := pz_ff_le (n := n) (f := f)
  have hs0 := pz_s0_b (n := n) (f := f)
  obtain ⟨I0, hI0⟩ : ∃ I0, I0 = mm_uI (mm_uI I 65 0 0 (nI 0)) 66 0 0 (nI 0) := ⟨_, rfl⟩
  have f0 : pz_fr I I0 := by
    rw [hI0]
    exact pz_frU rfl (pz_frU rfl pz_fr0)
  have hp0 : ∀ k, 0 < k → k ≤ pz_ff n f → pz_plc (f 0) := fun k hk hle => ((pz_ff_fit (n := n) (f := f) (i := 0) (by omega)).1 (by decide)).1
  have hrs0 : pz_rs n f 0 I0 := by
    refine ⟨fun q => absurd q (by decide), fun q => absurd q (by decide), ?_, ?_, fun q => absurd q (by decide)⟩
    · rw [if_neg (by decide), hI0, pz_uI_ne (by decide), pz_uI_s]
    · rw [if_neg (by decide), hI0, pz_uI_s]
  have hl := pz_loopP (fun k (j : Option mm_V × mm_HI) => mm_ev 120 16 [some (.inr (.inr (9, 0))), some (.inl (nI (min k 3))), some (.inl (nI k)), some (.inl (nI 1)), j.1] [] (ids, j.2, L, mm_RM)) (fun k j => pz_fr I j.2 ∧ pz_rs n f k j.2) (pz_ff n f) (fun k j hk hj => ?_) (none, I0) ⟨f0, hrs0⟩
  · obtain ⟨j, l0, l1, l2⟩ := hl
    try dsimp only at l0 l1 l2
    have e59 : j.2 59 0 0 = nI n := by rw [l1 59 rfl]; exact h3
    have hst : mm_ev 120 0 [some (.inr (.inr (9, 0))), none, none, none, none] [] (ids, I, L, mm_RM) = mm_ev 120 16 [some (.inr (.inr (9, 0))), some (.inl (nI (min (pz_ff n f) 3))), some (.inl (nI (pz_ff n f))), some (.inl (nI 1)), j.1] [] (ids, j.2, L, mm_RM) := by
      rw [b120_0, pz_k0, ← hI0]
      exact l0
    rw [hst]
    by_cases hF : pz_ff n f = n
    · obtain ⟨J1, hJ1⟩ : ∃ J1, J1 = mm_uI j.2 61 0 0 (nI n) := ⟨_, rfl⟩
      have g59 : J1 59 0 0 = nI n := by rw [hJ1, pz_uI_ne (by decide)]; exact e59
      have g66 : J1 66 0 0 = nI (if 2 < n then n - pz_s0 n f else 0) := by
        rw [hJ1, pz_uI_ne (by decide), ← hF]
        rw [hF]
        have := l2.2.2.2.1
        rw [hF] at this
        exact this
      refine ⟨mm_uI J1 62 0 0 (pz_b (pz_s0 n f < n ∧ pz_ff n f = n)), ?_, pz_frU rfl (by rw [hJ1]; exact pz_frU rfl l1), by rw [pz_uI_ne (by decide), hJ1, pz_uI_s, hF], pz_uI_s, fun _ => ?_⟩
      · rw [hF, b120_16]
        by_cases hw : pz_s0 n f < n
        · rw [if_pos (by omega)] at g66
          rw [pz_bT (P := pz_s0 n f < n ∧ n = n) ⟨hw, rfl⟩]
          simp (disch := omega) only [e59, pz_k0, pz_k1, pz_k2, pz_k3, pz_k4, pz_k5, pz_k6, pz_k7, pz_k8, pz_k9, pz_k10, pz_k16, pz_k31, pz_k63, pz_km, nI_add, pz_mul, nI_ltI, nI_eq, nI_clamp, pz_inI, Option.bind_some, Option.toList_some, Option.toList_none, List.cons_append, List.nil_append, Nat.zero_add, Nat.mul_zero, Nat.add_zero, Nat.lt_irrefl, pz_bb, pz_bTr, Bool.false_eq_true, pz_bFa, Nat.reduceEqDiff, Nat.reduceLT, ite_not, pz_mE, pz_mE2, pz_mL, pz_mG, not_true_eq_false, not_false_eq_true, if_true, if_false, reduceIte, eq_self, true_or, or_true, or_false, false_or, and_true, true_and, and_false, false_and]
          rw [b120_79, ← hJ1, g59, if_pos rfl, b120_93, g66]
          simp (disch := omega) only [show 0 < n - pz_s0 n f by omega, b120_100, pz_k0, pz_k1, pz_k2, pz_k3, pz_k4, pz_k5, pz_k6, pz_k7, pz_k8, pz_k9, pz_k10, pz_k16, pz_k31, pz_k63, pz_km, nI_add, pz_mul, nI_ltI, nI_eq, nI_clamp, pz_inI, Option.bind_some, Option.toList_some, Option.toList_none, List.cons_append, List.nil_append, Nat.zero_add, Nat.mul_zero, Nat.add_zero, Nat.lt_irrefl, pz_bb, pz_bTr, Bool.false_eq_true, pz_bFa, Nat.reduceEqDiff, Nat.reduceLT, ite_not, pz_mE, pz_mE2, pz_mL, pz_mG, not_true_eq_false, not_false_eq_true, if_true, if_false, reduceIte, eq_self, true_or, or_true, or_false, false_or, and_true, true_and, and_false, false_and]
          rw [b120_105, if_pos (by decide), b120_108]
        · rw [pz_bF (P := pz_s0 n f < n ∧ n = n) (fun q => hw q.1)]
          have g66' : J1 66 0 0 = nI 0 := by
            rw [g66]
            by_cases q : 2 < n
            · rw [if_pos q, show n - pz_s0 n f = 0 by omega]
            · rw [if_neg q]
          simp (disch := omega) only [e59, pz_k0, pz_k1, pz_k2, pz_k3, pz_k4, pz_k5, pz_k6, pz_k7, pz_k8, pz_k9, pz_k10, pz_k16, pz_k31, pz_k63, pz_km, nI_add, pz_mul, nI_ltI, nI_eq, nI_clamp, pz_inI, Option.bind_some, Option.toList_some, Option.toList_none, List.cons_append, List.nil_append, Nat.zero_add, Nat.mul_zero, Nat.add_zero, Nat.lt_irrefl, pz_bb, pz_bTr, Bool.false_eq_true, pz_bFa, Nat.reduceEqDiff, Nat.reduceLT, ite_not, pz_mE, pz_mE2, pz_mL, pz_mG, not_true_eq_false, not_false_eq_true, if_true, if_false, reduceIte, eq_self, true_or, or_true, or_false, false_or, and_true, true_and, and_false, false_and]
          rw [b120_79, ← hJ1, g59, if_pos rfl, b120_93, g66']
          simp (disch := omega) only [b120_104, pz_k0, pz_k1, pz_k2, pz_k3, pz_k4, pz_k5, pz_k6, pz_k7, pz_k8, pz_k9, pz_k10, pz_k16, pz_k31, pz_k63, pz_km, nI_add, pz_mul, nI_ltI, nI_eq, nI_clamp, pz_inI, Option.bind_some, Option.toList_some, Option.toList_none, List.cons_append, List.nil_append, Nat.zero_add, Nat.mul_zero, Nat.add_zero, Nat.lt_irrefl, pz_bb, pz_bTr, Bool.false_eq_true, pz_bFa, Nat.reduceEqDiff, Nat.reduceLT, ite_not, pz_mE, pz_mE2, pz_mL, pz_mG, not_true_eq_false, not_false_eq_true, if_true, if_false, reduceIte, eq_self, true_or, or_true, or_false, false_or, and_true, true_and, and_false, false_and]
          rw [b120_105, if_pos (by decide), b120_108]
      · rw [hF] at l2
        obtain ⟨r1, r2, r3, r4, r5⟩ := l2
        have n2 : ∀ c, c ≠ 61 → c ≠ 62 → mm_uI J1 62 0 0 (pz_b (pz_s0 n f < n ∧ pz_ff n f = n)) c = j.2 c := fun c z1 z2 => by rw [pz_uI_ne z2, hJ1, pz_uI_ne z1]
        refine ⟨fun q => ?_, fun q => ?_, ?_, ?_, fun q => ?_⟩
        · rw [n2 63 (by decide) (by decide)]
          exact r1 q
        · rw [n2 64 (by decide) (by decide)]
          exact r2 q
        · rw [n2 65 (by decide) (by decide)]
          exact r3
        · rw [n2 66 (by decide) (by decide)]
          exact r4
        · rw [n2 136 (by decide) (by decide)]
          exact r5 q
    · have hFn : pz_ff n f < n := by omega
      have hft := pz_ff_not hFn
      have h3k : 2 < pz_ff n f → pz_ff n f ≤ pz_s0 n f + 5 := by
        intro q
        have := (pz_ff_fit (n := n) (f := f) (i := pz_ff n f - 1) (by omega)).2 (by omega)
        omega
      obtain ⟨J2, s0, s1⟩ := sM120f (ids := ids) (L := L) hmp l1 hFn (fun q => hp0 _ q (Nat.le_refl _)) h3k hft l2
      have e135 : j.2 135 0 (pz_ff n f) = nI (f (pz_ff n f)) := by rw [l1 135 rfl]; exact h4 _ hFn
      have t59 : J2 59 0 0 = nI n := by rw [s1 59 rfl]; exact h3
      obtain ⟨J1, hJ1⟩ : ∃ J1, J1 = mm_uI J2 61 0 0 (nI (pz_ff n f)) := ⟨_, rfl⟩
      have g59 : J1 59 0 0 = nI n := by rw [hJ1, pz_uI_ne (by decide)]; exact t59
      refine ⟨mm_uI J1 62 0 0 (nI 0), ?_, pz_frU rfl (by rw [hJ1]; exact pz_frU rfl s1), by rw [pz_uI_ne (by decide), hJ1, pz_uI_s], by rw [pz_uI_s, pz_bF (fun q : pz_s0 n f < n ∧ pz_ff n f = n => hF q.2)], fun q => absurd q hF⟩
      rw [b120_16]
      simp (disch := omega) only [e59, hFn, b120_24, b120_28, show pz_ff n f < 16 by omega, e135, b120_36, s0, b120_39, b120_51, b120_52, b120_62, b120_63, b120_73, b120_74, pz_k0, pz_k1, pz_k2, pz_k3, pz_k4, pz_k5, pz_k6, pz_k7, pz_k8, pz_k9, pz_k10, pz_k16, pz_k31, pz_k63, pz_km, nI_add, pz_mul, nI_ltI, nI_eq, nI_clamp, pz_inI, Option.bind_some, Option.toList_some, Option.toList_none, List.cons_append, List.nil_append, Nat.zero_add, Nat.mul_zero, Nat.add_zero, Nat.lt_irrefl, pz_bb, pz_bTr, Bool.false_eq_true, pz_bFa, Nat.reduceEqDiff, Nat.reduceLT, ite_not, pz_mE, pz_mE2, pz_mL, pz_mG, not_true_eq_false, not_false_eq_true, if_true, if_false, reduceIte, eq_self, true_or, or_true, or_false, false_or, and_true, true_and, and_false, false_and]
      rw [b120_16]
      simp (disch := omega) only [t59, hFn, b120_24, pz_k0, pz_k1, pz_k2, pz_k3, pz_k4, pz_k5, pz_k6, pz_k7, pz_k8, pz_k9, pz_k10, pz_k16, pz_k31, pz_k63, pz_km, nI_add, pz_mul, nI_ltI, nI_eq, nI_clamp, pz_inI, Option.bind_some, Option.toList_some, Option.toList_none, List.cons_append, List.nil_append, Nat.zero_add, Nat.mul_zero, Nat.add_zero, Nat.lt_irrefl, pz_bb, pz_bTr, Bool.false_eq_true, pz_bFa, Nat.reduceEqDiff, Nat.reduceLT, ite_not, pz_mE, pz_mE2, pz_mL, pz_mG, not_true_eq_false, not_false_eq_true, if_true, if_false, reduceIte, eq_self, true_or, or_true, or_false, false_or, and_true, true_and, and_false, false_and]
      rw [b120_79, ← hJ1, g59, if_neg (fun q => hF ((nI_eq (by omega) (by omega)).mp q)), b120_104]
      rw [b120_105, if_pos (by decide), b120_108]
      rfl
  · try dsimp only at hj
    try dsimp only
    obtain ⟨l1, l2⟩ := hj
    have e59 : j.2 59 0 0 = nI n := by rw [l1 59 rfl]; exact h3
    have e135 : j.2 135 0 k = nI (f k) := by rw [l1 135 rfl]; exact h4 k (by omega)
    obtain ⟨J2, s0, s1, s2⟩ := sM120s (ids := ids) (L := L) hmp l1 (show k < n by omega) (fun q => hp0 k q (by omega)) (pz_ff_fit hk) l2
    refine ⟨(some (.inl (nI (min (k + 1) 3))), J2), ?_, s1, s2⟩
    rw [b120_16]
    simp (disch := omega) only [e59, show k < n by omega, b120_24, b120_28, show k < 16 by omega, e135, b120_36, s0, b120_39, b120_47, b120_52, b120_57, b120_63, b120_69, b120_74, pz_k0, pz_k1, pz_k2, pz_k3, pz_k4, pz_k5, pz_k6, pz_k7, pz_k8, pz_k9, pz_k10, pz_k16, pz_k31, pz_k63, pz_km, nI_add, pz_mul, nI_ltI, nI_eq, nI_clamp, pz_inI, Option.bind_some, Option.toList_some, Option.toList_none, List.cons_append, List.nil_append, Nat.zero_add, Nat.mul_zero, Nat.add_zero, Nat.lt_irrefl, pz_bb, pz_bTr, Bool.false_eq_true, pz_bFa, Nat.reduceEqDiff, Nat.reduceLT, ite_not, pz_mE, pz_mE2, pz_mL, pz_mG, not_true_eq_false, not_false_eq_true, if_true, if_false, reduceIte, eq_self, true_or, or_true, or_false, false_or, and_true, true_and, and_false, false_and]
theorem pz_pgC (h : pz_pg n f I J) : pz_cp n f I := ⟨h.1, fun j hj => (h.2.1 j hj).2, h.2.2.1, fun j hj => (h.2.2.2.2 j hj).1⟩
theorem pz_pgM (h : pz_pg n f I J) : pz_mp n f J := ⟨h.1, fun j hj => (h.2.1 j hj).2, h.2.2.2.1, fun j hj => (h.2.2.2.2 j hj).2⟩
theorem op3 (h : pz_Q k ck n g f A κ I J) : lw_two (pz_R (k + 1)) 3 121 [] (mm_idC, I, LC, mm_RS κ) (mm_idM, J, LM, mm_RM) := by
  have hp := h.2.2.2.2.2.2.1
  obtain ⟨J', j0, j1, j2, j3, j4⟩ := sM120 (ids := mm_idM) (L := LM) (pz_pgM hp)
  refine pz_two (laC := [some (.inr (.inr (1, 0)))]) (laM := [some (.inr (.inr (9, 0)))]) (by rw [show mm_mL 3 = 1 from by decide +kernel]; rfl) (by rw [show mm_mL 121 = 1 from by decide +kernel]; rfl) (r :=  nI (pz_ff n f)) (hC' := (mm_idC, I, LC, mm_RS κ)) (hM' := (mm_idM, J', LM, mm_RM)) ?_ ?_ (pz_rdo h pz_fr0 j1)
  · rw [b3_0, sC41 (pz_pgC hp)]
    exact b3_7 ..
  · rw [b121_0, j0]
    simp (disch := omega) only [pz_k0, pz_k1, pz_k2, pz_k3, pz_k4, pz_k5, pz_k6, pz_k7, pz_k8, pz_k9, pz_k10, pz_k16, pz_k31, pz_k63, pz_km, nI_add, pz_mul, nI_ltI, nI_eq, nI_clamp, pz_inI, Option.bind_some, Option.toList_some, Option.toList_none, List.cons_append, List.nil_append, Nat.zero_add, Nat.mul_zero, Nat.add_zero, Nat.lt_irrefl, pz_bb, pz_bTr, Bool.false_eq_true, pz_bFa, Nat.reduceEqDiff, Nat.reduceLT, ite_not, pz_mE, pz_mE2, pz_mL, pz_mG, not_true_eq_false, not_false_eq_true, if_true, if_false, reduceIte, eq_self, true_or, or_true, or_false, false_or, and_true, true_and, and_false, false_and]
    rw [b121_4, j2]
end PZ65
