/-! night -/
def pz_fo (A : pz_A) (s : Nat) : Prop := A 11 s 0 < pz_pop (A 8 s 0)
def pz_nu (A : pz_A) (s : Nat) : Nat := (pz_fg (A 8 s 0) (A 20 s) 6).getD 0
noncomputable def pz_nS (A : pz_A) (s : Nat) : Nat → Nat → Nat := fun c j => if c = 8 then @ite _ (pz_fo A s) (Classical.propDecidable _) (pz_df (A 8 s 0) (2 ^ pz_nu A s)) (A 8 s 0) else if c = 9 then A 10 s 0 else if c = 20 then @ite _ (pz_fo A s ∧ j = pz_nu A s) (Classical.propDecidable _) 0 (A 20 s j) else A c s j
noncomputable def pz_ni (A : pz_A) (s : Nat) : pz_A := pz_sA A s (A 6 0 0) (pz_nS A s)
noncomputable def pz_nA (A : pz_A) : Nat → pz_A
  | 0 => A
  | t + 1 => pz_ni (pz_nA A t) t
noncomputable def pz_nc (A : pz_A) : Nat → Nat
  | 0 => 0
  | t + 1 => pz_nc A t + @ite _ (pz_fo (pz_nA A t) t) (Classical.propDecidable _) 1 0
theorem pz_nc_s {A : pz_A} {t : Nat} : pz_nc A (t + 1) = pz_nc A t + @ite _ (pz_fo (pz_nA A t) t) (Classical.propDecidable _) 1 0 := rfl
theorem pz_nc_le {A : pz_A} : ∀ t, pz_nc A t ≤ t
  | 0 => Nat.le_refl 0
  | t + 1 => by
    have := pz_nc_le (A := A) t
    rw [pz_nc_s]
    split <;> omega
set_option maxRecDepth 100000 in
theorem pz_df_bt0 : ∀ K, K < 64 → ∀ u, u < 6 → ∀ x, x < 6 → (¬ pz_bt (pz_df K (2 ^ u)) x = 1 ∨ (pz_bt K x = 1 ∧ ¬ x = u)) := by decide +kernel
theorem pz_df_bt (K : Nat) (hK : K < 64) (u : Nat) (hu : u < 6) (x : Nat) (hx : x < 6) (h : pz_bt (pz_df K (2 ^ u)) x = 1) : pz_bt K x = 1 ∧ x ≠ u := (pz_df_bt0 K hK u hu x hx).resolve_left (fun q => q h)
section PZ59
variable {ids : List (Nat × Nat)} {I J I' J' : mm_HI} {L LC LM LC' LM' : mm_HL} {κ f f' : Nat → Nat} {A : pz_A} {k ck n n' g b v s p K e u W m : Nat}
theorem pz_ns_c {c : Nat} (h : c = 7 ∨ c = 10 ∨ c = 11 ∨ c = 12 ∨ c = 18 ∨ c = 19) : pz_ni A s c s = A c s := by
  unfold pz_ni
  rw [pz_sA_e (by omega)]
  funext j
  unfold pz_nS
  rw [if_neg (by omega), if_neg (by omega), if_neg (by omega)]
theorem pz_ns_8 : pz_ni A s 8 s = fun _ => @ite _ (pz_fo A s) (Classical.propDecidable _) (pz_df (A 8 s 0) (2 ^ pz_nu A s)) (A 8 s 0) := by
  unfold pz_ni
  rw [pz_sA_e (by omega)]
  rfl
theorem pz_ns_9 : pz_ni A s 9 s = fun _ => A 10 s 0 := by
  unfold pz_ni
  rw [pz_sA_e (by omega)]
  rfl
theorem pz_ns_20 : pz_ni A s 20 s = fun j => @ite _ (pz_fo A s ∧ j = pz_nu A s) (Classical.propDecidable _) 0 (A 20 s j) := by
  unfold pz_ni
  rw [pz_sA_e (by omega)]
  rfl
theorem pz_nu_s (hA : pz_wf ck A) (hs : s < A 6 0 0) (hf : pz_fo A s) : pz_fg (A 8 s 0) (A 20 s) 6 = some (pz_nu A s) ∧ pz_nu A s < 6 ∧ pz_bt (A 8 s 0) (pz_nu A s) = 1 := by
  have hx : ∃ x, x < 6 ∧ pz_bt (A 8 s 0) x = 1 := by
    refine Classical.byContradiction (fun q => ?_)
    have z : ∀ x, x < 6 → pz_bt (A 8 s 0) x = 0 := by
      intro x hx
      have h2 := pz_bt2 (v := A 8 s 0) (s := x)
      have : ¬ pz_bt (A 8 s 0) x = 1 := fun w => q ⟨x, hx, w⟩
      omega
    unfold pz_fo pz_pop at hf
    rw [z 0 (by decide), z 1 (by decide), z 2 (by decide), z 3 (by decide), z 4 (by decide), z 5 (by decide)] at hf
    omega
  obtain ⟨x, h1, h2⟩ := hx
  obtain ⟨w, hw⟩ := pz_fg_some (K := A 8 s 0) (U := A 20 s) 6 x h1 h2
  have hl := pz_fg_lt 6 w hw
  have e : pz_nu A s = w := by
    unfold pz_nu
    rw [hw]
    rfl
  rw [e]
  exact ⟨hw, hl⟩
theorem pz_ni_wf (hA : pz_wf ck A) (hs : s < A 6 0 0) : pz_wf ck (pz_ni A s) := by
  obtain ⟨b1, b2, b3, b4, b5, b6, b7, b8, b9, b10⟩ := hA.2.2.2.2.1 s hs
  refine pz_wf_s hA (Nat.le_refl _) hA.1 hA.2.2.2.1 (fun t ht _ => ht) (fun _ => ?_)
  show pz_wfs ck (pz_ni A s) s
  unfold pz_wfs
  rw [pz_ns_c (c := 7) (by omega), pz_ns_8, pz_ns_9, pz_ns_c (c := 10) (by omega), pz_ns_c (c := 11) (by omega), pz_ns_c (c := 12) (by omega), pz_ns_c (c := 18) (by omega), pz_ns_c (c := 19) (by omega), pz_ns_20]
  dsimp only
  by_cases hf : pz_fo A s
  · obtain ⟨u1, u2, u3⟩ := pz_nu_s hA hs hf
    rw [if_pos hf]
    refine ⟨b1, (pz_dfl0 _ b2 _ (pz_tp0 _ u2).1).2, b4, b4, b5, b6, b7, b8, fun v hv => ⟨(b9 v hv).1, ?_⟩, fun x y hx hy kx ky => ?_⟩
    · split
      · exact Nat.zero_le _
      · exact (b9 v hv).2
    · have zx := pz_df_bt _ b2 _ u2 x hx kx
      have zy := pz_df_bt _ b2 _ u2 y hy ky
      rw [if_neg (fun q => zx.2 q.2), if_neg (fun q => zy.2 q.2)]
      exact b10 x y hx hy zx.1 zy.1
  · rw [if_neg hf]
    refine ⟨b1, b2, b4, b4, b5, b6, b7, b8, fun v hv => ⟨(b9 v hv).1, ?_⟩, fun x y hx hy kx ky => ?_⟩
    · rw [if_neg (fun q => hf q.1)]
      exact (b9 v hv).2
    · rw [if_neg (fun q => hf q.1), if_neg (fun q => hf q.1)]
      exact b10 x y hx hy kx ky
theorem pz_nA_wf (hA : pz_wf ck A) : ∀ t, t ≤ A 6 0 0 → pz_wf ck (pz_nA A t) ∧ pz_nA A t 6 0 0 = A 6 0 0 ∧ pz_nA A t 0 0 0 = A 0 0 0
  | 0, _ => ⟨hA, rfl, rfl⟩
  | t + 1, ht => by
    obtain ⟨h1, h2, h3⟩ := pz_nA_wf hA t (by omega)
    refine ⟨pz_ni_wf h1 (by rw [h2]; omega), ?_, ?_⟩
    · show pz_sA (pz_nA A t) t (pz_nA A t 6 0 0) (pz_nS (pz_nA A t) t) 6 0 0 = _
      rw [pz_sA_6]
      exact h2
    · show pz_sA (pz_nA A t) t (pz_nA A t 6 0 0) (pz_nS (pz_nA A t) t) 0 0 0 = _
      rw [pz_sA_c (by decide)]
      exact h3
/-- sleep -/
theorem sC92 (hA : pz_wf ck A) (hC : pz_C 0 A I κ) (hs : s < A 6 0 0) : ∃ I', mm_ev 92 0 [some (.inr (.inr (6, s)))] [] (ids, I, L, mm_RS κ) = some (some (.inl (pz_b (pz_fo A s))), (ids, I', L, mm_RS κ)) ∧ pz_C 0 (pz_ni A s) I' κ ∧ ∀ c i, (c ≠ 23 ∧ c ≠ 24) ∨ i ≠ s → I' c i = I c i := by
  obtain ⟨a7, a8, a9, a10, a11, a11', a12, a19, a18, -⟩ := hA.2.2.2.2.1 s hs
  obtain ⟨d1, d2, d3, d4, d5, d6, d7, d8⟩ := pz_C0s hC hs
  have h64 := hA.1
  obtain ⟨I1, hI1⟩ : ∃ I1, I1 = mm_uI I 24 s 0 (nI (A 10 s 0)) := ⟨_, rfl⟩
  have n1 : ∀ c, c ≠ 24 → I1 c = I c := fun c h1 => by rw [hI1, pz_uI_ne h1]
  have e23 : I1 23 s 0 = nI (A 8 s 0) := by rw [n1 23 (by decide)]; exact d2
  have e26 : I1 26 s 0 = nI (A 11 s 0) := by rw [n1 26 (by decide)]; exact d5
  have hpop := pz_pop_le (v := A 8 s 0)
  have hfin : ∀ I', (∀ c i, (c ≠ 23 ∧ c ≠ 24) ∨ i ≠ s → I' c i = I c i) → I' 23 s 0 = nI (@ite _ (pz_fo A s) (Classical.propDecidable _) (pz_df (A 8 s 0) (2 ^ pz_nu A s)) (A 8 s 0)) → I' 24 s 0 = nI (A 10 s 0) → pz_C 0 (pz_ni A s) I' κ := by
    intro I' g1 g2 g3
    refine pz_C_s hC (fun c i hc => g1 c i (by omega)) (by rw [g1 12 0 (by omega)]; exact hC.2.2.1) (fun t ht _ => ht) (fun _ => ?_)
    show pz_Cs 0 (pz_ni A s) I' s
    unfold pz_Cs
    rw [pz_ns_c (c := 7) (by omega), pz_ns_8, pz_ns_9, pz_ns_c (c := 10) (by omega), pz_ns_c (c := 11) (by omega), pz_ns_c (c := 12) (by omega), pz_ns_c (c := 18) (by omega), pz_ns_c (c := 19) (by omega), Nat.mul_zero, Nat.zero_add, g1 22 s (by omega), g1 25 s (by omega), g1 26 s (by omega), g1 27 s (by omega), g1 28 s (by omega), g1 118 s (by omega)]
    exact ⟨d1, g2, g3, d4, d5, d6, d7, d8⟩
  by_cases hf : pz_fo A s
  · obtain ⟨u1, u2, u3⟩ := pz_nu_s hA hs hf
    have hf' := hf
    unfold pz_fo at hf'
    refine ⟨mm_uI I1 23 s 0 (nI (pz_df (A 8 s 0) (2 ^ pz_nu A s))), ?_, hfin _ (fun c i hc => ?_) ?_ ?_, fun c i hc => ?_⟩
    · rw [b92_0, d4, ← hI1, e23]
      have h88 := sC88 (ids := ids) (L := L) (κ := κ) (I := I1) (s := s) (U := A 18 s) e23 a8 (fun v hv => ⟨by rw [n1 118 (by decide)]; exact d8 v hv, by have := a18 v hv; omega⟩)
      rw [pz_fgA hA hs, u1] at h88
      rw [pz_bT hf]
      simp (disch := omega) only [s176 a8, b92_15, e26, hf', b92_24, h88, e23, show pz_oI (some (pz_nu A s)) = nI (pz_nu A s) from rfl, b92_34, pz_one, pz_dfl a8 (pz_tp0 _ u2).1, pz_k0, pz_k1, pz_k2, pz_k3, pz_k4, pz_k5, pz_k6, pz_k7, pz_k8, pz_k9, pz_k10, pz_k16, pz_k31, pz_k63, pz_km, nI_add, pz_mul, nI_ltI, nI_eq, nI_clamp, pz_inI, Option.bind_some, Option.toList_some, Option.toList_none, List.cons_append, List.nil_append, Nat.zero_add, Nat.mul_zero, Nat.add_zero, Nat.lt_irrefl, pz_bb, pz_bTr, Bool.false_eq_true, pz_bFa, Nat.reduceEqDiff, Nat.reduceLT, ite_not, pz_mE, pz_mE2, pz_mL, pz_mG, not_true_eq_false, not_false_eq_true, if_true, if_false, reduceIte, eq_self, true_or, or_true, or_false, false_or, and_true, true_and, and_false, false_and]
    · rw [pz_uI_i (by omega), hI1, pz_uI_i (by omega)]
    · rw [if_pos hf, pz_uI_s]
    · rw [pz_uI_ne (by decide), hI1, pz_uI_s]
    · rw [pz_uI_i (by omega), hI1, pz_uI_i (by omega)]
  · have hf' := hf
    unfold pz_fo at hf'
    refine ⟨I1, ?_, hfin _ (fun c i hc => ?_) ?_ ?_, fun c i hc => ?_⟩
    · rw [b92_0, d4, ← hI1, e23]
      rw [pz_bF hf]
      simp (disch := omega) only [s176 a8, b92_15, e26, hf', b92_22, pz_k0, pz_k1, pz_k2, pz_k3, pz_k4, pz_k5, pz_k6, pz_k7, pz_k8, pz_k9, pz_k10, pz_k16, pz_k31, pz_k63, pz_km, nI_add, pz_mul, nI_ltI, nI_eq, nI_clamp, pz_inI, Option.bind_some, Option.toList_some, Option.toList_none, List.cons_append, List.nil_append, Nat.zero_add, Nat.mul_zero, Nat.add_zero, Nat.lt_irrefl, pz_bb, pz_bTr, Bool.false_eq_true, pz_bFa, Nat.reduceEqDiff, Nat.reduceLT, ite_not, pz_mE, pz_mE2, pz_mL, pz_mG, not_true_eq_false, not_false_eq_true, if_true, if_false, reduceIte, eq_self, true_or, or_true, or_false, false_or, and_true, true_and, and_false, false_and]
    · rw [hI1, pz_uI_i (by omega)]
    · rw [if_neg hf]
      exact e23
    · rw [hI1, pz_uI_s]
    · rw [hI1, pz_uI_i (by omega)]
/-- a singer's night in the model -/
theorem sM146s {q : Nat} {o3 : Option mm_V} (hq : q < 100) (hA : pz_wf ck A) (hM : pz_M A J) (hs : s < A 6 0 0) : ∃ o' J', mm_ev 146 12 [some (.inr (.inr (9, 0))), some (.inl (nI q)), some (.inl (nI s)), o3] [] (ids, J, L, mm_RM) = mm_ev 146 4 [some (.inr (.inr (9, 0))), some (.inl (nI (q + @ite _ (pz_fo A s) (Classical.propDecidable _) 1 0))), some (.inl (nI (s + 1))), o'] [] (ids, J', L, mm_RM) ∧ pz_M (pz_ni A s) J' ∧ ∀ c, c ≠ 127 ∧ c ≠ 128 ∧ c ≠ 132 → J' c = J c := by
  obtain ⟨a7, a8, a9, a10, a11, a11', a12, a19, a18, -⟩ := hA.2.2.2.2.1 s hs
  obtain ⟨d1, d2, d3, d4, d5, d6, d7⟩ := pz_M0s hM hs
  have h64 := hA.1
  have h5 := hA.2.2.2.1
  have hs5 : s < 5 := by omega
  obtain ⟨J1, hJ1⟩ : ∃ J1, J1 = mm_uI J 128 0 s (nI (A 10 s 0)) := ⟨_, rfl⟩
  have n1 : ∀ c, c ≠ 128 → J1 c = J c := fun c h1 => by rw [hJ1, pz_uI_ne h1]
  have e127 : J1 127 0 s = nI (A 8 s 0) := by rw [n1 127 (by decide)]; exact d2
  have e130 : J1 130 0 s = nI (A 11 s 0) := by rw [n1 130 (by decide)]; exact d5
  have hpop := pz_pop_le (v := A 8 s 0)
  have hfin : ∀ J', (∀ c, c ≠ 127 ∧ c ≠ 128 ∧ c ≠ 132 → J' c = J c) → (∀ c j, 126 ≤ c ∧ c ≤ 131 ∧ j ≠ s → J' c 0 j = J c 0 j) → (∀ j, j < 6 * s ∨ 6 * s + 6 ≤ j → J' 132 0 j = J 132 0 j) → J' 127 0 s = nI (@ite _ (pz_fo A s) (Classical.propDecidable _) (pz_df (A 8 s 0) (2 ^ pz_nu A s)) (A 8 s 0)) → J' 128 0 s = nI (A 10 s 0) → (∀ v, v < 6 → J' 132 0 (6 * s + v) = nI (@ite _ (pz_fo A s ∧ v = pz_nu A s) (Classical.propDecidable _) 0 (A 20 s v))) → pz_M (pz_ni A s) J' := by
    intro J' g1 g2 g3 g4 g5 g6
    refine pz_M_s hM (fun c hc => g1 c (by omega)) g2 g3 (by rw [g1 47 (by omega)]; exact hM.2.2.1) (fun t ht _ => ht) (fun _ => ?_)
    show pz_Ms 126 127 128 131 132 (pz_ni A s) J' s
    unfold pz_Ms
    rw [pz_ns_c (c := 7) (by omega), pz_ns_8, pz_ns_9, pz_ns_c (c := 10) (by omega), pz_ns_c (c := 11) (by omega), pz_ns_c (c := 12) (by omega), pz_ns_20, g1 126 (by omega), g1 129 (by omega), g1 130 (by omega), g1 131 (by omega)]
    exact ⟨d1, g4, g5, d4, d5, d6, g6⟩
  by_cases hf : pz_fo A s
  · obtain ⟨u1, u2, u3⟩ := pz_nu_s hA hs hf
    have hf' := hf
    unfold pz_fo at hf'
    have h136 := sM136 (ids := ids) (L := L) (I := J1) (U := A 20 s) hs5 e127 a8 (fun v hv => ⟨by rw [n1 132 (by decide)]; exact d7 v hv, by have := a18 v hv; omega⟩)
    rw [u1] at h136
    refine ⟨some (.inl (nI (pz_nu A s))), mm_uI (mm_uI J1 127 0 s (nI (pz_df (A 8 s 0) (2 ^ pz_nu A s)))) 132 0 (6 * s + pz_nu A s) (nI 0), ?_, hfin _ (fun c hc => ?_) (fun c j hc => ?_) (fun j hj => ?_) ?_ ?_ (fun v hv => ?_), fun c hc => ?_⟩
    · rw [b146_12, if_pos hf]
      simp (disch := omega) only [hs5, d4, b146_23, pz_k0, pz_k1, pz_k2, pz_k3, pz_k4, pz_k5, pz_k6, pz_k7, pz_k8, pz_k9, pz_k10, pz_k16, pz_k31, pz_k63, pz_km, nI_add, pz_mul, nI_ltI, nI_eq, nI_clamp, pz_inI, Option.bind_some, Option.toList_some, Option.toList_none, List.cons_append, List.nil_append, Nat.zero_add, Nat.mul_zero, Nat.add_zero, Nat.lt_irrefl, pz_bb, pz_bTr, Bool.false_eq_true, pz_bFa, Nat.reduceEqDiff, Nat.reduceLT, ite_not, pz_mE, pz_mE2, pz_mL, pz_mG, not_true_eq_false, not_false_eq_true, if_true, if_false, reduceIte, eq_self, true_or, or_true, or_false, false_or, and_true, true_and, and_false, false_and]
      rw [← hJ1]
      simp (disch := omega) only [b146_24, hs5, e127, b146_30, sM115 (show A 8 s 0 < 512 by omega), b146_33, e130, b146_39, hf', b146_42, h136, show pz_oI (some (pz_nu A s)) = nI (pz_nu A s) from rfl, b146_47, b146_55, pz_one, pz_dfl a8 (pz_tp0 _ u2).1, b146_62, show 6 * s + pz_nu A s < 30 by omega, b146_74, b146_77, pz_k0, pz_k1, pz_k2, pz_k3, pz_k4, pz_k5, pz_k6, pz_k7, pz_k8, pz_k9, pz_k10, pz_k16, pz_k31, pz_k63, pz_km, nI_add, pz_mul, nI_ltI, nI_eq, nI_clamp, pz_inI, Option.bind_some, Option.toList_some, Option.toList_none, List.cons_append, List.nil_append, Nat.zero_add, Nat.mul_zero, Nat.add_zero, Nat.lt_irrefl, pz_bb, pz_bTr, Bool.false_eq_true, pz_bFa, Nat.reduceEqDiff, Nat.reduceLT, ite_not, pz_mE, pz_mE2, pz_mL, pz_mG, not_true_eq_false, not_false_eq_true, if_true, if_false, reduceIte, eq_self, true_or, or_true, or_false, false_or, and_true, true_and, and_false, false_and]
    · rw [pz_uI_ne (by omega), pz_uI_ne (by omega), hJ1, pz_uI_ne (by omega)]
    · rw [pz_uI_j (by omega), pz_uI_j (by omega), hJ1, pz_uI_j (by omega)]
    · rw [pz_uI_j (by omega), pz_uI_ne (by decide), hJ1, pz_uI_ne (by decide)]
    · rw [pz_uI_ne (by decide), if_pos hf, pz_uI_s]
    · rw [pz_uI_ne (by decide), pz_uI_ne (by decide), hJ1, pz_uI_s]
    · rw [pz_uI_at]
      by_cases q : v = pz_nu A s
      · rw [if_pos (by omega), if_pos ⟨hf, q⟩]
      · rw [if_neg (by omega), if_neg (fun z => q z.2), pz_uI_ne (by decide), hJ1, pz_uI_ne (by decide)]
        exact d7 v hv
    · rw [pz_uI_ne (by omega), pz_uI_ne (by omega), hJ1, pz_uI_ne (by omega)]
  · have hf' := hf
    unfold pz_fo at hf'
    refine ⟨o3, J1, ?_, hfin _ (fun c hc => ?_) (fun c j hc => ?_) (fun j hj => ?_) ?_ ?_ (fun v hv => ?_), fun c hc => ?_⟩
    · rw [b146_12, if_neg hf]
      simp (disch := omega) only [hs5, d4, b146_23, pz_k0, pz_k1, pz_k2, pz_k3, pz_k4, pz_k5, pz_k6, pz_k7, pz_k8, pz_k9, pz_k10, pz_k16, pz_k31, pz_k63, pz_km, nI_add, pz_mul, nI_ltI, nI_eq, nI_clamp, pz_inI, Option.bind_some, Option.toList_some, Option.toList_none, List.cons_append, List.nil_append, Nat.zero_add, Nat.mul_zero, Nat.add_zero, Nat.lt_irrefl, pz_bb, pz_bTr, Bool.false_eq_true, pz_bFa, Nat.reduceEqDiff, Nat.reduceLT, ite_not, pz_mE, pz_mE2, pz_mL, pz_mG, not_true_eq_false, not_false_eq_true, if_true, if_false, reduceIte, eq_self, true_or, or_true, or_false, false_or, and_true, true_and, and_false, false_and]
      rw [← hJ1]
      simp (disch := omega) only [b146_24, hs5, e127, b146_30, sM115 (show A 8 s 0 < 512 by omega), b146_33, e130, b146_39, hf', b146_77, pz_k0, pz_k1, pz_k2, pz_k3, pz_k4, pz_k5, pz_k6, pz_k7, pz_k8, pz_k9, pz_k10, pz_k16, pz_k31, pz_k63, pz_km, nI_add, pz_mul, nI_ltI, nI_eq, nI_clamp, pz_inI, Option.bind_some, Option.toList_some, Option.toList_none, List.cons_append, List.nil_append, Nat.zero_add, Nat.mul_zero, Nat.add_zero, Nat.lt_irrefl, pz_bb, pz_bTr, Bool.false_eq_true, pz_bFa, Nat.reduceEqDiff, Nat.reduceLT, ite_not, pz_mE, pz_mE2, pz_mL, pz_mG, not_true_eq_false, not_false_eq_true, if_true, if_false, reduceIte, eq_self, true_or, or_true, or_false, false_or, and_true, true_and, and_false, false_and]
    · rw [hJ1, pz_uI_ne (by omega)]
    · rw [hJ1, pz_uI_j (by omega)]
    · rw [hJ1, pz_uI_ne (by decide)]
    · rw [if_neg hf]
      exact e127
    · rw [hJ1, pz_uI_s]
    · rw [if_neg (fun z => hf z.1), hJ1, pz_uI_ne (by decide)]
      exact d7 v hv
    · rw [hJ1, pz_uI_ne (by omega)]
theorem op15 (h : pz_Q k ck n g f A κ I J) (hk : k < 64) : lw_two (pz_R (k + 1)) 15 146 [] (mm_idC, I, LC, mm_RS κ) (mm_idM, J, LM, mm_RM) := by
  obtain ⟨q1, q2, q3, hA, hC, hM, -⟩ := id h
  have h5 := hA.2.2.2.1
  have hlC := pz_loopP (fun t (j : mm_HI) => mm_ev 15 4 [some (.inr (.inr (1, 0))), some (.inl (nI (pz_nc A t))), some (.inl (nI t))] [] (mm_idC, j, LC, mm_RS κ)) (fun t j => pz_C 0 (pz_nA A t) j κ ∧ ∀ c i, (c ≠ 23 ∧ c ≠ 24) ∨ 5 ≤ i → j c i = I c i) (A 6 0 0) (fun t j ht hj => ?_) I ⟨hC, fun _ _ _ => rfl⟩
  · have hlM := pz_loopP (fun t (j : Option mm_V × mm_HI) => mm_ev 146 4 [some (.inr (.inr (9, 0))), some (.inl (nI (pz_nc A t))), some (.inl (nI t)), j.1] [] (mm_idM, j.2, LM, mm_RM)) (fun t j => pz_M (pz_nA A t) j.2 ∧ ∀ c, c ≠ 127 ∧ c ≠ 128 ∧ c ≠ 132 → j.2 c = J c) (A 6 0 0) (fun t j ht hj => ?_) (none, J) ⟨hM, fun _ _ => rfl⟩
    · obtain ⟨I', i0, i1, i2⟩ := hlC
      obtain ⟨J', j0, j1, j2⟩ := hlM
      obtain ⟨w1, w2, w3⟩ := pz_nA_wf hA (A 6 0 0) (Nat.le_refl _)
      have e12 : I' 12 0 0 = nI (A 6 0 0) := by rw [i2 12 0 (by omega)]; exact hC.2.2.1
      have e47 : J'.2 47 0 0 = nI (A 6 0 0) := by rw [j2 47 (by omega)]; exact hM.2.2.1
      refine pz_two (laC := [some (.inr (.inr (1, 0))), none, none]) (laM := [some (.inr (.inr (9, 0))), none, none, none]) (by rw [show mm_mL 15 = 3 from by decide +kernel]; rfl) (by rw [show mm_mL 146 = 4 from by decide +kernel]; rfl) (r :=  nI (pz_nc A (A 6 0 0))) (hC' := (mm_idC, I', LC, mm_RS κ)) (hM' := (mm_idM, J'.2, LM, mm_RM)) ?_ ?_ ?_
      · rw [b15_0]
        refine Eq.trans i0 ?_
        try dsimp only
        rw [b15_4]
        simp (disch := omega) only [e12, b15_39, pz_k0, pz_k1, pz_k2, pz_k3, pz_k4, pz_k5, pz_k6, pz_k7, pz_k8, pz_k9, pz_k10, pz_k16, pz_k31, pz_k63, pz_km, nI_add, pz_mul, nI_ltI, nI_eq, nI_clamp, pz_inI, Option.bind_some, Option.toList_some, Option.toList_none, List.cons_append, List.nil_append, Nat.zero_add, Nat.mul_zero, Nat.add_zero, Nat.lt_irrefl, pz_bb, pz_bTr, Bool.false_eq_true, pz_bFa, Nat.reduceEqDiff, Nat.reduceLT, ite_not, pz_mE, pz_mE2, pz_mL, pz_mG, not_true_eq_false, not_false_eq_true, if_true, if_false, reduceIte, eq_self, true_or, or_true, or_false, false_or, and_true, true_and, and_false, false_and]
      · rw [b146_0]
        refine Eq.trans j0 ?_
        try dsimp only
        rw [b146_4]
        simp (disch := omega) only [e47, b146_83, pz_k0, pz_k1, pz_k2, pz_k3, pz_k4, pz_k5, pz_k6, pz_k7, pz_k8, pz_k9, pz_k10, pz_k16, pz_k31, pz_k63, pz_km, nI_add, pz_mul, nI_ltI, nI_eq, nI_clamp, pz_inI, Option.bind_some, Option.toList_some, Option.toList_none, List.cons_append, List.nil_append, Nat.zero_add, Nat.mul_zero, Nat.add_zero, Nat.lt_irrefl, pz_bb, pz_bTr, Bool.false_eq_true, pz_bFa, Nat.reduceEqDiff, Nat.reduceLT, ite_not, pz_mE, pz_mE2, pz_mL, pz_mG, not_true_eq_false, not_false_eq_true, if_true, if_false, reduceIte, eq_self, true_or, or_true, or_false, false_or, and_true, true_and, and_false, false_and]
      · refine pz_put (A' := pz_nA A (A 6 0 0)) (ck' := ck) h hk q1 (Nat.le_refl _) (by omega) ?_ w1 i1 j1 (fun c i hc => i2 c i ?_) (fun _ => rfl) (fun c hc => j2 c ?_) (fun c b hc _ => by rw [j2 c (by omega)]) (fun c b hc _ => by rw [j2 c (by omega)]) (by omega) (by omega)
        · rw [j2 55 (by omega)]
          exact q3
        · unfold pz_kk pz_kw at hc
          omega
        · unfold pz_kz at hc
          simp only [Bool.or_eq_true, beq_iff_eq] at hc
          omega
    · try dsimp only at hj
      try dsimp only
      obtain ⟨j1, j2⟩ := hj
      obtain ⟨w1, w2, w3⟩ := pz_nA_wf hA t (by omega)
      have hle := pz_nc_le (A := A) t
      obtain ⟨o', J', r0, r1, r2⟩ := sM146s (ids := mm_idM) (L := LM) (q := pz_nc A t) (o3 := j.1) (by omega) w1 j1 (by rw [w2]; exact ht)
      refine ⟨(o', J'), ?_, r1, fun c hc => ?_⟩
      · have e47 : j.2 47 0 0 = nI (A 6 0 0) := by rw [j2 47 (by omega)]; exact hM.2.2.1
        rw [b146_4]
        simp (disch := omega) only [e47, ht, pz_k0, pz_k1, pz_k2, pz_k3, pz_k4, pz_k5, pz_k6, pz_k7, pz_k8, pz_k9, pz_k10, pz_k16, pz_k31, pz_k63, pz_km, nI_add, pz_mul, nI_ltI, nI_eq, nI_clamp, pz_inI, Option.bind_some, Option.toList_some, Option.toList_none, List.cons_append, List.nil_append, Nat.zero_add, Nat.mul_zero, Nat.add_zero, Nat.lt_irrefl, pz_bb, pz_bTr, Bool.false_eq_true, pz_bFa, Nat.reduceEqDiff, Nat.reduceLT, ite_not, pz_mE, pz_mE2, pz_mL, pz_mG, not_true_eq_false, not_false_eq_true, if_true, if_false, reduceIte, eq_self, true_or, or_true, or_false, false_or, and_true, true_and, and_false, false_and]
        rw [r0, pz_nc_s]
      · show J' c = J c
        rw [r2 c hc]
        exact j2 c hc
  · try dsimp only at hj
    try dsimp only
    obtain ⟨j1, j2⟩ := hj
    obtain ⟨w1, w2, w3⟩ := pz_nA_wf hA t (by omega)
    have hle := pz_nc_le (A := A) t
    obtain ⟨I', r0, r1, r2⟩ := sC92 (ids := mm_idC) (L := LC) w1 j1 (by rw [w2]; exact ht)
    have e12 : j 12 0 0 = nI (A 6 0 0) := by rw [j2 12 0 (by omega)]; exact hC.2.2.1
    refine ⟨I', ?_, r1, fun c i hc => ?_⟩
    · rw [b15_4, pz_nc_s]
      by_cases hf : pz_fo (pz_nA A t) t
      · rw [pz_bT hf] at r0
        rw [if_pos hf]
        simp (disch := omega) only [e12, ht, b15_15, show t < 5 by omega, b15_24, r0, b15_27, b15_30, b15_33, pz_k0, pz_k1, pz_k2, pz_k3, pz_k4, pz_k5, pz_k6, pz_k7, pz_k8, pz_k9, pz_k10, pz_k16, pz_k31, pz_k63, pz_km, nI_add, pz_mul, nI_ltI, nI_eq, nI_clamp, pz_inI, Option.bind_some, Option.toList_some, Option.toList_none, List.cons_append, List.nil_append, Nat.zero_add, Nat.mul_zero, Nat.add_zero, Nat.lt_irrefl, pz_bb, pz_bTr, Bool.false_eq_true, pz_bFa, Nat.reduceEqDiff, Nat.reduceLT, ite_not, pz_mE, pz_mE2, pz_mL, pz_mG, not_true_eq_false, not_false_eq_true, if_true, if_false, reduceIte, eq_self, true_or, or_true, or_false, false_or, and_true, true_and, and_false, false_and]
      · rw [pz_bF hf] at r0
        rw [if_neg hf]
        simp (disch := omega) only [e12, ht, b15_15, show t < 5 by omega, b15_24, r0, b15_27, b15_33, pz_k0, pz_k1, pz_k2, pz_k3, pz_k4, pz_k5, pz_k6, pz_k7, pz_k8, pz_k9, pz_k10, pz_k16, pz_k31, pz_k63, pz_km, nI_add, pz_mul, nI_ltI, nI_eq, nI_clamp, pz_inI, Option.bind_some, Option.toList_some, Option.toList_none, List.cons_append, List.nil_append, Nat.zero_add, Nat.mul_zero, Nat.add_zero, Nat.lt_irrefl, pz_bb, pz_bTr, Bool.false_eq_true, pz_bFa, Nat.reduceEqDiff, Nat.reduceLT, ite_not, pz_mE, pz_mE2, pz_mL, pz_mG, not_true_eq_false, not_false_eq_true, if_true, if_false, reduceIte, eq_self, true_or, or_true, or_false, false_or, and_true, true_and, and_false, false_and]
    · rw [r2 c i (by omega)]
      exact j2 c i hc
end PZ59
