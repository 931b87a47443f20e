/-! who -/
def pz_wl (A : pz_A) (p : Nat) : Nat → Nat
  | 0 => p
  | i + 1 => pz_oth A (A 15 0 i) (pz_wl A p i)
theorem pz_wl_s {A : pz_A} {p i : Nat} : pz_wl A p (i + 1) = pz_oth A (A 15 0 i) (pz_wl A p i) := rfl
def pz_isw (A : pz_A) (p k : Nat) : Prop := ∀ i, i < k → pz_at A (A 15 0 i) (pz_wl A p i)
def pz_nx2 (P a b : Nat) : Nat := (if pz_bt P a = 1 then 2 ^ b else 0) ||| (if pz_bt P b = 1 then 2 ^ a else 0)
def pz_sd (A : pz_A) : Nat → Nat
  | 0 => 63
  | i + 1 => pz_nx2 (pz_sd A i) (A 2 (A 15 0 i) 0) (A 3 (A 15 0 i) 0)
theorem pz_sd_s {A : pz_A} {i : Nat} : pz_sd A (i + 1) = pz_nx2 (pz_sd A i) (A 2 (A 15 0 i) 0) (A 3 (A 15 0 i) 0) := rfl
set_option maxRecDepth 100000 in
theorem pz_nx2c : ∀ P, P < 64 → ∀ q, q < 36 → ∀ x, x < 6 → (pz_bt (pz_nx2 P (q / 6) (q % 6)) x = 1 ↔ ((pz_bt P (q / 6) = 1 ∧ x = q % 6) ∨ (pz_bt P (q % 6) = 1 ∧ x = q / 6))) := by decide +kernel
theorem pz_nx2b {P a b x : Nat} (hP : P < 64) (ha : a < 6) (hb : b < 6) (hx : x < 6) : (pz_bt (pz_nx2 P a b) x = 1 ↔ ((pz_bt P a = 1 ∧ x = b) ∨ (pz_bt P b = 1 ∧ x = a))) := by
  have h := pz_nx2c P hP (6 * a + b) (by omega) x hx
  rw [show (6 * a + b) / 6 = a by omega, show (6 * a + b) % 6 = b by omega] at h
  exact h
theorem pz_nx2l {P a b : Nat} (ha : a < 6) (hb : b < 6) : pz_nx2 P a b < 64 := by
  unfold pz_nx2
  refine pz_orlt (n := 6) ?_ ?_
  · split
    · exact Nat.pow_lt_pow_right (by decide) hb
    · decide
  · split
    · exact Nat.pow_lt_pow_right (by decide) ha
    · decide
set_option maxRecDepth 100000 in
theorem pz_nz0 : ∀ P, P < 64 → (P ≠ 0 ↔ (pz_bt P 0 = 1 ∨ pz_bt P 1 = 1 ∨ pz_bt P 2 = 1 ∨ pz_bt P 3 = 1 ∨ pz_bt P 4 = 1 ∨ pz_bt P 5 = 1)) := by decide +kernel
theorem pz_nz {P : Nat} (hP : P < 64) : P ≠ 0 ↔ ∃ x, x < 6 ∧ pz_bt P x = 1 := by
  rw [pz_nz0 P hP]
  constructor
  · rintro (h | h | h | h | h | h)
    · exact ⟨0, by decide, h⟩
    · exact ⟨1, by decide, h⟩
    · exact ⟨2, by decide, h⟩
    · exact ⟨3, by decide, h⟩
    · exact ⟨4, by decide, h⟩
    · exact ⟨5, by decide, h⟩
  · rintro ⟨x, hx, h⟩
    match x, hx with
    | 0, _ => exact Or.inl h
    | 1, _ => exact Or.inr (Or.inl h)
    | 2, _ => exact Or.inr (Or.inr (Or.inl h))
    | 3, _ => exact Or.inr (Or.inr (Or.inr (Or.inl h)))
    | 4, _ => exact Or.inr (Or.inr (Or.inr (Or.inr (Or.inl h))))
    | 5, _ => exact Or.inr (Or.inr (Or.inr (Or.inr (Or.inr h))))
set_option maxRecDepth 100000 in
theorem pz_b63 : ∀ x, x < 6 → pz_bt 63 x = 1 := by decide +kernel
def pz_sl (A : pz_A) : Nat → Nat
  | 0 => 0
  | i + 1 => pz_sl A i + pz_len A (A 15 0 i)
theorem pz_sl_s {A : pz_A} {i : Nat} : pz_sl A (i + 1) = pz_sl A i + pz_len A (A 15 0 i) := rfl
def pz_opk (A : pz_A) (s k : Nat) : Prop := ∀ i, i < k → pz_op A (A 15 0 i) (A 8 s 0)
def pz_cd (A : pz_A) (s : Nat) : Prop := pz_opk A s (A 14 0 0) ∧ pz_sl A (A 14 0 0) ≤ A 10 s 0
noncomputable def pz_wb (A : pz_A) : Nat → Nat
  | 0 => 0
  | t + 1 => @ite _ (pz_cd A t) (Classical.propDecidable _) (pz_wb A t ||| 2 ^ t) (pz_wb A t)
theorem pz_wb_s {A : pz_A} {t : Nat} : pz_wb A (t + 1) = @ite _ (pz_cd A t) (Classical.propDecidable _) (pz_wb A t ||| 2 ^ t) (pz_wb A t) := rfl
def pz_any (A : pz_A) (m : Nat) : Prop := ∃ p, p < m ∧ pz_isw A p (A 14 0 0)
noncomputable def pz_who (A : pz_A) : Nat := @ite _ (pz_any A 6) (Classical.propDecidable _) (pz_wb A (A 6 0 0)) 0
section PZ62
variable {ids : List (Nat × Nat)} {I J I' J' : mm_HI} {L LC LM LC' LM' : mm_HL} {κ f f' : Nat → Nat} {A : pz_A} {k ck n n' g a b v s p i : Nat}
theorem pz_hd (hA : pz_wf ck A) (hi : i < A 14 0 0) : A 15 0 i < A 0 0 0 := hA.2.2.2.2.2.2.2 i hi
theorem pz_wl_lt (hA : pz_wf ck A) (hp : p < 6) : ∀ i, i ≤ A 14 0 0 → pz_wl A p i < 6
  | 0, _ => hp
  | i + 1, hi => pz_oth_lt hA (pz_hd hA (by omega))
theorem pz_sl_le (hA : pz_wf ck A) : ∀ i, i ≤ A 14 0 0 → pz_sl A i ≤ 6 * i
  | 0, _ => Nat.le_refl _
  | i + 1, hi => by
    have h1 := pz_sl_le hA i (by omega)
    have h2 := (pz_len_b hA (pz_hd hA (i := i) (by omega))).2
    rw [pz_sl_s]
    omega
theorem pz_sd_all (hA : pz_wf ck A) : ∀ i, i ≤ A 14 0 0 → pz_sd A i < 64 ∧ ∀ x, x < 6 → (pz_bt (pz_sd A i) x = 1 ↔ ∃ p, p < 6 ∧ pz_isw A p i ∧ pz_wl A p i = x)
  | 0, _ => by
    refine ⟨by show 63 < 64; decide, fun x hx => ?_⟩
    show pz_bt 63 x = 1 ↔ _
    exact ⟨fun _ => ⟨x, hx, fun j hj => absurd hj (Nat.not_lt_zero j), rfl⟩, fun _ => pz_b63 x hx⟩
  | i + 1, hi => by
    obtain ⟨h1, h2⟩ := pz_sd_all hA i (by omega)
    obtain ⟨-, a2, a3, a23, -⟩ := hA.2.2.1 _ (pz_hd hA (i := i) (by omega))
    rw [pz_sd_s]
    refine ⟨pz_nx2l a2 a3, fun x hx => ?_⟩
    rw [pz_nx2b h1 a2 a3 hx]
    constructor
    · rintro (⟨q1, q2⟩ | ⟨q1, q2⟩)
      · obtain ⟨p, p1, p2, p3⟩ := (h2 _ a2).mp q1
        refine ⟨p, p1, fun j hj => ?_, ?_⟩
        · by_cases e : j = i
          · rw [e]
            exact Or.inl p3
          · exact p2 j (by omega)
        · rw [pz_wl_s]
          unfold pz_oth
          rw [if_pos p3, q2]
      · obtain ⟨p, p1, p2, p3⟩ := (h2 _ a3).mp q1
        refine ⟨p, p1, fun j hj => ?_, ?_⟩
        · by_cases e : j = i
          · rw [e]
            exact Or.inr p3
          · exact p2 j (by omega)
        · rw [pz_wl_s]
          unfold pz_oth
          rw [if_neg (by omega), q2]
    · rintro ⟨p, p1, p2, p3⟩
      have hat := p2 i (by omega)
      have hp2 : pz_isw A p i := fun j hj => p2 j (by omega)
      rw [pz_wl_s] at p3
      unfold pz_oth at p3
      by_cases e : pz_wl A p i = A 2 (A 15 0 i) 0
      · rw [if_pos e] at p3
        exact Or.inl ⟨(h2 _ a2).mpr ⟨p, p1, hp2, e⟩, p3.symm⟩
      · rw [if_neg e] at p3
        have e3 : pz_wl A p i = A 3 (A 15 0 i) 0 := hat.resolve_left e
        exact Or.inr ⟨(h2 _ a3).mpr ⟨p, p1, hp2, e3⟩, p3.symm⟩
theorem pz_sd_any (hA : pz_wf ck A) : pz_sd A (A 14 0 0) ≠ 0 ↔ pz_any A 6 := by
  obtain ⟨h1, h2⟩ := pz_sd_all hA (A 14 0 0) (Nat.le_refl _)
  rw [pz_nz h1]
  constructor
  · rintro ⟨x, hx, hb⟩
    obtain ⟨p, p1, p2, p3⟩ := (h2 x hx).mp hb
    exact ⟨p, p1, p2⟩
  · rintro ⟨p, p1, p2⟩
    have hw := pz_wl_lt hA p1 (A 14 0 0) (Nat.le_refl _)
    exact ⟨_, hw, (h2 _ hw).mpr ⟨p, p1, p2, rfl⟩⟩
/-- isHeardOneWay -/
theorem sC66 (hA : pz_wf ck A) (hC : pz_C 0 A I κ) : mm_ev 66 0 [some (.inr (.inr (4, 0))), none, none, none, none] [] (ids, I, L, mm_RS κ) = some (some (.inl (pz_b (pz_any A 6))), (ids, I, L, mm_RS κ)) := by
  have h9 := hA.2.1
  have h10 := hA.2.2.2.2.2.2.1
  have h15 := hC.2.2.2.2.2.1
  have hl := pz_loopJ (fun i (j : Option mm_V × Option mm_V) => mm_ev 66 5 [some (.inr (.inr (4, 0))), some (.inl (nI (pz_sd A i))), some (.inl (nI i)), j.1, j.2] [] (ids, I, L, mm_RS κ)) (A 14 0 0) (fun i j hi => ?_) (none, none)
  · obtain ⟨j, hj⟩ := hl
    rw [b66_0]
    refine Eq.trans hj ?_
    try dsimp only
    have hs := (pz_sd_all hA (A 14 0 0) (Nat.le_refl _)).1
    rw [b66_5]
    by_cases hz : pz_sd A (A 14 0 0) = 0
    · rw [pz_bF (fun q => (pz_sd_any hA).mpr q hz), hz]
      simp (disch := omega) only [h15, b66_81, b66_89, b66_90, pz_k0, pz_k1, pz_k2, pz_k3, pz_k4, pz_k5, pz_k6, pz_k7, pz_k8, pz_k9, pz_k10, pz_k16, pz_k31, pz_k63, pz_km, nI_add, pz_mul, nI_ltI, nI_eq, nI_clamp, pz_inI, Option.bind_some, Option.toList_some, Option.toList_none, List.cons_append, List.nil_append, Nat.zero_add, Nat.mul_zero, Nat.add_zero, Nat.lt_irrefl, pz_bb, pz_bTr, Bool.false_eq_true, pz_bFa, Nat.reduceEqDiff, Nat.reduceLT, ite_not, pz_mE, pz_mE2, pz_mL, pz_mG, not_true_eq_false, not_false_eq_true, if_true, if_false, reduceIte, eq_self, true_or, or_true, or_false, false_or, and_true, true_and, and_false, false_and]
    · rw [pz_bT ((pz_sd_any hA).mp hz)]
      simp (disch := omega) only [h15, b66_81, hz, b66_85, b66_90, pz_k0, pz_k1, pz_k2, pz_k3, pz_k4, pz_k5, pz_k6, pz_k7, pz_k8, pz_k9, pz_k10, pz_k16, pz_k31, pz_k63, pz_km, nI_add, pz_mul, nI_ltI, nI_eq, nI_clamp, pz_inI, Option.bind_some, Option.toList_some, Option.toList_none, List.cons_append, List.nil_append, Nat.zero_add, Nat.mul_zero, Nat.add_zero, Nat.lt_irrefl, pz_bb, pz_bTr, Bool.false_eq_true, pz_bFa, Nat.reduceEqDiff, Nat.reduceLT, ite_not, pz_mE, pz_mE2, pz_mL, pz_mG, not_true_eq_false, not_false_eq_true, if_true, if_false, reduceIte, eq_self, true_or, or_true, or_false, false_or, and_true, true_and, and_false, false_and]
  · try dsimp only
    have hb := pz_hd hA hi
    have h116 := hC.2.2.2.2.2.2 i hi
    obtain ⟨-, a2, a3, a23, -⟩ := hA.2.2.1 _ hb
    obtain ⟨-, c2, c3, -⟩ := pz_C0b hC hb
    have hs := (pz_sd_all hA i (by omega)).1
    have hs5 : pz_sd A i < 512 := by omega
    have k2 := pz_bt2 (v := pz_sd A i) (s := A 2 (A 15 0 i) 0)
    have k3 := pz_bt2 (v := pz_sd A i) (s := A 3 (A 15 0 i) 0)
    have a2t : A 2 (A 15 0 i) 0 < 10 := by omega
    have a3t : A 3 (A 15 0 i) 0 < 10 := by omega
    refine ⟨(some (.inr (.inr (5, A 15 0 i))), some (.inl (nI (pz_sd A (i + 1))))), ?_⟩
    rw [pz_sd_s, b66_5]
    unfold pz_nx2
    by_cases e2 : pz_bt (pz_sd A i) (A 2 (A 15 0 i) 0) = 1
    · by_cases e3 : pz_bt (pz_sd A i) (A 3 (A 15 0 i) 0) = 1
      · rw [if_pos e2, if_pos e3]
        simp (disch := omega) only [h15, hi, b66_13, show i < 10 by omega, h116, b66_23, show A 15 0 i < 9 by omega, b66_24, c2, pz_bit hs5 a2t, e2, b66_39, c3, pz_one a3t, pz_or, b66_50, pz_bit hs5 a3t, e3, b66_61, pz_one a2t, b66_72, Nat.zero_or, pz_k0, pz_k1, pz_k2, pz_k3, pz_k4, pz_k5, pz_k6, pz_k7, pz_k8, pz_k9, pz_k10, pz_k16, pz_k31, pz_k63, pz_km, nI_add, pz_mul, nI_ltI, nI_eq, nI_clamp, pz_inI, Option.bind_some, Option.toList_some, Option.toList_none, List.cons_append, List.nil_append, Nat.zero_add, Nat.mul_zero, Nat.add_zero, Nat.lt_irrefl, pz_bb, pz_bTr, Bool.false_eq_true, pz_bFa, Nat.reduceEqDiff, Nat.reduceLT, ite_not, pz_mE, pz_mE2, pz_mL, pz_mG, not_true_eq_false, not_false_eq_true, if_true, if_false, reduceIte, eq_self, true_or, or_true, or_false, false_or, and_true, true_and, and_false, false_and]
      · have e30 : pz_bt (pz_sd A i) (A 3 (A 15 0 i) 0) = 0 := by omega
        rw [if_pos e2, if_neg e3]
        simp (disch := omega) only [h15, hi, b66_13, show i < 10 by omega, h116, b66_23, show A 15 0 i < 9 by omega, b66_24, c2, pz_bit hs5 a2t, e2, b66_39, c3, pz_one a3t, pz_or, b66_50, pz_bit hs5 a3t, e30, b66_72, Nat.zero_or, Nat.or_zero, pz_k0, pz_k1, pz_k2, pz_k3, pz_k4, pz_k5, pz_k6, pz_k7, pz_k8, pz_k9, pz_k10, pz_k16, pz_k31, pz_k63, pz_km, nI_add, pz_mul, nI_ltI, nI_eq, nI_clamp, pz_inI, Option.bind_some, Option.toList_some, Option.toList_none, List.cons_append, List.nil_append, Nat.zero_add, Nat.mul_zero, Nat.add_zero, Nat.lt_irrefl, pz_bb, pz_bTr, Bool.false_eq_true, pz_bFa, Nat.reduceEqDiff, Nat.reduceLT, ite_not, pz_mE, pz_mE2, pz_mL, pz_mG, not_true_eq_false, not_false_eq_true, if_true, if_false, reduceIte, eq_self, true_or, or_true, or_false, false_or, and_true, true_and, and_false, false_and]
    · have e20 : pz_bt (pz_sd A i) (A 2 (A 15 0 i) 0) = 0 := by omega
      by_cases e3 : pz_bt (pz_sd A i) (A 3 (A 15 0 i) 0) = 1
      · rw [if_neg e2, if_pos e3]
        simp (disch := omega) only [h15, hi, b66_13, show i < 10 by omega, h116, b66_23, show A 15 0 i < 9 by omega, b66_24, c2, pz_bit hs5 a2t, e20, c3, pz_one a3t, pz_or, b66_50, pz_bit hs5 a3t, e3, b66_61, pz_one a2t, b66_72, Nat.zero_or, pz_k0, pz_k1, pz_k2, pz_k3, pz_k4, pz_k5, pz_k6, pz_k7, pz_k8, pz_k9, pz_k10, pz_k16, pz_k31, pz_k63, pz_km, nI_add, pz_mul, nI_ltI, nI_eq, nI_clamp, pz_inI, Option.bind_some, Option.toList_some, Option.toList_none, List.cons_append, List.nil_append, Nat.zero_add, Nat.mul_zero, Nat.add_zero, Nat.lt_irrefl, pz_bb, pz_bTr, Bool.false_eq_true, pz_bFa, Nat.reduceEqDiff, Nat.reduceLT, ite_not, pz_mE, pz_mE2, pz_mL, pz_mG, not_true_eq_false, not_false_eq_true, if_true, if_false, reduceIte, eq_self, true_or, or_true, or_false, false_or, and_true, true_and, and_false, false_and]
      · have e30 : pz_bt (pz_sd A i) (A 3 (A 15 0 i) 0) = 0 := by omega
        rw [if_neg e2, if_neg e3]
        simp (disch := omega) only [h15, hi, b66_13, show i < 10 by omega, h116, b66_23, show A 15 0 i < 9 by omega, b66_24, c2, pz_bit hs5 a2t, e20, c3, b66_50, pz_bit hs5 a3t, e30, b66_72, Nat.zero_or, pz_k0, pz_k1, pz_k2, pz_k3, pz_k4, pz_k5, pz_k6, pz_k7, pz_k8, pz_k9, pz_k10, pz_k16, pz_k31, pz_k63, pz_km, nI_add, pz_mul, nI_ltI, nI_eq, nI_clamp, pz_inI, Option.bind_some, Option.toList_some, Option.toList_none, List.cons_append, List.nil_append, Nat.zero_add, Nat.mul_zero, Nat.add_zero, Nat.lt_irrefl, pz_bb, pz_bTr, Bool.false_eq_true, pz_bFa, Nat.reduceEqDiff, Nat.reduceLT, ite_not, pz_mE, pz_mE2, pz_mL, pz_mG, not_true_eq_false, not_false_eq_true, if_true, if_false, reduceIte, eq_self, true_or, or_true, or_false, false_or, and_true, true_and, and_false, false_and]
/-- couldBeHeard -/
theorem sC68 (hA : pz_wf ck A) (hC : pz_C 0 A I κ) (hs : s < A 6 0 0) : mm_ev 68 0 [some (.inr (.inr (4, 0))), some (.inr (.inr (6, s))), none, none, none] [] (ids, I, L, mm_RS κ) = some (some (.inl (pz_b (pz_cd A s))), (ids, I, L, mm_RS κ)) := by
  have h9 := hA.2.1
  have h10 := hA.2.2.2.2.2.2.1
  have h15 := hC.2.2.2.2.2.1
  obtain ⟨a7, a8, a9, a10, -⟩ := hA.2.2.2.2.1 s hs
  obtain ⟨d1, d2, d3, d4, -⟩ := pz_C0s hC hs
  have hl := pz_srchJ (fun i => pz_d (¬ pz_op A (A 15 0 i) (A 8 s 0))) (fun i (j : Option mm_V) => mm_ev 68 4 [some (.inr (.inr (4, 0))), some (.inr (.inr (6, s))), some (.inl (nI (pz_sl A i))), some (.inl (nI i)), j] [] (ids, I, L, mm_RS κ)) (fun _ _ => some (some (.inl (nI 0)), (ids, I, L, mm_RS κ))) (A 14 0 0) 0 (fun i j _ hi => ?_) none
  · rw [b68_0]
    rw [Nat.zero_add] at hl
    by_cases hf : pz_fnd (fun i => pz_d (¬ pz_op A (A 15 0 i) (A 8 s 0))) (A 14 0 0) 0 < A 14 0 0
    · obtain ⟨j, hj⟩ := hl.1 hf
      have hp := pz_fnd_is (p := fun i => pz_d (¬ pz_op A (A 15 0 i) (A 8 s 0))) (A 14 0 0) 0 (by omega)
      rw [pz_bF (fun q => (pz_dI.mp hp) (q.1 _ hf))]
      exact hj
    · obtain ⟨j, hj⟩ := hl.2 hf
      have hall : pz_opk A s (A 14 0 0) := by
        intro i hi
        have hle := (pz_fnd_le (p := fun i => pz_d (¬ pz_op A (A 15 0 i) (A 8 s 0))) (A 14 0 0) 0).2
        have := pz_fnd_not (p := fun i => pz_d (¬ pz_op A (A 15 0 i) (A 8 s 0))) (A 14 0 0) 0 i (Nat.zero_le _) (by omega)
        refine Classical.byContradiction (fun q => ?_)
        have e := pz_dT q
        try dsimp only at this
        rw [e] at this
        cases this
      have hsl := pz_sl_le hA (A 14 0 0) (Nat.le_refl _)
      refine Eq.trans hj ?_
      try dsimp only
      rw [b68_4]
      by_cases hd : pz_sl A (A 14 0 0) ≤ A 10 s 0
      · rw [pz_bT ⟨hall, hd⟩]
        simp (disch := omega) only [h15, b68_53, d4, show ¬ A 10 s 0 < pz_sl A (A 14 0 0) by omega, b68_61, b68_66, pz_k0, pz_k1, pz_k2, pz_k3, pz_k4, pz_k5, pz_k6, pz_k7, pz_k8, pz_k9, pz_k10, pz_k16, pz_k31, pz_k63, pz_km, nI_add, pz_mul, nI_ltI, nI_eq, nI_clamp, pz_inI, Option.bind_some, Option.toList_some, Option.toList_none, List.cons_append, List.nil_append, Nat.zero_add, Nat.mul_zero, Nat.add_zero, Nat.lt_irrefl, pz_bb, pz_bTr, Bool.false_eq_true, pz_bFa, Nat.reduceEqDiff, Nat.reduceLT, ite_not, pz_mE, pz_mE2, pz_mL, pz_mG, not_true_eq_false, not_false_eq_true, if_true, if_false, reduceIte, eq_self, true_or, or_true, or_false, false_or, and_true, true_and, and_false, false_and]
      · rw [pz_bF (fun q => hd q.2)]
        simp (disch := omega) only [h15, b68_53, d4, show A 10 s 0 < pz_sl A (A 14 0 0) by omega, b68_65, b68_66, pz_k0, pz_k1, pz_k2, pz_k3, pz_k4, pz_k5, pz_k6, pz_k7, pz_k8, pz_k9, pz_k10, pz_k16, pz_k31, pz_k63, pz_km, nI_add, pz_mul, nI_ltI, nI_eq, nI_clamp, pz_inI, Option.bind_some, Option.toList_some, Option.toList_none, List.cons_append, List.nil_append, Nat.zero_add, Nat.mul_zero, Nat.add_zero, Nat.lt_irrefl, pz_bb, pz_bTr, Bool.false_eq_true, pz_bFa, Nat.reduceEqDiff, Nat.reduceLT, ite_not, pz_mE, pz_mE2, pz_mL, pz_mG, not_true_eq_false, not_false_eq_true, if_true, if_false, reduceIte, eq_self, true_or, or_true, or_false, false_or, and_true, true_and, and_false, false_and]
  · try dsimp only
    have hi' : i < A 14 0 0 := by omega
    have hb := pz_hd hA hi'
    have h116 := hC.2.2.2.2.2.2 i hi'
    obtain ⟨c1, c2, c3, c4, c5, -⟩ := pz_C0b hC hb
    refine ⟨fun hp => ?_, fun hp => ?_⟩
    · have ho := pz_dI.mp hp
      refine ⟨none, ?_⟩
      rw [b68_4]
      simp (disch := omega) only [h15, hi', b68_12, show i < 10 by omega, h116, b68_22, show A 15 0 i < 9 by omega, b68_23, d2, sC78 hA hC hb a8, pz_bF ho, b68_34, b68_37, pz_k0, pz_k1, pz_k2, pz_k3, pz_k4, pz_k5, pz_k6, pz_k7, pz_k8, pz_k9, pz_k10, pz_k16, pz_k31, pz_k63, pz_km, nI_add, pz_mul, nI_ltI, nI_eq, nI_clamp, pz_inI, Option.bind_some, Option.toList_some, Option.toList_none, List.cons_append, List.nil_append, Nat.zero_add, Nat.mul_zero, Nat.add_zero, Nat.lt_irrefl, pz_bb, pz_bTr, Bool.false_eq_true, pz_bFa, Nat.reduceEqDiff, Nat.reduceLT, ite_not, pz_mE, pz_mE2, pz_mL, pz_mG, not_true_eq_false, not_false_eq_true, if_true, if_false, reduceIte, eq_self, true_or, or_true, or_false, false_or, and_true, true_and, and_false, false_and]
    · have ho : pz_op A (A 15 0 i) (A 8 s 0) := by
        refine Classical.byContradiction (fun q => ?_)
        rw [pz_dT q] at hp
        cases hp
      refine ⟨some (.inr (.inr (5, A 15 0 i))), ?_⟩
      rw [b68_4, pz_sl_s]
      simp (disch := omega) only [h15, hi', b68_12, show i < 10 by omega, h116, b68_22, show A 15 0 i < 9 by omega, b68_23, d2, sC78 hA hC hb a8, pz_bT ho, b68_34, b68_39, c5, pz_k0, pz_k1, pz_k2, pz_k3, pz_k4, pz_k5, pz_k6, pz_k7, pz_k8, pz_k9, pz_k10, pz_k16, pz_k31, pz_k63, pz_km, nI_add, pz_mul, nI_ltI, nI_eq, nI_clamp, pz_inI, Option.bind_some, Option.toList_some, Option.toList_none, List.cons_append, List.nil_append, Nat.zero_add, Nat.mul_zero, Nat.add_zero, Nat.lt_irrefl, pz_bb, pz_bTr, Bool.false_eq_true, pz_bFa, Nat.reduceEqDiff, Nat.reduceLT, ite_not, pz_mE, pz_mE2, pz_mL, pz_mG, not_true_eq_false, not_false_eq_true, if_true, if_false, reduceIte, eq_self, true_or, or_true, or_false, false_or, and_true, true_and, and_false, false_and]
/-- singersOfHeard -/
theorem sC67 (hA : pz_wf ck A) (hC : pz_C 0 A I κ) : mm_ev 67 0 [some (.inr (.inr (4, 0))), none, none] [] (ids, I, L, mm_RS κ) = some (some (.inl (nI (pz_wb A (A 6 0 0)))), (ids, I, L, mm_RS κ)) := by
  have h5 := hA.2.2.2.1
  have h12 := hC.2.2.1
  have hl := pz_loop (fun t => mm_ev 67 4 [some (.inr (.inr (4, 0))), some (.inl (nI (pz_wb A t))), some (.inl (nI t))] [] (ids, I, L, mm_RS κ)) (A 6 0 0) (fun t ht => ?_)
  · rw [b67_0]
    refine Eq.trans hl ?_
    try dsimp only
    rw [b67_4]
    simp (disch := omega) only [h12, b67_37, pz_k0, pz_k1, pz_k2, pz_k3, pz_k4, pz_k5, pz_k6, pz_k7, pz_k8, pz_k9, pz_k10, pz_k16, pz_k31, pz_k63, pz_km, nI_add, pz_mul, nI_ltI, nI_eq, nI_clamp, pz_inI, Option.bind_some, Option.toList_some, Option.toList_none, List.cons_append, List.nil_append, Nat.zero_add, Nat.mul_zero, Nat.add_zero, Nat.lt_irrefl, pz_bb, pz_bTr, Bool.false_eq_true, pz_bFa, Nat.reduceEqDiff, Nat.reduceLT, ite_not, pz_mE, pz_mE2, pz_mL, pz_mG, not_true_eq_false, not_false_eq_true, if_true, if_false, reduceIte, eq_self, true_or, or_true, or_false, false_or, and_true, true_and, and_false, false_and]
  · try dsimp only
    rw [pz_wb_s, b67_4]
    by_cases hc : pz_cd A t
    · rw [if_pos hc]
      simp (disch := omega) only [h12, ht, b67_12, show t < 5 by omega, b67_19, sC68 hA hC ht, pz_bT hc, b67_22, b67_25, pz_one (show t < 10 by omega), pz_or, b67_31, pz_k0, pz_k1, pz_k2, pz_k3, pz_k4, pz_k5, pz_k6, pz_k7, pz_k8, pz_k9, pz_k10, pz_k16, pz_k31, pz_k63, pz_km, nI_add, pz_mul, nI_ltI, nI_eq, nI_clamp, pz_inI, Option.bind_some, Option.toList_some, Option.toList_none, List.cons_append, List.nil_append, Nat.zero_add, Nat.mul_zero, Nat.add_zero, Nat.lt_irrefl, pz_bb, pz_bTr, Bool.false_eq_true, pz_bFa, Nat.reduceEqDiff, Nat.reduceLT, ite_not, pz_mE, pz_mE2, pz_mL, pz_mG, not_true_eq_false, not_false_eq_true, if_true, if_false, reduceIte, eq_self, true_or, or_true, or_false, false_or, and_true, true_and, and_false, false_and]
    · rw [if_neg hc]
      simp (disch := omega) only [h12, ht, b67_12, show t < 5 by omega, b67_19, sC68 hA hC ht, pz_bF hc, b67_22, b67_31, pz_k0, pz_k1, pz_k2, pz_k3, pz_k4, pz_k5, pz_k6, pz_k7, pz_k8, pz_k9, pz_k10, pz_k16, pz_k31, pz_k63, pz_km, nI_add, pz_mul, nI_ltI, nI_eq, nI_clamp, pz_inI, Option.bind_some, Option.toList_some, Option.toList_none, List.cons_append, List.nil_append, Nat.zero_add, Nat.mul_zero, Nat.add_zero, Nat.lt_irrefl, pz_bb, pz_bTr, Bool.false_eq_true, pz_bFa, Nat.reduceEqDiff, Nat.reduceLT, ite_not, pz_mE, pz_mE2, pz_mL, pz_mG, not_true_eq_false, not_false_eq_true, if_true, if_false, reduceIte, eq_self, true_or, or_true, or_false, false_or, and_true, true_and, and_false, false_and]
theorem sC23 (hA : pz_wf ck A) (hC : pz_C 0 A I κ) : mm_ev 23 0 [some (.inr (.inr (1, 0)))] [] (ids, I, L, mm_RS κ) = some (some (.inl (nI (pz_who A))), (ids, I, L, mm_RS κ)) := by
  unfold pz_who
  rw [b23_0, sC66 hA hC]
  by_cases hy : pz_any A 6
  · rw [pz_bT hy, if_pos hy]
    simp (disch := omega) only [b23_7, b23_10, sC67 hA hC, b23_17, b23_21, pz_k0, pz_k1, pz_k2, pz_k3, pz_k4, pz_k5, pz_k6, pz_k7, pz_k8, pz_k9, pz_k10, pz_k16, pz_k31, pz_k63, pz_km, nI_add, pz_mul, nI_ltI, nI_eq, nI_clamp, pz_inI, Option.bind_some, Option.toList_some, Option.toList_none, List.cons_append, List.nil_append, Nat.zero_add, Nat.mul_zero, Nat.add_zero, Nat.lt_irrefl, pz_bb, pz_bTr, Bool.false_eq_true, pz_bFa, Nat.reduceEqDiff, Nat.reduceLT, ite_not, pz_mE, pz_mE2, pz_mL, pz_mG, not_true_eq_false, not_false_eq_true, if_true, if_false, reduceIte, eq_self, true_or, or_true, or_false, false_or, and_true, true_and, and_false, false_and]
  · rw [pz_bF hy, if_neg hy]
    simp (disch := omega) only [b23_7, b23_20, b23_21, pz_k0, pz_k1, pz_k2, pz_k3, pz_k4, pz_k5, pz_k6, pz_k7, pz_k8, pz_k9, pz_k10, pz_k16, pz_k31, pz_k63, pz_km, nI_add, pz_mul, nI_ltI, nI_eq, nI_clamp, pz_inI, Option.bind_some, Option.toList_some, Option.toList_none, List.cons_append, List.nil_append, Nat.zero_add, Nat.mul_zero, Nat.add_zero, Nat.lt_irrefl, pz_bb, pz_bTr, Bool.false_eq_true, pz_bFa, Nat.reduceEqDiff, Nat.reduceLT, ite_not, pz_mE, pz_mE2, pz_mL, pz_mG, not_true_eq_false, not_false_eq_true, if_true, if_false, reduceIte, eq_self, true_or, or_true, or_false, false_or, and_true, true_and, and_false, false_and]
/-- isWay -/
theorem sM161 (hA : pz_wf ck A) (hM : pz_M A I) (hp : p < 6) : mm_ev 161 0 [some (.inr (.inr (9, 0))), some (.inl (nI p)), none, none, none, none] [] (ids, I, L, mm_RM) = some (some (.inl (pz_b (pz_isw A p (A 14 0 0)))), (ids, I, L, mm_RM)) := by
  have h9 := hA.2.1
  have h10 := hA.2.2.2.2.2.2.1
  have h57 := (pz_M0 hM).2.2.2.1
  have hl := pz_srchJ (fun i => pz_d (¬ pz_at A (A 15 0 i) (pz_wl A p i))) (fun i (j : Option mm_V) => mm_ev 161 7 [some (.inr (.inr (9, 0))), some (.inl (nI p)), some (.inl (nI (pz_wl A p i))), some (.inl (nI 1)), some (.inl (nI i)), j] [] (ids, I, L, mm_RM)) (fun _ _ => some (some (.inl (nI 0)), (ids, I, L, mm_RM))) (A 14 0 0) 0 (fun i j _ hi => ?_) none
  · rw [b161_0]
    rw [Nat.zero_add] at hl
    by_cases hf : pz_fnd (fun i => pz_d (¬ pz_at A (A 15 0 i) (pz_wl A p i))) (A 14 0 0) 0 < A 14 0 0
    · obtain ⟨j, hj⟩ := hl.1 hf
      have hq := pz_fnd_is (p := fun i => pz_d (¬ pz_at A (A 15 0 i) (pz_wl A p i))) (A 14 0 0) 0 (by omega)
      rw [pz_bF (fun q => (pz_dI.mp hq) (q _ hf))]
      exact hj
    · obtain ⟨j, hj⟩ := hl.2 hf
      have hall : pz_isw A p (A 14 0 0) := by
        intro i hi
        have hle := (pz_fnd_le (p := fun i => pz_d (¬ pz_at A (A 15 0 i) (pz_wl A p i))) (A 14 0 0) 0).2
        have := pz_fnd_not (p := fun i => pz_d (¬ pz_at A (A 15 0 i) (pz_wl A p i))) (A 14 0 0) 0 i (Nat.zero_le _) (by omega)
        refine Classical.byContradiction (fun q => ?_)
        have e := pz_dT q
        try dsimp only at this
        rw [e] at this
        cases this
      refine Eq.trans hj ?_
      try dsimp only
      rw [b161_7, pz_bT hall]
      simp (disch := omega) only [h57, b161_61, pz_k0, pz_k1, pz_k2, pz_k3, pz_k4, pz_k5, pz_k6, pz_k7, pz_k8, pz_k9, pz_k10, pz_k16, pz_k31, pz_k63, pz_km, nI_add, pz_mul, nI_ltI, nI_eq, nI_clamp, pz_inI, Option.bind_some, Option.toList_some, Option.toList_none, List.cons_append, List.nil_append, Nat.zero_add, Nat.mul_zero, Nat.add_zero, Nat.lt_irrefl, pz_bb, pz_bTr, Bool.false_eq_true, pz_bFa, Nat.reduceEqDiff, Nat.reduceLT, ite_not, pz_mE, pz_mE2, pz_mL, pz_mG, not_true_eq_false, not_false_eq_true, if_true, if_false, reduceIte, eq_self, true_or, or_true, or_false, false_or, and_true, true_and, and_false, false_and]
  · try dsimp only
    have hi' : i < A 14 0 0 := by omega
    have hb := pz_hd hA hi'
    have h134 := (pz_M0 hM).2.2.2.2 i hi'
    have hw := pz_wl_lt hA hp i (by omega)
    obtain ⟨-, c2, c3, -⟩ := pz_M0b hM hb
    refine ⟨fun hq => ?_, fun hq => ?_⟩
    · have ho := pz_dI.mp hq
      refine ⟨none, ?_⟩
      rw [b161_7]
      simp (disch := omega) only [h57, hi', b161_16, b161_20, show i < 10 by omega, h134, b161_27, sM141 hA hM hb hw, pz_bF ho, b161_36, show A 15 0 i < 9 by omega, c2, b161_44, c3, b161_51, pz_k0, pz_k1, pz_k2, pz_k3, pz_k4, pz_k5, pz_k6, pz_k7, pz_k8, pz_k9, pz_k10, pz_k16, pz_k31, pz_k63, pz_km, nI_add, pz_mul, nI_ltI, nI_eq, nI_clamp, pz_inI, Option.bind_some, Option.toList_some, Option.toList_none, List.cons_append, List.nil_append, Nat.zero_add, Nat.mul_zero, Nat.add_zero, Nat.lt_irrefl, pz_bb, pz_bTr, Bool.false_eq_true, pz_bFa, Nat.reduceEqDiff, Nat.reduceLT, ite_not, pz_mE, pz_mE2, pz_mL, pz_mG, not_true_eq_false, not_false_eq_true, if_true, if_false, reduceIte, eq_self, true_or, or_true, or_false, false_or, and_true, true_and, and_false, false_and]
      rw [b161_7]
      by_cases hl : i + 1 < A 14 0 0
      · simp (disch := omega) only [h57, hl, b161_16, b161_61, pz_k0, pz_k1, pz_k2, pz_k3, pz_k4, pz_k5, pz_k6, pz_k7, pz_k8, pz_k9, pz_k10, pz_k16, pz_k31, pz_k63, pz_km, nI_add, pz_mul, nI_ltI, nI_eq, nI_clamp, pz_inI, Option.bind_some, Option.toList_some, Option.toList_none, List.cons_append, List.nil_append, Nat.zero_add, Nat.mul_zero, Nat.add_zero, Nat.lt_irrefl, pz_bb, pz_bTr, Bool.false_eq_true, pz_bFa, Nat.reduceEqDiff, Nat.reduceLT, ite_not, pz_mE, pz_mE2, pz_mL, pz_mG, not_true_eq_false, not_false_eq_true, if_true, if_false, reduceIte, eq_self, true_or, or_true, or_false, false_or, and_true, true_and, and_false, false_and]
      · simp (disch := omega) only [h57, hl, b161_61, pz_k0, pz_k1, pz_k2, pz_k3, pz_k4, pz_k5, pz_k6, pz_k7, pz_k8, pz_k9, pz_k10, pz_k16, pz_k31, pz_k63, pz_km, nI_add, pz_mul, nI_ltI, nI_eq, nI_clamp, pz_inI, Option.bind_some, Option.toList_some, Option.toList_none, List.cons_append, List.nil_append, Nat.zero_add, Nat.mul_zero, Nat.add_zero, Nat.lt_irrefl, pz_bb, pz_bTr, Bool.false_eq_true, pz_bFa, Nat.reduceEqDiff, Nat.reduceLT, ite_not, pz_mE, pz_mE2, pz_mL, pz_mG, not_true_eq_false, not_false_eq_true, if_true, if_false, reduceIte, eq_self, true_or, or_true, or_false, false_or, and_true, true_and, and_false, false_and]
    · have ho : pz_at A (A 15 0 i) (pz_wl A p i) := by
        refine Classical.byContradiction (fun q => ?_)
        rw [pz_dT q] at hq
        cases hq
      refine ⟨some (.inl (nI (A 15 0 i))), ?_⟩
      rw [b161_7, pz_wl_s, ← pz_so hA hb ho]
      simp (disch := omega) only [h57, hi', b161_16, b161_20, show i < 10 by omega, h134, b161_27, sM141 hA hM hb hw, pz_bT ho, b161_36, show A 15 0 i < 9 by omega, c2, b161_44, c3, b161_51, pz_k0, pz_k1, pz_k2, pz_k3, pz_k4, pz_k5, pz_k6, pz_k7, pz_k8, pz_k9, pz_k10, pz_k16, pz_k31, pz_k63, pz_km, nI_add, pz_mul, nI_ltI, nI_eq, nI_clamp, pz_inI, Option.bind_some, Option.toList_some, Option.toList_none, List.cons_append, List.nil_append, Nat.zero_add, Nat.mul_zero, Nat.add_zero, Nat.lt_irrefl, pz_bb, pz_bTr, Bool.false_eq_true, pz_bFa, Nat.reduceEqDiff, Nat.reduceLT, ite_not, pz_mE, pz_mE2, pz_mL, pz_mG, not_true_eq_false, not_false_eq_true, if_true, if_false, reduceIte, eq_self, true_or, or_true, or_false, false_or, and_true, true_and, and_false, false_and]
/-- whoNow -/
theorem sM162 (hA : pz_wf ck A) (hM : pz_M A I) : mm_ev 162 0 [some (.inr (.inr (9, 0))), none, none, none, none, none, none] [] (ids, I, L, mm_RM) = some (some (.inl (nI (pz_who A))), (ids, I, L, mm_RM)) := by
  have h9 := hA.2.1
  have h5 := hA.2.2.2.1
  have h10 := hA.2.2.2.2.2.2.1
  have h57 := (pz_M0 hM).2.2.2.1
  have h47 := (pz_M0 hM).2.1
  have l1 := pz_loop (fun p => mm_ev 162 4 [some (.inr (.inr (9, 0))), some (.inl (pz_b (pz_any A p))), some (.inl (nI p)), none, none, none, none] [] (ids, I, L, mm_RM)) 6 (fun p hp => ?_)
  · have l2 := pz_loop (fun i => mm_ev 162 38 [some (.inr (.inr (9, 0))), some (.inl (pz_b (pz_any A 6))), some (.inl (nI (pz_sl A i))), some (.inl (nI i)), none, none, none] [] (ids, I, L, mm_RM)) (A 14 0 0) (fun i hi => ?_)
    · have hno : ¬ pz_any A 0 := fun ⟨p, hp, _⟩ => absurd hp (Nat.not_lt_zero p)
      have hsl := pz_sl_le hA (A 14 0 0) (Nat.le_refl _)
      have hst : mm_ev 162 0 [some (.inr (.inr (9, 0))), none, none, none, none, none, none] [] (ids, I, L, mm_RM) = mm_ev 162 70 [some (.inr (.inr (9, 0))), some (.inl (pz_b (pz_any A 6))), some (.inl (nI (pz_sl A (A 14 0 0)))), some (.inl (nI 0)), some (.inl (nI 0)), none, none] [] (ids, I, L, mm_RM) := by
        rw [b162_0, show (0 : Int32) = pz_b (pz_any A 0) from by rw [pz_bF hno]; rfl]
        rw [show mm_ev 162 4 [some (.inr (.inr (9, 0))), some (.inl (pz_b (pz_any A 0))), some (.inl (pz_b (pz_any A 0))), none, none, none, none] [] (ids, I, L, mm_RM) = mm_ev 162 4 [some (.inr (.inr (9, 0))), some (.inl (pz_b (pz_any A 0))), some (.inl (nI 0)), none, none, none, none] [] (ids, I, L, mm_RM) from by rw [pz_bF hno]]
        refine Eq.trans l1 ?_
        try dsimp only
        rw [b162_4]
        simp (disch := omega) only [b162_34, pz_k0, pz_k1, pz_k2, pz_k3, pz_k4, pz_k5, pz_k6, pz_k7, pz_k8, pz_k9, pz_k10, pz_k16, pz_k31, pz_k63, pz_km, nI_add, pz_mul, nI_ltI, nI_eq, nI_clamp, pz_inI, Option.bind_some, Option.toList_some, Option.toList_none, List.cons_append, List.nil_append, Nat.zero_add, Nat.mul_zero, Nat.add_zero, Nat.lt_irrefl, pz_bb, pz_bTr, Bool.false_eq_true, pz_bFa, Nat.reduceEqDiff, Nat.reduceLT, ite_not, pz_mE, pz_mE2, pz_mL, pz_mG, not_true_eq_false, not_false_eq_true, if_true, if_false, reduceIte, eq_self, true_or, or_true, or_false, false_or, and_true, true_and, and_false, false_and]
        refine Eq.trans l2 ?_
        try dsimp only
        rw [b162_38]
        simp (disch := omega) only [h57, b162_65, pz_k0, pz_k1, pz_k2, pz_k3, pz_k4, pz_k5, pz_k6, pz_k7, pz_k8, pz_k9, pz_k10, pz_k16, pz_k31, pz_k63, pz_km, nI_add, pz_mul, nI_ltI, nI_eq, nI_clamp, pz_inI, Option.bind_some, Option.toList_some, Option.toList_none, List.cons_append, List.nil_append, Nat.zero_add, Nat.mul_zero, Nat.add_zero, Nat.lt_irrefl, pz_bb, pz_bTr, Bool.false_eq_true, pz_bFa, Nat.reduceEqDiff, Nat.reduceLT, ite_not, pz_mE, pz_mE2, pz_mL, pz_mG, not_true_eq_false, not_false_eq_true, if_true, if_false, reduceIte, eq_self, true_or, or_true, or_false, false_or, and_true, true_and, and_false, false_and]
      rw [hst]
      unfold pz_who
      by_cases hy : pz_any A 6
      · rw [if_pos hy, pz_bT hy]
        have l3 := pz_loopJ (fun t (j : Option mm_V × Option mm_V) => mm_ev 162 70 [some (.inr (.inr (9, 0))), some (.inl (nI 1)), some (.inl (nI (pz_sl A (A 14 0 0)))), some (.inl (nI (pz_wb A t))), some (.inl (nI t)), j.1, j.2] [] (ids, I, L, mm_RM)) (A 6 0 0) (fun t j ht => ?_) (none, none)
        · obtain ⟨j, hj⟩ := l3
          refine Eq.trans hj ?_
          try dsimp only
          rw [b162_70]
          simp (disch := omega) only [h47, b162_174, pz_k0, pz_k1, pz_k2, pz_k3, pz_k4, pz_k5, pz_k6, pz_k7, pz_k8, pz_k9, pz_k10, pz_k16, pz_k31, pz_k63, pz_km, nI_add, pz_mul, nI_ltI, nI_eq, nI_clamp, pz_inI, Option.bind_some, Option.toList_some, Option.toList_none, List.cons_append, List.nil_append, Nat.zero_add, Nat.mul_zero, Nat.add_zero, Nat.lt_irrefl, pz_bb, pz_bTr, Bool.false_eq_true, pz_bFa, Nat.reduceEqDiff, Nat.reduceLT, ite_not, pz_mE, pz_mE2, pz_mL, pz_mG, not_true_eq_false, not_false_eq_true, if_true, if_false, reduceIte, eq_self, true_or, or_true, or_false, false_or, and_true, true_and, and_false, false_and]
        · try dsimp only
          obtain ⟨a7, a8, a9, a10, -⟩ := hA.2.2.2.2.1 t ht
          obtain ⟨d1, d2, d3, d4, -⟩ := pz_M0s hM ht
          have l4 := pz_loop (fun i => mm_ev 162 104 [some (.inr (.inr (9, 0))), some (.inl (nI 1)), some (.inl (nI (pz_sl A (A 14 0 0)))), some (.inl (nI (pz_wb A t))), some (.inl (nI t)), some (.inl (pz_b (pz_opk A t i ∧ pz_sl A (A 14 0 0) ≤ A 10 t 0))), some (.inl (nI i))] [] (ids, I, L, mm_RM)) (A 14 0 0) (fun i hi => ?_)
          · refine ⟨(some (.inl (pz_b (pz_cd A t))), some (.inl (nI (A 14 0 0)))), ?_⟩
            have hst2 : mm_ev 162 70 [some (.inr (.inr (9, 0))), some (.inl (nI 1)), some (.inl (nI (pz_sl A (A 14 0 0)))), some (.inl (nI (pz_wb A t))), some (.inl (nI t)), j.1, j.2] [] (ids, I, L, mm_RM) = mm_ev 162 104 [some (.inr (.inr (9, 0))), some (.inl (nI 1)), some (.inl (nI (pz_sl A (A 14 0 0)))), some (.inl (nI (pz_wb A t))), some (.inl (nI t)), some (.inl (pz_b (pz_opk A t 0 ∧ pz_sl A (A 14 0 0) ≤ A 10 t 0))), some (.inl (nI 0))] [] (ids, I, L, mm_RM) := by
              have hk0 : pz_opk A t 0 := fun j hj => absurd hj (Nat.not_lt_zero j)
              rw [b162_70]
              by_cases hd : pz_sl A (A 14 0 0) ≤ A 10 t 0
              · rw [pz_bT ⟨hk0, hd⟩]
                simp (disch := omega) only [h47, ht, b162_79, b162_83, show t < 5 by omega, d4, b162_91, show ¬ A 10 t 0 < pz_sl A (A 14 0 0) by omega, b162_94, b162_99, pz_k0, pz_k1, pz_k2, pz_k3, pz_k4, pz_k5, pz_k6, pz_k7, pz_k8, pz_k9, pz_k10, pz_k16, pz_k31, pz_k63, pz_km, nI_add, pz_mul, nI_ltI, nI_eq, nI_clamp, pz_inI, Option.bind_some, Option.toList_some, Option.toList_none, List.cons_append, List.nil_append, Nat.zero_add, Nat.mul_zero, Nat.add_zero, Nat.lt_irrefl, pz_bb, pz_bTr, Bool.false_eq_true, pz_bFa, Nat.reduceEqDiff, Nat.reduceLT, ite_not, pz_mE, pz_mE2, pz_mL, pz_mG, not_true_eq_false, not_false_eq_true, if_true, if_false, reduceIte, eq_self, true_or, or_true, or_false, false_or, and_true, true_and, and_false, false_and]
              · rw [pz_bF (fun q => hd q.2)]
                simp (disch := omega) only [h47, ht, b162_79, b162_83, show t < 5 by omega, d4, b162_91, show A 10 t 0 < pz_sl A (A 14 0 0) by omega, b162_98, b162_99, pz_k0, pz_k1, pz_k2, pz_k3, pz_k4, pz_k5, pz_k6, pz_k7, pz_k8, pz_k9, pz_k10, pz_k16, pz_k31, pz_k63, pz_km, nI_add, pz_mul, nI_ltI, nI_eq, nI_clamp, pz_inI, Option.bind_some, Option.toList_some, Option.toList_none, List.cons_append, List.nil_append, Nat.zero_add, Nat.mul_zero, Nat.add_zero, Nat.lt_irrefl, pz_bb, pz_bTr, Bool.false_eq_true, pz_bFa, Nat.reduceEqDiff, Nat.reduceLT, ite_not, pz_mE, pz_mE2, pz_mL, pz_mG, not_true_eq_false, not_false_eq_true, if_true, if_false, reduceIte, eq_self, true_or, or_true, or_false, false_or, and_true, true_and, and_false, false_and]
            rw [hst2]
            refine Eq.trans l4 ?_
            try dsimp only
            show mm_ev 162 104 [some (.inr (.inr (9, 0))), some (.inl (nI 1)), some (.inl (nI (pz_sl A (A 14 0 0)))), some (.inl (nI (pz_wb A t))), some (.inl (nI t)), some (.inl (pz_b (pz_cd A t))), some (.inl (nI (A 14 0 0)))] [] (ids, I, L, mm_RM) = _
            rw [b162_104, pz_wb_s]
            by_cases hc : pz_cd A t
            · rw [pz_bT hc, if_pos hc]
              simp (disch := omega) only [h57, b162_152, b162_158, pz_one (show t < 10 by omega), b162_166, pz_or, pz_k0, pz_k1, pz_k2, pz_k3, pz_k4, pz_k5, pz_k6, pz_k7, pz_k8, pz_k9, pz_k10, pz_k16, pz_k31, pz_k63, pz_km, nI_add, pz_mul, nI_ltI, nI_eq, nI_clamp, pz_inI, Option.bind_some, Option.toList_some, Option.toList_none, List.cons_append, List.nil_append, Nat.zero_add, Nat.mul_zero, Nat.add_zero, Nat.lt_irrefl, pz_bb, pz_bTr, Bool.false_eq_true, pz_bFa, Nat.reduceEqDiff, Nat.reduceLT, ite_not, pz_mE, pz_mE2, pz_mL, pz_mG, not_true_eq_false, not_false_eq_true, if_true, if_false, reduceIte, eq_self, true_or, or_true, or_false, false_or, and_true, true_and, and_false, false_and]
            · rw [pz_bF hc, if_neg hc]
              simp (disch := omega) only [h57, b162_152, b162_165, b162_166, pz_or, Nat.or_zero, pz_k0, pz_k1, pz_k2, pz_k3, pz_k4, pz_k5, pz_k6, pz_k7, pz_k8, pz_k9, pz_k10, pz_k16, pz_k31, pz_k63, pz_km, nI_add, pz_mul, nI_ltI, nI_eq, nI_clamp, pz_inI, Option.bind_some, Option.toList_some, Option.toList_none, List.cons_append, List.nil_append, Nat.zero_add, Nat.mul_zero, Nat.add_zero, Nat.lt_irrefl, pz_bb, pz_bTr, Bool.false_eq_true, pz_bFa, Nat.reduceEqDiff, Nat.reduceLT, ite_not, pz_mE, pz_mE2, pz_mL, pz_mG, not_true_eq_false, not_false_eq_true, if_true, if_false, reduceIte, eq_self, true_or, or_true, or_false, false_or, and_true, true_and, and_false, false_and]
          · try dsimp only
            have hb := pz_hd hA hi
            have h134 := (pz_M0 hM).2.2.2.2 i hi
            have hks : pz_opk A t (i + 1) ↔ pz_opk A t i ∧ pz_op A (A 15 0 i) (A 8 t 0) := by
              constructor
              · intro q
                exact ⟨fun j hj => q j (by omega), q i (by omega)⟩
              · rintro ⟨q1, q2⟩ j hj
                by_cases e : j = i
                · rw [e]
                  exact q2
                · exact q1 j (by omega)
            rw [b162_104]
            by_cases hc : pz_opk A t i ∧ pz_sl A (A 14 0 0) ≤ A 10 t 0
            · by_cases ho : pz_op A (A 15 0 i) (A 8 t 0)
              · rw [pz_bT hc, pz_bT (⟨hks.mpr ⟨hc.1, ho⟩, hc.2⟩ : pz_opk A t (i + 1) ∧ pz_sl A (A 14 0 0) ≤ A 10 t 0)]
                simp (disch := omega) only [h57, hi, b162_113, b162_118, show i < 10 by omega, h134, b162_126, show t < 5 by omega, d2, b162_133, sM140 hA hM hb a8, pz_bT ho, b162_136, b162_139, b162_144, pz_k0, pz_k1, pz_k2, pz_k3, pz_k4, pz_k5, pz_k6, pz_k7, pz_k8, pz_k9, pz_k10, pz_k16, pz_k31, pz_k63, pz_km, nI_add, pz_mul, nI_ltI, nI_eq, nI_clamp, pz_inI, Option.bind_some, Option.toList_some, Option.toList_none, List.cons_append, List.nil_append, Nat.zero_add, Nat.mul_zero, Nat.add_zero, Nat.lt_irrefl, pz_bb, pz_bTr, Bool.false_eq_true, pz_bFa, Nat.reduceEqDiff, Nat.reduceLT, ite_not, pz_mE, pz_mE2, pz_mL, pz_mG, not_true_eq_false, not_false_eq_true, if_true, if_false, reduceIte, eq_self, true_or, or_true, or_false, false_or, and_true, true_and, and_false, false_and]
              · rw [pz_bT hc, pz_bF (fun q : pz_opk A t (i + 1) ∧ pz_sl A (A 14 0 0) ≤ A 10 t 0 => ho (hks.mp q.1).2)]
                simp (disch := omega) only [h57, hi, b162_113, b162_118, show i < 10 by omega, h134, b162_126, show t < 5 by omega, d2, b162_133, sM140 hA hM hb a8, pz_bF ho, b162_136, b162_143, b162_144, pz_k0, pz_k1, pz_k2, pz_k3, pz_k4, pz_k5, pz_k6, pz_k7, pz_k8, pz_k9, pz_k10, pz_k16, pz_k31, pz_k63, pz_km, nI_add, pz_mul, nI_ltI, nI_eq, nI_clamp, pz_inI, Option.bind_some, Option.toList_some, Option.toList_none, List.cons_append, List.nil_append, Nat.zero_add, Nat.mul_zero, Nat.add_zero, Nat.lt_irrefl, pz_bb, pz_bTr, Bool.false_eq_true, pz_bFa, Nat.reduceEqDiff, Nat.reduceLT, ite_not, pz_mE, pz_mE2, pz_mL, pz_mG, not_true_eq_false, not_false_eq_true, if_true, if_false, reduceIte, eq_self, true_or, or_true, or_false, false_or, and_true, true_and, and_false, false_and]
            · rw [pz_bF hc, pz_bF (fun q : pz_opk A t (i + 1) ∧ pz_sl A (A 14 0 0) ≤ A 10 t 0 => hc ⟨(hks.mp q.1).1, q.2⟩)]
              simp (disch := omega) only [h57, hi, b162_113, b162_143, b162_144, pz_k0, pz_k1, pz_k2, pz_k3, pz_k4, pz_k5, pz_k6, pz_k7, pz_k8, pz_k9, pz_k10, pz_k16, pz_k31, pz_k63, pz_km, nI_add, pz_mul, nI_ltI, nI_eq, nI_clamp, pz_inI, Option.bind_some, Option.toList_some, Option.toList_none, List.cons_append, List.nil_append, Nat.zero_add, Nat.mul_zero, Nat.add_zero, Nat.lt_irrefl, pz_bb, pz_bTr, Bool.false_eq_true, pz_bFa, Nat.reduceEqDiff, Nat.reduceLT, ite_not, pz_mE, pz_mE2, pz_mL, pz_mG, not_true_eq_false, not_false_eq_true, if_true, if_false, reduceIte, eq_self, true_or, or_true, or_false, false_or, and_true, true_and, and_false, false_and]
      · rw [if_neg hy, pz_bF hy, b162_70]
        by_cases h0 : 0 < A 6 0 0
        · simp (disch := omega) only [h47, h0, b162_79, b162_174, pz_k0, pz_k1, pz_k2, pz_k3, pz_k4, pz_k5, pz_k6, pz_k7, pz_k8, pz_k9, pz_k10, pz_k16, pz_k31, pz_k63, pz_km, nI_add, pz_mul, nI_ltI, nI_eq, nI_clamp, pz_inI, Option.bind_some, Option.toList_some, Option.toList_none, List.cons_append, List.nil_append, Nat.zero_add, Nat.mul_zero, Nat.add_zero, Nat.lt_irrefl, pz_bb, pz_bTr, Bool.false_eq_true, pz_bFa, Nat.reduceEqDiff, Nat.reduceLT, ite_not, pz_mE, pz_mE2, pz_mL, pz_mG, not_true_eq_false, not_false_eq_true, if_true, if_false, reduceIte, eq_self, true_or, or_true, or_false, false_or, and_true, true_and, and_false, false_and]
        · simp (disch := omega) only [h47, h0, b162_174, pz_k0, pz_k1, pz_k2, pz_k3, pz_k4, pz_k5, pz_k6, pz_k7, pz_k8, pz_k9, pz_k10, pz_k16, pz_k31, pz_k63, pz_km, nI_add, pz_mul, nI_ltI, nI_eq, nI_clamp, pz_inI, Option.bind_some, Option.toList_some, Option.toList_none, List.cons_append, List.nil_append, Nat.zero_add, Nat.mul_zero, Nat.add_zero, Nat.lt_irrefl, pz_bb, pz_bTr, Bool.false_eq_true, pz_bFa, Nat.reduceEqDiff, Nat.reduceLT, ite_not, pz_mE, pz_mE2, pz_mL, pz_mG, not_true_eq_false, not_false_eq_true, if_true, if_false, reduceIte, eq_self, true_or, or_true, or_false, false_or, and_true, true_and, and_false, false_and]
    · try dsimp only
      have hb := pz_hd hA hi
      have h134 := (pz_M0 hM).2.2.2.2 i hi
      rw [b162_38, pz_sl_s]
      simp (disch := omega) only [h57, hi, b162_46, show i < 10 by omega, h134, b162_54, sM125 hA hM hb, b162_57, pz_k0, pz_k1, pz_k2, pz_k3, pz_k4, pz_k5, pz_k6, pz_k7, pz_k8, pz_k9, pz_k10, pz_k16, pz_k31, pz_k63, pz_km, nI_add, pz_mul, nI_ltI, nI_eq, nI_clamp, pz_inI, Option.bind_some, Option.toList_some, Option.toList_none, List.cons_append, List.nil_append, Nat.zero_add, Nat.mul_zero, Nat.add_zero, Nat.lt_irrefl, pz_bb, pz_bTr, Bool.false_eq_true, pz_bFa, Nat.reduceEqDiff, Nat.reduceLT, ite_not, pz_mE, pz_mE2, pz_mL, pz_mG, not_true_eq_false, not_false_eq_true, if_true, if_false, reduceIte, eq_self, true_or, or_true, or_false, false_or, and_true, true_and, and_false, false_and]
  · try dsimp only
    have hs : pz_any A (p + 1) ↔ pz_any A p ∨ pz_isw A p (A 14 0 0) := by
      constructor
      · rintro ⟨q, q1, q2⟩
        by_cases e : q = p
        · rw [e] at q2
          exact Or.inr q2
        · exact Or.inl ⟨q, by omega, q2⟩
      · rintro (⟨q, q1, q2⟩ | q2)
        · exact ⟨q, by omega, q2⟩
        · exact ⟨p, by omega, q2⟩
    rw [b162_4]
    by_cases hy : pz_any A p
    · rw [pz_bT hy, pz_bT (hs.mpr (Or.inl hy))]
      simp (disch := omega) only [hp, b162_10, b162_22, b162_27, pz_k0, pz_k1, pz_k2, pz_k3, pz_k4, pz_k5, pz_k6, pz_k7, pz_k8, pz_k9, pz_k10, pz_k16, pz_k31, pz_k63, pz_km, nI_add, pz_mul, nI_ltI, nI_eq, nI_clamp, pz_inI, Option.bind_some, Option.toList_some, Option.toList_none, List.cons_append, List.nil_append, Nat.zero_add, Nat.mul_zero, Nat.add_zero, Nat.lt_irrefl, pz_bb, pz_bTr, Bool.false_eq_true, pz_bFa, Nat.reduceEqDiff, Nat.reduceLT, ite_not, pz_mE, pz_mE2, pz_mL, pz_mG, not_true_eq_false, not_false_eq_true, if_true, if_false, reduceIte, eq_self, true_or, or_true, or_false, false_or, and_true, true_and, and_false, false_and]
    · by_cases hw : pz_isw A p (A 14 0 0)
      · rw [pz_bF hy, pz_bT (hs.mpr (Or.inr hw))]
        simp (disch := omega) only [hp, b162_10, b162_14, sM161 hA hM hp, pz_bT hw, b162_19, b162_22, b162_27, pz_k0, pz_k1, pz_k2, pz_k3, pz_k4, pz_k5, pz_k6, pz_k7, pz_k8, pz_k9, pz_k10, pz_k16, pz_k31, pz_k63, pz_km, nI_add, pz_mul, nI_ltI, nI_eq, nI_clamp, pz_inI, Option.bind_some, Option.toList_some, Option.toList_none, List.cons_append, List.nil_append, Nat.zero_add, Nat.mul_zero, Nat.add_zero, Nat.lt_irrefl, pz_bb, pz_bTr, Bool.false_eq_true, pz_bFa, Nat.reduceEqDiff, Nat.reduceLT, ite_not, pz_mE, pz_mE2, pz_mL, pz_mG, not_true_eq_false, not_false_eq_true, if_true, if_false, reduceIte, eq_self, true_or, or_true, or_false, false_or, and_true, true_and, and_false, false_and]
      · rw [pz_bF hy, pz_bF (fun q => (hs.mp q).elim hy hw)]
        simp (disch := omega) only [hp, b162_10, b162_14, sM161 hA hM hp, pz_bF hw, b162_19, b162_26, b162_27, pz_k0, pz_k1, pz_k2, pz_k3, pz_k4, pz_k5, pz_k6, pz_k7, pz_k8, pz_k9, pz_k10, pz_k16, pz_k31, pz_k63, pz_km, nI_add, pz_mul, nI_ltI, nI_eq, nI_clamp, pz_inI, Option.bind_some, Option.toList_some, Option.toList_none, List.cons_append, List.nil_append, Nat.zero_add, Nat.mul_zero, Nat.add_zero, Nat.lt_irrefl, pz_bb, pz_bTr, Bool.false_eq_true, pz_bFa, Nat.reduceEqDiff, Nat.reduceLT, ite_not, pz_mE, pz_mE2, pz_mL, pz_mG, not_true_eq_false, not_false_eq_true, if_true, if_false, reduceIte, eq_self, true_or, or_true, or_false, false_or, and_true, true_and, and_false, false_and]
theorem op23 (h : pz_Q k ck n g f A κ I J) : lw_two (pz_R (k + 1)) 23 163 [] (mm_idC, I, LC, mm_RS κ) (mm_idM, J, LM, mm_RM) := by
  obtain ⟨-, -, -, hA, hC, hM, -⟩ := id h
  refine pz_two (laC := [some (.inr (.inr (1, 0)))]) (laM := [some (.inr (.inr (9, 0)))]) (by rw [show mm_mL 23 = 1 from by decide +kernel]; rfl) (by rw [show mm_mL 163 = 1 from by decide +kernel]; rfl) (r :=  nI (pz_who A)) ?_ ?_ (pz_rd0 (LC' := LC) (LM' := LM) h)
  · exact sC23 hA hC
  · rw [b163_0, sM162 hA hM]
    exact b163_4 ..
end PZ62
