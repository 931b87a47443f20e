/-! the places open to one, as bits -/
noncomputable def pz_pst (A : pz_A) (v P k : Nat) : Nat := @ite _ (pz_op A k v ∧ P &&& (2 ^ A 2 k 0 ||| 2 ^ A 3 k 0) ≠ 0) (Classical.propDecidable _) (P ||| (2 ^ A 2 k 0 ||| 2 ^ A 3 k 0)) P
noncomputable def pz_prd (A : pz_A) (v P : Nat) : Nat → Nat
  | 0 => P
  | k + 1 => pz_pst A v (pz_prd A v P k) k
theorem pz_prd_s {A : pz_A} {v P k : Nat} : pz_prd A v P (k + 1) = pz_pst A v (pz_prd A v P k) k := rfl
noncomputable def pz_prr (A : pz_A) (v P : Nat) : Nat → Nat
  | 0 => P
  | r + 1 => pz_prd A v (pz_prr A v P r) (A 0 0 0)
theorem pz_prr_s {A : pz_A} {v P r : Nat} : pz_prr A v P (r + 1) = pz_prd A v (pz_prr A v P r) (A 0 0 0) := rfl
noncomputable def pz_po (A : pz_A) (v p : Nat) : Nat := pz_prr A v (2 ^ p) 5
theorem pz_prr_st {A : pz_A} {v P r : Nat} (h : pz_prr A v P (r + 1) = pz_prr A v P r) : ∀ d, pz_prr A v P (r + d) = pz_prr A v P r
  | 0 => rfl
  | d + 1 => by
    show pz_prd A v (pz_prr A v P (r + d)) (A 0 0 0) = _
    rw [pz_prr_st h d]
    exact h
set_option maxRecDepth 100000 in
theorem pz_en0 : ∀ P, P < 64 → ∀ a, a < 6 → ∀ b, b < 6 → ((P &&& (2 ^ a ||| 2 ^ b) ≠ 0) ↔ (pz_bt P a = 1 ∨ pz_bt P b = 1)) := by decide +kernel
set_option maxRecDepth 100000 in
theorem pz_en1c : ∀ P, P < 64 → ∀ q, q < 36 → ∀ x, x < 6 → (pz_bt (P ||| (2 ^ (q / 6) ||| 2 ^ (q % 6))) x = 1 ↔ (pz_bt P x = 1 ∨ x = q / 6 ∨ x = q % 6)) := by decide +kernel
theorem pz_en1b (P : Nat) (hP : P < 64) (a : Nat) (ha : a < 6) (b : Nat) (hb : b < 6) (x : Nat) (hx : x < 6) : (pz_bt (P ||| (2 ^ a ||| 2 ^ b)) x = 1 ↔ (pz_bt P x = 1 ∨ x = a ∨ x = b)) := by
  have h := pz_en1c P hP (6 * a + b) (by omega) x hx
  rw [show (6 * a + b) / 6 = a by omega, show (6 * a + b) % 6 = b by omega] at h
  exact h
theorem pz_en1 (P : Nat) (hP : P < 64) (a : Nat) (ha : a < 6) (b : Nat) (hb : b < 6) : P ||| (2 ^ a ||| 2 ^ b) < 64 ∧ ∀ x, x < 6 → (pz_bt (P ||| (2 ^ a ||| 2 ^ b)) x = 1 ↔ (pz_bt P x = 1 ∨ x = a ∨ x = b)) := ⟨pz_orlt (n := 6) hP (pz_orlt (n := 6) (Nat.pow_lt_pow_right (by decide) ha) (Nat.pow_lt_pow_right (by decide) hb)), pz_en1b P hP a ha b hb⟩
def pz_iv (P : Nat) (D : Nat → Nat) (c : Nat) : Prop := P < 64 ∧ (∀ x, x < 6 → (pz_bt P x = 1 ↔ D x < 10000)) ∧ (∀ x, D x < 10000 → D x ≤ c) ∧ ∀ x, D x ≤ 10000
theorem pz_iv_rx {P : Nat} {D : Nat → Nat} {c x y l : Nat} (hc : c < 9000) (hx : x < 6) (hy : y < 6) (hxy : y ≠ x) (hl : l ≤ 6) (h : pz_iv P D c) : pz_iv (if P &&& (2 ^ x ||| 2 ^ y) ≠ 0 then P ||| (2 ^ x ||| 2 ^ y) else P) (pz_rx D y x l) (c + 12) := by
  obtain ⟨h1, h2, h3, h4⟩ := h
  have e0 := pz_en0 P h1 x hx y hy
  obtain ⟨e1, e2⟩ := pz_en1 P h1 x hx y hy
  have rX := pz_rx_x (D := D) (l := l) hxy
  have rY := pz_rx_y (D := D) (l := l) hxy
  have i1 := h2 x hx
  have i2 := h2 y hy
  have j1 := h3 x
  have j2 := h3 y
  have k1 := h4 x
  have k2 := h4 y
  have m1 := Nat.min_le_left (D y) (D x + l)
  have m2 := Nat.min_le_right (D y) (D x + l)
  have m3 := Nat.min_le_left (D x) (min (D y) (D x + l) + l)
  have m4 := Nat.min_le_right (D x) (min (D y) (D x + l) + l)
  by_cases hz : P &&& (2 ^ x ||| 2 ^ y) ≠ 0
  · rw [if_pos hz]
    have hor := e0.mp hz
    have fX : pz_rx D y x l y < 10000 ∧ pz_rx D y x l y ≤ c + 12 := by
      rw [rX]
      rcases hor with q | q
      · have := i1.mp q
        have := j1 this
        omega
      · have := i2.mp q
        have := j2 this
        omega
    have fY : pz_rx D y x l x < 10000 ∧ pz_rx D y x l x ≤ c + 12 := by
      rw [rY]
      rcases hor with q | q
      · have := i1.mp q
        have := j1 this
        omega
      · have := i2.mp q
        have := j2 this
        omega
    refine ⟨e1, fun z hz6 => ?_, fun z hz => ?_, fun z => Nat.le_trans (pz_rx_le hxy z) (h4 z)⟩
    · rw [e2 z hz6]
      by_cases za : z = y
      · subst za
        exact ⟨fun _ => fX.1, fun _ => Or.inr (Or.inr rfl)⟩
      · by_cases zb : z = x
        · subst zb
          exact ⟨fun _ => fY.1, fun _ => Or.inr (Or.inl rfl)⟩
        · rw [pz_rx_z za zb, ← h2 z hz6]
          constructor
          · rintro (q | q | q)
            · exact q
            · exact absurd q zb
            · exact absurd q za
          · exact Or.inl
    · by_cases za : z = y
      · subst za
        exact fX.2
      · by_cases zb : z = x
        · subst zb
          exact fY.2
        · rw [pz_rx_z za zb] at hz ⊢
          have := h3 z hz
          omega
  · rw [if_neg hz]
    have hno : ¬ (pz_bt P x = 1 ∨ pz_bt P y = 1) := fun q => hz (e0.mpr q)
    have n1 : ¬ D x < 10000 := fun q => hno (Or.inl (i1.mpr q))
    have n2 : ¬ D y < 10000 := fun q => hno (Or.inr (i2.mpr q))
    have e : pz_rx D y x l = D := by
      funext z
      by_cases za : z = y
      · subst za
        rw [rX]
        exact Nat.min_eq_left (by omega)
      · by_cases zb : z = x
        · subst zb
          rw [rY]
          refine Nat.min_eq_left ?_
          rw [Nat.min_eq_left (by omega)]
          omega
        · exact pz_rx_z za zb
    rw [e]
    exact ⟨h1, h2, fun z hz => by have := h3 z hz; omega, h4⟩
theorem pz_iv_mono {P : Nat} {D : Nat → Nat} {c c' : Nat} (hc : c ≤ c') (h : pz_iv P D c) : pz_iv P D c' := ⟨h.1, h.2.1, fun x hx => Nat.le_trans (h.2.2.1 x hx) hc, h.2.2.2⟩
theorem pz_iv_rd {A : pz_A} {ck v P c : Nat} {D : Nat → Nat} (hA : pz_wf ck A) (hc : c < 5000) (h : pz_iv P D c) : ∀ k, k ≤ A 0 0 0 → pz_iv (pz_prd A v P k) (pz_rd (fun b => pz_op A b v) (fun b => A 3 b 0) (fun b => A 2 b 0) (pz_len A) D k) (c + 12 * k)
  | 0, _ => h
  | k + 1, hk => by
    have h9 := hA.2.1
    have ih := pz_iv_rd (v := v) hA hc h k (by omega)
    obtain ⟨-, a2, a3, a23, -⟩ := hA.2.2.1 k (by omega)
    have hl := pz_len_b hA (show k < A 0 0 0 by omega)
    rw [pz_prd_s, pz_rd_s]
    unfold pz_pst
    by_cases ho : pz_op A k v
    · rw [if_pos ho]
      have := pz_iv_rx (by omega) a2 a3 (fun e => a23 e.symm) hl.2 ih
      refine pz_iv_mono (show c + 12 * k + 12 ≤ c + 12 * (k + 1) by omega) ?_
      by_cases hz : pz_prd A v P k &&& (2 ^ A 2 k 0 ||| 2 ^ A 3 k 0) ≠ 0
      · rw [if_pos ⟨ho, hz⟩]
        rw [if_pos hz] at this
        exact this
      · rw [if_neg (fun q => hz q.2)]
        rw [if_neg hz] at this
        exact this
    · rw [if_neg ho, if_neg (fun q => ho q.1)]
      exact pz_iv_mono (by omega) ih
theorem pz_iv_rr {A : pz_A} {ck v P : Nat} {D : Nat → Nat} (hA : pz_wf ck A) (h : pz_iv P D 0) : ∀ r, r ≤ 5 → pz_iv (pz_prr A v P r) (pz_rr (fun b => pz_op A b v) (fun b => A 3 b 0) (fun b => A 2 b 0) (pz_len A) (A 0 0 0) D r) (108 * r)
  | 0, _ => h
  | r + 1, hr => by
    have h9 := hA.2.1
    have ih := pz_iv_rr (v := v) hA h r (by omega)
    exact pz_iv_mono (by omega) (pz_iv_rd (v := v) hA (by omega) ih (A 0 0 0) (Nat.le_refl _))
set_option maxRecDepth 100000 in
theorem pz_tp0 : ∀ p, p < 6 → 2 ^ p < 64 ∧ ∀ x, x < 6 → (pz_bt (2 ^ p) x = 1 ↔ x = p) := by decide +kernel
theorem pz_po_iv {A : pz_A} {ck v p : Nat} (hA : pz_wf ck A) (hp : p < 6) : pz_iv (pz_po A v p) (pz_T A v p) 540 := by
  obtain ⟨t1, t2⟩ := pz_tp0 p hp
  refine pz_iv_rr (v := v) hA (P := 2 ^ p) (D := pz_i0 p 10000) ⟨t1, fun x hx => ?_, fun x hx => ?_, fun x => pz_i0_le⟩ 5 (Nat.le_refl 5)
  · rw [t2 x hx]
    unfold pz_i0
    by_cases h : x = p
    · rw [if_pos h]
      exact ⟨fun _ => by decide, fun _ => h⟩
    · rw [if_neg h]
      exact ⟨fun q => absurd q h, fun q => absurd q (by decide)⟩
  · unfold pz_i0 at hx ⊢
    by_cases h : x = p
    · rw [if_pos h]
      exact Nat.le_refl 0
    · rw [if_neg h] at hx
      omega
theorem pz_po_lt {A : pz_A} {ck v p : Nat} (hA : pz_wf ck A) (hp : p < 6) : pz_po A v p < 64 := (pz_po_iv hA hp).1
theorem pz_po_bt {A : pz_A} {ck v p x : Nat} (hA : pz_wf ck A) (hp : p < 6) (hx : x < 6) : pz_bt (pz_po A v p) x = 1 ↔ pz_T A v p x < 10000 := (pz_po_iv hA hp).2.1 x hx
theorem pz_T_sym {A : pz_A} {ck v a b : Nat} (hA : pz_wf ck A) (ha : a < 6) (hb : b < 6) (h : pz_T A v a b < 10000) : pz_T A v b a < 10000 := by
  have h1 := pz_T_sp (v := v) hA ha
  have h2 := pz_T_sp (v := v) hA hb
  exact pz_sp_sym (by decide) (fun b hb => pz_len_b hA hb) h1 h2 _ b rfl h (by rw [h2.1]; decide)
section PZ51
variable {ids : List (Nat × Nat)} {I J : mm_HI} {L LC LM : mm_HL} {κ f : Nat → Nat} {A : pz_A} {k ck n g b v s p : Nat}
theorem pz_prr_lt (hA : pz_wf ck A) (hp : p < 6) {r : Nat} (hr : r ≤ 5) : pz_prr A v (2 ^ p) r < 64 := by
  obtain ⟨t1, t2⟩ := pz_tp0 p hp
  refine (pz_iv_rr (v := v) hA (P := 2 ^ p) (D := pz_i0 p 10000) ⟨t1, fun x hx => ?_, fun x hx => ?_, fun x => pz_i0_le⟩ r hr).1
  · rw [t2 x hx]
    unfold pz_i0
    by_cases h : x = p
    · rw [if_pos h]
      exact ⟨fun _ => by decide, fun _ => h⟩
    · rw [if_neg h]
      exact ⟨fun q => absurd q h, fun q => absurd q (by decide)⟩
  · unfold pz_i0 at hx ⊢
    by_cases h : x = p
    · rw [if_pos h]
      exact Nat.le_refl 0
    · rw [if_neg h] at hx
      omega
/-- a round of placesOpen -/
theorem sC70r {P r : Nat} {o6 o7 o8 : Option mm_V} (hA : pz_wf ck A) (hC : pz_C 0 A I κ) (hr : r < 6) (hP : P < 64) : ∃ o8', mm_ev 70 14 [some (.inr (.inr (4, 0))), some (.inl (nI p)), some (.inl (nI v)), some (.inl (nI (pz_os A v (A 0 0 0)))), some (.inl (nI P)), some (.inl (nI r)), o6, o7, o8] [] (ids, I, L, mm_RS κ) = mm_ev 70 79 [some (.inr (.inr (4, 0))), some (.inl (nI p)), some (.inl (nI v)), some (.inl (nI (pz_os A v (A 0 0 0)))), some (.inl (nI (pz_prd A v P (A 0 0 0)))), some (.inl (nI r)), some (.inl (nI P)), some (.inl (nI (A 0 0 0))), o8'] [] (ids, I, L, mm_RS κ) := by
  have h9 := hA.2.1
  have hos := pz_os_lt9 (A := A) (v := v) h9
  have hlt : ∀ k, k ≤ A 0 0 0 → pz_prd A v P k < 64 := by
    intro k hk
    induction k with
    | zero => exact hP
    | succ k ih =>
      have := ih (by omega)
      obtain ⟨-, a2, a3, -⟩ := hA.2.2.1 k (by omega)
      rw [pz_prd_s]
      unfold pz_pst
      by_cases hz : pz_op A k v ∧ pz_prd A v P k &&& (2 ^ A 2 k 0 ||| 2 ^ A 3 k 0) ≠ 0
      · rw [if_pos hz]
        exact (pz_en1 _ this _ a2 _ a3).1
      · rw [if_neg hz]
        exact this
  have hl := pz_loopJ (fun k (j : Option mm_V) => mm_ev 70 28 [some (.inr (.inr (4, 0))), some (.inl (nI p)), some (.inl (nI v)), some (.inl (nI (pz_os A v (A 0 0 0)))), some (.inl (nI (pz_prd A v P k))), some (.inl (nI r)), some (.inl (nI P)), some (.inl (nI k)), j] [] (ids, I, L, mm_RS κ)) (A 0 0 0) (fun k j hk => ?_) o8
  · obtain ⟨j, hj⟩ := hl
    refine ⟨j, ?_⟩
    rw [b70_14]
    simp (disch := omega) only [hr, b70_21, pz_k0, pz_k1, pz_k2, pz_k3, pz_k4, pz_k5, pz_k6, pz_k7, pz_k8, pz_k9, pz_k10, pz_k16, pz_k31, pz_k63, pz_km, nI_add, pz_mul, nI_ltI, nI_eq, nI_clamp, pz_inI, Option.bind_some, Option.toList_some, Option.toList_none, List.cons_append, List.nil_append, Nat.zero_add, Nat.mul_zero, Nat.add_zero, Nat.lt_irrefl, pz_bb, pz_bTr, Bool.false_eq_true, pz_bFa, Nat.reduceEqDiff, Nat.reduceLT, ite_not, pz_mE, pz_mE2, pz_mL, pz_mG, not_true_eq_false, not_false_eq_true, if_true, if_false, reduceIte, eq_self, true_or, or_true, or_false, false_or, and_true, true_and, and_false, false_and]
    refine Eq.trans hj ?_
    rw [b70_28]
    simp (disch := omega) only [hC.1, pz_k0, pz_k1, pz_k2, pz_k3, pz_k4, pz_k5, pz_k6, pz_k7, pz_k8, pz_k9, pz_k10, pz_k16, pz_k31, pz_k63, pz_km, nI_add, pz_mul, nI_ltI, nI_eq, nI_clamp, pz_inI, Option.bind_some, Option.toList_some, Option.toList_none, List.cons_append, List.nil_append, Nat.zero_add, Nat.mul_zero, Nat.add_zero, Nat.lt_irrefl, pz_bb, pz_bTr, Bool.false_eq_true, pz_bFa, Nat.reduceEqDiff, Nat.reduceLT, ite_not, pz_mE, pz_mE2, pz_mL, pz_mG, not_true_eq_false, not_false_eq_true, if_true, if_false, reduceIte, eq_self, true_or, or_true, or_false, false_or, and_true, true_and, and_false, false_and]
  · try dsimp only
    have hPk := hlt k (by omega)
    obtain ⟨-, a2, a3, -⟩ := hA.2.2.1 k hk
    have hbt := pz_bt2 (v := pz_os A v (A 0 0 0)) (s := k)
    have hbi := pz_os_bit (A := A) (v := v) (A 0 0 0) k hk
    have hen := (pz_en1 _ hPk _ a2 _ a3).1
    have hE : 2 ^ A 2 k 0 ||| 2 ^ A 3 k 0 < 64 := pz_orlt (n := 6) (Nat.pow_lt_pow_right (by decide) a2) (Nat.pow_lt_pow_right (by decide) a3)
    have hnd : pz_prd A v P k &&& (2 ^ A 2 k 0 ||| 2 ^ A 3 k 0) < 64 := Nat.lt_of_le_of_lt Nat.and_le_left hPk
    refine ⟨some (.inl (nI (2 ^ A 2 k 0 ||| 2 ^ A 3 k 0))), ?_⟩
    rw [pz_prd_s]
    unfold pz_pst
    by_cases ho : pz_op A k v
    · have h1 := hbi.mpr ho
      have hqi : (nI (pz_prd A v P k) &&& nI (2 ^ A 2 k 0 ||| 2 ^ A 3 k 0)) = nI 0 ↔ pz_prd A v P k &&& (2 ^ A 2 k 0 ||| 2 ^ A 3 k 0) = 0 := by
        rw [pz_and]
        exact nI_eq (Nat.lt_trans hnd (by decide)) (by decide)
      by_cases hz : pz_prd A v P k &&& (2 ^ A 2 k 0 ||| 2 ^ A 3 k 0) = 0
      · rw [if_neg (fun q => q.2 hz), b70_28]
        simp (disch := omega) only [hC.1, hk, b70_37, show k < 9 by omega, b70_44, sC81 hA hC hk, b70_47, pz_bit, h1, b70_58, hqi.mpr hz, b70_73, pz_k0, pz_k1, pz_k2, pz_k3, pz_k4, pz_k5, pz_k6, pz_k7, pz_k8, pz_k9, pz_k10, pz_k16, pz_k31, pz_k63, pz_km, nI_add, pz_mul, nI_ltI, nI_eq, nI_clamp, pz_inI, Option.bind_some, Option.toList_some, Option.toList_none, List.cons_append, List.nil_append, Nat.zero_add, Nat.mul_zero, Nat.add_zero, Nat.lt_irrefl, pz_bb, pz_bTr, Bool.false_eq_true, pz_bFa, Nat.reduceEqDiff, Nat.reduceLT, ite_not, pz_mE, pz_mE2, pz_mL, pz_mG, not_true_eq_false, not_false_eq_true, if_true, if_false, reduceIte, eq_self, true_or, or_true, or_false, false_or, and_true, true_and, and_false, false_and]
      · rw [if_pos ⟨ho, hz⟩, b70_28]
        simp (disch := omega) only [hC.1, hk, b70_37, show k < 9 by omega, b70_44, sC81 hA hC hk, b70_47, pz_bit, h1, b70_58, show ¬ (nI (pz_prd A v P k) &&& nI (2 ^ A 2 k 0 ||| 2 ^ A 3 k 0)) = nI 0 from fun q => hz (hqi.mp q), b70_66, pz_or, b70_73, pz_k0, pz_k1, pz_k2, pz_k3, pz_k4, pz_k5, pz_k6, pz_k7, pz_k8, pz_k9, pz_k10, pz_k16, pz_k31, pz_k63, pz_km, nI_add, pz_mul, nI_ltI, nI_eq, nI_clamp, pz_inI, Option.bind_some, Option.toList_some, Option.toList_none, List.cons_append, List.nil_append, Nat.zero_add, Nat.mul_zero, Nat.add_zero, Nat.lt_irrefl, pz_bb, pz_bTr, Bool.false_eq_true, pz_bFa, Nat.reduceEqDiff, Nat.reduceLT, ite_not, pz_mE, pz_mE2, pz_mL, pz_mG, not_true_eq_false, not_false_eq_true, if_true, if_false, reduceIte, eq_self, true_or, or_true, or_false, false_or, and_true, true_and, and_false, false_and]
    · have h0 : pz_bt (pz_os A v (A 0 0 0)) k = 0 := by
        have : ¬ pz_bt (pz_os A v (A 0 0 0)) k = 1 := fun z => ho (hbi.mp z)
        omega
      rw [if_neg (fun q => ho q.1), b70_28]
      simp (disch := omega) only [hC.1, hk, b70_37, show k < 9 by omega, b70_44, sC81 hA hC hk, b70_47, pz_bit, h0, b70_73, pz_k0, pz_k1, pz_k2, pz_k3, pz_k4, pz_k5, pz_k6, pz_k7, pz_k8, pz_k9, pz_k10, pz_k16, pz_k31, pz_k63, pz_km, nI_add, pz_mul, nI_ltI, nI_eq, nI_clamp, pz_inI, Option.bind_some, Option.toList_some, Option.toList_none, List.cons_append, List.nil_append, Nat.zero_add, Nat.mul_zero, Nat.add_zero, Nat.lt_irrefl, pz_bb, pz_bTr, Bool.false_eq_true, pz_bFa, Nat.reduceEqDiff, Nat.reduceLT, ite_not, pz_mE, pz_mE2, pz_mL, pz_mG, not_true_eq_false, not_false_eq_true, if_true, if_false, reduceIte, eq_self, true_or, or_true, or_false, false_or, and_true, true_and, and_false, false_and]
/-- placesOpen -/
theorem sC70 (hA : pz_wf ck A) (hC : pz_C 0 A I κ) (hp : p < 6) (hv : v < 64) : mm_ev 70 0 [some (.inr (.inr (4, 0))), some (.inl (nI p)), some (.inl (nI v)), none, none, none, none, none, none] [] (ids, I, L, mm_RS κ) = some (some (.inl (nI (pz_po A v p))), (ids, I, L, mm_RS κ)) := by
  have key : ∀ d r, r + d = 5 → ∀ o6 o7 o8 : Option mm_V, mm_ev 70 14 [some (.inr (.inr (4, 0))), some (.inl (nI p)), some (.inl (nI v)), some (.inl (nI (pz_os A v (A 0 0 0)))), some (.inl (nI (pz_prr A v (2 ^ p) r))), some (.inl (nI (r + 1))), o6, o7, o8] [] (ids, I, L, mm_RS κ) = some (some (.inl (nI (pz_po A v p))), (ids, I, L, mm_RS κ)) := by
    intro d
    induction d with
    | zero =>
      intro r hr o6 o7 o8
      have : r = 5 := by omega
      subst this
      rw [b70_14]
      simp (disch := omega) only [b70_95, pz_k0, pz_k1, pz_k2, pz_k3, pz_k4, pz_k5, pz_k6, pz_k7, pz_k8, pz_k9, pz_k10, pz_k16, pz_k31, pz_k63, pz_km, nI_add, pz_mul, nI_ltI, nI_eq, nI_clamp, pz_inI, Option.bind_some, Option.toList_some, Option.toList_none, List.cons_append, List.nil_append, Nat.zero_add, Nat.mul_zero, Nat.add_zero, Nat.lt_irrefl, pz_bb, pz_bTr, Bool.false_eq_true, pz_bFa, Nat.reduceEqDiff, Nat.reduceLT, ite_not, pz_mE, pz_mE2, pz_mL, pz_mG, not_true_eq_false, not_false_eq_true, if_true, if_false, reduceIte, eq_self, true_or, or_true, or_false, false_or, and_true, true_and, and_false, false_and]
      rfl
    | succ d ih =>
      intro r hr o6 o7 o8
      obtain ⟨o8', h1⟩ := sC70r (ids := ids) (L := L) (p := p) (v := v) (o6 := o6) (o7 := o7) (o8 := o8) (r := r + 1) hA hC (by omega) (pz_prr_lt (v := v) hA hp (show r ≤ 5 by omega))
      rw [h1, b70_79, ← pz_prr_s]
      have l1 := pz_prr_lt (v := v) hA hp (show r + 1 ≤ 5 by omega)
      have l2 := pz_prr_lt (v := v) hA hp (show r ≤ 5 by omega)
      by_cases he : pz_prr A v (2 ^ p) (r + 1) = pz_prr A v (2 ^ p) r
      · have e5 : pz_po A v p = pz_prr A v (2 ^ p) r := by
          have := pz_prr_st he (d + 1)
          rw [hr] at this
          exact this
        simp (disch := omega) only [he, b70_86, b70_95, e5, pz_k0, pz_k1, pz_k2, pz_k3, pz_k4, pz_k5, pz_k6, pz_k7, pz_k8, pz_k9, pz_k10, pz_k16, pz_k31, pz_k63, pz_km, nI_add, pz_mul, nI_ltI, nI_eq, nI_clamp, pz_inI, Option.bind_some, Option.toList_some, Option.toList_none, List.cons_append, List.nil_append, Nat.zero_add, Nat.mul_zero, Nat.add_zero, Nat.lt_irrefl, pz_bb, pz_bTr, Bool.false_eq_true, pz_bFa, Nat.reduceEqDiff, Nat.reduceLT, ite_not, pz_mE, pz_mE2, pz_mL, pz_mG, not_true_eq_false, not_false_eq_true, if_true, if_false, reduceIte, eq_self, true_or, or_true, or_false, false_or, and_true, true_and, and_false, false_and]
      · simp (disch := omega) only [he, b70_89, pz_k0, pz_k1, pz_k2, pz_k3, pz_k4, pz_k5, pz_k6, pz_k7, pz_k8, pz_k9, pz_k10, pz_k16, pz_k31, pz_k63, pz_km, nI_add, pz_mul, nI_ltI, nI_eq, nI_clamp, pz_inI, Option.bind_some, Option.toList_some, Option.toList_none, List.cons_append, List.nil_append, Nat.zero_add, Nat.mul_zero, Nat.add_zero, Nat.lt_irrefl, pz_bb, pz_bTr, Bool.false_eq_true, pz_bFa, Nat.reduceEqDiff, Nat.reduceLT, ite_not, pz_mE, pz_mE2, pz_mL, pz_mG, not_true_eq_false, not_false_eq_true, if_true, if_false, reduceIte, eq_self, true_or, or_true, or_false, false_or, and_true, true_and, and_false, false_and]
        exact ih (r + 1) (by omega) _ _ _
  rw [b70_0]
  simp (disch := omega) only [sC69 hA hC hv, b70_5, pz_one, pz_k0, pz_k1, pz_k2, pz_k3, pz_k4, pz_k5, pz_k6, pz_k7, pz_k8, pz_k9, pz_k10, pz_k16, pz_k31, pz_k63, pz_km, nI_add, pz_mul, nI_ltI, nI_eq, nI_clamp, pz_inI, Option.bind_some, Option.toList_some, Option.toList_none, List.cons_append, List.nil_append, Nat.zero_add, Nat.mul_zero, Nat.add_zero, Nat.lt_irrefl, pz_bb, pz_bTr, Bool.false_eq_true, pz_bFa, Nat.reduceEqDiff, Nat.reduceLT, ite_not, pz_mE, pz_mE2, pz_mL, pz_mG, not_true_eq_false, not_false_eq_true, if_true, if_false, reduceIte, eq_self, true_or, or_true, or_false, false_or, and_true, true_and, and_false, false_and]
  exact key 5 0 rfl none none none
end PZ51
