/-! image, restore -/
theorem pz_cp_i {I : mm_HI} {c0 i0 c1 i1 sp dp n c i : Nat} (h : c ≠ c1 ∨ i ≠ i1) : mm_cp I c0 i0 c1 i1 sp dp n c i = I c i := by
  funext j
  unfold mm_cp
  rw [if_neg]
  rintro ⟨h1, h2, -⟩
  omega
theorem pz_cp_e {I : mm_HI} {c0 i0 c1 i1 n j : Nat} (h : j < n) : mm_cp I c0 i0 c1 i1 0 0 n c1 i1 j = I c0 i0 j := by
  unfold mm_cp
  rw [if_pos ⟨rfl, rfl, Nat.zero_le _, by omega⟩, Nat.zero_add, Nat.sub_zero]
theorem pz_cpl {X : Type} (E : Nat → mm_HI → X) (c0 c1 N : Nat) (hne : c0 ≠ c1) (hstep : ∀ t j, t < N → E t j = E (t + 1) (mm_uI j c1 0 t (j c0 0 t))) (j0 : mm_HI) : ∃ j', E 0 j0 = E N j' ∧ (∀ c, c ≠ c1 → j' c = j0 c) ∧ ∀ q, q < N → j' c1 0 q = j0 c0 0 q := by
  have hl := pz_loopP E (fun t j => (∀ c, c ≠ c1 → j c = j0 c) ∧ ∀ q, q < t → j c1 0 q = j0 c0 0 q) N (fun t j ht hj => ?_) j0 ⟨fun _ _ => rfl, fun q hq => absurd hq (Nat.not_lt_zero q)⟩
  · exact hl
  · obtain ⟨g1, g2⟩ := hj
    refine ⟨_, hstep t j ht, fun c hc => by rw [pz_uI_ne hc]; exact g1 c hc, fun q hq => ?_⟩
    rw [pz_uI_at]
    by_cases e : q = t
    · rw [if_pos e, g1 c0 hne, e]
    · rw [if_neg e]
      exact g2 q (by omega)
theorem pz_cpl4 {X : Type} (E : Nat → mm_HI → X) (c0 c1 a0 a1 b0 b1 e0 e1 N : Nat) (hne : c0 ≠ c1 ∧ c0 ≠ a1 ∧ c0 ≠ b1 ∧ c0 ≠ e1 ∧ a0 ≠ c1 ∧ a0 ≠ a1 ∧ a0 ≠ b1 ∧ a0 ≠ e1 ∧ b0 ≠ c1 ∧ b0 ≠ a1 ∧ b0 ≠ b1 ∧ b0 ≠ e1 ∧ e0 ≠ c1 ∧ e0 ≠ a1 ∧ e0 ≠ b1 ∧ e0 ≠ e1 ∧ c1 ≠ a1 ∧ c1 ≠ b1 ∧ c1 ≠ e1 ∧ a1 ≠ b1 ∧ a1 ≠ e1 ∧ b1 ≠ e1) (hstep : ∀ t j, t < N → E t j = E (t + 1) (mm_uI (mm_uI (mm_uI (mm_uI j c1 0 t (j c0 0 t)) a1 0 t (j a0 0 t)) b1 0 t (j b0 0 t)) e1 0 t (j e0 0 t))) (j0 : mm_HI) : ∃ j', E 0 j0 = E N j' ∧ (∀ c, c ≠ c1 ∧ c ≠ a1 ∧ c ≠ b1 ∧ c ≠ e1 → j' c = j0 c) ∧ ∀ q, q < N → j' c1 0 q = j0 c0 0 q ∧ j' a1 0 q = j0 a0 0 q ∧ j' b1 0 q = j0 b0 0 q ∧ j' e1 0 q = j0 e0 0 q := by
  have hl := pz_loopP E (fun t j => (∀ c, c ≠ c1 ∧ c ≠ a1 ∧ c ≠ b1 ∧ c ≠ e1 → j c = j0 c) ∧ ∀ q, q < t → j c1 0 q = j0 c0 0 q ∧ j a1 0 q = j0 a0 0 q ∧ j b1 0 q = j0 b0 0 q ∧ j e1 0 q = j0 e0 0 q) N (fun t j ht hj => ?_) j0 ⟨fun _ _ => rfl, fun q hq => absurd hq (Nat.not_lt_zero q)⟩
  · exact hl
  · obtain ⟨g1, g2⟩ := hj
    refine ⟨_, hstep t j ht, fun c hc => by rw [pz_uI_ne hc.2.2.2, pz_uI_ne hc.2.2.1, pz_uI_ne hc.2.1, pz_uI_ne hc.1]; exact g1 c hc, fun q hq => ?_⟩
    obtain ⟨h1, h2, h3, h4, h5, h6, h7, h8, h9, h10, h11, h12, h13, h14, h15, h16, h17, h18, h19, h20, h21, h22⟩ := hne
    by_cases e : q = t
    · subst e
      refine ⟨?_, ?_, ?_, ?_⟩
      · rw [pz_uI_ne h19, pz_uI_ne h18, pz_uI_ne h17, pz_uI_s, g1 c0 ⟨h1, h2, h3, h4⟩]
      · rw [pz_uI_ne h21, pz_uI_ne h20, pz_uI_s, g1 a0 ⟨h5, h6, h7, h8⟩]
      · rw [pz_uI_ne h22, pz_uI_s, g1 b0 ⟨h9, h10, h11, h12⟩]
      · rw [pz_uI_s, g1 e0 ⟨h13, h14, h15, h16⟩]
    · have hq' : ∀ (I : mm_HI) (c : Nat) (z : Int32) (c' : Nat), mm_uI I c 0 t z c' 0 q = I c' 0 q := fun _ _ _ _ => pz_uI_j (Or.inr (Or.inr e))
      simp only [hq']
      exact g2 q (by omega)
section PZ60
variable {ids : List (Nat × Nat)} {I J I' J' : mm_HI} {L LC LM LC' LM' : mm_HL} {κ f f' : Nat → Nat} {A : pz_A} {k ck n n' g b v s p x y : Nat}
/-- a bridge's takeOver -/
theorem sC73 : ∃ I', mm_ev 73 0 [some (.inr (.inr (5, x))), some (.inr (.inr (5, y)))] [] (ids, I, L, mm_RS κ) = some (none, (ids, I', L, mm_RS (mm_uk κ x (κ y)))) ∧ (∀ c i, (c ≠ 17 ∧ c ≠ 18 ∧ c ≠ 19 ∧ c ≠ 21 ∧ c ≠ 117) ∨ i ≠ x → I' c i = I c i) ∧ I' 17 x 0 = I 17 y 0 ∧ I' 18 x 0 = I 18 y 0 ∧ I' 19 x 0 = I 19 y 0 ∧ I' 21 x 0 = I 21 y 0 ∧ ∀ j, j < 5 → I' 117 x j = I 117 y j := by
  refine ⟨_, by rw [b73_0, if_pos (by decide), b73_46], fun c i hc => ?_, ?_, ?_, ?_, ?_, fun j hj => ?_⟩
  · rw [pz_uI_i (by omega), pz_cp_i (by omega), pz_uI_i (by omega), pz_uI_i (by omega), pz_uI_i (by omega)]
  · rw [pz_uI_ne (by decide), pz_cp_i (Or.inl (by decide)), pz_uI_ne (by decide), pz_uI_ne (by decide), pz_uI_s]
  · rw [pz_uI_ne (by decide), pz_cp_i (Or.inl (by decide)), pz_uI_ne (by decide), pz_uI_s, pz_uI_ne (by decide)]
  · rw [pz_uI_ne (by decide), pz_cp_i (Or.inl (by decide)), pz_uI_s, pz_uI_ne (by decide), pz_uI_ne (by decide)]
  · rw [pz_uI_s, pz_cp_i (Or.inl (by decide)), pz_uI_ne (by decide), pz_uI_ne (by decide), pz_uI_ne (by decide)]
  · rw [pz_uI_ne (by decide), pz_cp_e hj, pz_uI_ne (by decide), pz_uI_ne (by decide), pz_uI_ne (by decide)]
/-- a singer's takeOver -/
theorem sC85 : ∃ I', mm_ev 85 0 [some (.inr (.inr (6, x))), some (.inr (.inr (6, y)))] [] (ids, I, L, mm_RS κ) = some (none, (ids, I', L, mm_RS κ)) ∧ (∀ c i, (¬ (22 ≤ c ∧ c ≤ 28 ∨ c = 118)) ∨ i ≠ x → I' c i = I c i) ∧ I' 22 x 0 = I 22 y 0 ∧ I' 23 x 0 = I 23 y 0 ∧ I' 24 x 0 = I 24 y 0 ∧ I' 25 x 0 = I 25 y 0 ∧ I' 26 x 0 = I 26 y 0 ∧ I' 27 x 0 = I 27 y 0 ∧ I' 28 x 0 = I 28 y 0 ∧ ∀ j, j < 6 → I' 118 x j = I 118 y j := by
  refine ⟨_, by rw [b85_0, if_pos (by decide), b85_71], fun c i hc => ?_, ?_, ?_, ?_, ?_, ?_, ?_, ?_, fun j hj => ?_⟩
  · rw [pz_cp_i (by omega), pz_uI_i (by omega), pz_uI_i (by omega), pz_uI_i (by omega), pz_uI_i (by omega), pz_uI_i (by omega), pz_uI_i (by omega), pz_uI_i (by omega)]
  · rw [pz_cp_i (Or.inl (by decide)), pz_uI_ne (by decide), pz_uI_ne (by decide), pz_uI_ne (by decide), pz_uI_ne (by decide), pz_uI_ne (by decide), pz_uI_ne (by decide), pz_uI_s]
  · rw [pz_cp_i (Or.inl (by decide)), pz_uI_ne (by decide), pz_uI_ne (by decide), pz_uI_ne (by decide), pz_uI_ne (by decide), pz_uI_ne (by decide), pz_uI_s, pz_uI_ne (by decide)]
  · rw [pz_cp_i (Or.inl (by decide)), pz_uI_ne (by decide), pz_uI_ne (by decide), pz_uI_ne (by decide), pz_uI_ne (by decide), pz_uI_s, pz_uI_ne (by decide), pz_uI_ne (by decide)]
  · rw [pz_cp_i (Or.inl (by decide)), pz_uI_ne (by decide), pz_uI_ne (by decide), pz_uI_ne (by decide), pz_uI_s, pz_uI_ne (by decide), pz_uI_ne (by decide), pz_uI_ne (by decide)]
  · rw [pz_cp_i (Or.inl (by decide)), pz_uI_ne (by decide), pz_uI_ne (by decide), pz_uI_s, pz_uI_ne (by decide), pz_uI_ne (by decide), pz_uI_ne (by decide), pz_uI_ne (by decide)]
  · rw [pz_cp_i (Or.inl (by decide)), pz_uI_ne (by decide), pz_uI_s, pz_uI_ne (by decide), pz_uI_ne (by decide), pz_uI_ne (by decide), pz_uI_ne (by decide), pz_uI_ne (by decide)]
  · rw [pz_cp_i (Or.inl (by decide)), pz_uI_s, pz_uI_ne (by decide), pz_uI_ne (by decide), pz_uI_ne (by decide), pz_uI_ne (by decide), pz_uI_ne (by decide), pz_uI_ne (by decide)]
  · rw [pz_cp_e hj, pz_uI_ne (by decide), pz_uI_ne (by decide), pz_uI_ne (by decide), pz_uI_ne (by decide), pz_uI_ne (by decide), pz_uI_ne (by decide), pz_uI_ne (by decide)]
/-- a world's takeOver -/
theorem sC61 {w0 w1 : Nat} (hw : w0 + w1 = 1) (hA : pz_wf ck A) (hC : pz_C w1 A I κ) : ∃ I' κ', mm_ev 61 0 [some (.inr (.inr (4, w0))), some (.inr (.inr (4, w1))), none] [] (ids, I, L, mm_RS κ) = some (none, (ids, I', L, mm_RS κ')) ∧ pz_C w0 A I' κ' ∧ (∀ c i, ¬ pz_kw w0 c i → I' c i = I c i) ∧ (∀ i, ¬ (9 * w0 ≤ i ∧ i < 9 * w0 + 9) → κ' i = κ i) ∧ ((∀ i, κ i < 4) → ∀ i, κ' i < 4) := by
  have n9 := hA.2.1
  have n5 := hA.2.2.2.1
  obtain ⟨c1, c2, c3, c4, c5, c6, c7⟩ := hC
  obtain ⟨I0, hI0⟩ : ∃ I0, I0 = mm_uI I 10 w0 0 (nI (A 0 0 0)) := ⟨_, rfl⟩
  have f0 : ∀ c, c ≠ 10 → I0 c = I c := fun c hc => by rw [hI0, pz_uI_ne hc]
  have l1 := pz_loopP (fun t (j : mm_HI × (Nat → Nat)) => mm_ev 61 10 [some (.inr (.inr (4, w0))), some (.inr (.inr (4, w1))), some (.inl (nI t))] [] (ids, j.1, L, mm_RS j.2)) (fun t j => (∀ c i, ((c ≠ 17 ∧ c ≠ 18 ∧ c ≠ 19 ∧ c ≠ 21 ∧ c ≠ 117) ∨ ¬ (9 * w0 ≤ i ∧ i < 9 * w0 + 9)) → j.1 c i = I0 c i) ∧ (∀ i, ¬ (9 * w0 ≤ i ∧ i < 9 * w0 + 9) → j.2 i = κ i) ∧ ((∀ i, κ i < 4) → ∀ i, j.2 i < 4) ∧ ∀ b, b < t → j.2 (9 * w0 + b) = κ (9 * w1 + b) ∧ j.1 17 (9 * w0 + b) 0 = I0 17 (9 * w1 + b) 0 ∧ j.1 18 (9 * w0 + b) 0 = I0 18 (9 * w1 + b) 0 ∧ j.1 19 (9 * w0 + b) 0 = I0 19 (9 * w1 + b) 0 ∧ j.1 21 (9 * w0 + b) 0 = I0 21 (9 * w1 + b) 0 ∧ ∀ q, q < 5 → j.1 117 (9 * w0 + b) q = I0 117 (9 * w1 + b) q) (A 0 0 0) (fun t j ht hj => ?_) (I0, κ) ⟨fun _ _ _ => rfl, fun _ _ => rfl, fun h => h, fun b hb => absurd hb (Nat.not_lt_zero b)⟩
  · obtain ⟨⟨I1, κ1⟩, s1, r1, r2, r3, r4⟩ := l1
    try dsimp only at s1 r1 r2 r3 r4
    obtain ⟨I2, hI2⟩ : ∃ I2, I2 = mm_uI I1 12 w0 0 (nI (A 6 0 0)) := ⟨_, rfl⟩
    have f2 : ∀ c, c ≠ 12 → I2 c = I1 c := fun c hc => by rw [hI2, pz_uI_ne hc]
    have l2 := pz_loopP (fun t (j : mm_HI) => mm_ev 61 49 [some (.inr (.inr (4, w0))), some (.inr (.inr (4, w1))), some (.inl (nI t))] [] (ids, j, L, mm_RS κ1)) (fun t j => (∀ c i, (¬ (22 ≤ c ∧ c ≤ 28 ∨ c = 118) ∨ ¬ (5 * w0 ≤ i ∧ i < 5 * w0 + 5)) → j c i = I2 c i) ∧ ∀ b, b < t → j 22 (5 * w0 + b) 0 = I2 22 (5 * w1 + b) 0 ∧ j 23 (5 * w0 + b) 0 = I2 23 (5 * w1 + b) 0 ∧ j 24 (5 * w0 + b) 0 = I2 24 (5 * w1 + b) 0 ∧ j 25 (5 * w0 + b) 0 = I2 25 (5 * w1 + b) 0 ∧ j 26 (5 * w0 + b) 0 = I2 26 (5 * w1 + b) 0 ∧ j 27 (5 * w0 + b) 0 = I2 27 (5 * w1 + b) 0 ∧ j 28 (5 * w0 + b) 0 = I2 28 (5 * w1 + b) 0 ∧ ∀ q, q < 6 → j 118 (5 * w0 + b) q = I2 118 (5 * w1 + b) q) (A 6 0 0) (fun t j ht hj => ?_) I2 ⟨fun _ _ _ => rfl, fun b hb => absurd hb (Nat.not_lt_zero b)⟩
    · obtain ⟨I3, s3, t1, t2⟩ := l2
      have l3 := pz_loopP (fun t (j : mm_HI) => mm_ev 61 80 [some (.inr (.inr (4, w0))), some (.inr (.inr (4, w1))), some (.inl (nI t))] [] (ids, j, L, mm_RS κ1)) (fun t j => (∀ c i, (c ≠ 115 ∨ ¬ (6 * w0 ≤ i ∧ i < 6 * w0 + 6)) → j c i = I3 c i) ∧ ∀ b, b < t → ∀ q, q < 6 → j 115 (6 * w0 + b) q = I3 115 (6 * w1 + b) q) 6 (fun t j ht hj => ?_) I3 ⟨fun _ _ _ => rfl, fun b hb => absurd hb (Nat.not_lt_zero b)⟩
      · obtain ⟨I4, s4, u1, u2⟩ := l3
        obtain ⟨I5, hI5⟩ : ∃ I5, I5 = mm_cp (mm_uI I4 15 w0 0 (I4 15 w1 0)) 116 w1 116 w0 0 0 10 := ⟨_, rfl⟩
        have z : ∀ c i, ¬ pz_kw w0 c i → I5 c i = I c i := by
          intro c i hn
          unfold pz_kw at hn
          rw [hI5, pz_cp_i (by omega), pz_uI_i (by omega), u1 c i (by omega), t1 c i (by omega), hI2, pz_uI_i (by omega), r1 c i (by omega), hI0, pz_uI_i (by omega)]
        have zB : ∀ c i, (c = 17 ∨ c = 18 ∨ c = 19 ∨ c = 21 ∨ c = 117) → I5 c i = I1 c i := by
          intro c i hc
          rw [hI5, pz_cp_i (by omega), pz_uI_i (by omega), u1 c i (by omega), t1 c i (by omega), hI2, pz_uI_i (by omega)]
        have zS : ∀ c i, (22 ≤ c ∧ c ≤ 28 ∨ c = 118) → I5 c i = I3 c i := by
          intro c i hc
          rw [hI5, pz_cp_i (by omega), pz_uI_i (by omega), u1 c i (by omega)]
        have yB : ∀ c b, b < 9 → (c = 17 ∨ c = 18 ∨ c = 19 ∨ c = 21 ∨ c = 117) → I0 c (9 * w1 + b) = I c (9 * w1 + b) := fun c b _ hc => by rw [f0 c (by omega)]
        have yS : ∀ c b, b < 5 → (22 ≤ c ∧ c ≤ 28 ∨ c = 118) → I2 c (5 * w1 + b) = I c (5 * w1 + b) := fun c b hb hc => by rw [f2 c (by omega), r1 c _ (by omega), f0 c (by omega)]
        have e10 : I5 10 w0 0 = nI (A 0 0 0) := by rw [hI5, pz_cp_i (by omega), pz_uI_i (by omega), u1 10 w0 (by omega), t1 10 w0 (by omega), f2 10 (by decide), r1 10 w0 (by omega), hI0, pz_uI_s]
        have e12 : I5 12 w0 0 = nI (A 6 0 0) := by rw [hI5, pz_cp_i (by omega), pz_uI_i (by omega), u1 12 w0 (by omega), t1 12 w0 (by omega), hI2, pz_uI_s]
        refine ⟨I5, κ1, ?_, ⟨e10, fun b hb => ?_, e12, fun s hs => ?_, fun p v hp hv => ?_, ?_, fun q hq => ?_⟩, z, r2, r3⟩
        · rw [b61_0, c1, ← hI0, pz_k0]
          refine Eq.trans s1 ?_
          try dsimp only
          have g10 : I1 10 w0 0 = nI (A 0 0 0) := by rw [r1 10 w0 (by omega), hI0, pz_uI_s]
          have g12 : I1 12 w1 0 = nI (A 6 0 0) := by rw [r1 12 w1 (by omega), f0 12 (by decide)]; exact c3
          rw [b61_10]
          simp (disch := omega) only [g10, pz_k0, pz_k1, pz_k2, pz_k3, pz_k4, pz_k5, pz_k6, pz_k7, pz_k8, pz_k9, pz_k10, pz_k16, pz_k31, pz_k63, pz_km, nI_add, pz_mul, nI_ltI, nI_eq, nI_clamp, pz_inI, Option.bind_some, Option.toList_some, Option.toList_none, List.cons_append, List.nil_append, Nat.zero_add, Nat.mul_zero, Nat.add_zero, Nat.lt_irrefl, pz_bb, pz_bTr, Bool.false_eq_true, pz_bFa, Nat.reduceEqDiff, Nat.reduceLT, ite_not, pz_mE, pz_mE2, pz_mL, pz_mG, not_true_eq_false, not_false_eq_true, if_true, if_false, reduceIte, eq_self, true_or, or_true, or_false, false_or, and_true, true_and, and_false, false_and]
          rw [b61_39, g12, ← hI2, pz_k0]
          refine Eq.trans s3 ?_
          try dsimp only
          have h12 : I3 12 w0 0 = nI (A 6 0 0) := by rw [t1 12 w0 (by omega), hI2, pz_uI_s]
          rw [b61_49]
          simp (disch := omega) only [h12, pz_k0, pz_k1, pz_k2, pz_k3, pz_k4, pz_k5, pz_k6, pz_k7, pz_k8, pz_k9, pz_k10, pz_k16, pz_k31, pz_k63, pz_km, nI_add, pz_mul, nI_ltI, nI_eq, nI_clamp, pz_inI, Option.bind_some, Option.toList_some, Option.toList_none, List.cons_append, List.nil_append, Nat.zero_add, Nat.mul_zero, Nat.add_zero, Nat.lt_irrefl, pz_bb, pz_bTr, Bool.false_eq_true, pz_bFa, Nat.reduceEqDiff, Nat.reduceLT, ite_not, pz_mE, pz_mE2, pz_mL, pz_mG, not_true_eq_false, not_false_eq_true, if_true, if_false, reduceIte, eq_self, true_or, or_true, or_false, false_or, and_true, true_and, and_false, false_and]
          rw [b61_78, pz_k0]
          refine Eq.trans s4 ?_
          try dsimp only
          rw [b61_80]
          simp (disch := omega) only [pz_k0, pz_k1, pz_k2, pz_k3, pz_k4, pz_k5, pz_k6, pz_k7, pz_k8, pz_k9, pz_k10, pz_k16, pz_k31, pz_k63, pz_km, nI_add, pz_mul, nI_ltI, nI_eq, nI_clamp, pz_inI, Option.bind_some, Option.toList_some, Option.toList_none, List.cons_append, List.nil_append, Nat.zero_add, Nat.mul_zero, Nat.add_zero, Nat.lt_irrefl, pz_bb, pz_bTr, Bool.false_eq_true, pz_bFa, Nat.reduceEqDiff, Nat.reduceLT, ite_not, pz_mE, pz_mE2, pz_mL, pz_mG, not_true_eq_false, not_false_eq_true, if_true, if_false, reduceIte, eq_self, true_or, or_true, or_false, false_or, and_true, true_and, and_false, false_and]
          rw [b61_111, if_pos (by decide), b61_134, ← hI5]
        · obtain ⟨d1, d2, d3, d4, d5, d6⟩ := c2 b hb
          obtain ⟨g1, g2, g3, g4, g5, g6⟩ := r4 b hb
          obtain ⟨-, -, -, -, -, w5, -⟩ := hA.2.2.1 b hb
          unfold pz_Cb
          rw [zB 17 _ (by omega), zB 18 _ (by omega), zB 19 _ (by omega), zB 21 _ (by omega), zB 117 _ (by omega), g1, g2, g3, g4, g5, yB 17 b (by omega) (by omega), yB 18 b (by omega) (by omega), yB 19 b (by omega) (by omega), yB 21 b (by omega) (by omega)]
          refine ⟨d1, d2, d3, d4, d5, fun j hj => ?_⟩
          rw [g6 j (by omega), yB 117 b (by omega) (by omega)]
          exact d6 j hj
        · obtain ⟨d1, d2, d3, d4, d5, d6, d7, d8⟩ := c4 s hs
          obtain ⟨g1, g2, g3, g4, g5, g6, g7, g8⟩ := t2 s hs
          unfold pz_Cs
          rw [zS 22 _ (by omega), zS 23 _ (by omega), zS 24 _ (by omega), zS 25 _ (by omega), zS 26 _ (by omega), zS 27 _ (by omega), zS 28 _ (by omega), zS 118 _ (by omega), g1, g2, g3, g4, g5, g6, g7, yS 22 s (by omega) (by omega), yS 23 s (by omega) (by omega), yS 24 s (by omega) (by omega), yS 25 s (by omega) (by omega), yS 26 s (by omega) (by omega), yS 27 s (by omega) (by omega), yS 28 s (by omega) (by omega)]
          refine ⟨d1, d2, d3, d4, d5, d6, d7, fun v hv => ?_⟩
          rw [g8 v hv, yS 118 s (by omega) (by omega)]
          exact d8 v hv
        · rw [hI5, pz_cp_i (by omega), pz_uI_i (by omega), u2 p hp v hv, t1 115 _ (by omega), f2 115 (by decide), r1 115 _ (by omega), f0 115 (by decide)]
          exact c5 p v hp hv
        · rw [hI5, pz_cp_i (by omega), pz_uI_s, u1 15 w1 (by omega), t1 15 w1 (by omega), f2 15 (by decide), r1 15 w1 (by omega), f0 15 (by decide)]
          exact c6
        · have h10 := hA.2.2.2.2.2.2.1
          rw [hI5, pz_cp_e (by omega), pz_uI_ne (by decide), u1 116 w1 (by omega), t1 116 w1 (by omega), f2 116 (by decide), r1 116 w1 (by omega), f0 116 (by decide)]
          exact c7 q hq
      · try dsimp only at hj
        try dsimp only
        obtain ⟨g1, g2⟩ := hj
        refine ⟨mm_cp j 115 (6 * w1 + t) 115 (6 * w0 + t) 0 0 6, ?_, fun c i hc => ?_, fun b hb q hq => ?_⟩
        · rw [b61_80]
          simp (disch := omega) only [ht, b61_86, b61_92, pz_k0, pz_k1, pz_k2, pz_k3, pz_k4, pz_k5, pz_k6, pz_k7, pz_k8, pz_k9, pz_k10, pz_k16, pz_k31, pz_k63, pz_km, nI_add, pz_mul, nI_ltI, nI_eq, nI_clamp, pz_inI, Option.bind_some, Option.toList_some, Option.toList_none, List.cons_append, List.nil_append, Nat.zero_add, Nat.mul_zero, Nat.add_zero, Nat.lt_irrefl, pz_bb, pz_bTr, Bool.false_eq_true, pz_bFa, Nat.reduceEqDiff, Nat.reduceLT, ite_not, pz_mE, pz_mE2, pz_mL, pz_mG, not_true_eq_false, not_false_eq_true, if_true, if_false, reduceIte, eq_self, true_or, or_true, or_false, false_or, and_true, true_and, and_false, false_and]
          rw [b61_99]
          simp (disch := omega) only [Nat.le_refl, pz_k0, pz_k1, pz_k2, pz_k3, pz_k4, pz_k5, pz_k6, pz_k7, pz_k8, pz_k9, pz_k10, pz_k16, pz_k31, pz_k63, pz_km, nI_add, pz_mul, nI_ltI, nI_eq, nI_clamp, pz_inI, Option.bind_some, Option.toList_some, Option.toList_none, List.cons_append, List.nil_append, Nat.zero_add, Nat.mul_zero, Nat.add_zero, Nat.lt_irrefl, pz_bb, pz_bTr, Bool.false_eq_true, pz_bFa, Nat.reduceEqDiff, Nat.reduceLT, ite_not, pz_mE, pz_mE2, pz_mL, pz_mG, not_true_eq_false, not_false_eq_true, if_true, if_false, reduceIte, eq_self, true_or, or_true, or_false, false_or, and_true, true_and, and_false, false_and]
          rw [b61_105]
          simp (disch := omega) only [pz_k0, pz_k1, pz_k2, pz_k3, pz_k4, pz_k5, pz_k6, pz_k7, pz_k8, pz_k9, pz_k10, pz_k16, pz_k31, pz_k63, pz_km, nI_add, pz_mul, nI_ltI, nI_eq, nI_clamp, pz_inI, Option.bind_some, Option.toList_some, Option.toList_none, List.cons_append, List.nil_append, Nat.zero_add, Nat.mul_zero, Nat.add_zero, Nat.lt_irrefl, pz_bb, pz_bTr, Bool.false_eq_true, pz_bFa, Nat.reduceEqDiff, Nat.reduceLT, ite_not, pz_mE, pz_mE2, pz_mL, pz_mG, not_true_eq_false, not_false_eq_true, if_true, if_false, reduceIte, eq_self, true_or, or_true, or_false, false_or, and_true, true_and, and_false, false_and]
        · rw [pz_cp_i (by omega)]
          exact g1 c i hc
        · by_cases e : b = t
          · rw [e, pz_cp_e hq, g1 115 _ (by omega)]
          · rw [pz_cp_i (by omega)]
            exact g2 b (by omega) q hq
    · try dsimp only at hj
      try dsimp only
      obtain ⟨g1, g2⟩ := hj
      obtain ⟨j', m0, m1, m2, m3, m4, m5, m6, m7, m8, m9⟩ := sC85 (ids := ids) (I := j) (L := L) (κ := κ1) (x := 5 * w0 + t) (y := 5 * w1 + t)
      have h12 : j 12 w0 0 = nI (A 6 0 0) := by rw [g1 12 w0 (by omega), hI2, pz_uI_s]
      refine ⟨j', ?_, fun c i hc => ?_, fun b hb => ?_⟩
      · rw [b61_49]
        simp (disch := omega) only [h12, ht, b61_57, show t < 5 by omega, b61_63, b61_69, m0, b61_72, pz_k0, pz_k1, pz_k2, pz_k3, pz_k4, pz_k5, pz_k6, pz_k7, pz_k8, pz_k9, pz_k10, pz_k16, pz_k31, pz_k63, pz_km, nI_add, pz_mul, nI_ltI, nI_eq, nI_clamp, pz_inI, Option.bind_some, Option.toList_some, Option.toList_none, List.cons_append, List.nil_append, Nat.zero_add, Nat.mul_zero, Nat.add_zero, Nat.lt_irrefl, pz_bb, pz_bTr, Bool.false_eq_true, pz_bFa, Nat.reduceEqDiff, Nat.reduceLT, ite_not, pz_mE, pz_mE2, pz_mL, pz_mG, not_true_eq_false, not_false_eq_true, if_true, if_false, reduceIte, eq_self, true_or, or_true, or_false, false_or, and_true, true_and, and_false, false_and]
      · rw [m1 c i (by omega)]
        exact g1 c i hc
      · by_cases e : b = t
        · rw [e, m2, m3, m4, m5, m6, m7, m8, g1 22 (5 * w1 + t) (by omega), g1 23 (5 * w1 + t) (by omega), g1 24 (5 * w1 + t) (by omega), g1 25 (5 * w1 + t) (by omega), g1 26 (5 * w1 + t) (by omega), g1 27 (5 * w1 + t) (by omega), g1 28 (5 * w1 + t) (by omega)]
          refine ⟨rfl, rfl, rfl, rfl, rfl, rfl, rfl, fun q hq => ?_⟩
          rw [m9 q hq, g1 118 (5 * w1 + t) (by omega)]
        · rw [m1 22 _ (by omega), m1 23 _ (by omega), m1 24 _ (by omega), m1 25 _ (by omega), m1 26 _ (by omega), m1 27 _ (by omega), m1 28 _ (by omega), m1 118 _ (by omega)]
          exact g2 b (by omega)
  · try dsimp only at hj
    try dsimp only
    obtain ⟨g1, g2, g3, g4⟩ := hj
    obtain ⟨j', m0, m1, m2, m3, m4, m5, m6⟩ := sC73 (ids := ids) (I := j.1) (L := L) (κ := j.2) (x := 9 * w0 + t) (y := 9 * w1 + t)
    have h10 : j.1 10 w0 0 = nI (A 0 0 0) := by rw [g1 10 w0 (by omega), hI0, pz_uI_s]
    refine ⟨(j', mm_uk j.2 (9 * w0 + t) (j.2 (9 * w1 + t))), ?_, fun c i hc => ?_, fun i hi => ?_, fun hκ i => ?_, fun b hb => ?_⟩
    · rw [b61_10]
      simp (disch := omega) only [h10, ht, b61_18, show t < 9 by omega, b61_24, b61_30, m0, b61_33, pz_k0, pz_k1, pz_k2, pz_k3, pz_k4, pz_k5, pz_k6, pz_k7, pz_k8, pz_k9, pz_k10, pz_k16, pz_k31, pz_k63, pz_km, nI_add, pz_mul, nI_ltI, nI_eq, nI_clamp, pz_inI, Option.bind_some, Option.toList_some, Option.toList_none, List.cons_append, List.nil_append, Nat.zero_add, Nat.mul_zero, Nat.add_zero, Nat.lt_irrefl, pz_bb, pz_bTr, Bool.false_eq_true, pz_bFa, Nat.reduceEqDiff, Nat.reduceLT, ite_not, pz_mE, pz_mE2, pz_mL, pz_mG, not_true_eq_false, not_false_eq_true, if_true, if_false, reduceIte, eq_self, true_or, or_true, or_false, false_or, and_true, true_and, and_false, false_and]
    · show j' c i = I0 c i
      rw [m1 c i (by omega)]
      exact g1 c i hc
    · show mm_uk j.2 (9 * w0 + t) (j.2 (9 * w1 + t)) i = κ i
      unfold mm_uk
      rw [if_neg (by omega)]
      exact g2 i hi
    · show mm_uk j.2 (9 * w0 + t) (j.2 (9 * w1 + t)) i < 4
      unfold mm_uk
      split
      · exact g3 hκ _
      · exact g3 hκ _
    · show mm_uk j.2 (9 * w0 + t) (j.2 (9 * w1 + t)) (9 * w0 + b) = κ (9 * w1 + b) ∧ j' 17 (9 * w0 + b) 0 = I0 17 (9 * w1 + b) 0 ∧ j' 18 (9 * w0 + b) 0 = I0 18 (9 * w1 + b) 0 ∧ j' 19 (9 * w0 + b) 0 = I0 19 (9 * w1 + b) 0 ∧ j' 21 (9 * w0 + b) 0 = I0 21 (9 * w1 + b) 0 ∧ ∀ q, q < 5 → j' 117 (9 * w0 + b) q = I0 117 (9 * w1 + b) q
      unfold mm_uk
      by_cases e : b = t
      · rw [e, m2, m3, m4, m5, g1 17 (9 * w1 + t) (by omega), g1 18 (9 * w1 + t) (by omega), g1 19 (9 * w1 + t) (by omega), g1 21 (9 * w1 + t) (by omega), if_pos rfl]
        refine ⟨g2 _ (by omega), rfl, rfl, rfl, rfl, fun q hq => ?_⟩
        rw [m6 q hq, g1 117 (9 * w1 + t) (by omega)]
      · rw [m1 17 _ (by omega), m1 18 _ (by omega), m1 19 _ (by omega), m1 21 _ (by omega), m1 117 _ (by omega), if_neg (by omega)]
        exact g4 b (by omega)
theorem sM168s : ∃ J', mm_ev 168 5 [some (.inr (.inr (9, 0))), none] [] (mm_idM, J, LM, mm_RM) = some (some (.inl (J' 47 0 0)), (mm_idM, J', LM, mm_RM)) ∧ (∀ c, c ≠ 74 ∧ c ≠ 75 ∧ c ≠ 76 ∧ c ≠ 139 ∧ c ≠ 140 ∧ c ≠ 141 ∧ c ≠ 142 ∧ c ≠ 143 ∧ c ≠ 144 ∧ c ≠ 145 ∧ c ≠ 146 → J' c = J c) ∧ J' 74 0 0 = J 41 0 0 ∧ J' 75 0 0 = J 47 0 0 ∧ J' 76 0 0 = J 57 0 0 ∧ (∀ q, q < 45 → J' 139 0 q = J 125 0 q) ∧ (∀ q, q < 5 → J' 140 0 q = J 126 0 q ∧ J' 141 0 q = J 127 0 q ∧ J' 142 0 q = J 128 0 q ∧ J' 143 0 q = J 131 0 q) ∧ (∀ q, q < 30 → J' 144 0 q = J 132 0 q) ∧ (∀ q, q < 36 → J' 145 0 q = J 133 0 q) ∧ ∀ q, q < 10 → J' 146 0 q = J 134 0 q := by
  obtain ⟨J0, hJ0⟩ : ∃ J0, J0 = mm_uI (mm_uI (mm_uI J 74 0 0 (J 41 0 0)) 75 0 0 (J 47 0 0)) 76 0 0 (J 57 0 0) := ⟨_, rfl⟩
  obtain ⟨J1, s1, f1, v1⟩ := pz_cpl (fun t j => mm_ev 168 31 [some (.inr (.inr (9, 0))), some (.inl (nI t))] [] (mm_idM, j, LM, mm_RM)) 125 139 45 (by decide) (fun t j ht => by
    try dsimp only
    rw [b168_31]
    simp (disch := omega) only [pz_k45, ht, b168_37, b168_48, b168_49, pz_k0, pz_k1, pz_k2, pz_k3, pz_k4, pz_k5, pz_k6, pz_k7, pz_k8, pz_k9, pz_k10, pz_k16, pz_k31, pz_k63, pz_km, nI_add, pz_mul, nI_ltI, nI_eq, nI_clamp, pz_inI, Option.bind_some, Option.toList_some, Option.toList_none, List.cons_append, List.nil_append, Nat.zero_add, Nat.mul_zero, Nat.add_zero, Nat.lt_irrefl, pz_bb, pz_bTr, Bool.false_eq_true, pz_bFa, Nat.reduceEqDiff, Nat.reduceLT, ite_not, pz_mE, pz_mE2, pz_mL, pz_mG, not_true_eq_false, not_false_eq_true, if_true, if_false, reduceIte, eq_self, true_or, or_true, or_false, false_or, and_true, true_and, and_false, false_and]) J0
  obtain ⟨J2, s2, f2, v2⟩ := pz_cpl4 (fun t j => mm_ev 168 57 [some (.inr (.inr (9, 0))), some (.inl (nI t))] [] (mm_idM, j, LM, mm_RM)) 126 140 127 141 128 142 131 143 5 (by decide) (fun t j ht => by
    try dsimp only
    rw [b168_57]
    simp (disch := omega) only [ht, pz_uI_j, b168_62, b168_73, b168_74, b168_85, b168_86, b168_97, b168_98, b168_109, b168_110, pz_k0, pz_k1, pz_k2, pz_k3, pz_k4, pz_k5, pz_k6, pz_k7, pz_k8, pz_k9, pz_k10, pz_k16, pz_k31, pz_k63, pz_km, nI_add, pz_mul, nI_ltI, nI_eq, nI_clamp, pz_inI, Option.bind_some, Option.toList_some, Option.toList_none, List.cons_append, List.nil_append, Nat.zero_add, Nat.mul_zero, Nat.add_zero, Nat.lt_irrefl, pz_bb, pz_bTr, Bool.false_eq_true, pz_bFa, Nat.reduceEqDiff, Nat.reduceLT, ite_not, pz_mE, pz_mE2, pz_mL, pz_mG, not_true_eq_false, not_false_eq_true, if_true, if_false, reduceIte, eq_self, true_or, or_true, or_false, false_or, and_true, true_and, and_false, false_and]) J1
  obtain ⟨J3, s3, f3, v3⟩ := pz_cpl (fun t j => mm_ev 168 118 [some (.inr (.inr (9, 0))), some (.inl (nI t))] [] (mm_idM, j, LM, mm_RM)) 132 144 30 (by decide) (fun t j ht => by
    try dsimp only
    rw [b168_118]
    simp (disch := omega) only [pz_k30, ht, b168_124, b168_135, b168_136, pz_k0, pz_k1, pz_k2, pz_k3, pz_k4, pz_k5, pz_k6, pz_k7, pz_k8, pz_k9, pz_k10, pz_k16, pz_k31, pz_k63, pz_km, nI_add, pz_mul, nI_ltI, nI_eq, nI_clamp, pz_inI, Option.bind_some, Option.toList_some, Option.toList_none, List.cons_append, List.nil_append, Nat.zero_add, Nat.mul_zero, Nat.add_zero, Nat.lt_irrefl, pz_bb, pz_bTr, Bool.false_eq_true, pz_bFa, Nat.reduceEqDiff, Nat.reduceLT, ite_not, pz_mE, pz_mE2, pz_mL, pz_mG, not_true_eq_false, not_false_eq_true, if_true, if_false, reduceIte, eq_self, true_or, or_true, or_false, false_or, and_true, true_and, and_false, false_and]) J2
  obtain ⟨J4, s4, f4, v4⟩ := pz_cpl (fun t j => mm_ev 168 144 [some (.inr (.inr (9, 0))), some (.inl (nI t))] [] (mm_idM, j, LM, mm_RM)) 133 145 36 (by decide) (fun t j ht => by
    try dsimp only
    rw [b168_144]
    simp (disch := omega) only [pz_k36, ht, b168_150, b168_161, b168_162, pz_k0, pz_k1, pz_k2, pz_k3, pz_k4, pz_k5, pz_k6, pz_k7, pz_k8, pz_k9, pz_k10, pz_k16, pz_k31, pz_k63, pz_km, nI_add, pz_mul, nI_ltI, nI_eq, nI_clamp, pz_inI, Option.bind_some, Option.toList_some, Option.toList_none, List.cons_append, List.nil_append, Nat.zero_add, Nat.mul_zero, Nat.add_zero, Nat.lt_irrefl, pz_bb, pz_bTr, Bool.false_eq_true, pz_bFa, Nat.reduceEqDiff, Nat.reduceLT, ite_not, pz_mE, pz_mE2, pz_mL, pz_mG, not_true_eq_false, not_false_eq_true, if_true, if_false, reduceIte, eq_self, true_or, or_true, or_false, false_or, and_true, true_and, and_false, false_and]) J3
  obtain ⟨J5, s5, f5, v5⟩ := pz_cpl (fun t j => mm_ev 168 170 [some (.inr (.inr (9, 0))), some (.inl (nI t))] [] (mm_idM, j, LM, mm_RM)) 134 146 10 (by decide) (fun t j ht => by
    try dsimp only
    rw [b168_170]
    simp (disch := omega) only [ht, b168_176, b168_187, b168_188, pz_k0, pz_k1, pz_k2, pz_k3, pz_k4, pz_k5, pz_k6, pz_k7, pz_k8, pz_k9, pz_k10, pz_k16, pz_k31, pz_k63, pz_km, nI_add, pz_mul, nI_ltI, nI_eq, nI_clamp, pz_inI, Option.bind_some, Option.toList_some, Option.toList_none, List.cons_append, List.nil_append, Nat.zero_add, Nat.mul_zero, Nat.add_zero, Nat.lt_irrefl, pz_bb, pz_bTr, Bool.false_eq_true, pz_bFa, Nat.reduceEqDiff, Nat.reduceLT, ite_not, pz_mE, pz_mE2, pz_mL, pz_mG, not_true_eq_false, not_false_eq_true, if_true, if_false, reduceIte, eq_self, true_or, or_true, or_false, false_or, and_true, true_and, and_false, false_and]) J4
  refine ⟨J5, ?_, fun c hc => ?_, ?_, ?_, ?_, fun q hq => ?_, fun q hq => ?_, fun q hq => ?_, fun q hq => ?_, fun q hq => ?_⟩
  · rw [b168_5, pz_uI_ne (by decide), pz_uI_ne (by decide), pz_uI_ne (by decide), ← hJ0, pz_k0]
    refine Eq.trans s1 ?_
    try dsimp only
    rw [b168_31, pz_k45]
    simp (disch := omega) only [b168_55, pz_k0, pz_k1, pz_k2, pz_k3, pz_k4, pz_k5, pz_k6, pz_k7, pz_k8, pz_k9, pz_k10, pz_k16, pz_k31, pz_k63, pz_km, nI_add, pz_mul, nI_ltI, nI_eq, nI_clamp, pz_inI, Option.bind_some, Option.toList_some, Option.toList_none, List.cons_append, List.nil_append, Nat.zero_add, Nat.mul_zero, Nat.add_zero, Nat.lt_irrefl, pz_bb, pz_bTr, Bool.false_eq_true, pz_bFa, Nat.reduceEqDiff, Nat.reduceLT, ite_not, pz_mE, pz_mE2, pz_mL, pz_mG, not_true_eq_false, not_false_eq_true, if_true, if_false, reduceIte, eq_self, true_or, or_true, or_false, false_or, and_true, true_and, and_false, false_and]
    refine Eq.trans s2 ?_
    try dsimp only
    rw [b168_57]
    simp (disch := omega) only [b168_116, pz_k0, pz_k1, pz_k2, pz_k3, pz_k4, pz_k5, pz_k6, pz_k7, pz_k8, pz_k9, pz_k10, pz_k16, pz_k31, pz_k63, pz_km, nI_add, pz_mul, nI_ltI, nI_eq, nI_clamp, pz_inI, Option.bind_some, Option.toList_some, Option.toList_none, List.cons_append, List.nil_append, Nat.zero_add, Nat.mul_zero, Nat.add_zero, Nat.lt_irrefl, pz_bb, pz_bTr, Bool.false_eq_true, pz_bFa, Nat.reduceEqDiff, Nat.reduceLT, ite_not, pz_mE, pz_mE2, pz_mL, pz_mG, not_true_eq_false, not_false_eq_true, if_true, if_false, reduceIte, eq_self, true_or, or_true, or_false, false_or, and_true, true_and, and_false, false_and]
    refine Eq.trans s3 ?_
    try dsimp only
    rw [b168_118, pz_k30]
    simp (disch := omega) only [b168_142, pz_k0, pz_k1, pz_k2, pz_k3, pz_k4, pz_k5, pz_k6, pz_k7, pz_k8, pz_k9, pz_k10, pz_k16, pz_k31, pz_k63, pz_km, nI_add, pz_mul, nI_ltI, nI_eq, nI_clamp, pz_inI, Option.bind_some, Option.toList_some, Option.toList_none, List.cons_append, List.nil_append, Nat.zero_add, Nat.mul_zero, Nat.add_zero, Nat.lt_irrefl, pz_bb, pz_bTr, Bool.false_eq_true, pz_bFa, Nat.reduceEqDiff, Nat.reduceLT, ite_not, pz_mE, pz_mE2, pz_mL, pz_mG, not_true_eq_false, not_false_eq_true, if_true, if_false, reduceIte, eq_self, true_or, or_true, or_false, false_or, and_true, true_and, and_false, false_and]
    refine Eq.trans s4 ?_
    try dsimp only
    rw [b168_144, pz_k36]
    simp (disch := omega) only [b168_168, pz_k0, pz_k1, pz_k2, pz_k3, pz_k4, pz_k5, pz_k6, pz_k7, pz_k8, pz_k9, pz_k10, pz_k16, pz_k31, pz_k63, pz_km, nI_add, pz_mul, nI_ltI, nI_eq, nI_clamp, pz_inI, Option.bind_some, Option.toList_some, Option.toList_none, List.cons_append, List.nil_append, Nat.zero_add, Nat.mul_zero, Nat.add_zero, Nat.lt_irrefl, pz_bb, pz_bTr, Bool.false_eq_true, pz_bFa, Nat.reduceEqDiff, Nat.reduceLT, ite_not, pz_mE, pz_mE2, pz_mL, pz_mG, not_true_eq_false, not_false_eq_true, if_true, if_false, reduceIte, eq_self, true_or, or_true, or_false, false_or, and_true, true_and, and_false, false_and]
    refine Eq.trans s5 ?_
    try dsimp only
    rw [b168_170]
    simp (disch := omega) only [b168_194, pz_k0, pz_k1, pz_k2, pz_k3, pz_k4, pz_k5, pz_k6, pz_k7, pz_k8, pz_k9, pz_k10, pz_k16, pz_k31, pz_k63, pz_km, nI_add, pz_mul, nI_ltI, nI_eq, nI_clamp, pz_inI, Option.bind_some, Option.toList_some, Option.toList_none, List.cons_append, List.nil_append, Nat.zero_add, Nat.mul_zero, Nat.add_zero, Nat.lt_irrefl, pz_bb, pz_bTr, Bool.false_eq_true, pz_bFa, Nat.reduceEqDiff, Nat.reduceLT, ite_not, pz_mE, pz_mE2, pz_mL, pz_mG, not_true_eq_false, not_false_eq_true, if_true, if_false, reduceIte, eq_self, true_or, or_true, or_false, false_or, and_true, true_and, and_false, false_and]
  · rw [f5 c (by omega), f4 c (by omega), f3 c (by omega), f2 c (by omega), f1 c (by omega), hJ0, pz_uI_ne (by omega), pz_uI_ne (by omega), pz_uI_ne (by omega)]
  · rw [f5 74 (by decide), f4 74 (by decide), f3 74 (by decide), f2 74 (by decide), f1 74 (by decide), hJ0, pz_uI_ne (by decide), pz_uI_ne (by decide), pz_uI_s]
  · rw [f5 75 (by decide), f4 75 (by decide), f3 75 (by decide), f2 75 (by decide), f1 75 (by decide), hJ0, pz_uI_ne (by decide), pz_uI_s]
  · rw [f5 76 (by decide), f4 76 (by decide), f3 76 (by decide), f2 76 (by decide), f1 76 (by decide), hJ0, pz_uI_s]
  · rw [f5 139 (by decide), f4 139 (by decide), f3 139 (by decide), f2 139 (by decide), v1 q hq, hJ0, pz_uI_ne (by decide), pz_uI_ne (by decide), pz_uI_ne (by decide)]
  · obtain ⟨w1, w2, w3, w4⟩ := v2 q hq
    refine ⟨?_, ?_, ?_, ?_⟩
    · rw [f5 140 (by decide), f4 140 (by decide), f3 140 (by decide), w1, f1 126 (by decide), hJ0, pz_uI_ne (by decide), pz_uI_ne (by decide), pz_uI_ne (by decide)]
    · rw [f5 141 (by decide), f4 141 (by decide), f3 141 (by decide), w2, f1 127 (by decide), hJ0, pz_uI_ne (by decide), pz_uI_ne (by decide), pz_uI_ne (by decide)]
    · rw [f5 142 (by decide), f4 142 (by decide), f3 142 (by decide), w3, f1 128 (by decide), hJ0, pz_uI_ne (by decide), pz_uI_ne (by decide), pz_uI_ne (by decide)]
    · rw [f5 143 (by decide), f4 143 (by decide), f3 143 (by decide), w4, f1 131 (by decide), hJ0, pz_uI_ne (by decide), pz_uI_ne (by decide), pz_uI_ne (by decide)]
  · rw [f5 144 (by decide), f4 144 (by decide), v3 q hq, f2 132 (by decide), f1 132 (by decide), hJ0, pz_uI_ne (by decide), pz_uI_ne (by decide), pz_uI_ne (by decide)]
  · rw [f5 145 (by decide), v4 q hq, f3 133 (by decide), f2 133 (by decide), f1 133 (by decide), hJ0, pz_uI_ne (by decide), pz_uI_ne (by decide), pz_uI_ne (by decide)]
  · rw [v5 q hq, f4 134 (by decide), f3 134 (by decide), f2 134 (by decide), f1 134 (by decide), hJ0, pz_uI_ne (by decide), pz_uI_ne (by decide), pz_uI_ne (by decide)]
theorem sM169s : ∃ J', mm_ev 169 10 [some (.inr (.inr (9, 0))), none] [] (mm_idM, J, LM, mm_RM) = some (some (.inl (J' 47 0 0)), (mm_idM, J', LM, mm_RM)) ∧ (∀ c, c ≠ 41 ∧ c ≠ 47 ∧ c ≠ 57 ∧ c ≠ 125 ∧ c ≠ 126 ∧ c ≠ 127 ∧ c ≠ 128 ∧ c ≠ 131 ∧ c ≠ 132 ∧ c ≠ 133 ∧ c ≠ 134 → J' c = J c) ∧ J' 41 0 0 = J 74 0 0 ∧ J' 47 0 0 = J 75 0 0 ∧ J' 57 0 0 = J 76 0 0 ∧ (∀ q, q < 45 → J' 125 0 q = J 139 0 q) ∧ (∀ q, q < 5 → J' 126 0 q = J 140 0 q ∧ J' 127 0 q = J 141 0 q ∧ J' 128 0 q = J 142 0 q ∧ J' 131 0 q = J 143 0 q) ∧ (∀ q, q < 30 → J' 132 0 q = J 144 0 q) ∧ (∀ q, q < 36 → J' 133 0 q = J 145 0 q) ∧ ∀ q, q < 10 → J' 134 0 q = J 146 0 q := by
  obtain ⟨J0, hJ0⟩ : ∃ J0, J0 = mm_uI (mm_uI (mm_uI J 41 0 0 (J 74 0 0)) 47 0 0 (J 75 0 0)) 57 0 0 (J 76 0 0) := ⟨_, rfl⟩
  obtain ⟨J1, s1, f1, v1⟩ := pz_cpl (fun t j => mm_ev 169 36 [some (.inr (.inr (9, 0))), some (.inl (nI t))] [] (mm_idM, j, LM, mm_RM)) 139 125 45 (by decide) (fun t j ht => by
    try dsimp only
    rw [b169_36]
    simp (disch := omega) only [pz_k45, ht, b169_42, b169_53, b169_54, pz_k0, pz_k1, pz_k2, pz_k3, pz_k4, pz_k5, pz_k6, pz_k7, pz_k8, pz_k9, pz_k10, pz_k16, pz_k31, pz_k63, pz_km, nI_add, pz_mul, nI_ltI, nI_eq, nI_clamp, pz_inI, Option.bind_some, Option.toList_some, Option.toList_none, List.cons_append, List.nil_append, Nat.zero_add, Nat.mul_zero, Nat.add_zero, Nat.lt_irrefl, pz_bb, pz_bTr, Bool.false_eq_true, pz_bFa, Nat.reduceEqDiff, Nat.reduceLT, ite_not, pz_mE, pz_mE2, pz_mL, pz_mG, not_true_eq_false, not_false_eq_true, if_true, if_false, reduceIte, eq_self, true_or, or_true, or_false, false_or, and_true, true_and, and_false, false_and]) J0
  obtain ⟨J2, s2, f2, v2⟩ := pz_cpl4 (fun t j => mm_ev 169 62 [some (.inr (.inr (9, 0))), some (.inl (nI t))] [] (mm_idM, j, LM, mm_RM)) 140 126 141 127 142 128 143 131 5 (by decide) (fun t j ht => by
    try dsimp only
    rw [b169_62]
    simp (disch := omega) only [ht, pz_uI_j, b169_67, b169_78, b169_79, b169_90, b169_91, b169_102, b169_103, b169_114, b169_115, pz_k0, pz_k1, pz_k2, pz_k3, pz_k4, pz_k5, pz_k6, pz_k7, pz_k8, pz_k9, pz_k10, pz_k16, pz_k31, pz_k63, pz_km, nI_add, pz_mul, nI_ltI, nI_eq, nI_clamp, pz_inI, Option.bind_some, Option.toList_some, Option.toList_none, List.cons_append, List.nil_append, Nat.zero_add, Nat.mul_zero, Nat.add_zero, Nat.lt_irrefl, pz_bb, pz_bTr, Bool.false_eq_true, pz_bFa, Nat.reduceEqDiff, Nat.reduceLT, ite_not, pz_mE, pz_mE2, pz_mL, pz_mG, not_true_eq_false, not_false_eq_true, if_true, if_false, reduceIte, eq_self, true_or, or_true, or_false, false_or, and_true, true_and, and_false, false_and]) J1
  obtain ⟨J3, s3, f3, v3⟩ := pz_cpl (fun t j => mm_ev 169 123 [some (.inr (.inr (9, 0))), some (.inl (nI t))] [] (mm_idM, j, LM, mm_RM)) 144 132 30 (by decide) (fun t j ht => by
    try dsimp only
    rw [b169_123]
    simp (disch := omega) only [pz_k30, ht, b169_129, b169_140, b169_141, pz_k0, pz_k1, pz_k2, pz_k3, pz_k4, pz_k5, pz_k6, pz_k7, pz_k8, pz_k9, pz_k10, pz_k16, pz_k31, pz_k63, pz_km, nI_add, pz_mul, nI_ltI, nI_eq, nI_clamp, pz_inI, Option.bind_some, Option.toList_some, Option.toList_none, List.cons_append, List.nil_append, Nat.zero_add, Nat.mul_zero, Nat.add_zero, Nat.lt_irrefl, pz_bb, pz_bTr, Bool.false_eq_true, pz_bFa, Nat.reduceEqDiff, Nat.reduceLT, ite_not, pz_mE, pz_mE2, pz_mL, pz_mG, not_true_eq_false, not_false_eq_true, if_true, if_false, reduceIte, eq_self, true_or, or_true, or_false, false_or, and_true, true_and, and_false, false_and]) J2
  obtain ⟨J4, s4, f4, v4⟩ := pz_cpl (fun t j => mm_ev 169 149 [some (.inr (.inr (9, 0))), some (.inl (nI t))] [] (mm_idM, j, LM, mm_RM)) 145 133 36 (by decide) (fun t j ht => by
    try dsimp only
    rw [b169_149]
    simp (disch := omega) only [pz_k36, ht, b169_155, b169_166, b169_167, pz_k0, pz_k1, pz_k2, pz_k3, pz_k4, pz_k5, pz_k6, pz_k7, pz_k8, pz_k9, pz_k10, pz_k16, pz_k31, pz_k63, pz_km, nI_add, pz_mul, nI_ltI, nI_eq, nI_clamp, pz_inI, Option.bind_some, Option.toList_some, Option.toList_none, List.cons_append, List.nil_append, Nat.zero_add, Nat.mul_zero, Nat.add_zero, Nat.lt_irrefl, pz_bb, pz_bTr, Bool.false_eq_true, pz_bFa, Nat.reduceEqDiff, Nat.reduceLT, ite_not, pz_mE, pz_mE2, pz_mL, pz_mG, not_true_eq_false, not_false_eq_true, if_true, if_false, reduceIte, eq_self, true_or, or_true, or_false, false_or, and_true, true_and, and_false, false_and]) J3
  obtain ⟨J5, s5, f5, v5⟩ := pz_cpl (fun t j => mm_ev 169 175 [some (.inr (.inr (9, 0))), some (.inl (nI t))] [] (mm_idM, j, LM, mm_RM)) 146 134 10 (by decide) (fun t j ht => by
    try dsimp only
    rw [b169_175]
    simp (disch := omega) only [ht, b169_181, b169_192, b169_193, pz_k0, pz_k1, pz_k2, pz_k3, pz_k4, pz_k5, pz_k6, pz_k7, pz_k8, pz_k9, pz_k10, pz_k16, pz_k31, pz_k63, pz_km, nI_add, pz_mul, nI_ltI, nI_eq, nI_clamp, pz_inI, Option.bind_some, Option.toList_some, Option.toList_none, List.cons_append, List.nil_append, Nat.zero_add, Nat.mul_zero, Nat.add_zero, Nat.lt_irrefl, pz_bb, pz_bTr, Bool.false_eq_true, pz_bFa, Nat.reduceEqDiff, Nat.reduceLT, ite_not, pz_mE, pz_mE2, pz_mL, pz_mG, not_true_eq_false, not_false_eq_true, if_true, if_false, reduceIte, eq_self, true_or, or_true, or_false, false_or, and_true, true_and, and_false, false_and]) J4
  refine ⟨J5, ?_, fun c hc => ?_, ?_, ?_, ?_, fun q hq => ?_, fun q hq => ?_, fun q hq => ?_, fun q hq => ?_, fun q hq => ?_⟩
  · rw [b169_10, pz_uI_ne (by decide), pz_uI_ne (by decide), pz_uI_ne (by decide), ← hJ0, pz_k0]
    refine Eq.trans s1 ?_
    try dsimp only
    rw [b169_36, pz_k45]
    simp (disch := omega) only [b169_60, pz_k0, pz_k1, pz_k2, pz_k3, pz_k4, pz_k5, pz_k6, pz_k7, pz_k8, pz_k9, pz_k10, pz_k16, pz_k31, pz_k63, pz_km, nI_add, pz_mul, nI_ltI, nI_eq, nI_clamp, pz_inI, Option.bind_some, Option.toList_some, Option.toList_none, List.cons_append, List.nil_append, Nat.zero_add, Nat.mul_zero, Nat.add_zero, Nat.lt_irrefl, pz_bb, pz_bTr, Bool.false_eq_true, pz_bFa, Nat.reduceEqDiff, Nat.reduceLT, ite_not, pz_mE, pz_mE2, pz_mL, pz_mG, not_true_eq_false, not_false_eq_true, if_true, if_false, reduceIte, eq_self, true_or, or_true, or_false, false_or, and_true, true_and, and_false, false_and]
    refine Eq.trans s2 ?_
    try dsimp only
    rw [b169_62]
    simp (disch := omega) only [b169_121, pz_k0, pz_k1, pz_k2, pz_k3, pz_k4, pz_k5, pz_k6, pz_k7, pz_k8, pz_k9, pz_k10, pz_k16, pz_k31, pz_k63, pz_km, nI_add, pz_mul, nI_ltI, nI_eq, nI_clamp, pz_inI, Option.bind_some, Option.toList_some, Option.toList_none, List.cons_append, List.nil_append, Nat.zero_add, Nat.mul_zero, Nat.add_zero, Nat.lt_irrefl, pz_bb, pz_bTr, Bool.false_eq_true, pz_bFa, Nat.reduceEqDiff, Nat.reduceLT, ite_not, pz_mE, pz_mE2, pz_mL, pz_mG, not_true_eq_false, not_false_eq_true, if_true, if_false, reduceIte, eq_self, true_or, or_true, or_false, false_or, and_true, true_and, and_false, false_and]
    refine Eq.trans s3 ?_
    try dsimp only
    rw [b169_123, pz_k30]
    simp (disch := omega) only [b169_147, pz_k0, pz_k1, pz_k2, pz_k3, pz_k4, pz_k5, pz_k6, pz_k7, pz_k8, pz_k9, pz_k10, pz_k16, pz_k31, pz_k63, pz_km, nI_add, pz_mul, nI_ltI, nI_eq, nI_clamp, pz_inI, Option.bind_some, Option.toList_some, Option.toList_none, List.cons_append, List.nil_append, Nat.zero_add, Nat.mul_zero, Nat.add_zero, Nat.lt_irrefl, pz_bb, pz_bTr, Bool.false_eq_true, pz_bFa, Nat.reduceEqDiff, Nat.reduceLT, ite_not, pz_mE, pz_mE2, pz_mL, pz_mG, not_true_eq_false, not_false_eq_true, if_true, if_false, reduceIte, eq_self, true_or, or_true, or_false, false_or, and_true, true_and, and_false, false_and]
    refine Eq.trans s4 ?_
    try dsimp only
    rw [b169_149, pz_k36]
    simp (disch := omega) only [b169_173, pz_k0, pz_k1, pz_k2, pz_k3, pz_k4, pz_k5, pz_k6, pz_k7, pz_k8, pz_k9, pz_k10, pz_k16, pz_k31, pz_k63, pz_km, nI_add, pz_mul, nI_ltI, nI_eq, nI_clamp, pz_inI, Option.bind_some, Option.toList_some, Option.toList_none, List.cons_append, List.nil_append, Nat.zero_add, Nat.mul_zero, Nat.add_zero, Nat.lt_irrefl, pz_bb, pz_bTr, Bool.false_eq_true, pz_bFa, Nat.reduceEqDiff, Nat.reduceLT, ite_not, pz_mE, pz_mE2, pz_mL, pz_mG, not_true_eq_false, not_false_eq_true, if_true, if_false, reduceIte, eq_self, true_or, or_true, or_false, false_or, and_true, true_and, and_false, false_and]
    refine Eq.trans s5 ?_
    try dsimp only
    rw [b169_175]
    simp (disch := omega) only [b169_199, pz_k0, pz_k1, pz_k2, pz_k3, pz_k4, pz_k5, pz_k6, pz_k7, pz_k8, pz_k9, pz_k10, pz_k16, pz_k31, pz_k63, pz_km, nI_add, pz_mul, nI_ltI, nI_eq, nI_clamp, pz_inI, Option.bind_some, Option.toList_some, Option.toList_none, List.cons_append, List.nil_append, Nat.zero_add, Nat.mul_zero, Nat.add_zero, Nat.lt_irrefl, pz_bb, pz_bTr, Bool.false_eq_true, pz_bFa, Nat.reduceEqDiff, Nat.reduceLT, ite_not, pz_mE, pz_mE2, pz_mL, pz_mG, not_true_eq_false, not_false_eq_true, if_true, if_false, reduceIte, eq_self, true_or, or_true, or_false, false_or, and_true, true_and, and_false, false_and]
  · rw [f5 c (by omega), f4 c (by omega), f3 c (by omega), f2 c (by omega), f1 c (by omega), hJ0, pz_uI_ne (by omega), pz_uI_ne (by omega), pz_uI_ne (by omega)]
  · rw [f5 41 (by decide), f4 41 (by decide), f3 41 (by decide), f2 41 (by decide), f1 41 (by decide), hJ0, pz_uI_ne (by decide), pz_uI_ne (by decide), pz_uI_s]
  · rw [f5 47 (by decide), f4 47 (by decide), f3 47 (by decide), f2 47 (by decide), f1 47 (by decide), hJ0, pz_uI_ne (by decide), pz_uI_s]
  · rw [f5 57 (by decide), f4 57 (by decide), f3 57 (by decide), f2 57 (by decide), f1 57 (by decide), hJ0, pz_uI_s]
  · rw [f5 125 (by decide), f4 125 (by decide), f3 125 (by decide), f2 125 (by decide), v1 q hq, hJ0, pz_uI_ne (by decide), pz_uI_ne (by decide), pz_uI_ne (by decide)]
  · obtain ⟨w1, w2, w3, w4⟩ := v2 q hq
    refine ⟨?_, ?_, ?_, ?_⟩
    · rw [f5 126 (by decide), f4 126 (by decide), f3 126 (by decide), w1, f1 140 (by decide), hJ0, pz_uI_ne (by decide), pz_uI_ne (by decide), pz_uI_ne (by decide)]
    · rw [f5 127 (by decide), f4 127 (by decide), f3 127 (by decide), w2, f1 141 (by decide), hJ0, pz_uI_ne (by decide), pz_uI_ne (by decide), pz_uI_ne (by decide)]
    · rw [f5 128 (by decide), f4 128 (by decide), f3 128 (by decide), w3, f1 142 (by decide), hJ0, pz_uI_ne (by decide), pz_uI_ne (by decide), pz_uI_ne (by decide)]
    · rw [f5 131 (by decide), f4 131 (by decide), f3 131 (by decide), w4, f1 143 (by decide), hJ0, pz_uI_ne (by decide), pz_uI_ne (by decide), pz_uI_ne (by decide)]
  · rw [f5 132 (by decide), f4 132 (by decide), v3 q hq, f2 144 (by decide), f1 144 (by decide), hJ0, pz_uI_ne (by decide), pz_uI_ne (by decide), pz_uI_ne (by decide)]
  · rw [f5 133 (by decide), v4 q hq, f3 145 (by decide), f2 145 (by decide), f1 145 (by decide), hJ0, pz_uI_ne (by decide), pz_uI_ne (by decide), pz_uI_ne (by decide)]
  · rw [v5 q hq, f4 146 (by decide), f3 146 (by decide), f2 146 (by decide), f1 146 (by decide), hJ0, pz_uI_ne (by decide), pz_uI_ne (by decide), pz_uI_ne (by decide)]
theorem op25 (h : pz_Q k ck n g f A κ I J) : lw_two (pz_R (k + 1)) 25 168 [] (mm_idC, I, LC, mm_RS κ) (mm_idM, J, LM, mm_RM) := by
  obtain ⟨q1, q2, q3, hA, hC, hM, q7, q8, q9, q10, q11⟩ := id h
  have n9 := hA.2.1
  have n5 := hA.2.2.2.1
  obtain ⟨I1, κ1, i0, i1, i2, i3, i4⟩ := sC61 (ids := mm_idC) (L := LC) (w0 := 1) (w1 := 0) rfl hA hC
  obtain ⟨J', j0, j1, j2, j3, j4, j5, j6, j7, j8, j9⟩ := sM168s (J := mm_uI J 73 0 0 (nI 1)) (LM := LM)
  obtain ⟨I', hI'⟩ : ∃ I', I' = mm_uI I1 4 0 0 (nI 1) := ⟨_, rfl⟩
  have k0 : ∀ c i, pz_kw 0 c i → I' c i = I c i := by
    intro c i hc
    unfold pz_kw at hc
    rw [hI', pz_uI_i (by omega), i2 c i (by unfold pz_kw; omega)]
  have k1 : ∀ c i, pz_kw 1 c i → I' c i = I1 c i := by
    intro c i hc
    unfold pz_kw at hc
    rw [hI', pz_uI_i (by omega)]
  have jj : ∀ c, c ≠ 73 ∧ c ≠ 74 ∧ c ≠ 75 ∧ c ≠ 76 ∧ ¬ (139 ≤ c ∧ c ≤ 146) → J' c = J c := by
    intro c hc
    rw [j1 c (by omega), pz_uI_ne (by omega)]
  have e47 : J' 47 0 0 = nI (A 6 0 0) := by rw [jj 47 (by omega)]; exact hM.2.2.1
  have e12 : I' 12 0 0 = nI (A 6 0 0) := by rw [k0 12 0 (by unfold pz_kw; omega)]; exact hC.2.2.1
  rw [e47] at j0
  have hC0 : pz_C 0 A I' κ1 := pz_C_w hA k0 (fun b hb => i3 _ (by omega)) hC
  have hC1 : pz_C 1 A I' κ1 := pz_C_w hA k1 (fun b hb => rfl) i1
  have hM0 : pz_M A J' := pz_M_g (fun c hc => jj c (by omega)) hM
  have hMK : pz_MK A J' := by
    obtain ⟨c1, c2, c3, c4, c5, c6, c7⟩ := hM
    refine ⟨?_, fun b hb => ?_, ?_, fun s hs => ?_, fun p v hp hv => ?_, ?_, fun q hq => ?_⟩
    · rw [j2, pz_uI_ne (by decide)]
      exact c1
    · obtain ⟨d1, d2, d3, d4, d5, d6⟩ := c2 b hb
      obtain ⟨-, -, -, -, -, w5, -⟩ := hA.2.2.1 b hb
      unfold pz_Mb
      rw [jj 121 (by omega), jj 122 (by omega), jj 123 (by omega), jj 124 (by omega)]
      refine ⟨d1, d2, d3, d4, fun j hj => ?_, fun j hj1 hj2 => ?_⟩
      · rw [j5 _ (by omega), pz_uI_ne (by decide)]
        exact d5 j hj
      · rw [j5 _ (by omega), pz_uI_ne (by decide)]
        exact d6 j hj1 hj2
    · rw [j3, pz_uI_ne (by decide)]
      exact c3
    · obtain ⟨d1, d2, d3, d4, d5, d6, d7⟩ := c4 s hs
      obtain ⟨w1, w2, w3, w4⟩ := j6 s (by omega)
      unfold pz_Ms
      rw [w1, w2, w3, w4, jj 129 (by omega), jj 130 (by omega), pz_uI_ne (by decide), pz_uI_ne (by decide), pz_uI_ne (by decide), pz_uI_ne (by decide)]
      refine ⟨d1, d2, d3, d4, d5, d6, fun v hv => ?_⟩
      rw [j7 _ (by omega), pz_uI_ne (by decide)]
      exact d7 v hv
    · rw [j8 _ (by omega), pz_uI_ne (by decide)]
      exact c5 p v hp hv
    · rw [j4, pz_uI_ne (by decide)]
      exact c6
    · have h10 := hA.2.2.2.2.2.2.1
      rw [j9 q (by omega), pz_uI_ne (by decide)]
      exact c7 q hq
  refine pz_two (laC := [some (.inr (.inr (1, 0)))]) (laM := [some (.inr (.inr (9, 0))), none]) (by rw [show mm_mL 25 = 1 from by decide +kernel]; rfl) (by rw [show mm_mL 168 = 2 from by decide +kernel]; rfl) (r :=  nI (A 6 0 0)) (hC' := (mm_idC, I', LC, mm_RS κ1)) (hM' := (mm_idM, J', LM, mm_RM)) ?_ ?_ ?_
  · rw [b25_0, i0]
    simp (disch := omega) only [b25_11, pz_k0, pz_k1, pz_k2, pz_k3, pz_k4, pz_k5, pz_k6, pz_k7, pz_k8, pz_k9, pz_k10, pz_k16, pz_k31, pz_k63, pz_km, nI_add, pz_mul, nI_ltI, nI_eq, nI_clamp, pz_inI, Option.bind_some, Option.toList_some, Option.toList_none, List.cons_append, List.nil_append, Nat.zero_add, Nat.mul_zero, Nat.add_zero, Nat.lt_irrefl, pz_bb, pz_bTr, Bool.false_eq_true, pz_bFa, Nat.reduceEqDiff, Nat.reduceLT, ite_not, pz_mE, pz_mE2, pz_mL, pz_mG, not_true_eq_false, not_false_eq_true, if_true, if_false, reduceIte, eq_self, true_or, or_true, or_false, false_or, and_true, true_and, and_false, false_and]
    rw [← hI', b25_16, e12]
  · rw [b168_0, if_pos (by decide), pz_k1]
    exact j0
  · refine ⟨ck, n, 1, f, A, κ1, I', J', LC, LM, rfl, rfl, i4 q1, by omega, by rw [jj 55 (by omega)]; exact q3, hA, hC0, hM0, pz_pg_fr q7 (funext fun i => by rw [hI', pz_uI_i (by omega), i2 8 i (by unfold pz_kw; omega)]) (funext fun i => by rw [hI', pz_uI_i (by omega), i2 110 i (by unfold pz_kw; omega)]) (jj 59 (by omega)) (jj 135 (by omega)), Nat.le_refl _, by rw [hI', pz_uI_s], ?_, fun _ => ⟨A, hA, hC1, hMK, Nat.le_refl _, Nat.le_refl _⟩⟩
    rw [j1 73 (by omega), pz_uI_s]
theorem op26 (h : pz_Q k ck n g f A κ I J) : lw_two (pz_R (k + 1)) 26 169 [] (mm_idC, I, LC, mm_RS κ) (mm_idM, J, LM, mm_RM) := by
  obtain ⟨q1, q2, q3, hA, hC, hM, q7, q8, q9, q10, q11⟩ := id h
  by_cases hg : g = 0
  · rw [hg] at q9 q10
    refine pz_two (laC := [some (.inr (.inr (1, 0)))]) (laM := [some (.inr (.inr (9, 0))), none]) (by rw [show mm_mL 26 = 1 from by decide +kernel]; rfl) (by rw [show mm_mL 169 = 2 from by decide +kernel]; rfl) (r :=  -103) ?_ ?_ (pz_rd0 (LC' := LC) (LM' := LM) h)
    · rw [b26_0]
      simp (disch := omega) only [q9, b26_7, pz_k0, pz_k1, pz_k2, pz_k3, pz_k4, pz_k5, pz_k6, pz_k7, pz_k8, pz_k9, pz_k10, pz_k16, pz_k31, pz_k63, pz_km, nI_add, pz_mul, nI_ltI, nI_eq, nI_clamp, pz_inI, Option.bind_some, Option.toList_some, Option.toList_none, List.cons_append, List.nil_append, Nat.zero_add, Nat.mul_zero, Nat.add_zero, Nat.lt_irrefl, pz_bb, pz_bTr, Bool.false_eq_true, pz_bFa, Nat.reduceEqDiff, Nat.reduceLT, ite_not, pz_mE, pz_mE2, pz_mL, pz_mG, not_true_eq_false, not_false_eq_true, if_true, if_false, reduceIte, eq_self, true_or, or_true, or_false, false_or, and_true, true_and, and_false, false_and]
    · rw [b169_0]
      simp (disch := omega) only [q10, b169_7, pz_k0, pz_k1, pz_k2, pz_k3, pz_k4, pz_k5, pz_k6, pz_k7, pz_k8, pz_k9, pz_k10, pz_k16, pz_k31, pz_k63, pz_km, nI_add, pz_mul, nI_ltI, nI_eq, nI_clamp, pz_inI, Option.bind_some, Option.toList_some, Option.toList_none, List.cons_append, List.nil_append, Nat.zero_add, Nat.mul_zero, Nat.add_zero, Nat.lt_irrefl, pz_bb, pz_bTr, Bool.false_eq_true, pz_bFa, Nat.reduceEqDiff, Nat.reduceLT, ite_not, pz_mE, pz_mE2, pz_mL, pz_mG, not_true_eq_false, not_false_eq_true, if_true, if_false, reduceIte, eq_self, true_or, or_true, or_false, false_or, and_true, true_and, and_false, false_and]
  · have hg1 : g = 1 := by omega
    obtain ⟨B, b1, b2, b3, b4, b5⟩ := q11 hg1
    rw [hg1] at q9 q10
    have n9 := b1.2.1
    have n5 := b1.2.2.2.1
    obtain ⟨I', κ1, i0, i1, i2, i3, i4⟩ := sC61 (ids := mm_idC) (L := LC) (w0 := 0) (w1 := 1) rfl b1 b2
    obtain ⟨J', j0, j1, j2, j3, j4, j5, j6, j7, j8, j9⟩ := sM169s (J := J) (LM := LM)
    have k1 : ∀ c i, pz_kw 1 c i → I' c i = I c i := by
      intro c i hc
      unfold pz_kw at hc
      rw [i2 c i (by unfold pz_kw; omega)]
    have jk : ∀ c, pz_kz c = true → J' c = J c := by
      intro c hc
      unfold pz_kz at hc
      simp only [Bool.or_eq_true, beq_iff_eq] at hc
      exact j1 c (by omega)
    have e47 : J' 47 0 0 = nI (B 6 0 0) := by rw [j3]; exact b3.2.2.1
    have e12 : I' 12 0 0 = nI (B 6 0 0) := i1.2.2.1
    rw [e47] at j0
    have hC1 : pz_C 1 B I' κ1 := pz_C_w b1 k1 (fun b hb => i3 _ (by omega)) b2
    have hMK : pz_MK B J' := pz_MK_k jk (fun c b hc _ => by rw [j1 c (by omega)]) (fun c s hc _ => by rw [j1 c (by omega)]) b3
    have hM0 : pz_M B J' := by
      obtain ⟨c1, c2, c3, c4, c5, c6, c7⟩ := b3
      refine ⟨?_, fun b hb => ?_, ?_, fun s hs => ?_, fun p v hp hv => ?_, ?_, fun q hq => ?_⟩
      · rw [j2]
        exact c1
      · obtain ⟨d1, d2, d3, d4, d5, d6⟩ := c2 b hb
        obtain ⟨-, -, -, -, -, w5, -⟩ := b1.2.2.1 b hb
        unfold pz_Mb
        rw [j1 121 (by omega), j1 122 (by omega), j1 123 (by omega), j1 124 (by omega)]
        refine ⟨d1, d2, d3, d4, fun j hj => ?_, fun j hj1 hj2 => ?_⟩
        · rw [j5 _ (by omega)]
          exact d5 j hj
        · rw [j5 _ (by omega)]
          exact d6 j hj1 hj2
      · rw [j3]
        exact c3
      · obtain ⟨d1, d2, d3, d4, d5, d6, d7⟩ := c4 s hs
        obtain ⟨w1, w2, w3, w4⟩ := j6 s (by omega)
        unfold pz_Ms
        rw [w1, w2, w3, w4, j1 129 (by omega), j1 130 (by omega)]
        refine ⟨d1, d2, d3, d4, d5, d6, fun v hv => ?_⟩
        rw [j7 _ (by omega)]
        exact d7 v hv
      · rw [j8 _ (by omega)]
        exact c5 p v hp hv
      · rw [j4]
        exact c6
      · have h10 := b1.2.2.2.2.2.2.1
        rw [j9 q (by omega)]
        exact c7 q hq
    refine pz_two (laC := [some (.inr (.inr (1, 0)))]) (laM := [some (.inr (.inr (9, 0))), none]) (by rw [show mm_mL 26 = 1 from by decide +kernel]; rfl) (by rw [show mm_mL 169 = 2 from by decide +kernel]; rfl) (r :=  nI (B 6 0 0)) (hC' := (mm_idC, I', LC, mm_RS κ1)) (hM' := (mm_idM, J', LM, mm_RM)) ?_ ?_ ?_
    · rw [b26_0]
      simp (disch := omega) only [q9, b26_10, i0, pz_k0, pz_k1, pz_k2, pz_k3, pz_k4, pz_k5, pz_k6, pz_k7, pz_k8, pz_k9, pz_k10, pz_k16, pz_k31, pz_k63, pz_km, nI_add, pz_mul, nI_ltI, nI_eq, nI_clamp, pz_inI, Option.bind_some, Option.toList_some, Option.toList_none, List.cons_append, List.nil_append, Nat.zero_add, Nat.mul_zero, Nat.add_zero, Nat.lt_irrefl, pz_bb, pz_bTr, Bool.false_eq_true, pz_bFa, Nat.reduceEqDiff, Nat.reduceLT, ite_not, pz_mE, pz_mE2, pz_mL, pz_mG, not_true_eq_false, not_false_eq_true, if_true, if_false, reduceIte, eq_self, true_or, or_true, or_false, false_or, and_true, true_and, and_false, false_and]
      rw [b26_21, e12]
    · rw [b169_0]
      simp (disch := omega) only [q10, pz_k0, pz_k1, pz_k2, pz_k3, pz_k4, pz_k5, pz_k6, pz_k7, pz_k8, pz_k9, pz_k10, pz_k16, pz_k31, pz_k63, pz_km, nI_add, pz_mul, nI_ltI, nI_eq, nI_clamp, pz_inI, Option.bind_some, Option.toList_some, Option.toList_none, List.cons_append, List.nil_append, Nat.zero_add, Nat.mul_zero, Nat.add_zero, Nat.lt_irrefl, pz_bb, pz_bTr, Bool.false_eq_true, pz_bFa, Nat.reduceEqDiff, Nat.reduceLT, ite_not, pz_mE, pz_mE2, pz_mL, pz_mG, not_true_eq_false, not_false_eq_true, if_true, if_false, reduceIte, eq_self, true_or, or_true, or_false, false_or, and_true, true_and, and_false, false_and]
      exact j0
    · refine ⟨ck, n, 1, f, B, κ1, I', J', LC, LM, rfl, rfl, i4 q1, by omega, by rw [j1 55 (by omega)]; exact q3, b1, i1, hM0, pz_pg_fr q7 (funext fun i => i2 8 i (by unfold pz_kw; omega)) (funext fun i => i2 110 i (by unfold pz_kw; omega)) (j1 59 (by omega)) (j1 135 (by omega)), Nat.le_refl _, ?_, ?_, fun _ => ⟨B, b1, hC1, hMK, Nat.le_refl _, Nat.le_refl _⟩⟩
      · rw [i2 4 0 (by unfold pz_kw; omega)]
        exact q9
      · rw [j1 73 (by omega)]
        exact q10
end PZ60
