/-! the model: ways -/
theorem pz_loopJ {X J : Type} (E : Nat → J → X) : ∀ n : Nat, (∀ k j, k < n → ∃ j', E k j = E (k + 1) j') → ∀ j, ∃ j', E 0 j = E n j'
  | 0, _, j => ⟨j, rfl⟩
  | n + 1, h, j => by
    obtain ⟨j1, h1⟩ := pz_loopJ E n (fun k j hk => h k j (by omega)) j
    obtain ⟨j2, h2⟩ := h n j1 (by omega)
    exact ⟨j2, h1.trans h2⟩
theorem pz_srchJ {X J : Type} (p : Nat → Bool) (E : Nat → J → X) (r : Nat → J → X) : ∀ d k : Nat, (∀ i j, k ≤ i → i < k + d → (p i = true → ∃ j', E i j = r i j') ∧ (p i = false → ∃ j', E i j = E (i + 1) j')) → ∀ j, (pz_fnd p d k < k + d → ∃ j', E k j = r (pz_fnd p d k) j') ∧ (¬ pz_fnd p d k < k + d → ∃ j', E k j = E (k + d) j')
  | 0, k, _, j => ⟨fun h => by unfold pz_fnd at h; omega, fun _ => ⟨j, rfl⟩⟩
  | d + 1, k, h, j => by
    unfold pz_fnd
    have hk := h k j (Nat.le_refl k) (by omega)
    by_cases hp : p k = true
    · rw [if_pos hp]
      exact ⟨fun _ => hk.1 hp, fun z => absurd (by omega) z⟩
    · rw [if_neg hp]
      obtain ⟨j1, h1⟩ := hk.2 (by simpa using hp)
      have := pz_srchJ p E r d (k + 1) (fun i j a b => h i j (by omega) (by omega)) j1
      rw [show k + 1 + d = k + (d + 1) by omega] at this
      rw [h1]
      exact this
theorem pz_w_g {I : mm_HI} {c k : Nat} {D : Nat → Nat} : mm_uI (pz_w I c k D) c 0 k (nI (D k)) = pz_w I c (k + 1) D := by
  funext c' i j
  unfold mm_uI pz_w
  by_cases h : c' = c ∧ i = 0
  · obtain ⟨rfl, rfl⟩ := h
    by_cases hj : j = k
    · subst hj
      rw [if_pos ⟨rfl, rfl, rfl⟩, if_pos ⟨rfl, rfl, by omega⟩]
    · rw [if_neg (fun z => hj z.2.2)]
      by_cases hj2 : j < k
      · rw [if_pos ⟨rfl, rfl, hj2⟩, if_pos ⟨rfl, rfl, by omega⟩]
      · rw [if_neg (fun z => hj2 z.2.2), if_neg (fun z => by omega)]
  · rw [if_neg (fun z => h ⟨z.1, z.2.1⟩), if_neg (fun z => h ⟨z.1, z.2.1⟩), if_neg (fun z => h ⟨z.1, z.2.1⟩)]
theorem pz_w_0 {I : mm_HI} {c : Nat} {D : Nat → Nat} : pz_w I c 0 D = I := by
  funext c' i j
  exact if_neg (fun z => Nat.not_lt_zero _ z.2.2)
theorem pz_rx_far {D : Nat → Nat} {x y l : Nat} (h : ∀ z, D z ≤ l) (hxy : x ≠ y) : pz_rx D x y l = D := by
  funext z
  by_cases h1 : z = x
  · subst h1
    rw [pz_rx_x hxy]
    have := h z
    exact Nat.min_eq_left (by omega)
  · by_cases h2 : z = y
    · subst h2
      rw [pz_rx_y hxy]
      have := h z
      exact Nat.min_eq_left (by omega)
    · exact pz_rx_z h1 h2
section PZV
variable {ids : List (Nat × Nat)} {I : mm_HI} {L : mm_HL} {A : pz_A} {ck b v s p : Nat}
theorem sM147u {D : Nat → Nat} {o7 : Option mm_V} {q r k g x y : Nat} (hx : x < 6) (hy : y < 6) (hg : g ≤ 1048576) (hD : ∀ z, D z ≤ 1048576) : mm_ev 147 90 [some (.inr (.inr (9, 0))), some (.inl (nI q)), some (.inl (nI v)), some (.inl (nI r)), some (.inl (nI k)), some (.inl (nI g)), some (.inl (nI x)), o7] [(.inl (nI y))] (ids, pz_w I 137 6 D, L, mm_RM) = mm_ev 147 42 [some (.inr (.inr (9, 0))), some (.inl (nI q)), some (.inl (nI v)), some (.inl (nI r)), some (.inl (nI (k + 1))), some (.inl (nI g)), some (.inl (nI x)), some (.inl (nI y))] [] (ids, pz_w I 137 6 (pz_rx D x y g), L, mm_RM) := by
  have hDx := hD x
  have hDy := hD y
  have h1 : mm_ev 147 90 [some (.inr (.inr (9, 0))), some (.inl (nI q)), some (.inl (nI v)), some (.inl (nI r)), some (.inl (nI k)), some (.inl (nI g)), some (.inl (nI x)), o7] [(.inl (nI y))] (ids, pz_w I 137 6 D, L, mm_RM) = mm_ev 147 139 [some (.inr (.inr (9, 0))), some (.inl (nI q)), some (.inl (nI v)), some (.inl (nI r)), some (.inl (nI k)), some (.inl (nI g)), some (.inl (nI x)), some (.inl (nI y))] [] (ids, pz_w I 137 6 (pz_up D x (min (D x) (D y + g))), L, mm_RM) := by
    rw [b147_90]
    by_cases h : D y + g < D x
    · rw [Nat.min_eq_right (by omega)]
      simp (disch := omega) only [hx, hy, pz_w_r, b147_105, b147_115, h, b147_118, b147_125, b147_138, pz_w_u, pz_k0, pz_k1, pz_k2, pz_k3, pz_k4, pz_k5, pz_k6, pz_k7, pz_k8, pz_k9, pz_k10, pz_k16, pz_k31, pz_k63, pz_km, nI_add, pz_mul, nI_ltI, nI_eq, nI_clamp, pz_inI, Option.bind_some, Option.toList_some, Option.toList_none, List.cons_append, List.nil_append, Nat.zero_add, Nat.mul_zero, Nat.add_zero, Nat.lt_irrefl, pz_bb, pz_bTr, Bool.false_eq_true, pz_bFa, Nat.reduceEqDiff, Nat.reduceLT, ite_not, pz_mE, pz_mE2, pz_mL, pz_mG, not_true_eq_false, not_false_eq_true, if_true, if_false, reduceIte, eq_self, true_or, or_true, or_false, false_or, and_true, true_and, and_false, false_and]
    · rw [Nat.min_eq_left (by omega)]
      simp (disch := omega) only [hx, hy, pz_w_r, b147_105, b147_115, h, b147_131, b147_138, pz_w_u, pz_k0, pz_k1, pz_k2, pz_k3, pz_k4, pz_k5, pz_k6, pz_k7, pz_k8, pz_k9, pz_k10, pz_k16, pz_k31, pz_k63, pz_km, nI_add, pz_mul, nI_ltI, nI_eq, nI_clamp, pz_inI, Option.bind_some, Option.toList_some, Option.toList_none, List.cons_append, List.nil_append, Nat.zero_add, Nat.mul_zero, Nat.add_zero, Nat.lt_irrefl, pz_bb, pz_bTr, Bool.false_eq_true, pz_bFa, Nat.reduceEqDiff, Nat.reduceLT, ite_not, pz_mE, pz_mE2, pz_mL, pz_mG, not_true_eq_false, not_false_eq_true, if_true, if_false, reduceIte, eq_self, true_or, or_true, or_false, false_or, and_true, true_and, and_false, false_and]
  rw [h1]
  unfold pz_rx
  have hD1 : ∀ z, pz_up D x (min (D x) (D y + g)) z ≤ 1048576 := by
    intro z
    have m := Nat.min_le_left (D x) (D y + g)
    have := hD z
    unfold pz_up
    split <;> omega
  generalize pz_up D x (min (D x) (D y + g)) = D1 at hD1 ⊢
  have hDx := hD1 x
  have hDy := hD1 y
  rw [b147_139]
  by_cases h : D1 x + g < D1 y
  · rw [Nat.min_eq_right (by omega)]
    simp (disch := omega) only [hx, hy, pz_w_r, b147_152, b147_162, h, b147_165, b147_172, b147_185, pz_w_u, b147_186, pz_k0, pz_k1, pz_k2, pz_k3, pz_k4, pz_k5, pz_k6, pz_k7, pz_k8, pz_k9, pz_k10, pz_k16, pz_k31, pz_k63, pz_km, nI_add, pz_mul, nI_ltI, nI_eq, nI_clamp, pz_inI, Option.bind_some, Option.toList_some, Option.toList_none, List.cons_append, List.nil_append, Nat.zero_add, Nat.mul_zero, Nat.add_zero, Nat.lt_irrefl, pz_bb, pz_bTr, Bool.false_eq_true, pz_bFa, Nat.reduceEqDiff, Nat.reduceLT, ite_not, pz_mE, pz_mE2, pz_mL, pz_mG, not_true_eq_false, not_false_eq_true, if_true, if_false, reduceIte, eq_self, true_or, or_true, or_false, false_or, and_true, true_and, and_false, false_and]
  · rw [Nat.min_eq_left (by omega)]
    simp (disch := omega) only [hx, hy, pz_w_r, b147_152, b147_162, h, b147_178, b147_185, pz_w_u, b147_186, pz_k0, pz_k1, pz_k2, pz_k3, pz_k4, pz_k5, pz_k6, pz_k7, pz_k8, pz_k9, pz_k10, pz_k16, pz_k31, pz_k63, pz_km, nI_add, pz_mul, nI_ltI, nI_eq, nI_clamp, pz_inI, Option.bind_some, Option.toList_some, Option.toList_none, List.cons_append, List.nil_append, Nat.zero_add, Nat.mul_zero, Nat.add_zero, Nat.lt_irrefl, pz_bb, pz_bTr, Bool.false_eq_true, pz_bFa, Nat.reduceEqDiff, Nat.reduceLT, ite_not, pz_mE, pz_mE2, pz_mL, pz_mG, not_true_eq_false, not_false_eq_true, if_true, if_false, reduceIte, eq_self, true_or, or_true, or_false, false_or, and_true, true_and, and_false, false_and]
theorem sM147s {D : Nat → Nat} {o5 o6 o7 : Option mm_V} {q r k : Nat} (hA : pz_wf ck A) (hM : pz_M A I) (hv : v < 64) (hk : k < A 0 0 0) (hD : ∀ z, D z ≤ 1048576) : ∃ g, mm_ev 147 51 [some (.inr (.inr (9, 0))), some (.inl (nI q)), some (.inl (nI v)), some (.inl (nI r)), some (.inl (nI k)), o5, o6, o7] [] (ids, pz_w I 137 6 D, L, mm_RM) = mm_ev 147 42 [some (.inr (.inr (9, 0))), some (.inl (nI q)), some (.inl (nI v)), some (.inl (nI r)), some (.inl (nI (k + 1))), some (.inl (nI g)), some (.inl (nI (A 2 k 0))), some (.inl (nI (A 3 k 0)))] [] (ids, pz_w I 137 6 (@ite _ (pz_op A k v) (Classical.propDecidable _) (pz_rx D (A 2 k 0) (A 3 k 0) (pz_len A k)) D), L, mm_RM) := by
  have h9 := hA.2.1
  have hM' := pz_M_fr (pz_w_fr (n := 6) (D := D) (show pz_sc 137 = true from rfl)) hM
  obtain ⟨-, a2, a3, a23, -⟩ := hA.2.2.1 k hk
  obtain ⟨-, c2, c3, -⟩ := pz_M0b hM' hk
  have hlen := pz_len_b hA hk
  by_cases ho : pz_op A k v
  · refine ⟨pz_len A k, ?_⟩
    rw [if_pos ho, b147_51]
    simp (disch := omega) only [sM140 hA hM' hk hv, pz_bT ho, b147_58, b147_61, sM125 hA hM' hk, b147_67, b147_72, show k < 9 by omega, c2, b147_81, c3, pz_k0, pz_k1, pz_k2, pz_k3, pz_k4, pz_k5, pz_k6, pz_k7, pz_k8, pz_k9, pz_k10, pz_k16, pz_k31, pz_k63, pz_km, nI_add, pz_mul, nI_ltI, nI_eq, nI_clamp, pz_inI, Option.bind_some, Option.toList_some, Option.toList_none, List.cons_append, List.nil_append, Nat.zero_add, Nat.mul_zero, Nat.add_zero, Nat.lt_irrefl, pz_bb, pz_bTr, Bool.false_eq_true, pz_bFa, Nat.reduceEqDiff, Nat.reduceLT, ite_not, pz_mE, pz_mE2, pz_mL, pz_mG, not_true_eq_false, not_false_eq_true, if_true, if_false, reduceIte, eq_self, true_or, or_true, or_false, false_or, and_true, true_and, and_false, false_and]
    exact sM147u a2 a3 (by omega) hD
  · refine ⟨1048576, ?_⟩
    rw [if_neg ho, b147_51]
    simp (disch := omega) only [sM140 hA hM' hk hv, pz_bF ho, b147_58, b147_70, b147_72, show k < 9 by omega, c2, b147_81, c3, pz_k0, pz_k1, pz_k2, pz_k3, pz_k4, pz_k5, pz_k6, pz_k7, pz_k8, pz_k9, pz_k10, pz_k16, pz_k31, pz_k63, pz_km, nI_add, pz_mul, nI_ltI, nI_eq, nI_clamp, pz_inI, Option.bind_some, Option.toList_some, Option.toList_none, List.cons_append, List.nil_append, Nat.zero_add, Nat.mul_zero, Nat.add_zero, Nat.lt_irrefl, pz_bb, pz_bTr, Bool.false_eq_true, pz_bFa, Nat.reduceEqDiff, Nat.reduceLT, ite_not, pz_mE, pz_mE2, pz_mL, pz_mG, not_true_eq_false, not_false_eq_true, if_true, if_false, reduceIte, eq_self, true_or, or_true, or_false, false_or, and_true, true_and, and_false, false_and]
    refine (sM147u a2 a3 (Nat.le_refl _) hD).trans ?_
    rw [pz_rx_far hD a23]
/-- what the model lays out -/
noncomputable def pz_G (A : pz_A) (v p : Nat) : Nat → Nat := pz_rr (fun b => pz_op A b v) (fun b => A 2 b 0) (fun b => A 3 b 0) (pz_len A) (A 0 0 0) (pz_i0 p 1048576) 6
theorem pz_G_eq (hA : pz_wf ck A) (hp : p < 6) (x : Nat) : pz_G A v p x = if pz_T A v p x < 10000 then pz_T A v p x else 1048576 := by
  have h : pz_sp (fun b => pz_op A b v) (fun b => A 2 b 0) (fun b => A 3 b 0) (pz_len A) (A 0 0 0) p 1048576 (pz_G A v p) := by
    refine pz_rr_all (fun b hb => ?_) (fun b hb => pz_len_b hA hb) hp (by decide) (by decide)
    obtain ⟨-, a2, a3, a23, -, -, -⟩ := hA.2.2.1 b hb
    exact ⟨a23, a2, a3⟩
  exact pz_sp_eq (by decide) (by decide) (fun b hb => (pz_len_b hA hb).1) (pz_T_sp hA hp) (pz_sp_sw h) x
/-- layFar -/
theorem sM147 (hA : pz_wf ck A) (hM : pz_M A I) (hp : p < 6) (hv : v < 64) : mm_ev 147 0 [some (.inr (.inr (9, 0))), some (.inl (nI p)), some (.inl (nI v)), none, none, none, none, none] [] (ids, I, L, mm_RM) = some (none, (ids, pz_w I 137 6 (pz_G A v p), L, mm_RM)) := by
  have h9 := hA.2.1
  have hXY : ∀ b, b < A 0 0 0 → A 2 b 0 ≠ A 3 b 0 := fun b hb => (hA.2.2.1 b hb).2.2.2.1
  have acc := fun D => (pz_M0 (pz_M_fr (pz_w_fr (n := 6) (D := D) (show pz_sc 137 = true from rfl)) hM)).1
  rw [b147_0]
  have hl := pz_loop (fun k => mm_ev 147 2 [some (.inr (.inr (9, 0))), some (.inl (nI p)), some (.inl (nI v)), some (.inl (nI k)), none, none, none, none] [] (ids, pz_w I 137 k (pz_i0 p 1048576), L, mm_RM)) 6 (fun k hk => ?_)
  · rw [pz_w_0] at hl
    refine hl.trans ?_
    rw [b147_2]
    simp (disch := omega) only [b147_31, pz_k0, pz_k1, pz_k2, pz_k3, pz_k4, pz_k5, pz_k6, pz_k7, pz_k8, pz_k9, pz_k10, pz_k16, pz_k31, pz_k63, pz_km, nI_add, pz_mul, nI_ltI, nI_eq, nI_clamp, pz_inI, Option.bind_some, Option.toList_some, Option.toList_none, List.cons_append, List.nil_append, Nat.zero_add, Nat.mul_zero, Nat.add_zero, Nat.lt_irrefl, pz_bb, pz_bTr, Bool.false_eq_true, pz_bFa, Nat.reduceEqDiff, Nat.reduceLT, ite_not, pz_mE, pz_mE2, pz_mL, pz_mG, not_true_eq_false, not_false_eq_true, if_true, if_false, reduceIte, eq_self, true_or, or_true, or_false, false_or, and_true, true_and, and_false, false_and]
    have hJ := pz_loopJ (fun r (j : Option mm_V × Option mm_V × Option mm_V × Option mm_V) => mm_ev 147 33 [some (.inr (.inr (9, 0))), some (.inl (nI p)), some (.inl (nI v)), some (.inl (nI r)), j.1, j.2.1, j.2.2.1, j.2.2.2] [] (ids, pz_w I 137 6 (pz_rr (fun b => pz_op A b v) (fun b => A 2 b 0) (fun b => A 3 b 0) (pz_len A) (A 0 0 0) (pz_i0 p 1048576) r), L, mm_RM)) 6 (fun r j hr => ?_) (none, none, none, none)
    · obtain ⟨j, hj⟩ := hJ
      refine hj.trans ?_
      rw [b147_33]
      simp (disch := omega) only [b147_198, pz_k0, pz_k1, pz_k2, pz_k3, pz_k4, pz_k5, pz_k6, pz_k7, pz_k8, pz_k9, pz_k10, pz_k16, pz_k31, pz_k63, pz_km, nI_add, pz_mul, nI_ltI, nI_eq, nI_clamp, pz_inI, Option.bind_some, Option.toList_some, Option.toList_none, List.cons_append, List.nil_append, Nat.zero_add, Nat.mul_zero, Nat.add_zero, Nat.lt_irrefl, pz_bb, pz_bTr, Bool.false_eq_true, pz_bFa, Nat.reduceEqDiff, Nat.reduceLT, ite_not, pz_mE, pz_mE2, pz_mL, pz_mG, not_true_eq_false, not_false_eq_true, if_true, if_false, reduceIte, eq_self, true_or, or_true, or_false, false_or, and_true, true_and, and_false, false_and]
      rfl
    · have hD : ∀ z, pz_rr (fun b => pz_op A b v) (fun b => A 2 b 0) (fun b => A 3 b 0) (pz_len A) (A 0 0 0) (pz_i0 p 1048576) r z ≤ 1048576 := by
        intro z
        have := pz_rr_mono (o := fun b => pz_op A b v) (l := pz_len A) (D := pz_i0 p 1048576) hXY (r := 0) r z
        rw [Nat.zero_add] at this
        exact Nat.le_trans this pz_i0_le
      have e : pz_rr (fun b => pz_op A b v) (fun b => A 2 b 0) (fun b => A 3 b 0) (pz_len A) (A 0 0 0) (pz_i0 p 1048576) (r + 1) = pz_rd (fun b => pz_op A b v) (fun b => A 2 b 0) (fun b => A 3 b 0) (pz_len A) (pz_rr (fun b => pz_op A b v) (fun b => A 2 b 0) (fun b => A 3 b 0) (pz_len A) (A 0 0 0) (pz_i0 p 1048576) r) (A 0 0 0) := rfl
      rw [e]
      generalize pz_rr (fun b => pz_op A b v) (fun b => A 2 b 0) (fun b => A 3 b 0) (pz_len A) (A 0 0 0) (pz_i0 p 1048576) r = D at hD ⊢
      have hI := pz_loopJ (fun k (j : Option mm_V × Option mm_V × Option mm_V) => mm_ev 147 42 [some (.inr (.inr (9, 0))), some (.inl (nI p)), some (.inl (nI v)), some (.inl (nI r)), some (.inl (nI k)), j.1, j.2.1, j.2.2] [] (ids, pz_w I 137 6 (pz_rd (fun b => pz_op A b v) (fun b => A 2 b 0) (fun b => A 3 b 0) (pz_len A) D k), L, mm_RM)) (A 0 0 0) (fun k i hk => ?_) (j.2.1, j.2.2.1, j.2.2.2)
      · obtain ⟨i, hi⟩ := hI
        refine ⟨(some (.inl (nI (A 0 0 0))), i.1, i.2.1, i.2.2), ?_⟩
        rw [b147_33]
        simp (disch := omega) only [hr, b147_39, pz_k0, pz_k1, pz_k2, pz_k3, pz_k4, pz_k5, pz_k6, pz_k7, pz_k8, pz_k9, pz_k10, pz_k16, pz_k31, pz_k63, pz_km, nI_add, pz_mul, nI_ltI, nI_eq, nI_clamp, pz_inI, Option.bind_some, Option.toList_some, Option.toList_none, List.cons_append, List.nil_append, Nat.zero_add, Nat.mul_zero, Nat.add_zero, Nat.lt_irrefl, pz_bb, pz_bTr, Bool.false_eq_true, pz_bFa, Nat.reduceEqDiff, Nat.reduceLT, ite_not, pz_mE, pz_mE2, pz_mL, pz_mG, not_true_eq_false, not_false_eq_true, if_true, if_false, reduceIte, eq_self, true_or, or_true, or_false, false_or, and_true, true_and, and_false, false_and]
        refine hi.trans ?_
        rw [b147_42]
        simp (disch := omega) only [acc, b147_192, pz_k0, pz_k1, pz_k2, pz_k3, pz_k4, pz_k5, pz_k6, pz_k7, pz_k8, pz_k9, pz_k10, pz_k16, pz_k31, pz_k63, pz_km, nI_add, pz_mul, nI_ltI, nI_eq, nI_clamp, pz_inI, Option.bind_some, Option.toList_some, Option.toList_none, List.cons_append, List.nil_append, Nat.zero_add, Nat.mul_zero, Nat.add_zero, Nat.lt_irrefl, pz_bb, pz_bTr, Bool.false_eq_true, pz_bFa, Nat.reduceEqDiff, Nat.reduceLT, ite_not, pz_mE, pz_mE2, pz_mL, pz_mG, not_true_eq_false, not_false_eq_true, if_true, if_false, reduceIte, eq_self, true_or, or_true, or_false, false_or, and_true, true_and, and_false, false_and]
      · have hDk : ∀ z, pz_rd (fun b => pz_op A b v) (fun b => A 2 b 0) (fun b => A 3 b 0) (pz_len A) D k z ≤ 1048576 := fun z => Nat.le_trans (pz_rd_le (n := A 0 0 0) hXY k (by omega) z) (hD z)
        obtain ⟨g, hg⟩ := sM147s (ids := ids) (L := L) (o5 := i.1) (o6 := i.2.1) (o7 := i.2.2) (q := p) (r := r) hA hM hv hk hDk
        refine ⟨(some (.inl (nI g)), some (.inl (nI (A 2 k 0))), some (.inl (nI (A 3 k 0)))), ?_⟩
        rw [b147_42, pz_rd_s]
        simp (disch := omega) only [acc, hk, pz_k0, pz_k1, pz_k2, pz_k3, pz_k4, pz_k5, pz_k6, pz_k7, pz_k8, pz_k9, pz_k10, pz_k16, pz_k31, pz_k63, pz_km, nI_add, pz_mul, nI_ltI, nI_eq, nI_clamp, pz_inI, Option.bind_some, Option.toList_some, Option.toList_none, List.cons_append, List.nil_append, Nat.zero_add, Nat.mul_zero, Nat.add_zero, Nat.lt_irrefl, pz_bb, pz_bTr, Bool.false_eq_true, pz_bFa, Nat.reduceEqDiff, Nat.reduceLT, ite_not, pz_mE, pz_mE2, pz_mL, pz_mG, not_true_eq_false, not_false_eq_true, if_true, if_false, reduceIte, eq_self, true_or, or_true, or_false, false_or, and_true, true_and, and_false, false_and]
        exact hg
  · try dsimp only
    rw [b147_2, ← pz_w_g]
    unfold pz_i0
    by_cases h : k = p
    · simp (disch := omega) only [hk, b147_8, h, b147_18, b147_24, b147_25, hp, pz_k0, pz_k1, pz_k2, pz_k3, pz_k4, pz_k5, pz_k6, pz_k7, pz_k8, pz_k9, pz_k10, pz_k16, pz_k31, pz_k63, pz_km, nI_add, pz_mul, nI_ltI, nI_eq, nI_clamp, pz_inI, Option.bind_some, Option.toList_some, Option.toList_none, List.cons_append, List.nil_append, Nat.zero_add, Nat.mul_zero, Nat.add_zero, Nat.lt_irrefl, pz_bb, pz_bTr, Bool.false_eq_true, pz_bFa, Nat.reduceEqDiff, Nat.reduceLT, ite_not, pz_mE, pz_mE2, pz_mL, pz_mG, not_true_eq_false, not_false_eq_true, if_true, if_false, reduceIte, eq_self, true_or, or_true, or_false, false_or, and_true, true_and, and_false, false_and]
    · rw [if_neg h]
      simp (disch := omega) only [hk, b147_8, h, b147_22, b147_24, b147_25, pz_k0, pz_k1, pz_k2, pz_k3, pz_k4, pz_k5, pz_k6, pz_k7, pz_k8, pz_k9, pz_k10, pz_k16, pz_k31, pz_k63, pz_km, nI_add, pz_mul, nI_ltI, nI_eq, nI_clamp, pz_inI, Option.bind_some, Option.toList_some, Option.toList_none, List.cons_append, List.nil_append, Nat.zero_add, Nat.mul_zero, Nat.add_zero, Nat.lt_irrefl, pz_bb, pz_bTr, Bool.false_eq_true, pz_bFa, Nat.reduceEqDiff, Nat.reduceLT, ite_not, pz_mE, pz_mE2, pz_mL, pz_mG, not_true_eq_false, not_false_eq_true, if_true, if_false, reduceIte, eq_self, true_or, or_true, or_false, false_or, and_true, true_and, and_false, false_and]
      rfl
/-- reachBy -/
theorem sM150 (hA : pz_wf ck A) (hM : pz_M A I) (hs : s < A 6 0 0) (hv : v < 64) : mm_ev 150 0 [some (.inr (.inr (9, 0))), some (.inl (nI s)), some (.inl (nI v)), none, none] [] (ids, I, L, mm_RM) = some (some (.inl (nI (pz_rb (pz_T A v (A 7 s 0)) (A 9 s 0) 6))), (ids, pz_w I 137 6 (pz_G A v (A 7 s 0)), L, mm_RM)) := by
  have h5 := hA.2.2.2.1
  have hs5 : s < 5 := by omega
  obtain ⟨a7, a8, a9, -⟩ := hA.2.2.2.2.1 s hs
  obtain ⟨c7, c8, c9, -⟩ := pz_M0s hM hs
  have hT := pz_T_sp (v := v) hA a7
  have acc := (pz_M0s (pz_M_fr (pz_w_fr (n := 6) (D := pz_G A v (A 7 s 0)) (show pz_sc 137 = true from rfl)) hM) hs).2.2.1
  rw [b150_0]
  simp (disch := omega) only [hs5, c7, b150_7, sM147 hA hM a7 hv, b150_11, pz_k0, pz_k1, pz_k2, pz_k3, pz_k4, pz_k5, pz_k6, pz_k7, pz_k8, pz_k9, pz_k10, pz_k16, pz_k31, pz_k63, pz_km, nI_add, pz_mul, nI_ltI, nI_eq, nI_clamp, pz_inI, Option.bind_some, Option.toList_some, Option.toList_none, List.cons_append, List.nil_append, Nat.zero_add, Nat.mul_zero, Nat.add_zero, Nat.lt_irrefl, pz_bb, pz_bTr, Bool.false_eq_true, pz_bFa, Nat.reduceEqDiff, Nat.reduceLT, ite_not, pz_mE, pz_mE2, pz_mL, pz_mG, not_true_eq_false, not_false_eq_true, if_true, if_false, reduceIte, eq_self, true_or, or_true, or_false, false_or, and_true, true_and, and_false, false_and]
  refine (pz_loop (fun k => mm_ev 150 16 [some (.inr (.inr (9, 0))), some (.inl (nI s)), some (.inl (nI v)), some (.inl (nI (pz_rb (pz_T A v (A 7 s 0)) (A 9 s 0) k))), some (.inl (nI k))] [] (ids, pz_w I 137 6 (pz_G A v (A 7 s 0)), L, mm_RM)) 6 (fun k hk => ?_)).trans ?_
  · try dsimp only
    have hg := pz_G_eq (v := v) hA a7 k
    have := hT.2.1 k
    have hgb : pz_G A v (A 7 s 0) k ≤ 1048576 := by
      rw [hg]
      split <;> omega
    rw [b150_16, pz_rb_s]
    by_cases h : pz_T A v (A 7 s 0) k ≤ A 9 s 0
    · rw [if_pos h]
      rw [if_pos (by omega)] at hg
      simp (disch := omega) only [hk, b150_23, pz_w_r, b150_31, hs5, acc, b150_37, show ¬ A 9 s 0 < pz_G A v (A 7 s 0) k by omega, b150_40, pz_one, pz_or, b150_48, pz_k0, pz_k1, pz_k2, pz_k3, pz_k4, pz_k5, pz_k6, pz_k7, pz_k8, pz_k9, pz_k10, pz_k16, pz_k31, pz_k63, pz_km, nI_add, pz_mul, nI_ltI, nI_eq, nI_clamp, pz_inI, Option.bind_some, Option.toList_some, Option.toList_none, List.cons_append, List.nil_append, Nat.zero_add, Nat.mul_zero, Nat.add_zero, Nat.lt_irrefl, pz_bb, pz_bTr, Bool.false_eq_true, pz_bFa, Nat.reduceEqDiff, Nat.reduceLT, ite_not, pz_mE, pz_mE2, pz_mL, pz_mG, not_true_eq_false, not_false_eq_true, if_true, if_false, reduceIte, eq_self, true_or, or_true, or_false, false_or, and_true, true_and, and_false, false_and]
    · rw [if_neg h]
      have : A 9 s 0 < pz_G A v (A 7 s 0) k := by
        rw [hg]
        split <;> omega
      simp (disch := omega) only [hk, b150_23, pz_w_r, b150_31, hs5, acc, b150_37, this, b150_47, pz_or, b150_48, Nat.or_zero, pz_k0, pz_k1, pz_k2, pz_k3, pz_k4, pz_k5, pz_k6, pz_k7, pz_k8, pz_k9, pz_k10, pz_k16, pz_k31, pz_k63, pz_km, nI_add, pz_mul, nI_ltI, nI_eq, nI_clamp, pz_inI, Option.bind_some, Option.toList_some, Option.toList_none, List.cons_append, List.nil_append, Nat.zero_add, Nat.mul_zero, Nat.add_zero, Nat.lt_irrefl, pz_bb, pz_bTr, Bool.false_eq_true, pz_bFa, Nat.reduceEqDiff, Nat.reduceLT, ite_not, pz_mE, pz_mE2, pz_mL, pz_mG, not_true_eq_false, not_false_eq_true, if_true, if_false, reduceIte, eq_self, true_or, or_true, or_false, false_or, and_true, true_and, and_false, false_and]
  · try dsimp only
    rw [b150_16]
    simp (disch := omega) only [b150_56, pz_k0, pz_k1, pz_k2, pz_k3, pz_k4, pz_k5, pz_k6, pz_k7, pz_k8, pz_k9, pz_k10, pz_k16, pz_k31, pz_k63, pz_km, nI_add, pz_mul, nI_ltI, nI_eq, nI_clamp, pz_inI, Option.bind_some, Option.toList_some, Option.toList_none, List.cons_append, List.nil_append, Nat.zero_add, Nat.mul_zero, Nat.add_zero, Nat.lt_irrefl, pz_bb, pz_bTr, Bool.false_eq_true, pz_bFa, Nat.reduceEqDiff, Nat.reduceLT, ite_not, pz_mE, pz_mE2, pz_mL, pz_mG, not_true_eq_false, not_false_eq_true, if_true, if_false, reduceIte, eq_self, true_or, or_true, or_false, false_or, and_true, true_and, and_false, false_and]
/-- homeNow -/
theorem sM148 {w : Nat} (hA : pz_wf ck A) (hM : pz_M A I) (hs : s < A 6 0 0) (hp : p < 6) (hw : w ≤ 1) : mm_ev 148 0 [some (.inr (.inr (9, 0))), some (.inl (nI s)), some (.inl (nI p)), some (.inl (nI w)), none, none, none] [] (ids, I, L, mm_RM) = some (some (.inl (if pz_T A (A 8 s 0) p (A 7 s 0) ≤ A 9 s 0 then (if w = 0 then nI (pz_T A (A 8 s 0) p (A 7 s 0)) else if pz_fnd (pz_hbb A (A 8 s 0) (A 7 s 0) (pz_T A (A 8 s 0) p) (pz_T A (A 8 s 0) p (A 7 s 0))) (A 0 0 0) 0 < A 0 0 0 then nI (pz_fnd (pz_hbb A (A 8 s 0) (A 7 s 0) (pz_T A (A 8 s 0) p) (pz_T A (A 8 s 0) p (A 7 s 0))) (A 0 0 0) 0) else pz_m) else pz_m)), (ids, pz_w I 137 6 (pz_G A (A 8 s 0) p), L, mm_RM)) := by
  have h9 := hA.2.1
  have h5 := hA.2.2.2.1
  have hs5 : s < 5 := by omega
  obtain ⟨a7, a8, a9, -⟩ := hA.2.2.2.2.1 s hs
  have hT := pz_T_sp (v := A 8 s 0) hA hp
  have hM' := pz_M_fr (pz_w_fr (n := 6) (D := pz_G A (A 8 s 0) p) (show pz_sc 137 = true from rfl)) hM
  obtain ⟨c7, c8, c9, -⟩ := pz_M0s hM' hs
  obtain ⟨-, e8, -⟩ := pz_M0s hM hs
  have h41 := (pz_M0 hM').1
  have hg := fun x => pz_G_eq (v := A 8 s 0) hA hp x
  have hgb : ∀ x, pz_G A (A 8 s 0) p x ≤ 1048576 := by
    intro x
    have := hT.2.1 x
    rw [hg]
    split <;> omega
  have hg7 := hg (A 7 s 0)
  have hgb7 := hgb (A 7 s 0)
  have hT7 := hT.2.1 (A 7 s 0)
  rw [b148_0]
  by_cases h : pz_T A (A 8 s 0) p (A 7 s 0) ≤ A 9 s 0
  · rw [if_pos h]
    rw [if_pos (by omega)] at hg7
    simp (disch := omega) only [hs5, e8, b148_8, sM147 hA hM hp a8, b148_11, c7, b148_21, a7, pz_w_r, b148_22, c9, b148_32, hg7, show ¬ A 9 s 0 < pz_T A (A 8 s 0) p (A 7 s 0) by omega, pz_k0, pz_k1, pz_k2, pz_k3, pz_k4, pz_k5, pz_k6, pz_k7, pz_k8, pz_k9, pz_k10, pz_k16, pz_k31, pz_k63, pz_km, nI_add, pz_mul, nI_ltI, nI_eq, nI_clamp, pz_inI, Option.bind_some, Option.toList_some, Option.toList_none, List.cons_append, List.nil_append, Nat.zero_add, Nat.mul_zero, Nat.add_zero, Nat.lt_irrefl, pz_bb, pz_bTr, Bool.false_eq_true, pz_bFa, Nat.reduceEqDiff, Nat.reduceLT, ite_not, pz_mE, pz_mE2, pz_mL, pz_mG, not_true_eq_false, not_false_eq_true, if_true, if_false, reduceIte, eq_self, true_or, or_true, or_false, false_or, and_true, true_and, and_false, false_and]
    rw [b148_37]
    by_cases hw0 : w = 0
    · simp (disch := omega) only [hw0, b148_41, pz_k0, pz_k1, pz_k2, pz_k3, pz_k4, pz_k5, pz_k6, pz_k7, pz_k8, pz_k9, pz_k10, pz_k16, pz_k31, pz_k63, pz_km, nI_add, pz_mul, nI_ltI, nI_eq, nI_clamp, pz_inI, Option.bind_some, Option.toList_some, Option.toList_none, List.cons_append, List.nil_append, Nat.zero_add, Nat.mul_zero, Nat.add_zero, Nat.lt_irrefl, pz_bb, pz_bTr, Bool.false_eq_true, pz_bFa, Nat.reduceEqDiff, Nat.reduceLT, ite_not, pz_mE, pz_mE2, pz_mL, pz_mG, not_true_eq_false, not_false_eq_true, if_true, if_false, reduceIte, eq_self, true_or, or_true, or_false, false_or, and_true, true_and, and_false, false_and]
    · simp (disch := omega) only [hw0, b148_44, pz_k0, pz_k1, pz_k2, pz_k3, pz_k4, pz_k5, pz_k6, pz_k7, pz_k8, pz_k9, pz_k10, pz_k16, pz_k31, pz_k63, pz_km, nI_add, pz_mul, nI_ltI, nI_eq, nI_clamp, pz_inI, Option.bind_some, Option.toList_some, Option.toList_none, List.cons_append, List.nil_append, Nat.zero_add, Nat.mul_zero, Nat.add_zero, Nat.lt_irrefl, pz_bb, pz_bTr, Bool.false_eq_true, pz_bFa, Nat.reduceEqDiff, Nat.reduceLT, ite_not, pz_mE, pz_mE2, pz_mL, pz_mG, not_true_eq_false, not_false_eq_true, if_true, if_false, reduceIte, eq_self, true_or, or_true, or_false, false_or, and_true, true_and, and_false, false_and]
      by_cases h0 : pz_T A (A 8 s 0) p (A 7 s 0) = 0
      · rw [if_neg]
        · rw [b148_47]
          by_cases hn : 0 < A 0 0 0
          · simp (disch := omega) only [h41, hn, b148_56, h0, b148_143, pz_k0, pz_k1, pz_k2, pz_k3, pz_k4, pz_k5, pz_k6, pz_k7, pz_k8, pz_k9, pz_k10, pz_k16, pz_k31, pz_k63, pz_km, nI_add, pz_mul, nI_ltI, nI_eq, nI_clamp, pz_inI, Option.bind_some, Option.toList_some, Option.toList_none, List.cons_append, List.nil_append, Nat.zero_add, Nat.mul_zero, Nat.add_zero, Nat.lt_irrefl, pz_bb, pz_bTr, Bool.false_eq_true, pz_bFa, Nat.reduceEqDiff, Nat.reduceLT, ite_not, pz_mE, pz_mE2, pz_mL, pz_mG, not_true_eq_false, not_false_eq_true, if_true, if_false, reduceIte, eq_self, true_or, or_true, or_false, false_or, and_true, true_and, and_false, false_and]
          · simp (disch := omega) only [h41, hn, b148_143, pz_k0, pz_k1, pz_k2, pz_k3, pz_k4, pz_k5, pz_k6, pz_k7, pz_k8, pz_k9, pz_k10, pz_k16, pz_k31, pz_k63, pz_km, nI_add, pz_mul, nI_ltI, nI_eq, nI_clamp, pz_inI, Option.bind_some, Option.toList_some, Option.toList_none, List.cons_append, List.nil_append, Nat.zero_add, Nat.mul_zero, Nat.add_zero, Nat.lt_irrefl, pz_bb, pz_bTr, Bool.false_eq_true, pz_bFa, Nat.reduceEqDiff, Nat.reduceLT, ite_not, pz_mE, pz_mE2, pz_mL, pz_mG, not_true_eq_false, not_false_eq_true, if_true, if_false, reduceIte, eq_self, true_or, or_true, or_false, false_or, and_true, true_and, and_false, false_and]
        · rw [pz_fnd_eq (q := fun _ => false) _ _ (fun j h1 h2 => ?_), pz_fnd_no]
          · omega
          · refine pz_dF (fun z => ?_)
            have := z.2.2
            have := pz_len_b hA (show j < A 0 0 0 by omega)
            omega
      · have hl := pz_srchJ (pz_hbb A (A 8 s 0) (A 7 s 0) (pz_T A (A 8 s 0) p) (pz_T A (A 8 s 0) p (A 7 s 0))) (fun k (j : Option mm_V) => mm_ev 148 47 [some (.inr (.inr (9, 0))), some (.inl (nI s)), some (.inl (nI p)), some (.inl (nI w)), some (.inl (nI (pz_T A (A 8 s 0) p (A 7 s 0)))), some (.inl (nI k)), j] [] (ids, pz_w I 137 6 (pz_G A (A 8 s 0) p), L, mm_RM)) (fun k j => some (some (.inl (nI k)), (ids, pz_w I 137 6 (pz_G A (A 8 s 0) p), L, mm_RM))) (A 0 0 0) 0 (fun k j _ hk => ?_) none
        · rw [Nat.zero_add] at hl
          by_cases hf : pz_fnd (pz_hbb A (A 8 s 0) (A 7 s 0) (pz_T A (A 8 s 0) p) (pz_T A (A 8 s 0) p (A 7 s 0))) (A 0 0 0) 0 < A 0 0 0
          · rw [if_pos hf]
            obtain ⟨j, hj⟩ := hl.1 hf
            exact hj
          · rw [if_neg hf]
            obtain ⟨j, hj⟩ := hl.2 hf
            refine hj.trans ?_
            rw [b148_47]
            simp (disch := omega) only [h41, b148_143, pz_k0, pz_k1, pz_k2, pz_k3, pz_k4, pz_k5, pz_k6, pz_k7, pz_k8, pz_k9, pz_k10, pz_k16, pz_k31, pz_k63, pz_km, nI_add, pz_mul, nI_ltI, nI_eq, nI_clamp, pz_inI, Option.bind_some, Option.toList_some, Option.toList_none, List.cons_append, List.nil_append, Nat.zero_add, Nat.mul_zero, Nat.add_zero, Nat.lt_irrefl, pz_bb, pz_bTr, Bool.false_eq_true, pz_bFa, Nat.reduceEqDiff, Nat.reduceLT, ite_not, pz_mE, pz_mE2, pz_mL, pz_mG, not_true_eq_false, not_false_eq_true, if_true, if_false, reduceIte, eq_self, true_or, or_true, or_false, false_or, and_true, true_and, and_false, false_and]
        · try dsimp only
          have hk : k < A 0 0 0 := by omega
          have hk9 : k < 9 := by omega
          have hlen := pz_len_b hA hk
          obtain ⟨-, a2, a3, a23, -⟩ := hA.2.2.1 k hk
          obtain ⟨-, d2, d3, -⟩ := pz_M0b hM' hk
          have h0' : 0 < pz_T A (A 8 s 0) p (A 7 s 0) := by omega
          rw [b148_47]
          by_cases ha : pz_at A k (A 7 s 0)
          · by_cases ho : pz_op A k (A 8 s 0)
            · have hto : A 2 k 0 + A 3 k 0 - A 7 s 0 = pz_oth A k (A 7 s 0) := by
                unfold pz_oth
                rcases ha with z | z
                · rw [if_pos z]; omega
                · rw [if_neg (by omega)]; omega
              have hsub : nI (A 2 k 0 + A 3 k 0) - nI (A 7 s 0) = nI (pz_oth A k (A 7 s 0)) := by
                rw [pz_sub (by rcases ha with z | z <;> omega), hto]
              have hol := pz_oth_lt (p := A 7 s 0) hA hk
              have hgo := hg (pz_oth A k (A 7 s 0))
              have hgbo := hgb (pz_oth A k (A 7 s 0))
              have hTo := hT.2.1 (pz_oth A k (A 7 s 0))
              by_cases he : pz_len A k + pz_G A (A 8 s 0) p (pz_oth A k (A 7 s 0)) = pz_T A (A 8 s 0) p (A 7 s 0)
              · have he' : pz_len A k + pz_T A (A 8 s 0) p (pz_oth A k (A 7 s 0)) = pz_T A (A 8 s 0) p (A 7 s 0) := by
                  split at hgo <;> omega
                refine ⟨fun _ => ⟨none, ?_⟩, fun z => ?_⟩
                · simp (disch := omega) only [h41, hk, b148_56, h0', b148_61, hs5, c7, b148_70, sM141 hA hM' hk a7, pz_bT ha, b148_73, b148_76, c8, b148_85, sM140 hA hM' hk a8, pz_bT ho, b148_88, b148_91, hk9, d2, b148_98, d3, b148_105, hsub, b148_112, sM125 hA hM' hk, b148_121, hol, pz_w_r, b148_128, he, b148_134, pz_k0, pz_k1, pz_k2, pz_k3, pz_k4, pz_k5, pz_k6, pz_k7, pz_k8, pz_k9, pz_k10, pz_k16, pz_k31, pz_k63, pz_km, nI_add, pz_mul, nI_ltI, nI_eq, nI_clamp, pz_inI, Option.bind_some, Option.toList_some, Option.toList_none, List.cons_append, List.nil_append, Nat.zero_add, Nat.mul_zero, Nat.add_zero, Nat.lt_irrefl, pz_bb, pz_bTr, Bool.false_eq_true, pz_bFa, Nat.reduceEqDiff, Nat.reduceLT, ite_not, pz_mE, pz_mE2, pz_mL, pz_mG, not_true_eq_false, not_false_eq_true, if_true, if_false, reduceIte, eq_self, true_or, or_true, or_false, false_or, and_true, true_and, and_false, false_and]
                · have : pz_hbb A (A 8 s 0) (A 7 s 0) (pz_T A (A 8 s 0) p) (pz_T A (A 8 s 0) p (A 7 s 0)) k = true := pz_dT ⟨ho, ha, he'⟩
                  rw [this] at z
                  cases z
              · have he' : ¬ pz_len A k + pz_T A (A 8 s 0) p (pz_oth A k (A 7 s 0)) = pz_T A (A 8 s 0) p (A 7 s 0) := by
                  split at hgo <;> omega
                refine ⟨fun z => absurd (pz_dI.mp z).2.2 he', fun _ => ⟨some (.inl (nI (pz_oth A k (A 7 s 0)))), ?_⟩⟩
                simp (disch := omega) only [h41, hk, b148_56, h0', b148_61, hs5, c7, b148_70, sM141 hA hM' hk a7, pz_bT ha, b148_73, b148_76, c8, b148_85, sM140 hA hM' hk a8, pz_bT ho, b148_88, b148_91, hk9, d2, b148_98, d3, b148_105, hsub, b148_112, sM125 hA hM' hk, b148_121, hol, pz_w_r, b148_128, he, b148_137, pz_k0, pz_k1, pz_k2, pz_k3, pz_k4, pz_k5, pz_k6, pz_k7, pz_k8, pz_k9, pz_k10, pz_k16, pz_k31, pz_k63, pz_km, nI_add, pz_mul, nI_ltI, nI_eq, nI_clamp, pz_inI, Option.bind_some, Option.toList_some, Option.toList_none, List.cons_append, List.nil_append, Nat.zero_add, Nat.mul_zero, Nat.add_zero, Nat.lt_irrefl, pz_bb, pz_bTr, Bool.false_eq_true, pz_bFa, Nat.reduceEqDiff, Nat.reduceLT, ite_not, pz_mE, pz_mE2, pz_mL, pz_mG, not_true_eq_false, not_false_eq_true, if_true, if_false, reduceIte, eq_self, true_or, or_true, or_false, false_or, and_true, true_and, and_false, false_and]
            · refine ⟨fun z => absurd (pz_dI.mp z).1 ho, fun _ => ⟨j, ?_⟩⟩
              simp (disch := omega) only [h41, hk, b148_56, h0', b148_61, hs5, c7, b148_70, sM141 hA hM' hk a7, pz_bT ha, b148_73, b148_76, c8, b148_85, sM140 hA hM' hk a8, pz_bF ho, b148_88, b148_137, pz_k0, pz_k1, pz_k2, pz_k3, pz_k4, pz_k5, pz_k6, pz_k7, pz_k8, pz_k9, pz_k10, pz_k16, pz_k31, pz_k63, pz_km, nI_add, pz_mul, nI_ltI, nI_eq, nI_clamp, pz_inI, Option.bind_some, Option.toList_some, Option.toList_none, List.cons_append, List.nil_append, Nat.zero_add, Nat.mul_zero, Nat.add_zero, Nat.lt_irrefl, pz_bb, pz_bTr, Bool.false_eq_true, pz_bFa, Nat.reduceEqDiff, Nat.reduceLT, ite_not, pz_mE, pz_mE2, pz_mL, pz_mG, not_true_eq_false, not_false_eq_true, if_true, if_false, reduceIte, eq_self, true_or, or_true, or_false, false_or, and_true, true_and, and_false, false_and]
          · refine ⟨fun z => absurd (pz_dI.mp z).2.1 ha, fun _ => ⟨j, ?_⟩⟩
            simp (disch := omega) only [h41, hk, b148_56, h0', b148_61, hs5, c7, b148_70, sM141 hA hM' hk a7, pz_bF ha, b148_73, b148_137, pz_k0, pz_k1, pz_k2, pz_k3, pz_k4, pz_k5, pz_k6, pz_k7, pz_k8, pz_k9, pz_k10, pz_k16, pz_k31, pz_k63, pz_km, nI_add, pz_mul, nI_ltI, nI_eq, nI_clamp, pz_inI, Option.bind_some, Option.toList_some, Option.toList_none, List.cons_append, List.nil_append, Nat.zero_add, Nat.mul_zero, Nat.add_zero, Nat.lt_irrefl, pz_bb, pz_bTr, Bool.false_eq_true, pz_bFa, Nat.reduceEqDiff, Nat.reduceLT, ite_not, pz_mE, pz_mE2, pz_mL, pz_mG, not_true_eq_false, not_false_eq_true, if_true, if_false, reduceIte, eq_self, true_or, or_true, or_false, false_or, and_true, true_and, and_false, false_and]
  · rw [if_neg h]
    have : A 9 s 0 < pz_G A (A 8 s 0) p (A 7 s 0) := by
      rw [hg]
      split <;> omega
    simp (disch := omega) only [hs5, e8, b148_8, sM147 hA hM hp a8, b148_11, c7, b148_21, a7, pz_w_r, b148_22, c9, b148_32, this, b148_35, pz_k0, pz_k1, pz_k2, pz_k3, pz_k4, pz_k5, pz_k6, pz_k7, pz_k8, pz_k9, pz_k10, pz_k16, pz_k31, pz_k63, pz_km, nI_add, pz_mul, nI_ltI, nI_eq, nI_clamp, pz_inI, Option.bind_some, Option.toList_some, Option.toList_none, List.cons_append, List.nil_append, Nat.zero_add, Nat.mul_zero, Nat.add_zero, Nat.lt_irrefl, pz_bb, pz_bTr, Bool.false_eq_true, pz_bFa, Nat.reduceEqDiff, Nat.reduceLT, ite_not, pz_mE, pz_mE2, pz_mL, pz_mG, not_true_eq_false, not_false_eq_true, if_true, if_false, reduceIte, eq_self, true_or, or_true, or_false, false_or, and_true, true_and, and_false, false_and]
end PZV
