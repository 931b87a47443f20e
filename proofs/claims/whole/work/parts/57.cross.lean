/-! cross, learn: a singer has used verses -/
def pz_us (A : pz_A) (s p K e u W ck : Nat) : Nat → Nat → Nat := fun c j => if c = 7 then p else if c = 8 then K else if c = 9 then e else if c = 12 then u else if c = 18 then (if pz_bt W j = 1 then A 19 s 0 + 1 else A 18 s j) else if c = 19 then A 19 s 0 + 1 else if c = 20 then (if pz_bt W j = 1 then ck + 1 else A 20 s j) else A c s j
section PZ57
variable {ids : List (Nat × Nat)} {I J I' J' : mm_HI} {L LC LM LC' LM' : mm_HL} {κ f f' : Nat → Nat} {A : pz_A} {k ck n n' g b v s p K e u W m : Nat}
theorem pz_us_7 : pz_sA A s m (pz_us A s p K e u W ck) 7 s = fun _ => p := pz_sA_e (by decide)
theorem pz_us_8 : pz_sA A s m (pz_us A s p K e u W ck) 8 s = fun _ => K := pz_sA_e (by decide)
theorem pz_us_9 : pz_sA A s m (pz_us A s p K e u W ck) 9 s = fun _ => e := pz_sA_e (by decide)
theorem pz_us_10 : pz_sA A s m (pz_us A s p K e u W ck) 10 s = A 10 s := pz_sA_e (by decide)
theorem pz_us_11 : pz_sA A s m (pz_us A s p K e u W ck) 11 s = A 11 s := pz_sA_e (by decide)
theorem pz_us_12 : pz_sA A s m (pz_us A s p K e u W ck) 12 s = fun _ => u := pz_sA_e (by decide)
theorem pz_us_18 : pz_sA A s m (pz_us A s p K e u W ck) 18 s = fun j => if pz_bt W j = 1 then A 19 s 0 + 1 else A 18 s j := pz_sA_e (by decide)
theorem pz_us_19 : pz_sA A s m (pz_us A s p K e u W ck) 19 s = fun _ => A 19 s 0 + 1 := pz_sA_e (by decide)
theorem pz_us_20 : pz_sA A s m (pz_us A s p K e u W ck) 20 s = fun j => if pz_bt W j = 1 then ck + 1 else A 20 s j := pz_sA_e (by decide)
theorem pz_us_wf (hA : pz_wf ck A) (hck : ck < 64) (hs : s < A 6 0 0) (hp : p < 6) (hK : K < 64) (he : e ≤ 30) (hu : u ≤ 99) (hKW : ∀ v, v < 6 → pz_bt K v = 1 → pz_bt (A 8 s 0) v = 1 ∨ pz_bt W v = 1) : pz_wf (ck + 1) (pz_sA A s (A 6 0 0) (pz_us A s p K e u W ck)) := by
  obtain ⟨b1, b2, b3, b4, b5, b6, b7, b8, b9, b10⟩ := hA.2.2.2.2.1 s hs
  refine pz_wf_s hA (by omega) (by omega) hA.2.2.2.1 (fun t ht _ => ht) (fun _ => ?_)
  unfold pz_wfs
  rw [pz_us_7, pz_us_8, pz_us_9, pz_us_10, pz_us_11, pz_us_12, pz_us_18, pz_us_19, pz_us_20]
  refine ⟨hp, hK, he, b4, b5, b6, hu, show A 19 s 0 + 1 ≤ ck + 1 by omega, fun v hv => ?_, pz_use_ord (fun v hv => b9 v hv) b10 hKW⟩
  have := b9 v hv
  dsimp only
  constructor
  · split <;> omega
  · split <;> omega
theorem pz_us_C (hC : pz_C 0 A I κ) (hs : s < A 6 0 0) (hI : ∀ c i, (c ≠ 22 ∧ c ≠ 23 ∧ c ≠ 24 ∧ c ≠ 27 ∧ c ≠ 28 ∧ c ≠ 118) ∨ i ≠ s → I' c i = I c i) (h22 : I' 22 s 0 = nI p) (h23 : I' 23 s 0 = nI K) (h24 : I' 24 s 0 = nI e) (h27 : I' 27 s 0 = nI u) (h28 : I' 28 s 0 = nI (A 19 s 0 + 1)) (h118 : ∀ v, v < 6 → I' 118 s v = if pz_bt W v = 1 then nI (A 19 s 0 + 1) else I 118 s v) : pz_C 0 (pz_sA A s (A 6 0 0) (pz_us A s p K e u W ck)) I' κ := by
  obtain ⟨d1, d2, d3, d4, d5, d6, d7, d8⟩ := pz_C0s hC hs
  refine pz_C_s hC (fun c i hc => hI c i (by omega)) (by rw [hI 12 0 (by omega)]; exact hC.2.2.1) (fun t ht _ => ht) (fun _ => ?_)
  unfold pz_Cs
  rw [pz_us_7, pz_us_8, pz_us_9, pz_us_10, pz_us_11, pz_us_12, pz_us_18, pz_us_19, Nat.mul_zero, Nat.zero_add]
  refine ⟨h22, h23, h24, ?_, ?_, h27, h28, fun v hv => ?_⟩
  · rw [hI 25 s (by omega)]
    exact d4
  · rw [hI 26 s (by omega)]
    exact d5
  · rw [h118 v hv]
    dsimp only
    split
    · rfl
    · exact d8 v hv
theorem pz_us_M (hM : pz_M A J) (hs : s < A 6 0 0) (hJ : ∀ c, c ≠ 55 ∧ c ≠ 126 ∧ c ≠ 127 ∧ c ≠ 128 ∧ c ≠ 131 ∧ c ≠ 132 → J' c = J c) (hJ2 : ∀ c j, c ≠ 55 ∧ c ≠ 132 ∧ j ≠ s → J' c 0 j = J c 0 j) (h126 : J' 126 0 s = nI p) (h127 : J' 127 0 s = nI K) (h128 : J' 128 0 s = nI e) (h131 : J' 131 0 s = nI u) (h132 : ∀ q, J' 132 0 q = if 6 * s ≤ q ∧ q < 6 * s + 6 ∧ pz_bt W (q - 6 * s) = 1 then nI (ck + 1) else J 132 0 q) : pz_M (pz_sA A s (A 6 0 0) (pz_us A s p K e u W ck)) J' := by
  obtain ⟨d1, d2, d3, d4, d5, d6, d7⟩ := pz_M0s hM hs
  refine pz_M_s hM (fun c hc => hJ c (by omega)) (fun c j hc => hJ2 c j (by omega)) (fun j hj => by rw [h132, if_neg (by omega)]) (by rw [hJ 47 (by omega)]; exact hM.2.2.1) (fun t ht _ => ht) (fun _ => ?_)
  unfold pz_Ms
  rw [pz_us_7, pz_us_8, pz_us_9, pz_us_10, pz_us_11, pz_us_12, pz_us_20]
  refine ⟨h126, h127, h128, ?_, ?_, h131, fun v hv => ?_⟩
  · rw [hJ 129 (by omega)]
    exact d4
  · rw [hJ 130 (by omega)]
    exact d5
  · rw [h132, show 6 * s + v - 6 * s = v by omega]
    dsimp only
    by_cases q : pz_bt W v = 1
    · rw [if_pos ⟨by omega, by omega, q⟩, if_pos q]
    · rw [if_neg (fun z => q z.2.2), if_neg q]
      exact d7 v hv
theorem pz_so (hA : pz_wf ck A) (hb : b < A 0 0 0) (h : pz_at A b p) : nI (A 2 b 0 + A 3 b 0) - nI p = nI (pz_oth A b p) := by
  unfold pz_at at h
  rw [pz_sub (by omega)]
  unfold pz_oth
  by_cases q : p = A 2 b 0
  · rw [if_pos q, q, Nat.add_sub_cancel_left]
  · rw [if_neg q, show A 2 b 0 + A 3 b 0 - p = A 2 b 0 by omega]
theorem pz_uI_id {c i x : Nat} {z : Int32} (h : I c i x = z) : mm_uI I c i x z = I := by
  funext c' i' j'
  unfold mm_uI
  split
  · rename_i q
    rw [q.1, q.2.1, q.2.2, h]
  · rfl
theorem pz_my1 (h : pz_my A s b = 1) : pz_at A b (A 7 s 0) ∧ pz_len A b ≤ A 9 s 0 := by
  unfold pz_my at h
  by_cases h1 : pz_op A b (A 8 s 0)
  · rw [if_pos h1] at h
    by_cases h2 : pz_at A b (A 7 s 0) ∧ pz_len A b ≤ A 9 s 0
    · exact h2
    · rw [if_neg h2] at h
      cases h
  · rw [if_neg h1] at h
    cases h
theorem pz_my_n (h : ¬ pz_my A s b = 1) : pz_my A s b = 0 ∨ pz_my A s b = 2 := by
  unfold pz_my at h ⊢
  by_cases h1 : pz_op A b (A 8 s 0)
  · rw [if_pos h1] at h ⊢
    by_cases h2 : pz_at A b (A 7 s 0) ∧ pz_len A b ≤ A 9 s 0
    · rw [if_pos h2] at h
      exact absurd rfl h
    · rw [if_neg h2]
      exact Or.inr rfl
  · rw [if_neg h1]
    exact Or.inl rfl
/-- place and breath of a singer changed: what bridges tell stays -/
theorem pz_pb (hA : pz_wf ck A) (hM : pz_M A J) (hs : s < A 6 0 0) (hp : p < 6) (he : e ≤ 30) : ∃ A1, pz_wf ck A1 ∧ pz_M A1 (mm_uI (mm_uI J 126 0 s (nI p)) 128 0 s (nI e)) ∧ A1 0 = A 0 ∧ A1 1 = A 1 ∧ A1 4 = A 4 ∧ A1 5 = A 5 := by
  obtain ⟨b1, b2, b3, b4, b5, b6, b7, b8, b9, b10⟩ := hA.2.2.2.2.1 s hs
  obtain ⟨d1, d2, d3, d4, d5, d6, d7⟩ := pz_M0s hM hs
  obtain ⟨S, hS⟩ : ∃ S : Nat → Nat → Nat, S = fun c j => if c = 7 then p else if c = 9 then e else A c s j := ⟨_, rfl⟩
  have e7 : pz_sA A s (A 6 0 0) S 7 s = fun _ => p := by rw [pz_sA_e (by decide), hS]; rfl
  have e8 : pz_sA A s (A 6 0 0) S 8 s = A 8 s := by rw [pz_sA_e (by decide), hS]; rfl
  have e9 : pz_sA A s (A 6 0 0) S 9 s = fun _ => e := by rw [pz_sA_e (by decide), hS]; rfl
  have e10 : pz_sA A s (A 6 0 0) S 10 s = A 10 s := by rw [pz_sA_e (by decide), hS]; rfl
  have e11 : pz_sA A s (A 6 0 0) S 11 s = A 11 s := by rw [pz_sA_e (by decide), hS]; rfl
  have e12 : pz_sA A s (A 6 0 0) S 12 s = A 12 s := by rw [pz_sA_e (by decide), hS]; rfl
  have e18 : pz_sA A s (A 6 0 0) S 18 s = A 18 s := by rw [pz_sA_e (by decide), hS]; rfl
  have e19 : pz_sA A s (A 6 0 0) S 19 s = A 19 s := by rw [pz_sA_e (by decide), hS]; rfl
  have e20 : pz_sA A s (A 6 0 0) S 20 s = A 20 s := by rw [pz_sA_e (by decide), hS]; rfl
  refine ⟨pz_sA A s (A 6 0 0) S, pz_wf_s hA (Nat.le_refl _) hA.1 hA.2.2.2.1 (fun t ht _ => ht) (fun _ => ?_), pz_M_s hM (fun c hc => by rw [pz_uI_ne (by omega), pz_uI_ne (by omega)]) (fun c j hc => by rw [pz_uI_j (by omega), pz_uI_j (by omega)]) (fun j hj => by rw [pz_uI_ne (by decide), pz_uI_ne (by decide)]) (by rw [pz_uI_ne (by decide), pz_uI_ne (by decide)]; exact hM.2.2.1) (fun t ht _ => ht) (fun _ => ?_), pz_sA_c (by decide), pz_sA_c (by decide), pz_sA_c (by decide), pz_sA_c (by decide)⟩
  · unfold pz_wfs
    rw [e7, e8, e9, e10, e11, e12, e18, e19, e20]
    exact ⟨hp, b2, he, b4, b5, b6, b7, b8, b9, b10⟩
  · unfold pz_Ms
    rw [e7, e8, e9, e10, e11, e12, e20]
    refine ⟨?_, ?_, pz_uI_s, ?_, ?_, ?_, ?_⟩
    · rw [pz_uI_ne (by decide), pz_uI_s]
    · rw [pz_uI_ne (by decide), pz_uI_ne (by decide)]
      exact d2
    · rw [pz_uI_ne (by decide), pz_uI_ne (by decide)]
      exact d4
    · rw [pz_uI_ne (by decide), pz_uI_ne (by decide)]
      exact d5
    · rw [pz_uI_ne (by decide), pz_uI_ne (by decide)]
      exact d6
    · rw [pz_uI_ne (by decide), pz_uI_ne (by decide)]
      exact d7
/-- goOver -/
theorem sC89 (hA : pz_wf ck A) (hC : pz_C 0 A I κ) (hs : s < A 6 0 0) (hb : b < A 0 0 0) (hl : pz_len A b ≤ A 9 s 0) : ∃ I', mm_ev 89 0 [some (.inr (.inr (6, s))), some (.inr (.inr (5, b)))] [] (ids, I, L, mm_RS κ) = some (none, (ids, I', L, mm_RS κ)) ∧ (∀ c i, (c ≠ 22 ∧ c ≠ 24 ∧ c ≠ 28 ∧ c ≠ 118) ∨ i ≠ s → I' c i = I c i) ∧ I' 22 s 0 = nI (pz_oth A b (A 7 s 0)) ∧ I' 24 s 0 = nI (A 9 s 0 - pz_len A b) ∧ I' 28 s 0 = nI (A 19 s 0 + 1) ∧ ∀ v, v < 6 → I' 118 s v = if pz_bt (pz_vs (A 5 b) (A 4 b 0) &&& A 8 s 0) v = 1 then nI (A 19 s 0 + 1) else I 118 s v := by
  obtain ⟨a7, a8, a9, -⟩ := hA.2.2.2.2.1 s hs
  obtain ⟨d1, d2, d3, d4, d5, d6, d7, d8⟩ := pz_C0s hC hs
  obtain ⟨-, -, -, -, w4, w5, w6⟩ := hA.2.2.1 b hb
  obtain ⟨c1, c2, c3, c4, c5, c6⟩ := pz_C0b hC hb
  obtain ⟨I1, hI1⟩ : ∃ I1, I1 = mm_uI (mm_uI I 22 s 0 (nI (pz_oth A b (A 7 s 0)))) 24 s 0 (nI (A 9 s 0 - pz_len A b)) := ⟨_, rfl⟩
  have n1 : ∀ c, c ≠ 22 → c ≠ 24 → I1 c = I c := fun c h1 h2 => by rw [hI1, pz_uI_ne h2, pz_uI_ne h1]
  have h77 := sC77 (ids := ids) (L := L) (κ := κ) (I := I1) (i := b) (f := A 5 b) w5 (by rw [n1 19 (by decide) (by decide)]; exact c4) (fun j hj => ⟨w6 j hj, by rw [n1 117 (by decide) (by decide)]; exact c6 j hj⟩)
  obtain ⟨I', g0, g1, g2, g3⟩ := sC91 (ids := ids) (L := L) (κ := κ) (I := I1) (s := s) (B := pz_vs (A 5 b) (A 4 b 0)) (K := A 8 s 0) (d := A 19 s 0) (by rw [n1 23 (by decide) (by decide)]; exact d2) a8 (by rw [n1 28 (by decide) (by decide)]; exact d7) (pz_vs_lt w6)
  refine ⟨I', ?_, fun c i hc => ?_, ?_, ?_, g2, fun v hv => ?_⟩
  · rw [b89_0]
    simp (disch := omega) only [d1, sC82 hA hC hb a7, pz_k0, pz_k1, pz_k2, pz_k3, pz_k4, pz_k5, pz_k6, pz_k7, pz_k8, pz_k9, pz_k10, pz_k16, pz_k31, pz_k63, pz_km, nI_add, pz_mul, nI_ltI, nI_eq, nI_clamp, pz_inI, Option.bind_some, Option.toList_some, Option.toList_none, List.cons_append, List.nil_append, Nat.zero_add, Nat.mul_zero, Nat.add_zero, Nat.lt_irrefl, pz_bb, pz_bTr, Bool.false_eq_true, pz_bFa, Nat.reduceEqDiff, Nat.reduceLT, ite_not, pz_mE, pz_mE2, pz_mL, pz_mG, not_true_eq_false, not_false_eq_true, if_true, if_false, reduceIte, eq_self, true_or, or_true, or_false, false_or, and_true, true_and, and_false, false_and]
    rw [b89_9]
    simp (disch := omega) only [pz_uI_j, d3, c5, pz_k0, pz_k1, pz_k2, pz_k3, pz_k4, pz_k5, pz_k6, pz_k7, pz_k8, pz_k9, pz_k10, pz_k16, pz_k31, pz_k63, pz_km, nI_add, pz_mul, nI_ltI, nI_eq, nI_clamp, pz_inI, Option.bind_some, Option.toList_some, Option.toList_none, List.cons_append, List.nil_append, Nat.zero_add, Nat.mul_zero, Nat.add_zero, Nat.lt_irrefl, pz_bb, pz_bTr, Bool.false_eq_true, pz_bFa, Nat.reduceEqDiff, Nat.reduceLT, ite_not, pz_mE, pz_mE2, pz_mL, pz_mG, not_true_eq_false, not_false_eq_true, if_true, if_false, reduceIte, eq_self, true_or, or_true, or_false, false_or, and_true, true_and, and_false, false_and]
    rw [pz_sub hl, ← hI1, h77]
    simp (disch := omega) only [pz_k0, pz_k1, pz_k2, pz_k3, pz_k4, pz_k5, pz_k6, pz_k7, pz_k8, pz_k9, pz_k10, pz_k16, pz_k31, pz_k63, pz_km, nI_add, pz_mul, nI_ltI, nI_eq, nI_clamp, pz_inI, Option.bind_some, Option.toList_some, Option.toList_none, List.cons_append, List.nil_append, Nat.zero_add, Nat.mul_zero, Nat.add_zero, Nat.lt_irrefl, pz_bb, pz_bTr, Bool.false_eq_true, pz_bFa, Nat.reduceEqDiff, Nat.reduceLT, ite_not, pz_mE, pz_mE2, pz_mL, pz_mG, not_true_eq_false, not_false_eq_true, if_true, if_false, reduceIte, eq_self, true_or, or_true, or_false, false_or, and_true, true_and, and_false, false_and]
    rw [b89_30, g0]
    simp (disch := omega) only [pz_k0, pz_k1, pz_k2, pz_k3, pz_k4, pz_k5, pz_k6, pz_k7, pz_k8, pz_k9, pz_k10, pz_k16, pz_k31, pz_k63, pz_km, nI_add, pz_mul, nI_ltI, nI_eq, nI_clamp, pz_inI, Option.bind_some, Option.toList_some, Option.toList_none, List.cons_append, List.nil_append, Nat.zero_add, Nat.mul_zero, Nat.add_zero, Nat.lt_irrefl, pz_bb, pz_bTr, Bool.false_eq_true, pz_bFa, Nat.reduceEqDiff, Nat.reduceLT, ite_not, pz_mE, pz_mE2, pz_mL, pz_mG, not_true_eq_false, not_false_eq_true, if_true, if_false, reduceIte, eq_self, true_or, or_true, or_false, false_or, and_true, true_and, and_false, false_and]
    rw [b89_33]
  · rw [g1 c i (by omega), hI1, pz_uI_i (by omega), pz_uI_i (by omega)]
  · rw [g1 22 s (by omega), hI1, pz_uI_ne (by decide), pz_uI_s]
  · rw [g1 24 s (by omega), hI1, pz_uI_s]
  · rw [g3 v hv, n1 118 (by decide) (by decide)]
theorem op13 (h : pz_Q k ck n g f A κ I J) (hk : k < 64) (x y : Int32) : lw_two (pz_R (k + 1)) 13 144 [.inl x, .inl y] (mm_idC, I, LC, mm_RS κ) (mm_idM, J, LM, mm_RM) := by
  obtain ⟨q1, q2, q3, hA, hC, hM, -⟩ := id h
  have h9 := hA.2.1
  have h5 := hA.2.2.2.1
  by_cases hx : pz_rg x (A 6 0 0)
  · have hx' := hx
    by_cases hy : pz_rg y (A 0 0 0)
    · have hy' := hy
      obtain ⟨s, hs, rfl⟩ := hx
      obtain ⟨b, hb, rfl⟩ := hy
      have hs5 : s < 5 := by omega
      have hb9 : b < 9 := by omega
      have hsC := sC12 (ids := mm_idC) (L := LC) hA hC hs hb
      have hsM := sM142 (ids := mm_idM) (L := LM) hA hM hs hb
      by_cases hm : pz_my A s b = 1
      · obtain ⟨hat, hl⟩ := pz_my1 hm
        rw [hm] at hsC hsM
        obtain ⟨I', g0, g1, g2, g3, g4, g5⟩ := sC89 (ids := mm_idC) (L := LC) hA hC hs hb hl
        obtain ⟨a7, a8, a9, -⟩ := hA.2.2.2.2.1 s hs
        obtain ⟨w1, w2, w3, w23, w4, w5, w6⟩ := hA.2.2.1 b hb
        obtain ⟨d1, d2, d3, d4, d5, d6, d7⟩ := pz_M0s hM hs
        obtain ⟨m1, m2, m3, m4, m5, m6⟩ := pz_M0b hM hb
        have ho := pz_oth_lt (p := A 7 s 0) hA hb
        have hlen := pz_len_b hA hb
        have hvs := pz_vs_lt w6
        have hW : pz_vs (A 5 b) (A 4 b 0) &&& A 8 s 0 < 64 := Nat.lt_of_le_of_lt Nat.and_le_left hvs
        obtain ⟨J1, hJ1⟩ : ∃ J1, J1 = mm_uI J 126 0 s (nI (pz_oth A b (A 7 s 0))) := ⟨_, rfl⟩
        obtain ⟨J2, hJ2⟩ : ∃ J2, J2 = mm_uI J1 128 0 s (nI (A 9 s 0 - pz_len A b)) := ⟨_, rfl⟩
        obtain ⟨J3, hJ3⟩ : ∃ J3, J3 = mm_uI J2 55 0 0 (nI (ck + 1)) := ⟨_, rfl⟩
        have s125 : mm_ev 125 0 [some (.inr (.inr (9, 0))), some (.inl (nI b))] [] (mm_idM, J1, LM, mm_RM) = some (some (.inl (nI (pz_len A b))), (mm_idM, J1, LM, mm_RM)) := by
          obtain ⟨A1, r1, r2, r3, r4, r5, r6⟩ := pz_pb hA hM hs ho a9
          rw [pz_uI_id (z := nI (A 9 s 0)) (by rw [pz_uI_ne (by decide)]; exact d3), ← hJ1] at r2
          have := sM125 (ids := mm_idM) (L := LM) (b := b) r1 r2 (by rw [r3]; exact hb)
          rw [show pz_len A1 b = pz_len A b by unfold pz_len; rw [r4, r5, r6]] at this
          exact this
        have s124 : mm_ev 124 0 [some (.inr (.inr (9, 0))), some (.inl (nI b)), none, none] [] (mm_idM, J3, LM, mm_RM) = some (some (.inl (nI (pz_vs (A 5 b) (A 4 b 0)))), (mm_idM, J3, LM, mm_RM)) := by
          obtain ⟨A1, r1, r2, r3, r4, r5, r6⟩ := pz_pb (e := A 9 s 0 - pz_len A b) hA hM hs ho (by omega)
          rw [← hJ1, ← hJ2] at r2
          have r7 : pz_M A1 J3 := pz_M_g (fun c hc => by rw [hJ3, pz_uI_ne (by omega)]) r2
          have := sM124 (ids := mm_idM) (L := LM) (b := b) r1 r7 (by rw [r3]; exact hb)
          rw [r5, r6] at this
          exact this
        have n3 : ∀ c, c ≠ 126 → c ≠ 128 → c ≠ 55 → J3 c = J c := fun c h1 h2 h3 => by rw [hJ3, pz_uI_ne h3, hJ2, pz_uI_ne h2, hJ1, pz_uI_ne h1]
        have hst : mm_ev 144 32 [some (.inr (.inr (9, 0))), some (.inl (nI s)), some (.inl (nI b)), none, none] [] (mm_idM, J, LM, mm_RM) = mm_ev 144 98 [some (.inr (.inr (9, 0))), some (.inl (nI s)), some (.inl (nI b)), some (.inl (nI (pz_vs (A 5 b) (A 4 b 0) &&& A 8 s 0))), some (.inl (nI 0))] [] (mm_idM, J3, LM, mm_RM) := by
          rw [b144_32]
          simp (disch := omega) only [hb9, m2, b144_43, m3, b144_49, hs5, d1, b144_56, pz_k0, pz_k1, pz_k2, pz_k3, pz_k4, pz_k5, pz_k6, pz_k7, pz_k8, pz_k9, pz_k10, pz_k16, pz_k31, pz_k63, pz_km, nI_add, pz_mul, nI_ltI, nI_eq, nI_clamp, pz_inI, Option.bind_some, Option.toList_some, Option.toList_none, List.cons_append, List.nil_append, Nat.zero_add, Nat.mul_zero, Nat.add_zero, Nat.lt_irrefl, pz_bb, pz_bTr, Bool.false_eq_true, pz_bFa, Nat.reduceEqDiff, Nat.reduceLT, ite_not, pz_mE, pz_mE2, pz_mL, pz_mG, not_true_eq_false, not_false_eq_true, if_true, if_false, reduceIte, eq_self, true_or, or_true, or_false, false_or, and_true, true_and, and_false, false_and]
          rw [pz_so hA hb hat, ← hJ1]
          have e128 : J1 128 0 s = nI (A 9 s 0) := by rw [hJ1, pz_uI_ne (by decide)]; exact d3
          simp (disch := omega) only [b144_58, hs5, e128, b144_65, s125, b144_70, pz_k0, pz_k1, pz_k2, pz_k3, pz_k4, pz_k5, pz_k6, pz_k7, pz_k8, pz_k9, pz_k10, pz_k16, pz_k31, pz_k63, pz_km, nI_add, pz_mul, nI_ltI, nI_eq, nI_clamp, pz_inI, Option.bind_some, Option.toList_some, Option.toList_none, List.cons_append, List.nil_append, Nat.zero_add, Nat.mul_zero, Nat.add_zero, Nat.lt_irrefl, pz_bb, pz_bTr, Bool.false_eq_true, pz_bFa, Nat.reduceEqDiff, Nat.reduceLT, ite_not, pz_mE, pz_mE2, pz_mL, pz_mG, not_true_eq_false, not_false_eq_true, if_true, if_false, reduceIte, eq_self, true_or, or_true, or_false, false_or, and_true, true_and, and_false, false_and]
          rw [pz_sub hl, ← hJ2, b144_72]
          have e55 : J2 55 0 0 = nI ck := by rw [hJ2, pz_uI_ne (by decide), hJ1, pz_uI_ne (by decide)]; exact q3
          simp (disch := omega) only [e55, pz_k0, pz_k1, pz_k2, pz_k3, pz_k4, pz_k5, pz_k6, pz_k7, pz_k8, pz_k9, pz_k10, pz_k16, pz_k31, pz_k63, pz_km, nI_add, pz_mul, nI_ltI, nI_eq, nI_clamp, pz_inI, Option.bind_some, Option.toList_some, Option.toList_none, List.cons_append, List.nil_append, Nat.zero_add, Nat.mul_zero, Nat.add_zero, Nat.lt_irrefl, pz_bb, pz_bTr, Bool.false_eq_true, pz_bFa, Nat.reduceEqDiff, Nat.reduceLT, ite_not, pz_mE, pz_mE2, pz_mL, pz_mG, not_true_eq_false, not_false_eq_true, if_true, if_false, reduceIte, eq_self, true_or, or_true, or_false, false_or, and_true, true_and, and_false, false_and]
          rw [← hJ3, s124]
          have e127 : J3 127 0 s = nI (A 8 s 0) := by rw [n3 127 (by decide) (by decide) (by decide)]; exact d2
          simp (disch := omega) only [b144_87, hs5, e127, b144_93, pz_and, pz_k0, pz_k1, pz_k2, pz_k3, pz_k4, pz_k5, pz_k6, pz_k7, pz_k8, pz_k9, pz_k10, pz_k16, pz_k31, pz_k63, pz_km, nI_add, pz_mul, nI_ltI, nI_eq, nI_clamp, pz_inI, Option.bind_some, Option.toList_some, Option.toList_none, List.cons_append, List.nil_append, Nat.zero_add, Nat.mul_zero, Nat.add_zero, Nat.lt_irrefl, pz_bb, pz_bTr, Bool.false_eq_true, pz_bFa, Nat.reduceEqDiff, Nat.reduceLT, ite_not, pz_mE, pz_mE2, pz_mL, pz_mG, not_true_eq_false, not_false_eq_true, if_true, if_false, reduceIte, eq_self, true_or, or_true, or_false, false_or, and_true, true_and, and_false, false_and]
        obtain ⟨W, hWe⟩ : ∃ W, W = pz_vs (A 5 b) (A 4 b 0) &&& A 8 s 0 := ⟨_, rfl⟩
        rw [← hWe] at hst g5 hW
        have hW5 : W < 512 := by omega
        have hlp := pz_loopP (fun v (j : mm_HI) => mm_ev 144 98 [some (.inr (.inr (9, 0))), some (.inl (nI s)), some (.inl (nI b)), some (.inl (nI W)), some (.inl (nI v))] [] (mm_idM, j, LM, mm_RM)) (fun v j => (∀ c, c ≠ 132 → j c = J3 c) ∧ ∀ q, j 132 0 q = if 6 * s ≤ q ∧ q < 6 * s + v ∧ pz_bt W (q - 6 * s) = 1 then nI (ck + 1) else J 132 0 q) 6 (fun v j hv hj => ?_) J3 ⟨fun _ _ => rfl, fun q => by rw [if_neg (by omega), n3 132 (by decide) (by decide) (by decide)]⟩
        · obtain ⟨J', hJ', r1, r2⟩ := hlp
          have n4 : ∀ c, c ≠ 126 → c ≠ 128 → c ≠ 55 → c ≠ 132 → J' c = J c := fun c h1 h2 h3 h4 => by rw [r1 c h4]; exact n3 c h1 h2 h3
          have t126 : J' 126 0 s = nI (pz_oth A b (A 7 s 0)) := by rw [r1 126 (by decide), hJ3, pz_uI_ne (by decide), hJ2, pz_uI_ne (by decide), hJ1, pz_uI_s]
          have t128 : J' 128 0 s = nI (A 9 s 0 - pz_len A b) := by rw [r1 128 (by decide), hJ3, pz_uI_ne (by decide), hJ2, pz_uI_s]
          have hj2 : ∀ c j, c ≠ 55 ∧ c ≠ 132 ∧ j ≠ s → J' c 0 j = J c 0 j := fun c j hc => by rw [r1 c hc.2.1, hJ3, pz_uI_ne hc.1, hJ2, pz_uI_j (by omega), hJ1, pz_uI_j (by omega)]
          refine pz_two (laC := [some (.inr (.inr (1, 0))), some (.inl _), some (.inl _), none, none]) (laM := [some (.inr (.inr (9, 0))), some (.inl _), some (.inl _), none, none]) (by rw [show mm_mL 13 = 5 from by decide +kernel]; rfl) (by rw [show mm_mL 144 = 5 from by decide +kernel]; rfl) (r :=  nI (pz_oth A b (A 7 s 0))) (hC' := (mm_idC, I', LC, mm_RS κ)) (hM' := (mm_idM, J', LM, mm_RM)) ?_ ?_ ?_
          · rw [b13_0, hsC]
            simp (disch := omega) only [b13_6, show ¬ nI 1 = (-101 : Int32) by decide, show ¬ nI 1 = -nI 101 by decide, b13_16, b13_24, hs5, b13_33, hb9, b13_46, g0, b13_49, g2, pz_k0, pz_k1, pz_k2, pz_k3, pz_k4, pz_k5, pz_k6, pz_k7, pz_k8, pz_k9, pz_k10, pz_k16, pz_k31, pz_k63, pz_km, nI_add, pz_mul, nI_ltI, nI_eq, nI_clamp, pz_inI, Option.bind_some, Option.toList_some, Option.toList_none, List.cons_append, List.nil_append, Nat.zero_add, Nat.mul_zero, Nat.add_zero, Nat.lt_irrefl, pz_bb, pz_bTr, Bool.false_eq_true, pz_bFa, Nat.reduceEqDiff, Nat.reduceLT, ite_not, pz_mE, pz_mE2, pz_mL, pz_mG, not_true_eq_false, not_false_eq_true, if_true, if_false, reduceIte, eq_self, true_or, or_true, or_false, false_or, and_true, true_and, and_false, false_and]
          · rw [b144_0]
            simp (disch := omega) only [sM134 hA hM, sM123 hA hM, pz_bT hx', pz_bT hy', b144_5, b144_8, b144_13, b144_19, hsM, b144_25, pz_k0, pz_k1, pz_k2, pz_k3, pz_k4, pz_k5, pz_k6, pz_k7, pz_k8, pz_k9, pz_k10, pz_k16, pz_k31, pz_k63, pz_km, nI_add, pz_mul, nI_ltI, nI_eq, nI_clamp, pz_inI, Option.bind_some, Option.toList_some, Option.toList_none, List.cons_append, List.nil_append, Nat.zero_add, Nat.mul_zero, Nat.add_zero, Nat.lt_irrefl, pz_bb, pz_bTr, Bool.false_eq_true, pz_bFa, Nat.reduceEqDiff, Nat.reduceLT, ite_not, pz_mE, pz_mE2, pz_mL, pz_mG, not_true_eq_false, not_false_eq_true, if_true, if_false, reduceIte, eq_self, true_or, or_true, or_false, false_or, and_true, true_and, and_false, false_and]
            rw [hst]
            refine Eq.trans hJ' ?_
            rw [b144_98]
            simp (disch := omega) only [b144_151, hs5, t126, b144_157, pz_k0, pz_k1, pz_k2, pz_k3, pz_k4, pz_k5, pz_k6, pz_k7, pz_k8, pz_k9, pz_k10, pz_k16, pz_k31, pz_k63, pz_km, nI_add, pz_mul, nI_ltI, nI_eq, nI_clamp, pz_inI, Option.bind_some, Option.toList_some, Option.toList_none, List.cons_append, List.nil_append, Nat.zero_add, Nat.mul_zero, Nat.add_zero, Nat.lt_irrefl, pz_bb, pz_bTr, Bool.false_eq_true, pz_bFa, Nat.reduceEqDiff, Nat.reduceLT, ite_not, pz_mE, pz_mE2, pz_mL, pz_mG, not_true_eq_false, not_false_eq_true, if_true, if_false, reduceIte, eq_self, true_or, or_true, or_false, false_or, and_true, true_and, and_false, false_and]
          · refine pz_put (A' := pz_sA A s (A 6 0 0) (pz_us A s (pz_oth A b (A 7 s 0)) (A 8 s 0) (A 9 s 0 - pz_len A b) (A 12 s 0) W ck)) (ck' := ck + 1) h hk q1 (by omega) (Nat.le_refl _) ?_ (pz_us_wf hA (by omega) hs ho a8 (by omega) (hA.2.2.2.2.1 s hs).2.2.2.2.2.2.1 (fun v _ hv => Or.inl hv)) (pz_us_C hC hs (fun c i hc => g1 c i (by omega)) g2 ?_ g3 ?_ g4 g5) (pz_us_M hM hs (fun c hc => n4 c (by omega) (by omega) (by omega) (by omega)) hj2 t126 ?_ t128 ?_ r2) ?_ (fun _ => rfl) ?_ ?_ ?_ (Nat.le_refl _) (by rw [pz_sA_6]; omega)
            · rw [r1 55 (by decide), hJ3, pz_uI_s]
            · rw [g1 23 s (by omega)]
              exact (pz_C0s hC hs).2.1
            · rw [g1 27 s (by omega)]
              exact (pz_C0s hC hs).2.2.2.2.2.1
            · rw [n4 127 (by decide) (by decide) (by decide) (by decide)]
              exact d2
            · rw [n4 131 (by decide) (by decide) (by decide) (by decide)]
              exact d6
            · intro c i hc
              refine g1 c i ?_
              unfold pz_kk pz_kw at hc
              omega
            · intro c hc
              unfold pz_kz at hc
              simp only [Bool.or_eq_true, beq_iff_eq] at hc
              exact n4 c (by omega) (by omega) (by omega) (by omega)
            · intro c b hc _
              rw [n4 c (by omega) (by omega) (by omega) (by omega)]
            · intro c b hc _
              rw [n4 c (by omega) (by omega) (by omega) (by omega)]
        · try dsimp only at hj
          try dsimp only
          obtain ⟨r1, r2⟩ := hj
          have e55 : j 55 0 0 = nI (ck + 1) := by rw [r1 55 (by decide), hJ3, pz_uI_s]
          have h2 := pz_bt2 (v := W) (s := v)
          have e132 : j 132 0 (6 * s + v) = J 132 0 (6 * s + v) := by rw [r2, if_neg (by omega)]
          by_cases hb1 : pz_bt W v = 1
          · refine ⟨mm_uI j 132 0 (6 * s + v) (nI (ck + 1)), ?_, fun c hc => by rw [pz_uI_ne hc]; exact r1 c hc, fun q => ?_⟩
            · rw [b144_98]
              simp (disch := omega) only [hv, b144_105, sM114 hW5 (show v < 10 by omega), pz_bT hb1, b144_122, b144_125, e55, b144_144, show 6 * s + v < 30 by omega, b144_145, pz_k0, pz_k1, pz_k2, pz_k3, pz_k4, pz_k5, pz_k6, pz_k7, pz_k8, pz_k9, pz_k10, pz_k16, pz_k31, pz_k63, pz_km, nI_add, pz_mul, nI_ltI, nI_eq, nI_clamp, pz_inI, Option.bind_some, Option.toList_some, Option.toList_none, List.cons_append, List.nil_append, Nat.zero_add, Nat.mul_zero, Nat.add_zero, Nat.lt_irrefl, pz_bb, pz_bTr, Bool.false_eq_true, pz_bFa, Nat.reduceEqDiff, Nat.reduceLT, ite_not, pz_mE, pz_mE2, pz_mL, pz_mG, not_true_eq_false, not_false_eq_true, if_true, if_false, reduceIte, eq_self, true_or, or_true, or_false, false_or, and_true, true_and, and_false, false_and]
            · rw [pz_uI_at, r2]
              by_cases eq : q = 6 * s + v
              · rw [if_pos eq, if_pos (by rw [eq, show 6 * s + v - 6 * s = v by omega]; exact ⟨by omega, by omega, hb1⟩)]
              · rw [if_neg eq]
                by_cases ec : 6 * s ≤ q ∧ q < 6 * s + v ∧ pz_bt W (q - 6 * s) = 1
                · rw [if_pos ec, if_pos ⟨ec.1, by omega, ec.2.2⟩]
                · rw [if_neg ec, if_neg (fun z => ec ⟨z.1, by omega, z.2.2⟩)]
          · refine ⟨mm_uI j 132 0 (6 * s + v) (J 132 0 (6 * s + v)), ?_, fun c hc => by rw [pz_uI_ne hc]; exact r1 c hc, fun q => ?_⟩
            · rw [b144_98]
              simp (disch := omega) only [hv, b144_105, sM114 hW5 (show v < 10 by omega), pz_bF hb1, b144_122, b144_132, show 6 * s + v < 30 by omega, e132, b144_144, b144_145, pz_k0, pz_k1, pz_k2, pz_k3, pz_k4, pz_k5, pz_k6, pz_k7, pz_k8, pz_k9, pz_k10, pz_k16, pz_k31, pz_k63, pz_km, nI_add, pz_mul, nI_ltI, nI_eq, nI_clamp, pz_inI, Option.bind_some, Option.toList_some, Option.toList_none, List.cons_append, List.nil_append, Nat.zero_add, Nat.mul_zero, Nat.add_zero, Nat.lt_irrefl, pz_bb, pz_bTr, Bool.false_eq_true, pz_bFa, Nat.reduceEqDiff, Nat.reduceLT, ite_not, pz_mE, pz_mE2, pz_mL, pz_mG, not_true_eq_false, not_false_eq_true, if_true, if_false, reduceIte, eq_self, true_or, or_true, or_false, false_or, and_true, true_and, and_false, false_and]
            · rw [pz_uI_id e132, r2]
              by_cases ec : 6 * s ≤ q ∧ q < 6 * s + v ∧ pz_bt W (q - 6 * s) = 1
              · rw [if_pos ec, if_pos ⟨ec.1, by omega, ec.2.2⟩]
              · rw [if_neg ec, if_neg]
                rintro ⟨z1, z2, z3⟩
                by_cases eq : q - 6 * s = v
                · rw [eq] at z3
                  exact hb1 z3
                · exact ec ⟨z1, by omega, z3⟩
      · refine pz_two (laC := [some (.inr (.inr (1, 0))), some (.inl _), some (.inl _), none, none]) (laM := [some (.inr (.inr (9, 0))), some (.inl _), some (.inl _), none, none]) (by rw [show mm_mL 13 = 5 from by decide +kernel]; rfl) (by rw [show mm_mL 144 = 5 from by decide +kernel]; rfl) (r :=  -103) ?_ ?_ (pz_rd0 (LC' := LC) (LM' := LM) h)
        · rw [b13_0, hsC]
          rcases pz_my_n hm with e | e
          · rw [e]
            simp (disch := omega) only [b13_6, show ¬ nI 0 = (-101 : Int32) by decide, show ¬ nI 0 = -nI 101 by decide, b13_16, b13_21, pz_k0, pz_k1, pz_k2, pz_k3, pz_k4, pz_k5, pz_k6, pz_k7, pz_k8, pz_k9, pz_k10, pz_k16, pz_k31, pz_k63, pz_km, nI_add, pz_mul, nI_ltI, nI_eq, nI_clamp, pz_inI, Option.bind_some, Option.toList_some, Option.toList_none, List.cons_append, List.nil_append, Nat.zero_add, Nat.mul_zero, Nat.add_zero, Nat.lt_irrefl, pz_bb, pz_bTr, Bool.false_eq_true, pz_bFa, Nat.reduceEqDiff, Nat.reduceLT, ite_not, pz_mE, pz_mE2, pz_mL, pz_mG, not_true_eq_false, not_false_eq_true, if_true, if_false, reduceIte, eq_self, true_or, or_true, or_false, false_or, and_true, true_and, and_false, false_and]
          · rw [e]
            simp (disch := omega) only [b13_6, show ¬ nI 2 = (-101 : Int32) by decide, show ¬ nI 2 = -nI 101 by decide, b13_16, b13_21, pz_k0, pz_k1, pz_k2, pz_k3, pz_k4, pz_k5, pz_k6, pz_k7, pz_k8, pz_k9, pz_k10, pz_k16, pz_k31, pz_k63, pz_km, nI_add, pz_mul, nI_ltI, nI_eq, nI_clamp, pz_inI, Option.bind_some, Option.toList_some, Option.toList_none, List.cons_append, List.nil_append, Nat.zero_add, Nat.mul_zero, Nat.add_zero, Nat.lt_irrefl, pz_bb, pz_bTr, Bool.false_eq_true, pz_bFa, Nat.reduceEqDiff, Nat.reduceLT, ite_not, pz_mE, pz_mE2, pz_mL, pz_mG, not_true_eq_false, not_false_eq_true, if_true, if_false, reduceIte, eq_self, true_or, or_true, or_false, false_or, and_true, true_and, and_false, false_and]
        · rw [b144_0]
          simp (disch := omega) only [sM134 hA hM, sM123 hA hM, pz_bT hx', pz_bT hy', b144_5, b144_8, b144_13, b144_19, hsM, pz_k0, pz_k1, pz_k2, pz_k3, pz_k4, pz_k5, pz_k6, pz_k7, pz_k8, pz_k9, pz_k10, pz_k16, pz_k31, pz_k63, pz_km, nI_add, pz_mul, nI_ltI, nI_eq, nI_clamp, pz_inI, Option.bind_some, Option.toList_some, Option.toList_none, List.cons_append, List.nil_append, Nat.zero_add, Nat.mul_zero, Nat.add_zero, Nat.lt_irrefl, pz_bb, pz_bTr, Bool.false_eq_true, pz_bFa, Nat.reduceEqDiff, Nat.reduceLT, ite_not, pz_mE, pz_mE2, pz_mL, pz_mG, not_true_eq_false, not_false_eq_true, if_true, if_false, reduceIte, eq_self, true_or, or_true, or_false, false_or, and_true, true_and, and_false, false_and]
          rcases pz_my_n hm with e | e
          · rw [e]
            simp (disch := omega) only [b144_25, b144_29, pz_k0, pz_k1, pz_k2, pz_k3, pz_k4, pz_k5, pz_k6, pz_k7, pz_k8, pz_k9, pz_k10, pz_k16, pz_k31, pz_k63, pz_km, nI_add, pz_mul, nI_ltI, nI_eq, nI_clamp, pz_inI, Option.bind_some, Option.toList_some, Option.toList_none, List.cons_append, List.nil_append, Nat.zero_add, Nat.mul_zero, Nat.add_zero, Nat.lt_irrefl, pz_bb, pz_bTr, Bool.false_eq_true, pz_bFa, Nat.reduceEqDiff, Nat.reduceLT, ite_not, pz_mE, pz_mE2, pz_mL, pz_mG, not_true_eq_false, not_false_eq_true, if_true, if_false, reduceIte, eq_self, true_or, or_true, or_false, false_or, and_true, true_and, and_false, false_and]
          · rw [e]
            simp (disch := omega) only [b144_25, b144_29, pz_k0, pz_k1, pz_k2, pz_k3, pz_k4, pz_k5, pz_k6, pz_k7, pz_k8, pz_k9, pz_k10, pz_k16, pz_k31, pz_k63, pz_km, nI_add, pz_mul, nI_ltI, nI_eq, nI_clamp, pz_inI, Option.bind_some, Option.toList_some, Option.toList_none, List.cons_append, List.nil_append, Nat.zero_add, Nat.mul_zero, Nat.add_zero, Nat.lt_irrefl, pz_bb, pz_bTr, Bool.false_eq_true, pz_bFa, Nat.reduceEqDiff, Nat.reduceLT, ite_not, pz_mE, pz_mE2, pz_mL, pz_mG, not_true_eq_false, not_false_eq_true, if_true, if_false, reduceIte, eq_self, true_or, or_true, or_false, false_or, and_true, true_and, and_false, false_and]
    · refine pz_two (laC := [some (.inr (.inr (1, 0))), some (.inl _), some (.inl _), none, none]) (laM := [some (.inr (.inr (9, 0))), some (.inl _), some (.inl _), none, none]) (by rw [show mm_mL 13 = 5 from by decide +kernel]; rfl) (by rw [show mm_mL 144 = 5 from by decide +kernel]; rfl) (r :=  -101) ?_ ?_ (pz_rd0 (LC' := LC) (LM' := LM) h)
      · rw [b13_0, sC12F hA hC (fun q => hy q.2)]
        simp (disch := omega) only [b13_6, b13_13, pz_k0, pz_k1, pz_k2, pz_k3, pz_k4, pz_k5, pz_k6, pz_k7, pz_k8, pz_k9, pz_k10, pz_k16, pz_k31, pz_k63, pz_km, nI_add, pz_mul, nI_ltI, nI_eq, nI_clamp, pz_inI, Option.bind_some, Option.toList_some, Option.toList_none, List.cons_append, List.nil_append, Nat.zero_add, Nat.mul_zero, Nat.add_zero, Nat.lt_irrefl, pz_bb, pz_bTr, Bool.false_eq_true, pz_bFa, Nat.reduceEqDiff, Nat.reduceLT, ite_not, pz_mE, pz_mE2, pz_mL, pz_mG, not_true_eq_false, not_false_eq_true, if_true, if_false, reduceIte, eq_self, true_or, or_true, or_false, false_or, and_true, true_and, and_false, false_and]
      · rw [b144_0]
        simp (disch := omega) only [sM134 hA hM, sM123 hA hM, pz_bT hx', pz_bF hy, b144_5, b144_8, b144_13, b144_16, pz_k0, pz_k1, pz_k2, pz_k3, pz_k4, pz_k5, pz_k6, pz_k7, pz_k8, pz_k9, pz_k10, pz_k16, pz_k31, pz_k63, pz_km, nI_add, pz_mul, nI_ltI, nI_eq, nI_clamp, pz_inI, Option.bind_some, Option.toList_some, Option.toList_none, List.cons_append, List.nil_append, Nat.zero_add, Nat.mul_zero, Nat.add_zero, Nat.lt_irrefl, pz_bb, pz_bTr, Bool.false_eq_true, pz_bFa, Nat.reduceEqDiff, Nat.reduceLT, ite_not, pz_mE, pz_mE2, pz_mL, pz_mG, not_true_eq_false, not_false_eq_true, if_true, if_false, reduceIte, eq_self, true_or, or_true, or_false, false_or, and_true, true_and, and_false, false_and]
  · refine pz_two (laC := [some (.inr (.inr (1, 0))), some (.inl _), some (.inl _), none, none]) (laM := [some (.inr (.inr (9, 0))), some (.inl _), some (.inl _), none, none]) (by rw [show mm_mL 13 = 5 from by decide +kernel]; rfl) (by rw [show mm_mL 144 = 5 from by decide +kernel]; rfl) (r :=  -101) ?_ ?_ (pz_rd0 (LC' := LC) (LM' := LM) h)
    · rw [b13_0, sC12F hA hC (fun q => hx q.1)]
      simp (disch := omega) only [b13_6, b13_13, pz_k0, pz_k1, pz_k2, pz_k3, pz_k4, pz_k5, pz_k6, pz_k7, pz_k8, pz_k9, pz_k10, pz_k16, pz_k31, pz_k63, pz_km, nI_add, pz_mul, nI_ltI, nI_eq, nI_clamp, pz_inI, Option.bind_some, Option.toList_some, Option.toList_none, List.cons_append, List.nil_append, Nat.zero_add, Nat.mul_zero, Nat.add_zero, Nat.lt_irrefl, pz_bb, pz_bTr, Bool.false_eq_true, pz_bFa, Nat.reduceEqDiff, Nat.reduceLT, ite_not, pz_mE, pz_mE2, pz_mL, pz_mG, not_true_eq_false, not_false_eq_true, if_true, if_false, reduceIte, eq_self, true_or, or_true, or_false, false_or, and_true, true_and, and_false, false_and]
    · rw [b144_0]
      simp (disch := omega) only [sM134 hA hM, pz_bF hx, b144_5, b144_16, pz_k0, pz_k1, pz_k2, pz_k3, pz_k4, pz_k5, pz_k6, pz_k7, pz_k8, pz_k9, pz_k10, pz_k16, pz_k31, pz_k63, pz_km, nI_add, pz_mul, nI_ltI, nI_eq, nI_clamp, pz_inI, Option.bind_some, Option.toList_some, Option.toList_none, List.cons_append, List.nil_append, Nat.zero_add, Nat.mul_zero, Nat.add_zero, Nat.lt_irrefl, pz_bb, pz_bTr, Bool.false_eq_true, pz_bFa, Nat.reduceEqDiff, Nat.reduceLT, ite_not, pz_mE, pz_mE2, pz_mL, pz_mG, not_true_eq_false, not_false_eq_true, if_true, if_false, reduceIte, eq_self, true_or, or_true, or_false, false_or, and_true, true_and, and_false, false_and]
end PZ57
