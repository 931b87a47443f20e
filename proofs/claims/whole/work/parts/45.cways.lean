/-! the class: ways -/
def pz_w (I : mm_HI) (c n : Nat) (D : Nat → Nat) : mm_HI := fun c' i j => if c' = c ∧ i = 0 ∧ j < n then nI (D j) else I c' i j
theorem pz_w_r {I : mm_HI} {c n x : Nat} {D : Nat → Nat} (h : x < n) : pz_w I c n D c 0 x = nI (D x) := if_pos ⟨rfl, rfl, h⟩
theorem pz_w_u {I : mm_HI} {c n x y : Nat} {D : Nat → Nat} (h : x < n) : mm_uI (pz_w I c n D) c 0 x (nI y) = pz_w I c n (pz_up D x y) := by
  funext c' i j
  unfold mm_uI pz_w pz_up
  by_cases hc : c' = c
  · by_cases hi : i = 0
    · by_cases hj : j = x
      · subst hc; subst hi; subst hj
        rw [if_pos ⟨rfl, rfl, rfl⟩, if_pos ⟨rfl, rfl, h⟩, if_pos rfl]
      · rw [if_neg (fun z => hj z.2.2), if_neg hj]
    · rw [if_neg (fun z => hi z.2.1), if_neg (fun z => hi z.2.1), if_neg (fun z => hi z.2.1)]
  · rw [if_neg (fun z => hc z.1), if_neg (fun z => hc z.1), if_neg (fun z => hc z.1)]
theorem pz_w_w {I : mm_HI} {c n : Nat} {D E : Nat → Nat} : pz_w (pz_w I c n D) c n E = pz_w I c n E := by
  funext c' i j
  unfold pz_w
  by_cases h : c' = c ∧ i = 0 ∧ j < n
  · rw [if_pos h, if_pos h]
  · rw [if_neg h, if_neg h, if_neg h]
theorem pz_w_fr {I : mm_HI} {c n : Nat} {D : Nat → Nat} (hc : pz_sc c = true) : pz_fr I (pz_w I c n D) := by
  intro c' hc'
  funext i j
  unfold pz_w
  rw [if_neg]
  rintro ⟨rfl, -⟩
  rw [hc] at hc'
  cases hc'
def pz_fl (I : mm_HI) (c i n : Nat) (x : Int32) : mm_HI := fun c' i' j => if c' = c ∧ i' = i ∧ j < n then x else I c' i' j
theorem pz_mn {a b : Nat} : (if a < b then nI a else nI b) = nI (min b a) := by
  split
  · rw [Nat.min_eq_right (by omega)]
  · rw [Nat.min_eq_left (by omega)]
theorem s177 {R : mm_HR} {ids : List (Nat × Nat)} {I : mm_HI} {L : mm_HL} {r i : Nat} {x : Int32} (hk : mm_kd r = 1) (hn : mm_ln r < 2 ^ 31) : mm_ev 177 0 [some (.inr (.inr (r, i))), some (.inl (x)), none, none] [] (ids, I, L, R) = some (none, (ids, pz_fl I (100 + r) i (mm_ln r) x, L, R)) := by
  rw [b177_0 _ _ _ _ _ hk]
  have h0 : pz_fl I (100 + r) i 0 x = I := by
    funext c' i' j
    exact if_neg (fun z => Nat.not_lt_zero _ z.2.2)
  refine Eq.trans ?_ ((pz_loop (fun k => mm_ev 177 5 [some (.inr (.inr (r, i))), some (.inl (x)), some (.inl (nI k)), some (.inl (nI (mm_ln r)))] [] (ids, pz_fl I (100 + r) i k x, L, R)) (mm_ln r) (fun k h => ?_)).trans ?_)
  · try dsimp only
    rw [h0]
    rfl
  · try dsimp only
    rw [b177_5 _ _ _ _ _ hk]
    simp (disch := omega) only [h, b177_10 _ _ _ _ _ hk, b177_14 _ _ _ _ _ hk, pz_k0, pz_k1, pz_k2, pz_k3, pz_k4, pz_k5, pz_k6, pz_k7, pz_k8, pz_k9, pz_k10, pz_k16, pz_k31, pz_k63, pz_km, nI_add, pz_mul, nI_ltI, nI_eq, nI_clamp, pz_inI, Option.bind_some, Option.toList_some, Option.toList_none, List.cons_append, List.nil_append, Nat.zero_add, Nat.mul_zero, Nat.add_zero, Nat.lt_irrefl, pz_bb, pz_bTr, Bool.false_eq_true, pz_bFa, Nat.reduceEqDiff, Nat.reduceLT, ite_not, pz_mE, pz_mE2, pz_mL, pz_mG, not_true_eq_false, not_false_eq_true, if_true, if_false, reduceIte, eq_self, true_or, or_true, or_false, false_or, and_true, true_and, and_false, false_and]
    congr 3
    funext c' i' j
    unfold mm_uI pz_fl
    by_cases hc : c' = 100 + r ∧ i' = i
    · obtain ⟨rfl, rfl⟩ := hc
      by_cases hj : j = k
      · rw [if_pos ⟨rfl, rfl, hj⟩, if_pos ⟨rfl, rfl, by omega⟩]
      · rw [if_neg (fun z => hj z.2.2)]
        by_cases hj2 : j < k
        · rw [if_pos ⟨rfl, rfl, hj2⟩, if_pos ⟨rfl, rfl, by omega⟩]
        · rw [if_neg (fun z => hj2 z.2.2), if_neg (fun z => by omega)]
    · rw [if_neg (fun z => hc ⟨z.1, z.2.1⟩), if_neg (fun z => hc ⟨z.1, z.2.1⟩), if_neg (fun z => hc ⟨z.1, z.2.1⟩)]
  · try dsimp only
    rw [b177_5 _ _ _ _ _ hk]
    simp (disch := omega) only [b177_20 _ _ _ _ _ hk, pz_k0, pz_k1, pz_k2, pz_k3, pz_k4, pz_k5, pz_k6, pz_k7, pz_k8, pz_k9, pz_k10, pz_k16, pz_k31, pz_k63, pz_km, nI_add, pz_mul, nI_ltI, nI_eq, nI_clamp, pz_inI, Option.bind_some, Option.toList_some, Option.toList_none, List.cons_append, List.nil_append, Nat.zero_add, Nat.mul_zero, Nat.add_zero, Nat.lt_irrefl, pz_bb, pz_bTr, Bool.false_eq_true, pz_bFa, Nat.reduceEqDiff, Nat.reduceLT, ite_not, pz_mE, pz_mE2, pz_mL, pz_mG, not_true_eq_false, not_false_eq_true, if_true, if_false, reduceIte, eq_self, true_or, or_true, or_false, false_or, and_true, true_and, and_false, false_and]
section PZW
variable {ids : List (Nat × Nat)} {I : mm_HI} {L : mm_HL} {κ : Nat → Nat} {A : pz_A} {ck b v s p : Nat}
noncomputable def pz_os (A : pz_A) (v : Nat) : Nat → Nat
  | 0 => 0
  | k + 1 => @ite _ (pz_op A k v) (Classical.propDecidable _) (pz_os A v k ||| 2 ^ k) (pz_os A v k)
theorem pz_os_s {k : Nat} : pz_os A v (k + 1) = @ite _ (pz_op A k v) (Classical.propDecidable _) (pz_os A v k ||| 2 ^ k) (pz_os A v k) := rfl
theorem pz_os_lt : ∀ n, pz_os A v n < 2 ^ n
  | 0 => Nat.zero_lt_one
  | n + 1 => by
    have h := pz_os_lt n
    have h2 : 2 ^ (n + 1) = 2 * 2 ^ n := by rw [Nat.pow_succ, Nat.mul_comm]
    rw [pz_os_s]
    by_cases ho : pz_op A n v
    · rw [if_pos ho]
      exact pz_orlt (by omega) (by omega)
    · rw [if_neg ho]
      omega
theorem pz_os_lt9 {n : Nat} (h : n ≤ 9) : pz_os A v n < 512 := Nat.lt_of_lt_of_le (pz_os_lt n) (Nat.pow_le_pow_right (by decide) h : 2 ^ n ≤ 2 ^ 9)
theorem pz_os_bit : ∀ n b, b < n → (pz_bt (pz_os A v n) b = 1 ↔ pz_op A b v)
  | 0, b, hb => by omega
  | n + 1, b, hb => by
    have hlt := pz_os_lt (A := A) (v := v) n
    rw [pz_os_s]
    by_cases hbn : b = n
    · subst hbn
      by_cases ho : pz_op A b v
      · rw [if_pos ho, pz_bt_tb, Nat.testBit_or, Nat.testBit_two_pow_self, Bool.or_true]
        exact ⟨fun _ => ho, fun _ => rfl⟩
      · rw [if_neg ho, pz_bt_tb, Nat.testBit_lt_two_pow hlt]
        exact ⟨fun z => absurd z (by decide), fun z => absurd z ho⟩
    · have ih := pz_os_bit n b (by omega)
      by_cases ho : pz_op A n v
      · rw [if_pos ho, pz_bt_tb, Nat.testBit_or, Nat.testBit_two_pow_of_ne (fun e => hbn e.symm), Bool.or_false, ← pz_bt_tb]
        exact ih
      · rw [if_neg ho]
        exact ih
/-- openTo -/
theorem sC69 (hA : pz_wf ck A) (hC : pz_C 0 A I κ) (hv : v < 64) : mm_ev 69 0 [some (.inr (.inr (4, 0))), some (.inl (nI v)), none, none] [] (ids, I, L, mm_RS κ) = some (some (.inl (nI (pz_os A v (A 0 0 0)))), (ids, I, L, mm_RS κ)) := by
  have h9 := hA.2.1
  have h10 := hC.1
  rw [b69_0]
  refine (pz_loop (fun k => mm_ev 69 4 [some (.inr (.inr (4, 0))), some (.inl (nI v)), some (.inl (nI (pz_os A v k))), some (.inl (nI k))] [] (ids, I, L, mm_RS κ)) (A 0 0 0) (fun k hk => ?_)).trans ?_
  · try dsimp only
    rw [b69_4, pz_os_s]
    by_cases ho : pz_op A k v
    · rw [if_pos ho]
      simp (disch := omega) only [h10, hk, b69_12, show k < 9 by omega, b69_18, sC78 hA hC hk hv, pz_bT ho, b69_22, b69_25, pz_one, pz_or, b69_31, pz_k0, pz_k1, pz_k2, pz_k3, pz_k4, pz_k5, pz_k6, pz_k7, pz_k8, pz_k9, pz_k10, pz_k16, pz_k31, pz_k63, pz_km, nI_add, pz_mul, nI_ltI, nI_eq, nI_clamp, pz_inI, Option.bind_some, Option.toList_some, Option.toList_none, List.cons_append, List.nil_append, Nat.zero_add, Nat.mul_zero, Nat.add_zero, Nat.lt_irrefl, pz_bb, pz_bTr, Bool.false_eq_true, pz_bFa, Nat.reduceEqDiff, Nat.reduceLT, ite_not, pz_mE, pz_mE2, pz_mL, pz_mG, not_true_eq_false, not_false_eq_true, if_true, if_false, reduceIte, eq_self, true_or, or_true, or_false, false_or, and_true, true_and, and_false, false_and]
    · rw [if_neg ho]
      simp (disch := omega) only [h10, hk, b69_12, show k < 9 by omega, b69_18, sC78 hA hC hk hv, pz_bF ho, b69_22, b69_31, pz_k0, pz_k1, pz_k2, pz_k3, pz_k4, pz_k5, pz_k6, pz_k7, pz_k8, pz_k9, pz_k10, pz_k16, pz_k31, pz_k63, pz_km, nI_add, pz_mul, nI_ltI, nI_eq, nI_clamp, pz_inI, Option.bind_some, Option.toList_some, Option.toList_none, List.cons_append, List.nil_append, Nat.zero_add, Nat.mul_zero, Nat.add_zero, Nat.lt_irrefl, pz_bb, pz_bTr, Bool.false_eq_true, pz_bFa, Nat.reduceEqDiff, Nat.reduceLT, ite_not, pz_mE, pz_mE2, pz_mL, pz_mG, not_true_eq_false, not_false_eq_true, if_true, if_false, reduceIte, eq_self, true_or, or_true, or_false, false_or, and_true, true_and, and_false, false_and]
  · try dsimp only
    rw [b69_4]
    simp (disch := omega) only [h10, b69_37, pz_k0, pz_k1, pz_k2, pz_k3, pz_k4, pz_k5, pz_k6, pz_k7, pz_k8, pz_k9, pz_k10, pz_k16, pz_k31, pz_k63, pz_km, nI_add, pz_mul, nI_ltI, nI_eq, nI_clamp, pz_inI, Option.bind_some, Option.toList_some, Option.toList_none, List.cons_append, List.nil_append, Nat.zero_add, Nat.mul_zero, Nat.add_zero, Nat.lt_irrefl, pz_bb, pz_bTr, Bool.false_eq_true, pz_bFa, Nat.reduceEqDiff, Nat.reduceLT, ite_not, pz_mE, pz_mE2, pz_mL, pz_mG, not_true_eq_false, not_false_eq_true, if_true, if_false, reduceIte, eq_self, true_or, or_true, or_false, false_or, and_true, true_and, and_false, false_and]
/-- shorten -/
theorem sC97 {D : Nat → Nat} (hA : pz_wf ck A) (hC : pz_C 0 A I κ) (hb : b < A 0 0 0) (hD : ∀ z, D z ≤ 10000) : mm_ev 97 0 [some (.inr (.inr (7, 0))), some (.inr (.inr (5, b)))] [] (ids, pz_w I 119 6 D, L, mm_RS κ) = some (none, (ids, pz_w I 119 6 (pz_rx D (A 3 b 0) (A 2 b 0) (pz_len A b)), L, mm_RS κ)) := by
  obtain ⟨-, a2, a3, -, -, -, -⟩ := hA.2.2.1 b hb
  have hlen := pz_len_b hA hb
  have acc := fun D => pz_C0b (pz_C_fr (pz_w_fr (n := 6) (D := D) (show pz_sc 119 = true from rfl)) hC) hb
  have d1 := hD (A 2 b 0)
  have d2 := hD (A 3 b 0)
  rw [b97_0]
  simp (disch := omega) only [(acc D).2.1, (acc D).2.2.1, (acc D).2.2.2.2.1, a2, a3, pz_w_r, b97_17, b97_26, pz_mn, pz_w_u, pz_k0, pz_k1, pz_k2, pz_k3, pz_k4, pz_k5, pz_k6, pz_k7, pz_k8, pz_k9, pz_k10, pz_k16, pz_k31, pz_k63, pz_km, nI_add, pz_mul, nI_ltI, nI_eq, nI_clamp, pz_inI, Option.bind_some, Option.toList_some, Option.toList_none, List.cons_append, List.nil_append, Nat.zero_add, Nat.mul_zero, Nat.add_zero, Nat.lt_irrefl, pz_bb, pz_bTr, Bool.false_eq_true, pz_bFa, Nat.reduceEqDiff, Nat.reduceLT, ite_not, pz_mE, pz_mE2, pz_mL, pz_mG, not_true_eq_false, not_false_eq_true, if_true, if_false, reduceIte, eq_self, true_or, or_true, or_false, false_or, and_true, true_and, and_false, false_and]
  have hD1 : ∀ z, pz_up D (A 3 b 0) (min (D (A 3 b 0)) (D (A 2 b 0) + pz_len A b)) z ≤ 10000 := by
    intro z
    have m := Nat.min_le_left (D (A 3 b 0)) (D (A 2 b 0) + pz_len A b)
    have := hD z
    unfold pz_up
    split <;> omega
  unfold pz_rx
  generalize pz_up D (A 3 b 0) (min (D (A 3 b 0)) (D (A 2 b 0) + pz_len A b)) = D1 at hD1 ⊢
  have d1 := hD1 (A 2 b 0)
  have d2 := hD1 (A 3 b 0)
  rw [b97_35]
  simp (disch := omega) only [(acc D1).2.1, (acc D1).2.2.1, (acc D1).2.2.2.2.1, a2, a3, pz_w_r, b97_52, b97_61, pz_mn, pz_w_u, b97_70, pz_k0, pz_k1, pz_k2, pz_k3, pz_k4, pz_k5, pz_k6, pz_k7, pz_k8, pz_k9, pz_k10, pz_k16, pz_k31, pz_k63, pz_km, nI_add, pz_mul, nI_ltI, nI_eq, nI_clamp, pz_inI, Option.bind_some, Option.toList_some, Option.toList_none, List.cons_append, List.nil_append, Nat.zero_add, Nat.mul_zero, Nat.add_zero, Nat.lt_irrefl, pz_bb, pz_bTr, Bool.false_eq_true, pz_bFa, Nat.reduceEqDiff, Nat.reduceLT, ite_not, pz_mE, pz_mE2, pz_mL, pz_mG, not_true_eq_false, not_false_eq_true, if_true, if_false, reduceIte, eq_self, true_or, or_true, or_false, false_or, and_true, true_and, and_false, false_and]
/-- the breath that a way to each place takes; 10000 if there is none -/
noncomputable def pz_T (A : pz_A) (v p : Nat) : Nat → Nat := pz_rr (fun b => pz_op A b v) (fun b => A 3 b 0) (fun b => A 2 b 0) (pz_len A) (A 0 0 0) (pz_i0 p 10000) 5
theorem pz_i0_le {p z inf : Nat} : pz_i0 p inf z ≤ inf := by
  unfold pz_i0
  split <;> omega
theorem pz_T_sp (hA : pz_wf ck A) (hp : p < 6) : pz_sp (fun b => pz_op A b v) (fun b => A 3 b 0) (fun b => A 2 b 0) (pz_len A) (A 0 0 0) p 10000 (pz_T A v p) := by
  refine pz_rr_all (fun b hb => ?_) (fun b hb => pz_len_b hA hb) hp (by decide) (by decide)
  obtain ⟨-, a2, a3, a23, -, -, -⟩ := hA.2.2.1 b hb
  exact ⟨fun e => a23 e.symm, a3, a2⟩
def pz_o (r : Nat) (x : Int32) : Option mm_V := match r with
  | 0 => none
  | _ + 1 => some (.inl x)
/-- measureFrom -/
theorem sC96 (hA : pz_wf ck A) (hC : pz_C 0 A I κ) (hp : p < 6) : mm_ev 96 0 [some (.inr (.inr (7, 0))), some (.inl (nI p)), some (.inl (nI (pz_os A v (A 0 0 0)))), none, none] [] (ids, I, L, mm_RS κ) = some (none, (ids, pz_w I 119 6 (pz_T A v p), L, mm_RS κ)) := by
  have h9 := hA.2.1
  have hos := pz_os_lt9 (A := A) (v := v) h9
  have hXY : ∀ b, b < A 0 0 0 → A 3 b 0 ≠ A 2 b 0 := fun b hb e => (hA.2.2.1 b hb).2.2.2.1 e.symm
  have acc := fun D => (pz_C_fr (pz_w_fr (n := 6) (D := D) (show pz_sc 119 = true from rfl)) hC).1
  have hf : pz_fl I 119 0 6 (nI 10000) = pz_w I 119 6 (fun _ => 10000) := rfl
  have hl6 : mm_ln 19 = 6 := by decide +kernel
  have hk1 : mm_kd 19 = 1 := by decide +kernel
  have h177 := s177 (R := mm_RS κ) (ids := ids) (I := I) (L := L) (r := 19) (i := 0) (x := nI 10000) hk1 (by rw [hl6]; decide)
  rw [hl6, show 100 + 19 = 119 from rfl, hf] at h177
  rw [b96_0, show (10000 : Int32) = nI 10000 from rfl]
  simp (disch := omega) only [h177, b96_10, hp, pz_w_u, b96_17, pz_k0, pz_k1, pz_k2, pz_k3, pz_k4, pz_k5, pz_k6, pz_k7, pz_k8, pz_k9, pz_k10, pz_k16, pz_k31, pz_k63, pz_km, nI_add, pz_mul, nI_ltI, nI_eq, nI_clamp, pz_inI, Option.bind_some, Option.toList_some, Option.toList_none, List.cons_append, List.nil_append, Nat.zero_add, Nat.mul_zero, Nat.add_zero, Nat.lt_irrefl, pz_bb, pz_bTr, Bool.false_eq_true, pz_bFa, Nat.reduceEqDiff, Nat.reduceLT, ite_not, pz_mE, pz_mE2, pz_mL, pz_mG, not_true_eq_false, not_false_eq_true, if_true, if_false, reduceIte, eq_self, true_or, or_true, or_false, false_or, and_true, true_and, and_false, false_and]
  have hi0 : pz_up (fun _ => 10000) p 0 = pz_i0 p 10000 := rfl
  rw [hi0]
  refine (pz_loop (fun r => mm_ev 96 19 [some (.inr (.inr (7, 0))), some (.inl (nI p)), some (.inl (nI (pz_os A v (A 0 0 0)))), some (.inl (nI (r + 1))), pz_o r (nI (A 0 0 0))] [] (ids, pz_w I 119 6 (pz_rr (fun b => pz_op A b v) (fun b => A 3 b 0) (fun b => A 2 b 0) (pz_len A) (A 0 0 0) (pz_i0 p 10000) r), L, mm_RS κ)) 5 (fun r hr => ?_)).trans ?_
  · try dsimp only
    have hD : ∀ z, pz_rr (fun b => pz_op A b v) (fun b => A 3 b 0) (fun b => A 2 b 0) (pz_len A) (A 0 0 0) (pz_i0 p 10000) r z ≤ 10000 := by
      intro z
      have := pz_rr_mono (o := fun b => pz_op A b v) (l := pz_len A) (D := pz_i0 p 10000) hXY (r := 0) r z
      rw [Nat.zero_add] at this
      exact Nat.le_trans this pz_i0_le
    show _ = mm_ev 96 19 [some (.inr (.inr (7, 0))), some (.inl (nI p)), some (.inl (nI (pz_os A v (A 0 0 0)))), some (.inl (nI (r + 1 + 1))), some (.inl (nI (A 0 0 0)))] [] (ids, pz_w I 119 6 (pz_rd (fun b => pz_op A b v) (fun b => A 3 b 0) (fun b => A 2 b 0) (pz_len A) (pz_rr (fun b => pz_op A b v) (fun b => A 3 b 0) (fun b => A 2 b 0) (pz_len A) (A 0 0 0) (pz_i0 p 10000) r) (A 0 0 0)), L, mm_RS κ)
    generalize pz_rr (fun b => pz_op A b v) (fun b => A 3 b 0) (fun b => A 2 b 0) (pz_len A) (A 0 0 0) (pz_i0 p 10000) r = D at hD ⊢
    rw [b96_19]
    simp (disch := omega) only [show r + 1 < 6 by omega, b96_25, pz_k0, pz_k1, pz_k2, pz_k3, pz_k4, pz_k5, pz_k6, pz_k7, pz_k8, pz_k9, pz_k10, pz_k16, pz_k31, pz_k63, pz_km, nI_add, pz_mul, nI_ltI, nI_eq, nI_clamp, pz_inI, Option.bind_some, Option.toList_some, Option.toList_none, List.cons_append, List.nil_append, Nat.zero_add, Nat.mul_zero, Nat.add_zero, Nat.lt_irrefl, pz_bb, pz_bTr, Bool.false_eq_true, pz_bFa, Nat.reduceEqDiff, Nat.reduceLT, ite_not, pz_mE, pz_mE2, pz_mL, pz_mG, not_true_eq_false, not_false_eq_true, if_true, if_false, reduceIte, eq_self, true_or, or_true, or_false, false_or, and_true, true_and, and_false, false_and]
    refine (pz_loop (fun k => mm_ev 96 28 [some (.inr (.inr (7, 0))), some (.inl (nI p)), some (.inl (nI (pz_os A v (A 0 0 0)))), some (.inl (nI (r + 1))), some (.inl (nI k))] [] (ids, pz_w I 119 6 (pz_rd (fun b => pz_op A b v) (fun b => A 3 b 0) (fun b => A 2 b 0) (pz_len A) D k), L, mm_RS κ)) (A 0 0 0) (fun k hk => ?_)).trans ?_
    · try dsimp only
      have hDk : ∀ z, pz_rd (fun b => pz_op A b v) (fun b => A 3 b 0) (fun b => A 2 b 0) (pz_len A) D k z ≤ 10000 := fun z => Nat.le_trans (pz_rd_le (n := A 0 0 0) hXY k (by omega) z) (hD z)
      rw [pz_rd_s, b96_28]
      have hbt := pz_bt2 (v := pz_os A v (A 0 0 0)) (s := k)
      have hbi := pz_os_bit (A := A) (v := v) (A 0 0 0) k hk
      by_cases ho : pz_op A k v
      · rw [if_pos ho]
        have h1 := hbi.mpr ho
        simp (disch := omega) only [acc, hk, b96_40, pz_bit, h1, b96_49, show k < 9 by omega, b96_60, sC97 hA hC hk hDk, b96_63, pz_k0, pz_k1, pz_k2, pz_k3, pz_k4, pz_k5, pz_k6, pz_k7, pz_k8, pz_k9, pz_k10, pz_k16, pz_k31, pz_k63, pz_km, nI_add, pz_mul, nI_ltI, nI_eq, nI_clamp, pz_inI, Option.bind_some, Option.toList_some, Option.toList_none, List.cons_append, List.nil_append, Nat.zero_add, Nat.mul_zero, Nat.add_zero, Nat.lt_irrefl, pz_bb, pz_bTr, Bool.false_eq_true, pz_bFa, Nat.reduceEqDiff, Nat.reduceLT, ite_not, pz_mE, pz_mE2, pz_mL, pz_mG, not_true_eq_false, not_false_eq_true, if_true, if_false, reduceIte, eq_self, true_or, or_true, or_false, false_or, and_true, true_and, and_false, false_and]
      · rw [if_neg ho]
        have h0 : pz_bt (pz_os A v (A 0 0 0)) k = 0 := by
          have : ¬ pz_bt (pz_os A v (A 0 0 0)) k = 1 := fun z => ho (hbi.mp z)
          omega
        simp (disch := omega) only [acc, hk, b96_40, pz_bit, h0, b96_63, pz_k0, pz_k1, pz_k2, pz_k3, pz_k4, pz_k5, pz_k6, pz_k7, pz_k8, pz_k9, pz_k10, pz_k16, pz_k31, pz_k63, pz_km, nI_add, pz_mul, nI_ltI, nI_eq, nI_clamp, pz_inI, Option.bind_some, Option.toList_some, Option.toList_none, List.cons_append, List.nil_append, Nat.zero_add, Nat.mul_zero, Nat.add_zero, Nat.lt_irrefl, pz_bb, pz_bTr, Bool.false_eq_true, pz_bFa, Nat.reduceEqDiff, Nat.reduceLT, ite_not, pz_mE, pz_mE2, pz_mL, pz_mG, not_true_eq_false, not_false_eq_true, if_true, if_false, reduceIte, eq_self, true_or, or_true, or_false, false_or, and_true, true_and, and_false, false_and]
    · try dsimp only
      rw [b96_28]
      simp (disch := omega) only [acc, b96_69, pz_k0, pz_k1, pz_k2, pz_k3, pz_k4, pz_k5, pz_k6, pz_k7, pz_k8, pz_k9, pz_k10, pz_k16, pz_k31, pz_k63, pz_km, nI_add, pz_mul, nI_ltI, nI_eq, nI_clamp, pz_inI, Option.bind_some, Option.toList_some, Option.toList_none, List.cons_append, List.nil_append, Nat.zero_add, Nat.mul_zero, Nat.add_zero, Nat.lt_irrefl, pz_bb, pz_bTr, Bool.false_eq_true, pz_bFa, Nat.reduceEqDiff, Nat.reduceLT, ite_not, pz_mE, pz_mE2, pz_mL, pz_mG, not_true_eq_false, not_false_eq_true, if_true, if_false, reduceIte, eq_self, true_or, or_true, or_false, false_or, and_true, true_and, and_false, false_and]
  · try dsimp only
    rw [b96_19]
    simp (disch := omega) only [b96_75, pz_k0, pz_k1, pz_k2, pz_k3, pz_k4, pz_k5, pz_k6, pz_k7, pz_k8, pz_k9, pz_k10, pz_k16, pz_k31, pz_k63, pz_km, nI_add, pz_mul, nI_ltI, nI_eq, nI_clamp, pz_inI, Option.bind_some, Option.toList_some, Option.toList_none, List.cons_append, List.nil_append, Nat.zero_add, Nat.mul_zero, Nat.add_zero, Nat.lt_irrefl, pz_bb, pz_bTr, Bool.false_eq_true, pz_bFa, Nat.reduceEqDiff, Nat.reduceLT, ite_not, pz_mE, pz_mE2, pz_mL, pz_mG, not_true_eq_false, not_false_eq_true, if_true, if_false, reduceIte, eq_self, true_or, or_true, or_false, false_or, and_true, true_and, and_false, false_and]
    rfl
/-- placesInBreath -/
def pz_rb (T : Nat → Nat) (n : Nat) : Nat → Nat
  | 0 => 0
  | k + 1 => if T k ≤ n then pz_rb T n k ||| 2 ^ k else pz_rb T n k
theorem pz_rb_s {T : Nat → Nat} {n k : Nat} : pz_rb T n (k + 1) = if T k ≤ n then pz_rb T n k ||| 2 ^ k else pz_rb T n k := rfl
theorem pz_rb_lt {T : Nat → Nat} {n : Nat} : ∀ k, pz_rb T n k < 2 ^ k
  | 0 => Nat.zero_lt_one
  | k + 1 => by
    have h := pz_rb_lt (T := T) (n := n) k
    have h2 : 2 ^ (k + 1) = 2 * 2 ^ k := by rw [Nat.pow_succ, Nat.mul_comm]
    unfold pz_rb
    split
    · exact pz_orlt (by omega) (by omega)
    · omega
theorem sC98 (hA : pz_wf ck A) (hC : pz_C 0 A I κ) (hs : s < A 6 0 0) (hv : v < 64) : mm_ev 98 0 [some (.inr (.inr (7, 0))), some (.inr (.inr (6, s))), some (.inl (nI v)), none, none] [] (ids, I, L, mm_RS κ) = some (some (.inl (nI (pz_rb (pz_T A v (A 7 s 0)) (A 9 s 0) 6))), (ids, pz_w I 119 6 (pz_T A v (A 7 s 0)), L, mm_RS κ)) := by
  obtain ⟨a7, a8, a9, -⟩ := hA.2.2.2.2.1 s hs
  obtain ⟨c7, c8, c9, -⟩ := pz_C0s hC hs
  have hT := pz_T_sp (v := v) hA a7
  have acc := (pz_C0s (pz_C_fr (pz_w_fr (n := 6) (D := pz_T A v (A 7 s 0)) (show pz_sc 119 = true from rfl)) hC) hs).2.2.1
  rw [b98_0]
  simp (disch := omega) only [sC69 hA hC hv, c7, b98_13, sC96 hA hC a7, b98_16, pz_k0, pz_k1, pz_k2, pz_k3, pz_k4, pz_k5, pz_k6, pz_k7, pz_k8, pz_k9, pz_k10, pz_k16, pz_k31, pz_k63, pz_km, nI_add, pz_mul, nI_ltI, nI_eq, nI_clamp, pz_inI, Option.bind_some, Option.toList_some, Option.toList_none, List.cons_append, List.nil_append, Nat.zero_add, Nat.mul_zero, Nat.add_zero, Nat.lt_irrefl, pz_bb, pz_bTr, Bool.false_eq_true, pz_bFa, Nat.reduceEqDiff, Nat.reduceLT, ite_not, pz_mE, pz_mE2, pz_mL, pz_mG, not_true_eq_false, not_false_eq_true, if_true, if_false, reduceIte, eq_self, true_or, or_true, or_false, false_or, and_true, true_and, and_false, false_and]
  refine (pz_loop (fun k => mm_ev 98 21 [some (.inr (.inr (7, 0))), some (.inr (.inr (6, s))), some (.inl (nI v)), some (.inl (nI (pz_rb (pz_T A v (A 7 s 0)) (A 9 s 0) k))), some (.inl (nI k))] [] (ids, pz_w I 119 6 (pz_T A v (A 7 s 0)), L, mm_RS κ)) 6 (fun k hk => ?_)).trans ?_
  · try dsimp only
    have := hT.2.1 k
    rw [b98_21, pz_rb_s]
    by_cases h : pz_T A v (A 7 s 0) k ≤ A 9 s 0
    · rw [if_pos h]
      simp (disch := omega) only [hk, b98_28, pz_w_r, b98_35, acc, show ¬ A 9 s 0 < pz_T A v (A 7 s 0) k by omega, b98_42, pz_one, pz_or, b98_49, pz_k0, pz_k1, pz_k2, pz_k3, pz_k4, pz_k5, pz_k6, pz_k7, pz_k8, pz_k9, pz_k10, pz_k16, pz_k31, pz_k63, pz_km, nI_add, pz_mul, nI_ltI, nI_eq, nI_clamp, pz_inI, Option.bind_some, Option.toList_some, Option.toList_none, List.cons_append, List.nil_append, Nat.zero_add, Nat.mul_zero, Nat.add_zero, Nat.lt_irrefl, pz_bb, pz_bTr, Bool.false_eq_true, pz_bFa, Nat.reduceEqDiff, Nat.reduceLT, ite_not, pz_mE, pz_mE2, pz_mL, pz_mG, not_true_eq_false, not_false_eq_true, if_true, if_false, reduceIte, eq_self, true_or, or_true, or_false, false_or, and_true, true_and, and_false, false_and]
    · rw [if_neg h]
      simp (disch := omega) only [hk, b98_28, pz_w_r, b98_35, acc, show A 9 s 0 < pz_T A v (A 7 s 0) k by omega, b98_49, pz_k0, pz_k1, pz_k2, pz_k3, pz_k4, pz_k5, pz_k6, pz_k7, pz_k8, pz_k9, pz_k10, pz_k16, pz_k31, pz_k63, pz_km, nI_add, pz_mul, nI_ltI, nI_eq, nI_clamp, pz_inI, Option.bind_some, Option.toList_some, Option.toList_none, List.cons_append, List.nil_append, Nat.zero_add, Nat.mul_zero, Nat.add_zero, Nat.lt_irrefl, pz_bb, pz_bTr, Bool.false_eq_true, pz_bFa, Nat.reduceEqDiff, Nat.reduceLT, ite_not, pz_mE, pz_mE2, pz_mL, pz_mG, not_true_eq_false, not_false_eq_true, if_true, if_false, reduceIte, eq_self, true_or, or_true, or_false, false_or, and_true, true_and, and_false, false_and]
  · try dsimp only
    rw [b98_21]
    simp (disch := omega) only [b98_55, pz_k0, pz_k1, pz_k2, pz_k3, pz_k4, pz_k5, pz_k6, pz_k7, pz_k8, pz_k9, pz_k10, pz_k16, pz_k31, pz_k63, pz_km, nI_add, pz_mul, nI_ltI, nI_eq, nI_clamp, pz_inI, Option.bind_some, Option.toList_some, Option.toList_none, List.cons_append, List.nil_append, Nat.zero_add, Nat.mul_zero, Nat.add_zero, Nat.lt_irrefl, pz_bb, pz_bTr, Bool.false_eq_true, pz_bFa, Nat.reduceEqDiff, Nat.reduceLT, ite_not, pz_mE, pz_mE2, pz_mL, pz_mG, not_true_eq_false, not_false_eq_true, if_true, if_false, reduceIte, eq_self, true_or, or_true, or_false, false_or, and_true, true_and, and_false, false_and]
/-- homeBreath -/
theorem sC94 (hA : pz_wf ck A) (hC : pz_C 0 A I κ) (hs : s < A 6 0 0) (hp : p < 6) : mm_ev 94 0 [some (.inr (.inr (7, 0))), some (.inr (.inr (6, s))), some (.inl (nI p)), none] [] (ids, I, L, mm_RS κ) = some (some (.inl (if pz_T A (A 8 s 0) p (A 7 s 0) ≤ A 9 s 0 then nI (pz_T A (A 8 s 0) p (A 7 s 0)) else pz_m)), (ids, pz_w I 119 6 (pz_T A (A 8 s 0) p), L, mm_RS κ)) := by
  obtain ⟨a7, a8, a9, -⟩ := hA.2.2.2.2.1 s hs
  obtain ⟨c7, c8, c9, -⟩ := pz_C0s hC hs
  have hT := pz_T_sp (v := A 8 s 0) hA hp
  have hb := hT.2.1 (A 7 s 0)
  have acc := pz_C0s (pz_C_fr (pz_w_fr (n := 6) (D := pz_T A (A 8 s 0) p) (show pz_sc 119 = true from rfl)) hC) hs
  rw [b94_0]
  by_cases h : pz_T A (A 8 s 0) p (A 7 s 0) ≤ A 9 s 0
  · rw [if_pos h]
    simp (disch := omega) only [c8, sC69 hA hC a8, b94_13, sC96 hA hC hp, b94_16, acc.1, a7, pz_w_r, b94_25, acc.2.2.1, show ¬ A 9 s 0 < pz_T A (A 8 s 0) p (A 7 s 0) by omega, b94_34, b94_39, pz_k0, pz_k1, pz_k2, pz_k3, pz_k4, pz_k5, pz_k6, pz_k7, pz_k8, pz_k9, pz_k10, pz_k16, pz_k31, pz_k63, pz_km, nI_add, pz_mul, nI_ltI, nI_eq, nI_clamp, pz_inI, Option.bind_some, Option.toList_some, Option.toList_none, List.cons_append, List.nil_append, Nat.zero_add, Nat.mul_zero, Nat.add_zero, Nat.lt_irrefl, pz_bb, pz_bTr, Bool.false_eq_true, pz_bFa, Nat.reduceEqDiff, Nat.reduceLT, ite_not, pz_mE, pz_mE2, pz_mL, pz_mG, not_true_eq_false, not_false_eq_true, if_true, if_false, reduceIte, eq_self, true_or, or_true, or_false, false_or, and_true, true_and, and_false, false_and]
  · rw [if_neg h]
    simp (disch := omega) only [c8, sC69 hA hC a8, b94_13, sC96 hA hC hp, b94_16, acc.1, a7, pz_w_r, b94_25, acc.2.2.1, show A 9 s 0 < pz_T A (A 8 s 0) p (A 7 s 0) by omega, b94_38, b94_39, pz_k0, pz_k1, pz_k2, pz_k3, pz_k4, pz_k5, pz_k6, pz_k7, pz_k8, pz_k9, pz_k10, pz_k16, pz_k31, pz_k63, pz_km, nI_add, pz_mul, nI_ltI, nI_eq, nI_clamp, pz_inI, Option.bind_some, Option.toList_some, Option.toList_none, List.cons_append, List.nil_append, Nat.zero_add, Nat.mul_zero, Nat.add_zero, Nat.lt_irrefl, pz_bb, pz_bTr, Bool.false_eq_true, pz_bFa, Nat.reduceEqDiff, Nat.reduceLT, ite_not, pz_mE, pz_mE2, pz_mL, pz_mG, not_true_eq_false, not_false_eq_true, if_true, if_false, reduceIte, eq_self, true_or, or_true, or_false, false_or, and_true, true_and, and_false, false_and]
/-- homeBridge -/
def pz_hb (A : pz_A) (v p : Nat) (T : Nat → Nat) (n b : Nat) : Prop := pz_op A b v ∧ pz_at A b p ∧ pz_len A b + T (pz_oth A b p) = n
noncomputable def pz_hbb (A : pz_A) (v p : Nat) (T : Nat → Nat) (n b : Nat) : Bool := pz_d (pz_hb A v p T n b)
theorem pz_oth_lt (hA : pz_wf ck A) (hb : b < A 0 0 0) : pz_oth A b p < 6 := by
  obtain ⟨-, a2, a3, -⟩ := hA.2.2.1 b hb
  unfold pz_oth
  split <;> omega
theorem sC95 (hA : pz_wf ck A) (hC : pz_C 0 A I κ) (hs : s < A 6 0 0) (hp : p < 6) : mm_ev 95 0 [some (.inr (.inr (7, 0))), some (.inr (.inr (6, s))), some (.inl (nI p)), none, none, none] [] (ids, I, L, mm_RS κ) = some (some (.inl (if pz_T A (A 8 s 0) p (A 7 s 0) ≤ A 9 s 0 ∧ pz_fnd (pz_hbb A (A 8 s 0) (A 7 s 0) (pz_T A (A 8 s 0) p) (pz_T A (A 8 s 0) p (A 7 s 0))) (A 0 0 0) 0 < A 0 0 0 then nI (pz_fnd (pz_hbb A (A 8 s 0) (A 7 s 0) (pz_T A (A 8 s 0) p) (pz_T A (A 8 s 0) p (A 7 s 0))) (A 0 0 0) 0) else pz_m)), (ids, pz_w I 119 6 (pz_T A (A 8 s 0) p), L, mm_RS κ)) := by
  obtain ⟨a7, a8, a9, -⟩ := hA.2.2.2.2.1 s hs
  have h9 := hA.2.1
  have hT := pz_T_sp (v := A 8 s 0) hA hp
  have hb7 := hT.2.1 (A 7 s 0)
  have hC' := pz_C_fr (pz_w_fr (n := 6) (D := pz_T A (A 8 s 0) p) (show pz_sc 119 = true from rfl)) hC
  obtain ⟨c7, c8, c9, -⟩ := pz_C0s hC' hs
  rw [b95_0]
  by_cases h : pz_T A (A 8 s 0) p (A 7 s 0) ≤ A 9 s 0
  · simp (disch := omega) only [sC94 hA hC hs hp, h, b95_6, b95_14, pz_k0, pz_k1, pz_k2, pz_k3, pz_k4, pz_k5, pz_k6, pz_k7, pz_k8, pz_k9, pz_k10, pz_k16, pz_k31, pz_k63, pz_km, nI_add, pz_mul, nI_ltI, nI_eq, nI_clamp, pz_inI, Option.bind_some, Option.toList_some, Option.toList_none, List.cons_append, List.nil_append, Nat.zero_add, Nat.mul_zero, Nat.add_zero, Nat.lt_irrefl, pz_bb, pz_bTr, Bool.false_eq_true, pz_bFa, Nat.reduceEqDiff, Nat.reduceLT, ite_not, pz_mE, pz_mE2, pz_mL, pz_mG, not_true_eq_false, not_false_eq_true, if_true, if_false, reduceIte, eq_self, true_or, or_true, or_false, false_or, and_true, true_and, and_false, false_and]
    have hl := pz_srch (pz_hbb A (A 8 s 0) (A 7 s 0) (pz_T A (A 8 s 0) p) (pz_T A (A 8 s 0) p (A 7 s 0))) (fun k => mm_ev 95 17 [some (.inr (.inr (7, 0))), some (.inr (.inr (6, s))), some (.inl (nI p)), some (.inl (nI (pz_T A (A 8 s 0) p (A 7 s 0)))), some (.inl (nI k)), (if k = 0 then none else some (.inr (.inr (5, k - 1))))] [] (ids, pz_w I 119 6 (pz_T A (A 8 s 0) p), L, mm_RS κ)) (fun k => some (some (.inl (nI k)), (ids, pz_w I 119 6 (pz_T A (A 8 s 0) p), L, mm_RS κ))) (A 0 0 0) 0 (fun k _ hk => ?_)
    · rw [if_pos rfl, Nat.zero_add] at hl
      rw [hl]
      split
      · rfl
      · rw [b95_17]
        simp (disch := omega) only [hC'.1, b95_99, pz_k0, pz_k1, pz_k2, pz_k3, pz_k4, pz_k5, pz_k6, pz_k7, pz_k8, pz_k9, pz_k10, pz_k16, pz_k31, pz_k63, pz_km, nI_add, pz_mul, nI_ltI, nI_eq, nI_clamp, pz_inI, Option.bind_some, Option.toList_some, Option.toList_none, List.cons_append, List.nil_append, Nat.zero_add, Nat.mul_zero, Nat.add_zero, Nat.lt_irrefl, pz_bb, pz_bTr, Bool.false_eq_true, pz_bFa, Nat.reduceEqDiff, Nat.reduceLT, ite_not, pz_mE, pz_mE2, pz_mL, pz_mG, not_true_eq_false, not_false_eq_true, if_true, if_false, reduceIte, eq_self, true_or, or_true, or_false, false_or, and_true, true_and, and_false, false_and]
    · try dsimp only
      have hk : k < A 0 0 0 := by omega
      have hlen := pz_len_b hA hk
      have hTo := hT.2.1 (pz_oth A k (A 7 s 0))
      have hol := pz_oth_lt (p := A 7 s 0) hA hk
      obtain ⟨-, -, -, -, d5, -⟩ := pz_C0b hC' hk
      rw [if_neg (show ¬ k + 1 = 0 by omega), Nat.add_sub_cancel, b95_17]
      unfold pz_hbb
      by_cases ho : pz_op A k (A 8 s 0)
      · by_cases ha : pz_at A k (A 7 s 0) ∧ pz_len A k ≤ pz_T A (A 8 s 0) p (A 7 s 0)
        · by_cases he : pz_len A k + pz_T A (A 8 s 0) p (pz_oth A k (A 7 s 0)) = pz_T A (A 8 s 0) p (A 7 s 0)
          · rw [pz_dT (P := pz_hb A (A 8 s 0) (A 7 s 0) (pz_T A (A 8 s 0) p) (pz_T A (A 8 s 0) p (A 7 s 0)) k) ⟨ho, ha.1, he⟩]
            simp (disch := omega) only [hC'.1, hk, b95_29, show k < 9 by omega, b95_39, c8, sC78 hA hC' hk a8, pz_bT ho, b95_50, b95_53, c7, sC80 hA hC' hk a7 (show pz_T A (A 8 s 0) p (A 7 s 0) < 2 ^ 31 by omega), pz_bT ha, b95_63, b95_66, sC82 hA hC' hk a7, b95_84, hol, pz_w_r, b95_85, d5, he, b95_90, pz_k0, pz_k1, pz_k2, pz_k3, pz_k4, pz_k5, pz_k6, pz_k7, pz_k8, pz_k9, pz_k10, pz_k16, pz_k31, pz_k63, pz_km, nI_add, pz_mul, nI_ltI, nI_eq, nI_clamp, pz_inI, Option.bind_some, Option.toList_some, Option.toList_none, List.cons_append, List.nil_append, Nat.zero_add, Nat.mul_zero, Nat.add_zero, Nat.lt_irrefl, pz_bb, pz_bTr, Bool.false_eq_true, pz_bFa, Nat.reduceEqDiff, Nat.reduceLT, ite_not, pz_mE, pz_mE2, pz_mL, pz_mG, not_true_eq_false, not_false_eq_true, if_true, if_false, reduceIte, eq_self, true_or, or_true, or_false, false_or, and_true, true_and, and_false, false_and]
          · rw [pz_dF (P := pz_hb A (A 8 s 0) (A 7 s 0) (pz_T A (A 8 s 0) p) (pz_T A (A 8 s 0) p (A 7 s 0)) k) (fun z => he z.2.2)]
            simp (disch := omega) only [hC'.1, hk, b95_29, show k < 9 by omega, b95_39, c8, sC78 hA hC' hk a8, pz_bT ho, b95_50, b95_53, c7, sC80 hA hC' hk a7 (show pz_T A (A 8 s 0) p (A 7 s 0) < 2 ^ 31 by omega), pz_bT ha, b95_63, b95_66, sC82 hA hC' hk a7, b95_84, hol, pz_w_r, b95_85, d5, he, b95_93, pz_k0, pz_k1, pz_k2, pz_k3, pz_k4, pz_k5, pz_k6, pz_k7, pz_k8, pz_k9, pz_k10, pz_k16, pz_k31, pz_k63, pz_km, nI_add, pz_mul, nI_ltI, nI_eq, nI_clamp, pz_inI, Option.bind_some, Option.toList_some, Option.toList_none, List.cons_append, List.nil_append, Nat.zero_add, Nat.mul_zero, Nat.add_zero, Nat.lt_irrefl, pz_bb, pz_bTr, Bool.false_eq_true, pz_bFa, Nat.reduceEqDiff, Nat.reduceLT, ite_not, pz_mE, pz_mE2, pz_mL, pz_mG, not_true_eq_false, not_false_eq_true, if_true, if_false, reduceIte, eq_self, true_or, or_true, or_false, false_or, and_true, true_and, and_false, false_and]
        · rw [pz_dF (P := pz_hb A (A 8 s 0) (A 7 s 0) (pz_T A (A 8 s 0) p) (pz_T A (A 8 s 0) p (A 7 s 0)) k) (fun z => ha ⟨z.2.1, by have := z.2.2; omega⟩)]
          simp (disch := omega) only [hC'.1, hk, b95_29, show k < 9 by omega, b95_39, c8, sC78 hA hC' hk a8, pz_bT ho, b95_50, b95_53, c7, sC80 hA hC' hk a7 (show pz_T A (A 8 s 0) p (A 7 s 0) < 2 ^ 31 by omega), pz_bF ha, b95_63, b95_93, pz_k0, pz_k1, pz_k2, pz_k3, pz_k4, pz_k5, pz_k6, pz_k7, pz_k8, pz_k9, pz_k10, pz_k16, pz_k31, pz_k63, pz_km, nI_add, pz_mul, nI_ltI, nI_eq, nI_clamp, pz_inI, Option.bind_some, Option.toList_some, Option.toList_none, List.cons_append, List.nil_append, Nat.zero_add, Nat.mul_zero, Nat.add_zero, Nat.lt_irrefl, pz_bb, pz_bTr, Bool.false_eq_true, pz_bFa, Nat.reduceEqDiff, Nat.reduceLT, ite_not, pz_mE, pz_mE2, pz_mL, pz_mG, not_true_eq_false, not_false_eq_true, if_true, if_false, reduceIte, eq_self, true_or, or_true, or_false, false_or, and_true, true_and, and_false, false_and]
      · rw [pz_dF (P := pz_hb A (A 8 s 0) (A 7 s 0) (pz_T A (A 8 s 0) p) (pz_T A (A 8 s 0) p (A 7 s 0)) k) (fun z => ho z.1)]
        simp (disch := omega) only [hC'.1, hk, b95_29, show k < 9 by omega, b95_39, c8, sC78 hA hC' hk a8, pz_bF ho, b95_50, b95_93, pz_k0, pz_k1, pz_k2, pz_k3, pz_k4, pz_k5, pz_k6, pz_k7, pz_k8, pz_k9, pz_k10, pz_k16, pz_k31, pz_k63, pz_km, nI_add, pz_mul, nI_ltI, nI_eq, nI_clamp, pz_inI, Option.bind_some, Option.toList_some, Option.toList_none, List.cons_append, List.nil_append, Nat.zero_add, Nat.mul_zero, Nat.add_zero, Nat.lt_irrefl, pz_bb, pz_bTr, Bool.false_eq_true, pz_bFa, Nat.reduceEqDiff, Nat.reduceLT, ite_not, pz_mE, pz_mE2, pz_mL, pz_mG, not_true_eq_false, not_false_eq_true, if_true, if_false, reduceIte, eq_self, true_or, or_true, or_false, false_or, and_true, true_and, and_false, false_and]
  · rw [if_neg (fun z => h z.1)]
    simp (disch := omega) only [sC94 hA hC hs hp, h, b95_6, b95_12, pz_k0, pz_k1, pz_k2, pz_k3, pz_k4, pz_k5, pz_k6, pz_k7, pz_k8, pz_k9, pz_k10, pz_k16, pz_k31, pz_k63, pz_km, nI_add, pz_mul, nI_ltI, nI_eq, nI_clamp, pz_inI, Option.bind_some, Option.toList_some, Option.toList_none, List.cons_append, List.nil_append, Nat.zero_add, Nat.mul_zero, Nat.add_zero, Nat.lt_irrefl, pz_bb, pz_bTr, Bool.false_eq_true, pz_bFa, Nat.reduceEqDiff, Nat.reduceLT, ite_not, pz_mE, pz_mE2, pz_mL, pz_mG, not_true_eq_false, not_false_eq_true, if_true, if_false, reduceIte, eq_self, true_or, or_true, or_false, false_or, and_true, true_and, and_false, false_and]
end PZW
