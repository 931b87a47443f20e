/-! wander -/
def pz_wt (A : pz_A) (v q e b : Nat) : Prop := pz_op A b v ∧ (pz_at A b q ∧ pz_len A b ≤ e)
noncomputable def pz_nt (A : pz_A) (v q e : Nat) : Nat → Nat
  | 0 => 0
  | b + 1 => pz_nt A v q e b + @ite _ (pz_wt A v q e b) (Classical.propDecidable _) 1 0
theorem pz_nt_s {A : pz_A} {v q e b : Nat} : pz_nt A v q e (b + 1) = pz_nt A v q e b + @ite _ (pz_wt A v q e b) (Classical.propDecidable _) 1 0 := rfl
theorem pz_nt_T {A : pz_A} {v q e b : Nat} (h : pz_wt A v q e b) : pz_nt A v q e (b + 1) = pz_nt A v q e b + 1 := by rw [pz_nt_s, if_pos h]
theorem pz_nt_F {A : pz_A} {v q e b : Nat} (h : ¬ pz_wt A v q e b) : pz_nt A v q e (b + 1) = pz_nt A v q e b := by rw [pz_nt_s, if_neg h]; rfl
theorem pz_nt_le {A : pz_A} {v q e : Nat} : ∀ b, pz_nt A v q e b ≤ b
  | 0 => Nat.le_refl 0
  | b + 1 => by
    have := pz_nt_le (A := A) (v := v) (q := q) (e := e) b
    rw [pz_nt_s]
    split <;> omega
theorem pz_nt_m {A : pz_A} {v q e b : Nat} : ∀ d, pz_nt A v q e b ≤ pz_nt A v q e (b + d)
  | 0 => Nat.le_refl _
  | d + 1 => by
    have h1 := pz_nt_m (A := A) (v := v) (q := q) (e := e) (b := b) d
    have h2 := pz_nt_s (A := A) (v := v) (q := q) (e := e) (b := b + d)
    rw [show b + (d + 1) = b + d + 1 by omega]
    omega
theorem pz_nt_ex {A : pz_A} {v q e r : Nat} : ∀ n, r < pz_nt A v q e n → ∃ b, b < n ∧ pz_wt A v q e b ∧ pz_nt A v q e b = r
  | 0, h => absurd h (Nat.not_lt_zero _)
  | n + 1, h => by
    by_cases hr : r < pz_nt A v q e n
    · obtain ⟨b, h1, h2⟩ := pz_nt_ex n hr
      exact ⟨b, by omega, h2⟩
    · by_cases hw : pz_wt A v q e n
      · rw [pz_nt_T hw] at h
        exact ⟨n, by omega, hw, by omega⟩
      · rw [pz_nt_F hw] at h
        exact absurd h hr
def pz_sx (x : Int64) : Int64 := (1103515245 * x + 12345) &&& 2147483647
def pz_dr (x : Int64) (m : Nat) : Int32 := (x / 65536 - x / 65536 / (nI m).toInt64 * (nI m).toInt64).toInt32
theorem pz_sx_r (x : Int64) : ∃ u : Nat, u < 2 ^ 31 ∧ (pz_sx x).toInt = (u : Int) := by
  unfold pz_sx
  generalize 1103515245 * x + 12345 = y
  have h1 : (y.toBitVec &&& (2147483647 : Int64).toBitVec).toNat < 2 ^ 31 := by
    rw [BitVec.toNat_and, show ((2147483647 : Int64).toBitVec).toNat = 2147483647 from by decide]
    exact Nat.lt_of_le_of_lt Nat.and_le_right (by decide)
  refine ⟨_, h1, ?_⟩
  rw [← Int64.toInt_toBitVec, Int64.toBitVec_and]
  exact BitVec.toInt_eq_toNat_of_lt (by omega)
theorem pz_cL {m : Nat} (hm : m ≤ 9) : ((nI m).toInt64).toInt = (m : Int) := by
  rw [Int32.toInt_toInt64]
  exact nI_toInt (by omega)
theorem pz_nzL {m : Nat} (h1 : 1 ≤ m) (hm : m ≤ 9) : ¬ (nI m).toInt64 = 0 := by
  intro h
  have := pz_cL hm
  rw [h] at this
  have e : (0 : Int64).toInt = 0 := by decide
  omega
theorem pz_dr_r {x : Int64} {m : Nat} (h1 : 1 ≤ m) (hm : m ≤ 9) : ∃ r, r < m ∧ pz_dr (pz_sx x) m = nI r := by
  obtain ⟨u, hu, e⟩ := pz_sx_r x
  refine ⟨u / 65536 % m, Nat.mod_lt _ (by omega), ?_⟩
  unfold pz_dr
  apply Int32.toInt_inj.mp
  have n1 : (65536 : Int64) ≠ -1 := by decide
  have n2 : (nI m).toInt64 ≠ -1 := by
    intro h
    have := pz_cL hm
    rw [h] at this
    have e : (-1 : Int64).toInt = -1 := by decide
    omega
  have e65 : (65536 : Int64).toInt = 65536 := by decide
  have q1 : (pz_sx x / 65536).toInt = ((u / 65536 : Nat) : Int) := by
    rw [Int64.toInt_div_of_ne_right _ _ n1, e, e65, Int.tdiv_eq_ediv_of_nonneg (by omega)]
    omega
  have q2 : (pz_sx x / 65536 / (nI m).toInt64).toInt = ((u / 65536 / m : Nat) : Int) := by
    rw [Int64.toInt_div_of_ne_right _ _ n2, q1, pz_cL hm, Int.tdiv_eq_ediv_of_nonneg (by omega)]
    rfl
  have hk : u / 65536 / m * m ≤ u / 65536 := Nat.div_mul_le_self _ _
  have q3 : (pz_sx x / 65536 / (nI m).toInt64 * (nI m).toInt64).toInt = ((u / 65536 / m * m : Nat) : Int) := by
    rw [Int64.toInt_mul, q2, pz_cL hm, ← Int.natCast_mul]
    exact Int.bmod_eq_of_le_mul_two (by omega) (by omega)
  have hmod := Nat.div_add_mod (u / 65536) m
  rw [Nat.mul_comm] at hmod
  rw [Int64.toInt_toInt32, Int64.toInt_sub, q1, q3, nI_toInt (Nat.lt_trans (Nat.mod_lt _ (by omega)) (by omega : m < 2 ^ 31))]
  obtain ⟨a, ha⟩ : ∃ a, a = u / 65536 / m * m := ⟨_, rfl⟩
  obtain ⟨d, hd⟩ : ∃ d, d = u / 65536 % m := ⟨_, rfl⟩
  rw [← ha, ← hd] at hmod
  rw [← ha] at hk
  rw [← ha, ← hd, show ((u / 65536 : Nat) : Int) - (a : Int) = (d : Int) by omega, Int.bmod_eq_of_le_mul_two (x := (d : Int)) (y := 2 ^ 64) (by omega) (by omega)]
  exact Int.bmod_eq_of_le_mul_two (by omega) (by omega)
theorem pz_dec {a : Nat} (h : 1 ≤ a) : nI a + pz_m = nI (a - 1) := by
  obtain ⟨c, rfl⟩ : ∃ c, a = c + 1 := ⟨a - 1, by omega⟩
  rw [← nI_add, Int32.add_assoc, show nI 1 + pz_m = 0 from by decide, Int32.add_zero, Nat.add_sub_cancel]
theorem pz_uL_s {L : mm_HL} {c i : Nat} {x : Int64} : mm_uL L c i x c i = x := if_pos ⟨rfl, rfl⟩
abbrev pz_W : Type := Nat × Nat × Nat × Int64
noncomputable def pz_pk (A : pz_A) (v q e r : Nat) : Nat := pz_fnd (fun b => pz_d (pz_wt A v q e b ∧ pz_nt A v q e b = r)) (A 0 0 0) 0
noncomputable def pz_ws (A : pz_A) (v : Nat) (z : pz_W) : pz_W := if pz_nt A v z.1 z.2.1 (A 0 0 0) = 0 then z else (pz_oth A (pz_pk A v z.1 z.2.1 (pz_dr (pz_sx z.2.2.2) (pz_nt A v z.1 z.2.1 (A 0 0 0))).toNatClampNeg) z.1, z.2.1 - pz_len A (pz_pk A v z.1 z.2.1 (pz_dr (pz_sx z.2.2.2) (pz_nt A v z.1 z.2.1 (A 0 0 0))).toNatClampNeg), z.2.2.1 + 1, pz_sx z.2.2.2)
noncomputable def pz_wz (A : pz_A) (v : Nat) (z : pz_W) : Nat → pz_W
  | 0 => z
  | t + 1 => pz_ws A v (pz_wz A v z t)
def pz_wok (t : Nat) (z : pz_W) : Prop := z.1 < 6 ∧ z.2.1 ≤ 30 ∧ z.2.2.1 ≤ t
def pz_wC (A : pz_A) (v : Nat) (z : pz_W) (I : mm_HI) (L : mm_HL) : Prop := I 36 0 0 = nI (pz_os A v (A 0 0 0)) ∧ I 37 0 0 = nI z.1 ∧ I 38 0 0 = nI z.2.1 ∧ I 39 0 0 = nI z.2.2.1 ∧ L 40 0 = z.2.2.2
def pz_wM (z : pz_W) (J : mm_HI) (L : mm_HL) : Prop := J 71 0 0 = nI z.1 ∧ J 72 0 0 = nI z.2.1 ∧ L 70 0 = z.2.2.2
def pz_wa (z : pz_W) (w : Nat) : Int32 := match w with
  | 0 => nI z.1
  | 1 => nI z.2.1
  | 2 => nI z.2.2.1
  | _ => z.2.2.2.toInt32
section PZ63
variable {ids : List (Nat × Nat)} {I J I' J' : mm_HI} {L LC LM LC' LM' : mm_HL} {κ f f' : Nat → Nat} {A : pz_A} {k ck n n' g a b v s p q e r m : Nat}
theorem pz_pk_is (h : r < pz_nt A v q e (A 0 0 0)) : pz_pk A v q e r < A 0 0 0 ∧ pz_wt A v q e (pz_pk A v q e r) ∧ pz_nt A v q e (pz_pk A v q e r) = r := by
  obtain ⟨b, h1, h2⟩ := pz_nt_ex _ h
  have hlt : pz_pk A v q e r < 0 + A 0 0 0 := by
    refine Classical.byContradiction (fun z => ?_)
    have := pz_fnd_not (p := fun b => pz_d (pz_wt A v q e b ∧ pz_nt A v q e b = r)) (A 0 0 0) 0 b (Nat.zero_le _) (by unfold pz_pk at z; omega)
    try dsimp only at this
    rw [pz_dT h2] at this
    cases this
  have := pz_dI.mp (pz_fnd_is (p := fun b => pz_d (pz_wt A v q e b ∧ pz_nt A v q e b = r)) (A 0 0 0) 0 hlt)
  exact ⟨by omega, this⟩
/-- canTake -/
theorem sC109 (hA : pz_wf ck A) (hC : pz_C 0 A I κ) (h36 : I 36 0 0 = nI (pz_os A v (A 0 0 0))) (h37 : I 37 0 0 = nI q) (h38 : I 38 0 0 = nI e) (hq : q < 6) (he : e ≤ 30) (hb : b < A 0 0 0) : mm_ev 109 0 [some (.inr (.inr (8, 0))), some (.inl (nI b))] [] (ids, I, L, mm_RS κ) = some (some (.inl (pz_b (pz_wt A v q e b))), (ids, I, L, mm_RS κ)) := by
  have h9 := hA.2.1
  have hos := pz_os_lt9 (A := A) (v := v) h9
  have hbi := pz_os_bit (A := A) (v := v) (A 0 0 0) b hb
  have hb2 := pz_bt2 (v := pz_os A v (A 0 0 0)) (s := b)
  have b10 : b < 10 := by omega
  have b9 : b < 9 := by omega
  by_cases ho : pz_op A b v
  · have h1 := hbi.mpr ho
    by_cases hr : pz_at A b q ∧ pz_len A b ≤ e
    · rw [pz_bT (P := pz_wt A v q e b) ⟨ho, hr⟩, b109_0]
      simp (disch := omega) only [h36, pz_bit hos b10, h1, b109_11, b9, b109_20, h37, h38, sC80 hA hC hb hq (show e < 2 ^ 31 by omega), pz_bT hr, b109_31, b109_34, b109_39, pz_k0, pz_k1, pz_k2, pz_k3, pz_k4, pz_k5, pz_k6, pz_k7, pz_k8, pz_k9, pz_k10, pz_k16, pz_k31, pz_k63, pz_km, nI_add, pz_mul, nI_ltI, nI_eq, nI_clamp, pz_inI, Option.bind_some, Option.toList_some, Option.toList_none, List.cons_append, List.nil_append, Nat.zero_add, Nat.mul_zero, Nat.add_zero, Nat.lt_irrefl, pz_bb, pz_bTr, Bool.false_eq_true, pz_bFa, Nat.reduceEqDiff, Nat.reduceLT, ite_not, pz_mE, pz_mE2, pz_mL, pz_mG, not_true_eq_false, not_false_eq_true, if_true, if_false, reduceIte, eq_self, true_or, or_true, or_false, false_or, and_true, true_and, and_false, false_and]
    · rw [pz_bF (fun z : pz_wt A v q e b => hr z.2), b109_0]
      simp (disch := omega) only [h36, pz_bit hos b10, h1, b109_11, b9, b109_20, h37, h38, sC80 hA hC hb hq (show e < 2 ^ 31 by omega), pz_bF hr, b109_31, b109_38, b109_39, pz_k0, pz_k1, pz_k2, pz_k3, pz_k4, pz_k5, pz_k6, pz_k7, pz_k8, pz_k9, pz_k10, pz_k16, pz_k31, pz_k63, pz_km, nI_add, pz_mul, nI_ltI, nI_eq, nI_clamp, pz_inI, Option.bind_some, Option.toList_some, Option.toList_none, List.cons_append, List.nil_append, Nat.zero_add, Nat.mul_zero, Nat.add_zero, Nat.lt_irrefl, pz_bb, pz_bTr, Bool.false_eq_true, pz_bFa, Nat.reduceEqDiff, Nat.reduceLT, ite_not, pz_mE, pz_mE2, pz_mL, pz_mG, not_true_eq_false, not_false_eq_true, if_true, if_false, reduceIte, eq_self, true_or, or_true, or_false, false_or, and_true, true_and, and_false, false_and]
  · have h0 : pz_bt (pz_os A v (A 0 0 0)) b = 0 := by
      have : ¬ pz_bt (pz_os A v (A 0 0 0)) b = 1 := fun z => ho (hbi.mp z)
      omega
    rw [pz_bF (fun z : pz_wt A v q e b => ho z.1), b109_0]
    simp (disch := omega) only [h36, pz_bit hos b10, h0, b109_38, b109_39, pz_k0, pz_k1, pz_k2, pz_k3, pz_k4, pz_k5, pz_k6, pz_k7, pz_k8, pz_k9, pz_k10, pz_k16, pz_k31, pz_k63, pz_km, nI_add, pz_mul, nI_ltI, nI_eq, nI_clamp, pz_inI, Option.bind_some, Option.toList_some, Option.toList_none, List.cons_append, List.nil_append, Nat.zero_add, Nat.mul_zero, Nat.add_zero, Nat.lt_irrefl, pz_bb, pz_bTr, Bool.false_eq_true, pz_bFa, Nat.reduceEqDiff, Nat.reduceLT, ite_not, pz_mE, pz_mE2, pz_mL, pz_mG, not_true_eq_false, not_false_eq_true, if_true, if_false, reduceIte, eq_self, true_or, or_true, or_false, false_or, and_true, true_and, and_false, false_and]
/-- goOverChoice -/
theorem sC108 {c : Nat} (hA : pz_wf ck A) (hC : pz_C 0 A I κ) (h36 : I 36 0 0 = nI (pz_os A v (A 0 0 0))) (h37 : I 37 0 0 = nI q) (h38 : I 38 0 0 = nI e) (h39 : I 39 0 0 = nI c) (hq : q < 6) (he : e ≤ 30) (hb : b < A 0 0 0) (hw : pz_wt A v q e b) (hr : pz_nt A v q e b = r) : mm_ev 108 0 [some (.inr (.inr (8, 0))), some (.inl (nI r)), none, none] [] (ids, I, L, mm_RS κ) = some (none, (ids, mm_uI (mm_uI (mm_uI I 38 0 0 (nI (e - pz_len A b))) 37 0 0 (nI (pz_oth A b q))) 39 0 0 (nI (c + 1)), L, mm_RS κ)) := by
  have h9 := hA.2.1
  have h10 := hC.1
  have hrb := pz_nt_le (A := A) (v := v) (q := q) (e := e) b
  have hl := pz_loop (fun j => mm_ev 108 4 [some (.inr (.inr (8, 0))), some (.inl (nI r)), some (.inl (nI (r - pz_nt A v q e j))), some (.inl (nI j))] [] (ids, I, L, mm_RS κ)) b (fun j hj => ?_)
  · have hst : mm_ev 108 0 [some (.inr (.inr (8, 0))), some (.inl (nI r)), none, none] [] (ids, I, L, mm_RS κ) = mm_ev 108 4 [some (.inr (.inr (8, 0))), some (.inl (nI r)), some (.inl (nI (r - pz_nt A v q e 0))), some (.inl (nI 0))] [] (ids, I, L, mm_RS κ) := by
      rw [b108_0]
      rfl
    rw [hst]
    refine Eq.trans hl ?_
    try dsimp only
    have hcb := (pz_C0b hC hb).2.2.2.2.1
    have hC2 : pz_C 0 A (mm_uI I 38 0 0 (nI (e - pz_len A b))) κ := pz_C_fr (pz_frU rfl pz_fr0) hC
    rw [hr, Nat.sub_self, b108_4]
    simp (disch := omega) only [h10, hb, b108_15, sC109 hA hC h36 h37 h38 hq he hb, pz_bT hw, b108_20, b108_23, b108_27, show b < 9 by omega, h38, b108_41, hcb, pz_k0, pz_k1, pz_k2, pz_k3, pz_k4, pz_k5, pz_k6, pz_k7, pz_k8, pz_k9, pz_k10, pz_k16, pz_k31, pz_k63, pz_km, nI_add, pz_mul, nI_ltI, nI_eq, nI_clamp, pz_inI, Option.bind_some, Option.toList_some, Option.toList_none, List.cons_append, List.nil_append, Nat.zero_add, Nat.mul_zero, Nat.add_zero, Nat.lt_irrefl, pz_bb, pz_bTr, Bool.false_eq_true, pz_bFa, Nat.reduceEqDiff, Nat.reduceLT, ite_not, pz_mE, pz_mE2, pz_mL, pz_mG, not_true_eq_false, not_false_eq_true, if_true, if_false, reduceIte, eq_self, true_or, or_true, or_false, false_or, and_true, true_and, and_false, false_and]
    rw [pz_sub hw.2.2]
    simp (disch := omega) only [b108_58, pz_uI_j, h37, sC82 hA hC2 hb hq, pz_k0, pz_k1, pz_k2, pz_k3, pz_k4, pz_k5, pz_k6, pz_k7, pz_k8, pz_k9, pz_k10, pz_k16, pz_k31, pz_k63, pz_km, nI_add, pz_mul, nI_ltI, nI_eq, nI_clamp, pz_inI, Option.bind_some, Option.toList_some, Option.toList_none, List.cons_append, List.nil_append, Nat.zero_add, Nat.mul_zero, Nat.add_zero, Nat.lt_irrefl, pz_bb, pz_bTr, Bool.false_eq_true, pz_bFa, Nat.reduceEqDiff, Nat.reduceLT, ite_not, pz_mE, pz_mE2, pz_mL, pz_mG, not_true_eq_false, not_false_eq_true, if_true, if_false, reduceIte, eq_self, true_or, or_true, or_false, false_or, and_true, true_and, and_false, false_and]
    rw [b108_65]
    simp (disch := omega) only [pz_uI_j, h39, pz_k0, pz_k1, pz_k2, pz_k3, pz_k4, pz_k5, pz_k6, pz_k7, pz_k8, pz_k9, pz_k10, pz_k16, pz_k31, pz_k63, pz_km, nI_add, pz_mul, nI_ltI, nI_eq, nI_clamp, pz_inI, Option.bind_some, Option.toList_some, Option.toList_none, List.cons_append, List.nil_append, Nat.zero_add, Nat.mul_zero, Nat.add_zero, Nat.lt_irrefl, pz_bb, pz_bTr, Bool.false_eq_true, pz_bFa, Nat.reduceEqDiff, Nat.reduceLT, ite_not, pz_mE, pz_mE2, pz_mL, pz_mG, not_true_eq_false, not_false_eq_true, if_true, if_false, reduceIte, eq_self, true_or, or_true, or_false, false_or, and_true, true_and, and_false, false_and]
  · try dsimp only
    have hjn : j < A 0 0 0 := by omega
    have hm := pz_nt_m (A := A) (v := v) (q := q) (e := e) (b := j + 1) (b - (j + 1))
    rw [show j + 1 + (b - (j + 1)) = b by omega, hr] at hm
    by_cases hwj : pz_wt A v q e j
    · rw [pz_nt_T hwj] at hm
      rw [pz_nt_T hwj, b108_4, show r - (pz_nt A v q e j + 1) = r - pz_nt A v q e j - 1 by omega, ← pz_dec (show 1 ≤ r - pz_nt A v q e j by omega)]
      simp (disch := omega) only [h10, hjn, b108_15, sC109 hA hC h36 h37 h38 hq he hjn, pz_bT hwj, b108_20, b108_23, show ¬ r - pz_nt A v q e j = 0 by omega, b108_79, b108_82, pz_k0, pz_k1, pz_k2, pz_k3, pz_k4, pz_k5, pz_k6, pz_k7, pz_k8, pz_k9, pz_k10, pz_k16, pz_k31, pz_k63, pz_km, nI_add, pz_mul, nI_ltI, nI_eq, nI_clamp, pz_inI, Option.bind_some, Option.toList_some, Option.toList_none, List.cons_append, List.nil_append, Nat.zero_add, Nat.mul_zero, Nat.add_zero, Nat.lt_irrefl, pz_bb, pz_bTr, Bool.false_eq_true, pz_bFa, Nat.reduceEqDiff, Nat.reduceLT, ite_not, pz_mE, pz_mE2, pz_mL, pz_mG, not_true_eq_false, not_false_eq_true, if_true, if_false, reduceIte, eq_self, true_or, or_true, or_false, false_or, and_true, true_and, and_false, false_and]
    · rw [pz_nt_F hwj, b108_4]
      simp (disch := omega) only [h10, hjn, b108_15, sC109 hA hC h36 h37 h38 hq he hjn, pz_bF hwj, b108_20, b108_82, pz_k0, pz_k1, pz_k2, pz_k3, pz_k4, pz_k5, pz_k6, pz_k7, pz_k8, pz_k9, pz_k10, pz_k16, pz_k31, pz_k63, pz_km, nI_add, pz_mul, nI_ltI, nI_eq, nI_clamp, pz_inI, Option.bind_some, Option.toList_some, Option.toList_none, List.cons_append, List.nil_append, Nat.zero_add, Nat.mul_zero, Nat.add_zero, Nat.lt_irrefl, pz_bb, pz_bTr, Bool.false_eq_true, pz_bFa, Nat.reduceEqDiff, Nat.reduceLT, ite_not, pz_mE, pz_mE2, pz_mL, pz_mG, not_true_eq_false, not_false_eq_true, if_true, if_false, reduceIte, eq_self, true_or, or_true, or_false, false_or, and_true, true_and, and_false, false_and]
/-- takeTurn -/
theorem sC107 {t : Nat} {z : pz_W} (ht : t ≤ 60) (hA : pz_wf ck A) (hC : pz_C 0 A I κ) (hz : pz_wok t z) (hw : pz_wC A v z I L) : ∃ I' L', mm_ev 107 0 [some (.inr (.inr (8, 0))), none, none] [] (ids, I, L, mm_RS κ) = some (none, (ids, I', L', mm_RS κ)) ∧ pz_fr I I' ∧ pz_wok (t + 1) (pz_ws A v z) ∧ pz_wC A v (pz_ws A v z) I' L' := by
  obtain ⟨z1, z2, z3⟩ := hz
  obtain ⟨w1, w2, w3, w4, w5⟩ := hw
  have h9 := hA.2.1
  have h10 := hC.1
  have hle := pz_nt_le (A := A) (v := v) (q := z.1) (e := z.2.1) (A 0 0 0)
  have hl := pz_loop (fun j => mm_ev 107 4 [some (.inr (.inr (8, 0))), some (.inl (nI (pz_nt A v z.1 z.2.1 j))), some (.inl (nI j))] [] (ids, I, L, mm_RS κ)) (A 0 0 0) (fun j hj => ?_)
  · have hst : mm_ev 107 0 [some (.inr (.inr (8, 0))), none, none] [] (ids, I, L, mm_RS κ) = mm_ev 107 32 [some (.inr (.inr (8, 0))), some (.inl (nI (pz_nt A v z.1 z.2.1 (A 0 0 0)))), some (.inl (nI (A 0 0 0)))] [] (ids, I, L, mm_RS κ) := by
      rw [b107_0]
      refine Eq.trans hl ?_
      try dsimp only
      rw [b107_4]
      simp (disch := omega) only [h10, pz_k0, pz_k1, pz_k2, pz_k3, pz_k4, pz_k5, pz_k6, pz_k7, pz_k8, pz_k9, pz_k10, pz_k16, pz_k31, pz_k63, pz_km, nI_add, pz_mul, nI_ltI, nI_eq, nI_clamp, pz_inI, Option.bind_some, Option.toList_some, Option.toList_none, List.cons_append, List.nil_append, Nat.zero_add, Nat.mul_zero, Nat.add_zero, Nat.lt_irrefl, pz_bb, pz_bTr, Bool.false_eq_true, pz_bFa, Nat.reduceEqDiff, Nat.reduceLT, ite_not, pz_mE, pz_mE2, pz_mL, pz_mG, not_true_eq_false, not_false_eq_true, if_true, if_false, reduceIte, eq_self, true_or, or_true, or_false, false_or, and_true, true_and, and_false, false_and]
    rw [hst]
    by_cases h0 : pz_nt A v z.1 z.2.1 (A 0 0 0) = 0
    · have hws : pz_ws A v z = z := if_pos h0
      rw [hws]
      refine ⟨I, L, ?_, pz_fr0, ⟨z1, z2, by omega⟩, w1, w2, w3, w4, w5⟩
      rw [h0, b107_32]
      simp (disch := omega) only [b107_45, pz_k0, pz_k1, pz_k2, pz_k3, pz_k4, pz_k5, pz_k6, pz_k7, pz_k8, pz_k9, pz_k10, pz_k16, pz_k31, pz_k63, pz_km, nI_add, pz_mul, nI_ltI, nI_eq, nI_clamp, pz_inI, Option.bind_some, Option.toList_some, Option.toList_none, List.cons_append, List.nil_append, Nat.zero_add, Nat.mul_zero, Nat.add_zero, Nat.lt_irrefl, pz_bb, pz_bTr, Bool.false_eq_true, pz_bFa, Nat.reduceEqDiff, Nat.reduceLT, ite_not, pz_mE, pz_mE2, pz_mL, pz_mG, not_true_eq_false, not_false_eq_true, if_true, if_false, reduceIte, eq_self, true_or, or_true, or_false, false_or, and_true, true_and, and_false, false_and]
    · obtain ⟨r, hr, er⟩ := pz_dr_r (x := z.2.2.2) (m := pz_nt A v z.1 z.2.1 (A 0 0 0)) (by omega) (by omega)
      obtain ⟨p1, p2, p3⟩ := pz_pk_is hr
      have hcl : (pz_dr (pz_sx z.2.2.2) (pz_nt A v z.1 z.2.1 (A 0 0 0))).toNatClampNeg = r := by rw [er, nI_clamp (by omega)]
      have hws : pz_ws A v z = (pz_oth A (pz_pk A v z.1 z.2.1 r) z.1, z.2.1 - pz_len A (pz_pk A v z.1 z.2.1 r), z.2.2.1 + 1, pz_sx z.2.2.2) := by
        unfold pz_ws
        rw [if_neg h0, hcl]
      rw [hws]
      have h108 := sC108 (ids := ids) (L := mm_uL L 40 0 (pz_sx z.2.2.2)) hA hC w1 w2 w3 w4 z1 z2 p1 p2 p3
      have h110 : mm_ev 110 0 [some (.inr (.inr (8, 0))), some (.inl (nI (pz_nt A v z.1 z.2.1 (A 0 0 0))))] [] (ids, I, L, mm_RS κ) = some (some (.inl (nI r)), (ids, I, mm_uL L 40 0 (pz_sx z.2.2.2), mm_RS κ)) := by
        rw [← er, b110_0, w5]
        unfold pz_dr
        have hnz := pz_nzL (m := pz_nt A v z.1 z.2.1 (A 0 0 0)) (by omega) (by omega)
        simp (disch := omega) only [show 0 < pz_nt A v z.1 z.2.1 (A 0 0 0) by omega, pz_k0, pz_k1, pz_k2, pz_k3, pz_k4, pz_k5, pz_k6, pz_k7, pz_k8, pz_k9, pz_k10, pz_k16, pz_k31, pz_k63, pz_km, nI_add, pz_mul, nI_ltI, nI_eq, nI_clamp, pz_inI, Option.bind_some, Option.toList_some, Option.toList_none, List.cons_append, List.nil_append, Nat.zero_add, Nat.mul_zero, Nat.add_zero, Nat.lt_irrefl, pz_bb, pz_bTr, Bool.false_eq_true, pz_bFa, Nat.reduceEqDiff, Nat.reduceLT, ite_not, pz_mE, pz_mE2, pz_mL, pz_mG, not_true_eq_false, not_false_eq_true, if_true, if_false, reduceIte, eq_self, true_or, or_true, or_false, false_or, and_true, true_and, and_false, false_and]
        rw [b110_24, if_neg (by decide), b110_32, if_neg hnz, b110_35, b110_40]
        rw [show mm_uL L 40 0 (1103515245 * z.2.2.2 + 12345 &&& 2147483647) 40 0 = pz_sx z.2.2.2 from pz_uL_s]
        rfl
      refine ⟨_, _, ?_, pz_frU (I' := mm_uI (mm_uI I 38 0 0 (nI (z.2.1 - pz_len A (pz_pk A v z.1 z.2.1 r)))) 37 0 0 (nI (pz_oth A (pz_pk A v z.1 z.2.1 r) z.1))) (x := nI (z.2.2.1 + 1)) (i := 0) (j := 0) (c := 39) rfl (pz_frU rfl (pz_frU rfl pz_fr0)), ⟨pz_oth_lt hA p1, show z.2.1 - pz_len A (pz_pk A v z.1 z.2.1 r) ≤ 30 by omega, show z.2.2.1 + 1 ≤ t + 1 by omega⟩, ?_, ?_, ?_, ?_, pz_uL_s (L := L)⟩
      · rw [b107_32]
        simp (disch := omega) only [show 0 < pz_nt A v z.1 z.2.1 (A 0 0 0) by omega, b107_36, h110, b107_42, h108, b107_45, pz_k0, pz_k1, pz_k2, pz_k3, pz_k4, pz_k5, pz_k6, pz_k7, pz_k8, pz_k9, pz_k10, pz_k16, pz_k31, pz_k63, pz_km, nI_add, pz_mul, nI_ltI, nI_eq, nI_clamp, pz_inI, Option.bind_some, Option.toList_some, Option.toList_none, List.cons_append, List.nil_append, Nat.zero_add, Nat.mul_zero, Nat.add_zero, Nat.lt_irrefl, pz_bb, pz_bTr, Bool.false_eq_true, pz_bFa, Nat.reduceEqDiff, Nat.reduceLT, ite_not, pz_mE, pz_mE2, pz_mL, pz_mG, not_true_eq_false, not_false_eq_true, if_true, if_false, reduceIte, eq_self, true_or, or_true, or_false, false_or, and_true, true_and, and_false, false_and]
      · rw [pz_uI_ne (by decide), pz_uI_ne (by decide), pz_uI_ne (by decide)]
        exact w1
      · rw [pz_uI_ne (by decide), pz_uI_s]
      · rw [pz_uI_ne (by decide), pz_uI_ne (by decide), pz_uI_s]
      · rw [pz_uI_s]
  · try dsimp only
    have hlj := pz_nt_le (A := A) (v := v) (q := z.1) (e := z.2.1) j
    by_cases hwj : pz_wt A v z.1 z.2.1 j
    · rw [pz_nt_T hwj, b107_4]
      simp (disch := omega) only [h10, hj, b107_15, sC109 hA hC w1 w2 w3 z1 z2 hj, pz_bT hwj, b107_20, b107_23, b107_26, pz_k0, pz_k1, pz_k2, pz_k3, pz_k4, pz_k5, pz_k6, pz_k7, pz_k8, pz_k9, pz_k10, pz_k16, pz_k31, pz_k63, pz_km, nI_add, pz_mul, nI_ltI, nI_eq, nI_clamp, pz_inI, Option.bind_some, Option.toList_some, Option.toList_none, List.cons_append, List.nil_append, Nat.zero_add, Nat.mul_zero, Nat.add_zero, Nat.lt_irrefl, pz_bb, pz_bTr, Bool.false_eq_true, pz_bFa, Nat.reduceEqDiff, Nat.reduceLT, ite_not, pz_mE, pz_mE2, pz_mL, pz_mG, not_true_eq_false, not_false_eq_true, if_true, if_false, reduceIte, eq_self, true_or, or_true, or_false, false_or, and_true, true_and, and_false, false_and]
    · rw [pz_nt_F hwj, b107_4]
      simp (disch := omega) only [h10, hj, b107_15, sC109 hA hC w1 w2 w3 z1 z2 hj, pz_bF hwj, b107_20, b107_26, pz_k0, pz_k1, pz_k2, pz_k3, pz_k4, pz_k5, pz_k6, pz_k7, pz_k8, pz_k9, pz_k10, pz_k16, pz_k31, pz_k63, pz_km, nI_add, pz_mul, nI_ltI, nI_eq, nI_clamp, pz_inI, Option.bind_some, Option.toList_some, Option.toList_none, List.cons_append, List.nil_append, Nat.zero_add, Nat.mul_zero, Nat.add_zero, Nat.lt_irrefl, pz_bb, pz_bTr, Bool.false_eq_true, pz_bFa, Nat.reduceEqDiff, Nat.reduceLT, ite_not, pz_mE, pz_mE2, pz_mL, pz_mG, not_true_eq_false, not_false_eq_true, if_true, if_false, reduceIte, eq_self, true_or, or_true, or_false, false_or, and_true, true_and, and_false, false_and]
/-- mayWander -/
theorem sM165 (hA : pz_wf ck A) (hM : pz_M A I) (hs : s < A 6 0 0) (h71 : I 71 0 0 = nI q) (h72 : I 72 0 0 = nI e) (hq : q < 6) (he : e ≤ 30) (hb : b < A 0 0 0) : mm_ev 165 0 [some (.inr (.inr (9, 0))), some (.inl (nI s)), some (.inl (nI b))] [] (ids, I, L, mm_RM) = some (some (.inl (pz_b (pz_wt A (A 8 s 0) q e b))), (ids, I, L, mm_RM)) := by
  have h5 := hA.2.2.2.1
  have hs5 : s < 5 := by omega
  have a8 := (hA.2.2.2.2.1 s hs).2.1
  have d2 := (pz_M0s hM hs).2.1
  have hlen := pz_len_b hA hb
  by_cases ha : pz_at A b q
  · by_cases ho : pz_op A b (A 8 s 0)
    · by_cases hl : pz_len A b ≤ e
      · rw [pz_bT (P := pz_wt A (A 8 s 0) q e b) ⟨ho, ha, hl⟩, b165_0]
        simp (disch := omega) only [h71, sM141 hA hM hb hq, pz_bT ha, b165_9, b165_12, hs5, d2, b165_20, sM140 hA hM hb a8, pz_bT ho, b165_23, b165_26, h72, sM125 hA hM hb, b165_35, show ¬ e < pz_len A b by omega, b165_38, b165_43, pz_k0, pz_k1, pz_k2, pz_k3, pz_k4, pz_k5, pz_k6, pz_k7, pz_k8, pz_k9, pz_k10, pz_k16, pz_k31, pz_k63, pz_km, nI_add, pz_mul, nI_ltI, nI_eq, nI_clamp, pz_inI, Option.bind_some, Option.toList_some, Option.toList_none, List.cons_append, List.nil_append, Nat.zero_add, Nat.mul_zero, Nat.add_zero, Nat.lt_irrefl, pz_bb, pz_bTr, Bool.false_eq_true, pz_bFa, Nat.reduceEqDiff, Nat.reduceLT, ite_not, pz_mE, pz_mE2, pz_mL, pz_mG, not_true_eq_false, not_false_eq_true, if_true, if_false, reduceIte, eq_self, true_or, or_true, or_false, false_or, and_true, true_and, and_false, false_and]
      · rw [pz_bF (fun z : pz_wt A (A 8 s 0) q e b => hl z.2.2), b165_0]
        simp (disch := omega) only [h71, sM141 hA hM hb hq, pz_bT ha, b165_9, b165_12, hs5, d2, b165_20, sM140 hA hM hb a8, pz_bT ho, b165_23, b165_26, h72, sM125 hA hM hb, b165_35, show e < pz_len A b by omega, b165_42, b165_43, pz_k0, pz_k1, pz_k2, pz_k3, pz_k4, pz_k5, pz_k6, pz_k7, pz_k8, pz_k9, pz_k10, pz_k16, pz_k31, pz_k63, pz_km, nI_add, pz_mul, nI_ltI, nI_eq, nI_clamp, pz_inI, Option.bind_some, Option.toList_some, Option.toList_none, List.cons_append, List.nil_append, Nat.zero_add, Nat.mul_zero, Nat.add_zero, Nat.lt_irrefl, pz_bb, pz_bTr, Bool.false_eq_true, pz_bFa, Nat.reduceEqDiff, Nat.reduceLT, ite_not, pz_mE, pz_mE2, pz_mL, pz_mG, not_true_eq_false, not_false_eq_true, if_true, if_false, reduceIte, eq_self, true_or, or_true, or_false, false_or, and_true, true_and, and_false, false_and]
    · rw [pz_bF (fun z : pz_wt A (A 8 s 0) q e b => ho z.1), b165_0]
      simp (disch := omega) only [h71, sM141 hA hM hb hq, pz_bT ha, b165_9, b165_12, hs5, d2, b165_20, sM140 hA hM hb a8, pz_bF ho, b165_23, b165_42, b165_43, pz_k0, pz_k1, pz_k2, pz_k3, pz_k4, pz_k5, pz_k6, pz_k7, pz_k8, pz_k9, pz_k10, pz_k16, pz_k31, pz_k63, pz_km, nI_add, pz_mul, nI_ltI, nI_eq, nI_clamp, pz_inI, Option.bind_some, Option.toList_some, Option.toList_none, List.cons_append, List.nil_append, Nat.zero_add, Nat.mul_zero, Nat.add_zero, Nat.lt_irrefl, pz_bb, pz_bTr, Bool.false_eq_true, pz_bFa, Nat.reduceEqDiff, Nat.reduceLT, ite_not, pz_mE, pz_mE2, pz_mL, pz_mG, not_true_eq_false, not_false_eq_true, if_true, if_false, reduceIte, eq_self, true_or, or_true, or_false, false_or, and_true, true_and, and_false, false_and]
  · rw [pz_bF (fun z : pz_wt A (A 8 s 0) q e b => ha z.2.1), b165_0]
    simp (disch := omega) only [h71, sM141 hA hM hb hq, pz_bF ha, b165_9, b165_42, b165_43, pz_k0, pz_k1, pz_k2, pz_k3, pz_k4, pz_k5, pz_k6, pz_k7, pz_k8, pz_k9, pz_k10, pz_k16, pz_k31, pz_k63, pz_km, nI_add, pz_mul, nI_ltI, nI_eq, nI_clamp, pz_inI, Option.bind_some, Option.toList_some, Option.toList_none, List.cons_append, List.nil_append, Nat.zero_add, Nat.mul_zero, Nat.add_zero, Nat.lt_irrefl, pz_bb, pz_bTr, Bool.false_eq_true, pz_bFa, Nat.reduceEqDiff, Nat.reduceLT, ite_not, pz_mE, pz_mE2, pz_mL, pz_mG, not_true_eq_false, not_false_eq_true, if_true, if_false, reduceIte, eq_self, true_or, or_true, or_false, false_or, and_true, true_and, and_false, false_and]
/-- wanderOn -/
theorem sM166 {t : Nat} {z : pz_W} (ht : t ≤ 60) (hA : pz_wf ck A) (hM : pz_M A I) (hs : s < A 6 0 0) (hz : pz_wok t z) (hw : pz_wM z I L) : ∃ I' L' c, mm_ev 166 0 [some (.inr (.inr (9, 0))), some (.inl (nI s)), none, none, none] [] (ids, I, L, mm_RM) = some (some (.inl (nI c)), (ids, I', L', mm_RM)) ∧ pz_fr I I' ∧ pz_wM (pz_ws A (A 8 s 0) z) I' L' ∧ (pz_ws A (A 8 s 0) z).2.2.1 = z.2.2.1 + c ∧ c ≤ 1 := by
  obtain ⟨z1, z2, z3⟩ := hz
  obtain ⟨w1, w2, w3⟩ := hw
  have h9 := hA.2.1
  have h41 := (pz_M0 hM).1
  have hle := pz_nt_le (A := A) (v := A 8 s 0) (q := z.1) (e := z.2.1) (A 0 0 0)
  have hl := pz_loop (fun j => mm_ev 166 4 [some (.inr (.inr (9, 0))), some (.inl (nI s)), some (.inl (nI (pz_nt A (A 8 s 0) z.1 z.2.1 j))), some (.inl (nI j)), none] [] (ids, I, L, mm_RM)) (A 0 0 0) (fun j hj => ?_)
  · have hst : mm_ev 166 0 [some (.inr (.inr (9, 0))), some (.inl (nI s)), none, none, none] [] (ids, I, L, mm_RM) = mm_ev 166 35 [some (.inr (.inr (9, 0))), some (.inl (nI s)), some (.inl (nI (pz_nt A (A 8 s 0) z.1 z.2.1 (A 0 0 0)))), some (.inl (nI (A 0 0 0))), none] [] (ids, I, L, mm_RM) := by
      rw [b166_0]
      refine Eq.trans hl ?_
      try dsimp only
      rw [b166_4]
      simp (disch := omega) only [h41, pz_k0, pz_k1, pz_k2, pz_k3, pz_k4, pz_k5, pz_k6, pz_k7, pz_k8, pz_k9, pz_k10, pz_k16, pz_k31, pz_k63, pz_km, nI_add, pz_mul, nI_ltI, nI_eq, nI_clamp, pz_inI, Option.bind_some, Option.toList_some, Option.toList_none, List.cons_append, List.nil_append, Nat.zero_add, Nat.mul_zero, Nat.add_zero, Nat.lt_irrefl, pz_bb, pz_bTr, Bool.false_eq_true, pz_bFa, Nat.reduceEqDiff, Nat.reduceLT, ite_not, pz_mE, pz_mE2, pz_mL, pz_mG, not_true_eq_false, not_false_eq_true, if_true, if_false, reduceIte, eq_self, true_or, or_true, or_false, false_or, and_true, true_and, and_false, false_and]
    rw [hst]
    by_cases h0 : pz_nt A (A 8 s 0) z.1 z.2.1 (A 0 0 0) = 0
    · have hws : pz_ws A (A 8 s 0) z = z := if_pos h0
      rw [hws]
      refine ⟨I, L, 0, ?_, pz_fr0, ⟨w1, w2, w3⟩, rfl, by decide⟩
      rw [h0, b166_35]
      simp (disch := omega) only [b166_39, pz_k0, pz_k1, pz_k2, pz_k3, pz_k4, pz_k5, pz_k6, pz_k7, pz_k8, pz_k9, pz_k10, pz_k16, pz_k31, pz_k63, pz_km, nI_add, pz_mul, nI_ltI, nI_eq, nI_clamp, pz_inI, Option.bind_some, Option.toList_some, Option.toList_none, List.cons_append, List.nil_append, Nat.zero_add, Nat.mul_zero, Nat.add_zero, Nat.lt_irrefl, pz_bb, pz_bTr, Bool.false_eq_true, pz_bFa, Nat.reduceEqDiff, Nat.reduceLT, ite_not, pz_mE, pz_mE2, pz_mL, pz_mG, not_true_eq_false, not_false_eq_true, if_true, if_false, reduceIte, eq_self, true_or, or_true, or_false, false_or, and_true, true_and, and_false, false_and]
    · obtain ⟨r, hr, er⟩ := pz_dr_r (x := z.2.2.2) (m := pz_nt A (A 8 s 0) z.1 z.2.1 (A 0 0 0)) (by omega) (by omega)
      obtain ⟨p1, p2, p3⟩ := pz_pk_is hr
      have hcl : (pz_dr (pz_sx z.2.2.2) (pz_nt A (A 8 s 0) z.1 z.2.1 (A 0 0 0))).toNatClampNeg = r := by rw [er, nI_clamp (by omega)]
      have hws : pz_ws A (A 8 s 0) z = (pz_oth A (pz_pk A (A 8 s 0) z.1 z.2.1 r) z.1, z.2.1 - pz_len A (pz_pk A (A 8 s 0) z.1 z.2.1 r), z.2.2.1 + 1, pz_sx z.2.2.2) := by
        unfold pz_ws
        rw [if_neg h0, hcl]
      rw [hws]
      obtain ⟨b, hbe⟩ : ∃ b, b = pz_pk A (A 8 s 0) z.1 z.2.1 r := ⟨_, rfl⟩
      rw [← hbe] at p1 p2 p3 ⊢
      have hnz := pz_nzL (m := pz_nt A (A 8 s 0) z.1 z.2.1 (A 0 0 0)) (by omega) (by omega)
      have h164 : mm_ev 164 0 [some (.inr (.inr (9, 0))), some (.inl (nI (pz_nt A (A 8 s 0) z.1 z.2.1 (A 0 0 0))))] [] (ids, I, L, mm_RM) = some (some (.inl (nI r)), (ids, I, mm_uL L 70 0 (pz_sx z.2.2.2), mm_RM)) := by
        rw [← er, b164_0, w3, if_neg (by decide), b164_28, if_neg hnz, b164_31]
        unfold pz_dr
        rw [show mm_uL L 70 0 (1103515245 * z.2.2.2 + 12345 &&& 2147483647) 70 0 = pz_sx z.2.2.2 from pz_uL_s]
        rfl
      obtain ⟨L1, hL1⟩ : ∃ L1, L1 = mm_uL L 70 0 (pz_sx z.2.2.2) := ⟨_, rfl⟩
      rw [← hL1] at h164
      obtain ⟨-, c2, c3, -⟩ := pz_M0b hM p1
      have hM2 : pz_M A (mm_uI I 71 0 0 (nI (pz_oth A b z.1))) := pz_M_fr (pz_frU rfl pz_fr0) hM
      refine ⟨mm_uI (mm_uI I 71 0 0 (nI (pz_oth A b z.1))) 72 0 0 (nI (z.2.1 - pz_len A b)), L1, 1, ?_, pz_frU rfl (pz_frU rfl pz_fr0), ⟨by rw [pz_uI_ne (by decide), pz_uI_s], pz_uI_s, by rw [hL1]; exact pz_uL_s⟩, rfl, by decide⟩
      have hl2 := pz_loop (fun j => mm_ev 166 50 [some (.inr (.inr (9, 0))), some (.inl (nI s)), some (.inl (nI (pz_nt A (A 8 s 0) z.1 z.2.1 (A 0 0 0)))), some (.inl (nI (r - pz_nt A (A 8 s 0) z.1 z.2.1 j))), some (.inl (nI j))] [] (ids, I, L1, mm_RM)) b (fun j hj => ?_)
      · rw [b166_35]
        simp (disch := omega) only [h0, b166_41, h164, b166_46, pz_k0, pz_k1, pz_k2, pz_k3, pz_k4, pz_k5, pz_k6, pz_k7, pz_k8, pz_k9, pz_k10, pz_k16, pz_k31, pz_k63, pz_km, nI_add, pz_mul, nI_ltI, nI_eq, nI_clamp, pz_inI, Option.bind_some, Option.toList_some, Option.toList_none, List.cons_append, List.nil_append, Nat.zero_add, Nat.mul_zero, Nat.add_zero, Nat.lt_irrefl, pz_bb, pz_bTr, Bool.false_eq_true, pz_bFa, Nat.reduceEqDiff, Nat.reduceLT, ite_not, pz_mE, pz_mE2, pz_mL, pz_mG, not_true_eq_false, not_false_eq_true, if_true, if_false, reduceIte, eq_self, true_or, or_true, or_false, false_or, and_true, true_and, and_false, false_and]
        refine Eq.trans (show _ = mm_ev 166 50 [some (.inr (.inr (9, 0))), some (.inl (nI s)), some (.inl (nI (pz_nt A (A 8 s 0) z.1 z.2.1 (A 0 0 0)))), some (.inl (nI (r - pz_nt A (A 8 s 0) z.1 z.2.1 0))), some (.inl (nI 0))] [] (ids, I, L1, mm_RM) from rfl) ?_
        refine Eq.trans hl2 ?_
        try dsimp only
        rw [p3, Nat.sub_self, b166_50]
        simp (disch := omega) only [sM165 hA hM hs w1 w2 z1 z2 p1, pz_bT p2, b166_57, b166_60, b166_88, show b < 9 by omega, c2, b166_96, c3, pz_k0, pz_k1, pz_k2, pz_k3, pz_k4, pz_k5, pz_k6, pz_k7, pz_k8, pz_k9, pz_k10, pz_k16, pz_k31, pz_k63, pz_km, nI_add, pz_mul, nI_ltI, nI_eq, nI_clamp, pz_inI, Option.bind_some, Option.toList_some, Option.toList_none, List.cons_append, List.nil_append, Nat.zero_add, Nat.mul_zero, Nat.add_zero, Nat.lt_irrefl, pz_bb, pz_bTr, Bool.false_eq_true, pz_bFa, Nat.reduceEqDiff, Nat.reduceLT, ite_not, pz_mE, pz_mE2, pz_mL, pz_mG, not_true_eq_false, not_false_eq_true, if_true, if_false, reduceIte, eq_self, true_or, or_true, or_false, false_or, and_true, true_and, and_false, false_and]
        rw [b166_103, w1, nI_add, pz_so hA p1 p2.2.1, sM125 hA hM2 p1]
        simp (disch := omega) only [pz_uI_j, w2, pz_k0, pz_k1, pz_k2, pz_k3, pz_k4, pz_k5, pz_k6, pz_k7, pz_k8, pz_k9, pz_k10, pz_k16, pz_k31, pz_k63, pz_km, nI_add, pz_mul, nI_ltI, nI_eq, nI_clamp, pz_inI, Option.bind_some, Option.toList_some, Option.toList_none, List.cons_append, List.nil_append, Nat.zero_add, Nat.mul_zero, Nat.add_zero, Nat.lt_irrefl, pz_bb, pz_bTr, Bool.false_eq_true, pz_bFa, Nat.reduceEqDiff, Nat.reduceLT, ite_not, pz_mE, pz_mE2, pz_mL, pz_mG, not_true_eq_false, not_false_eq_true, if_true, if_false, reduceIte, eq_self, true_or, or_true, or_false, false_or, and_true, true_and, and_false, false_and]
        rw [b166_123, pz_sub p2.2.2]
        rfl
      · try dsimp only
        have hjn : j < A 0 0 0 := by omega
        have hm := pz_nt_m (A := A) (v := A 8 s 0) (q := z.1) (e := z.2.1) (b := j + 1) (b - (j + 1))
        rw [show j + 1 + (b - (j + 1)) = b by omega, p3] at hm
        by_cases hwj : pz_wt A (A 8 s 0) z.1 z.2.1 j
        · rw [pz_nt_T hwj] at hm
          rw [pz_nt_T hwj, b166_50, show r - (pz_nt A (A 8 s 0) z.1 z.2.1 j + 1) = r - pz_nt A (A 8 s 0) z.1 z.2.1 j - 1 by omega, ← pz_sub (show 1 ≤ r - pz_nt A (A 8 s 0) z.1 z.2.1 j by omega)]
          simp (disch := omega) only [sM165 hA hM hs w1 w2 z1 z2 hjn, pz_bT hwj, b166_57, b166_60, show 0 < r - pz_nt A (A 8 s 0) z.1 z.2.1 j by omega, b166_64, b166_72, b166_75, b166_80, pz_k0, pz_k1, pz_k2, pz_k3, pz_k4, pz_k5, pz_k6, pz_k7, pz_k8, pz_k9, pz_k10, pz_k16, pz_k31, pz_k63, pz_km, nI_add, pz_mul, nI_ltI, nI_eq, nI_clamp, pz_inI, Option.bind_some, Option.toList_some, Option.toList_none, List.cons_append, List.nil_append, Nat.zero_add, Nat.mul_zero, Nat.add_zero, Nat.lt_irrefl, pz_bb, pz_bTr, Bool.false_eq_true, pz_bFa, Nat.reduceEqDiff, Nat.reduceLT, ite_not, pz_mE, pz_mE2, pz_mL, pz_mG, not_true_eq_false, not_false_eq_true, if_true, if_false, reduceIte, eq_self, true_or, or_true, or_false, false_or, and_true, true_and, and_false, false_and]
        · rw [pz_nt_F hwj, b166_50]
          simp (disch := omega) only [sM165 hA hM hs w1 w2 z1 z2 hjn, pz_bF hwj, b166_57, b166_64, b166_72, b166_79, b166_80, pz_sub (Nat.zero_le _), Nat.sub_zero, pz_k0, pz_k1, pz_k2, pz_k3, pz_k4, pz_k5, pz_k6, pz_k7, pz_k8, pz_k9, pz_k10, pz_k16, pz_k31, pz_k63, pz_km, nI_add, pz_mul, nI_ltI, nI_eq, nI_clamp, pz_inI, Option.bind_some, Option.toList_some, Option.toList_none, List.cons_append, List.nil_append, Nat.zero_add, Nat.mul_zero, Nat.add_zero, Nat.lt_irrefl, pz_bb, pz_bTr, Bool.false_eq_true, pz_bFa, Nat.reduceEqDiff, Nat.reduceLT, ite_not, pz_mE, pz_mE2, pz_mL, pz_mG, not_true_eq_false, not_false_eq_true, if_true, if_false, reduceIte, eq_self, true_or, or_true, or_false, false_or, and_true, true_and, and_false, false_and]
  · try dsimp only
    have hlj := pz_nt_le (A := A) (v := A 8 s 0) (q := z.1) (e := z.2.1) j
    by_cases hwj : pz_wt A (A 8 s 0) z.1 z.2.1 j
    · rw [pz_nt_T hwj, b166_4]
      simp (disch := omega) only [h41, hj, b166_12, sM165 hA hM hs w1 w2 z1 z2 hj, pz_bT hwj, b166_19, b166_22, b166_27, pz_k0, pz_k1, pz_k2, pz_k3, pz_k4, pz_k5, pz_k6, pz_k7, pz_k8, pz_k9, pz_k10, pz_k16, pz_k31, pz_k63, pz_km, nI_add, pz_mul, nI_ltI, nI_eq, nI_clamp, pz_inI, Option.bind_some, Option.toList_some, Option.toList_none, List.cons_append, List.nil_append, Nat.zero_add, Nat.mul_zero, Nat.add_zero, Nat.lt_irrefl, pz_bb, pz_bTr, Bool.false_eq_true, pz_bFa, Nat.reduceEqDiff, Nat.reduceLT, ite_not, pz_mE, pz_mE2, pz_mL, pz_mG, not_true_eq_false, not_false_eq_true, if_true, if_false, reduceIte, eq_self, true_or, or_true, or_false, false_or, and_true, true_and, and_false, false_and]
    · rw [pz_nt_F hwj, b166_4]
      simp (disch := omega) only [h41, hj, b166_12, sM165 hA hM hs w1 w2 z1 z2 hj, pz_bF hwj, b166_19, b166_26, b166_27, pz_k0, pz_k1, pz_k2, pz_k3, pz_k4, pz_k5, pz_k6, pz_k7, pz_k8, pz_k9, pz_k10, pz_k16, pz_k31, pz_k63, pz_km, nI_add, pz_mul, nI_ltI, nI_eq, nI_clamp, pz_inI, Option.bind_some, Option.toList_some, Option.toList_none, List.cons_append, List.nil_append, Nat.zero_add, Nat.mul_zero, Nat.add_zero, Nat.lt_irrefl, pz_bb, pz_bTr, Bool.false_eq_true, pz_bFa, Nat.reduceEqDiff, Nat.reduceLT, ite_not, pz_mE, pz_mE2, pz_mL, pz_mG, not_true_eq_false, not_false_eq_true, if_true, if_false, reduceIte, eq_self, true_or, or_true, or_false, false_or, and_true, true_and, and_false, false_and]
theorem sC111 {w : Nat} {z : pz_W} (hw : w ≤ 3) (hz : pz_wC A v z I L) : mm_ev 111 0 [some (.inr (.inr (8, 0))), some (.inl (nI w))] [] (ids, I, L, mm_RS κ) = some (some (.inl (pz_wa z w)), (ids, I, L, mm_RS κ)) := by
  obtain ⟨w1, w2, w3, w4, w5⟩ := hz
  match w, hw with
  | 0, _ =>
    rw [b111_0, show mm_ts 43 0 [28, 33, 38] (nI 0) = 28 from by decide +kernel, b111_28, w2]
    rfl
  | 1, _ =>
    rw [b111_0, show mm_ts 43 0 [28, 33, 38] (nI 1) = 33 from by decide +kernel, b111_33, w3]
    rfl
  | 2, _ =>
    rw [b111_0, show mm_ts 43 0 [28, 33, 38] (nI 2) = 38 from by decide +kernel, b111_38, w4]
    rfl
  | 3, _ =>
    rw [b111_0, show mm_ts 43 0 [28, 33, 38] (nI 3) = 43 from by decide +kernel, b111_43, w5]
    rfl
theorem op24 (h : pz_Q k ck n g f A κ I J) (x1 x2 x3 x4 : Int32) : lw_two (pz_R (k + 1)) 24 167 [.inl x1, .inl x2, .inl x3, .inl x4] (mm_idC, I, LC, mm_RS κ) (mm_idM, J, LM, mm_RM) := by
  obtain ⟨-, -, -, hA, hC, hM, -⟩ := id h
  have h5 := hA.2.2.2.1
  by_cases hx : pz_rg x1 (A 6 0 0)
  · have hx' := hx
    obtain ⟨s, hs, rfl⟩ := hx
    have hs5 : s < 5 := by omega
    by_cases h2 : ¬ x2 < nI 1 ∧ ¬ nI 60 < x2
    · have h2' := h2
      by_cases h3 : x3 < nI 0
      · refine pz_two (laC := [some (.inr (.inr (1, 0))), some (.inl _), some (.inl _), some (.inl _), some (.inl _), none]) (laM := [some (.inr (.inr (9, 0))), some (.inl _), some (.inl _), some (.inl _), some (.inl _), none, none]) (by rw [show mm_mL 24 = 6 from by decide +kernel]; rfl) (by rw [show mm_mL 167 = 7 from by decide +kernel]; rfl) (r :=  -102) ?_ ?_ (pz_rd0 (LC' := LC) (LM' := LM) h)
        · rw [b24_0]
          simp (disch := omega) only [sC63 (by omega) hC.2.2.1, pz_bT hx', b24_8, b24_14, h2'.1, b24_19, pz_k60, h2'.2, b24_25, h3, b24_40, pz_k0, pz_k1, pz_k2, pz_k3, pz_k4, pz_k5, pz_k6, pz_k7, pz_k8, pz_k9, pz_k10, pz_k16, pz_k31, pz_k63, pz_km, nI_add, pz_mul, nI_ltI, nI_eq, nI_clamp, pz_inI, Option.bind_some, Option.toList_some, Option.toList_none, List.cons_append, List.nil_append, Nat.zero_add, Nat.mul_zero, Nat.add_zero, Nat.lt_irrefl, pz_bb, pz_bTr, Bool.false_eq_true, pz_bFa, Nat.reduceEqDiff, Nat.reduceLT, ite_not, pz_mE, pz_mE2, pz_mL, pz_mG, not_true_eq_false, not_false_eq_true, if_true, if_false, reduceIte, eq_self, true_or, or_true, or_false, false_or, and_true, true_and, and_false, false_and]
        · rw [b167_0]
          simp (disch := omega) only [sM134 hA hM, pz_bT hx', b167_5, b167_11, pz_k60, sM113T h2', b167_18, b167_21, h3, b167_35, pz_k0, pz_k1, pz_k2, pz_k3, pz_k4, pz_k5, pz_k6, pz_k7, pz_k8, pz_k9, pz_k10, pz_k16, pz_k31, pz_k63, pz_km, nI_add, pz_mul, nI_ltI, nI_eq, nI_clamp, pz_inI, Option.bind_some, Option.toList_some, Option.toList_none, List.cons_append, List.nil_append, Nat.zero_add, Nat.mul_zero, Nat.add_zero, Nat.lt_irrefl, pz_bb, pz_bTr, Bool.false_eq_true, pz_bFa, Nat.reduceEqDiff, Nat.reduceLT, ite_not, pz_mE, pz_mE2, pz_mL, pz_mG, not_true_eq_false, not_false_eq_true, if_true, if_false, reduceIte, eq_self, true_or, or_true, or_false, false_or, and_true, true_and, and_false, false_and]
      · by_cases h4 : ¬ x4 < nI 0 ∧ ¬ nI 3 < x4
        · have h4' := h4
          obtain ⟨t, ht1, ht, rfl⟩ := pz_win2 (by decide) h2
          obtain ⟨w, hw, rfl⟩ := pz_win (by decide) h4
          obtain ⟨a7, a8, a9, -⟩ := hA.2.2.2.2.1 s hs
          obtain ⟨d1, d2, d3, -⟩ := pz_C0s hC hs
          obtain ⟨m1, m2, m3, -⟩ := pz_M0s hM hs
          obtain ⟨z, hz⟩ : ∃ z : pz_W, z = (A 7 s 0, A 9 s 0, 0, x3.toInt64) := ⟨_, rfl⟩
          obtain ⟨I1, hI1⟩ : ∃ I1, I1 = mm_uI (mm_uI (mm_uI (mm_uI I 36 0 0 (nI (pz_os A (A 8 s 0) (A 0 0 0)))) 37 0 0 (nI (A 7 s 0))) 38 0 0 (nI (A 9 s 0))) 39 0 0 (nI 0) := ⟨_, rfl⟩
          have f1 : pz_fr I I1 := by
            rw [hI1]
            exact pz_frU rfl (pz_frU rfl (pz_frU rfl (pz_frU rfl pz_fr0)))
          have hz0 : pz_wok 0 z := by
            rw [hz]
            exact ⟨a7, a9, Nat.le_refl _⟩
          have hwC0 : pz_wC A (A 8 s 0) z I1 (mm_uL LC 40 0 x3.toInt64) := by
            rw [hz, hI1]
            refine ⟨?_, ?_, ?_, pz_uI_s, pz_uL_s⟩
            · rw [pz_uI_ne (by decide), pz_uI_ne (by decide), pz_uI_ne (by decide), pz_uI_s]
            · rw [pz_uI_ne (by decide), pz_uI_ne (by decide), pz_uI_s]
            · rw [pz_uI_ne (by decide), pz_uI_s]
          obtain ⟨J1, hJ1⟩ : ∃ J1, J1 = mm_uI (mm_uI J 71 0 0 (nI (A 7 s 0))) 72 0 0 (nI (A 9 s 0)) := ⟨_, rfl⟩
          have g1 : pz_fr J J1 := by
            rw [hJ1]
            exact pz_frU rfl (pz_frU rfl pz_fr0)
          have hwM0 : pz_wM z J1 (mm_uL LM 70 0 x3.toInt64) := by
            rw [hz, hJ1]
            refine ⟨?_, pz_uI_s, pz_uL_s⟩
            rw [pz_uI_ne (by decide), pz_uI_s]
          have lC := pz_loopP (fun i (j : mm_HI × mm_HL) => mm_ev 24 63 [some (.inr (.inr (1, 0))), some (.inl (nI s)), some (.inl (nI t)), some (.inl (x3)), some (.inl (nI w)), some (.inl (nI i))] [] (mm_idC, j.1, j.2, mm_RS κ)) (fun i j => pz_fr I j.1 ∧ pz_wok i (pz_wz A (A 8 s 0) z i) ∧ pz_wC A (A 8 s 0) (pz_wz A (A 8 s 0) z i) j.1 j.2) t (fun i j hi hj => ?_) (I1, mm_uL LC 40 0 x3.toInt64) ⟨f1, hz0, hwC0⟩
          · have lM := pz_loopP (fun i (j : mm_HI × mm_HL) => mm_ev 167 70 [some (.inr (.inr (9, 0))), some (.inl (nI s)), some (.inl (nI t)), some (.inl (x3)), some (.inl (nI w)), some (.inl (nI (pz_wz A (A 8 s 0) z i).2.2.1)), some (.inl (nI i))] [] (mm_idM, j.1, j.2, mm_RM)) (fun i j => pz_fr J j.1 ∧ pz_wok i (pz_wz A (A 8 s 0) z i) ∧ pz_wM (pz_wz A (A 8 s 0) z i) j.1 j.2) t (fun i j hi hj => ?_) (J1, mm_uL LM 70 0 x3.toInt64) ⟨g1, hz0, hwM0⟩
            · obtain ⟨jC, c1, c2, c3, c4⟩ := lC
              obtain ⟨jM, e1, e2, e3, e4⟩ := lM
              try dsimp only at c1 c2 c3 c4 e1 e2 e3 e4
              refine pz_two (laC := [some (.inr (.inr (1, 0))), some (.inl _), some (.inl _), some (.inl _), some (.inl _), none]) (laM := [some (.inr (.inr (9, 0))), some (.inl _), some (.inl _), some (.inl _), some (.inl _), none, none]) (by rw [show mm_mL 24 = 6 from by decide +kernel]; rfl) (by rw [show mm_mL 167 = 7 from by decide +kernel]; rfl) (r :=  pz_wa (pz_wz A (A 8 s 0) z t) w) (hC' := (mm_idC, jC.1, jC.2, mm_RS κ)) (hM' := (mm_idM, jM.1, jM.2, mm_RM)) ?_ ?_ (pz_rdo h c2 e2)
              · rw [b24_0]
                simp (disch := omega) only [sC63 (by omega) hC.2.2.1, pz_bT hx', b24_8, b24_14, show ¬ t < 1 by omega, b24_19, pz_k60, show ¬ 60 < t by omega, b24_25, h3, b24_29, Nat.not_lt_zero, b24_34, show ¬ 3 < w by omega, b24_43, hs5, b24_56, pz_k0, pz_k1, pz_k2, pz_k3, pz_k4, pz_k5, pz_k6, pz_k7, pz_k8, pz_k9, pz_k10, pz_k16, pz_k31, pz_k63, pz_km, nI_add, pz_mul, nI_ltI, nI_eq, nI_clamp, pz_inI, Option.bind_some, Option.toList_some, Option.toList_none, List.cons_append, List.nil_append, Nat.zero_add, Nat.mul_zero, Nat.add_zero, Nat.lt_irrefl, pz_bb, pz_bTr, Bool.false_eq_true, pz_bFa, Nat.reduceEqDiff, Nat.reduceLT, ite_not, pz_mE, pz_mE2, pz_mL, pz_mG, not_true_eq_false, not_false_eq_true, if_true, if_false, reduceIte, eq_self, true_or, or_true, or_false, false_or, and_true, true_and, and_false, false_and]
                rw [b106_0, d2, sC69 hA hC a8]
                simp (disch := omega) only [b106_12, pz_uI_j, d1, d3, pz_k0, pz_k1, pz_k2, pz_k3, pz_k4, pz_k5, pz_k6, pz_k7, pz_k8, pz_k9, pz_k10, pz_k16, pz_k31, pz_k63, pz_km, nI_add, pz_mul, nI_ltI, nI_eq, nI_clamp, pz_inI, Option.bind_some, Option.toList_some, Option.toList_none, List.cons_append, List.nil_append, Nat.zero_add, Nat.mul_zero, Nat.add_zero, Nat.lt_irrefl, pz_bb, pz_bTr, Bool.false_eq_true, pz_bFa, Nat.reduceEqDiff, Nat.reduceLT, ite_not, pz_mE, pz_mE2, pz_mL, pz_mG, not_true_eq_false, not_false_eq_true, if_true, if_false, reduceIte, eq_self, true_or, or_true, or_false, false_or, and_true, true_and, and_false, false_and]
                rw [← hI1, b24_60, pz_k0]
                refine Eq.trans c1 ?_
                rw [b24_63]
                simp (disch := omega) only [b24_82, sC111 hw c4, b24_91, pz_k0, pz_k1, pz_k2, pz_k3, pz_k4, pz_k5, pz_k6, pz_k7, pz_k8, pz_k9, pz_k10, pz_k16, pz_k31, pz_k63, pz_km, nI_add, pz_mul, nI_ltI, nI_eq, nI_clamp, pz_inI, Option.bind_some, Option.toList_some, Option.toList_none, List.cons_append, List.nil_append, Nat.zero_add, Nat.mul_zero, Nat.add_zero, Nat.lt_irrefl, pz_bb, pz_bTr, Bool.false_eq_true, pz_bFa, Nat.reduceEqDiff, Nat.reduceLT, ite_not, pz_mE, pz_mE2, pz_mL, pz_mG, not_true_eq_false, not_false_eq_true, if_true, if_false, reduceIte, eq_self, true_or, or_true, or_false, false_or, and_true, true_and, and_false, false_and]
              · rw [b167_0]
                simp (disch := omega) only [sM134 hA hM, pz_bT hx', b167_5, b167_11, pz_k60, sM113T h2', b167_18, b167_21, h3, b167_25, sM113T h4', b167_32, b167_38, hs5, m1, b167_51, pz_uI_j, m3, b167_61, pz_k0, pz_k1, pz_k2, pz_k3, pz_k4, pz_k5, pz_k6, pz_k7, pz_k8, pz_k9, pz_k10, pz_k16, pz_k31, pz_k63, pz_km, nI_add, pz_mul, nI_ltI, nI_eq, nI_clamp, pz_inI, Option.bind_some, Option.toList_some, Option.toList_none, List.cons_append, List.nil_append, Nat.zero_add, Nat.mul_zero, Nat.add_zero, Nat.lt_irrefl, pz_bb, pz_bTr, Bool.false_eq_true, pz_bFa, Nat.reduceEqDiff, Nat.reduceLT, ite_not, pz_mE, pz_mE2, pz_mL, pz_mG, not_true_eq_false, not_false_eq_true, if_true, if_false, reduceIte, eq_self, true_or, or_true, or_false, false_or, and_true, true_and, and_false, false_and]
                rw [← hJ1]
                have hz00 : nI (pz_wz A (A 8 s 0) z 0).2.2.1 = nI 0 := by
                  show nI z.2.2.1 = nI 0
                  rw [hz]
                rw [hz00] at e1
                refine Eq.trans e1 ?_
                obtain ⟨v1, v2, v3⟩ := e4
                rw [b167_70]
                match w, hw with
                | 0, _ => simp (disch := omega) only [b167_100, b167_105, v1, b167_141, show pz_wa (pz_wz A (A 8 s 0) z t) 0 = nI (pz_wz A (A 8 s 0) z t).1 from rfl, pz_k0, pz_k1, pz_k2, pz_k3, pz_k4, pz_k5, pz_k6, pz_k7, pz_k8, pz_k9, pz_k10, pz_k16, pz_k31, pz_k63, pz_km, nI_add, pz_mul, nI_ltI, nI_eq, nI_clamp, pz_inI, Option.bind_some, Option.toList_some, Option.toList_none, List.cons_append, List.nil_append, Nat.zero_add, Nat.mul_zero, Nat.add_zero, Nat.lt_irrefl, pz_bb, pz_bTr, Bool.false_eq_true, pz_bFa, Nat.reduceEqDiff, Nat.reduceLT, ite_not, pz_mE, pz_mE2, pz_mL, pz_mG, not_true_eq_false, not_false_eq_true, if_true, if_false, reduceIte, eq_self, true_or, or_true, or_false, false_or, and_true, true_and, and_false, false_and]
                | 1, _ => simp (disch := omega) only [b167_100, b167_112, b167_118, v2, b167_141, show pz_wa (pz_wz A (A 8 s 0) z t) 1 = nI (pz_wz A (A 8 s 0) z t).2.1 from rfl, pz_k0, pz_k1, pz_k2, pz_k3, pz_k4, pz_k5, pz_k6, pz_k7, pz_k8, pz_k9, pz_k10, pz_k16, pz_k31, pz_k63, pz_km, nI_add, pz_mul, nI_ltI, nI_eq, nI_clamp, pz_inI, Option.bind_some, Option.toList_some, Option.toList_none, List.cons_append, List.nil_append, Nat.zero_add, Nat.mul_zero, Nat.add_zero, Nat.lt_irrefl, pz_bb, pz_bTr, Bool.false_eq_true, pz_bFa, Nat.reduceEqDiff, Nat.reduceLT, ite_not, pz_mE, pz_mE2, pz_mL, pz_mG, not_true_eq_false, not_false_eq_true, if_true, if_false, reduceIte, eq_self, true_or, or_true, or_false, false_or, and_true, true_and, and_false, false_and]
                | 2, _ => simp (disch := omega) only [b167_100, b167_112, b167_125, b167_131, b167_141, show pz_wa (pz_wz A (A 8 s 0) z t) 2 = nI (pz_wz A (A 8 s 0) z t).2.2.1 from rfl, pz_k0, pz_k1, pz_k2, pz_k3, pz_k4, pz_k5, pz_k6, pz_k7, pz_k8, pz_k9, pz_k10, pz_k16, pz_k31, pz_k63, pz_km, nI_add, pz_mul, nI_ltI, nI_eq, nI_clamp, pz_inI, Option.bind_some, Option.toList_some, Option.toList_none, List.cons_append, List.nil_append, Nat.zero_add, Nat.mul_zero, Nat.add_zero, Nat.lt_irrefl, pz_bb, pz_bTr, Bool.false_eq_true, pz_bFa, Nat.reduceEqDiff, Nat.reduceLT, ite_not, pz_mE, pz_mE2, pz_mL, pz_mG, not_true_eq_false, not_false_eq_true, if_true, if_false, reduceIte, eq_self, true_or, or_true, or_false, false_or, and_true, true_and, and_false, false_and]
                | 3, _ => simp (disch := omega) only [b167_100, b167_112, b167_125, b167_136, v3, b167_141, show pz_wa (pz_wz A (A 8 s 0) z t) 3 = (pz_wz A (A 8 s 0) z t).2.2.2.toInt32 from rfl, pz_k0, pz_k1, pz_k2, pz_k3, pz_k4, pz_k5, pz_k6, pz_k7, pz_k8, pz_k9, pz_k10, pz_k16, pz_k31, pz_k63, pz_km, nI_add, pz_mul, nI_ltI, nI_eq, nI_clamp, pz_inI, Option.bind_some, Option.toList_some, Option.toList_none, List.cons_append, List.nil_append, Nat.zero_add, Nat.mul_zero, Nat.add_zero, Nat.lt_irrefl, pz_bb, pz_bTr, Bool.false_eq_true, pz_bFa, Nat.reduceEqDiff, Nat.reduceLT, ite_not, pz_mE, pz_mE2, pz_mL, pz_mG, not_true_eq_false, not_false_eq_true, if_true, if_false, reduceIte, eq_self, true_or, or_true, or_false, false_or, and_true, true_and, and_false, false_and]
            · try dsimp only at hj
              try dsimp only
              obtain ⟨j1, j2, j3⟩ := hj
              obtain ⟨J', L', c, r0, r1, r2, r3, r4⟩ := sM166 (ids := mm_idM) (t := i) (by omega) hA (pz_M_fr j1 hM) hs j2 j3
              obtain ⟨I', L'', -, -, u3, -⟩ := sC107 (ids := mm_idC) (I := mm_uI (mm_uI (mm_uI (mm_uI I 36 0 0 (nI (pz_os A (A 8 s 0) (A 0 0 0)))) 37 0 0 (nI (pz_wz A (A 8 s 0) z i).1)) 38 0 0 (nI (pz_wz A (A 8 s 0) z i).2.1)) 39 0 0 (nI (pz_wz A (A 8 s 0) z i).2.2.1)) (L := mm_uL LC 40 0 (pz_wz A (A 8 s 0) z i).2.2.2) (v := A 8 s 0) (t := i) (κ := κ) (by omega) hA (pz_C_fr (pz_frU rfl (pz_frU rfl (pz_frU rfl (pz_frU rfl pz_fr0)))) hC) j2 ⟨by rw [pz_uI_ne (by decide), pz_uI_ne (by decide), pz_uI_ne (by decide), pz_uI_s], by rw [pz_uI_ne (by decide), pz_uI_ne (by decide), pz_uI_s], by rw [pz_uI_ne (by decide), pz_uI_s], pz_uI_s, pz_uL_s⟩
              have jc := j2.2.2
              refine ⟨(J', L'), ?_, pz_frT j1 r1, u3, r2⟩
              show _ = mm_ev 167 70 [some (.inr (.inr (9, 0))), some (.inl (nI s)), some (.inl (nI t)), some (.inl (x3)), some (.inl (nI w)), some (.inl (nI (pz_ws A (A 8 s 0) (pz_wz A (A 8 s 0) z i)).2.2.1)), some (.inl (nI (i + 1)))] [] (mm_idM, J', L', mm_RM)
              rw [r3, b167_70]
              by_cases hc : c = 0
              · rw [hc] at r0 ⊢
                simp (disch := omega) only [hi, b167_76, r0, b167_83, b167_90, b167_91, pz_k0, pz_k1, pz_k2, pz_k3, pz_k4, pz_k5, pz_k6, pz_k7, pz_k8, pz_k9, pz_k10, pz_k16, pz_k31, pz_k63, pz_km, nI_add, pz_mul, nI_ltI, nI_eq, nI_clamp, pz_inI, Option.bind_some, Option.toList_some, Option.toList_none, List.cons_append, List.nil_append, Nat.zero_add, Nat.mul_zero, Nat.add_zero, Nat.lt_irrefl, pz_bb, pz_bTr, Bool.false_eq_true, pz_bFa, Nat.reduceEqDiff, Nat.reduceLT, ite_not, pz_mE, pz_mE2, pz_mL, pz_mG, not_true_eq_false, not_false_eq_true, if_true, if_false, reduceIte, eq_self, true_or, or_true, or_false, false_or, and_true, true_and, and_false, false_and]
              · rw [show c = 1 by omega] at r0 ⊢
                simp (disch := omega) only [hi, b167_76, r0, b167_83, b167_86, b167_91, pz_k0, pz_k1, pz_k2, pz_k3, pz_k4, pz_k5, pz_k6, pz_k7, pz_k8, pz_k9, pz_k10, pz_k16, pz_k31, pz_k63, pz_km, nI_add, pz_mul, nI_ltI, nI_eq, nI_clamp, pz_inI, Option.bind_some, Option.toList_some, Option.toList_none, List.cons_append, List.nil_append, Nat.zero_add, Nat.mul_zero, Nat.add_zero, Nat.lt_irrefl, pz_bb, pz_bTr, Bool.false_eq_true, pz_bFa, Nat.reduceEqDiff, Nat.reduceLT, ite_not, pz_mE, pz_mE2, pz_mL, pz_mG, not_true_eq_false, not_false_eq_true, if_true, if_false, reduceIte, eq_self, true_or, or_true, or_false, false_or, and_true, true_and, and_false, false_and]
          · try dsimp only at hj
            try dsimp only
            obtain ⟨j1, j2, j3⟩ := hj
            obtain ⟨I', L', r0, r1, r2, r3⟩ := sC107 (ids := mm_idC) (t := i) (by omega) hA (pz_C_fr j1 hC) j2 j3
            refine ⟨(I', L'), ?_, pz_frT j1 r1, r2, r3⟩
            rw [b24_63]
            simp (disch := omega) only [hi, b24_69, r0, b24_76, pz_k0, pz_k1, pz_k2, pz_k3, pz_k4, pz_k5, pz_k6, pz_k7, pz_k8, pz_k9, pz_k10, pz_k16, pz_k31, pz_k63, pz_km, nI_add, pz_mul, nI_ltI, nI_eq, nI_clamp, pz_inI, Option.bind_some, Option.toList_some, Option.toList_none, List.cons_append, List.nil_append, Nat.zero_add, Nat.mul_zero, Nat.add_zero, Nat.lt_irrefl, pz_bb, pz_bTr, Bool.false_eq_true, pz_bFa, Nat.reduceEqDiff, Nat.reduceLT, ite_not, pz_mE, pz_mE2, pz_mL, pz_mG, not_true_eq_false, not_false_eq_true, if_true, if_false, reduceIte, eq_self, true_or, or_true, or_false, false_or, and_true, true_and, and_false, false_and]
        · refine pz_two (laC := [some (.inr (.inr (1, 0))), some (.inl _), some (.inl _), some (.inl _), some (.inl _), none]) (laM := [some (.inr (.inr (9, 0))), some (.inl _), some (.inl _), some (.inl _), some (.inl _), none, none]) (by rw [show mm_mL 24 = 6 from by decide +kernel]; rfl) (by rw [show mm_mL 167 = 7 from by decide +kernel]; rfl) (r :=  -102) ?_ ?_ (pz_rd0 (LC' := LC) (LM' := LM) h)
          · rw [b24_0]
            by_cases h1 : x4 < nI 0
            · simp (disch := omega) only [sC63 (by omega) hC.2.2.1, pz_bT hx', b24_8, b24_14, h2'.1, b24_19, pz_k60, h2'.2, b24_25, h3, b24_29, h1, b24_40, pz_k0, pz_k1, pz_k2, pz_k3, pz_k4, pz_k5, pz_k6, pz_k7, pz_k8, pz_k9, pz_k10, pz_k16, pz_k31, pz_k63, pz_km, nI_add, pz_mul, nI_ltI, nI_eq, nI_clamp, pz_inI, Option.bind_some, Option.toList_some, Option.toList_none, List.cons_append, List.nil_append, Nat.zero_add, Nat.mul_zero, Nat.add_zero, Nat.lt_irrefl, pz_bb, pz_bTr, Bool.false_eq_true, pz_bFa, Nat.reduceEqDiff, Nat.reduceLT, ite_not, pz_mE, pz_mE2, pz_mL, pz_mG, not_true_eq_false, not_false_eq_true, if_true, if_false, reduceIte, eq_self, true_or, or_true, or_false, false_or, and_true, true_and, and_false, false_and]
            · have h6 : nI 3 < x4 := Classical.byContradiction (fun q => h4 ⟨h1, q⟩)
              simp (disch := omega) only [sC63 (by omega) hC.2.2.1, pz_bT hx', b24_8, b24_14, h2'.1, b24_19, pz_k60, h2'.2, b24_25, h3, b24_29, h1, b24_34, h6, b24_40, pz_k0, pz_k1, pz_k2, pz_k3, pz_k4, pz_k5, pz_k6, pz_k7, pz_k8, pz_k9, pz_k10, pz_k16, pz_k31, pz_k63, pz_km, nI_add, pz_mul, nI_ltI, nI_eq, nI_clamp, pz_inI, Option.bind_some, Option.toList_some, Option.toList_none, List.cons_append, List.nil_append, Nat.zero_add, Nat.mul_zero, Nat.add_zero, Nat.lt_irrefl, pz_bb, pz_bTr, Bool.false_eq_true, pz_bFa, Nat.reduceEqDiff, Nat.reduceLT, ite_not, pz_mE, pz_mE2, pz_mL, pz_mG, not_true_eq_false, not_false_eq_true, if_true, if_false, reduceIte, eq_self, true_or, or_true, or_false, false_or, and_true, true_and, and_false, false_and]
          · rw [b167_0]
            simp (disch := omega) only [sM134 hA hM, pz_bT hx', b167_5, b167_11, pz_k60, sM113T h2', b167_18, b167_21, h3, b167_25, sM113F h4, b167_32, b167_35, pz_k0, pz_k1, pz_k2, pz_k3, pz_k4, pz_k5, pz_k6, pz_k7, pz_k8, pz_k9, pz_k10, pz_k16, pz_k31, pz_k63, pz_km, nI_add, pz_mul, nI_ltI, nI_eq, nI_clamp, pz_inI, Option.bind_some, Option.toList_some, Option.toList_none, List.cons_append, List.nil_append, Nat.zero_add, Nat.mul_zero, Nat.add_zero, Nat.lt_irrefl, pz_bb, pz_bTr, Bool.false_eq_true, pz_bFa, Nat.reduceEqDiff, Nat.reduceLT, ite_not, pz_mE, pz_mE2, pz_mL, pz_mG, not_true_eq_false, not_false_eq_true, if_true, if_false, reduceIte, eq_self, true_or, or_true, or_false, false_or, and_true, true_and, and_false, false_and]
    · refine pz_two (laC := [some (.inr (.inr (1, 0))), some (.inl _), some (.inl _), some (.inl _), some (.inl _), none]) (laM := [some (.inr (.inr (9, 0))), some (.inl _), some (.inl _), some (.inl _), some (.inl _), none, none]) (by rw [show mm_mL 24 = 6 from by decide +kernel]; rfl) (by rw [show mm_mL 167 = 7 from by decide +kernel]; rfl) (r :=  -102) ?_ ?_ (pz_rd0 (LC' := LC) (LM' := LM) h)
      · rw [b24_0]
        by_cases h1 : x2 < nI 1
        · simp (disch := omega) only [sC63 (by omega) hC.2.2.1, pz_bT hx', b24_8, b24_14, h1, b24_40, pz_k0, pz_k1, pz_k2, pz_k3, pz_k4, pz_k5, pz_k6, pz_k7, pz_k8, pz_k9, pz_k10, pz_k16, pz_k31, pz_k63, pz_km, nI_add, pz_mul, nI_ltI, nI_eq, nI_clamp, pz_inI, Option.bind_some, Option.toList_some, Option.toList_none, List.cons_append, List.nil_append, Nat.zero_add, Nat.mul_zero, Nat.add_zero, Nat.lt_irrefl, pz_bb, pz_bTr, Bool.false_eq_true, pz_bFa, Nat.reduceEqDiff, Nat.reduceLT, ite_not, pz_mE, pz_mE2, pz_mL, pz_mG, not_true_eq_false, not_false_eq_true, if_true, if_false, reduceIte, eq_self, true_or, or_true, or_false, false_or, and_true, true_and, and_false, false_and]
        · have h6 : nI 60 < x2 := Classical.byContradiction (fun q => h2 ⟨h1, q⟩)
          simp (disch := omega) only [sC63 (by omega) hC.2.2.1, pz_bT hx', b24_8, b24_14, h1, b24_19, pz_k60, h6, b24_40, pz_k0, pz_k1, pz_k2, pz_k3, pz_k4, pz_k5, pz_k6, pz_k7, pz_k8, pz_k9, pz_k10, pz_k16, pz_k31, pz_k63, pz_km, nI_add, pz_mul, nI_ltI, nI_eq, nI_clamp, pz_inI, Option.bind_some, Option.toList_some, Option.toList_none, List.cons_append, List.nil_append, Nat.zero_add, Nat.mul_zero, Nat.add_zero, Nat.lt_irrefl, pz_bb, pz_bTr, Bool.false_eq_true, pz_bFa, Nat.reduceEqDiff, Nat.reduceLT, ite_not, pz_mE, pz_mE2, pz_mL, pz_mG, not_true_eq_false, not_false_eq_true, if_true, if_false, reduceIte, eq_self, true_or, or_true, or_false, false_or, and_true, true_and, and_false, false_and]
      · rw [b167_0]
        simp (disch := omega) only [sM134 hA hM, pz_bT hx', b167_5, b167_11, pz_k60, sM113F h2, b167_18, b167_35, pz_k0, pz_k1, pz_k2, pz_k3, pz_k4, pz_k5, pz_k6, pz_k7, pz_k8, pz_k9, pz_k10, pz_k16, pz_k31, pz_k63, pz_km, nI_add, pz_mul, nI_ltI, nI_eq, nI_clamp, pz_inI, Option.bind_some, Option.toList_some, Option.toList_none, List.cons_append, List.nil_append, Nat.zero_add, Nat.mul_zero, Nat.add_zero, Nat.lt_irrefl, pz_bb, pz_bTr, Bool.false_eq_true, pz_bFa, Nat.reduceEqDiff, Nat.reduceLT, ite_not, pz_mE, pz_mE2, pz_mL, pz_mG, not_true_eq_false, not_false_eq_true, if_true, if_false, reduceIte, eq_self, true_or, or_true, or_false, false_or, and_true, true_and, and_false, false_and]
  · refine pz_two (laC := [some (.inr (.inr (1, 0))), some (.inl _), some (.inl _), some (.inl _), some (.inl _), none]) (laM := [some (.inr (.inr (9, 0))), some (.inl _), some (.inl _), some (.inl _), some (.inl _), none, none]) (by rw [show mm_mL 24 = 6 from by decide +kernel]; rfl) (by rw [show mm_mL 167 = 7 from by decide +kernel]; rfl) (r :=  -101) ?_ ?_ (pz_rd0 (LC' := LC) (LM' := LM) h)
    · rw [b24_0]
      simp (disch := omega) only [sC63 (by omega) hC.2.2.1, pz_bF hx, b24_8, b24_11, pz_k0, pz_k1, pz_k2, pz_k3, pz_k4, pz_k5, pz_k6, pz_k7, pz_k8, pz_k9, pz_k10, pz_k16, pz_k31, pz_k63, pz_km, nI_add, pz_mul, nI_ltI, nI_eq, nI_clamp, pz_inI, Option.bind_some, Option.toList_some, Option.toList_none, List.cons_append, List.nil_append, Nat.zero_add, Nat.mul_zero, Nat.add_zero, Nat.lt_irrefl, pz_bb, pz_bTr, Bool.false_eq_true, pz_bFa, Nat.reduceEqDiff, Nat.reduceLT, ite_not, pz_mE, pz_mE2, pz_mL, pz_mG, not_true_eq_false, not_false_eq_true, if_true, if_false, reduceIte, eq_self, true_or, or_true, or_false, false_or, and_true, true_and, and_false, false_and]
    · rw [b167_0]
      simp (disch := omega) only [sM134 hA hM, pz_bF hx, b167_5, b167_8, pz_k0, pz_k1, pz_k2, pz_k3, pz_k4, pz_k5, pz_k6, pz_k7, pz_k8, pz_k9, pz_k10, pz_k16, pz_k31, pz_k63, pz_km, nI_add, pz_mul, nI_ltI, nI_eq, nI_clamp, pz_inI, Option.bind_some, Option.toList_some, Option.toList_none, List.cons_append, List.nil_append, Nat.zero_add, Nat.mul_zero, Nat.add_zero, Nat.lt_irrefl, pz_bb, pz_bTr, Bool.false_eq_true, pz_bFa, Nat.reduceEqDiff, Nat.reduceLT, ite_not, pz_mE, pz_mE2, pz_mL, pz_mG, not_true_eq_false, not_false_eq_true, if_true, if_false, reduceIte, eq_self, true_or, or_true, or_false, false_or, and_true, true_and, and_false, false_and]
end PZ63
