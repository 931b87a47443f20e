/-! the small calls: blank, hush, heard, teach, count, change -/
theorem pz_k99 : (99 : Int32) = nI 99 := rfl
theorem pz_k36 : (36 : Int32) = nI 36 := rfl
theorem pz_k45 : (45 : Int32) = nI 45 := rfl
theorem pz_k30 : (30 : Int32) = nI 30 := rfl
theorem pz_k100 : (100 : Int32) = nI 100 := rfl
theorem pz_k126 : (126 : Int32) = nI 126 := rfl
theorem pz_k60 : (60 : Int32) = nI 60 := rfl
theorem pz_sa {w : Nat} : nI w - nI 1 + nI 1 = nI w := Int32.sub_add_cancel _ _
theorem pz_win1 {x : Int32} (h : ¬ x < pz_m ∧ ¬ nI 99 < x) : ∃ w, w ≤ 100 ∧ x = nI w - nI 1 := by
  by_cases h0 : x < 0
  · refine ⟨0, by decide, ?_⟩
    rw [pz_fe0]
    apply Int32.toInt_inj.mp
    have h1 := h.1
    rw [Int32.lt_iff_toInt_lt] at h0 h1
    have e1 : pz_m.toInt = -1 := by decide
    have e0 : (0 : Int32).toInt = 0 := by decide
    omega
  · obtain ⟨j, hj, rfl⟩ := nI_of h0
    have h2 := h.2
    rw [nI_ltI (by decide) hj] at h2
    refine ⟨j + 1, by omega, ?_⟩
    rw [pz_sub (by omega), Nat.add_sub_cancel]
theorem pz_ts_out {x : Int32} {n a : Nat} {l : List Nat} (hl : l.length = n) (hn : n < 2 ^ 31) (h : ¬ pz_rg x n) : mm_ts a 0 l x = a := by
  unfold mm_ts
  rw [if_pos]
  rw [hl]
  refine Classical.byContradiction (fun z => h ((pz_rg_iff hn).mpr ⟨fun q => z (Or.inl ?_), ?_⟩))
  · rw [Int32.lt_iff_toInt_lt] at q
    exact q
  · rw [Int32.lt_iff_toInt_lt, nI_toInt hn]
    omega
def pz_fc (A : pz_A) : Nat → Nat
  | 0 => 0
  | k + 1 => pz_fc A k + (if A 13 (k / 6) (k % 6) = 0 then 0 else 1)
theorem pz_fc_s {A : pz_A} {k : Nat} : pz_fc A (k + 1) = pz_fc A k + (if A 13 (k / 6) (k % 6) = 0 then 0 else 1) := rfl
theorem pz_fc_le {A : pz_A} : ∀ k, pz_fc A k ≤ k
  | 0 => Nat.le_refl 0
  | k + 1 => by
    have := pz_fc_le (A := A) k
    rw [pz_fc_s]
    split <;> omega
def pz_co (A : pz_A) (n w : Nat) : Int32 := match w with
  | 0 => nI (A 0 0 0)
  | 1 => nI (A 6 0 0)
  | 2 => nI (pz_fc A 36)
  | 3 => nI (A 14 0 0)
  | _ => nI n
section PZ55
variable {ids : List (Nat × Nat)} {I J I' J' : mm_HI} {L LC LM LC' LM' : mm_HL} {κ f f' : Nat → Nat} {A : pz_A} {k ck n n' g b v s p : Nat}
theorem pz_M_g (hJ : ∀ c, c = 41 ∨ c = 47 ∨ c = 57 ∨ (121 ≤ c ∧ c ≤ 134) → J' c = J c) (hM : pz_M A J) : pz_M A J' := by
  simp only [pz_M, pz_Mg, pz_Mb, pz_Ms] at hM ⊢
  rw [hJ 41 (by omega), hJ 121 (by omega), hJ 122 (by omega), hJ 123 (by omega), hJ 124 (by omega), hJ 125 (by omega), hJ 47 (by omega), hJ 126 (by omega), hJ 127 (by omega), hJ 128 (by omega), hJ 129 (by omega), hJ 130 (by omega), hJ 131 (by omega), hJ 132 (by omega), hJ 133 (by omega), hJ 57 (by omega), hJ 134 (by omega)]
  exact hM
theorem pz_putP (h : pz_Q k ck n g f A κ I J) (hI : ∀ c, pz_sc c = false ∧ c ≠ 8 ∧ c ≠ 110 → I' c = I c) (hJ : ∀ c, pz_sc c = false ∧ c ≠ 59 ∧ c ≠ 135 → J' c = J c) (hp : pz_pg n' f' I' J') : pz_R (k + 1) (mm_idC, I', LC', mm_RS κ) (mm_idM, J', LM', mm_RM) := by
  obtain ⟨q1, q2, q3, q4, q5, q6, q7, q8, q9, q10, q11⟩ := h
  have hIw : ∀ w c i, pz_kw w c i → I' c i = I c i := by
    intro w c i hk
    rw [hI c]
    unfold pz_kw at hk
    unfold pz_sc
    simp only [Bool.or_eq_false_iff, beq_eq_false_iff_ne]
    omega
  have hJc : ∀ c, c = 41 ∨ c = 47 ∨ c = 57 ∨ (121 ≤ c ∧ c ≤ 134) → J' c = J c := by
    intro c hc
    refine hJ c ⟨?_, by omega, by omega⟩
    unfold pz_sc
    simp only [Bool.or_eq_false_iff, beq_eq_false_iff_ne]
    omega
  refine ⟨ck, n', g, f', A, κ, I', J', LC', LM', rfl, rfl, q1, by omega, by rw [hJ 55 ⟨rfl, by decide, by decide⟩]; exact q3, q4, pz_C_w q4 (hIw 0) (fun _ _ => rfl) q5, pz_M_g hJc q6, hp, q8, by rw [hI 4 ⟨rfl, by decide, by decide⟩]; exact q9, by rw [hJ 73 ⟨rfl, by decide, by decide⟩]; exact q10, fun hg => ?_⟩
  obtain ⟨B, b1, b2, b3, b4⟩ := q11 hg
  refine ⟨B, b1, pz_C_w b1 (hIw 1) (fun _ _ => rfl) b2, ?_, b4⟩
  simp only [pz_MK, pz_Mg, pz_Mb, pz_Ms] at b3 ⊢
  rw [hJ 74 ⟨rfl, by decide, by decide⟩, hJ 121 ⟨rfl, by decide, by decide⟩, hJ 122 ⟨rfl, by decide, by decide⟩, hJ 123 ⟨rfl, by decide, by decide⟩, hJ 124 ⟨rfl, by decide, by decide⟩, hJ 139 ⟨rfl, by decide, by decide⟩, hJ 75 ⟨rfl, by decide, by decide⟩, hJ 140 ⟨rfl, by decide, by decide⟩, hJ 141 ⟨rfl, by decide, by decide⟩, hJ 142 ⟨rfl, by decide, by decide⟩, hJ 129 ⟨rfl, by decide, by decide⟩, hJ 130 ⟨rfl, by decide, by decide⟩, hJ 143 ⟨rfl, by decide, by decide⟩, hJ 144 ⟨rfl, by decide, by decide⟩, hJ 145 ⟨rfl, by decide, by decide⟩, hJ 76 ⟨rfl, by decide, by decide⟩, hJ 146 ⟨rfl, by decide, by decide⟩]
  exact b3
theorem op2 (h : pz_Q k ck n g f A κ I J) : lw_two (pz_R (k + 1)) 2 117 [] (mm_idC, I, LC, mm_RS κ) (mm_idM, J, LM, mm_RM) := by
  obtain ⟨p1, p2, p3, p4, p5⟩ := h.2.2.2.2.2.2.1
  refine pz_two (laC := [some (.inr (.inr (1, 0))), none]) (laM := [some (.inr (.inr (9, 0))), none]) (by rw [show mm_mL 2 = 2 from by decide +kernel]; rfl) (by rw [show mm_mL 117 = 2 from by decide +kernel]; rfl) (r :=  nI n) (hC' := (mm_idC, mm_uI I 8 0 0 (nI 0), LC, mm_RS κ)) (hM' := (mm_idM, mm_uI J 59 0 0 (nI 0), LM, mm_RM)) ?_ ?_ ?_
  · rw [b2_0, p3]
    rfl
  · rw [b117_0, p4]
    rfl
  · exact pz_putP (n' := 0) (f' := f) h (fun c hc => pz_uI_ne hc.2.1) (fun c hc => pz_uI_ne hc.2.1) ⟨by decide, fun j hj => absurd hj (Nat.not_lt_zero j), pz_uI_s, pz_uI_s, fun j hj => absurd hj (Nat.not_lt_zero j)⟩
theorem op22 (h : pz_Q k ck n g f A κ I J) (hk : k < 64) : lw_two (pz_R (k + 1)) 22 160 [] (mm_idC, I, LC, mm_RS κ) (mm_idM, J, LM, mm_RM) := by
  obtain ⟨q1, q2, q3, hA, hC, hM, -⟩ := id h
  refine pz_two (laC := [some (.inr (.inr (1, 0))), none]) (laM := [some (.inr (.inr (9, 0))), none]) (by rw [show mm_mL 22 = 2 from by decide +kernel]; rfl) (by rw [show mm_mL 160 = 2 from by decide +kernel]; rfl) (r :=  nI (A 14 0 0)) (hC' := (mm_idC, mm_uI I 15 0 0 (nI 0), LC, mm_RS κ)) (hM' := (mm_idM, mm_uI J 57 0 0 (nI 0), LM, mm_RM)) ?_ ?_ ?_
  · rw [b22_0, hC.2.2.2.2.2.1]
    rfl
  · rw [b160_0, (pz_M0 hM).2.2.2.1]
    rfl
  · refine pz_put (A' := pz_hA A 0 (A 15 0)) (ck' := ck) h hk q1 (Nat.le_refl _) (by omega) ?_ (pz_wf_h (by decide) (fun k hk => absurd hk (Nat.not_lt_zero k)) hA) (pz_C_h (fun c hc => pz_uI_ne hc.1) pz_uI_s (fun k hk => absurd hk (Nat.not_lt_zero k)) hC) (pz_M_h (fun c hc => pz_uI_ne hc.1) pz_uI_s (fun k hk => absurd hk (Nat.not_lt_zero k)) hM) (pz_kk_u (by unfold pz_kk pz_kw; omega) pz_kk_0) (fun _ => rfl) (pz_kz_u rfl pz_kz_0) (fun c b hc _ => by rw [pz_uI_ne (by omega)]) (fun c b hc _ => by rw [pz_uI_ne (by omega)]) (Nat.le_refl _) (Nat.le_refl _)
    rw [pz_uI_ne (by decide)]
    exact q3
theorem op21 (h : pz_Q k ck n g f A κ I J) (hk : k < 64) (x : Int32) : lw_two (pz_R (k + 1)) 21 159 [.inl x] (mm_idC, I, LC, mm_RS κ) (mm_idM, J, LM, mm_RM) := by
  obtain ⟨q1, q2, q3, hA, hC, hM, -⟩ := id h
  have h9 := hA.2.1
  have h15 := hC.2.2.2.2.2.1
  have h57 := (pz_M0 hM).2.2.2.1
  have h10 := hA.2.2.2.2.2.2.1
  by_cases hx : pz_rg x (A 0 0 0)
  · have hx' := hx
    obtain ⟨b, hb, rfl⟩ := hx
    by_cases hf : A 14 0 0 < 10
    · refine pz_two (laC := [some (.inr (.inr (1, 0))), some (.inl _)]) (laM := [some (.inr (.inr (9, 0))), some (.inl _)]) (by rw [show mm_mL 21 = 2 from by decide +kernel]; rfl) (by rw [show mm_mL 159 = 2 from by decide +kernel]; rfl) (r :=  nI (A 14 0 0 + 1)) (hC' := (mm_idC, mm_uI (mm_uI I 116 0 (A 14 0 0) (nI b)) 15 0 0 (nI (A 14 0 0 + 1)), LC, mm_RS κ)) (hM' := (mm_idM, mm_uI (mm_uI J 134 0 (A 14 0 0) (nI b)) 57 0 0 (nI (A 14 0 0 + 1)), LM, mm_RM)) ?_ ?_ ?_
      · rw [b21_0]
        simp (disch := omega) only [sC62 (by omega) hC.1, pz_bT hx', b21_8, b21_14, h15, hf, b21_29, b21_45, pz_uI_s, pz_uI_j, pz_k0, pz_k1, pz_k2, pz_k3, pz_k4, pz_k5, pz_k6, pz_k7, pz_k8, pz_k9, pz_k10, pz_k16, pz_k31, pz_k63, pz_km, nI_add, pz_mul, nI_ltI, nI_eq, nI_clamp, pz_inI, Option.bind_some, Option.toList_some, Option.toList_none, List.cons_append, List.nil_append, Nat.zero_add, Nat.mul_zero, Nat.add_zero, Nat.lt_irrefl, pz_bb, pz_bTr, Bool.false_eq_true, pz_bFa, Nat.reduceEqDiff, Nat.reduceLT, ite_not, pz_mE, pz_mE2, pz_mL, pz_mG, not_true_eq_false, not_false_eq_true, if_true, if_false, reduceIte, eq_self, true_or, or_true, or_false, false_or, and_true, true_and, and_false, false_and]
      · rw [b159_0]
        simp (disch := omega) only [sM123 hA hM, pz_bT hx', b159_5, b159_11, h57, show ¬ A 14 0 0 = 10 by omega, b159_23, hf, b159_33, pz_uI_s, pz_uI_j, pz_k0, pz_k1, pz_k2, pz_k3, pz_k4, pz_k5, pz_k6, pz_k7, pz_k8, pz_k9, pz_k10, pz_k16, pz_k31, pz_k63, pz_km, nI_add, pz_mul, nI_ltI, nI_eq, nI_clamp, pz_inI, Option.bind_some, Option.toList_some, Option.toList_none, List.cons_append, List.nil_append, Nat.zero_add, Nat.mul_zero, Nat.add_zero, Nat.lt_irrefl, pz_bb, pz_bTr, Bool.false_eq_true, pz_bFa, Nat.reduceEqDiff, Nat.reduceLT, ite_not, pz_mE, pz_mE2, pz_mL, pz_mG, not_true_eq_false, not_false_eq_true, if_true, if_false, reduceIte, eq_self, true_or, or_true, or_false, false_or, and_true, true_and, and_false, false_and]
      · have hH : ∀ q, q < A 14 0 0 + 1 → (if q = A 14 0 0 then b else A 15 0 q) < A 0 0 0 := by
          intro q hq
          by_cases e : q = A 14 0 0
          · rw [if_pos e]
            exact hb
          · rw [if_neg e]
            exact hA.2.2.2.2.2.2.2 q (by omega)
        refine pz_put (A' := pz_hA A (A 14 0 0 + 1) (fun q => if q = A 14 0 0 then b else A 15 0 q)) (ck' := ck) h hk q1 (Nat.le_refl _) (by omega) ?_ (pz_wf_h (by omega) hH hA) (pz_C_h (fun c hc => by rw [pz_uI_ne hc.1, pz_uI_ne hc.2]) pz_uI_s ?_ hC) (pz_M_h (fun c hc => by rw [pz_uI_ne hc.1, pz_uI_ne hc.2]) pz_uI_s ?_ hM) (pz_kk_u (by unfold pz_kk pz_kw; omega) (pz_kk_u (by unfold pz_kk pz_kw; omega) pz_kk_0)) (fun _ => rfl) (pz_kz_u rfl (pz_kz_u rfl pz_kz_0)) (fun c b hc _ => by rw [pz_uI_ne (by omega), pz_uI_ne (by omega)]) (fun c b hc _ => by rw [pz_uI_ne (by omega), pz_uI_ne (by omega)]) (Nat.le_refl _) (Nat.le_refl _)
        · rw [pz_uI_ne (by decide), pz_uI_ne (by decide)]
          exact q3
        · intro q hq
          rw [pz_uI_ne (by decide), pz_uI_at]
          by_cases e : q = A 14 0 0
          · rw [if_pos e, if_pos e]
          · rw [if_neg e, if_neg e]
            exact hC.2.2.2.2.2.2 q (by omega)
        · intro q hq
          rw [pz_uI_ne (by decide), pz_uI_at]
          by_cases e : q = A 14 0 0
          · rw [if_pos e, if_pos e]
          · rw [if_neg e, if_neg e]
            exact (pz_M0 hM).2.2.2.2 q (by omega)
    · refine pz_two (laC := [some (.inr (.inr (1, 0))), some (.inl _)]) (laM := [some (.inr (.inr (9, 0))), some (.inl _)]) (by rw [show mm_mL 21 = 2 from by decide +kernel]; rfl) (by rw [show mm_mL 159 = 2 from by decide +kernel]; rfl) (r :=  -104) ?_ ?_ (pz_rd0 (LC' := LC) (LM' := LM) h)
      · rw [b21_0]
        simp (disch := omega) only [sC62 (by omega) hC.1, pz_bT hx', b21_8, b21_14, h15, hf, b21_26, pz_k0, pz_k1, pz_k2, pz_k3, pz_k4, pz_k5, pz_k6, pz_k7, pz_k8, pz_k9, pz_k10, pz_k16, pz_k31, pz_k63, pz_km, nI_add, pz_mul, nI_ltI, nI_eq, nI_clamp, pz_inI, Option.bind_some, Option.toList_some, Option.toList_none, List.cons_append, List.nil_append, Nat.zero_add, Nat.mul_zero, Nat.add_zero, Nat.lt_irrefl, pz_bb, pz_bTr, Bool.false_eq_true, pz_bFa, Nat.reduceEqDiff, Nat.reduceLT, ite_not, pz_mE, pz_mE2, pz_mL, pz_mG, not_true_eq_false, not_false_eq_true, if_true, if_false, reduceIte, eq_self, true_or, or_true, or_false, false_or, and_true, true_and, and_false, false_and]
      · rw [b159_0]
        simp (disch := omega) only [sM123 hA hM, pz_bT hx', b159_5, b159_11, h57, show A 14 0 0 = 10 by omega, b159_20, pz_k0, pz_k1, pz_k2, pz_k3, pz_k4, pz_k5, pz_k6, pz_k7, pz_k8, pz_k9, pz_k10, pz_k16, pz_k31, pz_k63, pz_km, nI_add, pz_mul, nI_ltI, nI_eq, nI_clamp, pz_inI, Option.bind_some, Option.toList_some, Option.toList_none, List.cons_append, List.nil_append, Nat.zero_add, Nat.mul_zero, Nat.add_zero, Nat.lt_irrefl, pz_bb, pz_bTr, Bool.false_eq_true, pz_bFa, Nat.reduceEqDiff, Nat.reduceLT, ite_not, pz_mE, pz_mE2, pz_mL, pz_mG, not_true_eq_false, not_false_eq_true, if_true, if_false, reduceIte, eq_self, true_or, or_true, or_false, false_or, and_true, true_and, and_false, false_and]
  · refine pz_two (laC := [some (.inr (.inr (1, 0))), some (.inl _)]) (laM := [some (.inr (.inr (9, 0))), some (.inl _)]) (by rw [show mm_mL 21 = 2 from by decide +kernel]; rfl) (by rw [show mm_mL 159 = 2 from by decide +kernel]; rfl) (r :=  -101) ?_ ?_ (pz_rd0 (LC' := LC) (LM' := LM) h)
    · rw [b21_0]
      simp (disch := omega) only [sC62 (by omega) hC.1, pz_bF hx, b21_8, b21_11, pz_k0, pz_k1, pz_k2, pz_k3, pz_k4, pz_k5, pz_k6, pz_k7, pz_k8, pz_k9, pz_k10, pz_k16, pz_k31, pz_k63, pz_km, nI_add, pz_mul, nI_ltI, nI_eq, nI_clamp, pz_inI, Option.bind_some, Option.toList_some, Option.toList_none, List.cons_append, List.nil_append, Nat.zero_add, Nat.mul_zero, Nat.add_zero, Nat.lt_irrefl, pz_bb, pz_bTr, Bool.false_eq_true, pz_bFa, Nat.reduceEqDiff, Nat.reduceLT, ite_not, pz_mE, pz_mE2, pz_mL, pz_mG, not_true_eq_false, not_false_eq_true, if_true, if_false, reduceIte, eq_self, true_or, or_true, or_false, false_or, and_true, true_and, and_false, false_and]
    · rw [b159_0]
      simp (disch := omega) only [sM123 hA hM, pz_bF hx, b159_5, b159_8, pz_k0, pz_k1, pz_k2, pz_k3, pz_k4, pz_k5, pz_k6, pz_k7, pz_k8, pz_k9, pz_k10, pz_k16, pz_k31, pz_k63, pz_km, nI_add, pz_mul, nI_ltI, nI_eq, nI_clamp, pz_inI, Option.bind_some, Option.toList_some, Option.toList_none, List.cons_append, List.nil_append, Nat.zero_add, Nat.mul_zero, Nat.add_zero, Nat.lt_irrefl, pz_bb, pz_bTr, Bool.false_eq_true, pz_bFa, Nat.reduceEqDiff, Nat.reduceLT, ite_not, pz_mE, pz_mE2, pz_mL, pz_mG, not_true_eq_false, not_false_eq_true, if_true, if_false, reduceIte, eq_self, true_or, or_true, or_false, false_or, and_true, true_and, and_false, false_and]
theorem op11 (h : pz_Q k ck n g f A κ I J) (hk : k < 64) (x y z : Int32) : lw_two (pz_R (k + 1)) 11 139 [.inl x, .inl y, .inl z] (mm_idC, I, LC, mm_RS κ) (mm_idM, J, LM, mm_RM) := by
  obtain ⟨q1, q2, q3, hA, hC, hM, -⟩ := id h
  by_cases hx : pz_rg x 6
  · have hx' := hx
    obtain ⟨p, hp, rfl⟩ := hx
    by_cases hy : pz_rg y 6
    · have hy' := hy
      obtain ⟨v, hv, rfl⟩ := hy
      by_cases hz : ¬ z < pz_m ∧ ¬ nI 99 < z
      · have hz' := hz
        obtain ⟨w, hw, e⟩ := pz_win1 hz
        have hfe := pz_C0f hC hp hv
        have hfm := (pz_M0 hM).2.2.1 p v hp hv
        have h133 : I 115 (6 * 0 + p) v = nI (A 13 p v) - nI 1 := by rw [Nat.mul_zero, Nat.zero_add]; exact hfe
        refine pz_two (laC := [some (.inr (.inr (1, 0))), some (.inl _), some (.inl _), some (.inl _), none]) (laM := [some (.inr (.inr (9, 0))), some (.inl _), some (.inl _), some (.inl _), none]) (by rw [show mm_mL 11 = 5 from by decide +kernel]; rfl) (by rw [show mm_mL 139 = 5 from by decide +kernel]; rfl) (r :=  nI (A 13 p v) - nI 1) (hC' := (mm_idC, mm_uI I 115 p v z, LC, mm_RS κ)) (hM' := (mm_idM, mm_uI J 133 0 (6 * p + v) (nI w), LM, mm_RM)) ?_ ?_ ?_
        · rw [b11_0]
          simp (disch := omega) only [sC34, sC35, pz_bT hx', pz_bT hy', b11_4, b11_7, b11_11, b11_17, hz'.1, b11_22, pz_k99, hz'.2, b11_31, hp, b11_40, hv, hfe, b11_42, b11_53, b11_56, pz_k0, pz_k1, pz_k2, pz_k3, pz_k4, pz_k5, pz_k6, pz_k7, pz_k8, pz_k9, pz_k10, pz_k16, pz_k31, pz_k63, pz_km, nI_add, pz_mul, nI_ltI, nI_eq, nI_clamp, pz_inI, Option.bind_some, Option.toList_some, Option.toList_none, List.cons_append, List.nil_append, Nat.zero_add, Nat.mul_zero, Nat.add_zero, Nat.lt_irrefl, pz_bb, pz_bTr, Bool.false_eq_true, pz_bFa, Nat.reduceEqDiff, Nat.reduceLT, ite_not, pz_mE, pz_mE2, pz_mL, pz_mG, not_true_eq_false, not_false_eq_true, if_true, if_false, reduceIte, eq_self, true_or, or_true, or_false, false_or, and_true, true_and, and_false, false_and]
        · rw [b139_0]
          have ew : z + nI 1 = nI w := by rw [e, pz_sa]
          simp (disch := omega) only [sM132, sM133, pz_bT hx', pz_bT hy', b139_4, b139_7, b139_11, b139_17, pz_k99, sM113T hz', b139_24, b139_30, show 6 * p + v < 36 by omega, hfm, b139_41, ew, b139_59, pz_k0, pz_k1, pz_k2, pz_k3, pz_k4, pz_k5, pz_k6, pz_k7, pz_k8, pz_k9, pz_k10, pz_k16, pz_k31, pz_k63, pz_km, nI_add, pz_mul, nI_ltI, nI_eq, nI_clamp, pz_inI, Option.bind_some, Option.toList_some, Option.toList_none, List.cons_append, List.nil_append, Nat.zero_add, Nat.mul_zero, Nat.add_zero, Nat.lt_irrefl, pz_bb, pz_bTr, Bool.false_eq_true, pz_bFa, Nat.reduceEqDiff, Nat.reduceLT, ite_not, pz_mE, pz_mE2, pz_mL, pz_mG, not_true_eq_false, not_false_eq_true, if_true, if_false, reduceIte, eq_self, true_or, or_true, or_false, false_or, and_true, true_and, and_false, false_and]
        · refine pz_put (A' := pz_fA A p v w) (ck' := ck) h hk q1 (Nat.le_refl _) (by omega) ?_ (pz_wf_f hw hA) (pz_C_f e hC) (pz_M_f hp hv hM) (pz_kk_u (by unfold pz_kk pz_kw; omega) pz_kk_0) (fun _ => rfl) (pz_kz_u rfl pz_kz_0) (fun c b hc _ => by rw [pz_uI_ne (by omega)]) (fun c b hc _ => by rw [pz_uI_ne (by omega)]) (Nat.le_refl _) (Nat.le_refl _)
          rw [pz_uI_ne (by decide)]
          exact q3
      · refine pz_two (laC := [some (.inr (.inr (1, 0))), some (.inl _), some (.inl _), some (.inl _), none]) (laM := [some (.inr (.inr (9, 0))), some (.inl _), some (.inl _), some (.inl _), none]) (by rw [show mm_mL 11 = 5 from by decide +kernel]; rfl) (by rw [show mm_mL 139 = 5 from by decide +kernel]; rfl) (r :=  -102) ?_ ?_ (pz_rd0 (LC' := LC) (LM' := LM) h)
        · rw [b11_0]
          by_cases h1 : z < pz_m
          · simp (disch := omega) only [sC34, sC35, pz_bT hx', pz_bT hy', b11_4, b11_7, b11_11, b11_17, h1, b11_28, pz_k0, pz_k1, pz_k2, pz_k3, pz_k4, pz_k5, pz_k6, pz_k7, pz_k8, pz_k9, pz_k10, pz_k16, pz_k31, pz_k63, pz_km, nI_add, pz_mul, nI_ltI, nI_eq, nI_clamp, pz_inI, Option.bind_some, Option.toList_some, Option.toList_none, List.cons_append, List.nil_append, Nat.zero_add, Nat.mul_zero, Nat.add_zero, Nat.lt_irrefl, pz_bb, pz_bTr, Bool.false_eq_true, pz_bFa, Nat.reduceEqDiff, Nat.reduceLT, ite_not, pz_mE, pz_mE2, pz_mL, pz_mG, not_true_eq_false, not_false_eq_true, if_true, if_false, reduceIte, eq_self, true_or, or_true, or_false, false_or, and_true, true_and, and_false, false_and]
          · have h2 : nI 99 < z := Classical.byContradiction (fun q => hz ⟨h1, q⟩)
            simp (disch := omega) only [sC34, sC35, pz_bT hx', pz_bT hy', b11_4, b11_7, b11_11, b11_17, h1, b11_22, pz_k99, h2, b11_28, pz_k0, pz_k1, pz_k2, pz_k3, pz_k4, pz_k5, pz_k6, pz_k7, pz_k8, pz_k9, pz_k10, pz_k16, pz_k31, pz_k63, pz_km, nI_add, pz_mul, nI_ltI, nI_eq, nI_clamp, pz_inI, Option.bind_some, Option.toList_some, Option.toList_none, List.cons_append, List.nil_append, Nat.zero_add, Nat.mul_zero, Nat.add_zero, Nat.lt_irrefl, pz_bb, pz_bTr, Bool.false_eq_true, pz_bFa, Nat.reduceEqDiff, Nat.reduceLT, ite_not, pz_mE, pz_mE2, pz_mL, pz_mG, not_true_eq_false, not_false_eq_true, if_true, if_false, reduceIte, eq_self, true_or, or_true, or_false, false_or, and_true, true_and, and_false, false_and]
        · rw [b139_0]
          simp (disch := omega) only [sM132, sM133, pz_bT hx', pz_bT hy', b139_4, b139_7, b139_11, b139_17, pz_k99, sM113F hz, b139_24, b139_27, pz_k0, pz_k1, pz_k2, pz_k3, pz_k4, pz_k5, pz_k6, pz_k7, pz_k8, pz_k9, pz_k10, pz_k16, pz_k31, pz_k63, pz_km, nI_add, pz_mul, nI_ltI, nI_eq, nI_clamp, pz_inI, Option.bind_some, Option.toList_some, Option.toList_none, List.cons_append, List.nil_append, Nat.zero_add, Nat.mul_zero, Nat.add_zero, Nat.lt_irrefl, pz_bb, pz_bTr, Bool.false_eq_true, pz_bFa, Nat.reduceEqDiff, Nat.reduceLT, ite_not, pz_mE, pz_mE2, pz_mL, pz_mG, not_true_eq_false, not_false_eq_true, if_true, if_false, reduceIte, eq_self, true_or, or_true, or_false, false_or, and_true, true_and, and_false, false_and]
    · refine pz_two (laC := [some (.inr (.inr (1, 0))), some (.inl _), some (.inl _), some (.inl _), none]) (laM := [some (.inr (.inr (9, 0))), some (.inl _), some (.inl _), some (.inl _), none]) (by rw [show mm_mL 11 = 5 from by decide +kernel]; rfl) (by rw [show mm_mL 139 = 5 from by decide +kernel]; rfl) (r :=  -101) ?_ ?_ (pz_rd0 (LC' := LC) (LM' := LM) h)
      · rw [b11_0]
        simp (disch := omega) only [sC34, sC35, pz_bT hx', pz_bF hy, b11_4, b11_7, b11_11, b11_14, pz_k0, pz_k1, pz_k2, pz_k3, pz_k4, pz_k5, pz_k6, pz_k7, pz_k8, pz_k9, pz_k10, pz_k16, pz_k31, pz_k63, pz_km, nI_add, pz_mul, nI_ltI, nI_eq, nI_clamp, pz_inI, Option.bind_some, Option.toList_some, Option.toList_none, List.cons_append, List.nil_append, Nat.zero_add, Nat.mul_zero, Nat.add_zero, Nat.lt_irrefl, pz_bb, pz_bTr, Bool.false_eq_true, pz_bFa, Nat.reduceEqDiff, Nat.reduceLT, ite_not, pz_mE, pz_mE2, pz_mL, pz_mG, not_true_eq_false, not_false_eq_true, if_true, if_false, reduceIte, eq_self, true_or, or_true, or_false, false_or, and_true, true_and, and_false, false_and]
      · rw [b139_0]
        simp (disch := omega) only [sM132, sM133, pz_bT hx', pz_bF hy, b139_4, b139_7, b139_11, b139_14, pz_k0, pz_k1, pz_k2, pz_k3, pz_k4, pz_k5, pz_k6, pz_k7, pz_k8, pz_k9, pz_k10, pz_k16, pz_k31, pz_k63, pz_km, nI_add, pz_mul, nI_ltI, nI_eq, nI_clamp, pz_inI, Option.bind_some, Option.toList_some, Option.toList_none, List.cons_append, List.nil_append, Nat.zero_add, Nat.mul_zero, Nat.add_zero, Nat.lt_irrefl, pz_bb, pz_bTr, Bool.false_eq_true, pz_bFa, Nat.reduceEqDiff, Nat.reduceLT, ite_not, pz_mE, pz_mE2, pz_mL, pz_mG, not_true_eq_false, not_false_eq_true, if_true, if_false, reduceIte, eq_self, true_or, or_true, or_false, false_or, and_true, true_and, and_false, false_and]
  · refine pz_two (laC := [some (.inr (.inr (1, 0))), some (.inl _), some (.inl _), some (.inl _), none]) (laM := [some (.inr (.inr (9, 0))), some (.inl _), some (.inl _), some (.inl _), none]) (by rw [show mm_mL 11 = 5 from by decide +kernel]; rfl) (by rw [show mm_mL 139 = 5 from by decide +kernel]; rfl) (r :=  -101) ?_ ?_ (pz_rd0 (LC' := LC) (LM' := LM) h)
    · rw [b11_0]
      simp (disch := omega) only [sC34, pz_bF hx, b11_4, b11_14, pz_k0, pz_k1, pz_k2, pz_k3, pz_k4, pz_k5, pz_k6, pz_k7, pz_k8, pz_k9, pz_k10, pz_k16, pz_k31, pz_k63, pz_km, nI_add, pz_mul, nI_ltI, nI_eq, nI_clamp, pz_inI, Option.bind_some, Option.toList_some, Option.toList_none, List.cons_append, List.nil_append, Nat.zero_add, Nat.mul_zero, Nat.add_zero, Nat.lt_irrefl, pz_bb, pz_bTr, Bool.false_eq_true, pz_bFa, Nat.reduceEqDiff, Nat.reduceLT, ite_not, pz_mE, pz_mE2, pz_mL, pz_mG, not_true_eq_false, not_false_eq_true, if_true, if_false, reduceIte, eq_self, true_or, or_true, or_false, false_or, and_true, true_and, and_false, false_and]
    · rw [b139_0]
      simp (disch := omega) only [sM132, pz_bF hx, b139_4, b139_14, pz_k0, pz_k1, pz_k2, pz_k3, pz_k4, pz_k5, pz_k6, pz_k7, pz_k8, pz_k9, pz_k10, pz_k16, pz_k31, pz_k63, pz_km, nI_add, pz_mul, nI_ltI, nI_eq, nI_clamp, pz_inI, Option.bind_some, Option.toList_some, Option.toList_none, List.cons_append, List.nil_append, Nat.zero_add, Nat.mul_zero, Nat.add_zero, Nat.lt_irrefl, pz_bb, pz_bTr, Bool.false_eq_true, pz_bFa, Nat.reduceEqDiff, Nat.reduceLT, ite_not, pz_mE, pz_mE2, pz_mL, pz_mG, not_true_eq_false, not_false_eq_true, if_true, if_false, reduceIte, eq_self, true_or, or_true, or_false, false_or, and_true, true_and, and_false, false_and]
/-- feesTold -/
theorem sC65 (hA : pz_wf ck A) (hC : pz_C 0 A I κ) : mm_ev 65 0 [some (.inr (.inr (4, 0))), none, none, none] [] (ids, I, L, mm_RS κ) = some (some (.inl (nI (pz_fc A 36))), (ids, I, L, mm_RS κ)) := by
  have outer := pz_loopJ (fun p (j : Option mm_V) => mm_ev 65 4 [some (.inr (.inr (4, 0))), some (.inl (nI (pz_fc A (6 * p)))), some (.inl (nI p)), j] [] (ids, I, L, mm_RS κ)) 6 (fun p j hp => ?_) none
  · obtain ⟨j, hj⟩ := outer
    rw [b65_0]
    refine Eq.trans hj ?_
    rw [b65_4]
    simp (disch := omega) only [b65_45, pz_k0, pz_k1, pz_k2, pz_k3, pz_k4, pz_k5, pz_k6, pz_k7, pz_k8, pz_k9, pz_k10, pz_k16, pz_k31, pz_k63, pz_km, nI_add, pz_mul, nI_ltI, nI_eq, nI_clamp, pz_inI, Option.bind_some, Option.toList_some, Option.toList_none, List.cons_append, List.nil_append, Nat.zero_add, Nat.mul_zero, Nat.add_zero, Nat.lt_irrefl, pz_bb, pz_bTr, Bool.false_eq_true, pz_bFa, Nat.reduceEqDiff, Nat.reduceLT, ite_not, pz_mE, pz_mE2, pz_mL, pz_mG, not_true_eq_false, not_false_eq_true, if_true, if_false, reduceIte, eq_self, true_or, or_true, or_false, false_or, and_true, true_and, and_false, false_and]
  · try dsimp only
    have inner := pz_loop (fun v => mm_ev 65 12 [some (.inr (.inr (4, 0))), some (.inl (nI (pz_fc A (6 * p + v)))), some (.inl (nI p)), some (.inl (nI v))] [] (ids, I, L, mm_RS κ)) 6 (fun v hv => ?_)
    · refine ⟨some (.inl (nI 6)), ?_⟩
      rw [b65_4]
      simp (disch := omega) only [hp, b65_10, pz_k0, pz_k1, pz_k2, pz_k3, pz_k4, pz_k5, pz_k6, pz_k7, pz_k8, pz_k9, pz_k10, pz_k16, pz_k31, pz_k63, pz_km, nI_add, pz_mul, nI_ltI, nI_eq, nI_clamp, pz_inI, Option.bind_some, Option.toList_some, Option.toList_none, List.cons_append, List.nil_append, Nat.zero_add, Nat.mul_zero, Nat.add_zero, Nat.lt_irrefl, pz_bb, pz_bTr, Bool.false_eq_true, pz_bFa, Nat.reduceEqDiff, Nat.reduceLT, ite_not, pz_mE, pz_mE2, pz_mL, pz_mG, not_true_eq_false, not_false_eq_true, if_true, if_false, reduceIte, eq_self, true_or, or_true, or_false, false_or, and_true, true_and, and_false, false_and]
      refine Eq.trans inner ?_
      rw [b65_12, show 6 * (p + 1) = 6 * p + 6 by omega]
      simp (disch := omega) only [b65_39, pz_k0, pz_k1, pz_k2, pz_k3, pz_k4, pz_k5, pz_k6, pz_k7, pz_k8, pz_k9, pz_k10, pz_k16, pz_k31, pz_k63, pz_km, nI_add, pz_mul, nI_ltI, nI_eq, nI_clamp, pz_inI, Option.bind_some, Option.toList_some, Option.toList_none, List.cons_append, List.nil_append, Nat.zero_add, Nat.mul_zero, Nat.add_zero, Nat.lt_irrefl, pz_bb, pz_bTr, Bool.false_eq_true, pz_bFa, Nat.reduceEqDiff, Nat.reduceLT, ite_not, pz_mE, pz_mE2, pz_mL, pz_mG, not_true_eq_false, not_false_eq_true, if_true, if_false, reduceIte, eq_self, true_or, or_true, or_false, false_or, and_true, true_and, and_false, false_and]
    · try dsimp only
      have hfe := pz_C0f hC hp hv
      have hle := pz_fc_le (A := A) (6 * p + v)
      have e := pz_fc_s (A := A) (k := 6 * p + v)
      rw [show (6 * p + v) / 6 = p by omega, show (6 * p + v) % 6 = v by omega] at e
      rw [show 6 * p + (v + 1) = 6 * p + v + 1 by omega, e, b65_12]
      by_cases hz : A 13 p v = 0
      · rw [hz, pz_fe0] at hfe
        rw [if_pos hz]
        simp (disch := omega) only [hv, b65_18, hp, b65_24, hfe, b65_26, b65_33, pz_k0, pz_k1, pz_k2, pz_k3, pz_k4, pz_k5, pz_k6, pz_k7, pz_k8, pz_k9, pz_k10, pz_k16, pz_k31, pz_k63, pz_km, nI_add, pz_mul, nI_ltI, nI_eq, nI_clamp, pz_inI, Option.bind_some, Option.toList_some, Option.toList_none, List.cons_append, List.nil_append, Nat.zero_add, Nat.mul_zero, Nat.add_zero, Nat.lt_irrefl, pz_bb, pz_bTr, Bool.false_eq_true, pz_bFa, Nat.reduceEqDiff, Nat.reduceLT, ite_not, pz_mE, pz_mE2, pz_mL, pz_mG, not_true_eq_false, not_false_eq_true, if_true, if_false, reduceIte, eq_self, true_or, or_true, or_false, false_or, and_true, true_and, and_false, false_and]
      · rw [pz_fe1 hz] at hfe
        rw [if_neg hz]
        have hz2 := hA.2.2.2.2.2.1 p v hp hv
        simp (disch := omega) only [hv, b65_18, hp, b65_24, hfe, b65_26, b65_30, b65_33, pz_k0, pz_k1, pz_k2, pz_k3, pz_k4, pz_k5, pz_k6, pz_k7, pz_k8, pz_k9, pz_k10, pz_k16, pz_k31, pz_k63, pz_km, nI_add, pz_mul, nI_ltI, nI_eq, nI_clamp, pz_inI, Option.bind_some, Option.toList_some, Option.toList_none, List.cons_append, List.nil_append, Nat.zero_add, Nat.mul_zero, Nat.add_zero, Nat.lt_irrefl, pz_bb, pz_bTr, Bool.false_eq_true, pz_bFa, Nat.reduceEqDiff, Nat.reduceLT, ite_not, pz_mE, pz_mE2, pz_mL, pz_mG, not_true_eq_false, not_false_eq_true, if_true, if_false, reduceIte, eq_self, true_or, or_true, or_false, false_or, and_true, true_and, and_false, false_and]
/-- feeMany -/
theorem sM170 (hA : pz_wf ck A) (hM : pz_M A I) : mm_ev 170 0 [some (.inr (.inr (9, 0))), none, none] [] (ids, I, L, mm_RM) = some (some (.inl (nI (pz_fc A 36))), (ids, I, L, mm_RM)) := by
  have outer := pz_loop (fun q => mm_ev 170 4 [some (.inr (.inr (9, 0))), some (.inl (nI (pz_fc A q))), some (.inl (nI q))] [] (ids, I, L, mm_RM)) 36 (fun q hq => ?_)
  · rw [b170_0]
    refine Eq.trans outer ?_
    rw [b170_4, pz_k36]
    simp (disch := omega) only [b170_33, pz_k0, pz_k1, pz_k2, pz_k3, pz_k4, pz_k5, pz_k6, pz_k7, pz_k8, pz_k9, pz_k10, pz_k16, pz_k31, pz_k63, pz_km, nI_add, pz_mul, nI_ltI, nI_eq, nI_clamp, pz_inI, Option.bind_some, Option.toList_some, Option.toList_none, List.cons_append, List.nil_append, Nat.zero_add, Nat.mul_zero, Nat.add_zero, Nat.lt_irrefl, pz_bb, pz_bTr, Bool.false_eq_true, pz_bFa, Nat.reduceEqDiff, Nat.reduceLT, ite_not, pz_mE, pz_mE2, pz_mL, pz_mG, not_true_eq_false, not_false_eq_true, if_true, if_false, reduceIte, eq_self, true_or, or_true, or_false, false_or, and_true, true_and, and_false, false_and]
  · try dsimp only
    have hfe := (pz_M0 hM).2.2.1 (q / 6) (q % 6) (by omega) (by omega)
    rw [show 6 * (q / 6) + q % 6 = q by omega] at hfe
    have hle := pz_fc_le (A := A) q
    have hz2 := hA.2.2.2.2.2.1 (q / 6) (q % 6) (by omega) (by omega)
    rw [b170_4, pz_fc_s, pz_k36]
    by_cases hz : A 13 (q / 6) (q % 6) = 0
    · rw [hz] at hfe
      rw [if_pos hz]
      simp (disch := omega) only [hq, b170_10, hfe, b170_17, b170_24, b170_25, pz_k0, pz_k1, pz_k2, pz_k3, pz_k4, pz_k5, pz_k6, pz_k7, pz_k8, pz_k9, pz_k10, pz_k16, pz_k31, pz_k63, pz_km, nI_add, pz_mul, nI_ltI, nI_eq, nI_clamp, pz_inI, Option.bind_some, Option.toList_some, Option.toList_none, List.cons_append, List.nil_append, Nat.zero_add, Nat.mul_zero, Nat.add_zero, Nat.lt_irrefl, pz_bb, pz_bTr, Bool.false_eq_true, pz_bFa, Nat.reduceEqDiff, Nat.reduceLT, ite_not, pz_mE, pz_mE2, pz_mL, pz_mG, not_true_eq_false, not_false_eq_true, if_true, if_false, reduceIte, eq_self, true_or, or_true, or_false, false_or, and_true, true_and, and_false, false_and]
    · rw [if_neg hz]
      simp (disch := omega) only [hq, b170_10, hfe, b170_17, show 0 < A 13 (q / 6) (q % 6) by omega, b170_20, b170_25, pz_k0, pz_k1, pz_k2, pz_k3, pz_k4, pz_k5, pz_k6, pz_k7, pz_k8, pz_k9, pz_k10, pz_k16, pz_k31, pz_k63, pz_km, nI_add, pz_mul, nI_ltI, nI_eq, nI_clamp, pz_inI, Option.bind_some, Option.toList_some, Option.toList_none, List.cons_append, List.nil_append, Nat.zero_add, Nat.mul_zero, Nat.add_zero, Nat.lt_irrefl, pz_bb, pz_bTr, Bool.false_eq_true, pz_bFa, Nat.reduceEqDiff, Nat.reduceLT, ite_not, pz_mE, pz_mE2, pz_mL, pz_mG, not_true_eq_false, not_false_eq_true, if_true, if_false, reduceIte, eq_self, true_or, or_true, or_false, false_or, and_true, true_and, and_false, false_and]
theorem sC27 {w : Nat} (hA : pz_wf ck A) (hC : pz_C 0 A I κ) (h8 : I 8 0 0 = nI n) (hw : w ≤ 4) : mm_ev 27 0 [some (.inr (.inr (1, 0))), some (.inl (nI w))] [] (ids, I, L, mm_RS κ) = some (some (.inl (pz_co A n w)), (ids, I, L, mm_RS κ)) := by
  match w, hw with
  | 0, _ =>
    rw [b27_0, show mm_ts 76 0 [36, 44, 52, 60, 68] (nI 0) = 36 from by decide +kernel, b27_36, hC.1]
    rfl
  | 1, _ =>
    rw [b27_0, show mm_ts 76 0 [36, 44, 52, 60, 68] (nI 1) = 44 from by decide +kernel, b27_44, hC.2.2.1]
    rfl
  | 2, _ =>
    rw [b27_0, show mm_ts 76 0 [36, 44, 52, 60, 68] (nI 2) = 52 from by decide +kernel, b27_52, sC65 hA hC]
    exact b27_59 ..
  | 3, _ =>
    rw [b27_0, show mm_ts 76 0 [36, 44, 52, 60, 68] (nI 3) = 60 from by decide +kernel, b27_60, hC.2.2.2.2.2.1]
    rfl
  | 4, _ =>
    rw [b27_0, show mm_ts 76 0 [36, 44, 52, 60, 68] (nI 4) = 68 from by decide +kernel, b27_68, h8]
    rfl
theorem sM171 {w : Nat} (hA : pz_wf ck A) (hM : pz_M A I) (h59 : I 59 0 0 = nI n) (hw : w ≤ 4) : mm_ev 171 0 [some (.inr (.inr (9, 0))), some (.inl (nI w))] [] (ids, I, L, mm_RM) = some (some (.inl (pz_co A n w)), (ids, I, L, mm_RM)) := by
  match w, hw with
  | 0, _ =>
    rw [b171_0, show mm_ts 61 0 [36, 41, 46, 51, 56] (nI 0) = 36 from by decide +kernel, b171_36, hM.1]
    rfl
  | 1, _ =>
    rw [b171_0, show mm_ts 61 0 [36, 41, 46, 51, 56] (nI 1) = 41 from by decide +kernel, b171_41, hM.2.2.1]
    rfl
  | 2, _ =>
    rw [b171_0, show mm_ts 61 0 [36, 41, 46, 51, 56] (nI 2) = 46 from by decide +kernel, b171_46, sM170 hA hM]
    exact b171_50 ..
  | 3, _ =>
    rw [b171_0, show mm_ts 61 0 [36, 41, 46, 51, 56] (nI 3) = 51 from by decide +kernel, b171_51, hM.2.2.2.2.2.1]
    rfl
  | 4, _ =>
    rw [b171_0, show mm_ts 61 0 [36, 41, 46, 51, 56] (nI 4) = 56 from by decide +kernel, b171_56, h59]
    rfl
theorem op27 (h : pz_Q k ck n g f A κ I J) (x : Int32) : lw_two (pz_R (k + 1)) 27 172 [.inl x] (mm_idC, I, LC, mm_RS κ) (mm_idM, J, LM, mm_RM) := by
  obtain ⟨q1, q2, q3, hA, hC, hM, ⟨p1, p2, p3, p4, p5⟩, -⟩ := id h
  by_cases hx : pz_rg x 5
  · obtain ⟨w, hw, rfl⟩ := hx
    refine pz_two (laC := [some (.inr (.inr (1, 0))), some (.inl _)]) (laM := [some (.inr (.inr (9, 0))), some (.inl _)]) (by rw [show mm_mL 27 = 2 from by decide +kernel]; rfl) (by rw [show mm_mL 172 = 2 from by decide +kernel]; rfl) (r :=  pz_co A n w) ?_ ?_ (pz_rd0 (LC' := LC) (LM' := LM) h)
    · exact sC27 hA hC p3 (by omega)
    · rw [b172_0, sM171 hA hM p4 (by omega)]
      exact b172_5 ..
  · refine pz_two (laC := [some (.inr (.inr (1, 0))), some (.inl _)]) (laM := [some (.inr (.inr (9, 0))), some (.inl _)]) (by rw [show mm_mL 27 = 2 from by decide +kernel]; rfl) (by rw [show mm_mL 172 = 2 from by decide +kernel]; rfl) (r :=  -102) ?_ ?_ (pz_rd0 (LC' := LC) (LM' := LM) h)
    · rw [b27_0, pz_ts_out (n := 5) rfl (by decide) hx, b27_76]
    · rw [b172_0, b171_0, pz_ts_out (n := 5) rfl (by decide) hx, b171_61]
      exact b172_5 ..
/-- setVerse -/
theorem sC76 {j : Nat} (hA : pz_wf ck A) (hC : pz_C 0 A I κ) (hb : b < A 0 0 0) (hj : j < A 4 b 0) (hv : v < 6) : mm_ev 76 0 [some (.inr (.inr (5, b))), some (.inl (nI j)), some (.inl (nI v))] [] (ids, I, L, mm_RS κ) = some (none, (ids, mm_uI (mm_uI I 117 b j (nI v)) 21 b 0 (nI (if A 1 b 0 = 2 then pz_pop (pz_vs (pz_up (A 5 b) j v) (A 4 b 0)) else A 4 b 0)), L, mm_RS κ)) := by
  obtain ⟨a1, a2, a3, -, a4, a5, a6⟩ := hA.2.2.1 b hb
  obtain ⟨c1, c2, c3, c4, c5, c6⟩ := pz_C0b hC hb
  have hf : ∀ i, i < A 4 b 0 → pz_up (A 5 b) j v i < 6 ∧ mm_uI I 117 b j (nI v) 117 b i = nI (pz_up (A 5 b) j v i) := by
    intro i hi
    rw [pz_uI_at]
    unfold pz_up
    by_cases e : i = j
    · rw [if_pos e, if_pos e]
      exact ⟨hv, rfl⟩
    · rw [if_neg e, if_neg e]
      exact ⟨a6 i hi, c6 i hi⟩
  have h19 : mm_uI I 117 b j (nI v) 19 b 0 = nI (A 4 b 0) := by
    rw [pz_uI_ne (by decide)]
    exact c4
  have h77 := sC77 (ids := ids) (L := L) (κ := κ) a5 h19 hf
  have hvs := pz_vs_lt (fun i hi => (hf i hi).1)
  rw [b76_0]
  simp (disch := omega) only [Nat.not_lt_zero, b76_4, c4, hj, b76_12, show j < 5 by omega, b76_19, h77, h19, c1, b76_32, show A 1 b 0 < 4 by omega, sC_len a1 hvs, b76_35, b76_38, pz_k0, pz_k1, pz_k2, pz_k3, pz_k4, pz_k5, pz_k6, pz_k7, pz_k8, pz_k9, pz_k10, pz_k16, pz_k31, pz_k63, pz_km, nI_add, pz_mul, nI_ltI, nI_eq, nI_clamp, pz_inI, Option.bind_some, Option.toList_some, Option.toList_none, List.cons_append, List.nil_append, Nat.zero_add, Nat.mul_zero, Nat.add_zero, Nat.lt_irrefl, pz_bb, pz_bTr, Bool.false_eq_true, pz_bFa, Nat.reduceEqDiff, Nat.reduceLT, ite_not, pz_mE, pz_mE2, pz_mL, pz_mG, not_true_eq_false, not_false_eq_true, if_true, if_false, reduceIte, eq_self, true_or, or_true, or_false, false_or, and_true, true_and, and_false, false_and]
theorem op7 (h : pz_Q k ck n g f A κ I J) (hk : k < 64) (x y z : Int32) : lw_two (pz_R (k + 1)) 7 129 [.inl x, .inl y, .inl z] (mm_idC, I, LC, mm_RS κ) (mm_idM, J, LM, mm_RM) := by
  obtain ⟨q1, q2, q3, hA, hC, hM, -⟩ := id h
  have h9 := hA.2.1
  by_cases hx : pz_rg x (A 0 0 0)
  · have hx' := hx
    obtain ⟨b, hb, rfl⟩ := hx
    have hb9 : b < 9 := by omega
    obtain ⟨a1, a2, a3, a23, a4, a5, a6⟩ := hA.2.2.1 b hb
    obtain ⟨c1, c2, c3, c4, c5, c6⟩ := pz_C0b hC hb
    obtain ⟨d1, d2, d3, d4, d5, d6⟩ := pz_M0b hM hb
    by_cases hy : pz_rg y (A 4 b 0)
    · have hy' := hy
      obtain ⟨j, hj, rfl⟩ := hy
      have hyt : ¬ nI j < nI 0 ∧ ¬ nI (A 4 b 0) - nI 1 < nI j := (pz_rgM (by omega)).mpr hy'
      have hsg : pz_sg A b j = nI (A 5 b j) := if_pos hj
      have h6j := a6 j hj
      by_cases hz : pz_rg z 6
      · have hz' := hz
        obtain ⟨v, hv, rfl⟩ := hz
        have hzt : ¬ nI v < nI 0 ∧ ¬ nI 5 < nI v := (pz_rgM (n := 6) (by decide)).mpr hz'
        refine pz_two (laC := [some (.inr (.inr (1, 0))), some (.inl _), some (.inl _), some (.inl _), none]) (laM := [some (.inr (.inr (9, 0))), some (.inl _), some (.inl _), some (.inl _), none]) (by rw [show mm_mL 7 = 5 from by decide +kernel]; rfl) (by rw [show mm_mL 129 = 5 from by decide +kernel]; rfl) (r :=  nI (A 5 b j)) (hC' := (mm_idC, mm_uI (mm_uI I 117 b j (nI v)) 21 b 0 (nI (if A 1 b 0 = 2 then pz_pop (pz_vs (pz_up (A 5 b) j v) (A 4 b 0)) else A 4 b 0)), LC, mm_RS κ)) (hM' := (mm_idM, mm_uI J 125 0 (5 * b + j) (nI v), LM, mm_RM)) ?_ ?_ ?_
        · rw [b7_0]
          simp (disch := omega) only [sC62 (by omega) hC.1, pz_bT hx', b7_8, b7_11, sC35, pz_bT hz', b7_15, b7_21, hb9, b7_30, sC75a hA hC hb (show j < 5 by omega), hsg, b7_34, b7_45, b7_54, sC76 hA hC hb hj hv, b7_59, pz_k0, pz_k1, pz_k2, pz_k3, pz_k4, pz_k5, pz_k6, pz_k7, pz_k8, pz_k9, pz_k10, pz_k16, pz_k31, pz_k63, pz_km, nI_add, pz_mul, nI_ltI, nI_eq, nI_clamp, pz_inI, Option.bind_some, Option.toList_some, Option.toList_none, List.cons_append, List.nil_append, Nat.zero_add, Nat.mul_zero, Nat.add_zero, Nat.lt_irrefl, pz_bb, pz_bTr, Bool.false_eq_true, pz_bFa, Nat.reduceEqDiff, Nat.reduceLT, ite_not, pz_mE, pz_mE2, pz_mL, pz_mG, not_true_eq_false, not_false_eq_true, if_true, if_false, reduceIte, eq_self, true_or, or_true, or_false, false_or, and_true, true_and, and_false, false_and]
        · rw [b129_0]
          simp (disch := omega) only [sM123 hA hM, pz_bT hx', b129_5, b129_8, hb9, d4, b129_16, sM113T hyt, b129_21, b129_24, sM113T hzt, b129_30, b129_36, show 5 * b + j < 45 by omega, d5 j hj, b129_46, b129_59, pz_k0, pz_k1, pz_k2, pz_k3, pz_k4, pz_k5, pz_k6, pz_k7, pz_k8, pz_k9, pz_k10, pz_k16, pz_k31, pz_k63, pz_km, nI_add, pz_mul, nI_ltI, nI_eq, nI_clamp, pz_inI, Option.bind_some, Option.toList_some, Option.toList_none, List.cons_append, List.nil_append, Nat.zero_add, Nat.mul_zero, Nat.add_zero, Nat.lt_irrefl, pz_bb, pz_bTr, Bool.false_eq_true, pz_bFa, Nat.reduceEqDiff, Nat.reduceLT, ite_not, pz_mE, pz_mE2, pz_mL, pz_mG, not_true_eq_false, not_false_eq_true, if_true, if_false, reduceIte, eq_self, true_or, or_true, or_false, false_or, and_true, true_and, and_false, false_and]
        · obtain ⟨B, hB⟩ : ∃ B : Nat → Nat → Nat, B = fun c => if c = 5 then pz_up (A 5 b) j v else A c b := ⟨_, rfl⟩
          have e1 : pz_bA A b (A 0 0 0) B 1 b = A 1 b := by rw [pz_bA_e (by decide), hB]; rfl
          have e2 : pz_bA A b (A 0 0 0) B 2 b = A 2 b := by rw [pz_bA_e (by decide), hB]; rfl
          have e3 : pz_bA A b (A 0 0 0) B 3 b = A 3 b := by rw [pz_bA_e (by decide), hB]; rfl
          have e4 : pz_bA A b (A 0 0 0) B 4 b = A 4 b := by rw [pz_bA_e (by decide), hB]; rfl
          have e5 : pz_bA A b (A 0 0 0) B 5 b = pz_up (A 5 b) j v := by rw [pz_bA_e (by decide), hB]; rfl
          have hup : ∀ i, i < A 4 b 0 → pz_up (A 5 b) j v i < 6 := by
            intro i hi
            unfold pz_up
            split
            · exact hv
            · exact a6 i hi
          refine pz_put (A' := pz_bA A b (A 0 0 0) B) (ck' := ck) h hk q1 (Nat.le_refl _) (by omega) ?_ (pz_wf_b hA h9 (Nat.le_refl _) (fun t ht _ => ht) (fun _ => ?_)) (pz_C_b hC (fun c i hc => by rw [pz_uI_i (by omega), pz_uI_i (by omega)]) (fun _ _ => rfl) ?_ (fun t ht _ => ht) (fun _ => ?_)) (pz_M_b (ck := ck) hM (fun c hc => pz_uI_ne (by omega)) (fun c j hc => by rw [pz_uI_ne (by omega)]) (fun j hj => pz_uI_j (by omega)) ?_ (fun t ht _ => ht) (fun _ => ?_) hA) (pz_kk_u (by unfold pz_kk pz_kw; omega) (pz_kk_u (by unfold pz_kk pz_kw; omega) pz_kk_0)) (fun _ => rfl) (pz_kz_u rfl pz_kz_0) (fun c b hc _ => by rw [pz_uI_ne (by omega)]) (fun c b hc _ => by rw [pz_uI_ne (by omega)]) (Nat.le_refl _) (Nat.le_refl _)
          · rw [pz_uI_ne (by decide)]
            exact q3
          · unfold pz_wfb
            rw [e1, e2, e3, e4, e5]
            exact ⟨a1, a2, a3, a23, a4, a5, hup⟩
          · rw [pz_uI_ne (by decide), pz_uI_ne (by decide)]
            exact hC.1
          · unfold pz_Cb pz_len
            rw [e1, e2, e3, e4, e5, Nat.mul_zero, Nat.zero_add]
            refine ⟨c1, ?_, ?_, ?_, pz_uI_s, fun i hi => ?_⟩
            · rw [pz_uI_ne (by decide), pz_uI_ne (by decide)]
              exact c2
            · rw [pz_uI_ne (by decide), pz_uI_ne (by decide)]
              exact c3
            · rw [pz_uI_ne (by decide), pz_uI_ne (by decide)]
              exact c4
            · rw [pz_uI_ne (by decide), pz_uI_at]
              unfold pz_up
              by_cases e : i = j
              · rw [if_pos e, if_pos e]
              · rw [if_neg e, if_neg e]
                exact c6 i hi
          · rw [pz_uI_ne (by decide)]
            exact hM.1
          · unfold pz_Mb
            rw [e1, e2, e3, e4, e5, pz_uI_ne (by decide), pz_uI_ne (by decide), pz_uI_ne (by decide), pz_uI_ne (by decide)]
            refine ⟨d1, d2, d3, d4, fun i hi => ?_, fun i hi1 hi2 => ?_⟩
            · rw [pz_uI_at]
              unfold pz_up
              by_cases e : i = j
              · rw [if_pos (by omega), if_pos e]
              · rw [if_neg (by omega), if_neg e]
                exact d5 i hi
            · rw [pz_uI_at, if_neg (by omega)]
              exact d6 i hi1 hi2
      · have hzf : ¬ (¬ z < nI 0 ∧ ¬ nI 5 < z) := fun q => hz ((pz_rgM (n := 6) (by decide)).mp q)
        refine pz_two (laC := [some (.inr (.inr (1, 0))), some (.inl _), some (.inl _), some (.inl _), none]) (laM := [some (.inr (.inr (9, 0))), some (.inl _), some (.inl _), some (.inl _), none]) (by rw [show mm_mL 7 = 5 from by decide +kernel]; rfl) (by rw [show mm_mL 129 = 5 from by decide +kernel]; rfl) (r :=  -101) ?_ ?_ (pz_rd0 (LC' := LC) (LM' := LM) h)
        · rw [b7_0]
          simp (disch := omega) only [sC62 (by omega) hC.1, pz_bT hx', b7_8, b7_11, sC35, pz_bF hz, b7_15, b7_18, pz_k0, pz_k1, pz_k2, pz_k3, pz_k4, pz_k5, pz_k6, pz_k7, pz_k8, pz_k9, pz_k10, pz_k16, pz_k31, pz_k63, pz_km, nI_add, pz_mul, nI_ltI, nI_eq, nI_clamp, pz_inI, Option.bind_some, Option.toList_some, Option.toList_none, List.cons_append, List.nil_append, Nat.zero_add, Nat.mul_zero, Nat.add_zero, Nat.lt_irrefl, pz_bb, pz_bTr, Bool.false_eq_true, pz_bFa, Nat.reduceEqDiff, Nat.reduceLT, ite_not, pz_mE, pz_mE2, pz_mL, pz_mG, not_true_eq_false, not_false_eq_true, if_true, if_false, reduceIte, eq_self, true_or, or_true, or_false, false_or, and_true, true_and, and_false, false_and]
        · rw [b129_0]
          simp (disch := omega) only [sM123 hA hM, pz_bT hx', b129_5, b129_8, hb9, d4, b129_16, sM113T hyt, b129_21, b129_24, sM113F hzf, b129_30, b129_33, pz_k0, pz_k1, pz_k2, pz_k3, pz_k4, pz_k5, pz_k6, pz_k7, pz_k8, pz_k9, pz_k10, pz_k16, pz_k31, pz_k63, pz_km, nI_add, pz_mul, nI_ltI, nI_eq, nI_clamp, pz_inI, Option.bind_some, Option.toList_some, Option.toList_none, List.cons_append, List.nil_append, Nat.zero_add, Nat.mul_zero, Nat.add_zero, Nat.lt_irrefl, pz_bb, pz_bTr, Bool.false_eq_true, pz_bFa, Nat.reduceEqDiff, Nat.reduceLT, ite_not, pz_mE, pz_mE2, pz_mL, pz_mG, not_true_eq_false, not_false_eq_true, if_true, if_false, reduceIte, eq_self, true_or, or_true, or_false, false_or, and_true, true_and, and_false, false_and]
    · have hyf : ¬ (¬ y < nI 0 ∧ ¬ nI (A 4 b 0) - nI 1 < y) := fun q => hy ((pz_rgM (by omega)).mp q)
      refine pz_two (laC := [some (.inr (.inr (1, 0))), some (.inl _), some (.inl _), some (.inl _), none]) (laM := [some (.inr (.inr (9, 0))), some (.inl _), some (.inl _), some (.inl _), none]) (by rw [show mm_mL 7 = 5 from by decide +kernel]; rfl) (by rw [show mm_mL 129 = 5 from by decide +kernel]; rfl) (r :=  -101) ?_ ?_ (pz_rd0 (LC' := LC) (LM' := LM) h)
      · rw [b7_0]
        by_cases hz : pz_rg z 6
        · simp (disch := omega) only [sC62 (by omega) hC.1, pz_bT hx', b7_8, b7_11, sC35, pz_bT hz, b7_15, b7_21, hb9, b7_30, sC75b hA hC hb hy, b7_34, b7_42, pz_k0, pz_k1, pz_k2, pz_k3, pz_k4, pz_k5, pz_k6, pz_k7, pz_k8, pz_k9, pz_k10, pz_k16, pz_k31, pz_k63, pz_km, nI_add, pz_mul, nI_ltI, nI_eq, nI_clamp, pz_inI, Option.bind_some, Option.toList_some, Option.toList_none, List.cons_append, List.nil_append, Nat.zero_add, Nat.mul_zero, Nat.add_zero, Nat.lt_irrefl, pz_bb, pz_bTr, Bool.false_eq_true, pz_bFa, Nat.reduceEqDiff, Nat.reduceLT, ite_not, pz_mE, pz_mE2, pz_mL, pz_mG, not_true_eq_false, not_false_eq_true, if_true, if_false, reduceIte, eq_self, true_or, or_true, or_false, false_or, and_true, true_and, and_false, false_and]
        · simp (disch := omega) only [sC62 (by omega) hC.1, pz_bT hx', b7_8, b7_11, sC35, pz_bF hz, b7_15, b7_18, pz_k0, pz_k1, pz_k2, pz_k3, pz_k4, pz_k5, pz_k6, pz_k7, pz_k8, pz_k9, pz_k10, pz_k16, pz_k31, pz_k63, pz_km, nI_add, pz_mul, nI_ltI, nI_eq, nI_clamp, pz_inI, Option.bind_some, Option.toList_some, Option.toList_none, List.cons_append, List.nil_append, Nat.zero_add, Nat.mul_zero, Nat.add_zero, Nat.lt_irrefl, pz_bb, pz_bTr, Bool.false_eq_true, pz_bFa, Nat.reduceEqDiff, Nat.reduceLT, ite_not, pz_mE, pz_mE2, pz_mL, pz_mG, not_true_eq_false, not_false_eq_true, if_true, if_false, reduceIte, eq_self, true_or, or_true, or_false, false_or, and_true, true_and, and_false, false_and]
      · rw [b129_0]
        simp (disch := omega) only [sM123 hA hM, pz_bT hx', b129_5, b129_8, hb9, d4, b129_16, sM113F hyf, b129_21, b129_33, pz_k0, pz_k1, pz_k2, pz_k3, pz_k4, pz_k5, pz_k6, pz_k7, pz_k8, pz_k9, pz_k10, pz_k16, pz_k31, pz_k63, pz_km, nI_add, pz_mul, nI_ltI, nI_eq, nI_clamp, pz_inI, Option.bind_some, Option.toList_some, Option.toList_none, List.cons_append, List.nil_append, Nat.zero_add, Nat.mul_zero, Nat.add_zero, Nat.lt_irrefl, pz_bb, pz_bTr, Bool.false_eq_true, pz_bFa, Nat.reduceEqDiff, Nat.reduceLT, ite_not, pz_mE, pz_mE2, pz_mL, pz_mG, not_true_eq_false, not_false_eq_true, if_true, if_false, reduceIte, eq_self, true_or, or_true, or_false, false_or, and_true, true_and, and_false, false_and]
  · refine pz_two (laC := [some (.inr (.inr (1, 0))), some (.inl _), some (.inl _), some (.inl _), none]) (laM := [some (.inr (.inr (9, 0))), some (.inl _), some (.inl _), some (.inl _), none]) (by rw [show mm_mL 7 = 5 from by decide +kernel]; rfl) (by rw [show mm_mL 129 = 5 from by decide +kernel]; rfl) (r :=  -101) ?_ ?_ (pz_rd0 (LC' := LC) (LM' := LM) h)
    · rw [b7_0]
      simp (disch := omega) only [sC62 (by omega) hC.1, pz_bF hx, b7_8, b7_18, pz_k0, pz_k1, pz_k2, pz_k3, pz_k4, pz_k5, pz_k6, pz_k7, pz_k8, pz_k9, pz_k10, pz_k16, pz_k31, pz_k63, pz_km, nI_add, pz_mul, nI_ltI, nI_eq, nI_clamp, pz_inI, Option.bind_some, Option.toList_some, Option.toList_none, List.cons_append, List.nil_append, Nat.zero_add, Nat.mul_zero, Nat.add_zero, Nat.lt_irrefl, pz_bb, pz_bTr, Bool.false_eq_true, pz_bFa, Nat.reduceEqDiff, Nat.reduceLT, ite_not, pz_mE, pz_mE2, pz_mL, pz_mG, not_true_eq_false, not_false_eq_true, if_true, if_false, reduceIte, eq_self, true_or, or_true, or_false, false_or, and_true, true_and, and_false, false_and]
    · rw [b129_0]
      simp (disch := omega) only [sM123 hA hM, pz_bF hx, b129_5, b129_33, pz_k0, pz_k1, pz_k2, pz_k3, pz_k4, pz_k5, pz_k6, pz_k7, pz_k8, pz_k9, pz_k10, pz_k16, pz_k31, pz_k63, pz_km, nI_add, pz_mul, nI_ltI, nI_eq, nI_clamp, pz_inI, Option.bind_some, Option.toList_some, Option.toList_none, List.cons_append, List.nil_append, Nat.zero_add, Nat.mul_zero, Nat.add_zero, Nat.lt_irrefl, pz_bb, pz_bTr, Bool.false_eq_true, pz_bFa, Nat.reduceEqDiff, Nat.reduceLT, ite_not, pz_mE, pz_mE2, pz_mL, pz_mG, not_true_eq_false, not_false_eq_true, if_true, if_false, reduceIte, eq_self, true_or, or_true, or_false, false_or, and_true, true_and, and_false, false_and]
end PZ55
