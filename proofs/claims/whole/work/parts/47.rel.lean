/-! the relation that every call keeps; loops with a state -/
theorem pz_loopP {X J : Type} (E : Nat → J → X) (P : Nat → J → Prop) : ∀ n : Nat, (∀ k j, k < n → P k j → ∃ j', E k j = E (k + 1) j' ∧ P (k + 1) j') → ∀ j, P 0 j → ∃ j', E 0 j = E n j' ∧ P n j'
  | 0, _, j, h => ⟨j, rfl, h⟩
  | n + 1, h, j, h0 => by
    obtain ⟨j1, h1, p1⟩ := pz_loopP E P n (fun k j hk => h k j (by omega)) j h0
    obtain ⟨j2, h2, p2⟩ := h n j1 (by omega) p1
    exact ⟨j2, h1.trans h2, p2⟩
def pz_pg (n : Nat) (f : Nat → Nat) (I J : mm_HI) : Prop := n ≤ 16 ∧ (∀ j, j < n → 1 ≤ f j ∧ f j ≤ 126) ∧ I 8 0 0 = nI n ∧ J 59 0 0 = nI n ∧ ∀ j, j < n → I 110 0 j = nI (f j) ∧ J 135 0 j = nI (f j)
def pz_im (ck : Nat) (A : pz_A) (I J : mm_HI) (κ : Nat → Nat) : Prop := ∃ B : pz_A, pz_wf ck B ∧ pz_C 1 B I κ ∧ pz_MK B J ∧ B 0 0 0 ≤ A 0 0 0 ∧ B 6 0 0 ≤ A 6 0 0
def pz_Q (k ck n g : Nat) (f : Nat → Nat) (A : pz_A) (κ : Nat → Nat) (I J : mm_HI) : Prop := (∀ i, κ i < 4) ∧ ck ≤ k ∧ J 55 0 0 = nI ck ∧ pz_wf ck A ∧ pz_C 0 A I κ ∧ pz_M A J ∧ pz_pg n f I J ∧ g ≤ 1 ∧ I 4 0 0 = nI g ∧ J 73 0 0 = nI g ∧ (g = 1 → pz_im ck A I J κ)
def pz_R (k : Nat) (hC hM : mm_H) : Prop := ∃ (ck n g : Nat) (f : Nat → Nat) (A : pz_A) (κ : Nat → Nat) (I J : mm_HI) (LC LM : mm_HL), hC = (mm_idC, I, LC, mm_RS κ) ∧ hM = (mm_idM, J, LM, mm_RM) ∧ pz_Q k ck n g f A κ I J
theorem pz_two {Z : mm_H → mm_H → Prop} {yC yM : Nat} {as : List mm_V} {hC hM hC' hM' : mm_H} {laC laM : List (Option mm_V)} {r : Int32} (e1 : mm_il (mm_mL yC) (.inr (.inr (1, 0)) :: as) = laC) (e2 : mm_il (mm_mL yM) (.inr (.inr (9, 0)) :: as) = laM) (h1 : mm_ev yC 0 laC [] hC = some (some (.inl r), hC')) (h2 : mm_ev yM 0 laM [] hM = some (some (.inl r), hM')) (hz : Z hC' hM') : lw_two Z yC yM as hC hM := ⟨r, hC', hM', by rw [e1]; exact h1, by rw [e2]; exact h2, hz⟩
theorem pz_win {x : Int32} {n : Nat} (hn : n < 2 ^ 31) (h : ¬ x < nI 0 ∧ ¬ nI n < x) : ∃ w, w ≤ n ∧ x = nI w := by
  obtain ⟨j, hj, rfl⟩ := nI_of h.1
  refine ⟨j, ?_, rfl⟩
  have := h.2
  rw [nI_ltI hn hj] at this
  omega
theorem pz_pg_fr {n : Nat} {f : Nat → Nat} {I J I' J' : mm_HI} (h : pz_pg n f I J) (h1 : I' 8 = I 8) (h2 : I' 110 = I 110) (h3 : J' 59 = J 59) (h4 : J' 135 = J 135) : pz_pg n f I' J' := by
  unfold pz_pg
  rw [h1, h2, h3, h4]
  exact h
section PZR
variable {k ck n g : Nat} {f : Nat → Nat} {A : pz_A} {κ : Nat → Nat} {I J I' J' : mm_HI} {LC LM LC' LM' : mm_HL}
theorem pz_Q_fr (h : pz_Q k ck n g f A κ I J) (hI : pz_fr I I') (hJ : pz_fr J J') : pz_Q (k + 1) ck n g f A κ I' J' := by
  obtain ⟨q1, q2, q3, q4, q5, q6, q7, q8, q9, q10, q11⟩ := h
  refine ⟨q1, by omega, by rw [hJ 55 rfl]; exact q3, q4, pz_C_fr hI q5, pz_M_fr hJ q6, pz_pg_fr q7 (hI 8 rfl) (hI 110 rfl) (hJ 59 rfl) (hJ 135 rfl), q8, by rw [hI 4 rfl]; exact q9, by rw [hJ 73 rfl]; exact q10, fun hg => ?_⟩
  obtain ⟨B, b1, b2, b3, b4⟩ := q11 hg
  exact ⟨B, b1, pz_C_fr hI b2, pz_MK_fr hJ b3, b4⟩
theorem pz_rdo (h : pz_Q k ck n g f A κ I J) (hI : pz_fr I I') (hJ : pz_fr J J') : pz_R (k + 1) (mm_idC, I', LC', mm_RS κ) (mm_idM, J', LM', mm_RM) := ⟨ck, n, g, f, A, κ, I', J', LC', LM', rfl, rfl, pz_Q_fr h hI hJ⟩
theorem pz_rd0 (h : pz_Q k ck n g f A κ I J) : pz_R (k + 1) (mm_idC, I, LC', mm_RS κ) (mm_idM, J, LM', mm_RM) := pz_rdo h pz_fr0 pz_fr0
theorem sM113T {ids : List (Nat × Nat)} {L : mm_HL} {x y z : Int32} (h : ¬ x < y ∧ ¬ z < x) : mm_ev 113 0 [some (.inl (x)), some (.inl (y)), some (.inl (z))] [] (ids, I, L, mm_RM) = some (some (.inl (nI 1)), (ids, I, L, mm_RM)) := by
  rw [sM113, pz_bT h]
theorem sM113F {ids : List (Nat × Nat)} {L : mm_HL} {x y z : Int32} (h : ¬ (¬ x < y ∧ ¬ z < x)) : mm_ev 113 0 [some (.inl (x)), some (.inl (y)), some (.inl (z))] [] (ids, I, L, mm_RM) = some (some (.inl (nI 0)), (ids, I, L, mm_RM)) := by
  rw [sM113, pz_bF h]
set_option maxRecDepth 1000000 in
theorem pz_oka1 : mm_idC.all (fun q => decide (q.1 = 3 → q.2 < 4)) = true := by decide +kernel
set_option maxRecDepth 1000000 in
theorem pz_oka2 : mm_idC.all (fun q => (mm_fs q.1).all (fun t => decide (t.2 = 2 → t.1 ≠ 16 → ((mm_RS (fun _ => 0) t.1 q.2 0).1 = 0 ∨ mm_RS (fun _ => 0) t.1 q.2 0 ∈ mm_idC)))) = true := by decide +kernel
set_option maxRecDepth 1000000 in
theorem pz_oka3 : mm_idC.all (fun q => decide (mm_kd q.1 ≠ 3) || (List.range (mm_ln q.1)).all (fun j => decide ((mm_RS (fun _ => 0) (100 + q.1) q.2 j).1 = 0 ∨ mm_RS (fun _ => 0) (100 + q.1) q.2 j ∈ mm_idC))) = true := by decide +kernel
set_option maxRecDepth 1000000 in
theorem pz_oka4 : ∀ i, i < 4 → (3, i) ∈ mm_idC := by decide +kernel
set_option maxRecDepth 1000000 in
theorem pz_okb1 : mm_idM.all (fun q => decide (q.1 = 3 → q.2 < 4)) = true := by decide +kernel
set_option maxRecDepth 1000000 in
theorem pz_okb2 : mm_idM.all (fun q => (mm_fs q.1).all (fun t => decide (t.2 = 2 → ((mm_RM t.1 q.2 0).1 = 0 ∨ mm_RM t.1 q.2 0 ∈ mm_idM)))) = true := by decide +kernel
set_option maxRecDepth 1000000 in
theorem pz_okb3 : mm_idM.all (fun q => decide (mm_kd q.1 ≠ 3) || (List.range (mm_ln q.1)).all (fun j => decide ((mm_RM (100 + q.1) q.2 j).1 = 0 ∨ mm_RM (100 + q.1) q.2 j ∈ mm_idM))) = true := by decide +kernel
theorem pz_okMM : mm_okH (mm_idM, J, LM, mm_RM) := by
  refine ⟨fun q hq => of_decide_eq_true (List.all_eq_true.mp pz_okb1 q hq), fun q hq t ht => ?_, fun q hq hk j hj => ?_⟩
  · exact of_decide_eq_true (List.all_eq_true.mp (List.all_eq_true.mp pz_okb2 q hq) t ht)
  · rcases Bool.or_eq_true_iff.mp (List.all_eq_true.mp pz_okb3 q hq) with h | h
    · exact absurd hk (of_decide_eq_true h)
    · exact of_decide_eq_true (List.all_eq_true.mp h j (List.mem_range.mpr hj))
theorem pz_RS_n {c i j : Nat} (h : c ≠ 16) : mm_RS κ c i j = mm_RS (fun _ => 0) c i j := by
  unfold mm_RS
  split <;> first | rfl | (exact absurd rfl h)
theorem pz_okCC (hκ : ∀ i, κ i < 4) : mm_okH (mm_idC, I, LC, mm_RS κ) := by
  refine ⟨fun q hq => of_decide_eq_true (List.all_eq_true.mp pz_oka1 q hq), fun q hq t ht ht2 => ?_, fun q hq hk j hj => ?_⟩
  · show (mm_RS κ t.1 q.2 0).1 = 0 ∨ mm_RS κ t.1 q.2 0 ∈ mm_idC
    by_cases hc : t.1 = 16
    · right
      rw [hc]
      exact pz_oka4 _ (hκ _)
    · rw [pz_RS_n hc]
      exact of_decide_eq_true (List.all_eq_true.mp (List.all_eq_true.mp pz_oka2 q hq) t ht) ht2 hc
  · show (mm_RS κ (100 + q.1) q.2 j).1 = 0 ∨ mm_RS κ (100 + q.1) q.2 j ∈ mm_idC
    rw [pz_RS_n (by omega)]
    rcases Bool.or_eq_true_iff.mp (List.all_eq_true.mp pz_oka3 q hq) with h | h
    · exact absurd hk (of_decide_eq_true h)
    · exact of_decide_eq_true (List.all_eq_true.mp h j (List.mem_range.mpr hj))
theorem pz_R_ids : ∀ k a b, pz_R k a b → lw_ids a b := by
  rintro k a b ⟨ck, n, g, f, A, κ, I, J, LC, LM, rfl, rfl, h⟩
  exact ⟨rfl, rfl, pz_okCC h.1, pz_okMM⟩
theorem pz_R_op0 : ∀ k hC hM, k < 64 → pz_R k hC hM → pz_R (k + 1) hC hM := by
  rintro k a b - ⟨ck, n, g, f, A, κ, I, J, LC, LM, rfl, rfl, h⟩
  exact pz_rd0 h
theorem pz_R_0 : pz_R 0 (mm_idC, mm_IC0, fun _ _ => 0, mm_RS (fun _ => 0)) (mm_idM, fun _ _ _ => 0, fun _ _ => 0, mm_RM) := by
  refine ⟨0, 0, 0, fun _ => 0, fun _ _ _ => 0, fun _ => 0, mm_IC0, fun _ _ _ => 0, fun _ _ => 0, fun _ _ => 0, rfl, rfl, fun _ => (by decide : 0 < 4), Nat.le_refl 0, rfl, ?_, ?_, ?_, ?_, by decide, rfl, rfl, fun h => absurd h (by decide)⟩
  · exact ⟨by decide, by decide, fun b hb => absurd hb (Nat.not_lt_zero b), by decide, fun b hb => absurd hb (Nat.not_lt_zero b), fun _ _ _ _ => (by decide : 0 ≤ 100), by decide, fun b hb => absurd hb (Nat.not_lt_zero b)⟩
  · exact ⟨rfl, fun b hb => absurd hb (Nat.not_lt_zero b), rfl, fun b hb => absurd hb (Nat.not_lt_zero b), fun _ _ _ _ => rfl, rfl, fun b hb => absurd hb (Nat.not_lt_zero b)⟩
  · exact ⟨rfl, fun b hb => absurd hb (Nat.not_lt_zero b), rfl, fun b hb => absurd hb (Nat.not_lt_zero b), fun _ _ _ _ => rfl, rfl, fun b hb => absurd hb (Nat.not_lt_zero b)⟩
  · exact ⟨by decide, fun b hb => absurd hb (Nat.not_lt_zero b), rfl, rfl, fun b hb => absurd hb (Nat.not_lt_zero b)⟩
end PZR
