/-! singers: what is forgotten, told, may -/
def pz_fgc (U : Nat → Nat) (o : Option Nat) (v : Nat) : Bool := match o with
  | none => true
  | some u => decide (U v < U u)
def pz_fg (K : Nat) (U : Nat → Nat) : Nat → Option Nat
  | 0 => none
  | v + 1 => if pz_bt K v = 1 ∧ pz_fgc U (pz_fg K U v) v = true then some v else pz_fg K U v
theorem pz_fg_s {K : Nat} {U : Nat → Nat} {v : Nat} : pz_fg K U (v + 1) = if pz_bt K v = 1 ∧ pz_fgc U (pz_fg K U v) v = true then some v else pz_fg K U v := rfl
def pz_oI (o : Option Nat) : Int32 := match o with
  | none => pz_m
  | some u => nI u
def pz_ou (U : Nat → Nat) (o : Option Nat) : Nat := match o with
  | none => 0
  | some u => U u
theorem pz_fg_lt {K : Nat} {U : Nat → Nat} : ∀ v u : Nat, pz_fg K U v = some u → u < v ∧ pz_bt K u = 1
  | 0, u, h => by cases h
  | v + 1, u, h => by
    rw [pz_fg_s] at h
    by_cases hc : pz_bt K v = 1 ∧ pz_fgc U (pz_fg K U v) v = true
    · rw [if_pos hc] at h
      cases h
      exact ⟨Nat.lt_succ_self _, hc.1⟩
    · rw [if_neg hc] at h
      have := pz_fg_lt v u h
      exact ⟨by omega, this.2⟩
theorem pz_fg_eq {K : Nat} {U V : Nat → Nat} (h : ∀ u v, u < 6 → v < 6 → pz_bt K u = 1 → pz_bt K v = 1 → (U u < U v ↔ V u < V v)) : ∀ v : Nat, v ≤ 6 → pz_fg K U v = pz_fg K V v
  | 0, _ => rfl
  | v + 1, hv => by
    have ih := pz_fg_eq h v (by omega)
    rw [pz_fg_s, pz_fg_s, ← ih]
    by_cases hb : pz_bt K v = 1
    · have hc : pz_fgc U (pz_fg K U v) v = pz_fgc V (pz_fg K U v) v := by
        cases hf : pz_fg K U v with
        | none => rfl
        | some u =>
          have := pz_fg_lt v u hf
          show decide (U v < U u) = decide (V v < V u)
          exact decide_eq_decide.mpr (h v u (by omega) (by omega) hb this.2)
      rw [hc]
    · rw [if_neg (fun z => hb z.1), if_neg (fun z => hb z.1)]
theorem pz_fg_some {K : Nat} {U : Nat → Nat} : ∀ v u : Nat, u < v → pz_bt K u = 1 → ∃ w, pz_fg K U v = some w
  | 0, u, hu, _ => by omega
  | v + 1, u, hu, hb => by
    rw [pz_fg_s]
    by_cases hc : pz_bt K v = 1 ∧ pz_fgc U (pz_fg K U v) v = true
    · rw [if_pos hc]
      exact ⟨v, rfl⟩
    · rw [if_neg hc]
      by_cases huv : u = v
      · subst huv
        cases hf : pz_fg K U u with
        | none => exact absurd ⟨hb, by rw [hf]; rfl⟩ hc
        | some w => exact ⟨w, rfl⟩
      · exact pz_fg_some v u (by omega) hb
noncomputable def pz_ps (A : pz_A) (s w : Nat) : Int32 := match w with
  | 0 => nI (A 7 s 0)
  | 1 => nI (A 8 s 0)
  | 2 => nI (A 9 s 0)
  | 3 => nI (A 10 s 0)
  | 4 => nI (A 11 s 0)
  | 5 => nI (A 12 s 0)
  | _ => pz_oI (pz_fg (A 8 s 0) (A 18 s) 6)
noncomputable def pz_my (A : pz_A) (s b : Nat) : Nat := @ite _ (pz_op A b (A 8 s 0)) (Classical.propDecidable _) (@ite _ (pz_at A b (A 7 s 0) ∧ pz_len A b ≤ A 9 s 0) (Classical.propDecidable _) 1 2) 0
section PZ49
variable {ids : List (Nat × Nat)} {I J : mm_HI} {L LC LM : mm_HL} {κ f : Nat → Nat} {A : pz_A} {k ck n g b v s : Nat}
theorem sC87 {K : Nat} (h23 : I 23 s 0 = nI K) (hK : K < 64) (hv : v < 6) : mm_ev 87 0 [some (.inr (.inr (6, s))), some (.inl (nI v))] [] (ids, I, L, mm_RS κ) = some (some (.inl (pz_b (pz_bt K v = 1))), (ids, I, L, mm_RS κ)) := by
  have hbt := pz_bt2 (v := K) (s := v)
  rw [b87_0]
  by_cases h : pz_bt K v = 1
  · rw [pz_bT h]
    simp (disch := omega) only [h23, pz_bit, h, b87_11, b87_16, pz_k0, pz_k1, pz_k2, pz_k3, pz_k4, pz_k5, pz_k6, pz_k7, pz_k8, pz_k9, pz_k10, pz_k16, pz_k31, pz_k63, pz_km, nI_add, pz_mul, nI_ltI, nI_eq, nI_clamp, pz_inI, Option.bind_some, Option.toList_some, Option.toList_none, List.cons_append, List.nil_append, Nat.zero_add, Nat.mul_zero, Nat.add_zero, Nat.lt_irrefl, pz_bb, pz_bTr, Bool.false_eq_true, pz_bFa, Nat.reduceEqDiff, Nat.reduceLT, ite_not, pz_mE, pz_mE2, pz_mL, pz_mG, not_true_eq_false, not_false_eq_true, if_true, if_false, reduceIte, eq_self, true_or, or_true, or_false, false_or, and_true, true_and, and_false, false_and]
  · rw [pz_bF h]
    simp (disch := omega) only [h23, pz_bit, show pz_bt K v = 0 by omega, b87_15, b87_16, pz_k0, pz_k1, pz_k2, pz_k3, pz_k4, pz_k5, pz_k6, pz_k7, pz_k8, pz_k9, pz_k10, pz_k16, pz_k31, pz_k63, pz_km, nI_add, pz_mul, nI_ltI, nI_eq, nI_clamp, pz_inI, Option.bind_some, Option.toList_some, Option.toList_none, List.cons_append, List.nil_append, Nat.zero_add, Nat.mul_zero, Nat.add_zero, Nat.lt_irrefl, pz_bb, pz_bTr, Bool.false_eq_true, pz_bFa, Nat.reduceEqDiff, Nat.reduceLT, ite_not, pz_mE, pz_mE2, pz_mL, pz_mG, not_true_eq_false, not_false_eq_true, if_true, if_false, reduceIte, eq_self, true_or, or_true, or_false, false_or, and_true, true_and, and_false, false_and]
/-- verseToForget, over any verses and uses -/
theorem sC88 {K : Nat} {U : Nat → Nat} (h23 : I 23 s 0 = nI K) (hK : K < 64) (hU : ∀ v, v < 6 → I 118 s v = nI (U v) ∧ U v ≤ 64) : mm_ev 88 0 [some (.inr (.inr (6, s))), none, none, none] [] (ids, I, L, mm_RS κ) = some (some (.inl (pz_oI (pz_fg K U 6))), (ids, I, L, mm_RS κ)) := by
  rw [b88_0]
  refine (pz_loop (fun v => mm_ev 88 6 [some (.inr (.inr (6, s))), some (.inl (pz_oI (pz_fg K U v))), some (.inl (nI (pz_ou U (pz_fg K U v)))), some (.inl (nI v))] [] (ids, I, L, mm_RS κ)) 6 (fun v hv => ?_)).trans ?_
  · try dsimp only
    obtain ⟨u1, u2⟩ := hU v hv
    rw [pz_fg_s]
    by_cases hb : pz_bt K v = 1
    · cases hf : pz_fg K U v with
      | none =>
        rw [if_pos ⟨hb, rfl⟩, b88_6]
        show _ = mm_ev 88 6 [some (.inr (.inr (6, s))), some (.inl (nI v)), some (.inl (nI (U v))), some (.inl (nI (v + 1)))] [] (ids, I, L, mm_RS κ)
        simp (disch := omega) only [hv, b88_12, sC87 h23 hK hv, pz_bT hb, b88_17, b88_20, show pz_oI none = pz_m from rfl, b88_35, u1, b88_43, b88_44, pz_k0, pz_k1, pz_k2, pz_k3, pz_k4, pz_k5, pz_k6, pz_k7, pz_k8, pz_k9, pz_k10, pz_k16, pz_k31, pz_k63, pz_km, nI_add, pz_mul, nI_ltI, nI_eq, nI_clamp, pz_inI, Option.bind_some, Option.toList_some, Option.toList_none, List.cons_append, List.nil_append, Nat.zero_add, Nat.mul_zero, Nat.add_zero, Nat.lt_irrefl, pz_bb, pz_bTr, Bool.false_eq_true, pz_bFa, Nat.reduceEqDiff, Nat.reduceLT, ite_not, pz_mE, pz_mE2, pz_mL, pz_mG, not_true_eq_false, not_false_eq_true, if_true, if_false, reduceIte, eq_self, true_or, or_true, or_false, false_or, and_true, true_and, and_false, false_and]
      | some u =>
        have hu := pz_fg_lt v u hf
        have hu2 := (hU u (by omega)).2
        by_cases hlt : U v < U u
        · rw [if_pos ⟨hb, decide_eq_true hlt⟩, b88_6]
          show _ = mm_ev 88 6 [some (.inr (.inr (6, s))), some (.inl (nI v)), some (.inl (nI (U v))), some (.inl (nI (v + 1)))] [] (ids, I, L, mm_RS κ)
          simp (disch := omega) only [hv, b88_12, sC87 h23 hK hv, pz_bT hb, b88_17, b88_20, show pz_oI (some u) = nI u from rfl, show pz_ou U (some u) = U u from rfl, b88_25, u1, b88_31, hlt, b88_35, b88_43, b88_44, pz_k0, pz_k1, pz_k2, pz_k3, pz_k4, pz_k5, pz_k6, pz_k7, pz_k8, pz_k9, pz_k10, pz_k16, pz_k31, pz_k63, pz_km, nI_add, pz_mul, nI_ltI, nI_eq, nI_clamp, pz_inI, Option.bind_some, Option.toList_some, Option.toList_none, List.cons_append, List.nil_append, Nat.zero_add, Nat.mul_zero, Nat.add_zero, Nat.lt_irrefl, pz_bb, pz_bTr, Bool.false_eq_true, pz_bFa, Nat.reduceEqDiff, Nat.reduceLT, ite_not, pz_mE, pz_mE2, pz_mL, pz_mG, not_true_eq_false, not_false_eq_true, if_true, if_false, reduceIte, eq_self, true_or, or_true, or_false, false_or, and_true, true_and, and_false, false_and]
        · rw [if_neg (fun z => hlt (of_decide_eq_true z.2)), b88_6]
          show _ = mm_ev 88 6 [some (.inr (.inr (6, s))), some (.inl (nI u)), some (.inl (nI (U u))), some (.inl (nI (v + 1)))] [] (ids, I, L, mm_RS κ)
          simp (disch := omega) only [hv, b88_12, sC87 h23 hK hv, pz_bT hb, b88_17, b88_20, show pz_oI (some u) = nI u from rfl, show pz_ou U (some u) = U u from rfl, b88_25, u1, b88_31, hlt, b88_44, pz_k0, pz_k1, pz_k2, pz_k3, pz_k4, pz_k5, pz_k6, pz_k7, pz_k8, pz_k9, pz_k10, pz_k16, pz_k31, pz_k63, pz_km, nI_add, pz_mul, nI_ltI, nI_eq, nI_clamp, pz_inI, Option.bind_some, Option.toList_some, Option.toList_none, List.cons_append, List.nil_append, Nat.zero_add, Nat.mul_zero, Nat.add_zero, Nat.lt_irrefl, pz_bb, pz_bTr, Bool.false_eq_true, pz_bFa, Nat.reduceEqDiff, Nat.reduceLT, ite_not, pz_mE, pz_mE2, pz_mL, pz_mG, not_true_eq_false, not_false_eq_true, if_true, if_false, reduceIte, eq_self, true_or, or_true, or_false, false_or, and_true, true_and, and_false, false_and]
    · rw [if_neg (fun z => hb z.1), b88_6]
      simp (disch := omega) only [hv, b88_12, sC87 h23 hK hv, pz_bF hb, b88_17, b88_44, pz_k0, pz_k1, pz_k2, pz_k3, pz_k4, pz_k5, pz_k6, pz_k7, pz_k8, pz_k9, pz_k10, pz_k16, pz_k31, pz_k63, pz_km, nI_add, pz_mul, nI_ltI, nI_eq, nI_clamp, pz_inI, Option.bind_some, Option.toList_some, Option.toList_none, List.cons_append, List.nil_append, Nat.zero_add, Nat.mul_zero, Nat.add_zero, Nat.lt_irrefl, pz_bb, pz_bTr, Bool.false_eq_true, pz_bFa, Nat.reduceEqDiff, Nat.reduceLT, ite_not, pz_mE, pz_mE2, pz_mL, pz_mG, not_true_eq_false, not_false_eq_true, if_true, if_false, reduceIte, eq_self, true_or, or_true, or_false, false_or, and_true, true_and, and_false, false_and]
  · try dsimp only
    rw [b88_6]
    simp (disch := omega) only [b88_50, pz_k0, pz_k1, pz_k2, pz_k3, pz_k4, pz_k5, pz_k6, pz_k7, pz_k8, pz_k9, pz_k10, pz_k16, pz_k31, pz_k63, pz_km, nI_add, pz_mul, nI_ltI, nI_eq, nI_clamp, pz_inI, Option.bind_some, Option.toList_some, Option.toList_none, List.cons_append, List.nil_append, Nat.zero_add, Nat.mul_zero, Nat.add_zero, Nat.lt_irrefl, pz_bb, pz_bTr, Bool.false_eq_true, pz_bFa, Nat.reduceEqDiff, Nat.reduceLT, ite_not, pz_mE, pz_mE2, pz_mL, pz_mG, not_true_eq_false, not_false_eq_true, if_true, if_false, reduceIte, eq_self, true_or, or_true, or_false, false_or, and_true, true_and, and_false, false_and]
/-- forgets -/
theorem sM136 {K : Nat} {U : Nat → Nat} (hs : s < 5) (h127 : I 127 0 s = nI K) (hK : K < 64) (hU : ∀ v, v < 6 → I 132 0 (6 * s + v) = nI (U v) ∧ U v ≤ 64) : mm_ev 136 0 [some (.inr (.inr (9, 0))), some (.inl (nI s)), none, none, none] [] (ids, I, L, mm_RM) = some (some (.inl (pz_oI (pz_fg K U 6))), (ids, I, L, mm_RM)) := by
  rw [b136_0]
  have hl := pz_loopJ (fun v (j : Option mm_V) => mm_ev 136 4 [some (.inr (.inr (9, 0))), some (.inl (nI s)), some (.inl (pz_oI (pz_fg K U v))), some (.inl (nI v)), j] [] (ids, I, L, mm_RM)) 6 (fun v j hv => ?_) none
  · obtain ⟨j, hj⟩ := hl
    refine Eq.trans hj ?_
    rw [b136_4]
    simp (disch := omega) only [b136_85, pz_k0, pz_k1, pz_k2, pz_k3, pz_k4, pz_k5, pz_k6, pz_k7, pz_k8, pz_k9, pz_k10, pz_k16, pz_k31, pz_k63, pz_km, nI_add, pz_mul, nI_ltI, nI_eq, nI_clamp, pz_inI, Option.bind_some, Option.toList_some, Option.toList_none, List.cons_append, List.nil_append, Nat.zero_add, Nat.mul_zero, Nat.add_zero, Nat.lt_irrefl, pz_bb, pz_bTr, Bool.false_eq_true, pz_bFa, Nat.reduceEqDiff, Nat.reduceLT, ite_not, pz_mE, pz_mE2, pz_mL, pz_mG, not_true_eq_false, not_false_eq_true, if_true, if_false, reduceIte, eq_self, true_or, or_true, or_false, false_or, and_true, true_and, and_false, false_and]
  · try dsimp only
    obtain ⟨u1, u2⟩ := hU v hv
    have hK' : K < 512 := by omega
    have hv' : v < 10 := by omega
    rw [pz_fg_s]
    cases hf : pz_fg K U v with
    | none =>
      refine ⟨some (.inl (nI 1)), ?_⟩
      by_cases hb : pz_bt K v = 1
      · rw [if_pos ⟨hb, rfl⟩, b136_4]
        simp (disch := omega) only [hv, b136_10, show pz_oI none = pz_m from rfl, show pz_oI (some v) = nI v from rfl, b136_48, b136_53, hs, h127, b136_61, sM114 hK' hv', pz_bT hb, b136_65, b136_68, b136_73, b136_78, pz_k0, pz_k1, pz_k2, pz_k3, pz_k4, pz_k5, pz_k6, pz_k7, pz_k8, pz_k9, pz_k10, pz_k16, pz_k31, pz_k63, pz_km, nI_add, pz_mul, nI_ltI, nI_eq, nI_clamp, pz_inI, Option.bind_some, Option.toList_some, Option.toList_none, List.cons_append, List.nil_append, Nat.zero_add, Nat.mul_zero, Nat.add_zero, Nat.lt_irrefl, pz_bb, pz_bTr, Bool.false_eq_true, pz_bFa, Nat.reduceEqDiff, Nat.reduceLT, ite_not, pz_mE, pz_mE2, pz_mL, pz_mG, not_true_eq_false, not_false_eq_true, if_true, if_false, reduceIte, eq_self, true_or, or_true, or_false, false_or, and_true, true_and, and_false, false_and]
      · rw [if_neg (fun z => hb z.1), b136_4]
        simp (disch := omega) only [hv, b136_10, show pz_oI none = pz_m from rfl, b136_48, b136_53, hs, h127, b136_61, sM114 hK' hv', pz_bF hb, b136_65, b136_77, b136_78, pz_k0, pz_k1, pz_k2, pz_k3, pz_k4, pz_k5, pz_k6, pz_k7, pz_k8, pz_k9, pz_k10, pz_k16, pz_k31, pz_k63, pz_km, nI_add, pz_mul, nI_ltI, nI_eq, nI_clamp, pz_inI, Option.bind_some, Option.toList_some, Option.toList_none, List.cons_append, List.nil_append, Nat.zero_add, Nat.mul_zero, Nat.add_zero, Nat.lt_irrefl, pz_bb, pz_bTr, Bool.false_eq_true, pz_bFa, Nat.reduceEqDiff, Nat.reduceLT, ite_not, pz_mE, pz_mE2, pz_mL, pz_mG, not_true_eq_false, not_false_eq_true, if_true, if_false, reduceIte, eq_self, true_or, or_true, or_false, false_or, and_true, true_and, and_false, false_and]
    | some u =>
      have hu := pz_fg_lt v u hf
      obtain ⟨w1, w2⟩ := hU u (by omega)
      by_cases hlt : U v < U u
      · refine ⟨some (.inl (nI 1)), ?_⟩
        by_cases hb : pz_bt K v = 1
        · rw [if_pos ⟨hb, decide_eq_true hlt⟩, b136_4]
          simp (disch := omega) only [hv, b136_10, show pz_oI (some u) = nI u from rfl, show pz_oI (some v) = nI v from rfl, b136_15, show 6 * s + v < 30 by omega, u1, b136_26, Nat.not_lt_zero, b136_42, b136_43, show 6 * s + u < 30 by omega, w1, b136_45, hlt, b136_48, b136_53, hs, h127, b136_61, sM114 hK' hv', pz_bT hb, b136_65, b136_68, b136_73, b136_78, pz_k0, pz_k1, pz_k2, pz_k3, pz_k4, pz_k5, pz_k6, pz_k7, pz_k8, pz_k9, pz_k10, pz_k16, pz_k31, pz_k63, pz_km, nI_add, pz_mul, nI_ltI, nI_eq, nI_clamp, pz_inI, Option.bind_some, Option.toList_some, Option.toList_none, List.cons_append, List.nil_append, Nat.zero_add, Nat.mul_zero, Nat.add_zero, Nat.lt_irrefl, pz_bb, pz_bTr, Bool.false_eq_true, pz_bFa, Nat.reduceEqDiff, Nat.reduceLT, ite_not, pz_mE, pz_mE2, pz_mL, pz_mG, not_true_eq_false, not_false_eq_true, if_true, if_false, reduceIte, eq_self, true_or, or_true, or_false, false_or, and_true, true_and, and_false, false_and]
        · rw [if_neg (fun z => hb z.1), b136_4]
          simp (disch := omega) only [hv, b136_10, show pz_oI (some u) = nI u from rfl, b136_15, show 6 * s + v < 30 by omega, u1, b136_26, Nat.not_lt_zero, b136_42, b136_43, show 6 * s + u < 30 by omega, w1, b136_45, hlt, b136_48, b136_53, hs, h127, b136_61, sM114 hK' hv', pz_bF hb, b136_65, b136_77, b136_78, pz_k0, pz_k1, pz_k2, pz_k3, pz_k4, pz_k5, pz_k6, pz_k7, pz_k8, pz_k9, pz_k10, pz_k16, pz_k31, pz_k63, pz_km, nI_add, pz_mul, nI_ltI, nI_eq, nI_clamp, pz_inI, Option.bind_some, Option.toList_some, Option.toList_none, List.cons_append, List.nil_append, Nat.zero_add, Nat.mul_zero, Nat.add_zero, Nat.lt_irrefl, pz_bb, pz_bTr, Bool.false_eq_true, pz_bFa, Nat.reduceEqDiff, Nat.reduceLT, ite_not, pz_mE, pz_mE2, pz_mL, pz_mG, not_true_eq_false, not_false_eq_true, if_true, if_false, reduceIte, eq_self, true_or, or_true, or_false, false_or, and_true, true_and, and_false, false_and]
      · refine ⟨some (.inl (nI 0)), ?_⟩
        rw [if_neg (fun z => hlt (of_decide_eq_true z.2)), b136_4]
        by_cases hb : pz_bt K v = 1
        · simp (disch := omega) only [hv, b136_10, show pz_oI (some u) = nI u from rfl, b136_15, show 6 * s + v < 30 by omega, u1, b136_26, Nat.not_lt_zero, b136_42, b136_43, show 6 * s + u < 30 by omega, w1, b136_45, hlt, b136_52, b136_53, hs, h127, b136_61, sM114 hK' hv', pz_bT hb, b136_65, b136_68, b136_77, b136_78, pz_k0, pz_k1, pz_k2, pz_k3, pz_k4, pz_k5, pz_k6, pz_k7, pz_k8, pz_k9, pz_k10, pz_k16, pz_k31, pz_k63, pz_km, nI_add, pz_mul, nI_ltI, nI_eq, nI_clamp, pz_inI, Option.bind_some, Option.toList_some, Option.toList_none, List.cons_append, List.nil_append, Nat.zero_add, Nat.mul_zero, Nat.add_zero, Nat.lt_irrefl, pz_bb, pz_bTr, Bool.false_eq_true, pz_bFa, Nat.reduceEqDiff, Nat.reduceLT, ite_not, pz_mE, pz_mE2, pz_mL, pz_mG, not_true_eq_false, not_false_eq_true, if_true, if_false, reduceIte, eq_self, true_or, or_true, or_false, false_or, and_true, true_and, and_false, false_and]
        · simp (disch := omega) only [hv, b136_10, show pz_oI (some u) = nI u from rfl, b136_15, show 6 * s + v < 30 by omega, u1, b136_26, Nat.not_lt_zero, b136_42, b136_43, show 6 * s + u < 30 by omega, w1, b136_45, hlt, b136_52, b136_53, hs, h127, b136_61, sM114 hK' hv', pz_bF hb, b136_65, b136_77, b136_78, pz_k0, pz_k1, pz_k2, pz_k3, pz_k4, pz_k5, pz_k6, pz_k7, pz_k8, pz_k9, pz_k10, pz_k16, pz_k31, pz_k63, pz_km, nI_add, pz_mul, nI_ltI, nI_eq, nI_clamp, pz_inI, Option.bind_some, Option.toList_some, Option.toList_none, List.cons_append, List.nil_append, Nat.zero_add, Nat.mul_zero, Nat.add_zero, Nat.lt_irrefl, pz_bb, pz_bTr, Bool.false_eq_true, pz_bFa, Nat.reduceEqDiff, Nat.reduceLT, ite_not, pz_mE, pz_mE2, pz_mL, pz_mG, not_true_eq_false, not_false_eq_true, if_true, if_false, reduceIte, eq_self, true_or, or_true, or_false, false_or, and_true, true_and, and_false, false_and]
theorem pz_fgA (hA : pz_wf ck A) (hs : s < A 6 0 0) : pz_fg (A 8 s 0) (A 18 s) 6 = pz_fg (A 8 s 0) (A 20 s) 6 := by
  obtain ⟨-, -, -, -, -, -, -, -, -, h⟩ := hA.2.2.2.2.1 s hs
  exact pz_fg_eq h 6 (Nat.le_refl 6)
theorem sC86 {w : Nat} (hA : pz_wf ck A) (hC : pz_C 0 A I κ) (hs : s < A 6 0 0) (hw : w ≤ 6) : mm_ev 86 0 [some (.inr (.inr (6, s))), some (.inl (nI w))] [] (ids, I, L, mm_RS κ) = some (some (.inl (pz_ps A s w)), (ids, I, L, mm_RS κ)) := by
  obtain ⟨-, a8, -, -, -, -, -, a19, a18, -⟩ := hA.2.2.2.2.1 s hs
  obtain ⟨c1, c2, c3, c4, c5, c6, c7, c8⟩ := pz_C0s hC hs
  have hck := hA.1
  match w, hw with
  | 0, _ =>
    rw [b86_0, show mm_ts 70 0 [40, 45, 50, 55, 60, 65] (nI 0) = 40 from by decide +kernel, b86_40, c1]
    rfl
  | 1, _ =>
    rw [b86_0, show mm_ts 70 0 [40, 45, 50, 55, 60, 65] (nI 1) = 45 from by decide +kernel, b86_45, c2]
    rfl
  | 2, _ =>
    rw [b86_0, show mm_ts 70 0 [40, 45, 50, 55, 60, 65] (nI 2) = 50 from by decide +kernel, b86_50, c3]
    rfl
  | 3, _ =>
    rw [b86_0, show mm_ts 70 0 [40, 45, 50, 55, 60, 65] (nI 3) = 55 from by decide +kernel, b86_55, c4]
    rfl
  | 4, _ =>
    rw [b86_0, show mm_ts 70 0 [40, 45, 50, 55, 60, 65] (nI 4) = 60 from by decide +kernel, b86_60, c5]
    rfl
  | 5, _ =>
    rw [b86_0, show mm_ts 70 0 [40, 45, 50, 55, 60, 65] (nI 5) = 65 from by decide +kernel, b86_65, c6]
    rfl
  | 6, _ =>
    rw [b86_0, show mm_ts 70 0 [40, 45, 50, 55, 60, 65] (nI 6) = 70 from by decide +kernel, b86_70, sC88 c2 a8 (fun v hv => ⟨c8 v hv, by have := (a18 v hv).1; omega⟩)]
    exact b86_74 ..
  | w + 7, h => omega
theorem sM137 {w : Nat} (hA : pz_wf ck A) (hM : pz_M A I) (hs : s < A 6 0 0) (hw : w ≤ 6) : mm_ev 137 0 [some (.inr (.inr (9, 0))), some (.inl (nI s)), some (.inl (nI w))] [] (ids, I, L, mm_RM) = some (some (.inl (pz_ps A s w)), (ids, I, L, mm_RM)) := by
  obtain ⟨-, a8, -, -, -, -, -, a19, a18, -⟩ := hA.2.2.2.2.1 s hs
  obtain ⟨c1, c2, c3, c4, c5, c6, c7⟩ := pz_M0s hM hs
  have hck := hA.1
  have h5 := hA.2.2.2.1
  have hin : mm_in (nI s) 5 = true := (pz_inI (by omega)).mpr (by omega)
  have hcl : (nI s).toNatClampNeg = s := nI_clamp (by omega)
  match w, hw with
  | 0, _ =>
    rw [b137_0, show mm_ts 82 0 [40, 47, 54, 61, 68, 75] (nI 0) = 40 from by decide +kernel, b137_40, if_pos hin, hcl, c1]
    exact b137_46 ..
  | 1, _ =>
    rw [b137_0, show mm_ts 82 0 [40, 47, 54, 61, 68, 75] (nI 1) = 47 from by decide +kernel, b137_47, if_pos hin, hcl, c2]
    exact b137_53 ..
  | 2, _ =>
    rw [b137_0, show mm_ts 82 0 [40, 47, 54, 61, 68, 75] (nI 2) = 54 from by decide +kernel, b137_54, if_pos hin, hcl, c3]
    exact b137_60 ..
  | 3, _ =>
    rw [b137_0, show mm_ts 82 0 [40, 47, 54, 61, 68, 75] (nI 3) = 61 from by decide +kernel, b137_61, if_pos hin, hcl, c4]
    exact b137_67 ..
  | 4, _ =>
    rw [b137_0, show mm_ts 82 0 [40, 47, 54, 61, 68, 75] (nI 4) = 68 from by decide +kernel, b137_68, if_pos hin, hcl, c5]
    exact b137_74 ..
  | 5, _ =>
    rw [b137_0, show mm_ts 82 0 [40, 47, 54, 61, 68, 75] (nI 5) = 75 from by decide +kernel, b137_75, if_pos hin, hcl, c6]
    exact b137_81 ..
  | 6, _ =>
    rw [b137_0, show mm_ts 82 0 [40, 47, 54, 61, 68, 75] (nI 6) = 82 from by decide +kernel, b137_82, sM136 (by omega) c2 a8 (fun v hv => ⟨c7 v hv, by have := (a18 v hv).2; omega⟩), ← pz_fgA hA hs]
    exact b137_87 ..
  | w + 7, h => omega
theorem op10 (h : pz_Q k ck n g f A κ I J) (x y : Int32) : lw_two (pz_R (k + 1)) 10 138 [.inl x, .inl y] (mm_idC, I, LC, mm_RS κ) (mm_idM, J, LM, mm_RM) := by
  obtain ⟨-, -, -, hA, hC, hM, -⟩ := id h
  have h5 := hA.2.2.2.1
  by_cases hx : pz_rg x (A 6 0 0)
  · have hx' := hx
    obtain ⟨s, hs, rfl⟩ := hx
    by_cases hy : ¬ y < nI 0 ∧ ¬ nI 6 < y
    · have hy' := hy
      obtain ⟨w, hw, rfl⟩ := pz_win (by decide) hy
      refine pz_two (laC := [some (.inr (.inr (1, 0))), some (.inl _), some (.inl _)]) (laM := [some (.inr (.inr (9, 0))), some (.inl _), some (.inl _)]) (by rw [show mm_mL 10 = 3 from by decide +kernel]; rfl) (by rw [show mm_mL 138 = 3 from by decide +kernel]; rfl) (r :=  pz_ps A s w) ?_ ?_ (pz_rd0 (LC' := LC) (LM' := LM) h)
      · rw [b10_0]
        simp (disch := omega) only [sC63 (by omega) hC.2.2.1, pz_bT hx', b10_8, b10_14, Nat.not_lt_zero, b10_18, show ¬ 6 < w by omega, b10_27, show s < 5 by omega, b10_36, sC86 hA hC hs hw, b10_40, pz_k0, pz_k1, pz_k2, pz_k3, pz_k4, pz_k5, pz_k6, pz_k7, pz_k8, pz_k9, pz_k10, pz_k16, pz_k31, pz_k63, pz_km, nI_add, pz_mul, nI_ltI, nI_eq, nI_clamp, pz_inI, Option.bind_some, Option.toList_some, Option.toList_none, List.cons_append, List.nil_append, Nat.zero_add, Nat.mul_zero, Nat.add_zero, Nat.lt_irrefl, pz_bb, pz_bTr, Bool.false_eq_true, pz_bFa, Nat.reduceEqDiff, Nat.reduceLT, ite_not, pz_mE, pz_mE2, pz_mL, pz_mG, not_true_eq_false, not_false_eq_true, if_true, if_false, reduceIte, eq_self, true_or, or_true, or_false, false_or, and_true, true_and, and_false, false_and]
      · rw [b138_0]
        simp (disch := omega) only [sM134 hA hM, pz_bT hx', b138_5, b138_13, sM113T hy', b138_20, b138_23, sM137 hA hM hs hw, b138_29, b138_34, pz_k0, pz_k1, pz_k2, pz_k3, pz_k4, pz_k5, pz_k6, pz_k7, pz_k8, pz_k9, pz_k10, pz_k16, pz_k31, pz_k63, pz_km, nI_add, pz_mul, nI_ltI, nI_eq, nI_clamp, pz_inI, Option.bind_some, Option.toList_some, Option.toList_none, List.cons_append, List.nil_append, Nat.zero_add, Nat.mul_zero, Nat.add_zero, Nat.lt_irrefl, pz_bb, pz_bTr, Bool.false_eq_true, pz_bFa, Nat.reduceEqDiff, Nat.reduceLT, ite_not, pz_mE, pz_mE2, pz_mL, pz_mG, not_true_eq_false, not_false_eq_true, if_true, if_false, reduceIte, eq_self, true_or, or_true, or_false, false_or, and_true, true_and, and_false, false_and]
    · refine pz_two (laC := [some (.inr (.inr (1, 0))), some (.inl _), some (.inl _)]) (laM := [some (.inr (.inr (9, 0))), some (.inl _), some (.inl _)]) (by rw [show mm_mL 10 = 3 from by decide +kernel]; rfl) (by rw [show mm_mL 138 = 3 from by decide +kernel]; rfl) (r :=  -102) ?_ ?_ (pz_rd0 (LC' := LC) (LM' := LM) h)
      · rw [b10_0]
        by_cases h1 : y < nI 0
        · simp (disch := omega) only [sC63 (by omega) hC.2.2.1, pz_bT hx', b10_8, b10_14, h1, b10_24, pz_k0, pz_k1, pz_k2, pz_k3, pz_k4, pz_k5, pz_k6, pz_k7, pz_k8, pz_k9, pz_k10, pz_k16, pz_k31, pz_k63, pz_km, nI_add, pz_mul, nI_ltI, nI_eq, nI_clamp, pz_inI, Option.bind_some, Option.toList_some, Option.toList_none, List.cons_append, List.nil_append, Nat.zero_add, Nat.mul_zero, Nat.add_zero, Nat.lt_irrefl, pz_bb, pz_bTr, Bool.false_eq_true, pz_bFa, Nat.reduceEqDiff, Nat.reduceLT, ite_not, pz_mE, pz_mE2, pz_mL, pz_mG, not_true_eq_false, not_false_eq_true, if_true, if_false, reduceIte, eq_self, true_or, or_true, or_false, false_or, and_true, true_and, and_false, false_and]
        · have h2 : nI 6 < y := by
            refine Classical.byContradiction (fun z => hy ⟨h1, z⟩)
          simp (disch := omega) only [sC63 (by omega) hC.2.2.1, pz_bT hx', b10_8, b10_14, h1, b10_18, h2, b10_24, pz_k0, pz_k1, pz_k2, pz_k3, pz_k4, pz_k5, pz_k6, pz_k7, pz_k8, pz_k9, pz_k10, pz_k16, pz_k31, pz_k63, pz_km, nI_add, pz_mul, nI_ltI, nI_eq, nI_clamp, pz_inI, Option.bind_some, Option.toList_some, Option.toList_none, List.cons_append, List.nil_append, Nat.zero_add, Nat.mul_zero, Nat.add_zero, Nat.lt_irrefl, pz_bb, pz_bTr, Bool.false_eq_true, pz_bFa, Nat.reduceEqDiff, Nat.reduceLT, ite_not, pz_mE, pz_mE2, pz_mL, pz_mG, not_true_eq_false, not_false_eq_true, if_true, if_false, reduceIte, eq_self, true_or, or_true, or_false, false_or, and_true, true_and, and_false, false_and]
      · rw [b138_0]
        simp (disch := omega) only [sM134 hA hM, pz_bT hx', b138_5, b138_13, sM113F hy, b138_20, b138_32, b138_34, pz_k0, pz_k1, pz_k2, pz_k3, pz_k4, pz_k5, pz_k6, pz_k7, pz_k8, pz_k9, pz_k10, pz_k16, pz_k31, pz_k63, pz_km, nI_add, pz_mul, nI_ltI, nI_eq, nI_clamp, pz_inI, Option.bind_some, Option.toList_some, Option.toList_none, List.cons_append, List.nil_append, Nat.zero_add, Nat.mul_zero, Nat.add_zero, Nat.lt_irrefl, pz_bb, pz_bTr, Bool.false_eq_true, pz_bFa, Nat.reduceEqDiff, Nat.reduceLT, ite_not, pz_mE, pz_mE2, pz_mL, pz_mG, not_true_eq_false, not_false_eq_true, if_true, if_false, reduceIte, eq_self, true_or, or_true, or_false, false_or, and_true, true_and, and_false, false_and]
  · refine pz_two (laC := [some (.inr (.inr (1, 0))), some (.inl _), some (.inl _)]) (laM := [some (.inr (.inr (9, 0))), some (.inl _), some (.inl _)]) (by rw [show mm_mL 10 = 3 from by decide +kernel]; rfl) (by rw [show mm_mL 138 = 3 from by decide +kernel]; rfl) (r :=  -101) ?_ ?_ (pz_rd0 (LC' := LC) (LM' := LM) h)
    · rw [b10_0]
      simp (disch := omega) only [sC63 (by omega) hC.2.2.1, pz_bF hx, b10_8, b10_11, pz_k0, pz_k1, pz_k2, pz_k3, pz_k4, pz_k5, pz_k6, pz_k7, pz_k8, pz_k9, pz_k10, pz_k16, pz_k31, pz_k63, pz_km, nI_add, pz_mul, nI_ltI, nI_eq, nI_clamp, pz_inI, Option.bind_some, Option.toList_some, Option.toList_none, List.cons_append, List.nil_append, Nat.zero_add, Nat.mul_zero, Nat.add_zero, Nat.lt_irrefl, pz_bb, pz_bTr, Bool.false_eq_true, pz_bFa, Nat.reduceEqDiff, Nat.reduceLT, ite_not, pz_mE, pz_mE2, pz_mL, pz_mG, not_true_eq_false, not_false_eq_true, if_true, if_false, reduceIte, eq_self, true_or, or_true, or_false, false_or, and_true, true_and, and_false, false_and]
    · rw [b138_0]
      simp (disch := omega) only [sM134 hA hM, pz_bF hx, b138_5, b138_8, b138_34, pz_k0, pz_k1, pz_k2, pz_k3, pz_k4, pz_k5, pz_k6, pz_k7, pz_k8, pz_k9, pz_k10, pz_k16, pz_k31, pz_k63, pz_km, nI_add, pz_mul, nI_ltI, nI_eq, nI_clamp, pz_inI, Option.bind_some, Option.toList_some, Option.toList_none, List.cons_append, List.nil_append, Nat.zero_add, Nat.mul_zero, Nat.add_zero, Nat.lt_irrefl, pz_bb, pz_bTr, Bool.false_eq_true, pz_bFa, Nat.reduceEqDiff, Nat.reduceLT, ite_not, pz_mE, pz_mE2, pz_mL, pz_mG, not_true_eq_false, not_false_eq_true, if_true, if_false, reduceIte, eq_self, true_or, or_true, or_false, false_or, and_true, true_and, and_false, false_and]
/-- may -/
theorem sC12 (hA : pz_wf ck A) (hC : pz_C 0 A I κ) (hs : s < A 6 0 0) (hb : b < A 0 0 0) : mm_ev 12 0 [some (.inr (.inr (1, 0))), some (.inl (nI s)), some (.inl (nI b)), none, none] [] (ids, I, L, mm_RS κ) = some (some (.inl (nI (pz_my A s b))), (ids, I, L, mm_RS κ)) := by
  have h9 := hA.2.1
  have h5 := hA.2.2.2.1
  obtain ⟨a7, a8, a9, -⟩ := hA.2.2.2.2.1 s hs
  obtain ⟨c1, c2, c3, -⟩ := pz_C0s hC hs
  have hxs : pz_rg (nI s) (A 6 0 0) := ⟨s, hs, rfl⟩
  have hxb : pz_rg (nI b) (A 0 0 0) := ⟨b, hb, rfl⟩
  unfold pz_my
  rw [b12_0]
  by_cases ho : pz_op A b (A 8 s 0)
  · rw [if_pos ho]
    by_cases ha : pz_at A b (A 7 s 0) ∧ pz_len A b ≤ A 9 s 0
    · rw [if_pos ha]
      simp (disch := omega) only [sC63 (by omega) hC.2.2.1, pz_bT hxs, b12_8, b12_11, sC62 (by omega) hC.1, pz_bT hxb, b12_19, b12_25, show s < 5 by omega, b12_34, show b < 9 by omega, b12_44, c2, sC78 hA hC hb a8, pz_bT ho, b12_55, b12_60, c1, c3, sC80 hA hC hb a7 (show A 9 s 0 < 2 ^ 31 by omega), pz_bT ha, b12_73, b12_76, b12_81, pz_k0, pz_k1, pz_k2, pz_k3, pz_k4, pz_k5, pz_k6, pz_k7, pz_k8, pz_k9, pz_k10, pz_k16, pz_k31, pz_k63, pz_km, nI_add, pz_mul, nI_ltI, nI_eq, nI_clamp, pz_inI, Option.bind_some, Option.toList_some, Option.toList_none, List.cons_append, List.nil_append, Nat.zero_add, Nat.mul_zero, Nat.add_zero, Nat.lt_irrefl, pz_bb, pz_bTr, Bool.false_eq_true, pz_bFa, Nat.reduceEqDiff, Nat.reduceLT, ite_not, pz_mE, pz_mE2, pz_mL, pz_mG, not_true_eq_false, not_false_eq_true, if_true, if_false, reduceIte, eq_self, true_or, or_true, or_false, false_or, and_true, true_and, and_false, false_and]
    · rw [if_neg ha]
      simp (disch := omega) only [sC63 (by omega) hC.2.2.1, pz_bT hxs, b12_8, b12_11, sC62 (by omega) hC.1, pz_bT hxb, b12_19, b12_25, show s < 5 by omega, b12_34, show b < 9 by omega, b12_44, c2, sC78 hA hC hb a8, pz_bT ho, b12_55, b12_60, c1, c3, sC80 hA hC hb a7 (show A 9 s 0 < 2 ^ 31 by omega), pz_bF ha, b12_73, b12_80, b12_81, pz_k0, pz_k1, pz_k2, pz_k3, pz_k4, pz_k5, pz_k6, pz_k7, pz_k8, pz_k9, pz_k10, pz_k16, pz_k31, pz_k63, pz_km, nI_add, pz_mul, nI_ltI, nI_eq, nI_clamp, pz_inI, Option.bind_some, Option.toList_some, Option.toList_none, List.cons_append, List.nil_append, Nat.zero_add, Nat.mul_zero, Nat.add_zero, Nat.lt_irrefl, pz_bb, pz_bTr, Bool.false_eq_true, pz_bFa, Nat.reduceEqDiff, Nat.reduceLT, ite_not, pz_mE, pz_mE2, pz_mL, pz_mG, not_true_eq_false, not_false_eq_true, if_true, if_false, reduceIte, eq_self, true_or, or_true, or_false, false_or, and_true, true_and, and_false, false_and]
  · rw [if_neg ho]
    simp (disch := omega) only [sC63 (by omega) hC.2.2.1, pz_bT hxs, b12_8, b12_11, sC62 (by omega) hC.1, pz_bT hxb, b12_19, b12_25, show s < 5 by omega, b12_34, show b < 9 by omega, b12_44, c2, sC78 hA hC hb a8, pz_bF ho, b12_55, b12_58, pz_k0, pz_k1, pz_k2, pz_k3, pz_k4, pz_k5, pz_k6, pz_k7, pz_k8, pz_k9, pz_k10, pz_k16, pz_k31, pz_k63, pz_km, nI_add, pz_mul, nI_ltI, nI_eq, nI_clamp, pz_inI, Option.bind_some, Option.toList_some, Option.toList_none, List.cons_append, List.nil_append, Nat.zero_add, Nat.mul_zero, Nat.add_zero, Nat.lt_irrefl, pz_bb, pz_bTr, Bool.false_eq_true, pz_bFa, Nat.reduceEqDiff, Nat.reduceLT, ite_not, pz_mE, pz_mE2, pz_mL, pz_mG, not_true_eq_false, not_false_eq_true, if_true, if_false, reduceIte, eq_self, true_or, or_true, or_false, false_or, and_true, true_and, and_false, false_and]
theorem sC12F {x y : Int32} (hA : pz_wf ck A) (hC : pz_C 0 A I κ) (h : ¬ (pz_rg x (A 6 0 0) ∧ pz_rg y (A 0 0 0))) : mm_ev 12 0 [some (.inr (.inr (1, 0))), some (.inl (x)), some (.inl (y)), none, none] [] (ids, I, L, mm_RS κ) = some (some (.inl (-101)), (ids, I, L, mm_RS κ)) := by
  have h9 := hA.2.1
  have h5 := hA.2.2.2.1
  rw [b12_0]
  by_cases hx : pz_rg x (A 6 0 0)
  · have hy : ¬ pz_rg y (A 0 0 0) := fun z => h ⟨hx, z⟩
    simp (disch := omega) only [sC63 (by omega) hC.2.2.1, pz_bT hx, b12_8, b12_11, sC62 (by omega) hC.1, pz_bF hy, b12_19, b12_22, pz_k0, pz_k1, pz_k2, pz_k3, pz_k4, pz_k5, pz_k6, pz_k7, pz_k8, pz_k9, pz_k10, pz_k16, pz_k31, pz_k63, pz_km, nI_add, pz_mul, nI_ltI, nI_eq, nI_clamp, pz_inI, Option.bind_some, Option.toList_some, Option.toList_none, List.cons_append, List.nil_append, Nat.zero_add, Nat.mul_zero, Nat.add_zero, Nat.lt_irrefl, pz_bb, pz_bTr, Bool.false_eq_true, pz_bFa, Nat.reduceEqDiff, Nat.reduceLT, ite_not, pz_mE, pz_mE2, pz_mL, pz_mG, not_true_eq_false, not_false_eq_true, if_true, if_false, reduceIte, eq_self, true_or, or_true, or_false, false_or, and_true, true_and, and_false, false_and]
  · simp (disch := omega) only [sC63 (by omega) hC.2.2.1, pz_bF hx, b12_8, b12_22, pz_k0, pz_k1, pz_k2, pz_k3, pz_k4, pz_k5, pz_k6, pz_k7, pz_k8, pz_k9, pz_k10, pz_k16, pz_k31, pz_k63, pz_km, nI_add, pz_mul, nI_ltI, nI_eq, nI_clamp, pz_inI, Option.bind_some, Option.toList_some, Option.toList_none, List.cons_append, List.nil_append, Nat.zero_add, Nat.mul_zero, Nat.add_zero, Nat.lt_irrefl, pz_bb, pz_bTr, Bool.false_eq_true, pz_bFa, Nat.reduceEqDiff, Nat.reduceLT, ite_not, pz_mE, pz_mE2, pz_mL, pz_mG, not_true_eq_false, not_false_eq_true, if_true, if_false, reduceIte, eq_self, true_or, or_true, or_false, false_or, and_true, true_and, and_false, false_and]
theorem sM142 (hA : pz_wf ck A) (hM : pz_M A I) (hs : s < A 6 0 0) (hb : b < A 0 0 0) : mm_ev 142 0 [some (.inr (.inr (9, 0))), some (.inl (nI s)), some (.inl (nI b))] [] (ids, I, L, mm_RM) = some (some (.inl (nI (pz_my A s b))), (ids, I, L, mm_RM)) := by
  have h9 := hA.2.1
  have h5 := hA.2.2.2.1
  have hs5 : s < 5 := by omega
  obtain ⟨a7, a8, a9, -⟩ := hA.2.2.2.2.1 s hs
  obtain ⟨c1, c2, c3, -⟩ := pz_M0s hM hs
  have hlen := pz_len_b hA hb
  unfold pz_my
  by_cases ho : pz_op A b (A 8 s 0)
  · rw [if_pos ho]
    by_cases ha : pz_at A b (A 7 s 0)
    · by_cases hl : pz_len A b ≤ A 9 s 0
      · rw [if_pos ⟨ha, hl⟩, b142_0]
        simp (disch := omega) only [hs5, c2, b142_8, sM140 hA hM hb a8, pz_bT ho, b142_11, b142_16, c1, b142_24, sM141 hA hM hb a7, pz_bT ha, b142_27, b142_30, c3, b142_36, sM125 hA hM hb, b142_41, show ¬ A 9 s 0 < pz_len A b by omega, b142_44, b142_49, pz_k0, pz_k1, pz_k2, pz_k3, pz_k4, pz_k5, pz_k6, pz_k7, pz_k8, pz_k9, pz_k10, pz_k16, pz_k31, pz_k63, pz_km, nI_add, pz_mul, nI_ltI, nI_eq, nI_clamp, pz_inI, Option.bind_some, Option.toList_some, Option.toList_none, List.cons_append, List.nil_append, Nat.zero_add, Nat.mul_zero, Nat.add_zero, Nat.lt_irrefl, pz_bb, pz_bTr, Bool.false_eq_true, pz_bFa, Nat.reduceEqDiff, Nat.reduceLT, ite_not, pz_mE, pz_mE2, pz_mL, pz_mG, not_true_eq_false, not_false_eq_true, if_true, if_false, reduceIte, eq_self, true_or, or_true, or_false, false_or, and_true, true_and, and_false, false_and]
      · rw [if_neg (fun z => hl z.2), b142_0]
        simp (disch := omega) only [hs5, c2, b142_8, sM140 hA hM hb a8, pz_bT ho, b142_11, b142_16, c1, b142_24, sM141 hA hM hb a7, pz_bT ha, b142_27, b142_30, c3, b142_36, sM125 hA hM hb, b142_41, show A 9 s 0 < pz_len A b by omega, b142_48, b142_49, pz_k0, pz_k1, pz_k2, pz_k3, pz_k4, pz_k5, pz_k6, pz_k7, pz_k8, pz_k9, pz_k10, pz_k16, pz_k31, pz_k63, pz_km, nI_add, pz_mul, nI_ltI, nI_eq, nI_clamp, pz_inI, Option.bind_some, Option.toList_some, Option.toList_none, List.cons_append, List.nil_append, Nat.zero_add, Nat.mul_zero, Nat.add_zero, Nat.lt_irrefl, pz_bb, pz_bTr, Bool.false_eq_true, pz_bFa, Nat.reduceEqDiff, Nat.reduceLT, ite_not, pz_mE, pz_mE2, pz_mL, pz_mG, not_true_eq_false, not_false_eq_true, if_true, if_false, reduceIte, eq_self, true_or, or_true, or_false, false_or, and_true, true_and, and_false, false_and]
    · rw [if_neg (fun z => ha z.1), b142_0]
      simp (disch := omega) only [hs5, c2, b142_8, sM140 hA hM hb a8, pz_bT ho, b142_11, b142_16, c1, b142_24, sM141 hA hM hb a7, pz_bF ha, b142_27, b142_48, b142_49, pz_k0, pz_k1, pz_k2, pz_k3, pz_k4, pz_k5, pz_k6, pz_k7, pz_k8, pz_k9, pz_k10, pz_k16, pz_k31, pz_k63, pz_km, nI_add, pz_mul, nI_ltI, nI_eq, nI_clamp, pz_inI, Option.bind_some, Option.toList_some, Option.toList_none, List.cons_append, List.nil_append, Nat.zero_add, Nat.mul_zero, Nat.add_zero, Nat.lt_irrefl, pz_bb, pz_bTr, Bool.false_eq_true, pz_bFa, Nat.reduceEqDiff, Nat.reduceLT, ite_not, pz_mE, pz_mE2, pz_mL, pz_mG, not_true_eq_false, not_false_eq_true, if_true, if_false, reduceIte, eq_self, true_or, or_true, or_false, false_or, and_true, true_and, and_false, false_and]
  · rw [if_neg ho, b142_0]
    simp (disch := omega) only [hs5, c2, b142_8, sM140 hA hM hb a8, pz_bF ho, b142_11, b142_14, pz_k0, pz_k1, pz_k2, pz_k3, pz_k4, pz_k5, pz_k6, pz_k7, pz_k8, pz_k9, pz_k10, pz_k16, pz_k31, pz_k63, pz_km, nI_add, pz_mul, nI_ltI, nI_eq, nI_clamp, pz_inI, Option.bind_some, Option.toList_some, Option.toList_none, List.cons_append, List.nil_append, Nat.zero_add, Nat.mul_zero, Nat.add_zero, Nat.lt_irrefl, pz_bb, pz_bTr, Bool.false_eq_true, pz_bFa, Nat.reduceEqDiff, Nat.reduceLT, ite_not, pz_mE, pz_mE2, pz_mL, pz_mG, not_true_eq_false, not_false_eq_true, if_true, if_false, reduceIte, eq_self, true_or, or_true, or_false, false_or, and_true, true_and, and_false, false_and]
theorem op12 (h : pz_Q k ck n g f A κ I J) (x y : Int32) : lw_two (pz_R (k + 1)) 12 143 [.inl x, .inl y] (mm_idC, I, LC, mm_RS κ) (mm_idM, J, LM, mm_RM) := by
  obtain ⟨-, -, -, hA, hC, hM, -⟩ := id h
  by_cases hx : pz_rg x (A 6 0 0)
  · by_cases hy : pz_rg y (A 0 0 0)
    · have hx' := hx
      have hy' := hy
      obtain ⟨s, hs, rfl⟩ := hx
      obtain ⟨b, hb, rfl⟩ := hy
      refine pz_two (laC := [some (.inr (.inr (1, 0))), some (.inl _), some (.inl _), none, none]) (laM := [some (.inr (.inr (9, 0))), some (.inl _), some (.inl _)]) (by rw [show mm_mL 12 = 5 from by decide +kernel]; rfl) (by rw [show mm_mL 143 = 3 from by decide +kernel]; rfl) (r :=  nI (pz_my A s b)) (sC12 hA hC hs hb) ?_ (pz_rd0 (LC' := LC) (LM' := LM) h)
      rw [b143_0]
      simp (disch := omega) only [sM134 hA hM, pz_bT hx', b143_5, b143_8, sM123 hA hM, pz_bT hy', b143_13, b143_16, sM142 hA hM hs hb, b143_22, b143_27, pz_k0, pz_k1, pz_k2, pz_k3, pz_k4, pz_k5, pz_k6, pz_k7, pz_k8, pz_k9, pz_k10, pz_k16, pz_k31, pz_k63, pz_km, nI_add, pz_mul, nI_ltI, nI_eq, nI_clamp, pz_inI, Option.bind_some, Option.toList_some, Option.toList_none, List.cons_append, List.nil_append, Nat.zero_add, Nat.mul_zero, Nat.add_zero, Nat.lt_irrefl, pz_bb, pz_bTr, Bool.false_eq_true, pz_bFa, Nat.reduceEqDiff, Nat.reduceLT, ite_not, pz_mE, pz_mE2, pz_mL, pz_mG, not_true_eq_false, not_false_eq_true, if_true, if_false, reduceIte, eq_self, true_or, or_true, or_false, false_or, and_true, true_and, and_false, false_and]
    · refine pz_two (laC := [some (.inr (.inr (1, 0))), some (.inl _), some (.inl _), none, none]) (laM := [some (.inr (.inr (9, 0))), some (.inl _), some (.inl _)]) (by rw [show mm_mL 12 = 5 from by decide +kernel]; rfl) (by rw [show mm_mL 143 = 3 from by decide +kernel]; rfl) (r :=  -101) (sC12F hA hC (fun z => hy z.2)) ?_ (pz_rd0 (LC' := LC) (LM' := LM) h)
      rw [b143_0]
      simp (disch := omega) only [sM134 hA hM, pz_bT hx, b143_5, b143_8, sM123 hA hM, pz_bF hy, b143_13, b143_25, b143_27, pz_k0, pz_k1, pz_k2, pz_k3, pz_k4, pz_k5, pz_k6, pz_k7, pz_k8, pz_k9, pz_k10, pz_k16, pz_k31, pz_k63, pz_km, nI_add, pz_mul, nI_ltI, nI_eq, nI_clamp, pz_inI, Option.bind_some, Option.toList_some, Option.toList_none, List.cons_append, List.nil_append, Nat.zero_add, Nat.mul_zero, Nat.add_zero, Nat.lt_irrefl, pz_bb, pz_bTr, Bool.false_eq_true, pz_bFa, Nat.reduceEqDiff, Nat.reduceLT, ite_not, pz_mE, pz_mE2, pz_mL, pz_mG, not_true_eq_false, not_false_eq_true, if_true, if_false, reduceIte, eq_self, true_or, or_true, or_false, false_or, and_true, true_and, and_false, false_and]
  · refine pz_two (laC := [some (.inr (.inr (1, 0))), some (.inl _), some (.inl _), none, none]) (laM := [some (.inr (.inr (9, 0))), some (.inl _), some (.inl _)]) (by rw [show mm_mL 12 = 5 from by decide +kernel]; rfl) (by rw [show mm_mL 143 = 3 from by decide +kernel]; rfl) (r :=  -101) (sC12F hA hC (fun z => hx z.1)) ?_ (pz_rd0 (LC' := LC) (LM' := LM) h)
    rw [b143_0]
    simp (disch := omega) only [sM134 hA hM, pz_bF hx, b143_5, b143_25, b143_27, pz_k0, pz_k1, pz_k2, pz_k3, pz_k4, pz_k5, pz_k6, pz_k7, pz_k8, pz_k9, pz_k10, pz_k16, pz_k31, pz_k63, pz_km, nI_add, pz_mul, nI_ltI, nI_eq, nI_clamp, pz_inI, Option.bind_some, Option.toList_some, Option.toList_none, List.cons_append, List.nil_append, Nat.zero_add, Nat.mul_zero, Nat.add_zero, Nat.lt_irrefl, pz_bb, pz_bTr, Bool.false_eq_true, pz_bFa, Nat.reduceEqDiff, Nat.reduceLT, ite_not, pz_mE, pz_mE2, pz_mL, pz_mG, not_true_eq_false, not_false_eq_true, if_true, if_false, reduceIte, eq_self, true_or, or_true, or_false, false_or, and_true, true_and, and_false, false_and]
end PZ49
