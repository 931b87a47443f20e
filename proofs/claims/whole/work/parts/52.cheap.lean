/-! cheapest: the least fees -/
def pz_df (a K : Nat) : Nat := a &&& (63 ^^^ K)
set_option maxRecDepth 100000 in
theorem pz_dfl0 : ∀ a, a < 64 → ∀ K, K < 64 → (nI a &&& (nI K ^^^ pz_m)) = nI (pz_df a K) ∧ pz_df a K < 64 := by decide +kernel
theorem pz_dfl {a K : Nat} (ha : a < 64) (hK : K < 64) : (nI a &&& (nI K ^^^ pz_m)) = nI (pz_df a K) := (pz_dfl0 a ha K hK).1
noncomputable def pz_lf (A : pz_A) (p0 st v inf : Nat) : Nat → Nat
  | 0 => inf
  | p + 1 => if pz_T A st p0 p < 10000 ∧ 1 ≤ A 13 p v then min (pz_lf A p0 st v inf p) (A 13 p v - 1) else pz_lf A p0 st v inf p
theorem pz_lf_s {A : pz_A} {p0 st v inf p : Nat} : pz_lf A p0 st v inf (p + 1) = if pz_T A st p0 p < 10000 ∧ 1 ≤ A 13 p v then min (pz_lf A p0 st v inf p) (A 13 p v - 1) else pz_lf A p0 st v inf p := rfl
theorem pz_lf_le {A : pz_A} {p0 st v inf : Nat} : ∀ n, pz_lf A p0 st v inf n ≤ inf
  | 0 => Nat.le_refl _
  | n + 1 => by
    have := pz_lf_le (A := A) (p0 := p0) (st := st) (v := v) (inf := inf) n
    rw [pz_lf_s]
    split <;> omega
theorem pz_lf_rel {A : pz_A} {p0 st v ck : Nat} (hA : pz_wf ck A) (hv : v < 6) : ∀ n, n ≤ 6 → (pz_lf A p0 st v 10000 n = pz_lf A p0 st v 1048576 n ∧ pz_lf A p0 st v 10000 n ≤ 99) ∨ (pz_lf A p0 st v 10000 n = 10000 ∧ pz_lf A p0 st v 1048576 n = 1048576)
  | 0, _ => Or.inr ⟨rfl, rfl⟩
  | n + 1, hn => by
    have ih := pz_lf_rel (p0 := p0) (st := st) hA hv n (by omega)
    have hz := hA.2.2.2.2.2.1 n v (by omega) hv
    rw [pz_lf_s, pz_lf_s]
    by_cases h : pz_T A st p0 n < 10000 ∧ 1 ≤ A 13 n v
    · rw [if_pos h, if_pos h]
      omega
    · rw [if_neg h, if_neg h]
      exact ih
noncomputable def pz_lm (A : pz_A) (p0 st inf : Nat) (F : Nat → Nat) : Nat → Nat → Nat
  | 0 => F
  | v + 1 => if st ||| 2 ^ v = st then pz_lm A p0 st inf F v else pz_up (pz_lm A p0 st inf F v) (st ||| 2 ^ v) (min (pz_lm A p0 st inf F v (st ||| 2 ^ v)) (F st + pz_lf A p0 st v inf 6))
theorem pz_lm_s {A : pz_A} {p0 st inf v : Nat} {F : Nat → Nat} : pz_lm A p0 st inf F (v + 1) = if st ||| 2 ^ v = st then pz_lm A p0 st inf F v else pz_up (pz_lm A p0 st inf F v) (st ||| 2 ^ v) (min (pz_lm A p0 st inf F v (st ||| 2 ^ v)) (F st + pz_lf A p0 st v inf 6)) := rfl
theorem pz_lm_set {A : pz_A} {p0 st inf : Nat} {F : Nat → Nat} : ∀ v, pz_lm A p0 st inf F v st = F st
  | 0 => rfl
  | v + 1 => by
    rw [pz_lm_s]
    by_cases h : st ||| 2 ^ v = st
    · rw [if_pos h]
      exact pz_lm_set v
    · rw [if_neg h, pz_up_n (fun e => h e.symm)]
      exact pz_lm_set v
theorem pz_lm_le {A : pz_A} {p0 st inf M : Nat} {F : Nat → Nat} (h : ∀ x, F x ≤ M) : ∀ v x, pz_lm A p0 st inf F v x ≤ M
  | 0, x => h x
  | v + 1, x => by
    have ih := pz_lm_le (A := A) (p0 := p0) (st := st) (inf := inf) h v
    rw [pz_lm_s]
    split
    · exact ih x
    · unfold pz_up
      split
      · have := ih (st ||| 2 ^ v)
        omega
      · exact ih x
def pz_agr (L : Nat) (F C : Nat → Nat) : Prop := ∀ x, (F x < L ∨ C x < L) → F x = C x
theorem pz_agr_lm {A : pz_A} {p0 st ck L : Nat} {F C : Nat → Nat} (hA : pz_wf ck A) (hL : L ≤ 100) (h : pz_agr L F C) (hs : F st = C st) : ∀ v, v ≤ 6 → pz_agr L (pz_lm A p0 st 10000 F v) (pz_lm A p0 st 1048576 C v)
  | 0, _ => h
  | v + 1, hv => by
    have ih := pz_agr_lm (p0 := p0) hA hL h hs v (by omega)
    have hr := pz_lf_rel (p0 := p0) (st := st) hA (show v < 6 by omega) 6 (Nat.le_refl 6)
    rw [pz_lm_s, pz_lm_s]
    by_cases he : st ||| 2 ^ v = st
    · rw [if_pos he, if_pos he]
      exact ih
    · rw [if_neg he, if_neg he]
      intro x hx
      unfold pz_up at hx ⊢
      by_cases hxe : x = st ||| 2 ^ v
      · rw [if_pos hxe, if_pos hxe] at *
        have := ih (st ||| 2 ^ v)
        omega
      · rw [if_neg hxe, if_neg hxe] at *
        exact ih x hx
theorem pz_agr_lmC {A : pz_A} {p0 st L : Nat} {F C : Nat → Nat} (h : pz_agr L F C) (hs : L ≤ C st) : ∀ v, pz_agr L F (pz_lm A p0 st 1048576 C v)
  | 0 => h
  | v + 1 => by
    have ih := pz_agr_lmC (A := A) (p0 := p0) h hs v
    rw [pz_lm_s]
    by_cases he : st ||| 2 ^ v = st
    · rw [if_pos he]
      exact ih
    · rw [if_neg he]
      intro x hx
      unfold pz_up at hx ⊢
      by_cases hxe : x = st ||| 2 ^ v
      · rw [if_pos hxe] at *
        have := ih x
        rw [hxe] at this hx ⊢
        omega
      · rw [if_neg hxe] at *
        exact ih x hx
abbrev pz_S : Type := (Nat → Nat) × Nat × Option Nat
noncomputable def pz_s1 (A : pz_A) (p0 pl K inf gt : Nat) (z : pz_S) (st : Nat) : pz_S := if z.1 st < gt then (pz_lm A p0 st inf z.1 6, if pz_T A st p0 pl < 10000 ∧ z.1 st < z.2.1 then (z.1 st, some (pz_df st K)) else z.2) else z
noncomputable def pz_sC (A : pz_A) (p0 pl K pu : Nat) : Nat → pz_S
  | 0 => (pz_i0 K 10000, pu + 1, none)
  | d + 1 => pz_s1 A p0 pl K 10000 (pz_sC A p0 pl K pu d).2.1 (pz_sC A p0 pl K pu d) (K + d)
noncomputable def pz_sM (A : pz_A) (p0 pl K : Nat) : Nat → pz_S
  | 0 => (pz_i0 K 1048576, 1048576, none)
  | n + 1 => pz_s1 A p0 pl K 1048576 1048576 (pz_sM A p0 pl K n) n
theorem pz_sC_s {A : pz_A} {p0 pl K pu d : Nat} : pz_sC A p0 pl K pu (d + 1) = pz_s1 A p0 pl K 10000 (pz_sC A p0 pl K pu d).2.1 (pz_sC A p0 pl K pu d) (K + d) := rfl
theorem pz_sM_s {A : pz_A} {p0 pl K n : Nat} : pz_sM A p0 pl K (n + 1) = pz_s1 A p0 pl K 1048576 1048576 (pz_sM A p0 pl K n) n := rfl
def pz_rlt (pu : Nat) (c m : pz_S) : Prop := c.2.1 = min m.2.1 (pu + 1) ∧ (m.2.1 ≤ pu → ∃ d, c.2.2 = some d ∧ m.2.2 = some d) ∧ (pu < m.2.1 → c.2.2 = none) ∧ pz_agr c.2.1 c.1 m.1 ∧ (∀ x, c.1 x ≤ 10000) ∧ ∀ x, m.1 x ≤ 1048576
theorem pz_sM_0 {A : pz_A} {p0 pl K : Nat} : ∀ n, n ≤ K → pz_sM A p0 pl K n = (pz_i0 K 1048576, 1048576, none)
  | 0, _ => rfl
  | n + 1, hn => by
    rw [pz_sM_s, pz_sM_0 n (by omega)]
    unfold pz_s1
    rw [if_neg]
    show ¬ pz_i0 K 1048576 n < 1048576
    unfold pz_i0
    rw [if_neg (by omega)]
    omega
theorem pz_rlt_s1 {A : pz_A} {p0 pl K pu ck st : Nat} {c m : pz_S} (hA : pz_wf ck A) (hpu : pu ≤ 99) (h : pz_rlt pu c m) : pz_rlt pu (pz_s1 A p0 pl K 10000 c.2.1 c st) (pz_s1 A p0 pl K 1048576 1048576 m st) := by
  obtain ⟨h1, h2, h3, h4, h5, h6⟩ := h
  have hag := h4 st
  have hc5 := h5 st
  have hm6 := h6 st
  unfold pz_s1
  by_cases hc : c.1 st < c.2.1
  · have he := hag (Or.inl hc)
    have hmi : m.1 st < 1048576 := by omega
    rw [if_pos hc, if_pos hmi]
    have hall := pz_agr_lm (p0 := p0) hA (show c.2.1 ≤ 100 by omega) h4 he 6 (Nat.le_refl 6)
    by_cases hT : pz_T A st p0 pl < 10000
    · rw [if_pos (show pz_T A st p0 pl < 10000 ∧ c.1 st < c.2.1 from ⟨hT, hc⟩), if_pos (show pz_T A st p0 pl < 10000 ∧ m.1 st < m.2.1 from ⟨hT, by omega⟩)]
      refine ⟨?_, fun _ => ⟨_, rfl, rfl⟩, fun z => ?_, ?_, pz_lm_le h5 6, pz_lm_le h6 6⟩
      · show c.1 st = min (m.1 st) (pu + 1)
        omega
      · exfalso
        have z : pu < m.1 st := z
        omega
      · intro x hx
        refine hall x ?_
        have hx : pz_lm A p0 st 10000 c.1 6 x < c.1 st ∨ pz_lm A p0 st 1048576 m.1 6 x < c.1 st := hx
        omega
    · rw [if_neg (show ¬ (pz_T A st p0 pl < 10000 ∧ c.1 st < c.2.1) from fun z => hT z.1), if_neg (show ¬ (pz_T A st p0 pl < 10000 ∧ m.1 st < m.2.1) from fun z => hT z.1)]
      exact ⟨h1, h2, h3, hall, pz_lm_le h5 6, pz_lm_le h6 6⟩
  · have hge : c.2.1 ≤ m.1 st := by
      refine Nat.le_of_not_lt (fun z => ?_)
      have := hag (Or.inr z)
      omega
    rw [if_neg hc]
    by_cases hm : m.1 st < 1048576
    · rw [if_pos hm]
      have hall := pz_agr_lmC (A := A) (p0 := p0) h4 hge 6
      by_cases hT : pz_T A st p0 pl < 10000 ∧ m.1 st < m.2.1
      · rw [if_pos hT]
        have hp : pu < m.2.1 := by omega
        refine ⟨?_, fun z => ?_, fun _ => h3 hp, hall, h5, pz_lm_le h6 6⟩
        · show c.2.1 = min (m.1 st) (pu + 1)
          omega
        · exfalso
          have z : m.1 st ≤ pu := z
          omega
      · rw [if_neg hT]
        exact ⟨h1, h2, h3, hall, h5, pz_lm_le h6 6⟩
    · rw [if_neg hm]
      exact ⟨h1, h2, h3, h4, h5, h6⟩
theorem pz_rlt_all {A : pz_A} {p0 pl K pu ck : Nat} (hA : pz_wf ck A) (hpu : pu ≤ 99) : ∀ d, pz_rlt pu (pz_sC A p0 pl K pu d) (pz_sM A p0 pl K (K + d))
  | 0 => by
    rw [Nat.add_zero, pz_sM_0 K (Nat.le_refl K)]
    refine ⟨?_, fun z => ?_, fun _ => rfl, fun x hx => ?_, fun x => pz_i0_le, fun x => pz_i0_le⟩
    · show pu + 1 = min 1048576 (pu + 1)
      omega
    · exfalso
      have z : 1048576 ≤ pu := z
      omega
    · have hx : pz_i0 K 10000 x < pu + 1 ∨ pz_i0 K 1048576 x < pu + 1 := hx
      show pz_i0 K 10000 x = pz_i0 K 1048576 x
      unfold pz_i0 at hx ⊢
      by_cases e : x = K
      · rw [if_pos e, if_pos e]
      · rw [if_neg e, if_neg e] at hx
        omega
  | d + 1 => by
    rw [pz_sC_s, ← Nat.add_assoc, pz_sM_s]
    exact pz_rlt_s1 hA hpu (pz_rlt_all hA hpu d)
theorem pz_sC_le {A : pz_A} {p0 pl K pu : Nat} : ∀ d, (pz_sC A p0 pl K pu d).2.1 ≤ pu + 1
  | 0 => Nat.le_refl _
  | d + 1 => by
    have ih := pz_sC_le (A := A) (p0 := p0) (pl := pl) (K := K) (pu := pu) d
    rw [pz_sC_s]
    unfold pz_s1
    by_cases h1 : (pz_sC A p0 pl K pu d).1 (K + d) < (pz_sC A p0 pl K pu d).2.1
    · rw [if_pos h1]
      by_cases h2 : pz_T A (K + d) p0 pl < 10000 ∧ (pz_sC A p0 pl K pu d).1 (K + d) < (pz_sC A p0 pl K pu d).2.1
      · rw [if_pos h2]
        show (pz_sC A p0 pl K pu d).1 (K + d) ≤ pu + 1
        omega
      · rw [if_neg h2]
        exact ih
    · rw [if_neg h1]
      exact ih
def pz_cf (z : pz_S) (w : Nat) : Int32 := match z.2.2 with
  | none => pz_m
  | some d => if w = 0 then nI z.2.1 else nI d
section PZ52
variable {ids : List (Nat × Nat)} {I J : mm_HI} {L LC LM : mm_HL} {κ f : Nat → Nat} {A : pz_A} {k ck n g b v s p : Nat}
theorem pz_fr_ne {I' : mm_HI} {c : Nat} (hc : pz_sc c = true) (h : ∀ c', c' ≠ c → I' c' = I c') : pz_fr I I' := by
  intro c' hc'
  refine h c' ?_
  rintro rfl
  rw [hc] at hc'
  cases hc'
/-- leastFee -/
theorem sC102 {p0 st : Nat} (hA : pz_wf ck A) (hC : pz_C 0 A I κ) (hp : p0 < 6) (hv : v < 6) : mm_ev 102 0 [some (.inr (.inr (7, 0))), some (.inl (nI v)), some (.inl (nI (pz_po A st p0))), none, none, none] [] (ids, I, L, mm_RS κ) = some (some (.inl (nI (pz_lf A p0 st v 10000 6))), (ids, I, L, mm_RS κ)) := by
  have hpo := pz_po_lt (v := st) hA hp
  rw [b102_0, show (10000 : Int32) = nI 10000 from rfl]
  have hl := pz_loopJ (fun p (j : Option mm_V) => mm_ev 102 7 [some (.inr (.inr (7, 0))), some (.inl (nI v)), some (.inl (nI (pz_po A st p0))), some (.inl (nI (pz_lf A p0 st v 10000 p))), some (.inl (nI p)), j] [] (ids, I, L, mm_RS κ)) 6 (fun p j hp6 => ?_) none
  · obtain ⟨j, hj⟩ := hl
    refine Eq.trans hj ?_
    rw [b102_7]
    simp (disch := omega) only [b102_56, pz_k0, pz_k1, pz_k2, pz_k3, pz_k4, pz_k5, pz_k6, pz_k7, pz_k8, pz_k9, pz_k10, pz_k16, pz_k31, pz_k63, pz_km, nI_add, pz_mul, nI_ltI, nI_eq, nI_clamp, pz_inI, Option.bind_some, Option.toList_some, Option.toList_none, List.cons_append, List.nil_append, Nat.zero_add, Nat.mul_zero, Nat.add_zero, Nat.lt_irrefl, pz_bb, pz_bTr, Bool.false_eq_true, pz_bFa, Nat.reduceEqDiff, Nat.reduceLT, ite_not, pz_mE, pz_mE2, pz_mL, pz_mG, not_true_eq_false, not_false_eq_true, if_true, if_false, reduceIte, eq_self, true_or, or_true, or_false, false_or, and_true, true_and, and_false, false_and]
  · try dsimp only
    have hfee := pz_C0f hC hp6 hv
    have hz := hA.2.2.2.2.2.1 p v hp6 hv
    have hle := pz_lf_le (A := A) (p0 := p0) (st := st) (v := v) (inf := 10000) p
    have hbt := pz_bt2 (v := pz_po A st p0) (s := p)
    have hb := pz_po_bt (v := st) hA hp hp6
    rw [pz_lf_s]
    by_cases hT : pz_T A st p0 p < 10000
    · have h1 := hb.mpr hT
      by_cases hz0 : A 13 p v = 0
      · rw [hz0, pz_fe0] at hfee
        rw [if_neg (by omega), b102_7]
        refine ⟨some (.inl pz_m), ?_⟩
        simp (disch := omega) only [hp6, b102_14, b102_24, hv, hfee, b102_26, pz_bit, h1, b102_37, b102_50, pz_k0, pz_k1, pz_k2, pz_k3, pz_k4, pz_k5, pz_k6, pz_k7, pz_k8, pz_k9, pz_k10, pz_k16, pz_k31, pz_k63, pz_km, nI_add, pz_mul, nI_ltI, nI_eq, nI_clamp, pz_inI, Option.bind_some, Option.toList_some, Option.toList_none, List.cons_append, List.nil_append, Nat.zero_add, Nat.mul_zero, Nat.add_zero, Nat.lt_irrefl, pz_bb, pz_bTr, Bool.false_eq_true, pz_bFa, Nat.reduceEqDiff, Nat.reduceLT, ite_not, pz_mE, pz_mE2, pz_mL, pz_mG, not_true_eq_false, not_false_eq_true, if_true, if_false, reduceIte, eq_self, true_or, or_true, or_false, false_or, and_true, true_and, and_false, false_and]
      · rw [pz_fe1 hz0] at hfee
        rw [if_pos ⟨hT, by omega⟩, b102_7]
        refine ⟨some (.inl (nI (A 13 p v - 1))), ?_⟩
        simp (disch := omega) only [hp6, b102_14, b102_24, hv, hfee, b102_26, pz_bit, h1, b102_37, b102_43, pz_mn, b102_50, pz_k0, pz_k1, pz_k2, pz_k3, pz_k4, pz_k5, pz_k6, pz_k7, pz_k8, pz_k9, pz_k10, pz_k16, pz_k31, pz_k63, pz_km, nI_add, pz_mul, nI_ltI, nI_eq, nI_clamp, pz_inI, Option.bind_some, Option.toList_some, Option.toList_none, List.cons_append, List.nil_append, Nat.zero_add, Nat.mul_zero, Nat.add_zero, Nat.lt_irrefl, pz_bb, pz_bTr, Bool.false_eq_true, pz_bFa, Nat.reduceEqDiff, Nat.reduceLT, ite_not, pz_mE, pz_mE2, pz_mL, pz_mG, not_true_eq_false, not_false_eq_true, if_true, if_false, reduceIte, eq_self, true_or, or_true, or_false, false_or, and_true, true_and, and_false, false_and]
    · have h0 : pz_bt (pz_po A st p0) p = 0 := by
        have : ¬ pz_bt (pz_po A st p0) p = 1 := fun z => hT (hb.mp z)
        omega
      rw [if_neg (fun z => hT z.1), b102_7]
      refine ⟨some (.inl (nI (A 13 p v) - nI 1)), ?_⟩
      simp (disch := omega) only [hp6, b102_14, b102_24, hv, hfee, b102_26, pz_bit, h0, b102_50, pz_k0, pz_k1, pz_k2, pz_k3, pz_k4, pz_k5, pz_k6, pz_k7, pz_k8, pz_k9, pz_k10, pz_k16, pz_k31, pz_k63, pz_km, nI_add, pz_mul, nI_ltI, nI_eq, nI_clamp, pz_inI, Option.bind_some, Option.toList_some, Option.toList_none, List.cons_append, List.nil_append, Nat.zero_add, Nat.mul_zero, Nat.add_zero, Nat.lt_irrefl, pz_bb, pz_bTr, Bool.false_eq_true, pz_bFa, Nat.reduceEqDiff, Nat.reduceLT, ite_not, pz_mE, pz_mE2, pz_mL, pz_mG, not_true_eq_false, not_false_eq_true, if_true, if_false, reduceIte, eq_self, true_or, or_true, or_false, false_or, and_true, true_and, and_false, false_and]
theorem pz_uI_at {c i x y : Nat} {z : Int32} : mm_uI I c i x z c i y = if y = x then z else I c i y := by
  unfold mm_uI
  by_cases h : y = x
  · rw [if_pos ⟨rfl, rfl, h⟩, if_pos h]
  · rw [if_neg (fun q => h q.2.2), if_neg h]
theorem pz_uI_ne {c c' i x : Nat} {z : Int32} (h : c' ≠ c) : mm_uI I c i x z c' = I c' := by
  funext i' j'
  unfold mm_uI
  rw [if_neg (fun q => h q.1)]
/-- learnMore -/
theorem sC101 {p0 st : Nat} {F : Nat → Nat} (hA : pz_wf ck A) (hC : pz_C 0 A I κ) (hp : p0 < 6) (hst : st < 64) (hF : ∀ x, F x ≤ 10000) (hI : ∀ x, x < 64 → I 120 0 x = nI (F x)) : ∃ I', mm_ev 101 0 [some (.inr (.inr (7, 0))), some (.inl (nI st)), some (.inl (nI (pz_po A st p0))), none, none] [] (ids, I, L, mm_RS κ) = some (none, (ids, I', L, mm_RS κ)) ∧ (∀ c, c ≠ 120 → I' c = I c) ∧ ∀ x, x < 64 → I' 120 0 x = nI (pz_lm A p0 st 10000 F 6 x) := by
  have hl := pz_loopP (fun v (j : Option mm_V × mm_HI) => mm_ev 101 2 [some (.inr (.inr (7, 0))), some (.inl (nI st)), some (.inl (nI (pz_po A st p0))), some (.inl (nI v)), j.1] [] (ids, j.2, L, mm_RS κ)) (fun v j => (∀ c, c ≠ 120 → j.2 c = I c) ∧ ∀ x, x < 64 → j.2 120 0 x = nI (pz_lm A p0 st 10000 F v x)) 6 (fun v j hv hj => ?_) (none, I) ⟨fun _ _ => rfl, hI⟩
  · obtain ⟨j, hj, h1, h2⟩ := hl
    refine ⟨j.2, ?_, h1, h2⟩
    rw [b101_0]
    refine Eq.trans hj ?_
    rw [b101_2]
    simp (disch := omega) only [b101_57, pz_k0, pz_k1, pz_k2, pz_k3, pz_k4, pz_k5, pz_k6, pz_k7, pz_k8, pz_k9, pz_k10, pz_k16, pz_k31, pz_k63, pz_km, nI_add, pz_mul, nI_ltI, nI_eq, nI_clamp, pz_inI, Option.bind_some, Option.toList_some, Option.toList_none, List.cons_append, List.nil_append, Nat.zero_add, Nat.mul_zero, Nat.add_zero, Nat.lt_irrefl, pz_bb, pz_bTr, Bool.false_eq_true, pz_bFa, Nat.reduceEqDiff, Nat.reduceLT, ite_not, pz_mE, pz_mE2, pz_mL, pz_mG, not_true_eq_false, not_false_eq_true, if_true, if_false, reduceIte, eq_self, true_or, or_true, or_false, false_or, and_true, true_and, and_false, false_and]
  · try dsimp only at hj
    try dsimp only
    obtain ⟨j1, j2⟩ := hj
    have hC' := pz_C_fr (pz_fr_ne (show pz_sc 120 = true from rfl) j1) hC
    have hor : st ||| 2 ^ v < 64 := pz_orlt (n := 6) hst (Nat.pow_lt_pow_right (by decide) hv)
    have e1 := j2 _ hst
    have e2 := j2 _ hor
    rw [pz_lm_set] at e1
    have hFs := hF st
    have hFm := pz_lm_le (A := A) (p0 := p0) (st := st) (inf := 10000) hF v (st ||| 2 ^ v)
    have hlf := pz_lf_le (A := A) (p0 := p0) (st := st) (v := v) (inf := 10000) 6
    have hom : st ||| 2 ^ v < 2 ^ 31 := Nat.lt_trans hor (by decide)
    have hqi : nI (st ||| 2 ^ v) = nI st ↔ st ||| 2 ^ v = st := nI_eq hom (by omega)
    have hmi : mm_in (nI (st ||| 2 ^ v)) 64 = true := (pz_inI hom).mpr hor
    have hmc : (nI (st ||| 2 ^ v)).toNatClampNeg = st ||| 2 ^ v := nI_clamp hom
    by_cases he : st ||| 2 ^ v = st
    · refine ⟨(some (.inl (nI (st ||| 2 ^ v))), j.2), ?_, j1, ?_⟩
      · rw [b101_2]
        simp (disch := omega) only [hv, b101_8, pz_one, pz_or, hqi.mpr he, b101_51, pz_k0, pz_k1, pz_k2, pz_k3, pz_k4, pz_k5, pz_k6, pz_k7, pz_k8, pz_k9, pz_k10, pz_k16, pz_k31, pz_k63, pz_km, nI_add, pz_mul, nI_ltI, nI_eq, nI_clamp, pz_inI, Option.bind_some, Option.toList_some, Option.toList_none, List.cons_append, List.nil_append, Nat.zero_add, Nat.mul_zero, Nat.add_zero, Nat.lt_irrefl, pz_bb, pz_bTr, Bool.false_eq_true, pz_bFa, Nat.reduceEqDiff, Nat.reduceLT, ite_not, pz_mE, pz_mE2, pz_mL, pz_mG, not_true_eq_false, not_false_eq_true, if_true, if_false, reduceIte, eq_self, true_or, or_true, or_false, false_or, and_true, true_and, and_false, false_and]
      · rw [pz_lm_s, if_pos he]
        exact j2
    · refine ⟨(some (.inl (nI (st ||| 2 ^ v))), mm_uI j.2 120 0 (st ||| 2 ^ v) (nI (min (pz_lm A p0 st 10000 F v (st ||| 2 ^ v)) (F st + pz_lf A p0 st v 10000 6)))), ?_, fun c hc => ?_, fun x hx => ?_⟩
      · rw [b101_2]
        simp (disch := omega) only [hv, b101_8, pz_one, pz_or, show ¬ nI (st ||| 2 ^ v) = nI st from fun q => he (hqi.mp q), b101_21, hmi, hmc, e2, b101_34, hst, e1, b101_40, sC102 hA hC' hp hv, b101_46, pz_mn, b101_51, pz_k0, pz_k1, pz_k2, pz_k3, pz_k4, pz_k5, pz_k6, pz_k7, pz_k8, pz_k9, pz_k10, pz_k16, pz_k31, pz_k63, pz_km, nI_add, pz_mul, nI_ltI, nI_eq, nI_clamp, pz_inI, Option.bind_some, Option.toList_some, Option.toList_none, List.cons_append, List.nil_append, Nat.zero_add, Nat.mul_zero, Nat.add_zero, Nat.lt_irrefl, pz_bb, pz_bTr, Bool.false_eq_true, pz_bFa, Nat.reduceEqDiff, Nat.reduceLT, ite_not, pz_mE, pz_mE2, pz_mL, pz_mG, not_true_eq_false, not_false_eq_true, if_true, if_false, reduceIte, eq_self, true_or, or_true, or_false, false_or, and_true, true_and, and_false, false_and]
      · show mm_uI j.2 120 0 (st ||| 2 ^ v) _ c = I c
        rw [pz_uI_ne hc]
        exact j1 c hc
      · show mm_uI j.2 120 0 (st ||| 2 ^ v) _ 120 0 x = _
        rw [pz_uI_at, pz_lm_s, if_neg he]
        unfold pz_up
        by_cases hxe : x = st ||| 2 ^ v
        · rw [if_pos hxe, if_pos hxe]
        · rw [if_neg hxe, if_neg hxe]
          exact j2 x hx
/-- findLessons -/
theorem sC100 {pl : Nat} (hA : pz_wf ck A) (hC : pz_C 0 A I κ) (hs : s < A 6 0 0) (hpl : pl < 6) : ∃ I', mm_ev 100 0 [some (.inr (.inr (7, 0))), some (.inr (.inr (6, s))), some (.inl (nI pl)), none, none, none] [] (ids, I, L, mm_RS κ) = some (none, (ids, I', L, mm_RS κ)) ∧ pz_fr I I' ∧ I' 33 0 0 = pz_cf (pz_sC A (A 7 s 0) pl (A 8 s 0) (A 12 s 0) (64 - A 8 s 0)) 0 ∧ I' 34 0 0 = pz_cf (pz_sC A (A 7 s 0) pl (A 8 s 0) (A 12 s 0) (64 - A 8 s 0)) 1 := by
  obtain ⟨a7, a8, a9, -, -, -, a12, -⟩ := hA.2.2.2.2.1 s hs
  obtain ⟨I1, hI1⟩ : ∃ I1, I1 = mm_uI (mm_uI I 33 0 0 pz_m) 34 0 0 pz_m := ⟨_, rfl⟩
  have f1 : pz_fr I I1 := by
    rw [hI1]
    exact pz_frU rfl (pz_frU rfl pz_fr0)
  have c1 := pz_C0s (pz_C_fr f1 hC) hs
  have hl64 : mm_ln 20 = 64 := by decide +kernel
  have hk1 : mm_kd 20 = 1 := by decide +kernel
  have h177 := s177 (R := mm_RS κ) (ids := ids) (I := I1) (L := L) (r := 20) (i := 0) (x := nI 10000) hk1 (by rw [hl64]; decide)
  rw [hl64, show 100 + 20 = 120 from rfl] at h177
  obtain ⟨I2, hI2⟩ : ∃ I2, I2 = pz_fl I1 120 0 64 (nI 10000) := ⟨_, rfl⟩
  rw [← hI2] at h177
  have n2 : ∀ c, c ≠ 120 → I2 c = I1 c := by
    intro c hc
    rw [hI2]
    funext i j
    exact if_neg (fun z => hc z.1)
  have v2 : ∀ x, x < 64 → I2 120 0 x = nI 10000 := by
    intro x hx
    rw [hI2]
    exact if_pos ⟨rfl, rfl, hx⟩
  have f2 : pz_fr I I2 := pz_frT f1 (pz_fr_ne rfl n2)
  have c2 := pz_C0s (pz_C_fr f2 hC) hs
  obtain ⟨I3, hI3⟩ : ∃ I3, I3 = mm_uI I2 120 0 (A 8 s 0) (nI 0) := ⟨_, rfl⟩
  have f3 : pz_fr I I3 := by
    rw [hI3]
    exact pz_frU rfl f2
  have c3 := pz_C0s (pz_C_fr f3 hC) hs
  have v3 : ∀ x, x < 64 → I3 120 0 x = nI (pz_i0 (A 8 s 0) 10000 x) := by
    intro x hx
    rw [hI3, pz_uI_at]
    unfold pz_i0
    by_cases e : x = A 8 s 0
    · rw [if_pos e, if_pos e]
    · rw [if_neg e, if_neg e]
      exact v2 x hx
  have w33 : I3 33 0 0 = pz_m := by
    rw [hI3, pz_uI_ne (by decide), n2 33 (by decide), hI1, pz_uI_ne (by decide), pz_uI_at, if_pos rfl]
  have w34 : I3 34 0 0 = pz_m := by
    rw [hI3, pz_uI_ne (by decide), n2 34 (by decide), hI1, pz_uI_at, if_pos rfl]
  have hst : mm_ev 100 0 [some (.inr (.inr (7, 0))), some (.inr (.inr (6, s))), some (.inl (nI pl)), none, none, none] [] (ids, I, L, mm_RS κ) = mm_ev 100 43 [some (.inr (.inr (7, 0))), some (.inr (.inr (6, s))), some (.inl (nI pl)), some (.inl (nI (A 12 s 0 + 1))), some (.inl (nI (A 8 s 0))), none] [] (ids, I3, L, mm_RS κ) := by
    rw [b100_0, show (10000 : Int32) = nI 10000 from rfl, show (-1 : Int32) = pz_m from rfl, ← hI1, h177]
    simp (disch := omega) only [c1.2.2.2.2.2.1, b100_27, c2.2.1, a8, pz_k0, pz_k1, pz_k2, pz_k3, pz_k4, pz_k5, pz_k6, pz_k7, pz_k8, pz_k9, pz_k10, pz_k16, pz_k31, pz_k63, pz_km, nI_add, pz_mul, nI_ltI, nI_eq, nI_clamp, pz_inI, Option.bind_some, Option.toList_some, Option.toList_none, List.cons_append, List.nil_append, Nat.zero_add, Nat.mul_zero, Nat.add_zero, Nat.lt_irrefl, pz_bb, pz_bTr, Bool.false_eq_true, pz_bFa, Nat.reduceEqDiff, Nat.reduceLT, ite_not, pz_mE, pz_mE2, pz_mL, pz_mG, not_true_eq_false, not_false_eq_true, if_true, if_false, reduceIte, eq_self, true_or, or_true, or_false, false_or, and_true, true_and, and_false, false_and]
    rw [← hI3, b100_37]
    simp (disch := omega) only [c3.2.1, pz_k0, pz_k1, pz_k2, pz_k3, pz_k4, pz_k5, pz_k6, pz_k7, pz_k8, pz_k9, pz_k10, pz_k16, pz_k31, pz_k63, pz_km, nI_add, pz_mul, nI_ltI, nI_eq, nI_clamp, pz_inI, Option.bind_some, Option.toList_some, Option.toList_none, List.cons_append, List.nil_append, Nat.zero_add, Nat.mul_zero, Nat.add_zero, Nat.lt_irrefl, pz_bb, pz_bTr, Bool.false_eq_true, pz_bFa, Nat.reduceEqDiff, Nat.reduceLT, ite_not, pz_mE, pz_mE2, pz_mL, pz_mG, not_true_eq_false, not_false_eq_true, if_true, if_false, reduceIte, eq_self, true_or, or_true, or_false, false_or, and_true, true_and, and_false, false_and]
  obtain ⟨sT, hsT⟩ : ∃ sT, sT = pz_sC A (A 7 s 0) pl (A 8 s 0) (A 12 s 0) := ⟨_, rfl⟩
  have hl := pz_loopP (fun d (j : Option mm_V × mm_HI) => mm_ev 100 43 [some (.inr (.inr (7, 0))), some (.inr (.inr (6, s))), some (.inl (nI pl)), some (.inl (nI (sT d).2.1)), some (.inl (nI (A 8 s 0 + d))), j.1] [] (ids, j.2, L, mm_RS κ)) (fun d j => pz_fr I j.2 ∧ (∀ x, x < 64 → j.2 120 0 x = nI ((sT d).1 x)) ∧ j.2 33 0 0 = pz_cf (sT d) 0 ∧ j.2 34 0 0 = pz_cf (sT d) 1) (64 - A 8 s 0) (fun d j hd hj => ?_) (none, I3) ⟨f3, by rw [hsT]; exact v3, by rw [hsT]; exact w33, by rw [hsT]; exact w34⟩
  · obtain ⟨j, hj, h1, h2, h3, h4⟩ := hl
    rw [← hsT]
    refine ⟨j.2, ?_, h1, h3, h4⟩
    have h0 : sT 0 = (pz_i0 (A 8 s 0) 10000, A 12 s 0 + 1, none) := by rw [hsT]; rfl
    rw [h0] at hj
    rw [hst]
    refine Eq.trans hj ?_
    rw [b100_43]
    simp (disch := omega) only [show A 8 s 0 + (64 - A 8 s 0) = 64 by omega, show (63 : Nat) < 64 by decide, b100_125, pz_k0, pz_k1, pz_k2, pz_k3, pz_k4, pz_k5, pz_k6, pz_k7, pz_k8, pz_k9, pz_k10, pz_k16, pz_k31, pz_k63, pz_km, nI_add, pz_mul, nI_ltI, nI_eq, nI_clamp, pz_inI, Option.bind_some, Option.toList_some, Option.toList_none, List.cons_append, List.nil_append, Nat.zero_add, Nat.mul_zero, Nat.add_zero, Nat.lt_irrefl, pz_bb, pz_bTr, Bool.false_eq_true, pz_bFa, Nat.reduceEqDiff, Nat.reduceLT, ite_not, pz_mE, pz_mE2, pz_mL, pz_mG, not_true_eq_false, not_false_eq_true, if_true, if_false, reduceIte, eq_self, true_or, or_true, or_false, false_or, and_true, true_and, and_false, false_and]
  · try dsimp only at hj
    try dsimp only
    obtain ⟨j1, j2, j3, j4⟩ := hj
    have hC' := pz_C_fr j1 hC
    obtain ⟨d7, d8, -⟩ := pz_C0s hC' hs
    have hset : A 8 s 0 + d < 64 := by omega
    have e1 := j2 _ hset
    have hrl : pz_rlt (A 12 s 0) (sT d) (pz_sM A (A 7 s 0) pl (A 8 s 0) (A 8 s 0 + d)) := by rw [hsT]; exact pz_rlt_all hA a12 d
    have hF := hrl.2.2.2.2.1
    have hLe : (sT d).2.1 ≤ A 12 s 0 + 1 := by rw [hsT]; exact pz_sC_le d
    have hFs := hF (A 8 s 0 + d)
    have hss : sT (d + 1) = pz_s1 A (A 7 s 0) pl (A 8 s 0) 10000 (sT d).2.1 (sT d) (A 8 s 0 + d) := by rw [hsT]; rfl
    rw [hss]
    unfold pz_s1
    by_cases hlt : (sT d).1 (A 8 s 0 + d) < (sT d).2.1
    · rw [if_pos hlt]
      have hpo := pz_po_lt (v := A 8 s 0 + d) hA a7
      have hbt := pz_bt2 (v := pz_po A (A 8 s 0 + d) (A 7 s 0)) (s := pl)
      have hb := pz_po_bt (v := A 8 s 0 + d) hA a7 hpl
      by_cases hT : pz_T A (A 8 s 0 + d) (A 7 s 0) pl < 10000
      · rw [if_pos ⟨hT, hlt⟩]
        have hb1 := hb.mpr hT
        obtain ⟨I4, hI4⟩ : ∃ I4, I4 = mm_uI (mm_uI j.2 33 0 0 (nI ((sT d).1 (A 8 s 0 + d)))) 34 0 0 (nI (pz_df (A 8 s 0 + d) (A 8 s 0))) := ⟨_, rfl⟩
        have f4 : pz_fr I I4 := by
          rw [hI4]
          exact pz_frU rfl (pz_frU rfl j1)
        have e4 : ∀ x, x < 64 → I4 120 0 x = nI ((sT d).1 x) := by
          intro x hx
          rw [hI4, pz_uI_ne (by decide), pz_uI_ne (by decide)]
          exact j2 x hx
        obtain ⟨I5, g1, g2, g3⟩ := sC101 (ids := ids) (L := L) hA (pz_C_fr f4 hC) a7 hset hF e4
        refine ⟨(some (.inl (nI (pz_po A (A 8 s 0 + d) (A 7 s 0)))), I5), ?_, pz_frT f4 (pz_fr_ne rfl g2), g3, ?_, ?_⟩
        · rw [b100_43]
          have d8' : (mm_uI j.2 33 0 0 (nI ((sT d).1 (A 8 s 0 + d)))) 23 s 0 = nI (A 8 s 0) := by
            rw [pz_uI_ne (by decide)]
            exact d8
          simp (disch := omega) only [show ¬ 63 < A 8 s 0 + d by omega, b100_50, hset, e1, b100_57, hlt, b100_61, d7, sC70 hA hC' a7 hset, b100_74, pz_bit, hb1, b100_85, b100_92, d8', pz_dfl hset a8, pz_k0, pz_k1, pz_k2, pz_k3, pz_k4, pz_k5, pz_k6, pz_k7, pz_k8, pz_k9, pz_k10, pz_k16, pz_k31, pz_k63, pz_km, nI_add, pz_mul, nI_ltI, nI_eq, nI_clamp, pz_inI, Option.bind_some, Option.toList_some, Option.toList_none, List.cons_append, List.nil_append, Nat.zero_add, Nat.mul_zero, Nat.add_zero, Nat.lt_irrefl, pz_bb, pz_bTr, Bool.false_eq_true, pz_bFa, Nat.reduceEqDiff, Nat.reduceLT, ite_not, pz_mE, pz_mE2, pz_mL, pz_mG, not_true_eq_false, not_false_eq_true, if_true, if_false, reduceIte, eq_self, true_or, or_true, or_false, false_or, and_true, true_and, and_false, false_and]
          rw [← hI4, b100_111, g1]
          simp (disch := omega) only [b100_119, pz_k0, pz_k1, pz_k2, pz_k3, pz_k4, pz_k5, pz_k6, pz_k7, pz_k8, pz_k9, pz_k10, pz_k16, pz_k31, pz_k63, pz_km, nI_add, pz_mul, nI_ltI, nI_eq, nI_clamp, pz_inI, Option.bind_some, Option.toList_some, Option.toList_none, List.cons_append, List.nil_append, Nat.zero_add, Nat.mul_zero, Nat.add_zero, Nat.lt_irrefl, pz_bb, pz_bTr, Bool.false_eq_true, pz_bFa, Nat.reduceEqDiff, Nat.reduceLT, ite_not, pz_mE, pz_mE2, pz_mL, pz_mG, not_true_eq_false, not_false_eq_true, if_true, if_false, reduceIte, eq_self, true_or, or_true, or_false, false_or, and_true, true_and, and_false, false_and]
          rfl
        · show I5 33 0 0 = _
          rw [g2 33 (by decide), hI4, pz_uI_ne (by decide), pz_uI_at, if_pos rfl]
          rfl
        · show I5 34 0 0 = _
          rw [g2 34 (by decide), hI4, pz_uI_at, if_pos rfl]
          rfl
      · rw [if_neg (fun z => hT z.1)]
        have hb0 : pz_bt (pz_po A (A 8 s 0 + d) (A 7 s 0)) pl = 0 := by
          have : ¬ pz_bt (pz_po A (A 8 s 0 + d) (A 7 s 0)) pl = 1 := fun z => hT (hb.mp z)
          omega
        obtain ⟨I5, g1, g2, g3⟩ := sC101 (ids := ids) (L := L) hA hC' a7 hset hF j2
        refine ⟨(some (.inl (nI (pz_po A (A 8 s 0 + d) (A 7 s 0)))), I5), ?_, pz_frT j1 (pz_fr_ne rfl g2), g3, ?_, ?_⟩
        · rw [b100_43]
          simp (disch := omega) only [show ¬ 63 < A 8 s 0 + d by omega, b100_50, hset, e1, b100_57, hlt, b100_61, d7, sC70 hA hC' a7 hset, b100_74, pz_bit, hb0, pz_k0, pz_k1, pz_k2, pz_k3, pz_k4, pz_k5, pz_k6, pz_k7, pz_k8, pz_k9, pz_k10, pz_k16, pz_k31, pz_k63, pz_km, nI_add, pz_mul, nI_ltI, nI_eq, nI_clamp, pz_inI, Option.bind_some, Option.toList_some, Option.toList_none, List.cons_append, List.nil_append, Nat.zero_add, Nat.mul_zero, Nat.add_zero, Nat.lt_irrefl, pz_bb, pz_bTr, Bool.false_eq_true, pz_bFa, Nat.reduceEqDiff, Nat.reduceLT, ite_not, pz_mE, pz_mE2, pz_mL, pz_mG, not_true_eq_false, not_false_eq_true, if_true, if_false, reduceIte, eq_self, true_or, or_true, or_false, false_or, and_true, true_and, and_false, false_and]
          rw [b100_111, g1]
          simp (disch := omega) only [b100_119, pz_k0, pz_k1, pz_k2, pz_k3, pz_k4, pz_k5, pz_k6, pz_k7, pz_k8, pz_k9, pz_k10, pz_k16, pz_k31, pz_k63, pz_km, nI_add, pz_mul, nI_ltI, nI_eq, nI_clamp, pz_inI, Option.bind_some, Option.toList_some, Option.toList_none, List.cons_append, List.nil_append, Nat.zero_add, Nat.mul_zero, Nat.add_zero, Nat.lt_irrefl, pz_bb, pz_bTr, Bool.false_eq_true, pz_bFa, Nat.reduceEqDiff, Nat.reduceLT, ite_not, pz_mE, pz_mE2, pz_mL, pz_mG, not_true_eq_false, not_false_eq_true, if_true, if_false, reduceIte, eq_self, true_or, or_true, or_false, false_or, and_true, true_and, and_false, false_and]
          rfl
        · show I5 33 0 0 = _
          rw [g2 33 (by decide)]
          exact j3
        · show I5 34 0 0 = _
          rw [g2 34 (by decide)]
          exact j4
    · rw [if_neg hlt]
      refine ⟨(j.1, j.2), ?_, j1, j2, j3, j4⟩
      rw [b100_43]
      simp (disch := omega) only [show ¬ 63 < A 8 s 0 + d by omega, b100_50, hset, e1, b100_57, hlt, b100_119, pz_k0, pz_k1, pz_k2, pz_k3, pz_k4, pz_k5, pz_k6, pz_k7, pz_k8, pz_k9, pz_k10, pz_k16, pz_k31, pz_k63, pz_km, nI_add, pz_mul, nI_ltI, nI_eq, nI_clamp, pz_inI, Option.bind_some, Option.toList_some, Option.toList_none, List.cons_append, List.nil_append, Nat.zero_add, Nat.mul_zero, Nat.add_zero, Nat.lt_irrefl, pz_bb, pz_bTr, Bool.false_eq_true, pz_bFa, Nat.reduceEqDiff, Nat.reduceLT, ite_not, pz_mE, pz_mE2, pz_mL, pz_mG, not_true_eq_false, not_false_eq_true, if_true, if_false, reduceIte, eq_self, true_or, or_true, or_false, false_or, and_true, true_and, and_false, false_and]
      rfl
end PZ52
