/-! changes of the state: what is kept; the relation behind a change -/
def pz_kw (w c i : Nat) : Prop := (9 * w ≤ i ∧ i < 9 * w + 9 ∧ (c = 17 ∨ c = 18 ∨ c = 19 ∨ c = 21 ∨ c = 117)) ∨ (5 * w ≤ i ∧ i < 5 * w + 5 ∧ ((22 ≤ c ∧ c ≤ 28) ∨ c = 118)) ∨ (6 * w ≤ i ∧ i < 6 * w + 6 ∧ c = 115) ∨ (i = w ∧ (c = 10 ∨ c = 12 ∨ c = 15 ∨ c = 116))
def pz_kk (c i : Nat) : Prop := pz_kw 1 c i ∨ c = 4 ∨ c = 8 ∨ c = 110
def pz_kz (c : Nat) : Bool := c == 59 || c == 135 || c == 73 || c == 74 || c == 139 || c == 75 || c == 140 || c == 141 || c == 142 || c == 143 || c == 144 || c == 145 || c == 76 || c == 146
section PZ54
variable {k ck ck' n g w s m b : Nat} {f : Nat → Nat} {A A' : pz_A} {κ κ' : Nat → Nat} {I J I' J' I0 J0 : mm_HI} {LC LM LC' LM' : mm_HL} {S : Nat → Nat → Nat}
theorem pz_C_w (hA : pz_wf ck A) (hI : ∀ c i, pz_kw w c i → I' c i = I c i) (hκ : ∀ b, b < 9 → κ' (9 * w + b) = κ (9 * w + b)) (hC : pz_C w A I κ) : pz_C w A I' κ' := by
  obtain ⟨h1, h2, h3, h4, h5, h6, h7⟩ := hC
  have n9 := hA.2.1
  have n5 := hA.2.2.2.1
  have e : ∀ c i j, pz_kw w c i → I' c i j = I c i j := fun c i j h => by rw [hI c i h]
  refine ⟨?_, fun b hb => ?_, ?_, fun s hs => ?_, fun p v hp hv => ?_, ?_, fun k hk => ?_⟩
  · rw [e 10 w 0 (by unfold pz_kw; omega)]
    exact h1
  · obtain ⟨b1, b2, b3, b4, b5, b6⟩ := h2 b hb
    refine ⟨by rw [hκ b (by omega)]; exact b1, ?_, ?_, ?_, ?_, fun j hj => ?_⟩
    · rw [e 17 _ 0 (by unfold pz_kw; omega)]
      exact b2
    · rw [e 18 _ 0 (by unfold pz_kw; omega)]
      exact b3
    · rw [e 19 _ 0 (by unfold pz_kw; omega)]
      exact b4
    · rw [e 21 _ 0 (by unfold pz_kw; omega)]
      exact b5
    · rw [e 117 _ j (by unfold pz_kw; omega)]
      exact b6 j hj
  · rw [e 12 w 0 (by unfold pz_kw; omega)]
    exact h3
  · obtain ⟨b1, b2, b3, b4, b5, b6, b7, b8⟩ := h4 s hs
    refine ⟨?_, ?_, ?_, ?_, ?_, ?_, ?_, fun v hv => ?_⟩
    · rw [e 22 _ 0 (by unfold pz_kw; omega)]
      exact b1
    · rw [e 23 _ 0 (by unfold pz_kw; omega)]
      exact b2
    · rw [e 24 _ 0 (by unfold pz_kw; omega)]
      exact b3
    · rw [e 25 _ 0 (by unfold pz_kw; omega)]
      exact b4
    · rw [e 26 _ 0 (by unfold pz_kw; omega)]
      exact b5
    · rw [e 27 _ 0 (by unfold pz_kw; omega)]
      exact b6
    · rw [e 28 _ 0 (by unfold pz_kw; omega)]
      exact b7
    · rw [e 118 _ v (by unfold pz_kw; omega)]
      exact b8 v hv
  · rw [e 115 _ v (by unfold pz_kw; omega)]
    exact h5 p v hp hv
  · rw [e 15 w 0 (by unfold pz_kw; omega)]
    exact h6
  · rw [e 116 w k (by unfold pz_kw; omega)]
    exact h7 k hk
theorem pz_wf_ck (h1 : ck ≤ ck') (h2 : ck' ≤ 64) (hA : pz_wf ck A) : pz_wf ck' A := by
  obtain ⟨a1, a2, a3, a4, a5, a6⟩ := hA
  refine ⟨h2, a2, a3, a4, fun s hs => ?_, a6⟩
  obtain ⟨b1, b2, b3, b4, b5, b6, b7, b8, b9, b10⟩ := a5 s hs
  exact ⟨b1, b2, b3, b4, b5, b6, b7, by omega, fun v hv => ⟨(b9 v hv).1, by have := (b9 v hv).2; omega⟩, b10⟩
theorem pz_MK_k {B : pz_A} (hJ : ∀ c, pz_kz c = true → J' c = J c) (hJb : ∀ c b, (c = 121 ∨ c = 122 ∨ c = 123 ∨ c = 124) → b < B 0 0 0 → J' c 0 b = J c 0 b) (hJs : ∀ c s, (c = 129 ∨ c = 130) → s < B 6 0 0 → J' c 0 s = J c 0 s) (hM : pz_MK B J) : pz_MK B J' := by
  obtain ⟨h1, h2, h3, h4, h5, h6, h7⟩ := hM
  refine ⟨?_, fun b hb => ?_, ?_, fun s hs => ?_, ?_, ?_, ?_⟩
  · rw [hJ 74 rfl]
    exact h1
  · obtain ⟨b1, b2, b3, b4, b5, b6⟩ := h2 b hb
    unfold pz_Mb
    rw [hJ 139 rfl, hJb 121 b (by omega) hb, hJb 122 b (by omega) hb, hJb 123 b (by omega) hb, hJb 124 b (by omega) hb]
    exact ⟨b1, b2, b3, b4, b5, b6⟩
  · rw [hJ 75 rfl]
    exact h3
  · obtain ⟨b1, b2, b3, b4, b5, b6, b7⟩ := h4 s hs
    unfold pz_Ms
    rw [hJ 140 rfl, hJ 141 rfl, hJ 142 rfl, hJ 143 rfl, hJ 144 rfl, hJs 129 s (by omega) hs, hJs 130 s (by omega) hs]
    exact ⟨b1, b2, b3, b4, b5, b6, b7⟩
  · rw [hJ 145 rfl]
    exact h5
  · rw [hJ 76 rfl]
    exact h6
  · rw [hJ 146 rfl]
    exact h7
theorem pz_put (h : pz_Q k ck n g f A κ I J) (hk : k < 64) (hκ : ∀ i, κ' i < 4) (hc1 : ck ≤ ck') (hc2 : ck' ≤ ck + 1) (h55 : J' 55 0 0 = nI ck') (hA' : pz_wf ck' A') (hC' : pz_C 0 A' I' κ') (hM' : pz_M A' J') (hI : ∀ c i, pz_kk c i → I' c i = I c i) (hκ1 : ∀ b, κ' (9 + b) = κ (9 + b)) (hJ : ∀ c, pz_kz c = true → J' c = J c) (hJb : ∀ c b, (c = 121 ∨ c = 122 ∨ c = 123 ∨ c = 124) → b < A 0 0 0 → J' c 0 b = J c 0 b) (hJs : ∀ c s, (c = 129 ∨ c = 130) → s < A 6 0 0 → J' c 0 s = J c 0 s) (hn : A 0 0 0 ≤ A' 0 0 0) (hs : A 6 0 0 ≤ A' 6 0 0) : pz_R (k + 1) (mm_idC, I', LC', mm_RS κ') (mm_idM, J', LM', mm_RM) := by
  obtain ⟨q1, q2, q3, q4, q5, q6, q7, q8, q9, q10, q11⟩ := h
  refine ⟨ck', n, g, f, A', κ', I', J', LC', LM', rfl, rfl, hκ, by omega, h55, hA', hC', hM', pz_pg_fr q7 (funext fun i => hI 8 i (by unfold pz_kk; omega)) (funext fun i => hI 110 i (by unfold pz_kk; omega)) (hJ 59 rfl) (hJ 135 rfl), q8, by rw [hI 4 0 (by unfold pz_kk; omega)]; exact q9, by rw [hJ 73 rfl]; exact q10, fun hg => ?_⟩
  obtain ⟨B, b1, b2, b3, b4, b5⟩ := q11 hg
  exact ⟨B, pz_wf_ck hc1 (by omega) b1, pz_C_w b1 (fun c i h => hI c i (Or.inl h)) (fun b _ => hκ1 b) b2, pz_MK_k hJ (fun c b h1 h2 => hJb c b h1 (by omega)) (fun c s h1 h2 => hJs c s h1 (by omega)) b3, by omega, by omega⟩
theorem pz_uI_i {c i x c' i' : Nat} {z : Int32} (h : c' ≠ c ∨ i' ≠ i) : mm_uI I c i x z c' i' = I c' i' := by
  funext j
  unfold mm_uI
  rw [if_neg]
  rintro ⟨h1, h2, -⟩
  omega
theorem pz_uI_j {c i x c' i' j' : Nat} {z : Int32} (h : c' ≠ c ∨ i' ≠ i ∨ j' ≠ x) : mm_uI I c i x z c' i' j' = I c' i' j' := by
  unfold mm_uI
  rw [if_neg]
  rintro ⟨h1, h2, h3⟩
  omega
theorem pz_uI_s {c i x : Nat} {z : Int32} : mm_uI I c i x z c i x = z := if_pos ⟨rfl, rfl, rfl⟩
theorem pz_kk_0 : ∀ c i, pz_kk c i → I c i = I c i := fun _ _ _ => rfl
theorem pz_kk_u {c i x : Nat} {z : Int32} (hn : ¬ pz_kk c i) (h : ∀ c' i', pz_kk c' i' → I' c' i' = I0 c' i') : ∀ c' i', pz_kk c' i' → mm_uI I' c i x z c' i' = I0 c' i' := by
  intro c' i' hk
  rw [← h c' i' hk]
  refine pz_uI_i ?_
  refine Classical.byContradiction (fun z => hn ?_)
  rw [show c = c' by omega, show i = i' by omega]
  exact hk
theorem pz_kk_fr (h : pz_fr I I') : ∀ c i, pz_kk c i → I' c i = I c i := by
  intro c i hk
  rw [h c ?_]
  unfold pz_kk pz_kw at hk
  unfold pz_sc
  simp only [Bool.or_eq_false_iff, beq_eq_false_iff_ne]
  omega
theorem pz_kz_0 : ∀ c, pz_kz c = true → J c = J c := fun _ _ => rfl
theorem pz_kz_u {c i x : Nat} {z : Int32} (hn : pz_kz c = false) (h : ∀ c', pz_kz c' = true → J' c' = J0 c') : ∀ c', pz_kz c' = true → mm_uI J' c i x z c' = J0 c' := by
  intro c' hk
  rw [← h c' hk]
  refine pz_uI_ne ?_
  rintro rfl
  rw [hn] at hk
  cases hk
/-- a singer's record -/
def pz_sA (A : pz_A) (s m : Nat) (S : Nat → Nat → Nat) : pz_A := fun c i j => if c = 6 then m else if (7 ≤ c ∧ c ≤ 12 ∨ 18 ≤ c ∧ c ≤ 20) ∧ i = s then S c j else A c i j
theorem pz_sA_6 {i j : Nat} : pz_sA A s m S 6 i j = m := if_pos rfl
theorem pz_sA_c {c : Nat} (h : c ≠ 6 ∧ ¬ (7 ≤ c ∧ c ≤ 12 ∨ 18 ≤ c ∧ c ≤ 20)) : pz_sA A s m S c = A c := by
  funext i j
  unfold pz_sA
  rw [if_neg h.1, if_neg (fun z => h.2 z.1)]
theorem pz_sA_i {c i : Nat} (hi : i ≠ s) (h : c ≠ 6) : pz_sA A s m S c i = A c i := by
  funext j
  unfold pz_sA
  rw [if_neg h, if_neg (fun z => hi z.2)]
theorem pz_sA_e {c : Nat} (h : 7 ≤ c ∧ c ≤ 12 ∨ 18 ≤ c ∧ c ≤ 20) : pz_sA A s m S c s = S c := by
  funext j
  unfold pz_sA
  rw [if_neg (by omega), if_pos ⟨h, rfl⟩]
theorem pz_wf_s (hA : pz_wf ck A) (h1 : ck ≤ ck') (h2 : ck' ≤ 64) (hm : m ≤ 5) (hs : ∀ t, t < m → t ≠ s → t < A 6 0 0) (hS : s < m → pz_wfs ck' (pz_sA A s m S) s) : pz_wf ck' (pz_sA A s m S) := by
  obtain ⟨a1, a2, a3, a4, a5, a6, a7, a8⟩ := pz_wf_ck h1 h2 hA
  simp (disch := decide) only [pz_wf, pz_wfb, pz_sA_c, pz_sA_6]
  refine ⟨h2, a2, a3, hm, fun t ht => ?_, a6, a7, a8⟩
  by_cases e : t = s
  · rw [e]
    exact hS (by omega)
  · have e2 : ∀ c, c ≠ 6 → pz_sA A s m S c t = A c t := fun c hc => pz_sA_i e hc
    simp (disch := decide) only [pz_wfs, e2]
    exact a5 t (hs t ht e)
theorem pz_C_s (hC : pz_C 0 A I κ) (hI : ∀ c i, c ≠ 12 ∧ (¬ (22 ≤ c ∧ c ≤ 28 ∨ c = 118) ∨ i ≠ s) → I' c i = I c i) (h12 : I' 12 0 0 = nI m) (hs : ∀ t, t < m → t ≠ s → t < A 6 0 0) (hS : s < m → pz_Cs 0 (pz_sA A s m S) I' s) : pz_C 0 (pz_sA A s m S) I' κ := by
  obtain ⟨c1, c2, c3, c4, c5, c6, c7⟩ := hC
  have e : ∀ c i j, c ≠ 12 ∧ (¬ (22 ≤ c ∧ c ≤ 28 ∨ c = 118) ∨ i ≠ s) → I' c i j = I c i j := fun c i j h => by rw [hI c i h]
  simp (disch := decide) only [pz_C, pz_Cb, pz_len, pz_sA_c, pz_sA_6]
  refine ⟨by rw [e 10 0 0 (by omega)]; exact c1, fun b hb => ?_, h12, fun t ht => ?_, fun p v hp hv => by rw [e 115 _ _ (by omega)]; exact c5 p v hp hv, by rw [e 15 0 0 (by omega)]; exact c6, fun k hk => by rw [e 116 0 k (by omega)]; exact c7 k hk⟩
  · rw [e 17 _ _ (by omega), e 18 _ _ (by omega), e 19 _ _ (by omega), e 21 _ _ (by omega), hI 117 _ (by omega)]
    exact c2 b hb
  · by_cases q : t = s
    · rw [q]
      exact hS (by omega)
    · have e2 : ∀ c, c ≠ 6 → pz_sA A s m S c t = A c t := fun c hc => pz_sA_i q hc
      have q0 : 5 * 0 + t ≠ s := by omega
      simp (disch := decide) only [pz_Cs, e2]
      rw [e 22 _ _ (by omega), e 23 _ _ (by omega), e 24 _ _ (by omega), e 25 _ _ (by omega), e 26 _ _ (by omega), e 27 _ _ (by omega), e 28 _ _ (by omega), hI 118 _ (by omega)]
      exact c4 t (hs t ht q)
theorem pz_M_s (hM : pz_M A J) (hJ : ∀ c, c ≠ 47 ∧ c ≠ 55 ∧ ¬ (126 ≤ c ∧ c ≤ 132) → J' c = J c) (hJ2 : ∀ c j, 126 ≤ c ∧ c ≤ 131 ∧ j ≠ s → J' c 0 j = J c 0 j) (hJ3 : ∀ j, j < 6 * s ∨ 6 * s + 6 ≤ j → J' 132 0 j = J 132 0 j) (h47 : J' 47 0 0 = nI m) (hs : ∀ t, t < m → t ≠ s → t < A 6 0 0) (hS : s < m → pz_Ms 126 127 128 131 132 (pz_sA A s m S) J' s) : pz_M (pz_sA A s m S) J' := by
  obtain ⟨c1, c2, c3, c4, c5, c6, c7⟩ := hM
  simp (disch := decide) only [pz_M, pz_Mg, pz_Mb, pz_sA_c, pz_sA_6]
  rw [hJ 41 (by omega), hJ 121 (by omega), hJ 122 (by omega), hJ 123 (by omega), hJ 124 (by omega), hJ 125 (by omega), hJ 133 (by omega), hJ 57 (by omega), hJ 134 (by omega)]
  refine ⟨c1, c2, h47, fun t ht => ?_, c5, c6, c7⟩
  by_cases q : t = s
  · rw [q]
    exact hS (by omega)
  · have e2 : ∀ c, c ≠ 6 → pz_sA A s m S c t = A c t := fun c hc => pz_sA_i q hc
    obtain ⟨d1, d2, d3, d4, d5, d6, d7⟩ := c4 t (hs t ht q)
    simp (disch := decide) only [pz_Ms, e2]
    rw [hJ2 126 t (by omega), hJ2 127 t (by omega), hJ2 128 t (by omega), hJ2 129 t (by omega), hJ2 130 t (by omega), hJ2 131 t (by omega)]
    refine ⟨d1, d2, d3, d4, d5, d6, fun v hv => ?_⟩
    rw [hJ3 (6 * t + v) (by omega)]
    exact d7 v hv
/-- a fee -/
def pz_fA (A : pz_A) (p v x : Nat) : pz_A := fun c i j => if c = 13 ∧ i = p ∧ j = v then x else A c i j
theorem pz_fA_c {p v x c : Nat} (h : c ≠ 13) : pz_fA A p v x c = A c := by
  funext i j
  unfold pz_fA
  rw [if_neg (fun z => h z.1)]
theorem pz_fA_e {p v x : Nat} : pz_fA A p v x 13 p v = x := if_pos ⟨rfl, rfl, rfl⟩
theorem pz_fA_n {p v x i j : Nat} (h : i ≠ p ∨ j ≠ v) : pz_fA A p v x 13 i j = A 13 i j := by
  unfold pz_fA
  rw [if_neg]
  rintro ⟨-, h1, h2⟩
  omega
theorem pz_wf_f {p v x : Nat} (hx : x ≤ 100) (hA : pz_wf ck A) : pz_wf ck (pz_fA A p v x) := by
  obtain ⟨a1, a2, a3, a4, a5, a6, a7, a8⟩ := hA
  simp (disch := decide) only [pz_wf, pz_wfb, pz_wfs, pz_fA_c]
  refine ⟨a1, a2, a3, a4, a5, fun i j hi hj => ?_, a7, a8⟩
  by_cases q : i = p ∧ j = v
  · rw [q.1, q.2, pz_fA_e]
    exact hx
  · rw [pz_fA_n (by omega)]
    exact a6 i j hi hj
theorem pz_C_f {p v x : Nat} {z : Int32} (hz : z = nI x - nI 1) (hC : pz_C 0 A I κ) : pz_C 0 (pz_fA A p v x) (mm_uI I 115 p v z) κ := by
  obtain ⟨c1, c2, c3, c4, c5, c6, c7⟩ := hC
  simp (disch := decide) only [pz_C, pz_Cb, pz_Cs, pz_len, pz_fA_c, pz_uI_ne]
  refine ⟨c1, c2, c3, c4, fun i j hi hj => ?_, c6, c7⟩
  by_cases q : i = p ∧ j = v
  · rw [q.1, q.2, pz_fA_e, Nat.mul_zero, Nat.zero_add, pz_uI_s]
    exact hz
  · rw [pz_fA_n (by omega), pz_uI_j (by omega)]
    exact c5 i j hi hj
theorem pz_M_f {p v x : Nat} (hp : p < 6) (hv : v < 6) (hM : pz_M A J) : pz_M (pz_fA A p v x) (mm_uI J 133 0 (6 * p + v) (nI x)) := by
  obtain ⟨c1, c2, c3, c4, c5, c6, c7⟩ := hM
  simp (disch := decide) only [pz_M, pz_Mg, pz_Mb, pz_Ms, pz_fA_c, pz_uI_ne]
  refine ⟨c1, c2, c3, c4, fun i j hi hj => ?_, c6, c7⟩
  by_cases q : i = p ∧ j = v
  · rw [q.1, q.2, pz_fA_e, pz_uI_s]
  · rw [pz_fA_n (by omega), pz_uI_j (by omega)]
    exact c5 i j hi hj
/-- what was heard -/
def pz_hA (A : pz_A) (m : Nat) (H : Nat → Nat) : pz_A := fun c i j => if c = 14 then m else if c = 15 then H j else A c i j
theorem pz_hA_c {H : Nat → Nat} {c : Nat} (h : c ≠ 14 ∧ c ≠ 15) : pz_hA A m H c = A c := by
  funext i j
  unfold pz_hA
  rw [if_neg h.1, if_neg h.2]
theorem pz_hA_m {H : Nat → Nat} {i j : Nat} : pz_hA A m H 14 i j = m := rfl
theorem pz_hA_h {H : Nat → Nat} {i j : Nat} : pz_hA A m H 15 i j = H j := rfl
theorem pz_wf_h {H : Nat → Nat} (hm : m ≤ 10) (hH : ∀ k, k < m → H k < A 0 0 0) (hA : pz_wf ck A) : pz_wf ck (pz_hA A m H) := by
  obtain ⟨a1, a2, a3, a4, a5, a6, a7, a8⟩ := hA
  simp (disch := decide) only [pz_wf, pz_wfb, pz_wfs, pz_hA_c, pz_hA_m, pz_hA_h]
  exact ⟨a1, a2, a3, a4, a5, a6, hm, hH⟩
theorem pz_C_h {H : Nat → Nat} (hI : ∀ c, c ≠ 15 ∧ c ≠ 116 → I' c = I c) (h15 : I' 15 0 0 = nI m) (hH : ∀ k, k < m → I' 116 0 k = nI (H k)) (hC : pz_C 0 A I κ) : pz_C 0 (pz_hA A m H) I' κ := by
  obtain ⟨c1, c2, c3, c4, c5, c6, c7⟩ := hC
  simp (disch := decide) only [pz_C, pz_Cb, pz_Cs, pz_len, pz_hA_c, pz_hA_m, pz_hA_h, hI]
  exact ⟨c1, c2, c3, c4, c5, h15, hH⟩
theorem pz_M_h {H : Nat → Nat} (hJ : ∀ c, c ≠ 57 ∧ c ≠ 134 → J' c = J c) (h57 : J' 57 0 0 = nI m) (hH : ∀ k, k < m → J' 134 0 k = nI (H k)) (hM : pz_M A J) : pz_M (pz_hA A m H) J' := by
  obtain ⟨c1, c2, c3, c4, c5, c6, c7⟩ := hM
  simp (disch := decide) only [pz_M, pz_Mg, pz_Mb, pz_Ms, pz_hA_c, pz_hA_m, pz_hA_h, hJ]
  exact ⟨c1, c2, c3, c4, c5, h57, hH⟩
/-- a bridge's record -/
def pz_bA (A : pz_A) (b m : Nat) (B : Nat → Nat → Nat) : pz_A := fun c i j => if c = 0 then m else if (1 ≤ c ∧ c ≤ 5) ∧ i = b then B c j else A c i j
theorem pz_bA_0 {B : Nat → Nat → Nat} {i j : Nat} : pz_bA A b m B 0 i j = m := if_pos rfl
theorem pz_bA_c {B : Nat → Nat → Nat} {c : Nat} (h : 6 ≤ c) : pz_bA A b m B c = A c := by
  funext i j
  unfold pz_bA
  rw [if_neg (by omega), if_neg (by omega)]
theorem pz_bA_i {B : Nat → Nat → Nat} {c i : Nat} (hi : i ≠ b) (h : c ≠ 0) : pz_bA A b m B c i = A c i := by
  funext j
  unfold pz_bA
  rw [if_neg h, if_neg (fun z => hi z.2)]
theorem pz_bA_e {B : Nat → Nat → Nat} {c : Nat} (h : 1 ≤ c ∧ c ≤ 5) : pz_bA A b m B c b = B c := by
  funext j
  unfold pz_bA
  rw [if_neg (by omega), if_pos ⟨h, rfl⟩]
theorem pz_wf_b {B : Nat → Nat → Nat} (hA : pz_wf ck A) (hm : m ≤ 9) (hm2 : A 0 0 0 ≤ m) (hs : ∀ t, t < m → t ≠ b → t < A 0 0 0) (hB : b < m → pz_wfb (pz_bA A b m B) b) : pz_wf ck (pz_bA A b m B) := by
  obtain ⟨a1, a2, a3, a4, a5, a6, a7, a8⟩ := hA
  simp (disch := decide) only [pz_wf, pz_wfs, pz_bA_c, pz_bA_0]
  refine ⟨a1, hm, fun t ht => ?_, a4, a5, a6, a7, fun k hk => Nat.lt_of_lt_of_le (a8 k hk) hm2⟩
  by_cases e : t = b
  · rw [e]
    exact hB (by omega)
  · have e2 : ∀ c, c ≠ 0 → pz_bA A b m B c t = A c t := fun c hc => pz_bA_i e hc
    simp (disch := decide) only [pz_wfb, e2]
    exact a3 t (hs t ht e)
theorem pz_C_b {B : Nat → Nat → Nat} (hC : pz_C 0 A I κ) (hI : ∀ c i, c ≠ 10 ∧ (¬ (c = 17 ∨ c = 18 ∨ c = 19 ∨ c = 21 ∨ c = 117) ∨ i ≠ b) → I' c i = I c i) (hκ : ∀ i, i ≠ b → κ' i = κ i) (h10 : I' 10 0 0 = nI m) (hs : ∀ t, t < m → t ≠ b → t < A 0 0 0) (hB : b < m → pz_Cb 0 (pz_bA A b m B) I' κ' b) : pz_C 0 (pz_bA A b m B) I' κ' := by
  obtain ⟨c1, c2, c3, c4, c5, c6, c7⟩ := hC
  have e : ∀ c i j, c ≠ 10 ∧ (¬ (c = 17 ∨ c = 18 ∨ c = 19 ∨ c = 21 ∨ c = 117) ∨ i ≠ b) → I' c i j = I c i j := fun c i j h => by rw [hI c i h]
  simp (disch := decide) only [pz_C, pz_Cs, pz_bA_c, pz_bA_0]
  refine ⟨h10, fun t ht => ?_, by rw [e 12 0 0 (by omega)]; exact c3, fun s hs => ?_, fun p v hp hv => by rw [e 115 _ _ (by omega)]; exact c5 p v hp hv, by rw [e 15 0 0 (by omega)]; exact c6, fun k hk => by rw [e 116 0 k (by omega)]; exact c7 k hk⟩
  · by_cases q : t = b
    · rw [q]
      exact hB (by omega)
    · have e2 : ∀ c, c ≠ 0 → pz_bA A b m B c t = A c t := fun c hc => pz_bA_i q hc
      have q0 : 9 * 0 + t ≠ b := by omega
      simp (disch := decide) only [pz_Cb, pz_len, e2]
      rw [hκ _ q0, e 17 _ _ (by omega), e 18 _ _ (by omega), e 19 _ _ (by omega), e 21 _ _ (by omega), hI 117 _ (by omega)]
      exact c2 t (hs t ht q)
  · rw [e 22 _ _ (by omega), e 23 _ _ (by omega), e 24 _ _ (by omega), e 25 _ _ (by omega), e 26 _ _ (by omega), e 27 _ _ (by omega), e 28 _ _ (by omega), hI 118 _ (by omega)]
    exact c4 s hs
theorem pz_M_b {B : Nat → Nat → Nat} (hM : pz_M A J) (hJ : ∀ c, c ≠ 41 ∧ ¬ (121 ≤ c ∧ c ≤ 125) → J' c = J c) (hJ2 : ∀ c j, 121 ≤ c ∧ c ≤ 124 ∧ j ≠ b → J' c 0 j = J c 0 j) (hJ3 : ∀ j, j < 5 * b ∨ 5 * b + 5 ≤ j → J' 125 0 j = J 125 0 j) (h41 : J' 41 0 0 = nI m) (hs : ∀ t, t < m → t ≠ b → t < A 0 0 0) (hB : b < m → pz_Mb 125 (pz_bA A b m B) J' b) (hA : pz_wf ck A) : pz_M (pz_bA A b m B) J' := by
  obtain ⟨c1, c2, c3, c4, c5, c6, c7⟩ := hM
  simp (disch := decide) only [pz_M, pz_Mg, pz_Ms, pz_bA_c, pz_bA_0]
  rw [hJ 47 (by omega), hJ 126 (by omega), hJ 127 (by omega), hJ 128 (by omega), hJ 129 (by omega), hJ 130 (by omega), hJ 131 (by omega), hJ 132 (by omega), hJ 133 (by omega), hJ 57 (by omega), hJ 134 (by omega)]
  refine ⟨h41, fun t ht => ?_, c3, c4, c5, c6, c7⟩
  by_cases q : t = b
  · rw [q]
    exact hB (by omega)
  · have e2 : ∀ c, c ≠ 0 → pz_bA A b m B c t = A c t := fun c hc => pz_bA_i q hc
    obtain ⟨-, -, -, -, w1, w2, -⟩ := hA.2.2.1 t (hs t ht q)
    obtain ⟨d1, d2, d3, d4, d5, d6⟩ := c2 t (hs t ht q)
    simp (disch := decide) only [pz_Mb, e2]
    rw [hJ2 121 t (by omega), hJ2 122 t (by omega), hJ2 123 t (by omega), hJ2 124 t (by omega)]
    refine ⟨d1, d2, d3, d4, fun j hj => ?_, fun j hj1 hj2 => ?_⟩
    · rw [hJ3 (5 * t + j) (by omega)]
      exact d5 j hj
    · rw [hJ3 (5 * t + j) (by omega)]
      exact d6 j hj1 hj2
end PZ54
