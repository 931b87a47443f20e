/-! the abstract state of the two pictures. Its Nats: 0 nb, 1 kind, 2 3 places, 4 size, 5 song, 6 ns, 7 place, 8 verses, 9 breath, 10 day, 11 memory, 12 purse, 13 fee + 1, 14 how many heard, 15 heard, 18 lastUse, 19 deeds, 20 usedAt -/
abbrev pz_A : Type := Nat → Nat → Nat → Nat
/-- verses lacking among the first k of a song, from the place st on -/
def pz_lk (f : Nat → Nat) (st v : Nat) : Nat → Nat
  | 0 => 0
  | k + 1 => pz_lk f st v k + (if st ≤ k then 1 - pz_bt v (f k) else 0)
def pz_st (kd : Nat) : Nat := if kd = 3 then 1 else 0
def pz_cont (kd n v : Nat) : Prop := if kd = 1 ∨ kd = 3 then n ≤ 1 ∧ v ≠ 0 else n = 0
/-- the set of a song's verses -/
def pz_vs (f : Nat → Nat) : Nat → Nat
  | 0 => 0
  | k + 1 => pz_vs f k ||| 2 ^ f k
def pz_pop (v : Nat) : Nat := pz_bt v 0 + pz_bt v 1 + pz_bt v 2 + pz_bt v 3 + pz_bt v 4 + pz_bt v 5
def pz_len (A : pz_A) (b : Nat) : Nat := if A 1 b 0 = 2 then pz_pop (pz_vs (A 5 b) (A 4 b 0)) else A 4 b 0
theorem pz_vs_lt {f : Nat → Nat} : ∀ {n : Nat}, (∀ j, j < n → f j < 6) → pz_vs f n < 64
  | 0, _ => Nat.zero_lt_succ _
  | n + 1, h => pz_orlt (n := 6) (pz_vs_lt (fun j hj => h j (by omega))) (Nat.pow_lt_pow_right (by decide) (h n (by omega)))
theorem pz_lk_le {f : Nat → Nat} {st v : Nat} : ∀ n : Nat, pz_lk f st v n ≤ n
  | 0 => Nat.le_refl 0
  | n + 1 => by
    have := pz_lk_le (f := f) (st := st) (v := v) n
    unfold pz_lk
    split <;> omega
theorem pz_lk_st {f : Nat → Nat} {v st : Nat} (h : st ≤ 1) : pz_lk f st v st = 0 := by
  rcases Nat.le_one_iff_eq_zero_or_eq_one.mp h with rfl | rfl
  · rfl
  · show pz_lk f 1 v 0 + _ = 0
    rw [if_neg (by decide)]
    rfl
theorem pz_pop_le {v : Nat} : pz_pop v ≤ 6 := by
  have h0 := pz_bt2 (v := v) (s := 0)
  have h1 := pz_bt2 (v := v) (s := 1)
  have h2 := pz_bt2 (v := v) (s := 2)
  have h3 := pz_bt2 (v := v) (s := 3)
  have h4 := pz_bt2 (v := v) (s := 4)
  have h5 := pz_bt2 (v := v) (s := 5)
  unfold pz_pop
  omega
set_option maxRecDepth 100000 in
theorem pz_pop0 : ∀ v, v < 64 → v ≠ 0 → 1 ≤ pz_pop v := by decide +kernel
def pz_wfb (A : pz_A) (b : Nat) : Prop := A 1 b 0 ≤ 3 ∧ A 2 b 0 < 6 ∧ A 3 b 0 < 6 ∧ A 2 b 0 ≠ A 3 b 0 ∧ 1 ≤ A 4 b 0 ∧ A 4 b 0 ≤ 5 ∧ ∀ j, j < A 4 b 0 → A 5 b j < 6
def pz_wfs (ck : Nat) (A : pz_A) (s : Nat) : Prop := A 7 s 0 < 6 ∧ A 8 s 0 < 64 ∧ A 9 s 0 ≤ 30 ∧ A 10 s 0 ≤ 30 ∧ 1 ≤ A 11 s 0 ∧ A 11 s 0 ≤ 6 ∧ A 12 s 0 ≤ 99 ∧ A 19 s 0 ≤ ck ∧ (∀ v, v < 6 → A 18 s v ≤ A 19 s 0 ∧ A 20 s v ≤ ck) ∧ ∀ u v, u < 6 → v < 6 → pz_bt (A 8 s 0) u = 1 → pz_bt (A 8 s 0) v = 1 → (A 18 s u < A 18 s v ↔ A 20 s u < A 20 s v)
def pz_wf (ck : Nat) (A : pz_A) : Prop := ck ≤ 64 ∧ A 0 0 0 ≤ 9 ∧ (∀ b, b < A 0 0 0 → pz_wfb A b) ∧ A 6 0 0 ≤ 5 ∧ (∀ s, s < A 6 0 0 → pz_wfs ck A s) ∧ (∀ p v, p < 6 → v < 6 → A 13 p v ≤ 100) ∧ A 14 0 0 ≤ 10 ∧ (∀ k, k < A 14 0 0 → A 15 0 k < A 0 0 0)
def pz_Cb (w : Nat) (A : pz_A) (I : mm_HI) (κ : Nat → Nat) (b : Nat) : Prop := κ (9 * w + b) = A 1 b 0 ∧ I 17 (9 * w + b) 0 = nI (A 2 b 0) ∧ I 18 (9 * w + b) 0 = nI (A 3 b 0) ∧ I 19 (9 * w + b) 0 = nI (A 4 b 0) ∧ I 21 (9 * w + b) 0 = nI (pz_len A b) ∧ ∀ j, j < A 4 b 0 → I 117 (9 * w + b) j = nI (A 5 b j)
def pz_Cs (w : Nat) (A : pz_A) (I : mm_HI) (s : Nat) : Prop := I 22 (5 * w + s) 0 = nI (A 7 s 0) ∧ I 23 (5 * w + s) 0 = nI (A 8 s 0) ∧ I 24 (5 * w + s) 0 = nI (A 9 s 0) ∧ I 25 (5 * w + s) 0 = nI (A 10 s 0) ∧ I 26 (5 * w + s) 0 = nI (A 11 s 0) ∧ I 27 (5 * w + s) 0 = nI (A 12 s 0) ∧ I 28 (5 * w + s) 0 = nI (A 19 s 0) ∧ ∀ v, v < 6 → I 118 (5 * w + s) v = nI (A 18 s v)
/-- a world of the class holds a state -/
def pz_C (w : Nat) (A : pz_A) (I : mm_HI) (κ : Nat → Nat) : Prop := I 10 w 0 = nI (A 0 0 0) ∧ (∀ b, b < A 0 0 0 → pz_Cb w A I κ b) ∧ I 12 w 0 = nI (A 6 0 0) ∧ (∀ s, s < A 6 0 0 → pz_Cs w A I s) ∧ (∀ p v, p < 6 → v < 6 → I 115 (6 * w + p) v = nI (A 13 p v) - nI 1) ∧ I 15 w 0 = nI (A 14 0 0) ∧ (∀ k, k < A 14 0 0 → I 116 w k = nI (A 15 0 k))
/-- the model holds a state: components of song, place, knows, breath, purse, used, fee, heard -/
def pz_Mb (c125 : Nat) (A : pz_A) (J : mm_HI) (b : Nat) : Prop := J 121 0 b = nI (A 1 b 0) ∧ J 122 0 b = nI (A 2 b 0) ∧ J 123 0 b = nI (A 3 b 0) ∧ J 124 0 b = nI (A 4 b 0) ∧ (∀ j, j < A 4 b 0 → J c125 0 (5 * b + j) = nI (A 5 b j)) ∧ ∀ j, A 4 b 0 ≤ j → j < 5 → J c125 0 (5 * b + j) = pz_m
def pz_Ms (c126 c127 c128 c131 c132 : Nat) (A : pz_A) (J : mm_HI) (s : Nat) : Prop := J c126 0 s = nI (A 7 s 0) ∧ J c127 0 s = nI (A 8 s 0) ∧ J c128 0 s = nI (A 9 s 0) ∧ J 129 0 s = nI (A 10 s 0) ∧ J 130 0 s = nI (A 11 s 0) ∧ J c131 0 s = nI (A 12 s 0) ∧ ∀ v, v < 6 → J c132 0 (6 * s + v) = nI (A 20 s v)
def pz_Mg (c41 c125 c47 c126 c127 c128 c131 c132 c133 c57 c134 : Nat) (A : pz_A) (J : mm_HI) : Prop := J c41 0 0 = nI (A 0 0 0) ∧ (∀ b, b < A 0 0 0 → pz_Mb c125 A J b) ∧ J c47 0 0 = nI (A 6 0 0) ∧ (∀ s, s < A 6 0 0 → pz_Ms c126 c127 c128 c131 c132 A J s) ∧ (∀ p v, p < 6 → v < 6 → J c133 0 (6 * p + v) = nI (A 13 p v)) ∧ J c57 0 0 = nI (A 14 0 0) ∧ (∀ k, k < A 14 0 0 → J c134 0 k = nI (A 15 0 k))
def pz_M (A : pz_A) (J : mm_HI) : Prop := pz_Mg 41 125 47 126 127 128 131 132 133 57 134 A J
def pz_MK (A : pz_A) (J : mm_HI) : Prop := pz_Mg 74 139 75 140 141 142 143 144 145 76 146 A J
/-- components outside the relation -/
def pz_sc (c : Nat) : Bool := c == 33 || c == 34 || c == 36 || c == 37 || c == 38 || c == 39 || c == 119 || c == 120 || c == 61 || c == 62 || c == 63 || c == 64 || c == 65 || c == 66 || c == 71 || c == 72 || c == 136 || c == 137 || c == 138
def pz_fr (I I' : mm_HI) : Prop := ∀ c, pz_sc c = false → I' c = I c
theorem pz_fr0 {I : mm_HI} : pz_fr I I := fun _ _ => rfl
theorem pz_frT {I I' I'' : mm_HI} (h : pz_fr I I') (h' : pz_fr I' I'') : pz_fr I I'' := fun c hc => (h' c hc).trans (h c hc)
theorem pz_frU {I I' : mm_HI} {c i j : Nat} {x : Int32} (hc : pz_sc c = true) (h : pz_fr I I') : pz_fr I (mm_uI I' c i j x) := by
  intro c' hc'
  rw [← h c' hc']
  funext i' j'
  unfold mm_uI
  rw [if_neg]
  rintro ⟨rfl, -⟩
  rw [hc] at hc'
  cases hc'
theorem pz_C_fr {w : Nat} {A : pz_A} {I I' : mm_HI} {κ : Nat → Nat} (h : pz_fr I I') (hC : pz_C w A I κ) : pz_C w A I' κ := by
  simp only [pz_C, pz_Cb, pz_Cs] at hC ⊢
  rw [h 10 rfl, h 17 rfl, h 18 rfl, h 19 rfl, h 21 rfl, h 117 rfl, h 12 rfl, h 22 rfl, h 23 rfl, h 24 rfl, h 25 rfl, h 26 rfl, h 27 rfl, h 28 rfl, h 118 rfl, h 115 rfl, h 15 rfl, h 116 rfl]
  exact hC
theorem pz_M_fr {A : pz_A} {I I' : mm_HI} (h : pz_fr I I') (hC : pz_M A I) : pz_M A I' := by
  simp only [pz_M, pz_Mg, pz_Mb, pz_Ms] at hC ⊢
  rw [h 41 rfl, h 121 rfl, h 122 rfl, h 123 rfl, h 124 rfl, h 125 rfl, h 47 rfl, h 126 rfl, h 127 rfl, h 128 rfl, h 129 rfl, h 130 rfl, h 131 rfl, h 132 rfl, h 133 rfl, h 57 rfl, h 134 rfl]
  exact hC
theorem pz_MK_fr {A : pz_A} {I I' : mm_HI} (h : pz_fr I I') (hC : pz_MK A I) : pz_MK A I' := by
  simp only [pz_MK, pz_Mg, pz_Mb, pz_Ms] at hC ⊢
  rw [h 74 rfl, h 121 rfl, h 122 rfl, h 123 rfl, h 124 rfl, h 139 rfl, h 75 rfl, h 140 rfl, h 141 rfl, h 142 rfl, h 129 rfl, h 130 rfl, h 143 rfl, h 144 rfl, h 145 rfl, h 76 rfl, h 146 rfl]
  exact hC
theorem pz_C0b {A : pz_A} {I : mm_HI} {κ : Nat → Nat} {b : Nat} (hC : pz_C 0 A I κ) (hb : b < A 0 0 0) : κ b = A 1 b 0 ∧ I 17 b 0 = nI (A 2 b 0) ∧ I 18 b 0 = nI (A 3 b 0) ∧ I 19 b 0 = nI (A 4 b 0) ∧ I 21 b 0 = nI (pz_len A b) ∧ ∀ j, j < A 4 b 0 → I 117 b j = nI (A 5 b j) := by
  have := hC.2.1 b hb
  simp only [pz_Cb, Nat.mul_zero, Nat.zero_add] at this
  exact this
theorem pz_C0s {A : pz_A} {I : mm_HI} {κ : Nat → Nat} {s : Nat} (hC : pz_C 0 A I κ) (hs : s < A 6 0 0) : I 22 s 0 = nI (A 7 s 0) ∧ I 23 s 0 = nI (A 8 s 0) ∧ I 24 s 0 = nI (A 9 s 0) ∧ I 25 s 0 = nI (A 10 s 0) ∧ I 26 s 0 = nI (A 11 s 0) ∧ I 27 s 0 = nI (A 12 s 0) ∧ I 28 s 0 = nI (A 19 s 0) ∧ ∀ v, v < 6 → I 118 s v = nI (A 18 s v) := by
  have := hC.2.2.2.1 s hs
  simp only [pz_Cs, Nat.mul_zero, Nat.zero_add] at this
  exact this
theorem pz_len_b {ck : Nat} {A : pz_A} {b : Nat} (hA : pz_wf ck A) (hb : b < A 0 0 0) : 1 ≤ pz_len A b ∧ pz_len A b ≤ 6 := by
  obtain ⟨h1, h2, h3, h4, h5, h6, h7⟩ := hA.2.2.1 b hb
  unfold pz_len
  split
  · refine ⟨pz_pop0 _ (pz_vs_lt h7) ?_, pz_pop_le⟩
    obtain ⟨n, hn⟩ : ∃ n, A 4 b 0 = n + 1 := ⟨A 4 b 0 - 1, by omega⟩
    rw [hn]
    intro e
    have e2 : pz_vs (A 5 b) n ||| 2 ^ A 5 b n = 0 := e
    have := (Nat.or_eq_zero_iff.mp e2).2
    have := Nat.two_pow_pos (A 5 b n)
    omega
  · omega
