/-! numbers and bits in one form (nI); loops; the abstract state of the two pictures -/
theorem pz_k0 : (0 : Int32) = nI 0 := rfl
theorem pz_k1 : (1 : Int32) = nI 1 := rfl
theorem pz_k2 : (2 : Int32) = nI 2 := rfl
theorem pz_k3 : (3 : Int32) = nI 3 := rfl
theorem pz_k4 : (4 : Int32) = nI 4 := rfl
theorem pz_k5 : (5 : Int32) = nI 5 := rfl
theorem pz_k6 : (6 : Int32) = nI 6 := rfl
theorem pz_k7 : (7 : Int32) = nI 7 := rfl
theorem pz_k8 : (8 : Int32) = nI 8 := rfl
theorem pz_k9 : (9 : Int32) = nI 9 := rfl
theorem pz_k10 : (10 : Int32) = nI 10 := rfl
theorem pz_k16 : (16 : Int32) = nI 16 := rfl
theorem pz_k31 : (31 : Int32) = nI 31 := rfl
theorem pz_k63 : (63 : Int32) = nI 63 := rfl
def pz_m : Int32 := -1
theorem pz_km : -nI 1 = pz_m := rfl
theorem pz_mE {k : Nat} (h : k < 2 ^ 31) : nI k = pz_m ↔ False := by
  refine ⟨fun e => nI_pos h ?_, False.elim⟩
  rw [e]
  decide
theorem pz_mE2 {k : Nat} (h : k < 2 ^ 31) : pz_m = nI k ↔ False := by
  rw [eq_comm]
  exact pz_mE h
theorem pz_mL {k : Nat} (h : k < 2 ^ 31) : nI k < pz_m ↔ False := by
  refine ⟨fun e => nI_pos h ?_, False.elim⟩
  exact Int32.lt_trans e (by decide)
theorem pz_mG {k : Nat} (h : k < 2 ^ 31) : pz_m < nI k ↔ True := by
  refine ⟨fun _ => trivial, fun _ => ?_⟩
  rw [Int32.lt_iff_toInt_lt, nI_toInt h]
  have : pz_m.toInt = -1 := by decide
  omega
theorem pz_inI {k n : Nat} (h : k < 2 ^ 31) : mm_in (nI k) n = true ↔ k < n := by
  unfold mm_in
  rw [decide_eq_true_eq, nI_clamp h]
  exact ⟨fun z => z.2, fun z => ⟨nI_pos h, z⟩⟩
theorem pz_sub {a b : Nat} (h : b ≤ a) : nI a - nI b = nI (a - b) := by
  obtain ⟨c, rfl⟩ := Nat.exists_eq_add_of_le h
  rw [← nI_add, Nat.add_sub_cancel_left, Int32.add_comm, Int32.add_sub_cancel]
noncomputable def pz_b (P : Prop) : Int32 := @ite _ P (Classical.propDecidable P) (nI 1) (nI 0)
theorem pz_b0 {P : Prop} : pz_b P = nI 0 ↔ ¬ P := by
  unfold pz_b
  by_cases h : P
  · rw [if_pos h]
    exact ⟨fun z => absurd z (by decide), fun z => absurd h z⟩
  · rw [if_neg h]
    exact ⟨fun _ => h, fun _ => rfl⟩
theorem pz_b1 {P : Prop} : pz_b P = nI 1 ↔ P := by
  unfold pz_b
  by_cases h : P
  · rw [if_pos h]
    exact ⟨fun _ => h, fun _ => rfl⟩
  · rw [if_neg h]
    exact ⟨fun z => absurd z (by decide), fun z => absurd z h⟩
theorem pz_bb {P : Prop} : (pz_b P = nI 0 ∨ pz_b P = nI 1) ↔ True := by
  unfold pz_b
  by_cases h : P
  · rw [if_pos h]
    exact ⟨fun _ => trivial, fun _ => Or.inr rfl⟩
  · rw [if_neg h]
    exact ⟨fun _ => trivial, fun _ => Or.inl rfl⟩
theorem pz_bT {P : Prop} (h : P) : pz_b P = nI 1 := if_pos h
theorem pz_bF {P : Prop} (h : ¬ P) : pz_b P = nI 0 := if_neg h
noncomputable def pz_d (P : Prop) : Bool := @decide P (Classical.propDecidable P)
theorem pz_dI {P : Prop} : pz_d P = true ↔ P := by
  unfold pz_d
  exact @decide_eq_true_iff P (Classical.propDecidable P)
theorem pz_dT {P : Prop} (h : P) : pz_d P = true := pz_dI.mpr h
theorem pz_dF {P : Prop} (h : ¬ P) : pz_d P = false := by
  cases e : pz_d P with
  | true => exact absurd (pz_dI.mp e) h
  | false => rfl
theorem pz_bTr : pz_b True = nI 1 := pz_bT trivial
theorem pz_bFa : pz_b False = nI 0 := pz_bF id
theorem pz_loop {X : Type} (E : Nat → X) : ∀ n : Nat, (∀ k, k < n → E k = E (k + 1)) → E 0 = E n
  | 0, _ => rfl
  | n + 1, h => (pz_loop E n (fun k hk => h k (by omega))).trans (h n (by omega))
/-- the first k of a run of d from k on that is so; k + d if none is -/
def pz_fnd (p : Nat → Bool) : Nat → Nat → Nat
  | 0, k => k
  | d + 1, k => if p k = true then k else pz_fnd p d (k + 1)
theorem pz_srch {X : Type} (p : Nat → Bool) (E r : Nat → X) : ∀ d k : Nat, (∀ j, k ≤ j → j < k + d → E j = if p j = true then r j else E (j + 1)) → E k = if pz_fnd p d k < k + d then r (pz_fnd p d k) else E (k + d)
  | 0, k, _ => by
    rw [if_neg (by unfold pz_fnd; omega)]
    rfl
  | d + 1, k, h => by
    rw [h k (Nat.le_refl k) (by omega)]
    unfold pz_fnd
    by_cases hp : p k = true
    · rw [if_pos hp, if_pos hp, if_pos (by omega)]
    · rw [if_neg hp, if_neg hp, pz_srch p E r d (k + 1) (fun j h1 h2 => h j (by omega) (by omega)), show k + 1 + d = k + (d + 1) by omega]
theorem pz_fnd_le {p : Nat → Bool} : ∀ d k : Nat, k ≤ pz_fnd p d k ∧ pz_fnd p d k ≤ k + d
  | 0, k => ⟨Nat.le_refl k, Nat.le_refl k⟩
  | d + 1, k => by
    unfold pz_fnd
    split
    · omega
    · have := pz_fnd_le (p := p) d (k + 1)
      omega
theorem pz_fnd_eq {p q : Nat → Bool} : ∀ d k : Nat, (∀ j, k ≤ j → j < k + d → p j = q j) → pz_fnd p d k = pz_fnd q d k
  | 0, k, _ => rfl
  | d + 1, k, h => by
    unfold pz_fnd
    rw [h k (Nat.le_refl k) (by omega), pz_fnd_eq d (k + 1) (fun j h1 h2 => h j (by omega) (by omega))]
def pz_bt (v s : Nat) : Nat := v / 2 ^ s % 2
theorem pz_bt2 {v s : Nat} : pz_bt v s < 2 := Nat.mod_lt _ (by decide)
set_option maxRecDepth 100000 in
theorem pz_bit0 : ∀ v, v < 512 → ∀ s, s < 10 → ((nI v >>> (nI s &&& nI 31)) &&& nI 1) = nI (pz_bt v s) := by decide +kernel
theorem pz_bit {v s : Nat} (hv : v < 512) (hs : s < 10) : ((nI v >>> (nI s &&& nI 31)) &&& nI 1) = nI (pz_bt v s) := pz_bit0 v hv s hs
theorem pz_one0 : ∀ s, s < 10 → (nI 1 <<< (nI s &&& nI 31)) = nI (2 ^ s) := by decide +kernel
theorem pz_one {s : Nat} (hs : s < 10) : (nI 1 <<< (nI s &&& nI 31)) = nI (2 ^ s) := pz_one0 s hs
theorem pz_or (v w : Nat) : (nI v ||| nI w) = nI (v ||| w) := by
  unfold nI
  apply Int32.toBitVec_inj.mp
  simp [Int32.toBitVec_or, Int32.toBitVec_ofNat']
theorem pz_and (v w : Nat) : (nI v &&& nI w) = nI (v &&& w) := by
  unfold nI
  apply Int32.toBitVec_inj.mp
  simp [Int32.toBitVec_and, Int32.toBitVec_ofNat']
theorem pz_orlt {n v w : Nat} (hv : v < 2 ^ n) (hw : w < 2 ^ n) : v ||| w < 2 ^ n := Nat.or_lt_two_pow hv hw
theorem pz_bt_tb {v s : Nat} : pz_bt v s = (v.testBit s).toNat := by
  unfold pz_bt
  rw [Nat.toNat_testBit]
theorem pz_fnd_no : ∀ d k : Nat, pz_fnd (fun _ => false) d k = k + d
  | 0, k => rfl
  | d + 1, k => by
    unfold pz_fnd
    rw [if_neg (by decide), pz_fnd_no d (k + 1)]
    omega
theorem pz_fnd_not {p : Nat → Bool} : ∀ d k j : Nat, k ≤ j → j < pz_fnd p d k → p j = false
  | 0, k, j, h1, h2 => by unfold pz_fnd at h2; omega
  | d + 1, k, j, h1, h2 => by
    unfold pz_fnd at h2
    by_cases hp : p k = true
    · rw [if_pos hp] at h2
      omega
    · rw [if_neg hp] at h2
      by_cases hj : j = k
      · subst hj
        simpa using hp
      · exact pz_fnd_not d (k + 1) j (by omega) h2
theorem pz_fnd_is {p : Nat → Bool} : ∀ d k : Nat, pz_fnd p d k < k + d → p (pz_fnd p d k) = true
  | 0, k, h => by unfold pz_fnd at h; omega
  | d + 1, k, h => by
    unfold pz_fnd at h ⊢
    by_cases hp : p k = true
    · rw [if_pos hp]
      exact hp
    · rw [if_neg hp] at h ⊢
      exact pz_fnd_is d (k + 1) (by omega)
theorem pz_mul (a b : Nat) : nI a * nI b = nI (a * b) := by
  unfold nI
  rw [Int32.ofNat_mul]
theorem pz_ts {a k : Nat} {l : List Nat} (hk : k < 2 ^ 31) : mm_ts a 0 l (nI k) = l.getD k a := by
  unfold mm_ts
  rw [nI_toInt hk]
  split
  next h =>
    rw [List.getD, List.getElem?_eq_none (by omega)]
    rfl
  next h =>
    rw [show ((k : Int) - 0).toNat = k by omega]
