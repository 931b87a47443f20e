/-! the shortest ways: rounds of shortening come to the one row that is closed and reached -/
def pz_up (D : Nat → Nat) (x n : Nat) : Nat → Nat := fun z => if z = x then n else D z
theorem pz_up_e {D : Nat → Nat} {x n : Nat} : pz_up D x n x = n := if_pos rfl
theorem pz_up_n {D : Nat → Nat} {x n z : Nat} (h : z ≠ x) : pz_up D x n z = D z := if_neg h
def pz_rx (D : Nat → Nat) (x y l : Nat) : Nat → Nat := pz_up (pz_up D x (min (D x) (D y + l))) y (min (pz_up D x (min (D x) (D y + l)) y) (pz_up D x (min (D x) (D y + l)) x + l))
theorem pz_rx_x {D : Nat → Nat} {x y l : Nat} (h : x ≠ y) : pz_rx D x y l x = min (D x) (D y + l) := by
  unfold pz_rx
  rw [pz_up_n h, pz_up_e]
theorem pz_rx_y {D : Nat → Nat} {x y l : Nat} (h : x ≠ y) : pz_rx D x y l y = min (D y) (min (D x) (D y + l) + l) := by
  unfold pz_rx
  rw [pz_up_e, pz_up_e, pz_up_n (fun e => h e.symm)]
theorem pz_rx_z {D : Nat → Nat} {x y l z : Nat} (h1 : z ≠ x) (h2 : z ≠ y) : pz_rx D x y l z = D z := by
  unfold pz_rx
  rw [pz_up_n h2, pz_up_n h1]
theorem pz_rx_le {D : Nat → Nat} {x y l : Nat} (h : x ≠ y) (z : Nat) : pz_rx D x y l z ≤ D z := by
  by_cases h1 : z = x
  · subst h1
    rw [pz_rx_x h]
    exact Nat.min_le_left _ _
  · by_cases h2 : z = y
    · subst h2
      rw [pz_rx_y h]
      exact Nat.min_le_left _ _
    · rw [pz_rx_z h1 h2]
      exact Nat.le_refl _
noncomputable def pz_rd (o : Nat → Prop) (X Y l : Nat → Nat) (D : Nat → Nat) : Nat → Nat → Nat
  | 0 => D
  | k + 1 => @ite _ (o k) (Classical.propDecidable _) (pz_rx (pz_rd o X Y l D k) (X k) (Y k) (l k)) (pz_rd o X Y l D k)
theorem pz_rd_s {o : Nat → Prop} {X Y l D : Nat → Nat} {k : Nat} : pz_rd o X Y l D (k + 1) = @ite _ (o k) (Classical.propDecidable _) (pz_rx (pz_rd o X Y l D k) (X k) (Y k) (l k)) (pz_rd o X Y l D k) := rfl
noncomputable def pz_rr (o : Nat → Prop) (X Y l : Nat → Nat) (n : Nat) (D : Nat → Nat) : Nat → Nat → Nat
  | 0 => D
  | r + 1 => pz_rd o X Y l (pz_rr o X Y l n D r) n
def pz_i0 (src inf : Nat) : Nat → Nat := fun z => if z = src then 0 else inf
/-- closed, reached -/
def pz_sp (o : Nat → Prop) (X Y l : Nat → Nat) (n src inf : Nat) (F : Nat → Nat) : Prop := F src = 0 ∧ (∀ x, F x ≤ inf) ∧ (∀ x, F x < inf → F x ≤ 30) ∧ (∀ b, b < n → o b → F (X b) ≤ F (Y b) + l b ∧ F (Y b) ≤ F (X b) + l b) ∧ (∀ x, x ≠ src → F x < inf → ∃ b, b < n ∧ o b ∧ ((x = X b ∧ F x = F (Y b) + l b) ∨ (x = Y b ∧ F x = F (X b) + l b)))
theorem pz_stop : ∀ (m : Nat) (f : Nat → Nat), f 0 = m → (∀ r, f (r + 1) ≤ f r) → ∃ N, f (N + 1) = f N := by
  intro m
  induction m using Nat.strongRecOn with
  | ind m ih =>
    intro f h0 hd
    by_cases h : f 1 = f 0
    · exact ⟨0, h⟩
    · have h1 := hd 0
      obtain ⟨N, hN⟩ := ih (f 1) (by simp only [Nat.zero_add] at h1; omega) (fun r => f (r + 1)) rfl (fun r => hd (r + 1))
      exact ⟨N + 1, hN⟩
def pz_sm (f : Nat → Nat) : Nat → Nat
  | 0 => 0
  | k + 1 => pz_sm f k + f k
theorem pz_sm_le {f g : Nat → Nat} : ∀ n : Nat, (∀ z, z < n → f z ≤ g z) → pz_sm f n ≤ pz_sm g n
  | 0, _ => Nat.le_refl _
  | n + 1, h => Nat.add_le_add (pz_sm_le n (fun z hz => h z (by omega))) (h n (by omega))
theorem pz_sm_eq {f g : Nat → Nat} : ∀ n : Nat, (∀ z, z < n → f z ≤ g z) → pz_sm f n = pz_sm g n → ∀ z, z < n → f z = g z
  | 0, _, _, z, hz => by omega
  | n + 1, h, e, z, hz => by
    have h1 := pz_sm_le n (fun z hz => h z (by omega))
    have h2 := h n (by omega)
    have e' : pz_sm f n + f n = pz_sm g n + g n := e
    by_cases hz' : z = n
    · subst hz'
      omega
    · exact pz_sm_eq n (fun z hz => h z (by omega)) (by omega) z (by omega)
theorem pz_sm_lt {f g : Nat → Nat} {y : Nat} (n : Nat) (h : ∀ z, z < n → f z ≤ g z) (hy : y < n) (hlt : f y < g y) : pz_sm f n < pz_sm g n := by
  refine Nat.lt_of_le_of_ne (pz_sm_le n h) (fun e => ?_)
  have := pz_sm_eq n h e y hy
  omega
def pz_ct (T : Nat → Nat) (x : Nat) : Nat := pz_sm (fun z => if T z < T x then 1 else 0) 6
theorem pz_ct_le {T : Nat → Nat} {x : Nat} (hx : x < 6) : pz_ct T x ≤ 5 := by
  have h := pz_sm_lt (f := fun z => if T z < T x then 1 else 0) (g := fun _ => 1) (y := x) 6 (fun z _ => by split <;> omega) hx (by rw [if_neg (Nat.lt_irrefl _)]; omega)
  have e : pz_sm (fun _ => 1) 6 = 6 := rfl
  unfold pz_ct
  omega
theorem pz_ct_lt {T : Nat → Nat} {x y : Nat} (hy : y < 6) (h : T y < T x) : pz_ct T y < pz_ct T x := by
  refine pz_sm_lt (y := y) 6 (fun z _ => ?_) hy ?_
  · split
    · rw [if_pos (by omega)]
      exact Nat.le_refl _
    · exact Nat.zero_le _
  · rw [if_neg (Nat.lt_irrefl _), if_pos h]
    omega
section PZD
variable {o : Nat → Prop} {X Y l : Nat → Nat} {n src inf : Nat} {D T F G : Nat → Nat}
theorem pz_rd_le (hXY : ∀ b, b < n → X b ≠ Y b) : ∀ k, k ≤ n → ∀ z, pz_rd o X Y l D k z ≤ D z
  | 0, _, z => Nat.le_refl _
  | k + 1, hk, z => by
    unfold pz_rd
    by_cases h : o k
    · rw [if_pos h]
      exact Nat.le_trans (pz_rx_le (hXY k (by omega)) z) (pz_rd_le hXY k (by omega) z)
    · rw [if_neg h]
      exact pz_rd_le hXY k (by omega) z
theorem pz_rd_lek (hXY : ∀ b, b < n → X b ≠ Y b) {k : Nat} : ∀ d, k + d ≤ n → ∀ z, pz_rd o X Y l D (k + d) z ≤ pz_rd o X Y l D k z
  | 0, _, z => Nat.le_refl _
  | d + 1, hk, z => by
    refine Nat.le_trans ?_ (pz_rd_lek hXY d (by omega) z)
    show pz_rd o X Y l D (k + d + 1) z ≤ pz_rd o X Y l D (k + d) z
    rw [pz_rd_s]
    by_cases h : o (k + d)
    · rw [if_pos h]
      exact pz_rx_le (hXY (k + d) (by omega)) z
    · rw [if_neg h]
      exact Nat.le_refl _
theorem pz_rd_ed (hXY : ∀ b, b < n → X b ≠ Y b) {b : Nat} (hb : b < n) (ho : o b) : pz_rd o X Y l D n (X b) ≤ D (Y b) + l b ∧ pz_rd o X Y l D n (Y b) ≤ D (X b) + l b := by
  obtain ⟨d, hd⟩ : ∃ d, b + 1 + d = n := ⟨n - (b + 1), by omega⟩
  have h1 := fun z => pz_rd_lek (o := o) (l := l) (D := D) hXY (k := b + 1) d (by omega) z
  rw [hd] at h1
  have e : pz_rd o X Y l D (b + 1) = pz_rx (pz_rd o X Y l D b) (X b) (Y b) (l b) := by
    rw [pz_rd_s, if_pos ho]
  rw [e] at h1
  have a1 := h1 (X b)
  have a2 := h1 (Y b)
  rw [pz_rx_x (hXY b hb)] at a1
  rw [pz_rx_y (hXY b hb)] at a2
  have d1 := pz_rd_le (o := o) (l := l) (D := D) hXY b (by omega) (X b)
  have d2 := pz_rd_le (o := o) (l := l) (D := D) hXY b (by omega) (Y b)
  have m1 := Nat.min_le_right (pz_rd o X Y l D b (X b)) (pz_rd o X Y l D b (Y b) + l b)
  have m2 := Nat.min_le_left (pz_rd o X Y l D b (X b)) (pz_rd o X Y l D b (Y b) + l b)
  have m3 := Nat.min_le_right (pz_rd o X Y l D b (Y b)) (min (pz_rd o X Y l D b (X b)) (pz_rd o X Y l D b (Y b) + l b) + l b)
  omega
/-- reached from below, kept by shortening -/
def pz_rch (o : Nat → Prop) (X Y l : Nat → Nat) (n src inf : Nat) (D : Nat → Nat) : Prop := D src = 0 ∧ (∀ x, D x ≤ inf) ∧ (∀ x, 6 ≤ x → D x = inf) ∧ ∀ x, x ≠ src → D x < inf → ∃ b, b < n ∧ o b ∧ ((x = X b ∧ D (Y b) + l b ≤ D x) ∨ (x = Y b ∧ D (X b) + l b ≤ D x))
theorem pz_rch_rx {b : Nat} (hb : b < n) (ho : o b) (hXY : ∀ b, b < n → X b ≠ Y b ∧ X b < 6 ∧ Y b < 6) (h : pz_rch o X Y l n src inf D) : pz_rch o X Y l n src inf (pz_rx D (X b) (Y b) (l b)) := by
  obtain ⟨h0, h1, h2, h3⟩ := h
  obtain ⟨n1, n2, n3⟩ := hXY b hb
  have hle := fun z => pz_rx_le (D := D) (l := l b) n1 z
  refine ⟨by have := hle src; omega, fun x => Nat.le_trans (hle x) (h1 x), fun x hx => ?_, fun x hx hlt => ?_⟩
  · rw [pz_rx_z (by omega) (by omega)]
    exact h2 x hx
  · by_cases he : pz_rx D (X b) (Y b) (l b) x = D x
    · obtain ⟨c, hc, hoc, hh⟩ := h3 x hx (by omega)
      refine ⟨c, hc, hoc, ?_⟩
      have a1 := hle (X c)
      have a2 := hle (Y c)
      rcases hh with ⟨e, hh⟩ | ⟨e, hh⟩
      · exact Or.inl ⟨e, by omega⟩
      · exact Or.inr ⟨e, by omega⟩
    · refine ⟨b, hb, ho, ?_⟩
      by_cases e1 : x = X b
      · refine Or.inl ⟨e1, ?_⟩
        have a2 := hle (Y b)
        subst e1
        rw [pz_rx_x n1] at he ⊢
        rcases Nat.le_total (D (X b)) (D (Y b) + l b) with z | z
        · rw [Nat.min_eq_left z] at he
          exact absurd rfl he
        · rw [Nat.min_eq_right z]
          omega
      · by_cases e2 : x = Y b
        · refine Or.inr ⟨e2, ?_⟩
          subst e2
          rw [pz_rx_y n1] at he ⊢
          rw [pz_rx_x n1]
          rcases Nat.le_total (D (Y b)) (min (D (X b)) (D (Y b) + l b) + l b) with z | z
          · rw [Nat.min_eq_left z] at he
            exact absurd rfl he
          · rw [Nat.min_eq_right z]
            exact Nat.le_refl _
        · exact absurd (pz_rx_z e1 e2) he
theorem pz_rch_rd (hXY : ∀ b, b < n → X b ≠ Y b ∧ X b < 6 ∧ Y b < 6) (h : pz_rch o X Y l n src inf D) : ∀ k, k ≤ n → pz_rch o X Y l n src inf (pz_rd o X Y l D k)
  | 0, _ => h
  | k + 1, hk => by
    unfold pz_rd
    by_cases ho : o k
    · rw [if_pos ho]
      exact pz_rch_rx (by omega) ho hXY (pz_rch_rd hXY h k (by omega))
    · rw [if_neg ho]
      exact pz_rch_rd hXY h k (by omega)
theorem pz_rch_rr (hXY : ∀ b, b < n → X b ≠ Y b ∧ X b < 6 ∧ Y b < 6) (h : pz_rch o X Y l n src inf D) : ∀ r, pz_rch o X Y l n src inf (pz_rr o X Y l n D r)
  | 0 => h
  | r + 1 => pz_rch_rd hXY (pz_rch_rr hXY h r) n (Nat.le_refl n)
theorem pz_rr_mono (hXY : ∀ b, b < n → X b ≠ Y b) {r : Nat} : ∀ d z, pz_rr o X Y l n D (r + d) z ≤ pz_rr o X Y l n D r z
  | 0, z => Nat.le_refl _
  | d + 1, z => Nat.le_trans (pz_rd_le hXY n (Nat.le_refl n) z) (pz_rr_mono hXY d z)
theorem pz_rr_all (hXY : ∀ b, b < n → X b ≠ Y b ∧ X b < 6 ∧ Y b < 6) (hl : ∀ b, b < n → 1 ≤ l b ∧ l b ≤ 6) (hs : src < 6) (hinf : 30 < inf) {r : Nat} (hr : 5 ≤ r) : pz_sp o X Y l n src inf (pz_rr o X Y l n (pz_i0 src inf) r) := by
  have hXY' : ∀ b, b < n → X b ≠ Y b := fun b hb => (hXY b hb).1
  have h0 : pz_rch o X Y l n src inf (pz_i0 src inf) := by
    refine ⟨if_pos rfl, fun x => ?_, fun x hx => if_neg (by omega), fun x hx hlt => ?_⟩
    · unfold pz_i0
      split <;> omega
    · unfold pz_i0 at hlt
      rw [if_neg hx] at hlt
      omega
  generalize pz_i0 src inf = D0 at h0 ⊢
  have hrr := pz_rch_rr hXY h0
  obtain ⟨N, hN⟩ := pz_stop _ (fun r => pz_sm (pz_rr o X Y l n D0 r) 6) rfl (fun r => pz_sm_le 6 (fun z _ => pz_rr_mono hXY' (r := r) 1 z))
  have hN : pz_rr o X Y l n D0 (N + 1) = pz_rr o X Y l n D0 N := by
    funext z
    by_cases hz : z < 6
    · exact pz_sm_eq 6 (fun z _ => pz_rr_mono hXY' (r := N) 1 z) hN z hz
    · rw [(hrr (N + 1)).2.2.1 z (by omega), (hrr N).2.2.1 z (by omega)]
  have hst : ∀ d, pz_rr o X Y l n D0 (N + d) = pz_rr o X Y l n D0 N := by
    intro d
    induction d with
    | zero => rfl
    | succ d ih =>
      show pz_rd o X Y l (pz_rr o X Y l n D0 (N + d)) n = _
      rw [ih]
      exact hN
  obtain ⟨T, hT⟩ : ∃ T, T = pz_rr o X Y l n D0 N := ⟨_, rfl⟩
  have hrT : pz_rch o X Y l n src inf T := by rw [hT]; exact hrr N
  have hge : ∀ r z, T z ≤ pz_rr o X Y l n D0 r z := by
    intro r z
    by_cases h : r ≤ N
    · obtain ⟨d, rfl⟩ := Nat.exists_eq_add_of_le h
      rw [hT]
      exact pz_rr_mono hXY' d z
    · obtain ⟨d, rfl⟩ := Nat.exists_eq_add_of_le (show N ≤ r by omega)
      rw [hst d, hT]
      exact Nat.le_refl _
  have hcl : ∀ b, b < n → o b → T (X b) ≤ T (Y b) + l b ∧ T (Y b) ≤ T (X b) + l b := by
    intro b hb ho
    have := pz_rd_ed (D := T) (l := l) hXY' hb ho
    have e : pz_rd o X Y l T n = T := by
      rw [hT]
      exact hN
    rw [e] at this
    exact this
  obtain ⟨t0, t1, t2, t3⟩ := hrT
  have hac : ∀ x, x ≠ src → T x < inf → ∃ b, b < n ∧ o b ∧ ((x = X b ∧ T x = T (Y b) + l b) ∨ (x = Y b ∧ T x = T (X b) + l b)) := by
    intro x hx hlt
    obtain ⟨b, hb, ho, hh⟩ := t3 x hx hlt
    have := hcl b hb ho
    refine ⟨b, hb, ho, ?_⟩
    rcases hh with ⟨e, hh⟩ | ⟨e, hh⟩
    · refine Or.inl ⟨e, ?_⟩
      rw [← e] at this
      omega
    · refine Or.inr ⟨e, ?_⟩
      rw [← e] at this
      omega
  have hrk : ∀ m x, T x = m → T x < inf → pz_rr o X Y l n D0 (pz_ct T x) x ≤ T x ∧ T x ≤ 6 * pz_ct T x := by
    intro m
    induction m using Nat.strongRecOn with
    | ind m ih =>
      intro x hm hlt
      by_cases hx : x = src
      · subst hx
        rw [t0, (hrr _).1]
        exact ⟨Nat.le_refl _, Nat.zero_le _⟩
      · have key : ∀ b y, b < n → o b → y < 6 → T x = T y + l b → (∀ D', pz_rd o X Y l D' n x ≤ D' y + l b) → pz_rr o X Y l n D0 (pz_ct T x) x ≤ T x ∧ T x ≤ 6 * pz_ct T x := by
          intro b y hb ho hy he hd
          have h1 := hl b hb
          obtain ⟨i1, i2⟩ := ih (T y) (by omega) y rfl (by omega)
          have hc := pz_ct_lt (T := T) (x := x) hy (by omega)
          obtain ⟨d, hd2⟩ := Nat.exists_eq_add_of_le (show pz_ct T y + 1 ≤ pz_ct T x by omega)
          have h2 := pz_rr_mono (o := o) (l := l) (D := D0) hXY' (r := pz_ct T y + 1) d x
          rw [← hd2] at h2
          have h3 := hd (pz_rr o X Y l n D0 (pz_ct T y))
          have h4 : pz_rr o X Y l n D0 (pz_ct T y + 1) x = pz_rd o X Y l (pz_rr o X Y l n D0 (pz_ct T y)) n x := rfl
          omega
        obtain ⟨b, hb, ho, hh⟩ := hac x hx hlt
        rcases hh with ⟨e, hh⟩ | ⟨e, hh⟩
        · exact key b (Y b) hb ho (hXY b hb).2.2 hh (fun D' => by rw [e]; exact (pz_rd_ed hXY' hb ho).1)
        · exact key b (X b) hb ho (hXY b hb).2.1 hh (fun D' => by rw [e]; exact (pz_rd_ed hXY' hb ho).2)
  have hx6 : ∀ x, T x < inf → x < 6 := by
    intro x hlt
    refine Nat.lt_of_not_le (fun h => ?_)
    have := t2 x h
    omega
  have hfin : pz_rr o X Y l n D0 r = T := by
    funext x
    refine Nat.le_antisymm ?_ (hge r x)
    by_cases hlt : T x < inf
    · have h1 := (hrk _ x rfl hlt).1
      have h2 := pz_ct_le (T := T) (hx6 x hlt)
      obtain ⟨d, hd⟩ := Nat.exists_eq_add_of_le (show pz_ct T x ≤ r by omega)
      have h3 := pz_rr_mono (o := o) (l := l) (D := D0) hXY' (r := pz_ct T x) d x
      rw [← hd] at h3
      omega
    · have := (hrr r).2.1 x
      omega
  rw [hfin]
  refine ⟨t0, t1, fun x hlt => ?_, hcl, hac⟩
  have h1 := (hrk _ x rfl hlt).2
  have h2 := pz_ct_le (T := T) (hx6 x hlt)
  omega
theorem pz_sp_sw (h : pz_sp o X Y l n src inf F) : pz_sp o Y X l n src inf F := by
  obtain ⟨h0, h1, h2, h3, h4⟩ := h
  refine ⟨h0, h1, h2, fun b hb ho => (h3 b hb ho).symm, fun x hx hlt => ?_⟩
  obtain ⟨b, hb, ho, hh⟩ := h4 x hx hlt
  exact ⟨b, hb, ho, hh.symm⟩
theorem pz_sp_le {inf' : Nat} (hl : ∀ b, b < n → 1 ≤ l b) (h : pz_sp o X Y l n src inf F) (h' : pz_sp o X Y l n src inf' G) : ∀ m x, F x = m → F x < inf → G x ≤ F x := by
  intro m
  induction m using Nat.strongRecOn with
  | ind m ih =>
    intro x hm hlt
    by_cases hx : x = src
    · subst hx
      rw [h'.1]
      exact Nat.zero_le _
    · obtain ⟨b, hb, ho, hh⟩ := h.2.2.2.2 x hx hlt
      have := hl b hb
      have hc := h'.2.2.2.1 b hb ho
      rcases hh with ⟨e, hh⟩ | ⟨e, hh⟩
      · have := ih (F (Y b)) (by omega) (Y b) rfl (by omega)
        rw [← e] at hc
        omega
      · have := ih (F (X b)) (by omega) (X b) rfl (by omega)
        rw [← e] at hc
        omega
theorem pz_sp_eq {inf' : Nat} (hi : 30 < inf) (hi' : 30 < inf') (hl : ∀ b, b < n → 1 ≤ l b) (h : pz_sp o X Y l n src inf F) (h' : pz_sp o X Y l n src inf' G) (x : Nat) : G x = if F x < inf then F x else inf' := by
  split
  next hlt =>
    have h1 := pz_sp_le hl h h' _ x rfl hlt
    have h2 := h.2.2.1 x hlt
    have h3 := pz_sp_le hl h' h _ x rfl (by omega)
    omega
  next hlt =>
    have h1 := h'.2.1 x
    by_cases hg : G x < inf'
    · have h2 := pz_sp_le hl h' h _ x rfl hg
      have h3 := h'.2.2.1 x hg
      omega
    · omega
theorem pz_sp_sym {inf' src' : Nat} (hi' : 40 < inf') (hl : ∀ b, b < n → 1 ≤ l b ∧ l b ≤ 6) (h : pz_sp o X Y l n src inf F) (h' : pz_sp o X Y l n src' inf' G) : ∀ m x, F x = m → F x < inf → G x < inf' → G src < inf' := by
  intro m
  induction m using Nat.strongRecOn with
  | ind m ih =>
    intro x hm hlt hg
    by_cases hx : x = src
    · subst hx
      exact hg
    · obtain ⟨b, hb, ho, hh⟩ := h.2.2.2.2 x hx hlt
      have := hl b hb
      have hc := h'.2.2.2.1 b hb ho
      have h30 := h'.2.2.1 x hg
      rcases hh with ⟨e, hh⟩ | ⟨e, hh⟩
      · rw [← e] at hc
        exact ih (F (Y b)) (by omega) (Y b) rfl (by omega) (by omega)
      · rw [← e] at hc
        exact ih (F (X b)) (by omega) (X b) rfl (by omega) (by omega)
end PZD
