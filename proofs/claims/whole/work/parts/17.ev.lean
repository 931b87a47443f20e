/-! what a run comes to, without fuel; its equations, a step each -/
theorem mm_mono : ∀ (n : Nat) (f : mm_F) (h : mm_H) (r : Option mm_V × mm_H), mm_run n f h = some r → ∀ k, mm_run (n + k) f h = some r := by
  intro n
  induction n with
  | zero => intro f h r hr; simp [mm_run] at hr
  | succ n ih =>
    intro f h r hr k
    rw [show n + 1 + k = (n + k) + 1 by omega]
    unfold mm_run at hr ⊢
    cases hf : mm_fetch f.1 f.2.1 with
    | none => simp [hf] at hr
    | some e =>
      simp only [hf] at hr ⊢
      obtain ⟨cat, op, nx, a, b, c, l⟩ := e
      match cat, hr with
      | 0, hr =>
        simp only at hr ⊢
        split at hr
        next q hs => (try simp only [hs]); exact ih _ _ _ hr k
        next => cases hr
      | 1, hr =>
        simp only at hr ⊢
        split at hr
        next q hs => (try simp only [hs]); exact ih _ _ _ hr k
        next => cases hr
      | 2, hr =>
        simp only at hr ⊢
        split at hr
        next q hs => (try simp only [hs]); exact ih _ _ _ hr k
        next => cases hr
      | 3, hr =>
        simp only at hr ⊢
        split at hr
        next q hs => (try simp only [hs]); exact ih _ _ _ hr k
        next => cases hr
      | 4, hr =>
        simp only at hr ⊢
        split at hr
        next q hs =>
          split at hr
          next hle => simp only [hs, if_pos hle]; exact ih _ _ _ hr k
          next => cases hr
        next => cases hr
      | 5, hr =>
        simp only at hr ⊢
        split at hr
        next q hs =>
          split at hr
          next hle =>
            split at hr
            next w hw => simp only [hs, if_pos hle, ih _ _ _ hw k]; exact ih _ _ _ hr k
            next => cases hr
          next => cases hr
        next => cases hr
      | 6, hr => exact hr
      | cat + 7, hr => exact hr
theorem mm_det {n n' : Nat} {f : mm_F} {h : mm_H} {r r' : Option mm_V × mm_H} (h1 : mm_run n f h = some r) (h2 : mm_run n' f h = some r') : r = r' := by
  have a1 := mm_mono n f h r h1 n'
  have a2 := mm_mono n' f h r' h2 n
  rw [Nat.add_comm] at a2
  exact Option.some.inj (a1.symm.trans a2)
noncomputable def mm_ev (m pc : Nat) (la : List (Option mm_V)) (st : List mm_V) (h : mm_H) : Option (Option mm_V × mm_H) := @dite _ (∃ r n, mm_run n (m, pc, la, st, 0, 0) h = some r) (Classical.propDecidable _) (fun H => some H.choose) (fun _ => none)
theorem mm_ev_iff {m pc : Nat} {la : List (Option mm_V)} {st : List mm_V} {h : mm_H} {r : Option mm_V × mm_H} : mm_ev m pc la st h = some r ↔ ∃ n, mm_run n (m, pc, la, st, 0, 0) h = some r := by
  unfold mm_ev
  by_cases H : ∃ r n, mm_run n (m, pc, la, st, 0, 0) h = some r
  · rw [dif_pos H]
    obtain ⟨n, hn⟩ := H.choose_spec
    constructor
    · intro e
      cases e
      exact ⟨n, hn⟩
    · rintro ⟨n', hn'⟩
      exact congrArg some (mm_det hn hn')
  · rw [dif_neg H]
    constructor
    · intro e; cases e
    · rintro ⟨n', hn'⟩
      exact absurd ⟨r, n', hn'⟩ H
theorem mm_ev_ext {α : Type} {x y : Option α} (H : ∀ r, x = some r ↔ y = some r) : x = y := by
  cases x with
  | none =>
    cases y with
    | none => rfl
    | some b => exact ((H b).mpr rfl)
  | some a => exact ((H a).mp rfl).symm
section MEV
variable {m pc op nx a b : Nat} {c : Int} {l : List Nat} {la la' : List (Option mm_V)} {st st' : List mm_V} {h h' : mm_H}
theorem ev_ps (f : mm_fetch m pc = some (0, op, nx, a, b, c, l)) (hs : mm_ps op b c st = some st') : mm_ev m pc la st h = mm_ev m nx la st' h := by
  refine mm_ev_ext fun r => ?_
  rw [mm_ev_iff, mm_ev_iff]
  constructor
  · rintro ⟨n, hn⟩
    cases n with
    | zero => simp [mm_run] at hn
    | succ n => simp only [mm_run, f, hs] at hn; exact ⟨n, hn⟩
  · rintro ⟨n, hn⟩
    exact ⟨n + 1, by simp only [mm_run, f, hs]; exact hn⟩
theorem ev_br {q : Nat × List mm_V} (f : mm_fetch m pc = some (1, op, nx, a, b, c, l)) (hs : mm_br op nx a b c l st = some q) : mm_ev m pc la st h = mm_ev m q.1 la q.2 h := by
  refine mm_ev_ext fun r => ?_
  rw [mm_ev_iff, mm_ev_iff]
  constructor
  · rintro ⟨n, hn⟩
    cases n with
    | zero => simp [mm_run] at hn
    | succ n => simp only [mm_run, f, hs] at hn; exact ⟨n, hn⟩
  · rintro ⟨n, hn⟩
    exact ⟨n + 1, by simp only [mm_run, f, hs]; exact hn⟩
theorem ev_lo (f : mm_fetch m pc = some (2, op, nx, a, b, c, l)) (hs : mm_lo op a b c la st = some (la', st')) : mm_ev m pc la st h = mm_ev m nx la' st' h := by
  refine mm_ev_ext fun r => ?_
  rw [mm_ev_iff, mm_ev_iff]
  constructor
  · rintro ⟨n, hn⟩
    cases n with
    | zero => simp [mm_run] at hn
    | succ n => simp only [mm_run, f, hs] at hn; exact ⟨n, hn⟩
  · rintro ⟨n, hn⟩
    exact ⟨n + 1, by simp only [mm_run, f, hs]; exact hn⟩
theorem ev_hp (f : mm_fetch m pc = some (3, op, nx, a, b, c, l)) (hs : mm_hp op a b st h = some (st', h')) : mm_ev m pc la st h = mm_ev m nx la st' h' := by
  refine mm_ev_ext fun r => ?_
  rw [mm_ev_iff, mm_ev_iff]
  constructor
  · rintro ⟨n, hn⟩
    cases n with
    | zero => simp [mm_run] at hn
    | succ n => simp only [mm_run, f, hs] at hn; exact ⟨n, hn⟩
  · rintro ⟨n, hn⟩
    exact ⟨n + 1, by simp only [mm_run, f, hs]; exact hn⟩
theorem ev_hpN (f : mm_fetch m pc = some (3, op, nx, a, b, c, l)) (hs : mm_hp op a b st h = none) : mm_ev m pc la st h = none := by
  refine mm_ev_ext fun r => ?_
  rw [mm_ev_iff]
  constructor
  · rintro ⟨n, hn⟩
    cases n with
    | zero => simp [mm_run] at hn
    | succ n => simp only [mm_run, f, hs] at hn; cases hn
  · intro hn; cases hn
theorem ev_psN (f : mm_fetch m pc = some (0, op, nx, a, b, c, l)) (hs : mm_ps op b c st = none) : mm_ev m pc la st h = none := by
  refine mm_ev_ext fun r => ?_
  rw [mm_ev_iff]
  constructor
  · rintro ⟨n, hn⟩
    cases n with
    | zero => simp [mm_run] at hn
    | succ n => simp only [mm_run, f, hs] at hn; cases hn
  · intro hn; cases hn
theorem ev_cl {y : Nat} {as rest : List mm_V} {la0 : List (Option mm_V)} (f : mm_fetch m pc = some (5, op, nx, a, b, c, l)) (hs : mm_cl op a b st = some (y, as, rest)) (h0 : mm_mc y = 0 ∧ mm_ms y = 0) (hsum : (rest.map mm_cat).sum ≤ 8) (hsp : (mm_sp as).length ≤ mm_mL y) (hil : mm_il (mm_mL y) as = la0) :
    mm_ev m pc la st h = (mm_ev y 0 la0 [] h).bind (fun r => mm_ev m nx la (r.1.toList ++ rest) r.2) := by
  subst hil
  have hle : 0 + mm_mc y ≤ mm_mc m ∧ 0 + mm_ms y ≤ mm_ms m ∧ (rest.map mm_cat).sum ≤ 8 ∧ (mm_sp as).length ≤ mm_mL y := ⟨by omega, by omega, hsum, hsp⟩
  have e1 : 0 + mm_mc y = 0 := by omega
  have e2 : 0 + mm_ms y = 0 := by omega
  refine mm_ev_ext fun r => ?_
  rw [mm_ev_iff, Option.bind_eq_some_iff]
  constructor
  · rintro ⟨n, hn⟩
    cases n with
    | zero => simp [mm_run] at hn
    | succ n =>
      simp only [mm_run, f, hs, if_pos hle] at hn
      split at hn
      next w hw =>
        rw [e1, e2] at hn
        exact ⟨w, mm_ev_iff.mpr ⟨n, hw⟩, mm_ev_iff.mpr ⟨n, hn⟩⟩
      next => cases hn
  · rintro ⟨w, hw, hn⟩
    obtain ⟨n1, hw⟩ := mm_ev_iff.mp hw
    obtain ⟨n2, hn⟩ := mm_ev_iff.mp hn
    refine ⟨n1 + n2 + 1, ?_⟩
    simp only [mm_run, f, hs, if_pos hle]
    rw [mm_mono _ _ _ _ hw n2, e1, e2]
    have := mm_mono _ _ _ _ hn n1
    rw [Nat.add_comm] at this
    exact this
theorem ev_re {v : Option mm_V} (f : mm_fetch m pc = some (6, op, nx, a, b, c, l)) (hs : mm_re m op st = some v) : mm_ev m pc la st h = some (v, h) := by
  rw [mm_ev_iff]
  exact ⟨1, by simp only [mm_run, f, hs]⟩
theorem ev_reN (f : mm_fetch m pc = some (6, op, nx, a, b, c, l)) (hs : mm_re m op st = none) : mm_ev m pc la st h = none := by
  refine mm_ev_ext fun r => ?_
  rw [mm_ev_iff]
  constructor
  · rintro ⟨n, hn⟩
    cases n with
    | zero => simp [mm_run] at hn
    | succ n => simp only [mm_run, f, hs] at hn; cases hn
  · intro hn; cases hn
/-! the kinds by themselves -/
theorem mi_nlt {x y : Int32} : y ≤ x ↔ ¬ x < y := by simp
theorem ev_ic {x y : Int32} {r : List mm_V} (f : mm_fetch m pc = some (1, 1, nx, a, b, c, l)) : mm_ev m pc la (.inl y :: .inl x :: r) h = if mm_cd b x y = true then mm_ev m a la r h else mm_ev m nx la r h := by
  rw [ev_br (q := (if mm_cd b x y = true then a else nx, r)) f rfl]
  split <;> rfl
theorem ev_zc {x : Int32} {r : List mm_V} (f : mm_fetch m pc = some (1, 0, nx, a, b, c, l)) : mm_ev m pc la (.inl x :: r) h = if mm_cd b x 0 = true then mm_ev m a la r h else mm_ev m nx la r h := by
  rw [ev_br (q := (if mm_cd b x 0 = true then a else nx, r)) f rfl]
  split <;> rfl
section
variable {x y : Int32} {r : List mm_V} {α : Type} {u v : α}
theorem cd_0 : (if mm_cd 0 x y = true then u else v) = if x = y then u else v := by simp [mm_cd]
theorem cd_1 : (if mm_cd 1 x y = true then u else v) = if x = y then v else u := by
  by_cases e : x = y <;> simp [mm_cd, e]
theorem cd_2 : (if mm_cd 2 x y = true then u else v) = if x < y then u else v := by simp [mm_cd]
theorem cd_3 : (if mm_cd 3 x y = true then u else v) = if x < y then v else u := by
  by_cases e : x < y
  · simp [mm_cd, e, mi_nlt]
  · simp [mm_cd, e, mi_nlt]
theorem cd_4 : (if mm_cd 4 x y = true then u else v) = if y < x then u else v := by simp [mm_cd]
theorem cd_5 : (if mm_cd 5 x y = true then u else v) = if y < x then v else u := by
  by_cases e : y < x
  · simp [mm_cd, e, mi_nlt]
  · simp [mm_cd, e, mi_nlt]
end
theorem ev_i0 {x y : Int32} {r : List mm_V} (f : mm_fetch m pc = some (1, 1, nx, a, 0, c, l)) : mm_ev m pc la (.inl y :: .inl x :: r) h = if x = y then mm_ev m a la r h else mm_ev m nx la r h := (ev_ic f).trans cd_0
theorem ev_i1 {x y : Int32} {r : List mm_V} (f : mm_fetch m pc = some (1, 1, nx, a, 1, c, l)) : mm_ev m pc la (.inl y :: .inl x :: r) h = if x = y then mm_ev m nx la r h else mm_ev m a la r h := (ev_ic f).trans cd_1
theorem ev_i2 {x y : Int32} {r : List mm_V} (f : mm_fetch m pc = some (1, 1, nx, a, 2, c, l)) : mm_ev m pc la (.inl y :: .inl x :: r) h = if x < y then mm_ev m a la r h else mm_ev m nx la r h := (ev_ic f).trans cd_2
theorem ev_i3 {x y : Int32} {r : List mm_V} (f : mm_fetch m pc = some (1, 1, nx, a, 3, c, l)) : mm_ev m pc la (.inl y :: .inl x :: r) h = if x < y then mm_ev m nx la r h else mm_ev m a la r h := (ev_ic f).trans cd_3
theorem ev_i4 {x y : Int32} {r : List mm_V} (f : mm_fetch m pc = some (1, 1, nx, a, 4, c, l)) : mm_ev m pc la (.inl y :: .inl x :: r) h = if y < x then mm_ev m a la r h else mm_ev m nx la r h := (ev_ic f).trans cd_4
theorem ev_i5 {x y : Int32} {r : List mm_V} (f : mm_fetch m pc = some (1, 1, nx, a, 5, c, l)) : mm_ev m pc la (.inl y :: .inl x :: r) h = if y < x then mm_ev m nx la r h else mm_ev m a la r h := (ev_ic f).trans cd_5
theorem ev_z0 {x : Int32} {r : List mm_V} (f : mm_fetch m pc = some (1, 0, nx, a, 0, c, l)) : mm_ev m pc la (.inl x :: r) h = if x = 0 then mm_ev m a la r h else mm_ev m nx la r h := (ev_zc f).trans cd_0
theorem ev_z1 {x : Int32} {r : List mm_V} (f : mm_fetch m pc = some (1, 0, nx, a, 1, c, l)) : mm_ev m pc la (.inl x :: r) h = if x = 0 then mm_ev m nx la r h else mm_ev m a la r h := (ev_zc f).trans cd_1
theorem ev_z2 {x : Int32} {r : List mm_V} (f : mm_fetch m pc = some (1, 0, nx, a, 2, c, l)) : mm_ev m pc la (.inl x :: r) h = if x < 0 then mm_ev m a la r h else mm_ev m nx la r h := (ev_zc f).trans cd_2
theorem ev_z3 {x : Int32} {r : List mm_V} (f : mm_fetch m pc = some (1, 0, nx, a, 3, c, l)) : mm_ev m pc la (.inl x :: r) h = if x < 0 then mm_ev m nx la r h else mm_ev m a la r h := (ev_zc f).trans cd_3
theorem ev_z4 {x : Int32} {r : List mm_V} (f : mm_fetch m pc = some (1, 0, nx, a, 4, c, l)) : mm_ev m pc la (.inl x :: r) h = if 0 < x then mm_ev m a la r h else mm_ev m nx la r h := (ev_zc f).trans cd_4
theorem ev_z5 {x : Int32} {r : List mm_V} (f : mm_fetch m pc = some (1, 0, nx, a, 5, c, l)) : mm_ev m pc la (.inl x :: r) h = if 0 < x then mm_ev m nx la r h else mm_ev m a la r h := (ev_zc f).trans cd_5
end MEV
section MEA
variable {m pc op nx a b : Nat} {c : Int} {l : List Nat} {la la' : List (Option mm_V)} {t : List mm_V} {ids : List (Nat × Nat)} {I : mm_HI} {L : mm_HL} {R : mm_HR} {r i : Nat} {x y : Int32}
theorem ev_al0 (f : mm_fetch m pc = some (3, 2, nx, a, 0, c, l)) (hk : mm_kd r = 1) : mm_ev m pc la (.inl x :: .inr (.inr (r, i)) :: t) (ids, I, L, R) = if mm_in x (mm_ln r) = true then mm_ev m nx la (.inl (I (100 + r) i x.toNatClampNeg) :: t) (ids, I, L, R) else none := by
  split
  next hx => exact ev_hp f (by simp only [mm_hp]; rw [if_pos ⟨hk, hx⟩])
  next hx => exact ev_hpN f (by simp only [mm_hp]; rw [if_neg (fun z => hx z.2)])
theorem ev_al1 (f : mm_fetch m pc = some (3, 2, nx, a, 1, c, l)) (hk : mm_kd r = 2) : mm_ev m pc la (.inl x :: .inr (.inr (r, i)) :: t) (ids, I, L, R) = if mm_in x (mm_ln r) = true then mm_ev m nx la (.inl (I (100 + r) i x.toNatClampNeg) :: t) (ids, I, L, R) else none := by
  split
  next hx => exact ev_hp f (by simp only [mm_hp]; rw [if_pos ⟨hk, hx⟩])
  next hx => exact ev_hpN f (by simp only [mm_hp]; rw [if_neg (fun z => hx z.2)])
theorem ev_al2 {r' i' : Nat} (f : mm_fetch m pc = some (3, 2, nx, a, 2, c, l)) (hk : mm_kd r = 3) (hr : R (100 + r) i x.toNatClampNeg = (r', i')) (h0 : r' ≠ 0) : mm_ev m pc la (.inl x :: .inr (.inr (r, i)) :: t) (ids, I, L, R) = if mm_in x (mm_ln r) = true then mm_ev m nx la (.inr (.inr (r', i')) :: t) (ids, I, L, R) else none := by
  split
  next hx =>
    refine ev_hp f ?_
    simp only [mm_hp]
    rw [if_pos ⟨hk, hx⟩, hr, if_neg h0]
  next hx => exact ev_hpN f (by simp only [mm_hp]; rw [if_neg (fun z => hx z.2)])
theorem ev_as0 (f : mm_fetch m pc = some (3, 3, nx, a, 0, c, l)) (hk : mm_kd r = 1) : mm_ev m pc la (.inl y :: .inl x :: .inr (.inr (r, i)) :: t) (ids, I, L, R) = if mm_in x (mm_ln r) = true then mm_ev m nx la t (ids, mm_uI I (100 + r) i x.toNatClampNeg y, L, R) else none := by
  split
  next hx => exact ev_hp f (by simp only [mm_hp]; rw [if_pos ⟨hk, hx⟩])
  next hx => exact ev_hpN f (by simp only [mm_hp]; rw [if_neg (fun z => hx z.2)])
theorem ev_as1 (f : mm_fetch m pc = some (3, 3, nx, a, 1, c, l)) (hk : mm_kd r = 2) : mm_ev m pc la (.inl y :: .inl x :: .inr (.inr (r, i)) :: t) (ids, I, L, R) = if mm_in x (mm_ln r) = true then mm_ev m nx la t (ids, mm_uI I (100 + r) i x.toNatClampNeg y.toInt8.toInt32, L, R) else none := by
  split
  next hx => exact ev_hp f (by simp only [mm_hp]; rw [if_pos ⟨hk, hx⟩])
  next hx => exact ev_hpN f (by simp only [mm_hp]; rw [if_neg (fun z => hx z.2)])
theorem ev_gi (f : mm_fetch m pc = some (3, 0, nx, a, 0, c, l)) (hr : r = mm_cr a) : mm_ev m pc la (.inr (.inr (r, i)) :: t) (ids, I, L, R) = mm_ev m nx la (.inl (I a i 0) :: t) (ids, I, L, R) := ev_hp f (by simp only [mm_hp]; rw [if_pos hr])
theorem ev_gz (f : mm_fetch m pc = some (3, 0, nx, a, 3, c, l)) (hr : r = mm_cr a) : mm_ev m pc la (.inr (.inr (r, i)) :: t) (ids, I, L, R) = mm_ev m nx la (.inl (I a i 0) :: t) (ids, I, L, R) := ev_hp f (by simp only [mm_hp]; rw [if_pos hr])
theorem ev_gl (f : mm_fetch m pc = some (3, 0, nx, a, 1, c, l)) (hr : r = mm_cr a) : mm_ev m pc la (.inr (.inr (r, i)) :: t) (ids, I, L, R) = mm_ev m nx la (.inr (.inl (L a i)) :: t) (ids, I, L, R) := ev_hp f (by simp only [mm_hp]; rw [if_pos hr])
theorem ev_gr {r' i' : Nat} (f : mm_fetch m pc = some (3, 0, nx, a, 2, c, l)) (hr : r = mm_cr a) (hq : R a i 0 = (r', i')) (h0 : r' ≠ 0) : mm_ev m pc la (.inr (.inr (r, i)) :: t) (ids, I, L, R) = mm_ev m nx la (.inr (.inr (r', i')) :: t) (ids, I, L, R) := ev_hp f (by simp only [mm_hp]; rw [if_pos hr, hq, if_neg h0])
theorem ev_pi (f : mm_fetch m pc = some (3, 1, nx, a, 0, c, l)) (hr : r = mm_cr a) : mm_ev m pc la (.inl x :: .inr (.inr (r, i)) :: t) (ids, I, L, R) = mm_ev m nx la t (ids, mm_uI I a i 0 x, L, R) := ev_hp f (by simp only [mm_hp]; rw [if_pos hr])
theorem ev_pz (f : mm_fetch m pc = some (3, 1, nx, a, 3, c, l)) (hr : r = mm_cr a) : mm_ev m pc la (.inl x :: .inr (.inr (r, i)) :: t) (ids, I, L, R) = if x = 0 ∨ x = 1 then mm_ev m nx la t (ids, mm_uI I a i 0 x, L, R) else none := by
  split
  next hx => exact ev_hp f (by simp only [mm_hp]; rw [if_pos ⟨hr, hx⟩])
  next hx => exact ev_hpN f (by simp only [mm_hp]; rw [if_neg (fun z => hx z.2)])
theorem ev_pl {z : Int64} (f : mm_fetch m pc = some (3, 1, nx, a, 1, c, l)) (hr : r = mm_cr a) : mm_ev m pc la (.inr (.inl z) :: .inr (.inr (r, i)) :: t) (ids, I, L, R) = mm_ev m nx la t (ids, I, mm_uL L a i z, R) := ev_hp f (by simp only [mm_hp]; rw [if_pos hr])
theorem ev_pr {q : Nat × Nat} (f : mm_fetch m pc = some (3, 1, nx, a, 2, c, l)) (hr : r = mm_cr a) (h0 : q.1 ≠ 0) : mm_ev m pc la (.inr (.inr q) :: .inr (.inr (r, i)) :: t) (ids, I, L, R) = mm_ev m nx la t (ids, I, L, mm_uR R a i 0 q) := ev_hp f (by simp only [mm_hp]; rw [if_pos ⟨hr, h0⟩])
theorem ev_rz (f : mm_fetch m pc = some (6, 0, nx, a, b, c, l)) (hr : mm_rt m = some .boolean) {h : mm_H} : mm_ev m pc la [.inl x] h = if x = 0 ∨ x = 1 then some (some (.inl x), h) else none := by
  split
  next hx => exact ev_re f (by simp only [mm_re]; rw [if_pos (Or.inr ⟨hr, hx⟩)])
  next hx =>
    refine ev_reN f ?_
    simp only [mm_re]
    rw [if_neg]
    rintro (z | z)
    · rw [hr] at z; cases z
    · exact hx z.2
theorem ev_ri (f : mm_fetch m pc = some (6, 0, nx, a, b, c, l)) (hr : mm_rt m = some .int) {h : mm_H} : mm_ev m pc la [.inl x] h = some (some (.inl x), h) := ev_re f (by simp only [mm_re]; rw [if_pos (Or.inl hr)])
theorem ev_rl {z : Int64} (f : mm_fetch m pc = some (6, 1, nx, a, b, c, l)) (hr : mm_rt m = some .long) {h : mm_H} : mm_ev m pc la [.inr (.inl z)] h = some (some (.inr (.inl z)), h) := ev_re f (by simp only [mm_re]; rw [if_pos hr])
theorem ev_rv (f : mm_fetch m pc = some (6, 2, nx, a, b, c, l)) (hr : mm_rt m = none) {h : mm_H} : mm_ev m pc la [] h = some (none, h) := ev_re f (by simp only [mm_re]; rw [if_pos hr])
end MEA
