/-! more of the steps; the references of the two pictures; facts by program -/
def mm_RS (κ : Nat → Nat) : mm_HR := fun c i j => match c with
  | 0 => (2, 0)
  | 1 => (11, 0)
  | 2 => (4, 0)
  | 3 => (4, 1)
  | 5 => (7, 0)
  | 6 => (8, 0)
  | 7 => (10, 0)
  | 9 => (12, i)
  | 11 => (13, i)
  | 13 => (14, i)
  | 14 => (16, i)
  | 16 => if j = 0 then (3, κ i) else (0, 0)
  | 20 => (17, i)
  | 29 => (18, i)
  | 30 => (4, 0)
  | 31 => (19, 0)
  | 32 => (20, 0)
  | 35 => (4, 0)
  | 111 => (3, j)
  | 112 => (5, 9 * i + j)
  | 113 => (6, 5 * i + j)
  | 114 => (15, 6 * i + j)
  | _ => (0, 0)
def mm_RM : mm_HR := fun c _ _ => match c with
  | 42 => (21, 0)
  | 43 => (22, 0)
  | 44 => (23, 0)
  | 45 => (24, 0)
  | 46 => (25, 0)
  | 48 => (26, 0)
  | 49 => (27, 0)
  | 50 => (28, 0)
  | 51 => (29, 0)
  | 52 => (30, 0)
  | 53 => (31, 0)
  | 54 => (32, 0)
  | 56 => (33, 0)
  | 58 => (34, 0)
  | 60 => (35, 0)
  | 67 => (36, 0)
  | 68 => (37, 0)
  | 69 => (38, 0)
  | 77 => (39, 0)
  | 78 => (40, 0)
  | 79 => (41, 0)
  | 80 => (42, 0)
  | 81 => (43, 0)
  | 82 => (44, 0)
  | 83 => (45, 0)
  | 84 => (46, 0)
  | _ => (0, 0)
def mm_uk (κ : Nat → Nat) (i k : Nat) : Nat → Nat := fun j => if j = i then k else κ j
theorem mm_uk_eq {κ : Nat → Nat} {i k : Nat} : mm_uR (mm_RS κ) 16 i 0 (3, k) = mm_RS (mm_uk κ i k) := by
  funext c i' j
  by_cases hc : c = 16
  · subst hc
    by_cases hi : i' = i
    · subst hi
      by_cases hj : j = 0
      · subst hj
        simp [mm_uR, mm_RS, mm_uk]
      · simp [mm_uR, mm_RS, hj]
    · simp [mm_uR, mm_RS, mm_uk, hi]
  · simp only [mm_uR]
    rw [if_neg (fun z => hc z.1)]
    unfold mm_RS
    split <;> first | rfl | (exact absurd rfl hc)
def mm_eqE (x y : mm_E) : Bool := x.1 == y.1 && x.2.1 == y.2.1 && x.2.2.1 == y.2.2.1 && x.2.2.2.1 == y.2.2.2.1 && x.2.2.2.2.1 == y.2.2.2.2.1 && decide (x.2.2.2.2.2.1 = y.2.2.2.2.2.1) && decide (x.2.2.2.2.2.2 = y.2.2.2.2.2.2)
def mm_feq (m pc : Nat) (e : mm_E) : Bool := match mm_fetch m pc with
  | some x => mm_eqE x e
  | none => false
theorem mm_fe {m pc : Nat} {e : mm_E} (h : mm_feq m pc e = true) : mm_fetch m pc = some e := by
  unfold mm_feq at h
  split at h
  next x hx =>
    simp only [mm_eqE, Bool.and_eq_true, beq_iff_eq, decide_eq_true_eq] at h
    obtain ⟨⟨⟨⟨⟨⟨h1, h2⟩, h3⟩, h4⟩, h5⟩, h6⟩, h7⟩ := h
    rw [hx]
    obtain ⟨x1, x2, x3, x4, x5, x6, x7⟩ := x
    obtain ⟨e1, e2, e3, e4, e5, e6, e7⟩ := e
    simp only at h1 h2 h3 h4 h5 h6 h7
    subst h1; subst h2; subst h3; subst h4; subst h5; subst h6; subst h7
    rfl
  next => cases h
section MES
variable {m pc op nx a b : Nat} {c : Int} {l : List Nat} {la la' la0 : List (Option mm_V)} {st st' t rest : List mm_V} {h h' : mm_H}
theorem ev_ci {v : Int32} (f : mm_fetch m pc = some (0, 0, nx, a, b, c, l)) (hv : Int32.ofInt c = v) : mm_ev m pc la st h = mm_ev m nx la (.inl v :: st) h := by
  subst hv
  exact ev_ps f rfl
theorem ev_cj {v : Int64} (f : mm_fetch m pc = some (0, 1, nx, a, b, c, l)) (hv : Int64.ofInt c = v) : mm_ev m pc la st h = mm_ev m nx la (.inr (.inl v) :: st) h := by
  subst hv
  exact ev_ps f rfl
theorem ev_in {x v : Int32} (f : mm_fetch m pc = some (2, 2, nx, a, b, c, l)) (hv : Int32.ofInt c = v) (h1 : la[a]? = some (some (.inl x))) (h2 : mm_pl la a = true) (h3 : la.set a (some (.inl (x + v))) = la') : mm_ev m pc la st h = mm_ev m nx la' st h := by
  subst hv
  subst h3
  exact ev_lo f (by simp only [mm_lo, h1]; rw [if_pos h2])
theorem ev_dv4 {x y : Int64} (f : mm_fetch m pc = some (0, 3, nx, a, 4, c, l)) : mm_ev m pc la (.inr (.inl y) :: .inr (.inl x) :: t) h = if y = 0 then none else mm_ev m nx la (.inr (.inl (x / y)) :: t) h := by
  split
  next hy => exact ev_psN f (by simp only [mm_ps]; rw [if_pos ⟨by omega, hy⟩])
  next hy => exact ev_ps f (by simp only [mm_ps]; rw [if_neg (fun z => hy z.2)]; rfl)
theorem ev_dv5 {x y : Int64} (f : mm_fetch m pc = some (0, 3, nx, a, 5, c, l)) : mm_ev m pc la (.inr (.inl y) :: .inr (.inl x) :: t) h = if y = 0 then none else mm_ev m nx la (.inr (.inl (x - x / y * y)) :: t) h := by
  split
  next hy => exact ev_psN f (by simp only [mm_ps]; rw [if_pos ⟨by omega, hy⟩])
  next hy => exact ev_ps f (by simp only [mm_ps]; rw [if_neg (fun z => hy z.2)]; rfl)
theorem ev_ts {x : Int32} (f : mm_fetch m pc = some (1, 3, nx, a, b, c, l)) : mm_ev m pc la (.inl x :: t) h = mm_ev m (mm_ts a c l x) la t h := ev_br (q := (mm_ts a c l x, t)) f rfl
theorem ev_lk {x : Int32} (f : mm_fetch m pc = some (1, 4, nx, a, b, c, l)) : mm_ev m pc la (.inl x :: t) h = mm_ev m (mm_lk a l x) la t h := ev_br (q := (mm_lk a l x, t)) f rfl
theorem ev_an {r i : Nat} (f : mm_fetch m pc = some (3, 4, nx, a, b, c, l)) (hk : mm_kd r = 1) : mm_ev m pc la (.inr (.inr (r, i)) :: t) h = mm_ev m nx la (.inl (Int32.ofNat (mm_ln r)) :: t) h := ev_hp f (by simp only [mm_hp]; rw [if_pos ⟨by omega, by omega⟩])
theorem ev_ac {ids : List (Nat × Nat)} {I : mm_HI} {L : mm_HL} {R : mm_HR} {r0 i0 r1 i1 : Nat} {n dp sp : Int32} (f : mm_fetch m pc = some (3, 5, nx, a, b, c, l)) (h0 : mm_kd r0 = 1) (h1 : mm_kd r1 = 1) :
    mm_ev m pc la [.inl n, .inl dp, .inr (.inr (r1, i1)), .inl sp, .inr (.inr (r0, i0))] (ids, I, L, R) = if ¬ sp < 0 ∧ ¬ dp < 0 ∧ ¬ n < 0 ∧ sp.toNatClampNeg + n.toNatClampNeg ≤ mm_ln r0 ∧ dp.toNatClampNeg + n.toNatClampNeg ≤ mm_ln r1 then mm_ev m nx la [] (ids, mm_cp I (100 + r0) i0 (100 + r1) i1 sp.toNatClampNeg dp.toNatClampNeg n.toNatClampNeg, L, R) else none := by
  split
  next hc => exact ev_hp f (by simp only [mm_hp]; rw [if_pos ⟨h0, h1, hc⟩])
  next hc => exact ev_hpN f (by simp only [mm_hp]; rw [if_neg (fun z => hc z.2.2)])
theorem ev_mn {x y : Int32} (f : mm_fetch m pc = some (3, 8, nx, a, b, c, l)) (hs : (t.map mm_cat).sum ≤ 7) : mm_ev m pc la (.inl y :: .inl x :: t) h = mm_ev m nx la (.inl (if y < x then y else x) :: t) h := ev_hp f (by simp only [mm_hp]; rw [if_pos hs])
theorem ev_cs {nL : Nat} (f : mm_fetch m pc = some (5, 0, nx, a, b, c, l)) (h0 : mm_mc a = 0 ∧ mm_ms a = 0 ∧ mm_mL a = nL) (hb : b ≤ st.length) (hsum : (rest.map mm_cat).sum ≤ 8) (hd : st.drop b = rest) (hil : mm_il nL (st.take b).reverse = la0) (hsp : (mm_sp (st.take b).reverse).length ≤ nL) :
    mm_ev m pc la st h = (mm_ev a 0 la0 [] h).bind (fun r => mm_ev m nx la (r.1.toList ++ rest) r.2) := by
  subst hd
  refine ev_cl (y := a) (as := (st.take b).reverse) f (by simp only [mm_cl]; rw [if_pos hb]) ⟨h0.1, h0.2.1⟩ hsum (by rw [h0.2.2]; exact hsp) (by rw [h0.2.2]; exact hil)
theorem ev_cv {nL r i : Nat} (f : mm_fetch m pc = some (5, 2, nx, a, b, c, l)) (h0 : mm_mc a = 0 ∧ mm_ms a = 0 ∧ mm_mL a = nL) (hv : mm_co r i = mm_ow a ∧ mm_kd r = 0) (hd : st.drop b = .inr (.inr (r, i)) :: rest) (hsum : (rest.map mm_cat).sum ≤ 8) (hsp : (mm_sp (.inr (.inr (r, i)) :: (st.take b).reverse)).length ≤ nL) (hil : mm_il nL (.inr (.inr (r, i)) :: (st.take b).reverse) = la0) :
    mm_ev m pc la st h = (mm_ev a 0 la0 [] h).bind (fun r => mm_ev m nx la (r.1.toList ++ rest) r.2) := 
  ev_cl (y := a) (as := .inr (.inr (r, i)) :: (st.take b).reverse) f (by simp only [mm_cl, hd]; rw [if_pos hv]) ⟨h0.1, h0.2.1⟩ hsum (by rw [h0.2.2]; exact hsp) (by rw [h0.2.2]; exact hil)
theorem ev_clN (f : mm_fetch m pc = some (5, op, nx, a, b, c, l)) (hs : mm_cl op a b st = none) : mm_ev m pc la st h = none := by
  refine mm_ev_ext fun r => ?_
  rw [mm_ev_iff]
  constructor
  · rintro ⟨n, hn⟩
    cases n with
    | zero => simp [mm_run] at hn
    | succ n => simp only [mm_run, f, hs] at hn; cases hn
  · intro hn; cases hn
theorem ev_ck {nL i : Nat} (f : mm_fetch m pc = some (5, 3, nx, a, b, c, l)) (h0 : ∀ i, i < 4 → mm_mc (mm_vs a i) = 0 ∧ mm_ms (mm_vs a i) = 0 ∧ mm_mL (mm_vs a i) = nL) (hd : st.drop b = .inr (.inr (3, i)) :: rest) (hsum : (rest.map mm_cat).sum ≤ 8) (hsp : (mm_sp (.inr (.inr (3, i)) :: (st.take b).reverse)).length ≤ nL) (hil : mm_il nL (.inr (.inr (3, i)) :: (st.take b).reverse) = la0) :
    mm_ev m pc la st h = if i < 4 then (mm_ev (mm_vs a i) 0 la0 [] h).bind (fun r => mm_ev m nx la (r.1.toList ++ rest) r.2) else none := by
  split
  next hi =>
    obtain ⟨g1, g2, g3⟩ := h0 i hi
    exact ev_cl (y := mm_vs a i) (as := .inr (.inr (3, i)) :: (st.take b).reverse) f (by simp only [mm_cl, hd]; rw [if_pos ⟨trivial, hi⟩]) ⟨g1, g2⟩ hsum (by rw [g3]; exact hsp) (by rw [g3]; exact hil)
  next hi => exact ev_clN f (by simp only [mm_cl, hd]; rw [if_neg (fun z => hi z.2)])
theorem ev_r0 (f : mm_fetch m pc = some (6, 0, nx, a, b, c, l)) (hr : mm_rt m = some .boolean) : mm_ev m pc la [.inl 0] h = some (some (.inl 0), h) := by rw [ev_rz f hr, if_pos (Or.inl rfl)]
theorem ev_r1 (f : mm_fetch m pc = some (6, 0, nx, a, b, c, l)) (hr : mm_rt m = some .boolean) : mm_ev m pc la [.inl 1] h = some (some (.inl 1), h) := by rw [ev_rz f hr, if_pos (Or.inr rfl)]
end MES
theorem ci_m104 : Int32.ofInt (-104) = (-104) := by decide
theorem ci_m103 : Int32.ofInt (-103) = (-103) := by decide
theorem ci_m102 : Int32.ofInt (-102) = (-102) := by decide
theorem ci_m101 : Int32.ofInt (-101) = (-101) := by decide
theorem ci_m1 : Int32.ofInt (-1) = (-1) := by decide
theorem ci_0 : Int32.ofInt 0 = 0 := by decide
theorem ci_1 : Int32.ofInt 1 = 1 := by decide
theorem ci_2 : Int32.ofInt 2 = 2 := by decide
theorem ci_3 : Int32.ofInt 3 = 3 := by decide
theorem ci_4 : Int32.ofInt 4 = 4 := by decide
theorem ci_5 : Int32.ofInt 5 = 5 := by decide
theorem ci_6 : Int32.ofInt 6 = 6 := by decide
theorem ci_7 : Int32.ofInt 7 = 7 := by decide
theorem ci_8 : Int32.ofInt 8 = 8 := by decide
theorem ci_9 : Int32.ofInt 9 = 9 := by decide
theorem ci_10 : Int32.ofInt 10 = 10 := by decide
theorem ci_16 : Int32.ofInt 16 = 16 := by decide
theorem ci_30 : Int32.ofInt 30 = 30 := by decide
theorem ci_33 : Int32.ofInt 33 = 33 := by decide
theorem ci_36 : Int32.ofInt 36 = 36 := by decide
theorem ci_45 : Int32.ofInt 45 = 45 := by decide
theorem ci_48 : Int32.ofInt 48 = 48 := by decide
theorem ci_53 : Int32.ofInt 53 = 53 := by decide
theorem ci_54 : Int32.ofInt 54 = 54 := by decide
theorem ci_60 : Int32.ofInt 60 = 60 := by decide
theorem ci_63 : Int32.ofInt 63 = 63 := by decide
theorem ci_64 : Int32.ofInt 64 = 64 := by decide
theorem ci_97 : Int32.ofInt 97 = 97 := by decide
theorem ci_99 : Int32.ofInt 99 = 99 := by decide
theorem ci_100 : Int32.ofInt 100 = 100 := by decide
theorem ci_102 : Int32.ofInt 102 = 102 := by decide
theorem ci_103 : Int32.ofInt 103 = 103 := by decide
theorem ci_126 : Int32.ofInt 126 = 126 := by decide
theorem ci_10000 : Int32.ofInt 10000 = 10000 := by decide
theorem ci_1048576 : Int32.ofInt 1048576 = 1048576 := by decide
theorem ci_252645135 : Int32.ofInt 252645135 = 252645135 := by decide
theorem ci_858993459 : Int32.ofInt 858993459 = 858993459 := by decide
theorem ci_1431655765 : Int32.ofInt 1431655765 = 1431655765 := by decide
theorem cj_31 : Int64.ofInt 31 = 31 := by decide
theorem cj_255 : Int64.ofInt 255 = 255 := by decide
theorem cj_599 : Int64.ofInt 599 = 599 := by decide
theorem cj_12345 : Int64.ofInt 12345 = 12345 := by decide
theorem cj_65536 : Int64.ofInt 65536 = 65536 := by decide
theorem cj_1103515245 : Int64.ofInt 1103515245 = 1103515245 := by decide
theorem cj_2147483647 : Int64.ofInt 2147483647 = 2147483647 := by decide
theorem cr_0 : 1 = mm_cr 0 := by decide +kernel
theorem cr_1 : 1 = mm_cr 1 := by decide +kernel
theorem cr_2 : 1 = mm_cr 2 := by decide +kernel
theorem cr_3 : 1 = mm_cr 3 := by decide +kernel
theorem cr_4 : 1 = mm_cr 4 := by decide +kernel
theorem cr_5 : 1 = mm_cr 5 := by decide +kernel
theorem cr_6 : 1 = mm_cr 6 := by decide +kernel
theorem cr_7 : 2 = mm_cr 7 := by decide +kernel
theorem cr_8 : 2 = mm_cr 8 := by decide +kernel
theorem cr_9 : 4 = mm_cr 9 := by decide +kernel
theorem cr_10 : 4 = mm_cr 10 := by decide +kernel
theorem cr_11 : 4 = mm_cr 11 := by decide +kernel
theorem cr_12 : 4 = mm_cr 12 := by decide +kernel
theorem cr_13 : 4 = mm_cr 13 := by decide +kernel
theorem cr_14 : 4 = mm_cr 14 := by decide +kernel
theorem cr_15 : 4 = mm_cr 15 := by decide +kernel
theorem cr_16 : 5 = mm_cr 16 := by decide +kernel
theorem cr_17 : 5 = mm_cr 17 := by decide +kernel
theorem cr_18 : 5 = mm_cr 18 := by decide +kernel
theorem cr_19 : 5 = mm_cr 19 := by decide +kernel
theorem cr_20 : 5 = mm_cr 20 := by decide +kernel
theorem cr_21 : 5 = mm_cr 21 := by decide +kernel
theorem cr_22 : 6 = mm_cr 22 := by decide +kernel
theorem cr_23 : 6 = mm_cr 23 := by decide +kernel
theorem cr_24 : 6 = mm_cr 24 := by decide +kernel
theorem cr_25 : 6 = mm_cr 25 := by decide +kernel
theorem cr_26 : 6 = mm_cr 26 := by decide +kernel
theorem cr_27 : 6 = mm_cr 27 := by decide +kernel
theorem cr_28 : 6 = mm_cr 28 := by decide +kernel
theorem cr_29 : 6 = mm_cr 29 := by decide +kernel
theorem cr_30 : 7 = mm_cr 30 := by decide +kernel
theorem cr_31 : 7 = mm_cr 31 := by decide +kernel
theorem cr_32 : 7 = mm_cr 32 := by decide +kernel
theorem cr_33 : 7 = mm_cr 33 := by decide +kernel
theorem cr_34 : 7 = mm_cr 34 := by decide +kernel
theorem cr_35 : 8 = mm_cr 35 := by decide +kernel
theorem cr_36 : 8 = mm_cr 36 := by decide +kernel
theorem cr_37 : 8 = mm_cr 37 := by decide +kernel
theorem cr_38 : 8 = mm_cr 38 := by decide +kernel
theorem cr_39 : 8 = mm_cr 39 := by decide +kernel
theorem cr_40 : 8 = mm_cr 40 := by decide +kernel
theorem cr_41 : 9 = mm_cr 41 := by decide +kernel
theorem cr_42 : 9 = mm_cr 42 := by decide +kernel
theorem cr_43 : 9 = mm_cr 43 := by decide +kernel
theorem cr_44 : 9 = mm_cr 44 := by decide +kernel
theorem cr_45 : 9 = mm_cr 45 := by decide +kernel
theorem cr_46 : 9 = mm_cr 46 := by decide +kernel
theorem cr_47 : 9 = mm_cr 47 := by decide +kernel
theorem cr_48 : 9 = mm_cr 48 := by decide +kernel
theorem cr_49 : 9 = mm_cr 49 := by decide +kernel
theorem cr_50 : 9 = mm_cr 50 := by decide +kernel
theorem cr_51 : 9 = mm_cr 51 := by decide +kernel
theorem cr_52 : 9 = mm_cr 52 := by decide +kernel
theorem cr_53 : 9 = mm_cr 53 := by decide +kernel
theorem cr_54 : 9 = mm_cr 54 := by decide +kernel
theorem cr_55 : 9 = mm_cr 55 := by decide +kernel
theorem cr_56 : 9 = mm_cr 56 := by decide +kernel
theorem cr_57 : 9 = mm_cr 57 := by decide +kernel
theorem cr_58 : 9 = mm_cr 58 := by decide +kernel
theorem cr_59 : 9 = mm_cr 59 := by decide +kernel
theorem cr_60 : 9 = mm_cr 60 := by decide +kernel
theorem cr_61 : 9 = mm_cr 61 := by decide +kernel
theorem cr_62 : 9 = mm_cr 62 := by decide +kernel
theorem cr_63 : 9 = mm_cr 63 := by decide +kernel
theorem cr_64 : 9 = mm_cr 64 := by decide +kernel
theorem cr_65 : 9 = mm_cr 65 := by decide +kernel
theorem cr_66 : 9 = mm_cr 66 := by decide +kernel
theorem cr_67 : 9 = mm_cr 67 := by decide +kernel
theorem cr_68 : 9 = mm_cr 68 := by decide +kernel
theorem cr_69 : 9 = mm_cr 69 := by decide +kernel
theorem cr_70 : 9 = mm_cr 70 := by decide +kernel
theorem cr_71 : 9 = mm_cr 71 := by decide +kernel
theorem cr_72 : 9 = mm_cr 72 := by decide +kernel
theorem cr_73 : 9 = mm_cr 73 := by decide +kernel
theorem cr_74 : 9 = mm_cr 74 := by decide +kernel
theorem cr_75 : 9 = mm_cr 75 := by decide +kernel
theorem cr_76 : 9 = mm_cr 76 := by decide +kernel
theorem cr_77 : 9 = mm_cr 77 := by decide +kernel
theorem cr_78 : 9 = mm_cr 78 := by decide +kernel
theorem cr_79 : 9 = mm_cr 79 := by decide +kernel
theorem cr_80 : 9 = mm_cr 80 := by decide +kernel
theorem cr_81 : 9 = mm_cr 81 := by decide +kernel
theorem cr_82 : 9 = mm_cr 82 := by decide +kernel
theorem cr_83 : 9 = mm_cr 83 := by decide +kernel
theorem cr_84 : 9 = mm_cr 84 := by decide +kernel
theorem cr_85 : 9 = mm_cr 85 := by decide +kernel
theorem kd_10 : mm_kd 10 = 1 := by decide +kernel
theorem kd_11 : mm_kd 11 = 3 := by decide +kernel
theorem kd_12 : mm_kd 12 = 3 := by decide +kernel
theorem kd_13 : mm_kd 13 = 3 := by decide +kernel
theorem kd_14 : mm_kd 14 = 3 := by decide +kernel
theorem kd_15 : mm_kd 15 = 1 := by decide +kernel
theorem kd_16 : mm_kd 16 = 1 := by decide +kernel
theorem kd_17 : mm_kd 17 = 1 := by decide +kernel
theorem kd_18 : mm_kd 18 = 1 := by decide +kernel
theorem kd_19 : mm_kd 19 = 1 := by decide +kernel
theorem kd_20 : mm_kd 20 = 1 := by decide +kernel
theorem kd_21 : mm_kd 21 = 1 := by decide +kernel
theorem kd_22 : mm_kd 22 = 1 := by decide +kernel
theorem kd_23 : mm_kd 23 = 1 := by decide +kernel
theorem kd_24 : mm_kd 24 = 1 := by decide +kernel
theorem kd_25 : mm_kd 25 = 1 := by decide +kernel
theorem kd_26 : mm_kd 26 = 1 := by decide +kernel
theorem kd_27 : mm_kd 27 = 1 := by decide +kernel
theorem kd_28 : mm_kd 28 = 1 := by decide +kernel
theorem kd_29 : mm_kd 29 = 1 := by decide +kernel
theorem kd_30 : mm_kd 30 = 1 := by decide +kernel
theorem kd_31 : mm_kd 31 = 1 := by decide +kernel
theorem kd_32 : mm_kd 32 = 1 := by decide +kernel
theorem kd_33 : mm_kd 33 = 1 := by decide +kernel
theorem kd_34 : mm_kd 34 = 1 := by decide +kernel
theorem kd_35 : mm_kd 35 = 2 := by decide +kernel
theorem kd_36 : mm_kd 36 = 1 := by decide +kernel
theorem kd_37 : mm_kd 37 = 1 := by decide +kernel
theorem kd_38 : mm_kd 38 = 1 := by decide +kernel
theorem kd_39 : mm_kd 39 = 1 := by decide +kernel
theorem kd_40 : mm_kd 40 = 1 := by decide +kernel
theorem kd_41 : mm_kd 41 = 1 := by decide +kernel
theorem kd_42 : mm_kd 42 = 1 := by decide +kernel
theorem kd_43 : mm_kd 43 = 1 := by decide +kernel
theorem kd_44 : mm_kd 44 = 1 := by decide +kernel
theorem kd_45 : mm_kd 45 = 1 := by decide +kernel
theorem kd_46 : mm_kd 46 = 1 := by decide +kernel
theorem z_12 : mm_mc 12 = 0 ∧ mm_ms 12 = 0 ∧ mm_mL 12 = 5 := by decide +kernel
theorem z_23 : mm_mc 23 = 0 ∧ mm_ms 23 = 0 ∧ mm_mL 23 = 1 := by decide +kernel
theorem z_27 : mm_mc 27 = 0 ∧ mm_ms 27 = 0 ∧ mm_mL 27 = 2 := by decide +kernel
theorem z_29 : mm_mc 29 = 0 ∧ mm_ms 29 = 0 ∧ mm_mL 29 = 7 := by decide +kernel
theorem z_30 : mm_mc 30 = 0 ∧ mm_ms 30 = 0 ∧ mm_mL 30 = 8 := by decide +kernel
theorem z_31 : mm_mc 31 = 0 ∧ mm_ms 31 = 0 ∧ mm_mL 31 = 7 := by decide +kernel
theorem z_32 : mm_mc 32 = 0 ∧ mm_ms 32 = 0 ∧ mm_mL 32 = 3 := by decide +kernel
theorem z_33 : mm_mc 33 = 0 ∧ mm_ms 33 = 0 ∧ mm_mL 33 = 1 := by decide +kernel
theorem z_34 : mm_mc 34 = 0 ∧ mm_ms 34 = 0 ∧ mm_mL 34 = 1 := by decide +kernel
theorem z_35 : mm_mc 35 = 0 ∧ mm_ms 35 = 0 ∧ mm_mL 35 = 1 := by decide +kernel
theorem z_36 : mm_mc 36 = 0 ∧ mm_ms 36 = 0 ∧ mm_mL 36 = 2 := by decide +kernel
theorem z_38 : mm_mc 38 = 0 ∧ mm_ms 38 = 0 ∧ mm_mL 38 = 3 := by decide +kernel
theorem z_39 : mm_mc 39 = 0 ∧ mm_ms 39 = 0 ∧ mm_mL 39 = 6 := by decide +kernel
theorem z_40 : mm_mc 40 = 0 ∧ mm_ms 40 = 0 ∧ mm_mL 40 = 5 := by decide +kernel
theorem z_41 : mm_mc 41 = 0 ∧ mm_ms 41 = 0 ∧ mm_mL 41 = 2 := by decide +kernel
theorem z_42 : mm_mc 42 = 0 ∧ mm_ms 42 = 0 ∧ mm_mL 42 = 1 := by decide +kernel
theorem z_43 : mm_mc 43 = 0 ∧ mm_ms 43 = 0 ∧ mm_mL 43 = 4 := by decide +kernel
theorem z_44 : mm_mc 44 = 0 ∧ mm_ms 44 = 0 ∧ mm_mL 44 = 1 := by decide +kernel
theorem z_45 : mm_mc 45 = 0 ∧ mm_ms 45 = 0 ∧ mm_mL 45 = 1 := by decide +kernel
theorem z_61 : mm_mc 61 = 0 ∧ mm_ms 61 = 0 ∧ mm_mL 61 = 3 := by decide +kernel
theorem z_62 : mm_mc 62 = 0 ∧ mm_ms 62 = 0 ∧ mm_mL 62 = 2 := by decide +kernel
theorem z_63 : mm_mc 63 = 0 ∧ mm_ms 63 = 0 ∧ mm_mL 63 = 2 := by decide +kernel
theorem z_64 : mm_mc 64 = 0 ∧ mm_ms 64 = 0 ∧ mm_mL 64 = 3 := by decide +kernel
theorem z_65 : mm_mc 65 = 0 ∧ mm_ms 65 = 0 ∧ mm_mL 65 = 4 := by decide +kernel
theorem z_66 : mm_mc 66 = 0 ∧ mm_ms 66 = 0 ∧ mm_mL 66 = 5 := by decide +kernel
theorem z_67 : mm_mc 67 = 0 ∧ mm_ms 67 = 0 ∧ mm_mL 67 = 3 := by decide +kernel
theorem z_68 : mm_mc 68 = 0 ∧ mm_ms 68 = 0 ∧ mm_mL 68 = 5 := by decide +kernel
theorem z_69 : mm_mc 69 = 0 ∧ mm_ms 69 = 0 ∧ mm_mL 69 = 4 := by decide +kernel
theorem z_70 : mm_mc 70 = 0 ∧ mm_ms 70 = 0 ∧ mm_mL 70 = 9 := by decide +kernel
theorem z_72 : mm_mc 72 = 0 ∧ mm_ms 72 = 0 ∧ mm_mL 72 = 4 := by decide +kernel
theorem z_73 : mm_mc 73 = 0 ∧ mm_ms 73 = 0 ∧ mm_mL 73 = 2 := by decide +kernel
theorem z_74 : mm_mc 74 = 0 ∧ mm_ms 74 = 0 ∧ mm_mL 74 = 2 := by decide +kernel
theorem z_75 : mm_mc 75 = 0 ∧ mm_ms 75 = 0 ∧ mm_mL 75 = 2 := by decide +kernel
theorem z_76 : mm_mc 76 = 0 ∧ mm_ms 76 = 0 ∧ mm_mL 76 = 3 := by decide +kernel
theorem z_77 : mm_mc 77 = 0 ∧ mm_ms 77 = 0 ∧ mm_mL 77 = 3 := by decide +kernel
theorem z_78 : mm_mc 78 = 0 ∧ mm_ms 78 = 0 ∧ mm_mL 78 = 4 := by decide +kernel
theorem z_79 : mm_mc 79 = 0 ∧ mm_ms 79 = 0 ∧ mm_mL 79 = 3 := by decide +kernel
theorem z_80 : mm_mc 80 = 0 ∧ mm_ms 80 = 0 ∧ mm_mL 80 = 3 := by decide +kernel
theorem z_81 : mm_mc 81 = 0 ∧ mm_ms 81 = 0 ∧ mm_mL 81 = 1 := by decide +kernel
theorem z_82 : mm_mc 82 = 0 ∧ mm_ms 82 = 0 ∧ mm_mL 82 = 2 := by decide +kernel
theorem z_84 : mm_mc 84 = 0 ∧ mm_ms 84 = 0 ∧ mm_mL 84 = 6 := by decide +kernel
theorem z_85 : mm_mc 85 = 0 ∧ mm_ms 85 = 0 ∧ mm_mL 85 = 2 := by decide +kernel
theorem z_86 : mm_mc 86 = 0 ∧ mm_ms 86 = 0 ∧ mm_mL 86 = 2 := by decide +kernel
theorem z_87 : mm_mc 87 = 0 ∧ mm_ms 87 = 0 ∧ mm_mL 87 = 2 := by decide +kernel
theorem z_88 : mm_mc 88 = 0 ∧ mm_ms 88 = 0 ∧ mm_mL 88 = 4 := by decide +kernel
theorem z_89 : mm_mc 89 = 0 ∧ mm_ms 89 = 0 ∧ mm_mL 89 = 2 := by decide +kernel
theorem z_90 : mm_mc 90 = 0 ∧ mm_ms 90 = 0 ∧ mm_mL 90 = 3 := by decide +kernel
theorem z_91 : mm_mc 91 = 0 ∧ mm_ms 91 = 0 ∧ mm_mL 91 = 3 := by decide +kernel
theorem z_92 : mm_mc 92 = 0 ∧ mm_ms 92 = 0 ∧ mm_mL 92 = 1 := by decide +kernel
theorem z_94 : mm_mc 94 = 0 ∧ mm_ms 94 = 0 ∧ mm_mL 94 = 4 := by decide +kernel
theorem z_95 : mm_mc 95 = 0 ∧ mm_ms 95 = 0 ∧ mm_mL 95 = 6 := by decide +kernel
theorem z_96 : mm_mc 96 = 0 ∧ mm_ms 96 = 0 ∧ mm_mL 96 = 5 := by decide +kernel
theorem z_97 : mm_mc 97 = 0 ∧ mm_ms 97 = 0 ∧ mm_mL 97 = 2 := by decide +kernel
theorem z_98 : mm_mc 98 = 0 ∧ mm_ms 98 = 0 ∧ mm_mL 98 = 5 := by decide +kernel
theorem z_99 : mm_mc 99 = 0 ∧ mm_ms 99 = 0 ∧ mm_mL 99 = 7 := by decide +kernel
theorem z_100 : mm_mc 100 = 0 ∧ mm_ms 100 = 0 ∧ mm_mL 100 = 6 := by decide +kernel
theorem z_101 : mm_mc 101 = 0 ∧ mm_ms 101 = 0 ∧ mm_mL 101 = 5 := by decide +kernel
theorem z_102 : mm_mc 102 = 0 ∧ mm_ms 102 = 0 ∧ mm_mL 102 = 6 := by decide +kernel
theorem z_103 : mm_mc 103 = 0 ∧ mm_ms 103 = 0 ∧ mm_mL 103 = 7 := by decide +kernel
theorem z_104 : mm_mc 104 = 0 ∧ mm_ms 104 = 0 ∧ mm_mL 104 = 4 := by decide +kernel
theorem z_106 : mm_mc 106 = 0 ∧ mm_ms 106 = 0 ∧ mm_mL 106 = 3 := by decide +kernel
theorem z_107 : mm_mc 107 = 0 ∧ mm_ms 107 = 0 ∧ mm_mL 107 = 3 := by decide +kernel
theorem z_108 : mm_mc 108 = 0 ∧ mm_ms 108 = 0 ∧ mm_mL 108 = 4 := by decide +kernel
theorem z_109 : mm_mc 109 = 0 ∧ mm_ms 109 = 0 ∧ mm_mL 109 = 2 := by decide +kernel
theorem z_110 : mm_mc 110 = 0 ∧ mm_ms 110 = 0 ∧ mm_mL 110 = 2 := by decide +kernel
theorem z_111 : mm_mc 111 = 0 ∧ mm_ms 111 = 0 ∧ mm_mL 111 = 2 := by decide +kernel
theorem z_113 : mm_mc 113 = 0 ∧ mm_ms 113 = 0 ∧ mm_mL 113 = 3 := by decide +kernel
theorem z_114 : mm_mc 114 = 0 ∧ mm_ms 114 = 0 ∧ mm_mL 114 = 2 := by decide +kernel
theorem z_115 : mm_mc 115 = 0 ∧ mm_ms 115 = 0 ∧ mm_mL 115 = 3 := by decide +kernel
theorem z_118 : mm_mc 118 = 0 ∧ mm_ms 118 = 0 ∧ mm_mL 118 = 1 := by decide +kernel
theorem z_119 : mm_mc 119 = 0 ∧ mm_ms 119 = 0 ∧ mm_mL 119 = 4 := by decide +kernel
theorem z_120 : mm_mc 120 = 0 ∧ mm_ms 120 = 0 ∧ mm_mL 120 = 5 := by decide +kernel
theorem z_123 : mm_mc 123 = 0 ∧ mm_ms 123 = 0 ∧ mm_mL 123 = 2 := by decide +kernel
theorem z_124 : mm_mc 124 = 0 ∧ mm_ms 124 = 0 ∧ mm_mL 124 = 4 := by decide +kernel
theorem z_125 : mm_mc 125 = 0 ∧ mm_ms 125 = 0 ∧ mm_mL 125 = 2 := by decide +kernel
theorem z_126 : mm_mc 126 = 0 ∧ mm_ms 126 = 0 ∧ mm_mL 126 = 3 := by decide +kernel
theorem z_130 : mm_mc 130 = 0 ∧ mm_ms 130 = 0 ∧ mm_mL 130 = 5 := by decide +kernel
theorem z_132 : mm_mc 132 = 0 ∧ mm_ms 132 = 0 ∧ mm_mL 132 = 1 := by decide +kernel
theorem z_133 : mm_mc 133 = 0 ∧ mm_ms 133 = 0 ∧ mm_mL 133 = 1 := by decide +kernel
theorem z_134 : mm_mc 134 = 0 ∧ mm_ms 134 = 0 ∧ mm_mL 134 = 2 := by decide +kernel
theorem z_136 : mm_mc 136 = 0 ∧ mm_ms 136 = 0 ∧ mm_mL 136 = 5 := by decide +kernel
theorem z_137 : mm_mc 137 = 0 ∧ mm_ms 137 = 0 ∧ mm_mL 137 = 3 := by decide +kernel
theorem z_140 : mm_mc 140 = 0 ∧ mm_ms 140 = 0 ∧ mm_mL 140 = 5 := by decide +kernel
theorem z_141 : mm_mc 141 = 0 ∧ mm_ms 141 = 0 ∧ mm_mL 141 = 3 := by decide +kernel
theorem z_142 : mm_mc 142 = 0 ∧ mm_ms 142 = 0 ∧ mm_mL 142 = 3 := by decide +kernel
theorem z_147 : mm_mc 147 = 0 ∧ mm_ms 147 = 0 ∧ mm_mL 147 = 8 := by decide +kernel
theorem z_148 : mm_mc 148 = 0 ∧ mm_ms 148 = 0 ∧ mm_mL 148 = 7 := by decide +kernel
theorem z_150 : mm_mc 150 = 0 ∧ mm_ms 150 = 0 ∧ mm_mL 150 = 5 := by decide +kernel
theorem z_152 : mm_mc 152 = 0 ∧ mm_ms 152 = 0 ∧ mm_mL 152 = 7 := by decide +kernel
theorem z_154 : mm_mc 154 = 0 ∧ mm_ms 154 = 0 ∧ mm_mL 154 = 7 := by decide +kernel
theorem z_155 : mm_mc 155 = 0 ∧ mm_ms 155 = 0 ∧ mm_mL 155 = 7 := by decide +kernel
theorem z_157 : mm_mc 157 = 0 ∧ mm_ms 157 = 0 ∧ mm_mL 157 = 8 := by decide +kernel
theorem z_161 : mm_mc 161 = 0 ∧ mm_ms 161 = 0 ∧ mm_mL 161 = 6 := by decide +kernel
theorem z_162 : mm_mc 162 = 0 ∧ mm_ms 162 = 0 ∧ mm_mL 162 = 7 := by decide +kernel
theorem z_164 : mm_mc 164 = 0 ∧ mm_ms 164 = 0 ∧ mm_mL 164 = 2 := by decide +kernel
theorem z_165 : mm_mc 165 = 0 ∧ mm_ms 165 = 0 ∧ mm_mL 165 = 3 := by decide +kernel
theorem z_166 : mm_mc 166 = 0 ∧ mm_ms 166 = 0 ∧ mm_mL 166 = 5 := by decide +kernel
theorem z_170 : mm_mc 170 = 0 ∧ mm_ms 170 = 0 ∧ mm_mL 170 = 3 := by decide +kernel
theorem z_171 : mm_mc 171 = 0 ∧ mm_ms 171 = 0 ∧ mm_mL 171 = 2 := by decide +kernel
theorem z_173 : mm_mc 173 = 0 ∧ mm_ms 173 = 0 ∧ mm_mL 173 = 3 := by decide +kernel
theorem z_174 : mm_mc 174 = 0 ∧ mm_ms 174 = 0 ∧ mm_mL 174 = 3 := by decide +kernel
theorem z_176 : mm_mc 176 = 0 ∧ mm_ms 176 = 0 ∧ mm_mL 176 = 1 := by decide +kernel
theorem z_177 : mm_mc 177 = 0 ∧ mm_ms 177 = 0 ∧ mm_mL 177 = 4 := by decide +kernel
theorem v_1_12 (i : Nat) : mm_co 1 i = mm_ow 12 ∧ mm_kd 1 = 0 := ⟨by unfold mm_co; rw [if_neg (by decide)]; decide +kernel, by decide +kernel⟩
theorem v_1_23 (i : Nat) : mm_co 1 i = mm_ow 23 ∧ mm_kd 1 = 0 := ⟨by unfold mm_co; rw [if_neg (by decide)]; decide +kernel, by decide +kernel⟩
theorem v_1_27 (i : Nat) : mm_co 1 i = mm_ow 27 ∧ mm_kd 1 = 0 := ⟨by unfold mm_co; rw [if_neg (by decide)]; decide +kernel, by decide +kernel⟩
theorem v_1_29 (i : Nat) : mm_co 1 i = mm_ow 29 ∧ mm_kd 1 = 0 := ⟨by unfold mm_co; rw [if_neg (by decide)]; decide +kernel, by decide +kernel⟩
theorem v_1_30 (i : Nat) : mm_co 1 i = mm_ow 30 ∧ mm_kd 1 = 0 := ⟨by unfold mm_co; rw [if_neg (by decide)]; decide +kernel, by decide +kernel⟩
theorem v_2_40 (i : Nat) : mm_co 2 i = mm_ow 40 ∧ mm_kd 2 = 0 := ⟨by unfold mm_co; rw [if_neg (by decide)]; decide +kernel, by decide +kernel⟩
theorem v_2_41 (i : Nat) : mm_co 2 i = mm_ow 41 ∧ mm_kd 2 = 0 := ⟨by unfold mm_co; rw [if_neg (by decide)]; decide +kernel, by decide +kernel⟩
theorem v_2_42 (i : Nat) : mm_co 2 i = mm_ow 42 ∧ mm_kd 2 = 0 := ⟨by unfold mm_co; rw [if_neg (by decide)]; decide +kernel, by decide +kernel⟩
theorem v_2_43 (i : Nat) : mm_co 2 i = mm_ow 43 ∧ mm_kd 2 = 0 := ⟨by unfold mm_co; rw [if_neg (by decide)]; decide +kernel, by decide +kernel⟩
theorem v_2_44 (i : Nat) : mm_co 2 i = mm_ow 44 ∧ mm_kd 2 = 0 := ⟨by unfold mm_co; rw [if_neg (by decide)]; decide +kernel, by decide +kernel⟩
theorem v_2_45 (i : Nat) : mm_co 2 i = mm_ow 45 ∧ mm_kd 2 = 0 := ⟨by unfold mm_co; rw [if_neg (by decide)]; decide +kernel, by decide +kernel⟩
theorem v_4_61 (i : Nat) : mm_co 4 i = mm_ow 61 ∧ mm_kd 4 = 0 := ⟨by unfold mm_co; rw [if_neg (by decide)]; decide +kernel, by decide +kernel⟩
theorem v_4_62 (i : Nat) : mm_co 4 i = mm_ow 62 ∧ mm_kd 4 = 0 := ⟨by unfold mm_co; rw [if_neg (by decide)]; decide +kernel, by decide +kernel⟩
theorem v_4_63 (i : Nat) : mm_co 4 i = mm_ow 63 ∧ mm_kd 4 = 0 := ⟨by unfold mm_co; rw [if_neg (by decide)]; decide +kernel, by decide +kernel⟩
theorem v_4_64 (i : Nat) : mm_co 4 i = mm_ow 64 ∧ mm_kd 4 = 0 := ⟨by unfold mm_co; rw [if_neg (by decide)]; decide +kernel, by decide +kernel⟩
theorem v_4_65 (i : Nat) : mm_co 4 i = mm_ow 65 ∧ mm_kd 4 = 0 := ⟨by unfold mm_co; rw [if_neg (by decide)]; decide +kernel, by decide +kernel⟩
theorem v_4_66 (i : Nat) : mm_co 4 i = mm_ow 66 ∧ mm_kd 4 = 0 := ⟨by unfold mm_co; rw [if_neg (by decide)]; decide +kernel, by decide +kernel⟩
theorem v_4_67 (i : Nat) : mm_co 4 i = mm_ow 67 ∧ mm_kd 4 = 0 := ⟨by unfold mm_co; rw [if_neg (by decide)]; decide +kernel, by decide +kernel⟩
theorem v_4_68 (i : Nat) : mm_co 4 i = mm_ow 68 ∧ mm_kd 4 = 0 := ⟨by unfold mm_co; rw [if_neg (by decide)]; decide +kernel, by decide +kernel⟩
theorem v_4_69 (i : Nat) : mm_co 4 i = mm_ow 69 ∧ mm_kd 4 = 0 := ⟨by unfold mm_co; rw [if_neg (by decide)]; decide +kernel, by decide +kernel⟩
theorem v_4_70 (i : Nat) : mm_co 4 i = mm_ow 70 ∧ mm_kd 4 = 0 := ⟨by unfold mm_co; rw [if_neg (by decide)]; decide +kernel, by decide +kernel⟩
theorem v_5_72 (i : Nat) : mm_co 5 i = mm_ow 72 ∧ mm_kd 5 = 0 := ⟨by unfold mm_co; rw [if_neg (by decide)]; decide +kernel, by decide +kernel⟩
theorem v_5_73 (i : Nat) : mm_co 5 i = mm_ow 73 ∧ mm_kd 5 = 0 := ⟨by unfold mm_co; rw [if_neg (by decide)]; decide +kernel, by decide +kernel⟩
theorem v_5_74 (i : Nat) : mm_co 5 i = mm_ow 74 ∧ mm_kd 5 = 0 := ⟨by unfold mm_co; rw [if_neg (by decide)]; decide +kernel, by decide +kernel⟩
theorem v_5_75 (i : Nat) : mm_co 5 i = mm_ow 75 ∧ mm_kd 5 = 0 := ⟨by unfold mm_co; rw [if_neg (by decide)]; decide +kernel, by decide +kernel⟩
theorem v_5_76 (i : Nat) : mm_co 5 i = mm_ow 76 ∧ mm_kd 5 = 0 := ⟨by unfold mm_co; rw [if_neg (by decide)]; decide +kernel, by decide +kernel⟩
theorem v_5_77 (i : Nat) : mm_co 5 i = mm_ow 77 ∧ mm_kd 5 = 0 := ⟨by unfold mm_co; rw [if_neg (by decide)]; decide +kernel, by decide +kernel⟩
theorem v_5_78 (i : Nat) : mm_co 5 i = mm_ow 78 ∧ mm_kd 5 = 0 := ⟨by unfold mm_co; rw [if_neg (by decide)]; decide +kernel, by decide +kernel⟩
theorem v_5_79 (i : Nat) : mm_co 5 i = mm_ow 79 ∧ mm_kd 5 = 0 := ⟨by unfold mm_co; rw [if_neg (by decide)]; decide +kernel, by decide +kernel⟩
theorem v_5_80 (i : Nat) : mm_co 5 i = mm_ow 80 ∧ mm_kd 5 = 0 := ⟨by unfold mm_co; rw [if_neg (by decide)]; decide +kernel, by decide +kernel⟩
theorem v_5_81 (i : Nat) : mm_co 5 i = mm_ow 81 ∧ mm_kd 5 = 0 := ⟨by unfold mm_co; rw [if_neg (by decide)]; decide +kernel, by decide +kernel⟩
theorem v_5_82 (i : Nat) : mm_co 5 i = mm_ow 82 ∧ mm_kd 5 = 0 := ⟨by unfold mm_co; rw [if_neg (by decide)]; decide +kernel, by decide +kernel⟩
theorem v_6_84 (i : Nat) : mm_co 6 i = mm_ow 84 ∧ mm_kd 6 = 0 := ⟨by unfold mm_co; rw [if_neg (by decide)]; decide +kernel, by decide +kernel⟩
theorem v_6_85 (i : Nat) : mm_co 6 i = mm_ow 85 ∧ mm_kd 6 = 0 := ⟨by unfold mm_co; rw [if_neg (by decide)]; decide +kernel, by decide +kernel⟩
theorem v_6_86 (i : Nat) : mm_co 6 i = mm_ow 86 ∧ mm_kd 6 = 0 := ⟨by unfold mm_co; rw [if_neg (by decide)]; decide +kernel, by decide +kernel⟩
theorem v_6_87 (i : Nat) : mm_co 6 i = mm_ow 87 ∧ mm_kd 6 = 0 := ⟨by unfold mm_co; rw [if_neg (by decide)]; decide +kernel, by decide +kernel⟩
theorem v_6_88 (i : Nat) : mm_co 6 i = mm_ow 88 ∧ mm_kd 6 = 0 := ⟨by unfold mm_co; rw [if_neg (by decide)]; decide +kernel, by decide +kernel⟩
theorem v_6_89 (i : Nat) : mm_co 6 i = mm_ow 89 ∧ mm_kd 6 = 0 := ⟨by unfold mm_co; rw [if_neg (by decide)]; decide +kernel, by decide +kernel⟩
theorem v_6_90 (i : Nat) : mm_co 6 i = mm_ow 90 ∧ mm_kd 6 = 0 := ⟨by unfold mm_co; rw [if_neg (by decide)]; decide +kernel, by decide +kernel⟩
theorem v_6_91 (i : Nat) : mm_co 6 i = mm_ow 91 ∧ mm_kd 6 = 0 := ⟨by unfold mm_co; rw [if_neg (by decide)]; decide +kernel, by decide +kernel⟩
theorem v_6_92 (i : Nat) : mm_co 6 i = mm_ow 92 ∧ mm_kd 6 = 0 := ⟨by unfold mm_co; rw [if_neg (by decide)]; decide +kernel, by decide +kernel⟩
theorem v_7_94 (i : Nat) : mm_co 7 i = mm_ow 94 ∧ mm_kd 7 = 0 := ⟨by unfold mm_co; rw [if_neg (by decide)]; decide +kernel, by decide +kernel⟩
theorem v_7_95 (i : Nat) : mm_co 7 i = mm_ow 95 ∧ mm_kd 7 = 0 := ⟨by unfold mm_co; rw [if_neg (by decide)]; decide +kernel, by decide +kernel⟩
theorem v_7_96 (i : Nat) : mm_co 7 i = mm_ow 96 ∧ mm_kd 7 = 0 := ⟨by unfold mm_co; rw [if_neg (by decide)]; decide +kernel, by decide +kernel⟩
theorem v_7_97 (i : Nat) : mm_co 7 i = mm_ow 97 ∧ mm_kd 7 = 0 := ⟨by unfold mm_co; rw [if_neg (by decide)]; decide +kernel, by decide +kernel⟩
theorem v_7_98 (i : Nat) : mm_co 7 i = mm_ow 98 ∧ mm_kd 7 = 0 := ⟨by unfold mm_co; rw [if_neg (by decide)]; decide +kernel, by decide +kernel⟩
theorem v_7_99 (i : Nat) : mm_co 7 i = mm_ow 99 ∧ mm_kd 7 = 0 := ⟨by unfold mm_co; rw [if_neg (by decide)]; decide +kernel, by decide +kernel⟩
theorem v_7_100 (i : Nat) : mm_co 7 i = mm_ow 100 ∧ mm_kd 7 = 0 := ⟨by unfold mm_co; rw [if_neg (by decide)]; decide +kernel, by decide +kernel⟩
theorem v_7_101 (i : Nat) : mm_co 7 i = mm_ow 101 ∧ mm_kd 7 = 0 := ⟨by unfold mm_co; rw [if_neg (by decide)]; decide +kernel, by decide +kernel⟩
theorem v_7_102 (i : Nat) : mm_co 7 i = mm_ow 102 ∧ mm_kd 7 = 0 := ⟨by unfold mm_co; rw [if_neg (by decide)]; decide +kernel, by decide +kernel⟩
theorem v_7_103 (i : Nat) : mm_co 7 i = mm_ow 103 ∧ mm_kd 7 = 0 := ⟨by unfold mm_co; rw [if_neg (by decide)]; decide +kernel, by decide +kernel⟩
theorem v_7_104 (i : Nat) : mm_co 7 i = mm_ow 104 ∧ mm_kd 7 = 0 := ⟨by unfold mm_co; rw [if_neg (by decide)]; decide +kernel, by decide +kernel⟩
theorem v_8_106 (i : Nat) : mm_co 8 i = mm_ow 106 ∧ mm_kd 8 = 0 := ⟨by unfold mm_co; rw [if_neg (by decide)]; decide +kernel, by decide +kernel⟩
theorem v_8_107 (i : Nat) : mm_co 8 i = mm_ow 107 ∧ mm_kd 8 = 0 := ⟨by unfold mm_co; rw [if_neg (by decide)]; decide +kernel, by decide +kernel⟩
theorem v_8_108 (i : Nat) : mm_co 8 i = mm_ow 108 ∧ mm_kd 8 = 0 := ⟨by unfold mm_co; rw [if_neg (by decide)]; decide +kernel, by decide +kernel⟩
theorem v_8_109 (i : Nat) : mm_co 8 i = mm_ow 109 ∧ mm_kd 8 = 0 := ⟨by unfold mm_co; rw [if_neg (by decide)]; decide +kernel, by decide +kernel⟩
theorem v_8_110 (i : Nat) : mm_co 8 i = mm_ow 110 ∧ mm_kd 8 = 0 := ⟨by unfold mm_co; rw [if_neg (by decide)]; decide +kernel, by decide +kernel⟩
theorem v_8_111 (i : Nat) : mm_co 8 i = mm_ow 111 ∧ mm_kd 8 = 0 := ⟨by unfold mm_co; rw [if_neg (by decide)]; decide +kernel, by decide +kernel⟩
theorem v_9_119 (i : Nat) : mm_co 9 i = mm_ow 119 ∧ mm_kd 9 = 0 := ⟨by unfold mm_co; rw [if_neg (by decide)]; decide +kernel, by decide +kernel⟩
theorem v_9_120 (i : Nat) : mm_co 9 i = mm_ow 120 ∧ mm_kd 9 = 0 := ⟨by unfold mm_co; rw [if_neg (by decide)]; decide +kernel, by decide +kernel⟩
theorem v_9_123 (i : Nat) : mm_co 9 i = mm_ow 123 ∧ mm_kd 9 = 0 := ⟨by unfold mm_co; rw [if_neg (by decide)]; decide +kernel, by decide +kernel⟩
theorem v_9_124 (i : Nat) : mm_co 9 i = mm_ow 124 ∧ mm_kd 9 = 0 := ⟨by unfold mm_co; rw [if_neg (by decide)]; decide +kernel, by decide +kernel⟩
theorem v_9_125 (i : Nat) : mm_co 9 i = mm_ow 125 ∧ mm_kd 9 = 0 := ⟨by unfold mm_co; rw [if_neg (by decide)]; decide +kernel, by decide +kernel⟩
theorem v_9_126 (i : Nat) : mm_co 9 i = mm_ow 126 ∧ mm_kd 9 = 0 := ⟨by unfold mm_co; rw [if_neg (by decide)]; decide +kernel, by decide +kernel⟩
theorem v_9_130 (i : Nat) : mm_co 9 i = mm_ow 130 ∧ mm_kd 9 = 0 := ⟨by unfold mm_co; rw [if_neg (by decide)]; decide +kernel, by decide +kernel⟩
theorem v_9_134 (i : Nat) : mm_co 9 i = mm_ow 134 ∧ mm_kd 9 = 0 := ⟨by unfold mm_co; rw [if_neg (by decide)]; decide +kernel, by decide +kernel⟩
theorem v_9_136 (i : Nat) : mm_co 9 i = mm_ow 136 ∧ mm_kd 9 = 0 := ⟨by unfold mm_co; rw [if_neg (by decide)]; decide +kernel, by decide +kernel⟩
theorem v_9_137 (i : Nat) : mm_co 9 i = mm_ow 137 ∧ mm_kd 9 = 0 := ⟨by unfold mm_co; rw [if_neg (by decide)]; decide +kernel, by decide +kernel⟩
theorem v_9_140 (i : Nat) : mm_co 9 i = mm_ow 140 ∧ mm_kd 9 = 0 := ⟨by unfold mm_co; rw [if_neg (by decide)]; decide +kernel, by decide +kernel⟩
theorem v_9_141 (i : Nat) : mm_co 9 i = mm_ow 141 ∧ mm_kd 9 = 0 := ⟨by unfold mm_co; rw [if_neg (by decide)]; decide +kernel, by decide +kernel⟩
theorem v_9_142 (i : Nat) : mm_co 9 i = mm_ow 142 ∧ mm_kd 9 = 0 := ⟨by unfold mm_co; rw [if_neg (by decide)]; decide +kernel, by decide +kernel⟩
theorem v_9_147 (i : Nat) : mm_co 9 i = mm_ow 147 ∧ mm_kd 9 = 0 := ⟨by unfold mm_co; rw [if_neg (by decide)]; decide +kernel, by decide +kernel⟩
theorem v_9_148 (i : Nat) : mm_co 9 i = mm_ow 148 ∧ mm_kd 9 = 0 := ⟨by unfold mm_co; rw [if_neg (by decide)]; decide +kernel, by decide +kernel⟩
theorem v_9_150 (i : Nat) : mm_co 9 i = mm_ow 150 ∧ mm_kd 9 = 0 := ⟨by unfold mm_co; rw [if_neg (by decide)]; decide +kernel, by decide +kernel⟩
theorem v_9_152 (i : Nat) : mm_co 9 i = mm_ow 152 ∧ mm_kd 9 = 0 := ⟨by unfold mm_co; rw [if_neg (by decide)]; decide +kernel, by decide +kernel⟩
theorem v_9_154 (i : Nat) : mm_co 9 i = mm_ow 154 ∧ mm_kd 9 = 0 := ⟨by unfold mm_co; rw [if_neg (by decide)]; decide +kernel, by decide +kernel⟩
theorem v_9_155 (i : Nat) : mm_co 9 i = mm_ow 155 ∧ mm_kd 9 = 0 := ⟨by unfold mm_co; rw [if_neg (by decide)]; decide +kernel, by decide +kernel⟩
theorem v_9_157 (i : Nat) : mm_co 9 i = mm_ow 157 ∧ mm_kd 9 = 0 := ⟨by unfold mm_co; rw [if_neg (by decide)]; decide +kernel, by decide +kernel⟩
theorem v_9_161 (i : Nat) : mm_co 9 i = mm_ow 161 ∧ mm_kd 9 = 0 := ⟨by unfold mm_co; rw [if_neg (by decide)]; decide +kernel, by decide +kernel⟩
theorem v_9_162 (i : Nat) : mm_co 9 i = mm_ow 162 ∧ mm_kd 9 = 0 := ⟨by unfold mm_co; rw [if_neg (by decide)]; decide +kernel, by decide +kernel⟩
theorem v_9_164 (i : Nat) : mm_co 9 i = mm_ow 164 ∧ mm_kd 9 = 0 := ⟨by unfold mm_co; rw [if_neg (by decide)]; decide +kernel, by decide +kernel⟩
theorem v_9_165 (i : Nat) : mm_co 9 i = mm_ow 165 ∧ mm_kd 9 = 0 := ⟨by unfold mm_co; rw [if_neg (by decide)]; decide +kernel, by decide +kernel⟩
theorem v_9_166 (i : Nat) : mm_co 9 i = mm_ow 166 ∧ mm_kd 9 = 0 := ⟨by unfold mm_co; rw [if_neg (by decide)]; decide +kernel, by decide +kernel⟩
theorem v_9_170 (i : Nat) : mm_co 9 i = mm_ow 170 ∧ mm_kd 9 = 0 := ⟨by unfold mm_co; rw [if_neg (by decide)]; decide +kernel, by decide +kernel⟩
theorem v_9_171 (i : Nat) : mm_co 9 i = mm_ow 171 ∧ mm_kd 9 = 0 := ⟨by unfold mm_co; rw [if_neg (by decide)]; decide +kernel, by decide +kernel⟩
theorem v_9_173 (i : Nat) : mm_co 9 i = mm_ow 173 ∧ mm_kd 9 = 0 := ⟨by unfold mm_co; rw [if_neg (by decide)]; decide +kernel, by decide +kernel⟩
theorem v_9_174 (i : Nat) : mm_co 9 i = mm_ow 174 ∧ mm_kd 9 = 0 := ⟨by unfold mm_co; rw [if_neg (by decide)]; decide +kernel, by decide +kernel⟩
theorem vg_0 : ∀ i, i < 4 → mm_mc (mm_vs 0 i) = 0 ∧ mm_ms (mm_vs 0 i) = 0 ∧ mm_mL (mm_vs 0 i) = 1 := by decide +kernel
theorem vg_1 : ∀ i, i < 4 → mm_mc (mm_vs 1 i) = 0 ∧ mm_ms (mm_vs 1 i) = 0 ∧ mm_mL (mm_vs 1 i) = 1 := by decide +kernel
theorem vg_2 : ∀ i, i < 4 → mm_mc (mm_vs 2 i) = 0 ∧ mm_ms (mm_vs 2 i) = 0 ∧ mm_mL (mm_vs 2 i) = 3 := by decide +kernel
theorem vg_3 : ∀ i, i < 4 → mm_mc (mm_vs 3 i) = 0 ∧ mm_ms (mm_vs 3 i) = 0 ∧ mm_mL (mm_vs 3 i) = 3 := by decide +kernel
theorem rt_1 : mm_rt 1 = some .int := by decide +kernel
theorem rt_2 : mm_rt 2 = some .int := by decide +kernel
theorem rt_3 : mm_rt 3 = some .int := by decide +kernel
theorem rt_4 : mm_rt 4 = some .int := by decide +kernel
theorem rt_5 : mm_rt 5 = some .int := by decide +kernel
theorem rt_6 : mm_rt 6 = some .int := by decide +kernel
theorem rt_7 : mm_rt 7 = some .int := by decide +kernel
theorem rt_8 : mm_rt 8 = some .int := by decide +kernel
theorem rt_9 : mm_rt 9 = some .int := by decide +kernel
theorem rt_10 : mm_rt 10 = some .int := by decide +kernel
theorem rt_11 : mm_rt 11 = some .int := by decide +kernel
theorem rt_12 : mm_rt 12 = some .int := by decide +kernel
theorem rt_13 : mm_rt 13 = some .int := by decide +kernel
theorem rt_14 : mm_rt 14 = some .int := by decide +kernel
theorem rt_15 : mm_rt 15 = some .int := by decide +kernel
theorem rt_16 : mm_rt 16 = some .int := by decide +kernel
theorem rt_17 : mm_rt 17 = some .int := by decide +kernel
theorem rt_18 : mm_rt 18 = some .int := by decide +kernel
theorem rt_19 : mm_rt 19 = some .int := by decide +kernel
theorem rt_20 : mm_rt 20 = some .int := by decide +kernel
theorem rt_21 : mm_rt 21 = some .int := by decide +kernel
theorem rt_22 : mm_rt 22 = some .int := by decide +kernel
theorem rt_23 : mm_rt 23 = some .int := by decide +kernel
theorem rt_24 : mm_rt 24 = some .int := by decide +kernel
theorem rt_25 : mm_rt 25 = some .int := by decide +kernel
theorem rt_26 : mm_rt 26 = some .int := by decide +kernel
theorem rt_27 : mm_rt 27 = some .int := by decide +kernel
theorem rt_28 : mm_rt 28 = some .long := by decide +kernel
theorem rt_29 : mm_rt 29 = some .long := by decide +kernel
theorem rt_30 : mm_rt 30 = some .long := by decide +kernel
theorem rt_31 : mm_rt 31 = some .long := by decide +kernel
theorem rt_32 : mm_rt 32 = some .long := by decide +kernel
theorem rt_33 : mm_rt 33 = some .int := by decide +kernel
theorem rt_34 : mm_rt 34 = some .boolean := by decide +kernel
theorem rt_35 : mm_rt 35 = some .boolean := by decide +kernel
theorem rt_36 : mm_rt 36 = some .boolean := by decide +kernel
theorem rt_38 : mm_rt 38 = some .int := by decide +kernel
theorem rt_39 : mm_rt 39 = some .int := by decide +kernel
theorem rt_40 : mm_rt 40 = none := by decide +kernel
theorem rt_41 : mm_rt 41 = some .int := by decide +kernel
theorem rt_42 : mm_rt 42 = some .boolean := by decide +kernel
theorem rt_43 : mm_rt 43 = some .boolean := by decide +kernel
theorem rt_44 : mm_rt 44 = some .int := by decide +kernel
theorem rt_45 : mm_rt 45 = some .int := by decide +kernel
theorem rt_47 : mm_rt 47 = some .int := by decide +kernel
theorem rt_48 : mm_rt 48 = some .int := by decide +kernel
theorem rt_49 : mm_rt 49 = some .boolean := by decide +kernel
theorem rt_50 : mm_rt 50 = some .int := by decide +kernel
theorem rt_52 : mm_rt 52 = some .int := by decide +kernel
theorem rt_53 : mm_rt 53 = some .boolean := by decide +kernel
theorem rt_55 : mm_rt 55 = some .int := by decide +kernel
theorem rt_56 : mm_rt 56 = some .int := by decide +kernel
theorem rt_58 : mm_rt 58 = some .int := by decide +kernel
theorem rt_59 : mm_rt 59 = some .int := by decide +kernel
theorem rt_61 : mm_rt 61 = none := by decide +kernel
theorem rt_62 : mm_rt 62 = some .boolean := by decide +kernel
theorem rt_63 : mm_rt 63 = some .boolean := by decide +kernel
theorem rt_64 : mm_rt 64 = some .int := by decide +kernel
theorem rt_65 : mm_rt 65 = some .int := by decide +kernel
theorem rt_66 : mm_rt 66 = some .boolean := by decide +kernel
theorem rt_67 : mm_rt 67 = some .int := by decide +kernel
theorem rt_68 : mm_rt 68 = some .boolean := by decide +kernel
theorem rt_69 : mm_rt 69 = some .int := by decide +kernel
theorem rt_70 : mm_rt 70 = some .int := by decide +kernel
theorem rt_72 : mm_rt 72 = none := by decide +kernel
theorem rt_73 : mm_rt 73 = none := by decide +kernel
theorem rt_74 : mm_rt 74 = some .int := by decide +kernel
theorem rt_75 : mm_rt 75 = some .int := by decide +kernel
theorem rt_76 : mm_rt 76 = none := by decide +kernel
theorem rt_77 : mm_rt 77 = some .int := by decide +kernel
theorem rt_78 : mm_rt 78 = some .boolean := by decide +kernel
theorem rt_79 : mm_rt 79 = some .boolean := by decide +kernel
theorem rt_80 : mm_rt 80 = some .boolean := by decide +kernel
theorem rt_81 : mm_rt 81 = some .int := by decide +kernel
theorem rt_82 : mm_rt 82 = some .int := by decide +kernel
theorem rt_84 : mm_rt 84 = none := by decide +kernel
theorem rt_85 : mm_rt 85 = none := by decide +kernel
theorem rt_86 : mm_rt 86 = some .int := by decide +kernel
theorem rt_87 : mm_rt 87 = some .boolean := by decide +kernel
theorem rt_88 : mm_rt 88 = some .int := by decide +kernel
theorem rt_89 : mm_rt 89 = none := by decide +kernel
theorem rt_90 : mm_rt 90 = none := by decide +kernel
theorem rt_91 : mm_rt 91 = none := by decide +kernel
theorem rt_92 : mm_rt 92 = some .boolean := by decide +kernel
theorem rt_94 : mm_rt 94 = some .int := by decide +kernel
theorem rt_95 : mm_rt 95 = some .int := by decide +kernel
theorem rt_96 : mm_rt 96 = none := by decide +kernel
theorem rt_97 : mm_rt 97 = none := by decide +kernel
theorem rt_98 : mm_rt 98 = some .int := by decide +kernel
theorem rt_99 : mm_rt 99 = some .int := by decide +kernel
theorem rt_100 : mm_rt 100 = none := by decide +kernel
theorem rt_101 : mm_rt 101 = none := by decide +kernel
theorem rt_102 : mm_rt 102 = some .int := by decide +kernel
theorem rt_103 : mm_rt 103 = some .int := by decide +kernel
theorem rt_104 : mm_rt 104 = some .int := by decide +kernel
theorem rt_106 : mm_rt 106 = none := by decide +kernel
theorem rt_107 : mm_rt 107 = none := by decide +kernel
theorem rt_108 : mm_rt 108 = none := by decide +kernel
theorem rt_109 : mm_rt 109 = some .boolean := by decide +kernel
theorem rt_110 : mm_rt 110 = some .int := by decide +kernel
theorem rt_111 : mm_rt 111 = some .int := by decide +kernel
theorem rt_113 : mm_rt 113 = some .boolean := by decide +kernel
theorem rt_114 : mm_rt 114 = some .boolean := by decide +kernel
theorem rt_115 : mm_rt 115 = some .int := by decide +kernel
theorem rt_116 : mm_rt 116 = some .int := by decide +kernel
theorem rt_117 : mm_rt 117 = some .int := by decide +kernel
theorem rt_118 : mm_rt 118 = some .int := by decide +kernel
theorem rt_119 : mm_rt 119 = some .int := by decide +kernel
theorem rt_120 : mm_rt 120 = none := by decide +kernel
theorem rt_121 : mm_rt 121 = some .int := by decide +kernel
theorem rt_122 : mm_rt 122 = some .int := by decide +kernel
theorem rt_123 : mm_rt 123 = some .boolean := by decide +kernel
theorem rt_124 : mm_rt 124 = some .int := by decide +kernel
theorem rt_125 : mm_rt 125 = some .int := by decide +kernel
theorem rt_126 : mm_rt 126 = some .int := by decide +kernel
theorem rt_127 : mm_rt 127 = some .int := by decide +kernel
theorem rt_128 : mm_rt 128 = some .int := by decide +kernel
theorem rt_129 : mm_rt 129 = some .int := by decide +kernel
theorem rt_130 : mm_rt 130 = some .int := by decide +kernel
theorem rt_131 : mm_rt 131 = some .int := by decide +kernel
theorem rt_132 : mm_rt 132 = some .boolean := by decide +kernel
theorem rt_133 : mm_rt 133 = some .boolean := by decide +kernel
theorem rt_134 : mm_rt 134 = some .boolean := by decide +kernel
theorem rt_135 : mm_rt 135 = some .int := by decide +kernel
theorem rt_136 : mm_rt 136 = some .int := by decide +kernel
theorem rt_137 : mm_rt 137 = some .int := by decide +kernel
theorem rt_138 : mm_rt 138 = some .int := by decide +kernel
theorem rt_139 : mm_rt 139 = some .int := by decide +kernel
theorem rt_140 : mm_rt 140 = some .boolean := by decide +kernel
theorem rt_141 : mm_rt 141 = some .boolean := by decide +kernel
theorem rt_142 : mm_rt 142 = some .int := by decide +kernel
theorem rt_143 : mm_rt 143 = some .int := by decide +kernel
theorem rt_144 : mm_rt 144 = some .int := by decide +kernel
theorem rt_145 : mm_rt 145 = some .int := by decide +kernel
theorem rt_146 : mm_rt 146 = some .int := by decide +kernel
theorem rt_147 : mm_rt 147 = none := by decide +kernel
theorem rt_148 : mm_rt 148 = some .int := by decide +kernel
theorem rt_149 : mm_rt 149 = some .int := by decide +kernel
theorem rt_150 : mm_rt 150 = some .int := by decide +kernel
theorem rt_151 : mm_rt 151 = some .int := by decide +kernel
theorem rt_152 : mm_rt 152 = some .int := by decide +kernel
theorem rt_153 : mm_rt 153 = some .int := by decide +kernel
theorem rt_154 : mm_rt 154 = none := by decide +kernel
theorem rt_155 : mm_rt 155 = some .int := by decide +kernel
theorem rt_156 : mm_rt 156 = some .int := by decide +kernel
theorem rt_157 : mm_rt 157 = some .int := by decide +kernel
theorem rt_158 : mm_rt 158 = some .int := by decide +kernel
theorem rt_159 : mm_rt 159 = some .int := by decide +kernel
theorem rt_160 : mm_rt 160 = some .int := by decide +kernel
theorem rt_161 : mm_rt 161 = some .boolean := by decide +kernel
theorem rt_162 : mm_rt 162 = some .int := by decide +kernel
theorem rt_163 : mm_rt 163 = some .int := by decide +kernel
theorem rt_164 : mm_rt 164 = some .int := by decide +kernel
theorem rt_165 : mm_rt 165 = some .boolean := by decide +kernel
theorem rt_166 : mm_rt 166 = some .boolean := by decide +kernel
theorem rt_167 : mm_rt 167 = some .int := by decide +kernel
theorem rt_168 : mm_rt 168 = some .int := by decide +kernel
theorem rt_169 : mm_rt 169 = some .int := by decide +kernel
theorem rt_170 : mm_rt 170 = some .int := by decide +kernel
theorem rt_171 : mm_rt 171 = some .int := by decide +kernel
theorem rt_172 : mm_rt 172 = some .int := by decide +kernel
theorem rt_173 : mm_rt 173 = none := by decide +kernel
theorem rt_174 : mm_rt 174 = none := by decide +kernel
theorem rt_175 : mm_rt 175 = some .long := by decide +kernel
theorem rt_176 : mm_rt 176 = some .int := by decide +kernel
theorem rt_177 : mm_rt 177 = none := by decide +kernel
