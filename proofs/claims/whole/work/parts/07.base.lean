/-! values, locals and the steps that touch no cell: the kit's rows for the machine's steps -/
def mm_tb : List Jvm.Cond := lw_tbl.filter goodWord
theorem mm_tb_of {i : Nat} {w : Jvm.Cond} (h : mm_wd i w = true) (hg : goodWord w = true) : w ∈ mm_tb := List.mem_filter.mpr ⟨List.mem_of_getElem? (of_decide_eq_true h), hg⟩
def mm_cv (φ : Nat → Nat → Nat) (v : mm_V) : Value := match v with
  | .inl x => .int x
  | .inr (.inl x) => .long x
  | .inr (.inr q) => .ref (φ q.1 q.2)
theorem mm_cv_cat (φ : Nat → Nat → Nat) (v : mm_V) : (mm_cv φ v).category = mm_cat v := by
  rcases v with x | x | q <;> rfl
def mm_lr (φ : Nat → Nat → Nat) (la : List (Option mm_V)) (ls : Array Slot) (nL : Nat) : Prop := la.length = nL ∧ ls.size = nL ∧ lv_wf ls ∧ ∀ (j : Nat) (v : mm_V), la[j]? = some (some v) → ls[j]? = some (.val (mm_cv φ v))
def mm_ll (φ : Nat → Nat → Nat) (la : List (Option mm_V)) : List (Nat × Value) := (List.range la.length).filterMap (fun j => match la[j]? with
  | some (some v) => some (j, mm_cv φ v)
  | _ => none)
theorem mm_ll_mem {φ : Nat → Nat → Nat} {la : List (Option mm_V)} {q : Nat × Value} (h : q ∈ mm_ll φ la) : ∃ v, la[q.1]? = some (some v) ∧ q.2 = mm_cv φ v := by
  obtain ⟨j, -, e⟩ := List.mem_filterMap.mp h
  split at e
  next v hv =>
    cases e
    exact ⟨v, hv, rfl⟩
  next => cases e
theorem mm_ll_of {φ : Nat → Nat → Nat} {la : List (Option mm_V)} {j : Nat} {v : mm_V} (h : la[j]? = some (some v)) : (j, mm_cv φ v) ∈ mm_ll φ la := by
  refine List.mem_filterMap.mpr ⟨j, List.mem_range.mpr (List.getElem?_eq_some_iff.mp h).1, ?_⟩
  rw [h]
theorem mm_lr_has {φ : Nat → Nat → Nat} {la : List (Option mm_V)} {ls : Array Slot} {nL : Nat} (h : mm_lr φ la ls nL) : lv_has ls nL (mm_ll φ la) := ⟨h.2.1, h.2.2.1, fun q hq => by
  obtain ⟨v, h1, h2⟩ := mm_ll_mem hq
  rw [h2]
  exact h.2.2.2 q.1 v h1⟩
theorem mm_pl_spec {la : List (Option mm_V)} {a j : Nat} {v : mm_V} (h : mm_pl la a = true) (hj : la[j]? = some (some v)) (he : j + 1 = a) : mm_cat v = 1 := by
  subst he
  unfold mm_pl at h
  simp only [hj] at h
  rcases v with x | x | q
  · rfl
  · simp at h
  · rfl
theorem mm_lr_st1 {φ : Nat → Nat → Nat} {la : List (Option mm_V)} {ls ls' : Array Slot} {nL a : Nat} {v : mm_V} (h : mm_lr φ la ls nL) (ha : a < la.length) (hp : mm_pl la a = true)
    (h' : lv_has ls' nL ((a, mm_cv φ v) :: (mm_ll φ la).filter (fun q => !(q.1 == a) && !(q.1 + 1 == a && q.2.category == 2)))) : mm_lr φ (la.set a (some v)) ls' nL := by
  refine ⟨by rw [List.length_set]; exact h.1, h'.1, h'.2.1, fun j w hj => ?_⟩
  by_cases e : j = a
  · subst e
    rw [List.getElem?_set_self ha] at hj
    cases hj
    exact h'.2.2 (j, mm_cv φ v) List.mem_cons_self
  · rw [List.getElem?_set_ne (Ne.symm e)] at hj
    refine h'.2.2 (j, mm_cv φ w) (List.mem_cons_of_mem _ (List.mem_filter.mpr ⟨mm_ll_of hj, ?_⟩))
    have e1 : (j == a) = false := by simp [e]
    by_cases e2 : j + 1 = a
    · have := mm_pl_spec hp hj e2
      simp [e1, e2, mm_cv_cat, this]
    · simp [e1, e2]
theorem mm_lr_st2 {φ : Nat → Nat → Nat} {la : List (Option mm_V)} {ls ls' : Array Slot} {nL a : Nat} {v : mm_V} (h : mm_lr φ la ls nL) (ha : a + 1 < la.length) (hp : mm_pl la a = true)
    (h' : lv_has ls' nL ((a, mm_cv φ v) :: (mm_ll φ la).filter (fun q => !(q.1 == a) && (!(q.1 == a + 1) && !(q.1 + 1 == a && q.2.category == 2))))) : mm_lr φ ((la.set a (some v)).set (a + 1) none) ls' nL := by
  refine ⟨by rw [List.length_set, List.length_set]; exact h.1, h'.1, h'.2.1, fun j w hj => ?_⟩
  by_cases e0 : j = a + 1
  · subst e0
    rw [List.getElem?_set_self (by rw [List.length_set]; exact ha)] at hj
    cases hj
  rw [List.getElem?_set_ne (Ne.symm e0)] at hj
  by_cases e : j = a
  · subst e
    rw [List.getElem?_set_self (by omega)] at hj
    cases hj
    exact h'.2.2 (j, mm_cv φ v) List.mem_cons_self
  · rw [List.getElem?_set_ne (Ne.symm e)] at hj
    refine h'.2.2 (j, mm_cv φ w) (List.mem_cons_of_mem _ (List.mem_filter.mpr ⟨mm_ll_of hj, ?_⟩))
    have e1 : (j == a) = false := by simp [e]
    have e3 : (j == a + 1) = false := by simp [e0]
    by_cases e2 : j + 1 = a
    · have := mm_pl_spec hp hj e2
      simp [e1, e3, e2, mm_cv_cat, this]
    · simp [e1, e3, e2]
section MMB
variable {p : Program} {l : Launch} {e : Env} {R : Room} {s : State} {mi : MethodId} {args : Array Value} {below : List Frame} {meth : Method} {c : Code} {H : Heap} {locs : List Loc} {cells slots : Nat} {Q : State → Prop}
variable {m pc nx op a b : Nat} {k : Int} {zs : List Nat} {st st' : List mm_V} {ls : Array Slot} {φ : Nat → Nat → Nat} {i : Instr} {n : Nat}
theorem mm_w0 (hx : p.tables.exec = Jvm.exec) (hb : c.code = mm_bc m) (hown : s.vm.findClass (mm_cN (mm_ow m)) = some mi.cls) (hts : ∀ w ∈ mm_tb, w.before args s = true) (hd : decode (mm_bc m) pc = .ok (i, n)) (hc0 : mm_c0 m op a b k i n = true) (hs0 : mm_ps op b k st = some st')
    (kk : W p l e R s mi args below meth c H locs cells slots Q (F0 mi (pc + n) ls (st'.map (mm_cv φ)))) : W p l e R s mi args below meth c H locs cells slots Q (F0 mi pc ls (st.map (mm_cv φ))) := by
  match op, hc0, hs0 with
  | 0, hc, hs =>
    simp only [mm_ps] at hs
    cases hs
    simp only [mm_c0] at hc
    split at hc
    next z =>
      simp only [Bool.and_eq_true, beq_iff_eq, decide_eq_true_eq] at hc
      obtain ⟨rfl, h⟩ := hc
      exact lv_iconst hx hb hd h kk
    next z =>
      simp only [Bool.and_eq_true, beq_iff_eq, decide_eq_true_eq] at hc
      obtain ⟨rfl, h⟩ := hc
      exact lv_bipush hx hb hd h kk
    next z =>
      simp only [Bool.and_eq_true, beq_iff_eq, decide_eq_true_eq] at hc
      obtain ⟨rfl, h⟩ := hc
      exact lv_sipush hx hb hd h kk
    next z =>
      simp only [Bool.and_eq_true, beq_iff_eq] at hc
      obtain ⟨rfl, h⟩ := hc
      exact lv_ldc hx hb hown (hts _ (mm_tb_of h rfl)) hd kk
    next z =>
      simp only [Bool.and_eq_true, beq_iff_eq] at hc
      obtain ⟨rfl, h⟩ := hc
      exact lv_ldcw hx hb hown (hts _ (mm_tb_of h rfl)) hd kk
    next => cases hc
  | 1, hc, hs =>
    simp only [mm_ps] at hs
    cases hs
    simp only [mm_c0] at hc
    split at hc
    next z =>
      simp only [Bool.and_eq_true, beq_iff_eq, decide_eq_true_eq] at hc
      obtain ⟨rfl, h⟩ := hc
      exact lv_lconst hx hb hd h kk
    next z =>
      simp only [Bool.and_eq_true, beq_iff_eq] at hc
      obtain ⟨rfl, h⟩ := hc
      exact lv_ldc2 hx hb hown (hts _ (mm_tb_of h rfl)) hd kk
    next => cases hc
  | 2, hc, hs =>
    simp only [mm_c0] at hc
    simp only [mm_ps] at hs
    simp only [Bool.and_eq_true, beq_iff_eq] at hc
    obtain ⟨rfl, hc⟩ := hc
    split at hs
    next y x r =>
      cases hs
      match b, hc, kk with
      | 0, hc, kk => cases of_decide_eq_true hc; exact lv_iadd hx hb hd kk
      | 1, hc, kk => cases of_decide_eq_true hc; exact lv_isub hx hb hd kk
      | 2, hc, kk => cases of_decide_eq_true hc; exact lv_imul hx hb hd kk
      | 3, hc, kk => cases of_decide_eq_true hc; exact lv_iand hx hb hd kk
      | 4, hc, kk => cases of_decide_eq_true hc; exact lv_ior hx hb hd kk
      | 5, hc, kk => cases of_decide_eq_true hc; exact lv_ixor hx hb hd kk
      | 6, hc, kk => cases of_decide_eq_true hc; exact lv_ishl hx hb hd kk
      | 7, hc, kk => cases of_decide_eq_true hc; exact lv_ishr hx hb hd kk
      | b + 8, hc, kk => cases of_decide_eq_true hc; exact lv_iushr hx hb hd rfl kk
    next => cases hs
  | 3, hc, hs =>
    simp only [mm_c0] at hc
    simp only [mm_ps] at hs
    simp only [Bool.and_eq_true, beq_iff_eq] at hc
    obtain ⟨rfl, hc⟩ := hc
    split at hs
    next y x r =>
      split at hs
      next => cases hs
      next hne =>
        cases hs
        match b, hc, kk, hne with
        | 0, hc, kk, hne => cases of_decide_eq_true hc; exact lv_ladd hx hb hd kk
        | 1, hc, kk, hne => cases of_decide_eq_true hc; exact lv_lmul hx hb hd kk
        | 2, hc, kk, hne => cases of_decide_eq_true hc; exact lv_land hx hb hd kk
        | 3, hc, kk, hne => cases of_decide_eq_true hc; exact lv_lor hx hb hd kk
        | 4, hc, kk, hne => cases of_decide_eq_true hc; exact lv_ldiv hx hb hd (fun h => hne ⟨by omega, h⟩) kk
        | b + 5, hc, kk, hne => cases of_decide_eq_true hc; exact lv_lrem hx hb hd (fun h => hne ⟨by omega, h⟩) kk
    next => cases hs
  | 4, hc, hs =>
    simp only [mm_c0] at hc
    simp only [mm_ps] at hs
    simp only [Bool.and_eq_true, beq_iff_eq] at hc
    obtain ⟨rfl, hc⟩ := hc
    split at hs
    next y x r =>
      cases hs
      match b, hc, kk with
      | 0, hc, kk => cases of_decide_eq_true hc; exact lv_lshl hx hb hd rfl kk
      | 1, hc, kk => cases of_decide_eq_true hc; exact lv_lshr hx hb hd rfl kk
      | b + 2, hc, kk => cases of_decide_eq_true hc; exact lv_lushr hx hb hd rfl kk
    next => cases hs
  | 5, hc, hs =>
    simp only [mm_c0] at hc
    simp only [mm_ps] at hs
    simp only [Bool.and_eq_true, beq_iff_eq] at hc
    obtain ⟨rfl, hc⟩ := hc
    split at hs
    next => cases hs; cases of_decide_eq_true hc; exact lv_i2l hx hb hd rfl kk
    next => cases hs; cases of_decide_eq_true hc; exact lv_l2i hx hb hd rfl kk
    next => cases hs; cases of_decide_eq_true hc; exact lv_i2b hx hb hd rfl kk
    next => cases hs
  | 6, hc, hs =>
    simp only [mm_c0] at hc
    simp only [mm_ps] at hs
    simp only [Bool.and_eq_true, beq_iff_eq] at hc
    obtain ⟨rfl, hc⟩ := hc
    cases of_decide_eq_true hc
    split at hs
    next v r =>
      split at hs
      next hv => cases hs; exact lv_dup hx hb hd (by rw [mm_cv_cat]; exact hv) kk
      next => cases hs
    next => cases hs
  | 7, hc, hs =>
    simp only [mm_c0] at hc
    simp only [mm_ps] at hs
    simp only [Bool.and_eq_true, beq_iff_eq] at hc
    obtain ⟨rfl, hc⟩ := hc
    cases of_decide_eq_true hc
    split at hs
    next v w r =>
      split at hs
      next hv => cases hs; exact lv_dup2_11 hx hb hd (by rw [mm_cv_cat]; exact hv.1) (by rw [mm_cv_cat]; exact hv.2) kk
      next => cases hs
    next => cases hs
  | op + 8, hc, hs => simp [mm_c0] at hc
theorem mm_tp_spec {pc : Nat} : ∀ {os : List Int} {l : List Nat}, mm_tp pc os l = true → os.length = l.length ∧ ∀ (j : Nat) (t : Nat), l[j]? = some t → ∃ o, os[j]? = some o ∧ (pc : Int) + o = (t : Int)
  | [], [], _ => ⟨rfl, fun j t h => by simp at h⟩
  | [], _ :: _, h => by cases h
  | _ :: _, [], h => by cases h
  | o :: os, t :: l, h => by
    simp only [mm_tp, Bool.and_eq_true, decide_eq_true_eq] at h
    obtain ⟨h1, h2⟩ := mm_tp_spec h.2
    refine ⟨by simp [h1], fun j u hj => ?_⟩
    cases j with
    | zero => simp at hj; subst hj; exact ⟨o, rfl, h.1⟩
    | succ j => simp at hj; simpa using h2 j u hj
theorem mm_lp_spec {pc : Nat} {d : Int} {a : Nat} (hd : (pc : Int) + d = (a : Int)) (x : Int32) : ∀ {ps : List (Int × Int)} {l : List Nat}, mm_lp pc ps l = true → (pc : Int) + Op.lookupswitch.offset ps d x.toInt = ((mm_lk a l x : Nat) : Int)
  | [], [], _ => by simpa [Op.lookupswitch.offset, mm_lk] using hd
  | [], _ :: _, h => by cases h
  | _ :: _, [], h => by cases h
  | _ :: _, [_], h => by cases h
  | (k, o) :: ps, b :: t :: l, h => by
    simp only [mm_lp, Bool.and_eq_true, decide_eq_true_eq] at h
    have ih := mm_lp_spec hd x h.2
    by_cases e : x.toInt = (b : Int)
    · simp [Op.lookupswitch.offset, mm_lk, h.1.1, e, h.1.2]
    · have e' : ¬ (b : Int) = x.toInt := fun q => e q.symm
      simp only [Op.lookupswitch.offset, mm_lk, h.1.1, e] at ih ⊢
      simp [e', ih]
theorem mm_w1 (hx : p.tables.exec = Jvm.exec) (hb : c.code = mm_bc m) (hd : decode (mm_bc m) pc = .ok (i, n)) (hnx : nx = pc + n) (hc0 : mm_c1 pc op a b k zs i n = true) {q : Nat × List mm_V} (hs0 : mm_br op nx a b k zs st = some q)
    (kk : W p l e R s mi args below meth c H locs cells slots Q (F0 mi q.1 ls (q.2.map (mm_cv φ)))) : W p l e R s mi args below meth c H locs cells slots Q (F0 mi pc ls (st.map (mm_cv φ))) := by
  subst hnx
  match op, hc0, hs0 with
  | 0, hc, hs =>
    simp only [mm_c1] at hc
    simp only [mm_br] at hs
    split at hs
    next x r =>
      cases hs
      split at hc
      next cd off =>
        simp only [Bool.and_eq_true, beq_iff_eq, decide_eq_true_eq] at hc
        obtain ⟨⟨rfl, rfl⟩, ht⟩ := hc
        match b, hd, kk with
        | 0, hd, kk => exact lv_if_eq hx hb hd ht (fun h => by simpa [mm_cd, h] using kk) (fun h => by simpa [mm_cd, h] using kk)
        | 1, hd, kk => exact lv_if_ne hx hb hd ht (fun h => by simpa [mm_cd, h] using kk) (fun h => by simpa [mm_cd, h] using kk)
        | 2, hd, kk => exact lv_if_lt hx hb hd ht (fun h => by simpa [mm_cd, h] using kk) (fun h => by simpa [mm_cd, h] using kk)
        | 3, hd, kk => exact lv_if_ge hx hb hd ht (fun h => by simpa [mm_cd, h] using kk) (fun h => by simpa [mm_cd, h] using kk)
        | 4, hd, kk => exact lv_if_gt hx hb hd ht (fun h => by simpa [mm_cd, h] using kk) (fun h => by simpa [mm_cd, h] using kk)
        | b + 5, hd, kk => exact lv_if_le hx hb hd ht (fun h => by simpa [mm_cd, h] using kk) (fun h => by simpa [mm_cd, h] using kk)
      next => cases hc
    next => cases hs
  | 1, hc, hs =>
    simp only [mm_c1] at hc
    simp only [mm_br] at hs
    split at hs
    next y x r =>
      cases hs
      split at hc
      next cd off =>
        simp only [Bool.and_eq_true, beq_iff_eq, decide_eq_true_eq] at hc
        obtain ⟨⟨rfl, rfl⟩, ht⟩ := hc
        match b, hd, kk with
        | 0, hd, kk => exact lv_icmp_eq hx hb hd ht (fun h => by simpa [mm_cd, h] using kk) (fun h => by simpa [mm_cd, h] using kk)
        | 1, hd, kk => exact lv_icmp_ne hx hb hd ht (fun h => by simpa [mm_cd, h] using kk) (fun h => by simpa [mm_cd, h] using kk)
        | 2, hd, kk => exact lv_icmp_lt hx hb hd ht (fun h => by simpa [mm_cd, h] using kk) (fun h => by simpa [mm_cd, h] using kk)
        | 3, hd, kk => exact lv_icmp_ge hx hb hd ht (fun h => by simpa [mm_cd, h] using kk) (fun h => by simpa [mm_cd, h] using kk)
        | 4, hd, kk => exact lv_icmp_gt hx hb hd ht (fun h => by simpa [mm_cd, h] using kk) (fun h => by simpa [mm_cd, h] using kk)
        | b + 5, hd, kk => exact lv_icmp_le hx hb hd ht (fun h => by simpa [mm_cd, h] using kk) (fun h => by simpa [mm_cd, h] using kk)
      next => cases hc
    next => cases hs
  | 2, hc, hs =>
    simp only [mm_c1] at hc
    simp only [mm_br] at hs
    cases hs
    split at hc
    next off =>
      simp only [Bool.and_eq_true, beq_iff_eq, decide_eq_true_eq] at hc
      obtain ⟨rfl, ht⟩ := hc
      exact lv_goto hx hb hd ht kk
    next => cases hc
  | 3, hc, hs =>
    simp only [mm_c1] at hc
    simp only [mm_br] at hs
    split at hs
    next x r =>
      cases hs
      split at hc
      next d lo hi offs =>
        simp only [Bool.and_eq_true, decide_eq_true_eq] at hc
        obtain ⟨⟨⟨ht, rfl⟩, rfl⟩, htp⟩ := hc
        obtain ⟨h1, h2⟩ := mm_tp_spec htp
        by_cases ho : x.toInt < lo ∨ lo + (zs.length : Int) ≤ x.toInt
        · refine lv_tableOut hx hb hd (tgt := a) (by omega) ht ?_
          simpa only [mm_ts, if_pos ho] using kk
        · have hl : (x.toInt - lo).toNat < zs.length := by omega
          obtain ⟨o, g1, g2⟩ := h2 _ _ (List.getElem?_eq_getElem hl)
          refine lv_tableIn hx hb hd (tgt := zs[(x.toInt - lo).toNat]) (off := o) (by omega) (by omega) (by rw [← Array.getElem?_toList]; exact g1) g2 ?_
          have e : mm_ts a lo zs x = zs[(x.toInt - lo).toNat] := by
            simp [mm_ts, if_neg ho, List.getD_eq_getElem?_getD, List.getElem?_eq_getElem hl]
          simpa only [e] using kk
      next => cases hc
    next => cases hs
  | 4, hc, hs =>
    simp only [mm_c1] at hc
    simp only [mm_br] at hs
    split at hs
    next x r =>
      cases hs
      split at hc
      next d ps =>
        simp only [Bool.and_eq_true, decide_eq_true_eq] at hc
        obtain ⟨⟨ht, hp⟩, hlp⟩ := hc
        exact lv_lookup hx hb hd hp rfl (mm_lp_spec ht x hlp) kk
      next => cases hc
    next => cases hs
  | op + 5, hc, hs => simp [mm_c1] at hc
theorem mm_w2 {la : List (Option mm_V)} {nL : Nat} (hx : p.tables.exec = Jvm.exec) (hb : c.code = mm_bc m) (hd : decode (mm_bc m) pc = .ok (i, n)) (hc0 : mm_c2 op a b k i n = true) {q : List (Option mm_V) × List mm_V} (hs0 : mm_lo op a b k la st = some q) (hl : mm_lr φ la ls nL)
    (kk : ∀ ls', mm_lr φ q.1 ls' nL → W p l e R s mi args below meth c H locs cells slots Q (F0 mi (pc + n) ls' (q.2.map (mm_cv φ)))) : W p l e R s mi args below meth c H locs cells slots Q (F0 mi pc ls (st.map (mm_cv φ))) := by
  match op, hc0, hs0 with
  | 0, hc, hs =>
    simp only [mm_c2] at hc
    simp only [mm_lo] at hs
    split at hs
    next v hv =>
      split at hs
      next ht =>
        cases hs
        have kk := kk ls hl
        have hv' := hl.2.2.2 a v hv
        split at hc
        all_goals try (cases hc; done)
        all_goals
          simp only [Bool.and_eq_true, beq_iff_eq] at hc
          obtain ⟨rfl, hk⟩ := hc
          rcases v with x | x | z <;> simp [mm_tg] at ht
        · subst hk; exact lv_iload hx hb hd hv' kk
        · exact lv_iload_n hx hb hd hk hv' kk
        · subst hk; exact lv_lload hx hb hd hv' kk
        · exact lv_lload_n hx hb hd hk hv' kk
        · subst hk; exact lv_aload hx hb hd hv' kk
        · exact lv_aload_n hx hb hd hk hv' kk
      next => cases hs
    next => cases hs
  | 1, hc, hs =>
    simp only [mm_c2] at hc
    simp only [mm_lo] at hs
    split at hs
    next v r =>
      split at hs
      next hv =>
        obtain ⟨ht, hp⟩ := hv
        have hh := mm_lr_has hl
        have e1 := hl.1
        split at hc
        all_goals try (cases hc; done)
        all_goals
          simp only [Bool.and_eq_true, beq_iff_eq] at hc
          obtain ⟨rfl, hk⟩ := hc
          rcases v with x | x | z <;> simp [mm_tg] at ht
        · subst hk
          rw [if_neg (by omega)] at hs
          split at hs
          next ha => cases hs; exact lv_istore hx hb hd hh (by omega) rfl (fun ls' h' => kk ls' (mm_lr_st1 hl ha hp h'))
          next => cases hs
        · rw [if_neg (by omega)] at hs
          split at hs
          next ha => cases hs; exact lv_istore_n hx hb hd hk hh (by omega) rfl (fun ls' h' => kk ls' (mm_lr_st1 hl ha hp h'))
          next => cases hs
        · subst hk
          rw [if_pos rfl] at hs
          split at hs
          next ha => cases hs; exact lv_lstore hx hb hd hh (by omega) rfl (fun ls' h' => kk ls' (mm_lr_st2 hl ha hp h'))
          next => cases hs
        · rw [if_pos rfl] at hs
          split at hs
          next ha => cases hs; exact lv_lstore_n hx hb hd hk hh (by omega) rfl (fun ls' h' => kk ls' (mm_lr_st2 hl ha hp h'))
          next => cases hs
        · subst hk
          rw [if_neg (by omega)] at hs
          split at hs
          next ha => cases hs; exact lv_astore hx hb hd hh (by omega) rfl (fun ls' h' => kk ls' (mm_lr_st1 hl ha hp h'))
          next => cases hs
        · rw [if_neg (by omega)] at hs
          split at hs
          next ha => cases hs; exact lv_astore_n hx hb hd hk hh (by omega) rfl (fun ls' h' => kk ls' (mm_lr_st1 hl ha hp h'))
          next => cases hs
      next => cases hs
    next => cases hs
  | 2, hc, hs =>
    simp only [mm_c2] at hc
    simp only [mm_lo] at hs
    split at hs
    next x hv =>
      split at hs
      next hp =>
        cases hs
        split at hc
        next z d =>
          simp only [Bool.and_eq_true, beq_iff_eq, decide_eq_true_eq] at hc
          obtain ⟨⟨rfl, rfl⟩, rfl⟩ := hc
          have ha := (List.getElem?_eq_some_iff.mp hv).1
          have e1 := hl.1
          obtain ⟨j, hj⟩ := List.getElem?_of_mem (mm_ll_of (φ := φ) hv)
          exact lv_iinc hx hb hd (mm_lr_has hl) hj rfl (by omega) rfl (fun ls' h' => kk ls' (mm_lr_st1 (v := .inl _) hl ha hp h'))
        next => cases hc
      next => cases hs
    next => cases hs
  | op + 3, hc, hs => simp [mm_c2] at hc
end MMB
