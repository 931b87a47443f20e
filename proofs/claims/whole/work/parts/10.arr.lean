/-! arrays, instanceof, the library's own members -/
section MMA
variable {p : Program} {l : Launch} {e : Env} {R : Room} {s : State} {mi : MethodId} {args : Array Value} {below : List Frame} {meth : Method} {c : Code} {H : Heap} {locs : List Loc} {cells slots : Nat} {Q : State → Prop}
variable {m pc nx op a b : Nat} {k : Int} {zs : List Nat} {st : List mm_V} {rest : List Value} {ls : Array Slot} {φ : Nat → Nat → Nat} {i : Instr} {n : Nat} {D : va_G} {aC : Nat → ClassId} {A : Nat → Prop} {h h' : mm_H} {H0 : Heap}
theorem mm_ce_i {r i' : Nat} (hk : mm_kd r = 1 ∨ mm_kd r = 2) : mm_ce aC φ h (r, i') = .inl (aC (mm_ax r), mm_ln r, .inl (fun j => h.2.1 (100 + r) i' j)) := by
  have h0 : ¬ mm_kd r = 0 := by omega
  have h3 : ¬ mm_kd r = 3 := by omega
  unfold mm_ce
  rw [if_neg h0, if_neg h3]
theorem mm_ce_r {r i' : Nat} (hk : mm_kd r = 3) : mm_ce aC φ h (r, i') = .inl (aC (mm_ax r), mm_ln r, .inr (.inr (.inr (.inr (fun j => if j < mm_ln r then mm_or φ (h.2.2.2 (100 + r) i' j) else none))))) := by
  have h0 : ¬ mm_kd r = 0 := by omega
  unfold mm_ce
  rw [if_neg h0, if_pos hk]
/-- an int's store into an array of ints or bytes -/
theorem mm_ce_ui {r i' j : Nat} {y : Int32} (hk : mm_kd r = 1 ∨ mm_kd r = 2) (hi : h' = (h.1, mm_uI h.2.1 (100 + r) i' j y, h.2.2.1, h.2.2.2)) :
    mm_ce aC φ h' (r, i') = .inl (aC (mm_ax r), mm_ln r, .inl (upd (fun j => h.2.1 (100 + r) i' j) j y)) ∧ ∀ q', q' ≠ (r, i') → mm_ce aC φ h' q' = mm_ce aC φ h q' := by
  subst hi
  refine ⟨?_, mm_ce_arr ?_ rfl (fun _ _ _ => rfl)⟩
  · rw [mm_ce_i hk]
    refine congrArg (fun f => Sum.inl (aC (mm_ax r), mm_ln r, Sum.inl f)) (funext fun z => ?_)
    by_cases e : z = j
    · simp [mm_uI, upd, e]
    · simp [mm_uI, upd, e]
  · intro c' i2 hne
    funext z
    simp only [mm_uI]
    rw [if_neg (fun w => by rcases hne with q | q; exact q w.1; exact q w.2.1)]
theorem mm_ce_ur {r i' j : Nat} {q : Nat × Nat} (hj : j < mm_ln r) (hq : q.1 ≠ 0) (hk : mm_kd r = 3) (hi : h' = (h.1, h.2.1, h.2.2.1, mm_uR h.2.2.2 (100 + r) i' j q)) :
    mm_ce aC φ h' (r, i') = .inl (aC (mm_ax r), mm_ln r, .inr (.inr (.inr (.inr (va_up (fun j => if j < mm_ln r then mm_or φ (h.2.2.2 (100 + r) i' j) else none) j (some (φ q.1 q.2))))))) ∧ ∀ q', q' ≠ (r, i') → mm_ce aC φ h' q' = mm_ce aC φ h q' := by
  subst hi
  refine ⟨?_, mm_ce_arr (fun _ _ _ => rfl) rfl ?_⟩
  · rw [mm_ce_r hk]
    refine congrArg (fun f => Sum.inl (aC (mm_ax r), mm_ln r, Sum.inr (Sum.inr (Sum.inr (Sum.inr f))))) (funext fun z => ?_)
    by_cases e : z = j
    · simp [mm_uR, va_up, e, mm_or, hq, hj]
    · simp [mm_uR, va_up, e]
  · intro c' i2 hne
    funext z
    simp only [mm_uR]
    rw [if_neg (fun w => by rcases hne with q | q; exact q w.1; exact q w.2.1)]
/-- the copy of a part of an array -/
theorem mm_ce_cp {r0 i0 r1 i1 sp dp nn : Nat} (hk : mm_kd r1 = 1) (hi : h' = (h.1, mm_cp h.2.1 (100 + r0) i0 (100 + r1) i1 sp dp nn, h.2.2.1, h.2.2.2)) :
    mm_ce aC φ h' (r1, i1) = .inl (aC (mm_ax r1), mm_ln r1, .inl (va_cpy (fun j => h.2.1 (100 + r0) i0 j) (fun j => h.2.1 (100 + r1) i1 j) sp dp nn)) ∧ ∀ q', q' ≠ (r1, i1) → mm_ce aC φ h' q' = mm_ce aC φ h q' := by
  subst hi
  refine ⟨?_, mm_ce_arr ?_ rfl (fun _ _ _ => rfl)⟩
  · rw [mm_ce_i (Or.inl hk)]
    refine congrArg (fun f => Sum.inl (aC (mm_ax r1), mm_ln r1, Sum.inl f)) (funext fun z => ?_)
    by_cases e : dp ≤ z ∧ z < dp + nn
    · simp [mm_cp, va_cpy, e]
    · simp only [mm_cp, va_cpy]
      rw [if_neg (fun w => e w.2.2), if_neg e]
  · intro c' i2 hne
    funext z
    simp only [mm_cp]
    rw [if_neg (fun w => by rcases hne with q | q; exact q w.1; exact q w.2.1)]
/-- array loads and stores, lengths -/
theorem mm_w3b (hx : p.tables.exec = Jvm.exec) (hb : c.code = mm_bc m) (hK : mm_K D aC s) (hd : decode (mm_bc m) pc = .ok (i, n)) (hop : 2 ≤ op ∧ op ≤ 4) (hc0 : mm_c3 m op a b i n = true) {q : List mm_V × mm_H} (hs0 : mm_hp op a b st h = some q) (hst : ∀ v ∈ st, mm_okV h v) (h4 : ∀ z ∈ h.1, z.1 = 3 → z.2 < 4)
    (hP : va_P D mm_cls (mm_ws aC φ h) H) (hD : va_D A (mm_ws aC φ h)) (hS : va_S A H0 H locs)
    (kk : ∀ H' locs', va_P D mm_cls (mm_ws aC φ q.2) H' → va_D A (mm_ws aC φ q.2) → va_S A H0 H' locs' → W p l e R s mi args below meth c H' locs' cells slots Q (F0 mi (pc + n) ls (q.1.map (mm_cv φ)))) : W p l e R s mi args below meth c H locs cells slots Q (F0 mi pc ls (st.map (mm_cv φ))) := by
  match op, hop, hc0, hs0 with
  | 0, hop, hc, hs => omega
  | 1, hop, hc, hs => omega
  | 2, _, hc, hs =>
    simp only [mm_c3] at hc
    simp only [mm_hp] at hs
    simp only [Bool.and_eq_true, beq_iff_eq] at hc
    obtain ⟨rfl, hc⟩ := hc
    split at hs
    next x r i' t =>
      split at hs
      next hr =>
        obtain ⟨hk, hin⟩ := hr
        have hin := mm_in_vp hin
        have hmem : (r, i') ∈ h.1 := hst _ (List.mem_cons_of_mem _ List.mem_cons_self) _ rfl
        obtain ⟨kq, hkq⟩ := List.getElem?_of_mem hmem
        have hat := mm_ws_at (aC := aC) (φ := φ) hkq
        obtain ⟨x1, x2, x3⟩ := mm_kx r
        match b, hc, hs, hk with
        | 0, hc, hs, hk =>
          cases hs
          cases of_decide_eq_true hc
          have hk : mm_kd r = 1 := hk
          rw [mm_ce_i (Or.inl hk), x1 hk] at hat
          exact va_iald hx hb hK.1 hP kq 0 hat rfl hin hd (kk H locs hP hD hS)
        | 1, hc, hs, hk =>
          cases hs
          cases of_decide_eq_true hc
          have hk : mm_kd r = 2 := hk
          rw [mm_ce_i (Or.inr hk), x2 hk] at hat
          exact va_bald hx hb hK.1 hP kq 1 hat rfl hin hd (kk H locs hP hD hS)
        | 2, hc, hs, hk =>
          simp only [mm_hp] at hs
          cases of_decide_eq_true hc
          have hk : mm_kd r = 3 := hk
          split at hs
          next => cases hs
          next hne =>
            cases hs
            rw [mm_ce_r hk] at hat
            obtain ⟨ty, t1, t2⟩ := mm_ty_at aC (mm_ax r) (x3 hk).2
            refine mm_aald hx hb hK.1 hP kq (mm_ax r) hat t1 (t2 (x3 hk).1) hin hd ?_
            have := kk H locs hP hD hS
            simp only [if_pos (Nat.not_le.mp fun q => hin (Or.inr q)), mm_or_ne hne]
            exact this
        | b + 3, hc, hs, hk => cases hc
      next => cases hs
    next => cases hs
  | 3, _, hc, hs =>
    simp only [mm_c3] at hc
    simp only [mm_hp] at hs
    simp only [Bool.and_eq_true, beq_iff_eq] at hc
    obtain ⟨rfl, hc⟩ := hc
    split at hs
    next y x r i' t =>
      split at hs
      next hr =>
        cases hs
        obtain ⟨hk, hin⟩ := hr
        have hin := mm_in_vp hin
        cases of_decide_eq_true hc
        have hmem : (r, i') ∈ h.1 := hst _ (List.mem_cons_of_mem _ (List.mem_cons_of_mem _ List.mem_cons_self)) _ rfl
        obtain ⟨kq, hkq⟩ := List.getElem?_of_mem hmem
        have hat := mm_ws_at (aC := aC) (φ := φ) hkq
        obtain ⟨x1, x2, x3⟩ := mm_kx r
        have hce := mm_ce_ui (aC := aC) (φ := φ) (h := h) (i' := i') (j := x.toNatClampNeg) (y := y) (Or.inl hk) rfl
        have hset := mm_ws_set (h' := (h.1, mm_uI h.2.1 (100 + r) i' x.toNatClampNeg y, h.2.2.1, h.2.2.2)) hkq hD rfl hce.2
        rw [hce.1] at hset
        rw [mm_ce_i (Or.inl hk)] at hat
        rw [x1 hk] at hat hset
        exact va_iast hx hb hK.1 hP hD hS kq 0 hat rfl hin hd (fun H1 locs1 a1 a2 a3 => kk H1 locs1 (by rw [← hset]; exact a1) (by rw [← hset]; exact a2) a3)
      next => cases hs
    next y x r i' t =>
      split at hs
      next hr =>
        cases hs
        obtain ⟨hk, hin⟩ := hr
        have hin := mm_in_vp hin
        cases of_decide_eq_true hc
        have hmem : (r, i') ∈ h.1 := hst _ (List.mem_cons_of_mem _ (List.mem_cons_of_mem _ List.mem_cons_self)) _ rfl
        obtain ⟨kq, hkq⟩ := List.getElem?_of_mem hmem
        have hat := mm_ws_at (aC := aC) (φ := φ) hkq
        obtain ⟨x1, x2, x3⟩ := mm_kx r
        have hce := mm_ce_ui (aC := aC) (φ := φ) (h := h) (i' := i') (j := x.toNatClampNeg) (y := y.toInt8.toInt32) (Or.inr hk) rfl
        have hset := mm_ws_set (h' := (h.1, mm_uI h.2.1 (100 + r) i' x.toNatClampNeg y.toInt8.toInt32, h.2.2.1, h.2.2.2)) hkq hD rfl hce.2
        rw [hce.1] at hset
        rw [mm_ce_i (Or.inr hk)] at hat
        rw [x2 hk] at hat hset
        exact va_bast hx hb hK.1 hP hD hS kq 1 hat rfl hin hd (fun H1 locs1 a1 a2 a3 => kk H1 locs1 (by rw [← hset, ← vp_nar_byte]; exact a1) (by rw [← hset, ← vp_nar_byte]; exact a2) a3)
      next => cases hs
    next qv x r i' t =>
      split at hs
      next hr =>
        cases hs
        obtain ⟨hk, hin, hq0, has⟩ := hr
        have hin := mm_in_vp hin
        cases of_decide_eq_true hc
        have hmem : (r, i') ∈ h.1 := hst _ (List.mem_cons_of_mem _ (List.mem_cons_of_mem _ List.mem_cons_self)) _ rfl
        have hmq : qv ∈ h.1 := hst _ List.mem_cons_self _ rfl
        obtain ⟨kq, hkq⟩ := List.getElem?_of_mem hmem
        obtain ⟨kv, hkv⟩ := List.getElem?_of_mem hmq
        have hat := mm_ws_at (aC := aC) (φ := φ) hkq
        have hav := mm_ws_at (aC := aC) (φ := φ) hkv
        have hce := mm_ce_ur (aC := aC) (φ := φ) (h := h) (i' := i') (j := x.toNatClampNeg) (Nat.not_le.mp fun q => hin (Or.inr q)) hq0 hk rfl
        have hset := mm_ws_set (h' := (h.1, h.2.1, h.2.2.1, mm_uR h.2.2.2 (100 + r) i' x.toNatClampNeg qv)) hkq hD rfl hce.2
        rw [hce.1] at hset
        rw [mm_ce_r hk] at hat
        have kk' := fun H1 locs1 a1 a2 a3 => kk H1 locs1 (by rw [← hset]; exact a1) (by rw [← hset]; exact a2) a3
        obtain ⟨qr, qi⟩ := qv
        simp only [mm_as, Bool.or_eq_true, Bool.and_eq_true, beq_iff_eq] at has
        rcases has with (⟨e1, rfl⟩ | ⟨e1, rfl⟩) | ⟨e1, rfl⟩
        · rw [e1] at hat kk'
          have hqi : qi < 4 := h4 _ hmq rfl
          have hv0 : mm_ce aC φ h (3, qi) = .inr (2 + qi, []) := by
            have k3 : mm_kd 3 = 0 := by decide +kernel
            unfold mm_ce mm_co
            rw [if_pos k3, if_pos rfl]
            rfl
          rw [hv0] at hav
          match qi, hqi, hav, kk' with
          | 0, _, hav, kk' => exact va_astq hx hb hK.1 hP hD hS kq 2 kv 2 hat rfl hav (mm_cls_at (c := 2) (by omega)) hin hd kk'
          | 1, _, hav, kk' => exact va_astqO hx hb hK.1 hP hD hS kq 2 kv 3 hat rfl (hK.2.2.2.1 ("SongToBridge$Deaf", "SongToBridge$Keeper") (by decide)) hav (mm_cls_at (c := 3) (by omega)) hin hd kk'
          | 2, _, hav, kk' => exact va_astqO hx hb hK.1 hP hD hS kq 2 kv 4 hat rfl (hK.2.2.2.1 ("SongToBridge$Echo", "SongToBridge$Keeper") (by decide)) hav (mm_cls_at (c := 4) (by omega)) hin hd kk'
          | 3, _, hav, kk' => exact va_astqO hx hb hK.1 hP hD hS kq 2 kv 5 hat rfl (hK.2.2.2.1 ("SongToBridge$Worn", "SongToBridge$Keeper") (by decide)) hav (mm_cls_at (c := 5) (by omega)) hin hd kk'
          | qi + 4, hq, _, _ => omega
        · rw [e1] at hat kk'
          have hv0 : mm_ce aC φ h (5, qi) = .inr (7, (mm_fs 5).map (mm_fv φ h qi)) := by
            have k3 : mm_kd 5 = 0 := by decide +kernel
            have k4 : ¬ (5 : Nat) = 3 := by decide
            unfold mm_ce mm_co
            rw [if_pos k3, if_neg k4]
            rfl
          rw [hv0] at hav
          exact va_astq hx hb hK.1 hP hD hS kq 3 kv 7 hat rfl hav (mm_cls_at (c := 7) (by omega)) hin hd kk'
        · rw [e1] at hat kk'
          have hv0 : mm_ce aC φ h (6, qi) = .inr (8, (mm_fs 6).map (mm_fv φ h qi)) := by
            have k3 : mm_kd 6 = 0 := by decide +kernel
            have k4 : ¬ (6 : Nat) = 3 := by decide
            unfold mm_ce mm_co
            rw [if_pos k3, if_neg k4]
            rfl
          rw [hv0] at hav
          exact va_astq hx hb hK.1 hP hD hS kq 4 kv 8 hat rfl hav (mm_cls_at (c := 8) (by omega)) hin hd kk'
      next => cases hs
    next => cases hs
  | 4, _, hc, hs =>
    simp only [mm_c3] at hc
    simp only [mm_hp] at hs
    simp only [Bool.and_eq_true, beq_iff_eq] at hc
    obtain ⟨rfl, hc⟩ := hc
    cases of_decide_eq_true hc
    split at hs
    next r i' t =>
      split at hs
      next hr =>
        cases hs
        have hmem : (r, i') ∈ h.1 := hst _ List.mem_cons_self _ rfl
        obtain ⟨kq, hkq⟩ := List.getElem?_of_mem hmem
        have hat := mm_ws_at (aC := aC) (φ := φ) hkq
        obtain ⟨x1, x2, x3⟩ := mm_kx r
        by_cases h3 : mm_kd r = 3
        · rw [mm_ce_r h3] at hat
          obtain ⟨ty, t1, -⟩ := mm_ty_at aC (mm_ax r) (x3 h3).2
          exact va_alen hx hb hK.1 hP kq (mm_ax r) hat t1 rfl hd (kk H locs hP hD hS)
        · have h12 : mm_kd r = 1 ∨ mm_kd r = 2 := by omega
          rw [mm_ce_i h12] at hat
          obtain ⟨ty, t1, -⟩ := mm_ty_at aC (mm_ax r) (by rcases h12 with z | z; rw [x1 z]; omega; rw [x2 z]; omega)
          exact va_alen hx hb hK.1 hP kq (mm_ax r) hat t1 rfl hd (kk H locs hP hD hS)
      next => cases hs
    next => cases hs
  | op + 5, hop, hc, hs => omega
/-- arraycopy, instanceof, Object's constructor, Math.min -/
theorem mm_w3c (hx : p.tables.exec = Jvm.exec) (hb : c.code = mm_bc m) (hown : s.vm.findClass (mm_cN (mm_ow m)) = some mi.cls) (hts : ∀ w ∈ mm_tb, w.before args s = true) (hK : mm_K D aC s) (hRf : R.frames = mm_rf m) (hRl : R.locals = mm_rl m) (hcs : cells ≤ R.cells ∧ slots ≤ R.slots) (hls : c.maxLocals = ls.size) (hd : decode (mm_bc m) pc = .ok (i, n)) (hop : 5 ≤ op) (hc0 : mm_c3 m op a b i n = true) {q : List mm_V × mm_H} (hs0 : mm_hp op a b st h = some q) (hst : ∀ v ∈ st, mm_okV h v) (h4 : ∀ z ∈ h.1, z.1 = 3 → z.2 < 4)
    (hP : va_P D mm_cls (mm_ws aC φ h) H) (hD : va_D A (mm_ws aC φ h)) (hS : va_S A H0 H locs)
    (kk : ∀ H' locs', va_P D mm_cls (mm_ws aC φ q.2) H' → va_D A (mm_ws aC φ q.2) → va_S A H0 H' locs' → W p l e R s mi args below meth c H' locs' cells slots Q (F0 mi (pc + n) ls (q.1.map (mm_cv φ)))) : W p l e R s mi args below meth c H locs cells slots Q (F0 mi pc ls (st.map (mm_cv φ))) := by
  match op, hop, hc0, hs0 with
  | 0, hop, hc, hs => omega
  | 1, hop, hc, hs => omega
  | 2, hop, hc, hs => omega
  | 3, hop, hc, hs => omega
  | 4, hop, hc, hs => omega
  | 5, _, hc, hs =>
    simp only [mm_c3] at hc
    simp only [mm_hp] at hs
    split at hc
    next z =>
      simp only [Bool.and_eq_true, beq_iff_eq, decide_eq_true_eq] at hc
      obtain ⟨⟨⟨rfl, hcm⟩, hf⟩, hl⟩ := hc
      split at hs
      next nn dp r1 i1 sp r0 i0 =>
        split at hs
        next hr =>
          cases hs
          obtain ⟨k0, k1, h1, h2, h3, h5, h6⟩ := hr
          have hm0 : (r0, i0) ∈ h.1 := hst (.inr (.inr (r0, i0))) (by simp) _ rfl
          have hm1 : (r1, i1) ∈ h.1 := hst (.inr (.inr (r1, i1))) (by simp) _ rfl
          obtain ⟨q0, hq0⟩ := List.getElem?_of_mem hm0
          obtain ⟨q1, hq1⟩ := List.getElem?_of_mem hm1
          have ha0 := mm_ws_at (aC := aC) (φ := φ) hq0
          have ha1 := mm_ws_at (aC := aC) (φ := φ) hq1
          have hce := mm_ce_cp (aC := aC) (φ := φ) (h := h) (r0 := r0) (i0 := i0) (i1 := i1) (sp := sp.toNatClampNeg) (dp := dp.toNatClampNeg) (nn := nn.toNatClampNeg) k1 rfl
          have hset := mm_ws_set (h' := (h.1, mm_cp h.2.1 (100 + r0) i0 (100 + r1) i1 sp.toNatClampNeg dp.toNatClampNeg nn.toNatClampNeg, h.2.2.1, h.2.2.2)) hq1 hD rfl hce.2
          rw [hce.1, (mm_kx r1).1 k1] at hset
          rw [mm_ce_i (Or.inl k0), (mm_kx r0).1 k0] at ha0
          rw [mm_ce_i (Or.inl k1), (mm_kx r1).1 k1] at ha1
          have hac := mm_ac_ok
          simp only [Bool.and_eq_true] at hac
          have hlk : Jvm.Cond.methodLink (mm_cN (mm_ow m)) z arraycopyName ∈ mm_tb := List.mem_filter.mpr ⟨mm_cm_w hcm _ List.mem_cons_self, rfl⟩
          exact va_copyi hx hb hls hown (hts _ hlk) (hts _ (mm_tb_of hac.1.1 rfl)) (hts _ (mm_tb_of hac.1.2 rfl)) (hts _ (mm_tb_of hac.2 rfl)) hK.1 hP hD hS q0 q1 0 0 ha0 ha1 rfl rfl rfl h1 h2 h3 h5 h6 (fun _ _ => rfl) (by omega) (by rw [hRl]; refine Nat.le_trans ?_ hl; show 0 + (nativeFrameWords "java/lang/System" "arraycopy" 5 + 11) ≤ 40; decide) hd (fun H1 locs1 a1 a2 a3 => kk H1 locs1 (by rw [← hset]; exact a1) (by rw [← hset]; exact a2) a3)
        next => cases hs
      next => cases hs
    next => cases hc
  | 6, _, hc, hs =>
    simp only [mm_c3] at hc
    simp only [mm_hp] at hs
    split at hc
    next z =>
      simp only [Bool.and_eq_true, beq_iff_eq, decide_eq_true_eq] at hc
      obtain ⟨⟨rfl, hcl⟩, ha3, ha5⟩ := hc
      split at hs
      next r i' t =>
        split at hs
        next hr =>
          subst hr
          cases hs
          have hmem : (3, i') ∈ h.1 := hst _ List.mem_cons_self _ rfl
          have hi4 : i' < 4 := h4 _ hmem rfl
          obtain ⟨kq, hkq⟩ := List.getElem?_of_mem hmem
          have hat := mm_ws_at (aC := aC) (φ := φ) hkq
          have hv0 : mm_ce aC φ h (3, i') = .inr (2 + i', []) := by
            have k3 : mm_kd 3 = 0 := by decide +kernel
            unfold mm_ce mm_co
            rw [if_pos k3, if_pos rfl]
            rfl
          rw [hv0] at hat
          have hcell := va_recv hK.1 hP (mm_cls_at (c := 2 + i') (by omega)) hat
          have hlk := hts _ (mm_tb_of hcl rfl)
          have kk := kk H locs hP hD hS
          have ha : a = 3 ∨ a = 4 ∨ a = 5 := by omega
          match i', hi4, hcell, kk with
          | 0, _, hcell, kk =>
            rcases ha with rfl | rfl | rfl
            · exact va_instNo hx hb hown hlk (hK.2.1 ("SongToBridge$Keeper", "SongToBridge$Deaf") (by decide)) hcell hd kk
            · exact va_instNo hx hb hown hlk (hK.2.1 ("SongToBridge$Keeper", "SongToBridge$Echo") (by decide)) hcell hd kk
            · exact va_instNo hx hb hown hlk (hK.2.1 ("SongToBridge$Keeper", "SongToBridge$Worn") (by decide)) hcell hd kk
          | 1, _, hcell, kk =>
            rcases ha with rfl | rfl | rfl
            · exact va_instS hx hb hown hlk (hK.1.1 3 _ (mm_cls_at (by omega))).2 hcell hd kk
            · exact va_instNo hx hb hown hlk (hK.2.1 ("SongToBridge$Deaf", "SongToBridge$Echo") (by decide)) hcell hd kk
            · exact va_instNo hx hb hown hlk (hK.2.1 ("SongToBridge$Deaf", "SongToBridge$Worn") (by decide)) hcell hd kk
          | 2, _, hcell, kk =>
            rcases ha with rfl | rfl | rfl
            · exact va_instNo hx hb hown hlk (hK.2.1 ("SongToBridge$Echo", "SongToBridge$Deaf") (by decide)) hcell hd kk
            · exact va_instS hx hb hown hlk (hK.1.1 4 _ (mm_cls_at (by omega))).2 hcell hd kk
            · exact va_instNo hx hb hown hlk (hK.2.1 ("SongToBridge$Echo", "SongToBridge$Worn") (by decide)) hcell hd kk
          | 3, _, hcell, kk =>
            rcases ha with rfl | rfl | rfl
            · exact va_instY hx hb hown hlk (hK.2.2.2.1 ("SongToBridge$Worn", "SongToBridge$Deaf") (by decide)) hcell hd kk
            · exact va_instNo hx hb hown hlk (hK.2.1 ("SongToBridge$Worn", "SongToBridge$Echo") (by decide)) hcell hd kk
            · exact va_instS hx hb hown hlk (hK.1.1 5 _ (mm_cls_at (by omega))).2 hcell hd kk
          | i' + 4, hq, _, _ => omega
        next => cases hs
      next => cases hs
    next => cases hc
  | 7, _, hc, hs =>
    simp only [mm_c3] at hc
    simp only [mm_hp] at hs
    split at hc
    next z =>
      simp only [Bool.and_eq_true, beq_iff_eq, decide_eq_true_eq] at hc
      obtain ⟨⟨⟨rfl, hcm⟩, hf⟩, hl⟩ := hc
      split at hs
      next r i' =>
        cases hs
        have hoi := mm_oi_ok
        simp only [Bool.and_eq_true] at hoi
        have hlk : Jvm.Cond.methodLink (mm_cN (mm_ow m)) z objectInit ∈ mm_tb := List.mem_filter.mpr ⟨mm_cm_w hcm _ List.mem_cons_self, rfl⟩
        exact W.objInit hx hb hown (hts _ hlk) (hts _ (mm_tb_of hoi.1 rfl)) (hts _ (mm_tb_of hoi.2 rfl)) rfl hls.symm rfl hd (by omega) (by rw [hRl]; refine Nat.le_trans ?_ hl; show 2 * 0 + 0 + 12 ≤ 20; decide) (kk H locs hP hD hS)
      next => cases hs
    next => cases hc
  | 8, _, hc, hs =>
    simp only [mm_c3] at hc
    simp only [mm_hp] at hs
    split at hc
    next z =>
      simp only [Bool.and_eq_true, beq_iff_eq, decide_eq_true_eq] at hc
      obtain ⟨⟨⟨rfl, hcm⟩, hf⟩, hl⟩ := hc
      split at hs
      next y x t =>
        split at hs
        next ht =>
          cases hs
          have hmn := mm_mn_ok
          simp only [Bool.and_eq_true] at hmn
          have hlk : Jvm.Cond.methodLink (mm_cN (mm_ow m)) z Lib.Math.min.name ∈ mm_tb := List.mem_filter.mpr ⟨mm_cm_w hcm _ List.mem_cons_self, rfl⟩
          have hsum : ((t.map (mm_cv φ)).map (fun v => v.category)).sum = (t.map mm_cat).sum := by
            rw [List.map_map]
            exact congrArg List.sum (List.map_congr_left fun v _ => mm_cv_cat φ v)
          exact va_mmin hx hb hls hown (hts _ hlk) (hts _ (mm_tb_of hmn.1.1 rfl)) (hts _ (mm_tb_of hmn.1.2 rfl)) (hts _ (mm_tb_of hmn.2 rfl)) (by omega) (by rw [hsum, hRl]; omega) hcs.1 hcs.2 hd (kk H locs hP hD hS)
        next => cases hs
      next => cases hs
    next => cases hc
  | op + 9, _, hc, hs => simp [mm_c3] at hc
end MMA
