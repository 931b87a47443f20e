/-! the calls -/
set_option maxRecDepth 100000 in
theorem mm_s8 : mm_cm.all (fun q => !(q.2.1 == 1 || q.2.1 == 2) || (decide ((mm_y q.2.2).name = "<init>") && decide (mm_rt q.2.2 = none))) = true := by decide +kernel
set_option maxRecDepth 100000 in
theorem mm_s9 : (List.range 4).all (fun g => decide (mm_y (mm_vs g 0) = mm_vx g) && decide (mm_vs g 0 < 178) && decide (mm_vx g = ⟨"SongToBridge$Keeper", (mm_vx g).name, (mm_vx g).desc⟩) && (List.range 4).all (fun i => decide (mm_na (mm_vs g i) = mm_na (mm_vs g 0)))) = true := by decide +kernel
theorem mm_co_lt {r i : Nat} (hk : mm_kd r = 0) (h3 : r = 3 → i < 4) : mm_co r i < 12 := by
  unfold mm_co
  split
  next e => have := h3 e; omega
  next e =>
    have hr : r < 47 := by
      rcases Nat.lt_or_ge r 47 with q | q
      · exact q
      · have := mm_kd_ge q; omega
    have h := List.all_eq_true.mp mm_s4 r (List.mem_range.mpr hr)
    simp only [Bool.or_eq_true, Bool.not_eq_true', decide_eq_false_iff_not, decide_eq_true_eq, Bool.and_eq_true] at h
    rcases h with (h | h) | h
    · exact absurd hk h
    · exact absurd h e
    · exact h.1.1
section MMK
variable {p : Program} {l : Launch} {e : Env} {s : State} {mi : MethodId} {args : Array Value} {below : List Frame} {meth : Method} {c : Code} {H : Heap} {locs : List Loc} {uc us : Nat}
variable {m pc op a b : Nat} {st : List mm_V} {ls : Array Slot} {φ : Nat → Nat → Nat} {i : Instr} {n : Nat} {D : va_G} {aC : Nat → ClassId} {A : Nat → Prop} {h h1 : mm_H} {w : Option mm_V}
theorem mm_pre {as : List mm_V} (hK : mm_K D aC s) (hP : va_P D mm_cls (mm_ws aC φ h) H) (hD : va_D A (mm_ws aC φ h)) : PreS s H (mm_Pc D aC φ h H.size as) (as.map (mm_cv φ)) := ⟨mm_blind, fun U hU hW => ⟨rfl, by rw [hU], by rw [hU]; exact hP, hK.warm hW, hD.weaken (fun _ _ _ _ => trivial)⟩⟩
theorem mm_callB {y z : Nat} (hts : ∀ w ∈ mm_tb, w.before args s = true) (hcw : mm_cw m y = true) (hl : (Jvm.Cond.methodLink (mm_cN (mm_ow m)) z (mm_y y)).before args s = true) : CallB (mm_rm m) s args (mm_cN (mm_ow m)) z (mm_y y) (mm_bc y) (mm_mL y) (mm_rt y) (mm_wm y) (mm_rm y) (mm_mc y) (mm_ms y) (mm_na y) := by
  obtain ⟨h1, h2, h3⟩ := mm_cw_lt hcw
  obtain ⟨g1, g2, g3, g4, g5, -⟩ := mm_m_w h3
  exact callB_of (mm_na y) hts (mm_wm_in h3) rfl rfl rfl (hts _ g2) hl ⟨g4, g5, g3⟩ ⟨h1, h2⟩
theorem mm_sum (t : List mm_V) : ((t.map (mm_cv φ)).map (fun v => v.category)).sum = (t.map mm_cat).sum := by
  rw [List.map_map]
  exact congrArg List.sum (List.map_congr_left fun v _ => mm_cv_cat φ v)
theorem mm_runs (hx : p.tables.exec = Jvm.exec) (hb : c.code = mm_bc m) (hml : c.maxLocals = mm_mL m) (hown : s.vm.findClass (mm_cN (mm_ow m)) = some mi.cls) (hts : ∀ w ∈ mm_tb, w.before args s = true) (hK : mm_K D aC s) (hls : ls.size = mm_mL m) (hd : decode (mm_bc m) pc = .ok (i, n)) (hc0 : mm_c5 m op a b i n = true) {q : Nat × List mm_V × List mm_V} (hs0 : mm_cl op a b st = some q) (hst : mm_okS h st) (hH : mm_okH h)
    (hP : va_P D mm_cls (mm_ws aC φ h) H) (hD : va_D A (mm_ws aC φ h)) (hsum : (q.2.2.map mm_cat).sum ≤ 8) (hf : uc + mm_mc q.1 ≤ mm_mc m ∧ us + mm_ms q.1 ≤ mm_ms m) (hM : Met l (mm_y q.1) (mm_wm q.1) (mm_rm q.1) (mm_Pc D aC φ h H.size q.2.1) (mm_Qc D aC φ h H.size w h1) (mm_mc q.1) (mm_ms q.1) (va_A (mm_ws aC φ h) H.size)) :
    n = 3 ∧ va_Run p l e (mm_rm m) s mi args below meth c H locs uc us (mm_mc q.1) (mm_ms q.1) (F0 mi pc ls (st.map (mm_cv φ))) (q.2.2.map (mm_cv φ)) (mm_Qc D aC φ h H.size w h1 #[]) (va_A (mm_ws aC φ h) H.size) := by
  have hcw := mm_cl_cw hc0 hs0
  obtain ⟨w1, w2, hy⟩ := mm_cw_lt hcw
  have hsum' : 2 * (F0 mi pc ls (st.map (mm_cv φ))).monitorRoom + ((q.2.2.map (mm_cv φ)).map fun v => v.category).sum ≤ 8 := by
    rw [mm_sum]
    show 2 * 0 + _ ≤ 8
    omega
  match op, hc0, hs0 with
  | 0, hc, hs =>
    simp only [mm_c5] at hc
    simp only [mm_cl] at hs
    split at hs
    next hle =>
      cases hs
      split at hc
      next z =>
        simp only [Bool.and_eq_true, beq_iff_eq, decide_eq_true_eq] at hc
        obtain ⟨⟨⟨rfl, hcm⟩, hna⟩, -⟩ := hc
        have hw := mm_cm_w hcm
        have hl : Jvm.Cond.methodLink (mm_cN (mm_ow m)) z (mm_y a) ∈ mm_tb := List.mem_filter.mpr ⟨hw _ List.mem_cons_self, rfl⟩
        have hst9 : Jvm.Cond.static (mm_y a) ∈ mm_tb := List.mem_filter.mpr ⟨hw _ (List.mem_cons_of_mem _ List.mem_cons_self), rfl⟩
        refine ⟨rfl, va_runS (As := ((st.take b).reverse).map (mm_cv φ)) ⟨hx, hb, hml, hown, hts⟩ hM ⟨mm_callB hts hcw (hts _ hl), hts _ hst9⟩ (mm_pre hK hP hD) rfl ?_ hls ?_ hsum' hd hf⟩
        · rw [List.length_map, List.length_reverse, List.length_take, ← hna]
          omega
        · show st.map (mm_cv φ) = _
          rw [← List.map_reverse, List.reverse_reverse, ← List.map_append, List.take_append_drop]
      next => cases hc
    next => cases hs
  | 1, hc, hs =>
    simp only [mm_c5] at hc
    simp only [mm_cl] at hs
    split at hs
    next r i' t e9 =>
      split at hs
      next hh =>
        cases hs
        split at hc
        next z =>
          simp only [Bool.and_eq_true, Bool.or_eq_true, beq_iff_eq, decide_eq_true_eq] at hc
          obtain ⟨⟨⟨rfl, hcm⟩, hna⟩, -⟩ := hc
          have hlen : (((st.take b).reverse).map (mm_cv φ)).length = mm_na a := by
            have : b < st.length := by
              rcases Nat.lt_or_ge b st.length with q | q
              · exact q
              · rw [List.drop_eq_nil_of_le q] at e9; cases e9
            rw [List.length_map, List.length_reverse, List.length_take, ← hna]
            omega
          have hstk : st.map (mm_cv φ) = (((st.take b).reverse).map (mm_cv φ)).reverse ++ .ref (φ r i') :: t.map (mm_cv φ) := by
            rw [← List.map_reverse, List.reverse_reverse]
            have : st.map (mm_cv φ) = (st.take b ++ st.drop b).map (mm_cv φ) := by rw [List.take_append_drop]
            rw [this, e9, List.map_append]
            rfl
          have h8 : ∀ kd9, (kd9 = 1 ∨ kd9 = 2) → mm_cm.lookup (mm_ow m, z) = some (kd9, a) → (mm_y a).name = "<init>" ∧ mm_rt a = none := by
            intro kd9 hk9 hcm9
            have := List.all_eq_true.mp mm_s8 _ (mm_lookup_mem hcm9)
            rcases hk9 with rfl | rfl <;> simpa using this
          rcases hcm with hcm | hcm
          · obtain ⟨hn9, hrt⟩ := h8 1 (Or.inl rfl) hcm
            have hw := mm_cm_w hcm
            have hl : Jvm.Cond.methodLink (mm_cN (mm_ow m)) z (mm_y a) ∈ mm_tb := List.mem_filter.mpr ⟨hw _ List.mem_cons_self, rfl⟩
            have hi9 : Jvm.Cond.instanceMethod (mm_y a) ∈ mm_tb := List.mem_filter.mpr ⟨hw _ (List.mem_cons_of_mem _ List.mem_cons_self), rfl⟩
            have hcb := mm_callB (y := a) hts hcw (hts _ hl)
            rw [hrt] at hcb
            exact ⟨rfl, va_runI (As := ((st.take b).reverse).map (mm_cv φ)) ⟨hx, hb, hml, hown, hts⟩ hM ⟨hcb, hn9, hts _ hi9⟩ (mm_pre (as := .inr (.inr (r, i')) :: (st.take b).reverse) hK hP hD) rfl hlen hls hstk hsum' hd hf⟩
          · obtain ⟨hn9, hrt⟩ := h8 2 (Or.inr rfl) hcm
            have hw := mm_cm_w hcm
            have hi9 : Jvm.Cond.instanceMethod (mm_y a) ∈ mm_tb := List.mem_filter.mpr ⟨hw _ (List.mem_cons_of_mem _ List.mem_cons_self), rfl⟩
            obtain ⟨g1, g2, g3, g4, g5, -⟩ := mm_m_w hy
            have hcb := va_cnB (R := mm_rm m) (own := mm_cN (mm_ow m)) (host := "SongToBridge") (index := z) (y := mm_y a) (bytes := mm_bc a) (maxL := mm_mL a) (ret := mm_rt a) (ws := mm_wm a) (rm := mm_rm a) (mm_na a) hts (mm_wm_in hy) rfl rfl rfl (hK.2.2.1 _ _ _ hcm) (hts _ g2) ⟨g4, g5, g3⟩ ⟨w1, w2⟩
            rw [hrt] at hcb
            exact ⟨rfl, va_runIN (As := ((st.take b).reverse).map (mm_cv φ)) ⟨hx, hb, hml, hown, hts⟩ hM ⟨hcb, hn9, hts _ hi9⟩ (mm_pre (as := .inr (.inr (r, i')) :: (st.take b).reverse) hK hP hD) rfl hlen hls hstk hsum' hd hf⟩
        next => cases hc
      next => cases hs
    next => cases hs
  | 2, hc, hs =>
    simp only [mm_c5] at hc
    simp only [mm_cl] at hs
    split at hs
    next r i' t e9 =>
      split at hs
      next hh =>
        cases hs
        split at hc
        next z =>
          simp only [Bool.and_eq_true, beq_iff_eq, decide_eq_true_eq] at hc
          obtain ⟨⟨⟨rfl, hcm⟩, hna⟩, -⟩ := hc
          have hlen : (((st.take b).reverse).map (mm_cv φ)).length = mm_na a := by
            have : b < st.length := by
              rcases Nat.lt_or_ge b st.length with q | q
              · exact q
              · rw [List.drop_eq_nil_of_le q] at e9; cases e9
            rw [List.length_map, List.length_reverse, List.length_take, ← hna]
            omega
          have hstk : st.map (mm_cv φ) = (((st.take b).reverse).map (mm_cv φ)).reverse ++ .ref (φ r i') :: t.map (mm_cv φ) := by
            rw [← List.map_reverse, List.reverse_reverse]
            have : st.map (mm_cv φ) = (st.take b ++ st.drop b).map (mm_cv φ) := by rw [List.take_append_drop]
            rw [this, e9, List.map_append]
            rfl
          have hw := mm_cm_w hcm
          have hl : Jvm.Cond.methodLink (mm_cN (mm_ow m)) z (mm_y a) ∈ mm_tb := List.mem_filter.mpr ⟨hw _ List.mem_cons_self, rfl⟩
          have hi9 : Jvm.Cond.instanceMethod (mm_y a) ∈ mm_tb := List.mem_filter.mpr ⟨hw _ (List.mem_cons_of_mem _ List.mem_cons_self), rfl⟩
          have hs9 : Jvm.Cond.selects (mm_cN (mm_ow a)) (mm_y a) (mm_y a) ∈ mm_tb := List.mem_filter.mpr ⟨hw _ (List.mem_cons_of_mem _ (List.mem_cons_of_mem _ List.mem_cons_self)), rfl⟩
          have hmem : (r, i') ∈ h.1 := hst (.inr (.inr (r, i'))) (List.mem_of_mem_drop (e9 ▸ List.mem_cons_self)) _ rfl
          obtain ⟨kq, hkq⟩ := List.getElem?_of_mem hmem
          have hat := mm_ws_at (aC := aC) (φ := φ) hkq
          have hce : mm_ce aC φ h (r, i') = .inr (mm_co r i', (mm_fs r).map (mm_fv φ h i')) := by
            unfold mm_ce
            rw [if_pos hh.2]
          rw [hce] at hat
          have hrc := va_recv hK.1 hP (mm_cls_at (mm_co_lt hh.2 (fun e3 => hH.1 _ hmem e3))) hat
          rw [hh.1] at hrc
          exact ⟨rfl, va_runV (C := mm_cN (mm_ow a)) (As := ((st.take b).reverse).map (mm_cv φ)) ⟨hx, hb, hml, hown, hts⟩ hM ⟨mm_callB hts hcw (hts _ hl), hts _ hi9, hts _ hs9⟩ ⟨mm_blind, hrc, (mm_pre (as := .inr (.inr (r, i')) :: (st.take b).reverse) hK hP hD).2⟩ rfl hlen hls hstk hsum' hd hf⟩
        next => cases hc
      next => cases hs
    next => cases hs
  | 3, hc, hs =>
    simp only [mm_c5] at hc
    simp only [mm_cl] at hs
    split at hs
    next r i' t e9 =>
      split at hs
      next hh =>
        cases hs
        split at hc
        next z =>
          simp only [Bool.and_eq_true, beq_iff_eq, decide_eq_true_eq] at hc
          obtain ⟨⟨⟨⟨⟨⟨⟨rfl, hcm⟩, ha4⟩, hna⟩, -⟩, -⟩, -⟩, -⟩ := hc
          obtain ⟨rfl, hi4⟩ := hh
          have h9 := List.all_eq_true.mp mm_s9 a (List.mem_range.mpr ha4)
          simp only [Bool.and_eq_true, decide_eq_true_eq] at h9
          obtain ⟨⟨⟨hyx, hv0⟩, hvx⟩, hnas⟩ := h9
          have hnai : mm_na (mm_vs a i') = mm_na (mm_vs a 0) := of_decide_eq_true (List.all_eq_true.mp hnas i' (List.mem_range.mpr hi4))
          have hlen : (((st.take b).reverse).map (mm_cv φ)).length = mm_na (mm_vs a 0) := by
            have : b < st.length := by
              rcases Nat.lt_or_ge b st.length with q | q
              · exact q
              · rw [List.drop_eq_nil_of_le q] at e9; cases e9
            rw [List.length_map, List.length_reverse, List.length_take, ← hna]
            omega
          have hstk : st.map (mm_cv φ) = (((st.take b).reverse).map (mm_cv φ)).reverse ++ .ref (φ 3 i') :: t.map (mm_cv φ) := by
            rw [← List.map_reverse, List.reverse_reverse]
            have : st.map (mm_cv φ) = (st.take b ++ st.drop b).map (mm_cv φ) := by rw [List.take_append_drop]
            rw [this, e9, List.map_append]
            rfl
          have hw := mm_cm_w hcm
          have hvq := List.all_eq_true.mp (List.all_eq_true.mp mm_vt_ok a (List.mem_range.mpr ha4)) i' (List.mem_range.mpr hi4)
          simp only [mm_vq, Bool.and_eq_true] at hvq
          have hmem : (3, i') ∈ h.1 := hst (.inr (.inr (3, i'))) (List.mem_of_mem_drop (e9 ▸ List.mem_cons_self)) _ rfl
          obtain ⟨kq, hkq⟩ := List.getElem?_of_mem hmem
          have hat := mm_ws_at (aC := aC) (φ := φ) hkq
          have hce : mm_ce aC φ h (3, i') = .inr (2 + i', (mm_fs 3).map (mm_fv φ h i')) := by
            unfold mm_ce mm_co
            rw [if_pos mm_kd3, if_pos rfl]
          rw [hce] at hat
          have hrc := va_recv hK.1 hP (mm_cls_at (c := 2 + i') (by omega)) hat
          obtain ⟨g1, g2, g3, g4, g5, -⟩ := mm_m_w hy
          obtain ⟨k1, k2, k3, k4, k5, -⟩ := mm_m_w hv0
          rw [hyx] at k1 k3
          have hG : GoodIn mm_tb (va_wsO (mm_cN (mm_ow m)) z (mm_cN (2 + i')) "SongToBridge$Keeper" (mm_vx a) (mm_y (mm_vs a i')) (mm_wm (mm_vs a i'))) := by
            intro x hx9
            have hall : x ∈ mm_tb := by
              rcases List.mem_append.mp hx9 with q | q
              · simp only [List.mem_cons, List.not_mem_nil, or_false] at q
                rcases q with rfl | rfl | rfl | rfl | rfl | rfl
                · exact List.mem_filter.mpr ⟨hw _ List.mem_cons_self, rfl⟩
                · exact List.mem_filter.mpr ⟨hw _ (List.mem_cons_of_mem _ List.mem_cons_self), rfl⟩
                · rw [← hvx]; exact List.mem_filter.mpr ⟨hw _ (List.mem_cons_of_mem _ (List.mem_cons_of_mem _ List.mem_cons_self)), rfl⟩
                · exact mm_tb_of hvq.1 rfl
                · exact mm_tb_of hvq.2 rfl
                · exact g2
              · exact (mm_wm_in hy x q).1
            exact ⟨hall, mm_good hall⟩
          have hcu := va_cwO (R := mm_rm m) (s := s) (args := args) (own := mm_cN (mm_ow m)) (C := mm_cN (2 + i')) (owner := "SongToBridge$Keeper") (index := z) (x := mm_vx a) (y := mm_y (mm_vs a i')) (bytes := mm_bc (mm_vs a i')) (maxL := mm_mL (mm_vs a i')) (ret := mm_rt (mm_vs a i')) (ws := mm_wm (mm_vs a i')) (rm := mm_rm (mm_vs a i')) (mm_na (mm_vs a 0)) hts hG rfl rfl rfl (b0 := mm_bc (mm_vs a 0)) (m0 := mm_mL (mm_vs a 0)) (r0 := mm_rt (mm_vs a 0)) (by rw [← hvx]; exact k1) ⟨by decide, by decide, k3⟩ ⟨w1, w2⟩
          exact ⟨rfl, va_runU (As := ((st.take b).reverse).map (mm_cv φ)) ⟨hx, hb, hml, hown, hts⟩ hM hcu ⟨mm_blind, hrc, (mm_pre (as := .inr (.inr (3, i')) :: (st.take b).reverse) hK hP hD).2⟩ rfl hlen hls hstk hsum' hd hf⟩
        next => cases hc
      next => cases hs
    next => cases hs
  | op + 4, hc, hs => simp [mm_cl] at hs
end MMK
