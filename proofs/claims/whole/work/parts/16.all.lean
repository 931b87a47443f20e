/-! the induction over the fuel -/
theorem mm_sndS {l : Launch} {D : va_G} {aC : Nat → ClassId} {n : Nat} (hSn : mm_Snd l D aC n) (hW : mm_SndW l D aC n) : mm_SndW l D aC (n + 1) := by
  intro m pc la st uc us h h' v hm hr hH hl ho p e s mi args below meth c X H locs ls φ φ0 h0 hi0 hφ0 hP hD hSs hlr huc hus
  obtain ⟨hx, hb, hrt, hml, hown, hts, hlk, hnm, hK⟩ := id X
  have hA : ∀ q, s.heap.size ≤ q → va_A (mm_ws aC φ0 h0) s.heap.size q := fun q hq => Or.inr hq
  have hls : ls.size = mm_mL m := hlr.2.1
  obtain ⟨op, a, b, k, zs, i, n', hd, hcs⟩ := mm_run_cases hm hr
  rcases hcs with ⟨hc, st', hs, hr⟩ | ⟨hc, q, hs, hr⟩ | ⟨hc, q, hs, hr⟩ | ⟨hc, q, hs, hr⟩ | ⟨hc, q, hs, hl1, hl2, hr⟩ | ⟨hc, q, w, h1, hs, hl1, hl2, hsum, hsp, hr1, hr⟩ | ⟨hc, hs, rfl⟩
  · exact mm_w0 hx hb hown hts hd hc hs (hW m _ la st' uc us h h' v hm hr hH hl (mm_ps_ok hs ho) p e s mi args below meth c X H locs ls φ φ0 h0 hi0 hφ0 hP hD hSs hlr huc hus)
  · exact mm_w1 hx hb hd rfl hc hs (hW m _ la q.2 uc us h h' v hm hr hH hl (mm_br_ok hs ho) p e s mi args below meth c X H locs ls φ φ0 h0 hi0 hφ0 hP hD hSs hlr huc hus)
  · obtain ⟨o1, o2⟩ := mm_lo_ok hs hl ho
    exact mm_w2 hx hb hd hc hs hlr (fun ls' hlr' => hW m _ q.1 q.2 uc us h h' v hm hr hH o1 o2 p e s mi args below meth c X H locs ls' φ φ0 h0 hi0 hφ0 hP hD hSs hlr' huc hus)
  · obtain ⟨o1, o2, o3⟩ := mm_hp_ok hc hs hH ho
    have kk : ∀ H' locs', va_P D mm_cls (mm_ws aC φ q.2) H' → va_D (va_A (mm_ws aC φ0 h0) s.heap.size) (mm_ws aC φ q.2) → va_S (va_A (mm_ws aC φ0 h0) s.heap.size) s.heap H' locs' → W p l e (mm_rm m) s mi args below meth c H' locs' uc us (MQ below (mm_Qc D aC φ0 h0 s.heap.size v h') args s (mm_mc m) (mm_ms m) (va_A (mm_ws aC φ0 h0) s.heap.size)) (F0 mi (pc + n') ls (q.1.map (mm_cv φ))) := fun H' locs' hP' hD' hS' => hW m _ la q.1 uc us q.2 h' v hm hr o2 (mm_okL_mono (fun z hz => by rw [o1]; exact hz) hl) o3 p e s mi args below meth c X H' locs' ls φ φ0 h0 (fun z hz => by rw [o1]; exact hi0 z hz) hφ0 hP' hD' hS' hlr huc hus
    by_cases h1 : op ≤ 1
    · exact mm_w3a hx hb hown hts hK hnm hd h1 hc hs ho hP hD hSs kk
    · by_cases h4 : op ≤ 4
      · exact mm_w3b hx hb hK hd ⟨by omega, h4⟩ hc hs ho (fun z hz e3 => hH.1 z hz e3) hP hD hSs kk
      · exact mm_w3c hx hb hown hts hK rfl rfl ⟨huc, hus⟩ (by rw [hml, hls]) hd (by omega) hc hs ho (fun z hz e3 => hH.1 z hz e3) hP hD hSs kk
  · obtain ⟨o1, o2, o3⟩ := mm_al_ok hs hH ho
    exact mm_w4 hx hb hown hts hK hd hc hs ho hH.2.1 hH.2.2 ⟨hl1, hl2⟩ hP hD hSs hA (fun φ' H' hφ' hP' hD' hS' => hW m _ la q.1 _ _ q.2.1 h' v hm hr o2 (mm_okL_mono o1 hl) o3 p e s mi args below meth c X H' locs ls φ' φ0 h0 (fun z hz => o1 z (hi0 z hz)) (fun z hz => (hφ' z (hi0 z hz)).trans (hφ0 z hz)) hP' hD' hS' (mm_lr_re hφ' hl hlr) hl1 hl2)
  · obtain ⟨o1, o2⟩ := mm_cl_ok hs ho
    obtain ⟨w1, w2, hy⟩ := mm_cw_lt (mm_cl_cw hc hs)
    obtain ⟨g1, g2, g3⟩ := mm_run_ok n q.1 0 _ [] 0 0 h h1 w hy hr1 hH (mm_il_ok o1) (fun x hx => by cases hx)
    have hM := hSn q.1 q.2.1 h h1 w hy hr1 hsp hH o1 φ H.size
    obtain ⟨rfl, hrun⟩ := mm_runs (p := p) (l := l) (e := e) (mi := mi) (below := below) (meth := meth) (c := c) (locs := locs) (uc := uc) (us := us) (ls := ls) hx hb hml hown hts hK hls hd hc hs ho hH hP hD hsum ⟨hl1, hl2⟩ hM
    refine mm_call hrun hSs (fun z hz => ?_) (fun φ' H1 locs1 hφ' hP' hD' hS' => ?_)
    · rcases hz with ⟨k9, e9, hk9⟩ | hz
      · exact hD.2 k9 _ hk9
      · exact Or.inr (Nat.le_trans hSs.1 hz)
    · have hst : (w.map (mm_cv φ')).toList ++ q.2.2.map (mm_cv φ) = (w.toList ++ q.2.2).map (mm_cv φ') := by
        rw [List.map_append, mm_cv_re hφ' o2]
        cases w <;> rfl
      rw [hst]
      exact hW m _ la _ _ _ h1 h' v hm hr g1 (mm_okL_mono g2 hl) (fun x hx => by
        rcases List.mem_append.mp hx with z | z
        · exact g3 x (by cases w with
            | none => cases z
            | some y => rw [Option.toList, List.mem_singleton] at z; rw [z])
        · exact mm_okV_mono g2 (o2 x z)) p e s mi args below meth c X H1 locs1 ls φ' φ0 h0 (fun z hz => g2 z (hi0 z hz)) (fun z hz => (hφ' z (hi0 z hz)).trans (hφ0 z hz)) hP' hD' hS' (mm_lr_re hφ' hl hlr) hl1 hl2
  · refine W.widen (k := mm_mc m) (n := mm_ms m) huc hus ?_
    simp only [mm_c6, Bool.and_eq_true, beq_iff_eq] at hc
    obtain ⟨rfl, hc⟩ := hc
    match op, hc, hs with
    | 0, hc, hs =>
      cases of_decide_eq_true hc
      simp only [mm_re] at hs
      split at hs
      next x =>
        split at hs
        next hh =>
          cases hs
          rcases hh with hh | ⟨hh, hx01⟩
          · exact W.iret hx hb (hrt.trans hh) (fun t ht hW9 => ⟨⟨φ, hφ0, rfl, by rw [ht]; exact hP, hD⟩, hSs.F ht⟩) hSs.2.2 hd hlk
          · exact W.zret (ty := .boolean) hx hb (hrt.trans hh) (by rcases hx01 with rfl | rfl <;> rfl) (fun t ht hW9 => ⟨⟨φ, hφ0, rfl, by rw [ht]; exact hP, hD⟩, hSs.F ht⟩) hSs.2.2 hd hlk
        next => cases hs
      next => cases hs
    | 1, hc, hs =>
      cases of_decide_eq_true hc
      simp only [mm_re] at hs
      split at hs
      next x =>
        split at hs
        next hh =>
          cases hs
          exact W.lret hx hb (hrt.trans hh) (fun t ht hW9 => ⟨⟨φ, hφ0, rfl, by rw [ht]; exact hP, hD⟩, hSs.F ht⟩) hSs.2.2 hd hlk
        next => cases hs
      next => cases hs
    | 2, hc, hs =>
      cases of_decide_eq_true hc
      simp only [mm_re] at hs
      split at hs
      next =>
        split at hs
        next hh =>
          cases hs
          exact W.vret hx hb (hrt.trans hh) (fun t ht hW9 => ⟨⟨φ, hφ0, rfl, by rw [ht]; exact hP, hD⟩, hSs.F ht⟩) hSs.2.2 hd hlk
        next => cases hs
      next => cases hs
    | op + 3, hc, hs => simp [mm_re] at hs
theorem mm_sndAll (l : Launch) (D : va_G) (aC : Nat → ClassId) : ∀ n, mm_SndW l D aC n := by
  intro n
  induction n with
  | zero => intro m pc la st uc us h h' v hm hr; simp [mm_run] at hr
  | succ n ih => exact mm_sndS (mm_entry ih) ih
/-- the contract of a method out of a run of the machine -/
theorem mm_met (l : Launch) (D : va_G) (aC : Nat → ClassId) (n : Nat) : mm_Snd l D aC n := mm_entry (mm_sndAll l D aC n)
