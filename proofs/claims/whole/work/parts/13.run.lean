/-! a run's first step, by kinds; the invariants of runs -/
theorem mm_run_cases {n m pc : Nat} {la : List (Option mm_V)} {st : List mm_V} {uc us : Nat} {h h' : mm_H} {v : Option mm_V} (hm : m < 178) (hr : mm_run (n + 1) (m, pc, la, st, uc, us) h = some (v, h')) :
    ∃ (op a b : Nat) (c : Int) (l : List Nat) (i : Instr) (k : Nat), decode (mm_bc m) pc = .ok (i, k) ∧
      ((mm_c0 m op a b c i k = true ∧ ∃ st', mm_ps op b c st = some st' ∧ mm_run n (m, pc + k, la, st', uc, us) h = some (v, h')) ∨
       (mm_c1 pc op a b c l i k = true ∧ ∃ q, mm_br op (pc + k) a b c l st = some q ∧ mm_run n (m, q.1, la, q.2, uc, us) h = some (v, h')) ∨
       (mm_c2 op a b c i k = true ∧ ∃ q, mm_lo op a b c la st = some q ∧ mm_run n (m, pc + k, q.1, q.2, uc, us) h = some (v, h')) ∨
       (mm_c3 m op a b i k = true ∧ ∃ q, mm_hp op a b st h = some q ∧ mm_run n (m, pc + k, la, q.1, uc, us) q.2 = some (v, h')) ∨
       (mm_c4 m op a b l i k = true ∧ ∃ q, mm_al op a b st h = some q ∧ uc + q.2.2.1 ≤ mm_mc m ∧ us + q.2.2.2 ≤ mm_ms m ∧ mm_run n (m, pc + k, la, q.1, uc + q.2.2.1, us + q.2.2.2) q.2.1 = some (v, h')) ∨
       (mm_c5 m op a b i k = true ∧ ∃ q w h1, mm_cl op a b st = some q ∧ uc + mm_mc q.1 ≤ mm_mc m ∧ us + mm_ms q.1 ≤ mm_ms m ∧ (q.2.2.map mm_cat).sum ≤ 8 ∧ (mm_sp q.2.1).length ≤ mm_mL q.1 ∧ mm_run n (q.1, 0, mm_il (mm_mL q.1) q.2.1, [], 0, 0) h = some (w, h1) ∧ mm_run n (m, pc + k, la, w.toList ++ q.2.2, uc + mm_mc q.1, us + mm_ms q.1) h1 = some (v, h')) ∨
       (mm_c6 op i k = true ∧ mm_re m op st = some v ∧ h' = h)) := by
  unfold mm_run at hr
  cases hf : mm_fetch m pc with
  | none => simp [hf] at hr
  | some e =>
    obtain ⟨i, k, hd, hnx, hci⟩ := mm_fetch_ck hm hf
    obtain ⟨cat, op, nx, a, b, c, l⟩ := e
    simp only [hf] at hr
    simp only at hnx
    subst hnx
    refine ⟨op, a, b, c, l, i, k, hd, ?_⟩
    match cat, hr, hci with
    | 0, hr, hci =>
      simp only [mm_ci] at hci
      simp only at hr
      split at hr
      next st' hs => exact Or.inl ⟨hci, st', hs, hr⟩
      next => cases hr
    | 1, hr, hci =>
      simp only [mm_ci] at hci
      simp only at hr
      split at hr
      next q hs => exact Or.inr (Or.inl ⟨hci, q, hs, hr⟩)
      next => cases hr
    | 2, hr, hci =>
      simp only [mm_ci] at hci
      simp only at hr
      split at hr
      next q hs => exact Or.inr (Or.inr (Or.inl ⟨hci, q, hs, hr⟩))
      next => cases hr
    | 3, hr, hci =>
      simp only [mm_ci] at hci
      simp only at hr
      split at hr
      next q hs => exact Or.inr (Or.inr (Or.inr (Or.inl ⟨hci, q, hs, hr⟩)))
      next => cases hr
    | 4, hr, hci =>
      simp only [mm_ci] at hci
      simp only at hr
      split at hr
      next q hs =>
        split at hr
        next hle => exact Or.inr (Or.inr (Or.inr (Or.inr (Or.inl ⟨hci, q, hs, hle.1, hle.2, hr⟩))))
        next => cases hr
      next => cases hr
    | 5, hr, hci =>
      simp only [mm_ci] at hci
      simp only at hr
      split at hr
      next q hs =>
        split at hr
        next hle =>
          split at hr
          next w hw => exact Or.inr (Or.inr (Or.inr (Or.inr (Or.inr (Or.inl ⟨hci, q, w.1, w.2, hs, hle.1, hle.2.1, hle.2.2.1, hle.2.2.2, hw, hr⟩)))))
          next => cases hr
        next => cases hr
      next => cases hr
    | 6, hr, hci =>
      simp only [mm_ci] at hci
      simp only at hr
      split at hr
      next w hs =>
        cases hr
        exact Or.inr (Or.inr (Or.inr (Or.inr (Or.inr (Or.inr ⟨hci, hs, rfl⟩)))))
      next => cases hr
    | cat + 7, hr, hci => simp [mm_ci] at hci
theorem mm_cl_cw {m op a b k : Nat} {i : Instr} {st : List mm_V} {q : Nat × List mm_V × List mm_V} (hc0 : mm_c5 m op a b i k = true) (hs0 : mm_cl op a b st = some q) : mm_cw m q.1 = true := by
  match op, hc0, hs0 with
  | 0, hc, hs =>
    simp only [mm_c5] at hc
    simp only [mm_cl] at hs
    split at hs
    next =>
      cases hs
      split at hc
      next => simp only [Bool.and_eq_true] at hc; exact hc.2
      next => cases hc
    next => cases hs
  | 1, hc, hs =>
    simp only [mm_c5] at hc
    simp only [mm_cl] at hs
    split at hs
    next =>
      split at hs
      next =>
        cases hs
        split at hc
        next => simp only [Bool.and_eq_true] at hc; exact hc.2
        next => cases hc
      next => cases hs
    next => cases hs
  | 2, hc, hs =>
    simp only [mm_c5] at hc
    simp only [mm_cl] at hs
    split at hs
    next =>
      split at hs
      next =>
        cases hs
        split at hc
        next => simp only [Bool.and_eq_true] at hc; exact hc.2
        next => cases hc
      next => cases hs
    next => cases hs
  | 3, hc, hs =>
    simp only [mm_c5] at hc
    simp only [mm_cl] at hs
    split at hs
    next r i' t e9 =>
      split at hs
      next hh =>
        cases hs
        split at hc
        next =>
          simp only [Bool.and_eq_true] at hc
          have h4 := hh.2
          match i', h4 with
          | 0, _ => exact hc.1.1.1.2
          | 1, _ => exact hc.1.1.2
          | 2, _ => exact hc.1.2
          | 3, _ => exact hc.2
          | i' + 4, h4 => omega
        next => cases hc
      next => cases hs
    next => cases hs
  | op + 4, hc, hs => simp [mm_cl] at hs
theorem mm_cw_lt {m y : Nat} (h : mm_cw m y = true) : mm_rf y + 1 ≤ mm_rf m ∧ 8 + (mm_mL y + 11) + mm_rl y ≤ mm_rl m ∧ y < 178 := by
  simp only [mm_cw, Bool.and_eq_true, decide_eq_true_eq] at h
  exact ⟨h.1.1, h.1.2, h.2⟩
set_option maxRecDepth 100000 in
theorem mm_s7 : (List.range 47).all (fun r => decide (mm_kd r = 0) || decide (mm_fs r = [])) = true := by decide +kernel
theorem mm_fs_nil {r : Nat} (h : mm_kd r ≠ 0) : mm_fs r = [] := by
  by_cases hr : r < 47
  · have := List.all_eq_true.mp mm_s7 r (List.mem_range.mpr hr)
    simp only [Bool.or_eq_true, decide_eq_true_eq] at this
    rcases this with q | q
    · exact absurd q h
    · exact q
  · exact mm_fs_ge (by omega)
theorem mm_kd3 : mm_kd 3 = 0 := by decide +kernel
theorem mm_okV_mono {h h' : mm_H} (hi : ∀ z ∈ h.1, z ∈ h'.1) {v : mm_V} (hv : mm_okV h v) : mm_okV h' v := fun q e => hi q (hv q e)
theorem mm_al_ok {op a b : Nat} {st : List mm_V} {h : mm_H} {q : List mm_V × mm_H × Nat × Nat} (hs0 : mm_al op a b st h = some q) (hH : mm_okH h) (ho : mm_okS h st) : (∀ z ∈ h.1, z ∈ q.2.1.1) ∧ mm_okH q.2.1 ∧ mm_okS q.2.1 q.1 := by
  have one : ∀ (a : Nat) (t : List mm_V), mm_okS h t → (a = 3 → mm_nr h.1 a < 4) → (mm_kd a = 0 → ∀ f ∈ mm_fs a, h.2.2.2 f.1 (mm_nr h.1 a) 0 = (0, 0)) → (mm_kd a = 3 → ∀ j, j < mm_ln a → h.2.2.2 (100 + a) (mm_nr h.1 a) j = (0, 0)) → (∀ z ∈ h.1, z ∈ h.1 ++ [(a, mm_nr h.1 a)]) ∧ mm_okH (h.1 ++ [(a, mm_nr h.1 a)], h.2) ∧ mm_okS (h.1 ++ [(a, mm_nr h.1 a)], h.2) (.inr (.inr (a, mm_nr h.1 a)) :: t) := by
    intro a t ht h3 hf0 hr0
    have hsub : ∀ z ∈ h.1, z ∈ h.1 ++ [(a, mm_nr h.1 a)] := fun z hz => List.mem_append_left _ hz
    refine ⟨hsub, ⟨fun z hz e => ?_, fun z hz f hf h2 => ?_, fun z hz hk j hj => ?_⟩, fun w hw => ?_⟩
    · rcases List.mem_append.mp hz with q | q
      · exact hH.1 z q e
      · rw [List.mem_singleton.mp q] at e ⊢
        exact h3 e
    · rcases List.mem_append.mp hz with q | q
      · rcases hH.2.1 z q f hf h2 with w | w
        · exact Or.inl w
        · exact Or.inr (hsub _ w)
      · rw [List.mem_singleton.mp q] at hf ⊢
        by_cases k0 : mm_kd a = 0
        · left
          show (h.2.2.2 f.1 (mm_nr h.1 a) 0).1 = 0
          rw [hf0 k0 f hf]
        · rw [mm_fs_nil k0] at hf
          cases hf
    · rcases List.mem_append.mp hz with q | q
      · rcases hH.2.2 z q hk j hj with w | w
        · exact Or.inl w
        · exact Or.inr (hsub _ w)
      · rw [List.mem_singleton.mp q] at hk hj ⊢
        left
        show (h.2.2.2 (100 + a) (mm_nr h.1 a) j).1 = 0
        rw [hr0 hk j hj]
    · rcases List.mem_cons.mp hw with rfl | hw
      · intro z e
        cases e
        exact List.mem_append_right _ (List.mem_singleton.mpr rfl)
      · exact mm_okV_mono (h' := (h.1 ++ [(a, mm_nr h.1 a)], h.2)) hsub (ht w hw)
  match op, hs0 with
  | 0, hs =>
    simp only [mm_al] at hs
    split at hs
    next hh =>
      cases hs
      obtain ⟨hco, hk, h3, hnot, ha0, hall⟩ := hh
      exact one a st ho h3 (fun _ f hf => by
        have := List.all_eq_true.mp hall f hf
        simp only [Bool.and_eq_true, beq_iff_eq] at this
        exact this.2) (fun h9 => by omega)
    next => cases hs
  | 1, hs =>
    simp only [mm_al] at hs
    split at hs
    next x t =>
      split at hs
      next hh =>
        cases hs
        obtain ⟨-, hk, hb, hnot, hall⟩ := hh
        exact one a t (fun w hw => ho w (List.mem_cons_of_mem _ hw)) (fun e => by rw [e, mm_kd3] at hk; omega) (fun h9 => by omega) (fun h9 => by omega)
      next => cases hs
    next => cases hs
  | 2, hs =>
    simp only [mm_al] at hs
    split at hs
    next x t =>
      split at hs
      next hh =>
        cases hs
        obtain ⟨-, hk, hnot, hall⟩ := hh
        exact one a t (fun w hw => ho w (List.mem_cons_of_mem _ hw)) (fun e => by rw [e, mm_kd3] at hk; omega) (fun h9 => by omega) (fun _ j hj => eq_of_beq (List.all_eq_true.mp hall j (List.mem_range.mpr hj)))
      next => cases hs
    next => cases hs
  | 3, hs =>
    simp only [mm_al] at hs
    split at hs
    next x y t =>
      split at hs
      next hh =>
        cases hs
        obtain ⟨-, -, -, -, hnot, hnots, hall⟩ := hh
        have k14 : mm_kd 14 = 3 := by decide +kernel
        have k15 : mm_kd 15 = 1 := by decide +kernel
        have l14 : mm_ln 14 = 6 := by decide +kernel
        have hsub : ∀ z ∈ h.1, z ∈ h.1 ++ [(14, mm_nr h.1 14)] ++ (List.range 6).map (fun j => (15, mm_nr h.1 15 + j)) := fun z hz => List.mem_append_left _ (List.mem_append_left _ hz)
        have hcs : ∀ z, z ∈ h.1 ++ [(14, mm_nr h.1 14)] ++ (List.range 6).map (fun j => (15, mm_nr h.1 15 + j)) → z ∈ h.1 ∨ z = (14, mm_nr h.1 14) ∨ ∃ j, j < 6 ∧ z = (15, mm_nr h.1 15 + j) := by
          intro z hz
          rcases List.mem_append.mp hz with q | q
          · rcases List.mem_append.mp q with q | q
            · exact Or.inl q
            · exact Or.inr (Or.inl (List.mem_singleton.mp q))
          · obtain ⟨j, hj, e⟩ := List.mem_map.mp q
            exact Or.inr (Or.inr ⟨j, List.mem_range.mp hj, e.symm⟩)
        refine ⟨hsub, ⟨fun z hz e => ?_, fun z hz f hf h2 => ?_, fun z hz hk j hj => ?_⟩, fun w hw => ?_⟩
        · rcases hcs z hz with q | q | ⟨j, hj, q⟩
          · exact hH.1 z q e
          · rw [q] at e; cases e
          · rw [q] at e; cases e
        · rcases hcs z hz with q | q | ⟨j, hj, q⟩
          · obtain ⟨x9, hx9⟩ := List.getElem?_of_mem hf
            have hfx := mm_fsx (c := f.1) (ty := f.2) hx9
            dsimp only
            rw [if_neg (by omega)]
            rcases hH.2.1 z q f hf h2 with w | w
            · exact Or.inl w
            · exact Or.inr (hsub _ w)
          · rw [q, mm_fs_nil (by rw [k14]; decide)] at hf; cases hf
          · rw [q, mm_fs_nil (by rw [k15]; decide)] at hf; cases hf
        · dsimp only
          split
          next e =>
            right
            exact List.mem_append_right _ (List.mem_map.mpr ⟨j, List.mem_range.mpr e.2.2, rfl⟩)
          next e =>
            rcases hcs z hz with q | q | ⟨j9, hj9, q⟩
            · rcases hH.2.2 z q hk j hj with w | w
              · exact Or.inl w
              · exact Or.inr (hsub _ w)
            · exfalso
              rw [q] at hj e
              rw [l14] at hj
              exact e ⟨rfl, rfl, hj⟩
            · rw [q, k15] at hk; omega
        · rcases List.mem_cons.mp hw with rfl | hw
          · intro z e
            cases e
            exact List.mem_append_left _ (List.mem_append_right _ (List.mem_singleton.mpr rfl))
          · exact fun z e => hsub z (ho w (by simp [hw]) z e)
      next => cases hs
    next => cases hs
  | op + 4, hs => simp [mm_al] at hs
theorem mm_okL_mono {h h' : mm_H} (hi : ∀ z ∈ h.1, z ∈ h'.1) {la : List (Option mm_V)} (hl : mm_okL h la) : mm_okL h' la := fun v hv => mm_okV_mono hi (hl v hv)
theorem mm_okS_mono {h h' : mm_H} (hi : ∀ z ∈ h.1, z ∈ h'.1) {st : List mm_V} (hl : mm_okS h st) : mm_okS h' st := fun v hv => mm_okV_mono hi (hl v hv)
theorem mm_run_ok : ∀ (n m pc : Nat) (la : List (Option mm_V)) (st : List mm_V) (uc us : Nat) (h h' : mm_H) (v : Option mm_V), m < 178 → mm_run n (m, pc, la, st, uc, us) h = some (v, h') → mm_okH h → mm_okL h la → mm_okS h st → mm_okH h' ∧ (∀ z ∈ h.1, z ∈ h'.1) ∧ ∀ x, v = some x → mm_okV h' x := by
  intro n
  induction n with
  | zero => intro m pc la st uc us h h' v hm hr; simp [mm_run] at hr
  | succ n ih =>
    intro m pc la st uc us h h' v hm hr hH hl ho
    obtain ⟨op, a, b, c, l, i, k, hd, hcs⟩ := mm_run_cases hm hr
    rcases hcs with ⟨-, st', hs, hr⟩ | ⟨-, q, hs, hr⟩ | ⟨-, q, hs, hr⟩ | ⟨hc, q, hs, hr⟩ | ⟨-, q, hs, -, -, hr⟩ | ⟨hc, q, w, h1, hs, -, -, -, -, hr1, hr⟩ | ⟨-, hs, rfl⟩
    · exact ih m _ la st' uc us h h' v hm hr hH hl (mm_ps_ok hs ho)
    · exact ih m _ la q.2 uc us h h' v hm hr hH hl (mm_br_ok hs ho)
    · obtain ⟨o1, o2⟩ := mm_lo_ok hs hl ho
      exact ih m _ q.1 q.2 uc us h h' v hm hr hH o1 o2
    · obtain ⟨o1, o2, o3⟩ := mm_hp_ok hc hs hH ho
      obtain ⟨g1, g2, g3⟩ := ih m _ la q.1 uc us q.2 h' v hm hr o2 (mm_okL_mono (fun z hz => by rw [o1]; exact hz) hl) o3
      exact ⟨g1, fun z hz => g2 z (by rw [o1]; exact hz), g3⟩
    · obtain ⟨o1, o2, o3⟩ := mm_al_ok hs hH ho
      obtain ⟨g1, g2, g3⟩ := ih m _ la q.1 _ _ q.2.1 h' v hm hr o2 (mm_okL_mono o1 hl) o3
      exact ⟨g1, fun z hz => g2 z (o1 z hz), g3⟩
    · obtain ⟨o1, o2⟩ := mm_cl_ok hs ho
      have hy := (mm_cw_lt (mm_cl_cw hc hs)).2.2
      obtain ⟨g1, g2, g3⟩ := ih q.1 0 _ [] 0 0 h h1 w hy hr1 hH (mm_il_ok o1) (fun x hx => by cases hx)
      obtain ⟨f1, f2, f3⟩ := ih m _ la _ _ _ h1 h' v hm hr g1 (mm_okL_mono g2 hl) (fun x hx => by
        rcases List.mem_append.mp hx with z | z
        · exact g3 x (by cases w with
            | none => cases z
            | some y => rw [Option.toList, List.mem_singleton] at z; rw [z])
        · exact mm_okV_mono g2 (o2 x z))
      exact ⟨f1, fun z hz => f2 z (g2 z hz), f3⟩
    · exact ⟨hH, fun z hz => hz, mm_re_ok hs⟩
