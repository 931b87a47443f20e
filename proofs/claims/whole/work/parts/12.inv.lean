/-! the machine's invariants; calls, answers; every run of the machine is the bytecode's -/
def mm_okH (h : mm_H) : Prop := (∀ q ∈ h.1, q.1 = 3 → q.2 < 4) ∧ (∀ q ∈ h.1, ∀ f ∈ mm_fs q.1, f.2 = 2 → (h.2.2.2 f.1 q.2 0).1 = 0 ∨ h.2.2.2 f.1 q.2 0 ∈ h.1) ∧ (∀ q ∈ h.1, mm_kd q.1 = 3 → ∀ j, j < mm_ln q.1 → (h.2.2.2 (100 + q.1) q.2 j).1 = 0 ∨ h.2.2.2 (100 + q.1) q.2 j ∈ h.1)
def mm_okS (h : mm_H) (st : List mm_V) : Prop := ∀ v ∈ st, mm_okV h v
def mm_okL (h : mm_H) (la : List (Option mm_V)) : Prop := ∀ v, some v ∈ la → mm_okV h v
theorem mm_okI (h : mm_H) (x : Int32) : mm_okV h (.inl x) := fun q e => by cases e
theorem mm_okJ (h : mm_H) (x : Int64) : mm_okV h (.inr (.inl x)) := fun q e => by cases e
theorem mm_ps_ok {op b : Nat} {c : Int} {st st' : List mm_V} {h : mm_H} (hs0 : mm_ps op b c st = some st') (ho : mm_okS h st) : mm_okS h st' := by
  intro v hv
  match op, hs0 with
  | 0, hs =>
    simp only [mm_ps] at hs
    cases hs; rcases List.mem_cons.mp hv with rfl | hv; exact mm_okI _ _; exact ho v hv
  | 1, hs =>
    simp only [mm_ps] at hs
    cases hs; rcases List.mem_cons.mp hv with rfl | hv; exact mm_okJ _ _; exact ho v hv
  | 2, hs =>
    simp only [mm_ps] at hs
    split at hs
    next => cases hs; rcases List.mem_cons.mp hv with rfl | hv; exact mm_okI _ _; exact ho v (by simp [hv])
    next => cases hs
  | 3, hs =>
    simp only [mm_ps] at hs
    split at hs
    next =>
      split at hs
      next => cases hs
      next => cases hs; rcases List.mem_cons.mp hv with rfl | hv; exact mm_okJ _ _; exact ho v (by simp [hv])
    next => cases hs
  | 4, hs =>
    simp only [mm_ps] at hs
    split at hs
    next => cases hs; rcases List.mem_cons.mp hv with rfl | hv; exact mm_okJ _ _; exact ho v (by simp [hv])
    next => cases hs
  | 5, hs =>
    simp only [mm_ps] at hs
    split at hs
    next => cases hs; rcases List.mem_cons.mp hv with rfl | hv; exact mm_okJ _ _; exact ho v (by simp [hv])
    next => cases hs; rcases List.mem_cons.mp hv with rfl | hv; exact mm_okI _ _; exact ho v (by simp [hv])
    next => cases hs; rcases List.mem_cons.mp hv with rfl | hv; exact mm_okI _ _; exact ho v (by simp [hv])
    next => cases hs
  | 6, hs =>
    simp only [mm_ps] at hs
    split at hs
    next =>
      split at hs
      next => cases hs; exact ho v (by simpa using hv)
      next => cases hs
    next => cases hs
  | 7, hs =>
    simp only [mm_ps] at hs
    split at hs
    next =>
      split at hs
      next =>
        cases hs
        simp only [List.mem_cons] at hv
        exact ho v (by simp only [List.mem_cons]; rcases hv with q | q | q | q | q <;> simp [q])
      next => cases hs
    next => cases hs
  | op + 8, hs => simp [mm_ps] at hs
theorem mm_br_ok {op nx a b : Nat} {c : Int} {l : List Nat} {st : List mm_V} {q : Nat × List mm_V} {h : mm_H} (hs0 : mm_br op nx a b c l st = some q) (ho : mm_okS h st) : mm_okS h q.2 := by
  intro v hv
  match op, hs0 with
  | 0, hs =>
    simp only [mm_br] at hs
    split at hs
    next => cases hs; exact ho v (List.mem_cons_of_mem _ hv)
    next => cases hs
  | 1, hs =>
    simp only [mm_br] at hs
    split at hs
    next => cases hs; exact ho v (List.mem_cons_of_mem _ (List.mem_cons_of_mem _ hv))
    next => cases hs
  | 2, hs =>
    simp only [mm_br] at hs
    cases hs; exact ho v hv
  | 3, hs =>
    simp only [mm_br] at hs
    split at hs
    next => cases hs; exact ho v (List.mem_cons_of_mem _ hv)
    next => cases hs
  | 4, hs =>
    simp only [mm_br] at hs
    split at hs
    next => cases hs; exact ho v (List.mem_cons_of_mem _ hv)
    next => cases hs
  | op + 5, hs => simp [mm_br] at hs
theorem mm_mem_set {α : Type} {l : List α} {i : Nat} {x y : α} (h : x ∈ l.set i y) : x ∈ l ∨ x = y := List.mem_or_eq_of_mem_set h
theorem mm_lo_ok {op a b : Nat} {c : Int} {la : List (Option mm_V)} {st : List mm_V} {q : List (Option mm_V) × List mm_V} {h : mm_H} (hs0 : mm_lo op a b c la st = some q) (hl : mm_okL h la) (ho : mm_okS h st) : mm_okL h q.1 ∧ mm_okS h q.2 := by
  match op, hs0 with
  | 0, hs =>
    simp only [mm_lo] at hs
    split at hs
    next v hv =>
      split at hs
      next =>
        cases hs
        refine ⟨hl, fun w hw => ?_⟩
        rcases List.mem_cons.mp hw with rfl | hw
        · exact hl w (List.mem_of_getElem? hv)
        · exact ho w hw
      next => cases hs
    next => cases hs
  | 1, hs =>
    simp only [mm_lo] at hs
    split at hs
    next v r =>
      have hv := ho v List.mem_cons_self
      have hr : mm_okS h r := fun w hw => ho w (List.mem_cons_of_mem _ hw)
      split at hs
      next =>
        split at hs
        next =>
          split at hs
          next =>
            cases hs
            refine ⟨fun w hw => ?_, hr⟩
            rcases mm_mem_set hw with z | z
            · rcases mm_mem_set z with z | z
              · exact hl w z
              · cases z; exact hv
            · cases z
          next => cases hs
        next =>
          split at hs
          next =>
            cases hs
            refine ⟨fun w hw => ?_, hr⟩
            rcases mm_mem_set hw with z | z
            · exact hl w z
            · cases z; exact hv
          next => cases hs
      next => cases hs
    next => cases hs
  | 2, hs =>
    simp only [mm_lo] at hs
    split at hs
    next x hv =>
      split at hs
      next =>
        cases hs
        refine ⟨fun w hw => ?_, ho⟩
        rcases mm_mem_set hw with z | z
        · exact hl w z
        · cases z; exact mm_okI _ _
      next => cases hs
    next => cases hs
  | op + 3, hs => simp [mm_lo] at hs
theorem mm_okH_same {h h' : mm_H} (h1 : h'.1 = h.1) (h2 : h'.2.2.2 = h.2.2.2) (ho : mm_okH h) : mm_okH h' := by
  unfold mm_okH
  rw [h1, h2]
  exact ho
theorem mm_okS_same {h h' : mm_H} (h1 : h'.1 = h.1) {st : List mm_V} (ho : mm_okS h st) : mm_okS h' st := fun v hv q e => by rw [h1]; exact ho v hv q e
theorem mm_okH_uR {h : mm_H} {c i j : Nat} {q : Nat × Nat} (hq : q ∈ h.1) (ho : mm_okH h) : mm_okH (h.1, h.2.1, h.2.2.1, mm_uR h.2.2.2 c i j q) := by
  refine ⟨ho.1, fun z hz f hf h2 => ?_, fun z hz hk x hx => ?_⟩
  · show (mm_uR h.2.2.2 c i j q f.1 z.2 0).1 = 0 ∨ mm_uR h.2.2.2 c i j q f.1 z.2 0 ∈ h.1
    unfold mm_uR
    split
    next => exact Or.inr hq
    next => exact ho.2.1 z hz f hf h2
  · show (mm_uR h.2.2.2 c i j q (100 + z.1) z.2 x).1 = 0 ∨ mm_uR h.2.2.2 c i j q (100 + z.1) z.2 x ∈ h.1
    unfold mm_uR
    split
    next => exact Or.inr hq
    next => exact ho.2.2 z hz hk x hx
theorem mm_hp_ok {m op a b : Nat} {i : Instr} {n : Nat} {st : List mm_V} {h : mm_H} {q : List mm_V × mm_H} (hc0 : mm_c3 m op a b i n = true) (hs0 : mm_hp op a b st h = some q) (hH : mm_okH h) (ho : mm_okS h st) : q.2.1 = h.1 ∧ mm_okH q.2 ∧ mm_okS q.2 q.1 := by
  match op, hc0, hs0 with
  | 0, hc, hs =>
    simp only [mm_c3] at hc
    simp only [mm_hp] at hs
    split at hs
    next r i' t =>
      have ht : mm_okS h t := fun w hw => ho w (List.mem_cons_of_mem _ hw)
      split at hs
      next hr =>
        split at hs
        next => cases hs; exact ⟨rfl, hH, fun w hw => by rcases List.mem_cons.mp hw with rfl | hw; exact mm_okI _ _; exact ht w hw⟩
        next => cases hs; exact ⟨rfl, hH, fun w hw => by rcases List.mem_cons.mp hw with rfl | hw; exact mm_okJ _ _; exact ht w hw⟩
        next =>
          split at hs
          next => cases hs
          next hne =>
            cases hs
            refine ⟨rfl, hH, fun w hw => ?_⟩
            rcases List.mem_cons.mp hw with rfl | hw
            · intro z hz
              cases hz
              split at hc
              next k =>
                simp only [Bool.and_eq_true, beq_iff_eq, decide_eq_true_eq] at hc
                have hx := mm_cx hc.2
                subst hr
                rcases hH.2.1 _ (ho _ List.mem_cons_self _ rfl) _ (List.mem_of_getElem? hx.1) hc.1.2.symm with z | z
                · exact absurd z hne
                · exact z
              next => cases hc
            · exact ht w hw
        next => cases hs; exact ⟨rfl, hH, fun w hw => by rcases List.mem_cons.mp hw with rfl | hw; exact mm_okI _ _; exact ht w hw⟩
        next => cases hs
      next => cases hs
    next => cases hs
  | 1, hc, hs =>
    simp only [mm_c3] at hc
    simp only [mm_hp] at hs
    split at hs
    next x r i' t =>
      split at hs
      next => cases hs; exact ⟨rfl, mm_okH_same rfl rfl hH, fun w hw => ho w (by simp [hw])⟩
      next => cases hs
    next x r i' t =>
      split at hs
      next => cases hs; exact ⟨rfl, mm_okH_same rfl rfl hH, fun w hw => ho w (by simp [hw])⟩
      next => cases hs
    next qv r i' t =>
      split at hs
      next => cases hs; exact ⟨rfl, mm_okH_uR (ho _ List.mem_cons_self _ rfl) hH, fun w hw => ho w (by simp [hw])⟩
      next => cases hs
    next x r i' t =>
      split at hs
      next => cases hs; exact ⟨rfl, mm_okH_same rfl rfl hH, fun w hw => ho w (by simp [hw])⟩
      next => cases hs
    next => cases hs
  | 2, hc, hs =>
    simp only [mm_c3] at hc
    simp only [mm_hp] at hs
    split at hs
    next x r i' t =>
      have ht : mm_okS h t := fun w hw => ho w (by simp [hw])
      split at hs
      next hr =>
        split at hs
        next => cases hs; exact ⟨rfl, hH, fun w hw => by rcases List.mem_cons.mp hw with rfl | hw; exact mm_okI _ _; exact ht w hw⟩
        next => cases hs; exact ⟨rfl, hH, fun w hw => by rcases List.mem_cons.mp hw with rfl | hw; exact mm_okI _ _; exact ht w hw⟩
        next =>
          split at hs
          next => cases hs
          next hne =>
            cases hs
            refine ⟨rfl, hH, fun w hw => ?_⟩
            rcases List.mem_cons.mp hw with rfl | hw
            · intro z hz
              cases hz
              rcases hH.2.2 (r, i') (ho _ (List.mem_cons_of_mem _ List.mem_cons_self) _ rfl) hr.1 _ (of_decide_eq_true hr.2).2 with z | z
              · exact absurd z hne
              · exact z
            · exact ht w hw
        next => cases hs
      next => cases hs
    next => cases hs
  | 3, hc, hs =>
    simp only [mm_c3] at hc
    simp only [mm_hp] at hs
    split at hs
    next =>
      split at hs
      next => cases hs; exact ⟨rfl, mm_okH_same rfl rfl hH, fun w hw => ho w (by simp [hw])⟩
      next => cases hs
    next =>
      split at hs
      next => cases hs; exact ⟨rfl, mm_okH_same rfl rfl hH, fun w hw => ho w (by simp [hw])⟩
      next => cases hs
    next qv x r i' t =>
      split at hs
      next => cases hs; exact ⟨rfl, mm_okH_uR (ho _ List.mem_cons_self _ rfl) hH, fun w hw => ho w (by simp [hw])⟩
      next => cases hs
    next => cases hs
  | 4, hc, hs =>
    simp only [mm_c3] at hc
    simp only [mm_hp] at hs
    split at hs
    next =>
      split at hs
      next => cases hs; exact ⟨rfl, hH, fun w hw => by rcases List.mem_cons.mp hw with rfl | hw; exact mm_okI _ _; exact ho w (by simp [hw])⟩
      next => cases hs
    next => cases hs
  | 5, hc, hs =>
    simp only [mm_c3] at hc
    simp only [mm_hp] at hs
    split at hs
    next =>
      split at hs
      next => cases hs; exact ⟨rfl, mm_okH_same rfl rfl hH, fun w hw => by cases hw⟩
      next => cases hs
    next => cases hs
  | 6, hc, hs =>
    simp only [mm_c3] at hc
    simp only [mm_hp] at hs
    split at hs
    next =>
      split at hs
      next => cases hs; exact ⟨rfl, hH, fun w hw => by rcases List.mem_cons.mp hw with rfl | hw; exact mm_okI _ _; exact ho w (by simp [hw])⟩
      next => cases hs
    next => cases hs
  | 7, hc, hs =>
    simp only [mm_c3] at hc
    simp only [mm_hp] at hs
    split at hs
    next => cases hs; exact ⟨rfl, hH, fun w hw => by cases hw⟩
    next => cases hs
  | 8, hc, hs =>
    simp only [mm_c3] at hc
    simp only [mm_hp] at hs
    split at hs
    next =>
      split at hs
      next => cases hs; exact ⟨rfl, hH, fun w hw => by rcases List.mem_cons.mp hw with rfl | hw; exact mm_okI _ _; exact ho w (by simp [hw])⟩
      next => cases hs
    next => cases hs
  | op + 9, hc, hs => simp [mm_hp] at hs
/-- the tables of an entry -/
theorem mm_fetch_ck {m pc : Nat} {e : mm_E} (hm : m < 178) (hf : mm_fetch m pc = some e) : ∃ (i : Instr) (n : Nat), decode (mm_bc m) pc = .ok (i, n) ∧ e.2.2.1 = pc + n ∧ mm_ci m pc e i n = true := by
  have h1 := List.all_eq_true.mp (mm_kall m hm) _ (mm_lookup_mem hf)
  simp only [mm_ck] at h1
  split at h1
  next i n hd =>
    simp only [Bool.and_eq_true, decide_eq_true_eq] at h1
    exact ⟨i, n, hd, h1.1, h1.2⟩
  next => cases h1
theorem mm_cl_ok {op a b : Nat} {st : List mm_V} {h : mm_H} {q : Nat × List mm_V × List mm_V} (hs0 : mm_cl op a b st = some q) (ho : mm_okS h st) : mm_okS h q.2.1 ∧ mm_okS h q.2.2 := by
  have h1 : mm_okS h (st.take b).reverse := fun v hv => ho v (List.mem_of_mem_take (List.mem_reverse.mp hv))
  have h2 : mm_okS h (st.drop b) := fun v hv => ho v (List.mem_of_mem_drop hv)
  match op, hs0 with
  | 0, hs =>
    simp only [mm_cl] at hs
    split at hs
    next => cases hs; exact ⟨h1, h2⟩
    next => cases hs
  | 1, hs =>
    simp only [mm_cl] at hs
    split at hs
    next r i t e =>
      rw [e] at h2
      split at hs
      next => cases hs; exact ⟨fun v hv => by rcases List.mem_cons.mp hv with rfl | hv; exact h2 _ List.mem_cons_self; exact h1 v hv, fun v hv => h2 v (List.mem_cons_of_mem _ hv)⟩
      next => cases hs
    next => cases hs
  | 2, hs =>
    simp only [mm_cl] at hs
    split at hs
    next r i t e =>
      rw [e] at h2
      split at hs
      next => cases hs; exact ⟨fun v hv => by rcases List.mem_cons.mp hv with rfl | hv; exact h2 _ List.mem_cons_self; exact h1 v hv, fun v hv => h2 v (List.mem_cons_of_mem _ hv)⟩
      next => cases hs
    next => cases hs
  | 3, hs =>
    simp only [mm_cl] at hs
    split at hs
    next r i t e =>
      rw [e] at h2
      split at hs
      next => cases hs; exact ⟨fun v hv => by rcases List.mem_cons.mp hv with rfl | hv; exact h2 _ List.mem_cons_self; exact h1 v hv, fun v hv => h2 v (List.mem_cons_of_mem _ hv)⟩
      next => cases hs
    next => cases hs
  | op + 4, hs => simp [mm_cl] at hs
theorem mm_il_ok {n : Nat} {as : List mm_V} {h : mm_H} (ho : mm_okS h as) : mm_okL h (mm_il n as) := by
  intro v hv
  unfold mm_il at hv
  rcases List.mem_append.mp hv with hv | hv
  · obtain ⟨w, hw, hv⟩ := List.mem_flatMap.mp hv
    split at hv
    next => rcases List.mem_cons.mp hv with e | e; cases e; exact ho v hw; rcases List.mem_cons.mp e with e | e; cases e; cases e
    next => rcases List.mem_cons.mp hv with e | e; cases e; exact ho v hw; cases e
  · have := List.eq_of_mem_replicate hv
    cases this
theorem mm_re_ok {m op : Nat} {st : List mm_V} {h : mm_H} {v : Option mm_V} (hs0 : mm_re m op st = some v) : ∀ x, v = some x → mm_okV h x := by
  intro x hx
  subst hx
  match op, hs0 with
  | 0, hs =>
    simp only [mm_re] at hs
    split at hs
    next =>
      split at hs
      next => cases hs; exact mm_okI _ _
      next => cases hs
    next => cases hs
  | 1, hs =>
    simp only [mm_re] at hs
    split at hs
    next =>
      split at hs
      next => cases hs; exact mm_okJ _ _
      next => cases hs
    next => cases hs
  | 2, hs =>
    simp only [mm_re] at hs
    split at hs
    next =>
      split at hs
      next => cases hs
      next => cases hs
    next => cases hs
  | op + 3, hs => simp [mm_re] at hs
