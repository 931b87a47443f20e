/-! the world of a picture; the steps that read and write cells -/
def mm_lyi : List (List Nat) := [[297, 299, 301, 303, 305, 307, 309], [79, 81], [], [], [], [], [226, 228, 230, 232, 234, 236, 238], [146, 148, 150, 152, 154, 156], [185, 187, 189, 191, 193, 195, 197, 199], [254, 256, 258, 260, 262], [277, 279, 281, 283, 285, 287], [810, 812, 814, 816, 818, 820, 822, 824, 826, 828, 830, 832, 834, 836, 838, 840, 842, 844, 846, 848, 850, 852, 854, 856, 858, 860, 862, 864, 866, 868, 870, 872, 874, 876, 878, 880, 882, 884, 886, 888, 890, 892, 894, 896, 898]]
set_option maxRecDepth 100000 in
theorem mm_ly_ok : (List.range 12).all (fun c => (List.range (mm_N c)).all (fun k => mm_wd ((mm_lyi.getD c []).getD k 0) (u_lay (mm_cN c) (mm_T c) k) && goodWord (u_lay (mm_cN c) (mm_T c) k))) = true := by decide +kernel
theorem mm_lays {c : Nat} (hc : c < 12) : ∀ w ∈ u_ws (mm_cN c) (mm_T c) (mm_N c), w ∈ mm_tb := by
  intro w hw
  obtain ⟨k, hk, rfl⟩ := List.mem_map.mp hw
  have h := List.all_eq_true.mp (List.all_eq_true.mp mm_ly_ok c (List.mem_range.mpr hc)) k hk
  simp only [Bool.and_eq_true] at h
  exact mm_tb_of h.1 h.2
theorem mm_cls_at {c : Nat} (hc : c < 12) : mm_cls[c]? = some (mm_cN c, mm_T c, mm_N c) := by
  unfold mm_cls
  rw [List.getElem?_map, List.getElem?_range hc]
  rfl
theorem mm_fds {c : Nat} (hc : c < 12) : ∀ k, k < mm_N c → parseFieldDescriptor (mm_T c k).2.2.1 = some (mm_dt (mm_T c k).2.2.1) := by
  intro k hk
  have h := List.all_eq_true.mp (List.all_eq_true.mp mm_fd_ok c (List.mem_range.mpr hc)) k (List.mem_range.mpr hk)
  simp only [Bool.and_eq_true] at h
  exact of_decide_eq_true h.1
theorem mm_nms {c : Nat} (hc : c < 12) : ∀ a, a < mm_N c → ∀ b, b < mm_N c → a ≠ b → (mm_T c a).2.1 ≠ (mm_T c b).2.1 := by
  intro k hk j hj hne
  have h := List.all_eq_true.mp (List.all_eq_true.mp mm_fd_ok c (List.mem_range.mpr hc)) k (List.mem_range.mpr hk)
  simp only [Bool.and_eq_true] at h
  have h2 := List.all_eq_true.mp h.2 j (List.mem_range.mpr hj)
  simp only [Bool.or_eq_true, decide_eq_true_eq] at h2
  rcases h2 with h2 | h2
  · exact absurd h2 hne
  · exact h2
theorem mm_lookup_mem {α β : Type} [BEq α] [LawfulBEq α] : ∀ {l : List (α × β)} {k : α} {v : β}, l.lookup k = some v → (k, v) ∈ l
  | [], _, _, h => by cases h
  | (a, b) :: l, k, v, h => by
    unfold List.lookup at h
    split at h
    next e =>
      cases h
      rw [eq_of_beq e]
      exact List.mem_cons_self
    next => exact List.mem_cons_of_mem _ (mm_lookup_mem h)
theorem mm_zip_mem {α β : Type} {l : List α} {r : List β} {x : α} (hl : l.length = r.length) (h : x ∈ l) : ∃ y, (x, y) ∈ l.zip r := by
  obtain ⟨j, hj⟩ := List.getElem?_of_mem h
  have hlt := (List.getElem?_eq_some_iff.mp hj).1
  refine ⟨r[j]'(hl ▸ hlt), List.mem_of_getElem? (i := j) ?_⟩
  rw [List.getElem?_zip_eq_some]
  exact ⟨hj, List.getElem?_eq_getElem _⟩
set_option maxRecDepth 100000 in
theorem mm_cf_w {o k a : Nat} (h : mm_cf.lookup (o, k) = some a) : mm_fw ((o, k), a) ∈ mm_tb := by
  obtain ⟨y, hy⟩ := mm_zip_mem (r := mm_cfi) (by decide +kernel) (mm_lookup_mem h)
  exact mm_tb_of (List.all_eq_true.mp mm_cf_ok _ hy) rfl
set_option maxRecDepth 100000 in
theorem mm_cm_w {o k : Nat} {a : Nat × Nat} (h : mm_cm.lookup (o, k) = some a) : ∀ w ∈ mm_mw ((o, k), a), w ∈ lw_tbl := by
  obtain ⟨y, hy⟩ := mm_zip_mem (r := mm_cmi) (by decide +kernel) (mm_lookup_mem h)
  have hz : mm_mz (((o, k), a), y) = true := by
    rw [← List.take_append_drop 60 (mm_cm.zip mm_cmi)] at hy
    rcases List.mem_append.mp hy with q | q
    · exact List.all_eq_true.mp mm_cm_ok1 _ q
    · exact List.all_eq_true.mp mm_cm_ok2 _ q
  unfold mm_mz at hz
  simp only [Bool.and_eq_true, beq_iff_eq] at hz
  intro w hw
  obtain ⟨z, hz2⟩ := mm_zip_mem hz.1 hw
  exact List.mem_of_getElem? (of_decide_eq_true (List.all_eq_true.mp hz.2 _ hz2))
set_option maxRecDepth 100000 in
theorem mm_s1 : (List.range 47).all (fun r => (mm_fs r).zipIdx.all (fun q => decide (mm_cr q.1.1 = r) && decide (mm_cs q.1.1 = q.2) && decide (mm_cy q.1.1 = q.1.2) && decide (q.1.1 < 86))) = true := by decide +kernel
theorem mm_rk_len : mm_rk.length = 47 := by decide +kernel
theorem mm_fs_ge {r : Nat} (h : 47 ≤ r) : mm_fs r = [] := by
  unfold mm_fs
  rw [List.getD_eq_getElem?_getD, List.getElem?_eq_none (by rw [mm_rk_len]; omega)]
  rfl
theorem mm_fsx {r j c ty : Nat} (h : (mm_fs r)[j]? = some (c, ty)) : mm_cr c = r ∧ mm_cs c = j ∧ mm_cy c = ty ∧ c < 86 := by
  by_cases hr : r < 47
  · have h1 := List.all_eq_true.mp (List.all_eq_true.mp mm_s1 r (List.mem_range.mpr hr)) ((c, ty), j) (by
      rw [List.mem_zipIdx_iff_getElem?]
      simpa using h)
    simp only [Bool.and_eq_true, decide_eq_true_eq] at h1
    exact ⟨h1.1.1.1, h1.1.1.2, h1.1.2, h1.2⟩
  · rw [mm_fs_ge (by omega)] at h
    simp at h
def mm_isr (t : FieldType) : Bool := match t with
  | .object _ => true
  | .array _ => true
  | _ => false
def mm_tyo (y : Nat) (t : FieldType) : Bool := match y with
  | 0 => decide (t = .int)
  | 1 => decide (t = .long)
  | 2 => mm_isr t
  | 3 => decide (t = .boolean)
  | _ => false
set_option maxRecDepth 100000 in
theorem mm_s2 : (List.range 86).all (fun c => decide ((mm_fs (mm_cr c))[mm_cs c]? = some (c, mm_cy c)) && decide (mm_kd (mm_cr c) = 0) && decide (mm_cr c ≠ 3) && decide (mm_cr c ≠ 0) && decide (mm_ax (mm_cr c) < 12) && decide (mm_N (mm_ax (mm_cr c)) = (mm_fs (mm_cr c)).length) && mm_tyo (mm_cy c) (mm_dt (mm_T (mm_ax (mm_cr c)) (mm_cs c)).2.2.1) && decide ((mm_T (mm_ax (mm_cr c)) (mm_cs c)).1 = mm_cN (mm_ax (mm_cr c)))) = true := by decide +kernel
theorem mm_cx {c : Nat} (hc : c < 86) : (mm_fs (mm_cr c))[mm_cs c]? = some (c, mm_cy c) ∧ mm_kd (mm_cr c) = 0 ∧ mm_cr c ≠ 3 ∧ mm_cr c ≠ 0 ∧ mm_ax (mm_cr c) < 12 ∧ mm_N (mm_ax (mm_cr c)) = (mm_fs (mm_cr c)).length ∧ mm_tyo (mm_cy c) (mm_dt (mm_T (mm_ax (mm_cr c)) (mm_cs c)).2.2.1) = true ∧ (mm_T (mm_ax (mm_cr c)) (mm_cs c)).1 = mm_cN (mm_ax (mm_cr c)) := by
  have h := List.all_eq_true.mp mm_s2 c (List.mem_range.mpr hc)
  simp only [Bool.and_eq_true, decide_eq_true_eq] at h
  exact ⟨h.1.1.1.1.1.1.1, h.1.1.1.1.1.1.2, h.1.1.1.1.1.2, h.1.1.1.1.2, h.1.1.1.2, h.1.1.2, h.1.2, h.2⟩
/-! the world -/
def mm_or (φ : Nat → Nat → Nat) (q : Nat × Nat) : Option Nat := if q.1 = 0 then none else some (φ q.1 q.2)
def mm_fv (φ : Nat → Nat → Nat) (h : mm_H) (i : Nat) (q : Nat × Nat) : Value := match q.2 with
  | 0 => .int (h.2.1 q.1 i 0)
  | 1 => .long (h.2.2.1 q.1 i)
  | 2 => va_rf (mm_or φ (h.2.2.2 q.1 i 0))
  | _ => .int (h.2.1 q.1 i 0)
def mm_ce (aC : Nat → ClassId) (φ : Nat → Nat → Nat) (h : mm_H) (q : Nat × Nat) : va_E :=
  if mm_kd q.1 = 0 then .inr (mm_co q.1 q.2, (mm_fs q.1).map (mm_fv φ h q.2))
  else if mm_kd q.1 = 3 then .inl (aC (mm_ax q.1), mm_ln q.1, .inr (.inr (.inr (.inr (fun j => if j < mm_ln q.1 then mm_or φ (h.2.2.2 (100 + q.1) q.2 j) else none)))))
  else .inl (aC (mm_ax q.1), mm_ln q.1, .inl (fun j => h.2.1 (100 + q.1) q.2 j))
def mm_ws (aC : Nat → ClassId) (φ : Nat → Nat → Nat) (h : mm_H) : va_W := h.1.map (fun q => (φ q.1 q.2, mm_ce aC φ h q))
theorem mm_ws_at {aC : Nat → ClassId} {φ : Nat → Nat → Nat} {h : mm_H} {k : Nat} {q : Nat × Nat} (hk : h.1[k]? = some q) : (mm_ws aC φ h)[k]? = some (φ q.1 q.2, mm_ce aC φ h q) := by
  unfold mm_ws
  rw [List.getElem?_map, hk]
  rfl
theorem mm_ws_set {aC : Nat → ClassId} {φ : Nat → Nat → Nat} {h h' : mm_H} {A : Nat → Prop} {k : Nat} {q : Nat × Nat} (hk : h.1[k]? = some q) (hD : va_D A (mm_ws aC φ h)) (hi : h'.1 = h.1) (hn : ∀ q', q' ≠ q → mm_ce aC φ h' q' = mm_ce aC φ h q') :
    (mm_ws aC φ h).set k (φ q.1 q.2, mm_ce aC φ h' q) = mm_ws aC φ h' := by
  apply List.ext_getElem?
  intro j
  have hlt : k < (mm_ws aC φ h).length := (List.getElem?_eq_some_iff.mp (mm_ws_at (aC := aC) (φ := φ) hk)).1
  by_cases e : j = k
  · subst e
    rw [List.getElem?_set_self hlt]
    exact (mm_ws_at (by rw [hi]; exact hk)).symm
  · rw [List.getElem?_set_ne (Ne.symm e)]
    cases hj : h.1[j]? with
    | none =>
      unfold mm_ws
      rw [List.getElem?_map, List.getElem?_map, hi, hj]
      rfl
    | some q' =>
      rw [mm_ws_at hj, mm_ws_at (h := h') (by rw [hi]; exact hj), hn q' (fun z => e ?_)]
      subst z
      exact hD.1 j k _ _ (mm_ws_at hj) (mm_ws_at hk) rfl
def mm_okV (h : mm_H) (v : mm_V) : Prop := ∀ q, v = .inr (.inr q) → q ∈ h.1
theorem mm_or_ne {φ : Nat → Nat → Nat} {q : Nat × Nat} (h : ¬ q.1 = 0) : va_rf (mm_or φ q) = .ref (φ q.1 q.2) := by
  unfold mm_or
  rw [if_neg h]
  rfl
/-- a field written: the cell's list, and no other cell -/
theorem mm_ce_put {aC : Nat → ClassId} {φ : Nat → Nat → Nat} {h h' : mm_H} {c i : Nat} {v : Value} (hc : c < 86)
    (hI : ∀ c' i', (c' ≠ c ∨ i' ≠ i) → h'.2.1 c' i' = h.2.1 c' i') (hL : ∀ c' i', (c' ≠ c ∨ i' ≠ i) → h'.2.2.1 c' i' = h.2.2.1 c' i') (hR : ∀ c' i', (c' ≠ c ∨ i' ≠ i) → h'.2.2.2 c' i' = h.2.2.2 c' i') (hv : mm_fv φ h' i (c, mm_cy c) = v) :
    mm_ce aC φ h' (mm_cr c, i) = .inr (mm_co (mm_cr c) i, ((mm_fs (mm_cr c)).map (mm_fv φ h i)).set (mm_cs c) v) ∧ ∀ q', q' ≠ (mm_cr c, i) → mm_ce aC φ h' q' = mm_ce aC φ h q' := by
  obtain ⟨h1, h2, h3, h4, h5, h6, h7, -⟩ := mm_cx hc
  have key : ∀ (r j : Nat) (f : Nat × Nat), (f.1 ≠ c ∨ j ≠ i) → mm_fv φ h' j f = mm_fv φ h j f := by
    intro r j f hne
    unfold mm_fv
    rw [hI f.1 j hne, hL f.1 j hne, hR f.1 j hne]
  refine ⟨?_, fun q' hq => ?_⟩
  · unfold mm_ce
    rw [if_pos h2]
    refine congrArg _ (congrArg _ (List.ext_getElem? fun j => ?_))
    by_cases e : j = mm_cs c
    · subst e
      rw [List.getElem?_set_self (by rw [List.length_map]; exact (List.getElem?_eq_some_iff.mp h1).1), List.getElem?_map, h1]
      exact congrArg some hv
    · rw [List.getElem?_set_ne (Ne.symm e), List.getElem?_map, List.getElem?_map]
      cases hj : (mm_fs (mm_cr c))[j]? with
      | none => rfl
      | some f =>
        obtain ⟨f1, f2⟩ := f
        refine congrArg some (key (mm_cr c) i _ (Or.inl (fun z => e ?_)))
        have := mm_fsx hj
        simp only at z
        rw [z] at this
        exact this.2.1.symm
  · unfold mm_ce
    split
    next hk =>
      refine congrArg _ (congrArg _ (List.map_congr_left fun f hf => ?_))
      obtain ⟨j, hj⟩ := List.getElem?_of_mem hf
      have hx := mm_fsx hj
      refine key q'.1 q'.2 f ?_
      by_cases e : f.1 = c
      · right
        intro z
        apply hq
        rw [← e, hx.1, ← z]
      · exact Or.inl e
    next hk =>
      have hr : 100 + q'.1 ≠ c := by omega
      rw [hR (100 + q'.1) q'.2 (Or.inl hr), hI (100 + q'.1) q'.2 (Or.inl hr)]
/-- an array's place written -/
theorem mm_ce_arr {aC : Nat → ClassId} {φ : Nat → Nat → Nat} {h h' : mm_H} {r i : Nat} 
    (hI : ∀ c' i', (c' ≠ 100 + r ∨ i' ≠ i) → h'.2.1 c' i' = h.2.1 c' i') (hL : h'.2.2.1 = h.2.2.1) (hR : ∀ c' i', (c' ≠ 100 + r ∨ i' ≠ i) → h'.2.2.2 c' i' = h.2.2.2 c' i') : ∀ q', q' ≠ (r, i) → mm_ce aC φ h' q' = mm_ce aC φ h q' := by
  intro q' hq
  unfold mm_ce
  split
  next hk =>
    refine congrArg _ (congrArg _ (List.map_congr_left fun f hf => ?_))
    obtain ⟨j, hj⟩ := List.getElem?_of_mem hf
    have hx := mm_fsx (c := f.1) (ty := f.2) hj
    have hne : f.1 ≠ 100 + r := by omega
    unfold mm_fv
    rw [hI f.1 q'.2 (Or.inl hne), hL, hR f.1 q'.2 (Or.inl hne)]
  next hk =>
    have hne : 100 + q'.1 ≠ 100 + r ∨ q'.2 ≠ i := by
      by_cases e : q'.1 = r
      · exact Or.inr (fun z => hq (by rw [← e, ← z]))
      · exact Or.inl (by omega)
    rw [hR _ _ hne, hI _ _ hne]
