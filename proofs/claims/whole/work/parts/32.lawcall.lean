/-! the law's calls, with the two worlds side by side -/
theorem mm_ws_re {aC : Nat → ClassId} {φ φ' : Nat → Nat → Nat} {h : mm_H} (hφ : ∀ z ∈ h.1, φ' z.1 z.2 = φ z.1 z.2) (ho : mm_okH h) : mm_ws aC φ' h = mm_ws aC φ h := by
  unfold mm_ws
  refine List.map_congr_left fun z hz => ?_
  rw [hφ z hz, mm_ce_re (h' := h) hz rfl rfl (fun _ _ _ _ => rfl) (Or.inr rfl) hφ (ho.2.1 z hz) (ho.2.2 z hz)]
theorem mm_ws_ids {aC : Nat → ClassId} {φ : Nat → Nat → Nat} {h1 h2 : mm_H} {k : Nat} {q : Nat × va_E} (ha : h2.1 = h1.1) (hk : (mm_ws aC φ h2)[k]? = some q) : ∃ z, h1.1[k]? = some z ∧ z ∈ h1.1 ∧ q = (φ z.1 z.2, mm_ce aC φ h2 z) := by
  unfold mm_ws at hk
  rw [List.getElem?_map, ha] at hk
  cases hz : h1.1[k]? with
  | none => rw [hz] at hk; cases hk
  | some z =>
    rw [hz] at hk
    cases hk
    exact ⟨z, rfl, List.mem_of_getElem? hz, rfl⟩
theorem mm_D_ids {aC : Nat → ClassId} {φ : Nat → Nat → Nat} {h1 h2 : mm_H} {A : Nat → Prop} (ha : h2.1 = h1.1) (hD : va_D A (mm_ws aC φ h1)) : va_D A (mm_ws aC φ h2) := by
  refine ⟨fun i j x y hi hj hxy => ?_, fun k q hk => ?_⟩
  · obtain ⟨z, hz, -, rfl⟩ := mm_ws_ids ha hi
    obtain ⟨w, hw, -, rfl⟩ := mm_ws_ids ha hj
    exact hD.1 i j _ _ (mm_ws_at hz) (mm_ws_at hw) hxy
  · obtain ⟨z, hz, -, rfl⟩ := mm_ws_ids ha hk
    exact hD.2 k (φ z.1 z.2, mm_ce aC φ h1 z) (mm_ws_at hz)
section LWC
variable {p : Program} {l : Launch} {e : Env} {s : State} {mi : MethodId} {args : Array Value} {below : List Frame} {meth : Method} {c : Code} {H : Heap} {locs : List Loc} {cells slots : Nat} {Q : State → Prop}
theorem mm_callF {R : Room} {pc mc ms : Nat} {ls : Array Slot} {rest st0 : List Value} {a : Array Value} {A0 : Nat → Prop} {H0 : Heap} {D : va_G} {aC : Nat → ClassId} {φ : Nat → Nat → Nat} {h h' : mm_H} {v : Option mm_V} (hr : va_Run p l e R s mi args below meth c H locs cells slots mc ms (F0 mi pc ls st0) rest (mm_Qc D aC φ h H.size v h' a) (va_A (mm_ws aC φ h) H.size)) (hS : va_S A0 H0 H locs) (hA : ∀ q, va_A (mm_ws aC φ h) H.size q → A0 q)
    (kk : ∀ (φ' : Nat → Nat → Nat) (H1 : Heap) (locs1 : List Loc), (∀ z ∈ h.1, φ' z.1 z.2 = φ z.1 z.2) → va_P D mm_cls (mm_ws aC φ' h') H1 → va_D (va_A (mm_ws aC φ h) H.size) (mm_ws aC φ' h') → (∀ q : Nat, q < H.size → ¬ va_A (mm_ws aC φ h) H.size q → H1[q]? = H[q]?) → va_S A0 H0 H1 locs1 → W p l e R s mi args below meth c H1 locs1 (cells + mc) (slots + ms) Q (F0 mi (pc + 3) ls ((v.map (mm_cv φ')).toList ++ rest))) : W p l e R s mi args below meth c H locs cells slots Q (F0 mi pc ls st0) := by
  intro T hT X
  obtain ⟨v1, st₀, t, T', L, g0, X', hL, e1, e2, ⟨⟨φ', hφ, hv, hP, hD⟩, hz, hk⟩, st⟩ := hr T hT X
  cases hv
  rw [g0] at hz hk
  obtain ⟨t2, a1, b1⟩ := kk φ' T'.heap (locs ++ L) hφ (by rw [e1]; exact hP) hD (fun q h1 h2 => by rw [e1]; exact hk q h1 h2)
    ⟨Nat.le_trans hS.1 (by rw [e1]; exact hz), fun q h1 h2 => by rw [e1, hk q (Nat.lt_of_lt_of_le h1 hS.1) (fun z => h2 (hA q z))]; exact hS.2.1 q h1 h2, fun q hq => by
      rcases List.mem_append.mp hq with h | h
      · exact hS.2.2 q h
      · exact hA _ (hL q h)⟩ T' rfl X'
  exact ⟨t2, st t2 a1, b1⟩
/-- what of the law stays the same all along: the machine, its tables, the script, the places of the two worlds -/
def lw_C (D : va_G) (aC : Nat → ClassId) (φ : Nat → Nat → Nat) (p : Program) (s : State) (mi : MethodId) (c : Code) (b : Nat) : Prop := p.tables.exec = Jvm.exec ∧ c.code = code ∧ c.maxLocals = 4 ∧ s.vm.findClass R_law = some mi.cls ∧ (∀ w ∈ lw_tbl, w.before #[Value.ref b] s = true) ∧ mm_K D aC s ∧ va_D (fun q => s.heap.size ≤ q) (mm_ws aC φ (mm_idC, fun _ _ _ => 0, fun _ _ => 0, fun _ _ _ => (0, 0))) ∧ va_D (fun q => s.heap.size ≤ q) (mm_ws aC φ (mm_idM, fun _ _ _ => 0, fun _ _ => 0, fun _ _ _ => (0, 0))) ∧ ∀ z ∈ mm_idC, ∀ w ∈ mm_idM, φ z.1 z.2 ≠ φ w.1 w.2
def lw_wok (idx y i1 i2 i3 : Nat) : Bool := mm_wd i1 (.methodLink R_law idx (mm_y y)) && mm_wd i2 (.instanceMethod (mm_y y)) && mm_wd i3 (.selects (mm_cN (mm_ow y)) (mm_y y) (mm_y y)) && decide (y < 178) && decide (mm_rf y + 1 ≤ 9) && decide (8 + (mm_mL y + 11) + mm_rl y ≤ 346) && decide (mm_mc y = 0) && decide (mm_ms y = 0)
theorem lw_call {D : va_G} {aC : Nat → ClassId} {φ : Nat → Nat → Nat} {b pc idx y r i1 i2 i3 : Nat} {as : List mm_V} {h h' h2 : mm_H} {v : Option mm_V} {rest : List Value} {ls : Array Slot} (C : lw_C D aC φ p s mi c b) (hd : decode code pc = .ok (.invokevirtual idx, 3)) (hw : lw_wok idx y i1 i2 i3 = true) (hna : mm_na y = as.length) (hsp : (mm_sp (.inr (.inr (r, 0)) :: as)).length ≤ mm_mL y) (hev : mm_ev y 0 (mm_il (mm_mL y) (.inr (.inr (r, 0)) :: as)) [] h = some (v, h')) (hco : mm_co r 0 = mm_ow y ∧ mm_kd r = 0 ∧ r ≠ 3) (hmem : (r, 0) ∈ h.1) (ho : mm_okH h) (ho' : mm_okH h') (hi : h'.1 = h.1) (has : mm_okS h as) (hls : ls.size = 4) (hsum : (rest.map fun v => v.category).sum ≤ 8) (hcs : cells ≤ 600000 ∧ slots ≤ 7302250)
    (hD : va_D (fun q => s.heap.size ≤ q) (mm_ws aC φ h)) (hX : ∀ z ∈ h.1, ∀ w ∈ h2.1, φ z.1 z.2 ≠ φ w.1 w.2) (hP : va_P D mm_cls (mm_ws aC φ h) H) (hP2 : va_P D mm_cls (mm_ws aC φ h2) H) (hS : va_S (fun q => s.heap.size ≤ q) s.heap H locs)
    (kk : ∀ (H1 : Heap) (locs1 : List Loc), va_P D mm_cls (mm_ws aC φ h') H1 → va_P D mm_cls (mm_ws aC φ h2) H1 → va_S (fun q => s.heap.size ≤ q) s.heap H1 locs1 → W p l e room_1 s mi #[Value.ref b] below meth c H1 locs1 cells slots Q (F0 mi (pc + 3) ls ((v.map (mm_cv φ)).toList ++ rest))) : W p l e room_1 s mi #[Value.ref b] below meth c H locs cells slots Q (F0 mi pc ls ((as.map (mm_cv φ)).reverse ++ .ref (φ r 0) :: rest)) := by
  obtain ⟨hx, hb, hml, hown, hts, hK, -⟩ := C
  have htb : ∀ w ∈ mm_tb, w.before #[Value.ref b] s = true := fun w hw => hts w (List.mem_filter.mp hw).1
  simp only [lw_wok, Bool.and_eq_true, decide_eq_true_eq] at hw
  obtain ⟨⟨⟨⟨⟨⟨⟨k1, k2⟩, k3⟩, hy⟩, k5⟩, k6⟩, k7⟩, k8⟩ := hw
  obtain ⟨n, hn⟩ := mm_ev_iff.mp hev
  have hcons : mm_okS h (.inr (.inr (r, 0)) :: as) := by
    intro w hw
    rcases List.mem_cons.mp hw with rfl | hw
    · intro q e
      cases e
      exact hmem
    · exact has w hw
  have hM := mm_met l D aC n y (.inr (.inr (r, 0)) :: as) h h' v hy hn hsp ho hcons φ H.size
  obtain ⟨g1, g2, g3, g4, g5, -⟩ := mm_m_w hy
  have hcb : CallB room_1 s #[Value.ref b] R_law idx (mm_y y) (mm_bc y) (mm_mL y) (mm_rt y) (mm_wm y) (mm_rm y) (mm_mc y) (mm_ms y) (mm_na y) := callB_of (mm_na y) htb (mm_wm_in hy) rfl rfl rfl (htb _ g2) (hts _ (List.mem_of_getElem? (of_decide_eq_true k1))) ⟨g4, g5, g3⟩ ⟨k5, k6⟩
  obtain ⟨kq, hkq⟩ := List.getElem?_of_mem hmem
  have hat := mm_ws_at (aC := aC) (φ := φ) hkq
  have hce : mm_ce aC φ h (r, 0) = .inr (mm_co r 0, (mm_fs r).map (mm_fv φ h 0)) := by
    unfold mm_ce
    rw [if_pos hco.2.1]
  rw [hce] at hat
  have hrc := va_recv hK.1 hP (mm_cls_at (mm_co_lt hco.2.1 (fun e3 => absurd e3 hco.2.2))) hat
  rw [hco.1] at hrc
  have hrun := va_runV (p := p) (l := l) (e := e) (m := mi) (below := below) (meth := meth) (c := c) (locs := locs) (cells := cells) (slots := slots) (g := F0 mi pc ls ((as.map (mm_cv φ)).reverse ++ .ref (φ r 0) :: rest)) (rest := rest) (C := mm_cN (mm_ow y)) (As := as.map (mm_cv φ)) ⟨hx, hb, hml, hown, htb⟩ hM ⟨hcb, hts _ (List.mem_of_getElem? (of_decide_eq_true k2)), hts _ (List.mem_of_getElem? (of_decide_eq_true k3))⟩ ⟨mm_blind, hrc, (mm_pre (as := .inr (.inr (r, 0)) :: as) hK hP hD).2⟩ rfl (by rw [List.length_map, hna]) hls rfl (by show 2 * 0 + _ ≤ 8; omega) hd (by rw [k7, k8]; exact hcs)
  refine mm_callF hrun hS (fun z hz => ?_) (fun φ' H1 locs1 hφ' hP' hD' hk hS' => ?_)
  · rcases hz with ⟨k9, e9, hk9⟩ | hz
    · exact hD.2 k9 _ hk9
    · exact Nat.le_trans hS.1 hz
  · have hφ2 : ∀ z ∈ h'.1, φ' z.1 z.2 = φ z.1 z.2 := fun z hz => hφ' z (by rw [← hi]; exact hz)
    rw [mm_ws_re hφ2 ho'] at hP'
    have hv : v.map (mm_cv φ') = v.map (mm_cv φ) := by
      obtain ⟨-, -, q3⟩ := mm_run_ok n y 0 _ [] 0 0 h h' v hy hn ho (mm_il_ok hcons) (fun x hx => by cases hx)
      cases v with
      | none => rfl
      | some x =>
        have hx9 := q3 x rfl
        rcases x with x | x | x
        · rfl
        · rfl
        · exact congrArg (fun z => some (Value.ref z)) (hφ2 x (hx9 x rfl))
    have hP2' : va_P D mm_cls (mm_ws aC φ h2) H1 := by
      refine hP2.kept (fun k9 q9 hk9 => ?_)
      have hlt := (hP2 k9 q9 hk9).lt
      refine hk q9.1 hlt (fun hA9 => ?_)
      obtain ⟨w, hw, hwm, rfl⟩ := mm_ws_ids (h1 := h2) rfl hk9
      rcases hA9 with ⟨k8, e8, hk8⟩ | hA9
      · obtain ⟨z, hz, hzm, ez⟩ := mm_ws_ids (h1 := h) rfl hk8
        exact hX z hzm w hwm (congrArg Prod.fst ez).symm
      · exact Nat.lt_irrefl _ (Nat.lt_of_lt_of_le hlt hA9)
    have := kk H1 locs1 hP' hP2' hS'
    rw [hv, k7, k8]
    exact this
end LWC
