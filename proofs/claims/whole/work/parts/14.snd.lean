/-! EVERY RUN OF THE MACHINE IS THE BYTECODE'S: a contract for every method at every picture -/
def mm_wm (m : Nat) : List Jvm.Cond := .code (mm_y m) (mm_bc m) (mm_mL m) (mm_rt m) :: mm_tb
def mm_rm (m : Nat) : Room := { frames := mm_rf m, cells := mm_mc m, slots := mm_ms m, locals := mm_rl m }
def mm_Pc (D : va_G) (aC : Nat → ClassId) (φ : Nat → Nat → Nat) (h : mm_H) (sz : Nat) (as : List mm_V) : Array Value → State → Prop := va_Pc (as.map (mm_cv φ)) (fun U => U.heap.size = sz ∧ va_P D mm_cls (mm_ws aC φ h) U.heap ∧ mm_K D aC U ∧ va_D (fun _ => True) (mm_ws aC φ h))
def mm_Qc (D : va_G) (aC : Nat → ClassId) (φ : Nat → Nat → Nat) (h : mm_H) (sz : Nat) (v : Option mm_V) (h' : mm_H) : Array Value → State → Outcome → State → Prop := fun _ st oc t =>
  (∃ φ' : Nat → Nat → Nat, (∀ z ∈ h.1, φ' z.1 z.2 = φ z.1 z.2) ∧ oc = .returned (v.map (mm_cv φ')) ∧ va_P D mm_cls (mm_ws aC φ' h') t.heap ∧ va_D (va_A (mm_ws aC φ h) sz) (mm_ws aC φ' h')) ∧ va_F (va_A (mm_ws aC φ h) sz) st t
theorem mm_good {w : Jvm.Cond} (h : w ∈ mm_tb) : (w.onTables && w.keeps) = true ∨ ∃ ty, w = .arrayClass ty := good_of_word (List.mem_filter.mp h).2
theorem mm_m_w {m : Nat} (hm : m < 178) : Jvm.Cond.code (mm_y m) (mm_bc m) (mm_mL m) (mm_rt m) ∈ mm_tb ∧ Jvm.Cond.initialized (mm_y m).cls ∈ mm_tb ∧ (parseMethodDescriptor (mm_y m).desc).map (fun d => d.parameters.length) = some (mm_na m) ∧ (mm_y m).cls ≠ "java/lang/invoke/MethodHandle" ∧ (mm_y m).cls ≠ "java/lang/invoke/VarHandle" ∧ plainName (mm_y m).cls = true := by
  have h := mm_mall m hm
  simp only [mm_mq, Bool.and_eq_true, decide_eq_true_eq] at h
  exact ⟨mm_tb_of h.1.1.1.1.1 rfl, mm_tb_of h.1.1.1.1.2 rfl, h.1.1.1.2, h.1.1.2, h.1.2, h.2⟩
theorem mm_wm_in {m : Nat} (hm : m < 178) : GoodIn mm_tb (mm_wm m) := by
  intro w hw
  rcases List.mem_cons.mp hw with rfl | h
  · exact ⟨(mm_m_w hm).1, mm_good (mm_m_w hm).1⟩
  · exact ⟨h, mm_good h⟩
theorem mm_sp_sl (φ : Nat → Nat → Nat) : ∀ (as : List mm_V), (lg_sl (as.map (mm_cv φ))).length = (mm_sp as).length ∧ ∀ (j : Nat) (v : mm_V), (mm_sp as)[j]? = some (some v) → (lg_sl (as.map (mm_cv φ)))[j]? = some (.val (mm_cv φ v))
  | [] => ⟨rfl, fun j v h => by simp [mm_sp] at h⟩
  | a :: as => by
    obtain ⟨h1, h2⟩ := mm_sp_sl φ as
    by_cases hc : mm_cat a = 2
    · have e1 : mm_sp (a :: as) = some a :: none :: mm_sp as := by simp [mm_sp, hc]
      have e2 : lg_sl ((a :: as).map (mm_cv φ)) = .val (mm_cv φ a) :: .second :: lg_sl (as.map (mm_cv φ)) := by simp [lg_sl, mm_cv_cat, hc]
      rw [e1, e2]
      refine ⟨by simp [h1], fun j v h => ?_⟩
      match j, h with
      | 0, h => simp at h; subst h; rfl
      | 1, h => simp at h
      | j + 2, h => simpa using h2 j v (by simpa using h)
    · have e1 : mm_sp (a :: as) = some a :: mm_sp as := by simp [mm_sp, hc]
      have e2 : lg_sl ((a :: as).map (mm_cv φ)) = .val (mm_cv φ a) :: lg_sl (as.map (mm_cv φ)) := by simp [lg_sl, mm_cv_cat, hc]
      rw [e1, e2]
      refine ⟨by simp [h1], fun j v h => ?_⟩
      match j, h with
      | 0, h => simp at h; subst h; rfl
      | j + 1, h => simpa using h2 j v (by simpa using h)
theorem mm_lr_entry {φ : Nat → Nat → Nat} {as : List mm_V} {n : Nat} (hn : (mm_sp as).length ≤ n) : mm_lr φ (mm_il n as) ((lg_sl (as.map (mm_cv φ)) ++ List.replicate (n - (lg_sl (as.map (mm_cv φ))).length) Slot.unset).toArray) n := by
  obtain ⟨h1, h2⟩ := mm_sp_sl φ as
  have he := lv_entry (as.map (mm_cv φ)) (n := n) (by rw [h1]; exact hn)
  refine ⟨by simp [mm_il]; omega, he.1, he.2.1, fun j v hj => ?_⟩
  unfold mm_il at hj
  have hlt : j < (mm_sp as).length := by
    rcases Nat.lt_or_ge j (mm_sp as).length with q | q
    · exact q
    · rw [List.getElem?_append_right q] at hj
      have := List.eq_of_mem_replicate (List.mem_of_getElem? hj)
      cases this
  rw [List.getElem?_append_left hlt] at hj
  rw [List.getElem?_toArray, List.getElem?_append_left (by rw [h1]; exact hlt)]
  exact h2 j v hj
theorem mm_lr_re {φ φ' : Nat → Nat → Nat} {la : List (Option mm_V)} {ls : Array Slot} {nL : Nat} {h : mm_H} (hφ : ∀ z ∈ h.1, φ' z.1 z.2 = φ z.1 z.2) (hl : mm_okL h la) (hr : mm_lr φ la ls nL) : mm_lr φ' la ls nL := by
  refine ⟨hr.1, hr.2.1, hr.2.2.1, fun j v hj => ?_⟩
  rw [hr.2.2.2 j v hj]
  have hv := hl v (List.mem_of_getElem? hj)
  rcases v with x | x | q
  · rfl
  · rfl
  · exact congrArg (fun z => some (Slot.val (Value.ref z))) (hφ q (hv q rfl)).symm
theorem mm_blind {D : va_G} {aC : Nat → ClassId} {φ : Nat → Nat → Nat} {h : mm_H} {sz : Nat} {as : List mm_V} : FrameBlind (mm_Pc D aC φ h sz as) := fun a U g mk q => ⟨q.1, q.2.1, q.2.2.1, mm_K.same rfl q.2.2.2.1, q.2.2.2.2⟩
def mm_Cx (D : va_G) (aC : Nat → ClassId) (m : Nat) (p : Program) (s : State) (mi : MethodId) (args : Array Value) (meth : Method) (c : Code) : Prop := p.tables.exec = Jvm.exec ∧ c.code = mm_bc m ∧ meth.sig.returnType = mm_rt m ∧ c.maxLocals = mm_mL m ∧ s.vm.findClass (mm_cN (mm_ow m)) = some mi.cls ∧ (∀ w ∈ mm_tb, w.before args s = true) ∧ meth.locks = false ∧ ((mm_y m).name = "<init>" → meth.name = "<init>") ∧ mm_K D aC s
def mm_SndW (l : Launch) (D : va_G) (aC : Nat → ClassId) (n : Nat) : Prop := ∀ (m pc : Nat) (la : List (Option mm_V)) (st : List mm_V) (uc us : Nat) (h h' : mm_H) (v : Option mm_V), m < 178 → mm_run n (m, pc, la, st, uc, us) h = some (v, h') → mm_okH h → mm_okL h la → mm_okS h st → ∀ (p : Program) (e : Env) (s : State) (mi : MethodId) (args : Array Value) (below : List Frame) (meth : Method) (c : Code), mm_Cx D aC m p s mi args meth c →
  ∀ (H : Heap) (locs : List Loc) (ls : Array Slot) (φ φ0 : Nat → Nat → Nat) (h0 : mm_H), (∀ z ∈ h0.1, z ∈ h.1) → (∀ z ∈ h0.1, φ z.1 z.2 = φ0 z.1 z.2) → va_P D mm_cls (mm_ws aC φ h) H → va_D (va_A (mm_ws aC φ0 h0) s.heap.size) (mm_ws aC φ h) → va_S (va_A (mm_ws aC φ0 h0) s.heap.size) s.heap H locs → mm_lr φ la ls (mm_mL m) → uc ≤ mm_mc m → us ≤ mm_ms m →
    W p l e (mm_rm m) s mi args below meth c H locs uc us (MQ below (mm_Qc D aC φ0 h0 s.heap.size v h') args s (mm_mc m) (mm_ms m) (va_A (mm_ws aC φ0 h0) s.heap.size)) (F0 mi pc ls (st.map (mm_cv φ)))
def mm_Snd (l : Launch) (D : va_G) (aC : Nat → ClassId) (n : Nat) : Prop := ∀ (m : Nat) (as : List mm_V) (h h' : mm_H) (v : Option mm_V), m < 178 → mm_run n (m, 0, mm_il (mm_mL m) as, [], 0, 0) h = some (v, h') → (mm_sp as).length ≤ mm_mL m → mm_okH h → mm_okS h as → ∀ (φ : Nat → Nat → Nat) (sz : Nat), Met l (mm_y m) (mm_wm m) (mm_rm m) (mm_Pc D aC φ h sz as) (mm_Qc D aC φ h sz v h') (mm_mc m) (mm_ms m) (va_A (mm_ws aC φ h) sz)
theorem mm_entry {l : Launch} {D : va_G} {aC : Nat → ClassId} {n : Nat} (hW : mm_SndW l D aC n) : mm_Snd l D aC n := by
  intro m as h h' v hm hr hsp hH ho φ sz
  refine Met.ofW (cc := mm_bc m) (maxL := mm_mL m) (ret := mm_rt m) (mm_m_w hm).2.2.2.2.2 rfl ?_
  intro p e s mi args below meth c s₁ B hml hv
  obtain ⟨rfl, hsz, hP, hK, hD0⟩ := hv
  subst hsz
  have hts0 := atoms_spec (ws := mm_wm m) B.pre
  have hD := hD0.self (sz := s.heap.size)
  rw [lg_entry_eq]
  exact hW m 0 (mm_il (mm_mL m) as) [] 0 0 h h' v hm hr hH (mm_il_ok ho) (fun x hx => by cases hx) p e s mi _ below meth c ⟨B.exec, B.bytes, B.returns, hml, findClass_of_methodNamed B.named, fun w hw => hts0 w (List.mem_cons_of_mem _ hw), B.notSynchronized, fun h9 => (name_of_methodNamed B.named B.method).1.trans h9, hK⟩ s.heap [] _ φ φ h (fun z hz => hz) (fun _ _ => rfl) hP hD va_S.rf (mm_lr_entry hsp) (Nat.zero_le _) (Nat.zero_le _)
section MMC
variable {p : Program} {l : Launch} {e : Env} {R : Room} {s : State} {mi : MethodId} {args : Array Value} {below : List Frame} {meth : Method} {c : Code} {H : Heap} {locs : List Loc} {cells slots : Nat} {Q : State → Prop}
/-- behind a call -/
theorem mm_call {pc mc ms : Nat} {ls : Array Slot} {rest st0 : List Value} {a : Array Value} {A0 : Nat → Prop} {H0 : Heap} {D : va_G} {aC : Nat → ClassId} {φ : Nat → Nat → Nat} {h h' : mm_H} {v : Option mm_V} (hr : va_Run p l e R s mi args below meth c H locs cells slots mc ms (F0 mi pc ls st0) rest (mm_Qc D aC φ h H.size v h' a) (va_A (mm_ws aC φ h) H.size)) (hS : va_S A0 H0 H locs) (hA : ∀ q, va_A (mm_ws aC φ h) H.size q → A0 q)
    (kk : ∀ (φ' : Nat → Nat → Nat) (H1 : Heap) (locs1 : List Loc), (∀ z ∈ h.1, φ' z.1 z.2 = φ z.1 z.2) → va_P D mm_cls (mm_ws aC φ' h') H1 → va_D A0 (mm_ws aC φ' h') → va_S A0 H0 H1 locs1 → W p l e R s mi args below meth c H1 locs1 (cells + mc) (slots + ms) Q (F0 mi (pc + 3) ls ((v.map (mm_cv φ')).toList ++ rest))) : W p l e R s mi args below meth c H locs cells slots Q (F0 mi pc ls st0) := by
  intro T hT X
  obtain ⟨v1, st₀, t, T', L, g0, X', hL, e1, e2, ⟨⟨φ', hφ, hv, hP, hD⟩, hz, hk⟩, st⟩ := hr T hT X
  cases hv
  rw [g0] at hz hk
  obtain ⟨t2, a1, b1⟩ := kk φ' T'.heap (locs ++ L) hφ (by rw [e1]; exact hP) (hD.weaken (fun k q _ hq => hA q.1 hq))
    ⟨Nat.le_trans hS.1 (by rw [e1]; exact hz), fun q h1 h2 => by rw [e1, hk q (Nat.lt_of_lt_of_le h1 hS.1) (fun z => h2 (hA q z))]; exact hS.2.1 q h1 h2, fun q hq => by
      rcases List.mem_append.mp hq with h | h
      · exact hS.2.2 q h
      · exact hA _ (hL q h)⟩ T' rfl X'
  exact ⟨t2, st t2 a1, b1⟩
end MMC
