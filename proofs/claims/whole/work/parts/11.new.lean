/-! new cells -/
def va_AOA (ty : FieldType) (U : State) : Prop := (Jvm.Cond.arrayOver (.array ty)).before #[] U = true
theorem va_AOA.use {ty : FieldType} {A : Array Value} {U : State} (h : va_AOA ty U) : (Jvm.Cond.arrayOver (.array ty)).before A U = true := h
/-! ===== BEGIN new T[n][m]: the outer array a place, the inner ones among the pooled ===== -/
/-- f, but v at every address of l -/
def vr_up {α : Type} (f : Nat → α) (l : List Nat) (v : α) : Nat → α := fun a => if a ∈ l then v else f a
theorem vr_up_in {α : Type} {f : Nat → α} {l : List Nat} {v : α} {a : Nat} (h : a ∈ l) : vr_up f l v a = v := if_pos h
theorem vr_up_ne {α : Type} {f : Nat → α} {l : List Nat} {v : α} {a : Nat} (h : a ∉ l) : vr_up f l v a = f a := if_neg h
theorem vr_rows {L l : List Nat} {f : Nat → va_E} {e : va_E} (h : ∀ a, a ∈ l → a ∉ L) : va_pl L f ++ l.map (fun a => (a, e)) = va_pl (L ++ l) (vr_up f l e) := by
  unfold va_pl
  rw [List.map_append]
  congr 1
  · apply List.map_congr_left
    intro a ha
    rw [vr_up_ne (fun q => h a q ha)]
  · apply List.map_congr_left
    intro a ha
    rw [vr_up_in ha]
theorem vr_lay {X rows : va_W} {x : Nat × va_E} {pl : va_W} {D : va_G} {cl : List vw_C} {H : Heap} (hP : va_P D cl (((X ++ pl) ++ [x]) ++ rows) H) : va_P D cl ((X ++ [x]) ++ (pl ++ rows)) H := by
  rw [List.append_assoc (X ++ pl)] at hP
  have h := va_P.swap hP
  rw [← List.append_assoc X] at h
  have h2 := va_P.swap h
  rw [List.append_assoc (X ++ [x])] at h2
  exact h2
theorem vr_layD {X rows : va_W} {x : Nat × va_E} {pl : va_W} {A : Nat → Prop} (hD : va_D A (((X ++ pl) ++ [x]) ++ rows)) : va_D A ((X ++ [x]) ++ (pl ++ rows)) := by
  rw [List.append_assoc (X ++ pl)] at hD
  have h := va_D.swap hD
  rw [← List.append_assoc X] at h
  have h2 := va_D.swap h
  rw [List.append_assoc (X ++ [x])] at h2
  exact h2
theorem vr_outer (c : ClassId) (N h0 : Nat) : ∀ i : Nat, Jvm.Free.Multi.outerC c N h0 i = arrV c N (fun j => va_rf (if j < i then some (h0 + 1 + j) else none))
  | 0 => by
    show ({ cls := c, slots := Array.replicate N .null, vm := .none } : Cell) = _
    rw [arrV_new]
    refine congrArg (arrV c N) (funext fun j => ?_)
    simp [va_rf]
  | i + 1 => by
    show (Jvm.Free.Multi.outerC c N h0 i).setSlot i (.ref (h0 + 1 + i)) = _
    rw [vr_outer c N h0 i, arrV_store]
    refine congrArg (arrV c N) (funext fun j => ?_)
    by_cases e : j = i
    · subst e
      simp [updV, va_rf]
    · by_cases h : j < i
      · simp [updV, e, h, Nat.lt_succ_of_lt h]
      · simp [updV, e, h, show ¬ j < i + 1 by omega]
section VGM
variable {p : Program} {l : Launch} {e : Env} {R : Room} {s : State} {m : MethodId} {args : Array Value} {below : List Frame} {meth : Method} {c : Code} {H : Heap} {locs : List Loc} {cells slots : Nat} {Q : State → Prop}
variable {cc : ByteArray} {pc : Nat} {ls : Array Slot} {rest : List Value} {D : va_G} {cl : List vw_C} {A : Nat → Prop} {a : Nat} {tys : List (ClassId × FieldType)} {ws : va_W} {H0 : Heap}
theorem va_mna {X : va_W} {L : List Nat} {f : Nat → va_E} {cc : ByteArray} (hexec : p.tables.exec = Jvm.exec) (hb : c.code = cc) {own : String} {index : Nat} {ty : FieldType} {cy : ClassId} (hown : s.vm.findClass own = some m.cls) (hclink : (Cond.classLink own index ("[" ++ (FieldType.array ty).toString)).before args s = true) (hover : va_AOA ty s) (harr : (Cond.arrayClass ty).before args s = true) (hcy : s.vm.findClass (FieldType.array ty).toString = some cy)
    (hK : va_K D cl tys s) (hP : va_P D cl (X ++ va_pl L f) H) (hD : va_D A (X ++ va_pl L f)) (hS : va_S A H0 H locs) (hA : ∀ q, H0.size ≤ q → A q) {n k : Int32} {N' K' : Nat} {z : vp_A} (hn : ¬ n < 0) (hk : ¬ k < 0) (hN : n.toNatClampNeg = N') (hM : k.toNatClampNeg = K')
    (hb1 : N' * 4 ≤ 536870912) (hb2 : K' * componentBytes ty ≤ 536870912) (hb3 : K' ≤ 536870912) (hdf : fits ty (defaultValue ty) = true) (hdd : (defaultValue ty).isDefault = true) (hcells : cells + (1 + N') ≤ R.cells) (hslots : slots + (N' + N' * K') ≤ R.slots) (hz : ∀ c : ClassId, Jvm.Free.Multi.innerC c K' (defaultValue ty) = vp_cell c z) (hdg : decode cc pc = .ok (.multianewarray index 2, 4))
    (kk : ∀ (q : Nat) (r : Nat → Nat) (cA : ClassId) (H1 : Heap), (∀ i j : Nat, i < N' → j < N' → r i = r j → i = j) → (∀ i : Nat, i < N' → r i ∉ L) → va_K D cl (tys ++ [(cA, .array ty)]) s →
      va_P D cl ((X ++ [(q, .inl (cA, N', .inr (.inr (.inr (.inr (fun i => if i < N' then some (r i) else none))))))]) ++ va_pl (L ++ (List.range N').map r) (vr_up f ((List.range N').map r) (.inl (cy, z)))) H1 → va_D A ((X ++ [(q, .inl (cA, N', .inr (.inr (.inr (.inr (fun i => if i < N' then some (r i) else none))))))]) ++ va_pl (L ++ (List.range N').map r) (vr_up f ((List.range N').map r) (.inl (cy, z)))) → va_S A H0 H1 locs →
      W p l e R s m args below meth c H1 locs (cells + 1 + N') (slots + N' + N' * K') Q (F0 m (pc + 4) ls (.ref q :: rest))) : W p l e R s m args below meth c H locs cells slots Q (F0 m pc ls (.int k :: .int n :: rest)) := by
  subst hN
  subst hM
  intro T hT Xs
  obtain ⟨vm₁, cA, comp, -, fA, fC, hO, -, X', step⟩ := Xs.multianewarray2F hexec hown hclink (va_AOA.use hover) harr (g := F0 m pc ls (.int k :: .int n :: rest)) rfl (by rw [hb]; exact hdg) rfl hn hk hb1 hb2 hb3 hdf hdd hcells hslots
  have ec : some cy = some comp := hcy.symm.trans fC
  cases ec
  generalize hF : Jvm.Free.Multi.fill (T.setVm vm₁) cA cy n.toNatClampNeg k.toNatClampNeg (defaultValue ty) n.toNatClampNeg = F at X' step
  have hTh : (T.setVm vm₁).heap = H := hT
  obtain ⟨f1, f2, -, -⟩ := Jvm.Free.Multi.fill_facts (T.setVm vm₁) cA cy n.toNatClampNeg k.toNatClampNeg (defaultValue ty) n.toNatClampNeg
  rw [hF, hTh] at f1 f2
  have hold : ∀ x : Nat, x < H.size → F.heap[x]? = H[x]? := fun x hx => by
    have := Jvm.Free.Multi.fill_old (T.setVm vm₁) cA cy n.toNatClampNeg k.toNatClampNeg (defaultValue ty) (a := x) (by rw [hTh]; exact hx) n.toNatClampNeg
    rw [hF, hTh] at this
    exact this
  have hrow : ∀ j : Nat, j < n.toNatClampNeg → F.heap[H.size + 1 + j]? = some (vp_cell cy z) := fun j hj => by
    have := Jvm.Free.Multi.fill_inner (T.setVm vm₁) cA cy n.toNatClampNeg k.toNatClampNeg (defaultValue ty) n.toNatClampNeg j hj
    rw [hF, hTh, hz] at this
    exact this
  have hout : Jvm.Free.Multi.outerC cA n.toNatClampNeg H.size n.toNatClampNeg = vp_cell cA (n.toNatClampNeg, .inr (.inr (.inr (.inr (fun i => if i < n.toNatClampNeg then some (H.size + 1 + i) else none))))) := by
    rw [vp_cell_q]
    exact vr_outer cA n.toNatClampNeg H.size n.toNatClampNeg
  rw [hout] at f2
  have hlt : ∀ a, a ∈ L → a < H.size := fun a ha => by
    obtain ⟨k9, hk9⟩ := va_pl_get (X := X) (f := f) ha
    exact (hP k9 _ hk9).lt
  have hnl : ∀ i : Nat, i < n.toNatClampNeg → H.size + 1 + i ∉ L := fun i _ h => by
    have := hlt _ h
    omega
  have hnm : ∀ a, a ∈ (List.range n.toNatClampNeg).map (fun i => H.size + 1 + i) → a ∉ L := fun a ha h => by
    obtain ⟨i, -, rfl⟩ := List.mem_map.mp ha
    have := hlt _ h
    omega
  have hP0 : va_P D cl (X ++ va_pl L f) F.heap := hP.kept (fun k9 x hx => hold x.1 ((hP k9 x hx).lt))
  have hP1 : va_P D cl ((X ++ va_pl L f) ++ [(H.size, .inl (cA, n.toNatClampNeg, .inr (.inr (.inr (.inr (fun i => if i < n.toNatClampNeg then some (H.size + 1 + i) else none))))))]) F.heap := hP0.app (fun k9 x hx => by
    have h0 : k9 < 1 := (List.getElem?_eq_some_iff.mp hx).1
    rw [show k9 = 0 by omega] at hx
    cases hx
    exact f2)
  have hP2 : va_P D cl (((X ++ va_pl L f) ++ [(H.size, .inl (cA, n.toNatClampNeg, .inr (.inr (.inr (.inr (fun i => if i < n.toNatClampNeg then some (H.size + 1 + i) else none))))))]) ++ ((List.range n.toNatClampNeg).map (fun i => H.size + 1 + i)).map (fun a => (a, .inl (cy, z)))) F.heap := hP1.app (fun k9 x hx => by
    obtain ⟨a, ha, rfl⟩ := List.mem_map.mp (List.mem_of_getElem? hx)
    obtain ⟨i, hi, rfl⟩ := List.mem_map.mp ha
    exact hrow i (List.mem_range.mp hi))
  have hD2 : va_D A (((X ++ va_pl L f) ++ [(H.size, .inl (cA, n.toNatClampNeg, .inr (.inr (.inr (.inr (fun i => if i < n.toNatClampNeg then some (H.size + 1 + i) else none))))))]) ++ ((List.range n.toNatClampNeg).map (fun i => H.size + 1 + i)).map (fun a => (a, .inl (cy, z)))) := by
    have hD1 := hD.push (e := .inl (cA, n.toNatClampNeg, .inr (.inr (.inr (.inr (fun i => if i < n.toNatClampNeg then some (H.size + 1 + i) else none)))))) hP rfl (hA _ hS.1)
    generalize hW1 : (X ++ va_pl L f) ++ [(H.size, .inl (cA, n.toNatClampNeg, .inr (.inr (.inr (.inr (fun i => if i < n.toNatClampNeg then some (H.size + 1 + i) else none))))))] = W1 at hD1 hP1 ⊢
    have hle : ∀ (k9 : Nat) (x : Nat × va_E), W1[k9]? = some x → x.1 ≤ H.size := fun k9 x hx => by
      rw [← hW1] at hx
      by_cases hl : k9 < (X ++ va_pl L f).length
      · rw [List.getElem?_append_left hl] at hx
        exact Nat.le_of_lt ((hP k9 x hx).lt)
      · rw [List.getElem?_append_right (by omega)] at hx
        have h0 : k9 - (X ++ va_pl L f).length < 1 := (List.getElem?_eq_some_iff.mp hx).1
        rw [show k9 - (X ++ va_pl L f).length = 0 by omega] at hx
        cases hx
        exact Nat.le_refl _
    have hr : ∀ (k9 : Nat) (x : Nat × va_E), (((List.range n.toNatClampNeg).map (fun i => H.size + 1 + i)).map (fun a => ((a, .inl (cy, z)) : Nat × va_E)))[k9]? = some x → x.1 = H.size + 1 + k9 := fun k9 x hx => by
      rw [List.getElem?_map, List.getElem?_map] at hx
      by_cases h9 : k9 < n.toNatClampNeg
      · rw [List.getElem?_range h9] at hx
        cases hx
        rfl
      · have hn0 : (List.range n.toNatClampNeg)[k9]? = none := List.getElem?_eq_none (by rw [List.length_range]; omega)
        rw [hn0] at hx
        cases hx
    refine ⟨fun i j x y hi hj hxy => ?_, fun k9 x hx => ?_⟩
    · by_cases h1 : i < W1.length <;> by_cases h2 : j < W1.length
      · rw [List.getElem?_append_left h1] at hi
        rw [List.getElem?_append_left h2] at hj
        exact hD1.1 i j x y hi hj hxy
      · rw [List.getElem?_append_left h1] at hi
        rw [List.getElem?_append_right (by omega)] at hj
        have := hle _ _ hi
        have := hr _ _ hj
        omega
      · rw [List.getElem?_append_right (by omega)] at hi
        rw [List.getElem?_append_left h2] at hj
        have := hle _ _ hj
        have := hr _ _ hi
        omega
      · rw [List.getElem?_append_right (by omega)] at hi hj
        have := hr _ _ hi
        have := hr _ _ hj
        omega
    · by_cases h1 : k9 < W1.length
      · rw [List.getElem?_append_left h1] at hx
        exact hD1.2 k9 x hx
      · rw [List.getElem?_append_right (by omega)] at hx
        have := hr _ _ hx
        exact hA _ (by have := hS.1; omega)
  have hAr : ArrOfT s cA (.array ty) := fun N9 z9 => by
    obtain ⟨-, k9, hk9, cm9, hkk9⟩ := (hO 0 0 0).1
    exact ⟨(fun q hq => by cases hq), k9, hk9, cm9, hkk9⟩
  have hK2 : va_K D cl (tys ++ [(cA, .array ty)]) s := ⟨hK.1, fun k9 x hx => by
    by_cases hl : k9 < tys.length
    · rw [List.getElem?_append_left hl] at hx
      exact hK.2 k9 x hx
    · rw [List.getElem?_append_right (by omega)] at hx
      have h0 : k9 - tys.length < 1 := (List.getElem?_eq_some_iff.mp hx).1
      rw [show k9 - tys.length = 0 by omega] at hx
      cases hx
      exact ⟨hAr, fA⟩⟩
  obtain ⟨t, a1, b1⟩ := kk H.size (fun i => H.size + 1 + i) cA F.heap (fun i j _ _ h => by have h9 : H.size + 1 + i = H.size + 1 + j := h; omega) hnl hK2 (by rw [← vr_rows hnm]; exact vr_lay hP2) (by rw [← vr_rows hnm]; exact vr_layD hD2) ⟨by rw [f1]; have := hS.1; omega, fun x h1 h2 => (hold x (Nat.lt_of_lt_of_le h1 hS.1)).trans (hS.2.1 x h1 h2), hS.2.2⟩ F rfl X'
  refine ⟨t, step t ?_, b1⟩
  have e : T.heap.size = H.size := by rw [hT]
  rw [e]
  exact a1
end VGM

def mm_ini : List (List Nat) := [[60, 43], [68, 44], [87, 45], [94, 46], [101, 47], [108, 48], [115, 49], [126, 50], [159, 51], [242, 53], [266, 54], [760, 55]]
set_option maxRecDepth 100000 in
theorem mm_in_ok : (List.range 12).all (fun c => mm_wd ((mm_ini.getD c []).getD 0 0) (.instantiable (mm_cN c) (mm_N c)) && mm_wd ((mm_ini.getD c []).getD 1 0) (.initialized (mm_cN c))) = true := by decide +kernel
set_option maxRecDepth 100000 in
theorem mm_arc_ok : (mm_wd 84 (.arrayClass .int) && mm_wd 901 (.arrayClass .byte)) = true := by decide +kernel
def mm_df (a : Nat) : List Value := (mm_fs a).map (fun f => match f.2 with
  | 0 => .int 0
  | 1 => .long 0
  | 2 => .null
  | _ => .int 0)
set_option maxRecDepth 100000 in
theorem mm_s4 : (List.range 47).all (fun a => !decide (mm_kd a = 0) || decide (a = 3) || (decide (mm_ax a < 12) && decide (mm_N (mm_ax a) = (mm_fs a).length) && (List.range (mm_N (mm_ax a))).all (fun j => decide (defaultValue (mm_dt (mm_T (mm_ax a) j).2.2.1) = vp_V (mm_df a) j)))) = true := by decide +kernel
set_option maxRecDepth 100000 in
theorem mm_s5 : (List.range 4).all (fun i => decide (mm_N (2 + i) = 0)) = true := by decide +kernel
/-- what a new object's fields hold -/
theorem mm_born {a nr : Nat} (hk : mm_kd a = 0) (hb : mm_co a nr < 12) (h3 : a = 3 → nr < 4) : ∀ j, j < mm_N (mm_co a nr) → defaultValue (mm_dt (mm_T (mm_co a nr) j).2.2.1) = vp_V (mm_df a) j := by
  intro j hj
  by_cases e : a = 3
  · subst e
    have := List.all_eq_true.mp mm_s5 nr (List.mem_range.mpr (h3 rfl))
    have hz : mm_N (2 + nr) = 0 := of_decide_eq_true this
    have : mm_co 3 nr = 2 + nr := by unfold mm_co; rw [if_pos rfl]
    rw [this, hz] at hj
    omega
  · have hr : a < 47 := by
      rcases Nat.lt_or_ge a 47 with q | q
      · exact q
      · have := mm_kd_ge q; omega
    have h := List.all_eq_true.mp mm_s4 a (List.mem_range.mpr hr)
    have hco : mm_co a nr = mm_ax a := by unfold mm_co; rw [if_neg e]
    rw [hco] at hj ⊢
    simp only [Bool.or_eq_true, Bool.not_eq_true', decide_eq_false_iff_not, decide_eq_true_eq, Bool.and_eq_true] at h
    rcases h with (h | h) | h
    · exact absurd hk h
    · exact absurd h e
    · exact of_decide_eq_true (List.all_eq_true.mp h.2 j (List.mem_range.mpr hj))
def mm_ph (φ : Nat → Nat → Nat) (a i q : Nat) : Nat → Nat → Nat := fun r j => if r = a ∧ j = i then q else φ r j
theorem mm_ph_at (φ : Nat → Nat → Nat) (a i q : Nat) : mm_ph φ a i q a i = q := by simp [mm_ph]
theorem mm_ph_ne {φ : Nat → Nat → Nat} {a i q : Nat} {z : Nat × Nat} (h : z ≠ (a, i)) : mm_ph φ a i q z.1 z.2 = φ z.1 z.2 := by
  unfold mm_ph
  rw [if_neg]
  rintro ⟨h1, h2⟩
  exact h (by rw [← h1, ← h2])
/-- the old cells under another naming that agrees on them -/
theorem mm_ce_re {aC : Nat → ClassId} {φ φ' : Nat → Nat → Nat} {h h' : mm_H} {z : Nat × Nat} (hz : z ∈ h.1) (hI : h'.2.1 = h.2.1) (hL : h'.2.2.1 = h.2.2.1) (hR : ∀ c i j, (c, i) ≠ (114, mm_nr h.1 14) ∨ h'.2.2.2 = h.2.2.2 → h'.2.2.2 c i j = h.2.2.2 c i j) (hn : (14, mm_nr h.1 14) ∉ h.1 ∨ h'.2.2.2 = h.2.2.2) (hφ : ∀ z ∈ h.1, φ' z.1 z.2 = φ z.1 z.2)
    (ho1 : ∀ f ∈ mm_fs z.1, f.2 = 2 → (h.2.2.2 f.1 z.2 0).1 = 0 ∨ h.2.2.2 f.1 z.2 0 ∈ h.1) (ho2 : mm_kd z.1 = 3 → ∀ j, j < mm_ln z.1 → (h.2.2.2 (100 + z.1) z.2 j).1 = 0 ∨ h.2.2.2 (100 + z.1) z.2 j ∈ h.1) : mm_ce aC φ' h' z = mm_ce aC φ h z := by
  have hor : ∀ q : Nat × Nat, q.1 = 0 ∨ q ∈ h.1 → mm_or φ' q = mm_or φ q := by
    intro q hq
    unfold mm_or
    rcases hq with e | e
    · rw [if_pos e, if_pos e]
    · rw [hφ q e]
  unfold mm_ce
  split
  next hk =>
    refine congrArg _ (congrArg _ (List.map_congr_left fun f hf => ?_))
    obtain ⟨x, hx⟩ := List.getElem?_of_mem hf
    have hfx := mm_fsx (c := f.1) (ty := f.2) hx
    have hRR : ∀ j, h'.2.2.2 f.1 z.2 j = h.2.2.2 f.1 z.2 j := fun j => hR _ _ _ (Or.inl (fun e => by
      have : f.1 = 114 := congrArg Prod.fst e
      omega))
    obtain ⟨f1, f2⟩ := f
    unfold mm_fv
    rw [hI, hL, hRR]
    match f2, hf with
    | 0, _ => rfl
    | 1, _ => rfl
    | 2, hf => exact congrArg va_rf (hor _ (ho1 _ hf rfl))
    | f2 + 3, _ => rfl
  next hk =>
    rw [hI]
    split
    next h3 =>
      refine congrArg (fun f => Sum.inl (aC (mm_ax z.1), mm_ln z.1, Sum.inr (Sum.inr (Sum.inr (Sum.inr f))))) (funext fun j => ?_)
      split
      next hj =>
        rw [hR _ _ _ ?_]
        · exact hor _ (ho2 h3 j hj)
        · rcases hn with q | q
          · refine Or.inl (fun e => q ?_)
            have e1 : 100 + z.1 = 114 := congrArg Prod.fst e
            have e2 : z.2 = mm_nr h.1 14 := congrArg Prod.snd e
            have e3 : z.1 = 14 := by omega
            rw [← e2, ← e3]
            exact hz
          · exact Or.inr q
      next => rfl
    next => rfl
theorem mm_cv_re {φ φ' : Nat → Nat → Nat} {h : mm_H} {st : List mm_V} (hφ : ∀ z ∈ h.1, φ' z.1 z.2 = φ z.1 z.2) (ho : ∀ v ∈ st, mm_okV h v) : st.map (mm_cv φ') = st.map (mm_cv φ) := by
  refine List.map_congr_left fun v hv => ?_
  rcases v with x | x | q
  · rfl
  · rfl
  · exact congrArg Value.ref (hφ q (ho _ hv q rfl))
theorem mm_ws_new {aC : Nat → ClassId} {φ : Nat → Nat → Nat} {h : mm_H} {a nr qa : Nat} (hnot : (a, nr) ∉ h.1) (ho1 : ∀ z ∈ h.1, ∀ f ∈ mm_fs z.1, f.2 = 2 → (h.2.2.2 f.1 z.2 0).1 = 0 ∨ h.2.2.2 f.1 z.2 0 ∈ h.1) (ho2 : ∀ z ∈ h.1, mm_kd z.1 = 3 → ∀ j, j < mm_ln z.1 → (h.2.2.2 (100 + z.1) z.2 j).1 = 0 ∨ h.2.2.2 (100 + z.1) z.2 j ∈ h.1) {E : va_E} (hE : mm_ce aC (mm_ph φ a nr qa) (h.1 ++ [(a, nr)], h.2) (a, nr) = E) :
    mm_ws aC (mm_ph φ a nr qa) (h.1 ++ [(a, nr)], h.2) = mm_ws aC φ h ++ [(qa, E)] := by
  have hph : ∀ z ∈ h.1, mm_ph φ a nr qa z.1 z.2 = φ z.1 z.2 := fun z hz => mm_ph_ne (fun e => hnot (e ▸ hz))
  unfold mm_ws
  rw [List.map_append]
  congr 1
  · refine List.map_congr_left fun z hz => ?_
    rw [hph z hz, mm_ce_re (h' := (h.1 ++ [(a, nr)], h.2)) hz rfl rfl (fun _ _ _ _ => rfl) (Or.inr rfl) hph (ho1 z hz) (ho2 z hz)]
  · show [(mm_ph φ a nr qa a nr, mm_ce aC (mm_ph φ a nr qa) (h.1 ++ [(a, nr)], h.2) (a, nr))] = [(qa, E)]
    rw [mm_ph_at, hE]
set_option maxRecDepth 100000 in
theorem mm_s6 : (List.range 47).all (fun r => decide (mm_ln r ≤ 64)) = true := by decide +kernel
theorem mm_ln_le (r : Nat) : mm_ln r ≤ 64 := by
  by_cases hr : r < 47
  · exact of_decide_eq_true (List.all_eq_true.mp mm_s6 r (List.mem_range.mpr hr))
  · have : mm_ln r = 0 := by
      unfold mm_ln
      rw [List.getD_eq_getElem?_getD, List.getElem?_eq_none (by rw [mm_rk_len]; omega)]
      rfl
    omega
theorem mm_arr_ext {cA : ClassId} {N : Nat} {f g : Nat → Value} (h : ∀ j, j < N → f j = g j) : arrV cA N f = arrV cA N g := by
  unfold arrV
  congr 1
  congr 1
  funext j
  exact h j.1 j.2
/-- two pictures that agree wherever a cell has a place -/
def mm_agr (h1 h2 : mm_H) : Prop := h2.1 = h1.1 ∧ ∀ q ∈ h1.1, (mm_kd q.1 = 0 → ∀ f ∈ mm_fs q.1, (f.2 ≠ 1 → f.2 ≠ 2 → h2.2.1 f.1 q.2 0 = h1.2.1 f.1 q.2 0) ∧ (f.2 = 1 → h2.2.2.1 f.1 q.2 = h1.2.2.1 f.1 q.2) ∧ (f.2 = 2 → h2.2.2.2 f.1 q.2 0 = h1.2.2.2 f.1 q.2 0)) ∧ (mm_kd q.1 ≠ 0 → mm_kd q.1 ≠ 3 → ∀ j, j < mm_ln q.1 → h2.2.1 (100 + q.1) q.2 j = h1.2.1 (100 + q.1) q.2 j) ∧ (mm_kd q.1 = 3 → ∀ j, j < mm_ln q.1 → h2.2.2.2 (100 + q.1) q.2 j = h1.2.2.2 (100 + q.1) q.2 j)
theorem mm_agr_at {aC : Nat → ClassId} {φ : Nat → Nat → Nat} {h1 h2 : mm_H} {k : Nat} {q : Nat × va_E} (ha : mm_agr h1 h2) (hk : (mm_ws aC φ h2)[k]? = some q) : ∃ z, h1.1[k]? = some z ∧ z ∈ h1.1 ∧ q = (φ z.1 z.2, mm_ce aC φ h2 z) := by
  unfold mm_ws at hk
  rw [List.getElem?_map, ha.1] at hk
  cases hz : h1.1[k]? with
  | none => rw [hz] at hk; cases hk
  | some z =>
    rw [hz] at hk
    cases hk
    exact ⟨z, rfl, List.mem_of_getElem? hz, rfl⟩
theorem mm_P_agr {aC : Nat → ClassId} {φ : Nat → Nat → Nat} {h1 h2 : mm_H} {D : va_G} {H : Heap} (ha : mm_agr h1 h2) (hP : va_P D mm_cls (mm_ws aC φ h1) H) : va_P D mm_cls (mm_ws aC φ h2) H := by
  intro k q hk
  obtain ⟨z, hz, hm, rfl⟩ := mm_agr_at ha hk
  have h0 := hP k _ (mm_ws_at hz)
  obtain ⟨a1, a2, a3⟩ := ha.2 z hm
  by_cases k0 : mm_kd z.1 = 0
  · have e : mm_ce aC φ h2 z = mm_ce aC φ h1 z := by
      unfold mm_ce
      rw [if_pos k0, if_pos k0]
      refine congrArg _ (congrArg _ (List.map_congr_left fun f hf => ?_))
      obtain ⟨b1, b2, b3⟩ := a1 k0 f hf
      obtain ⟨f1, f2⟩ := f
      unfold mm_fv
      match f2, b1, b2, b3 with
      | 0, b1, _, _ => exact congrArg Value.int (b1 (by show (0 : Nat) ≠ 1; decide) (by show (0 : Nat) ≠ 2; decide))
      | 1, _, b2, _ => exact congrArg Value.long (b2 rfl)
      | 2, _, _, b3 => exact congrArg (fun x => va_rf (mm_or φ x)) (b3 rfl)
      | f2 + 3, b1, _, _ => exact congrArg Value.int (b1 (fun e => by have e2 : f2 + 3 = 1 := e; omega) (fun e => by have e2 : f2 + 3 = 2 := e; omega))
    rw [e]
    exact h0
  · by_cases k3 : mm_kd z.1 = 3
    · have e : mm_ce aC φ h2 z = mm_ce aC φ h1 z := by
        unfold mm_ce
        rw [if_neg k0, if_neg k0, if_pos k3, if_pos k3]
        refine congrArg (fun f => Sum.inl (aC (mm_ax z.1), mm_ln z.1, Sum.inr (Sum.inr (Sum.inr (Sum.inr f))))) (funext fun j => ?_)
        split
        next hj => rw [a3 k3 j hj]
        next => rfl
      rw [e]
      exact h0
    · unfold mm_ce at h0 ⊢
      rw [if_neg k0, if_neg k3] at h0 ⊢
      have h0 : H[φ z.1 z.2]? = some (vp_cell (aC (mm_ax z.1)) (mm_ln z.1, .inl (fun j => h1.2.1 (100 + z.1) z.2 j))) := h0
      show H[φ z.1 z.2]? = some (vp_cell (aC (mm_ax z.1)) (mm_ln z.1, .inl (fun j => h2.2.1 (100 + z.1) z.2 j)))
      rw [h0, vp_cell_i, vp_cell_i]
      exact congrArg some (mm_arr_ext fun j hj => congrArg Value.int (a2 k0 k3 j hj).symm)
theorem mm_D_agr {aC : Nat → ClassId} {φ : Nat → Nat → Nat} {h1 h2 : mm_H} {A : Nat → Prop} (ha : mm_agr h1 h2) (hD : va_D A (mm_ws aC φ h1)) : va_D A (mm_ws aC φ h2) := by
  refine ⟨fun i j x y hi hj hxy => ?_, fun k q hk => ?_⟩
  · obtain ⟨z, hz, -, rfl⟩ := mm_agr_at ha hi
    obtain ⟨w, hw, -, rfl⟩ := mm_agr_at ha hj
    exact hD.1 i j _ _ (mm_ws_at hz) (mm_ws_at hw) hxy
  · obtain ⟨z, hz, -, rfl⟩ := mm_agr_at ha hk
    exact hD.2 k (φ z.1 z.2, mm_ce aC φ h1 z) (mm_ws_at hz)
section MMN
variable {p : Program} {l : Launch} {e : Env} {R : Room} {s : State} {mi : MethodId} {args : Array Value} {below : List Frame} {meth : Method} {c : Code} {H : Heap} {locs : List Loc} {cells slots : Nat} {Q : State → Prop}
variable {m pc nx op a b : Nat} {k : Int} {zs : List Nat} {st : List mm_V} {ls : Array Slot} {φ : Nat → Nat → Nat} {i : Instr} {n : Nat} {D : va_G} {aC : Nat → ClassId} {A : Nat → Prop} {h : mm_H} {H0 : Heap}
theorem mm_w4 (hx : p.tables.exec = Jvm.exec) (hb : c.code = mm_bc m) (hown : s.vm.findClass (mm_cN (mm_ow m)) = some mi.cls) (hts : ∀ w ∈ mm_tb, w.before args s = true) (hK : mm_K D aC s) (hd : decode (mm_bc m) pc = .ok (i, n)) (hc0 : mm_c4 m op a b zs i n = true) {q : List mm_V × mm_H × Nat × Nat} (hs0 : mm_al op a b st h = some q) (hst : ∀ v ∈ st, mm_okV h v)
    (ho1 : ∀ z ∈ h.1, ∀ f ∈ mm_fs z.1, f.2 = 2 → (h.2.2.2 f.1 z.2 0).1 = 0 ∨ h.2.2.2 f.1 z.2 0 ∈ h.1) (ho2 : ∀ z ∈ h.1, mm_kd z.1 = 3 → ∀ j, j < mm_ln z.1 → (h.2.2.2 (100 + z.1) z.2 j).1 = 0 ∨ h.2.2.2 (100 + z.1) z.2 j ∈ h.1)
    (hroom : cells + q.2.2.1 ≤ R.cells ∧ slots + q.2.2.2 ≤ R.slots) (hP : va_P D mm_cls (mm_ws aC φ h) H) (hD : va_D A (mm_ws aC φ h)) (hS : va_S A H0 H locs) (hA : ∀ z, H0.size ≤ z → A z)
    (kk : ∀ φ' H', (∀ z ∈ h.1, φ' z.1 z.2 = φ z.1 z.2) → va_P D mm_cls (mm_ws aC φ' q.2.1) H' → va_D A (mm_ws aC φ' q.2.1) → va_S A H0 H' locs → W p l e R s mi args below meth c H' locs (cells + q.2.2.1) (slots + q.2.2.2) Q (F0 mi (pc + n) ls (q.1.map (mm_cv φ')))) : W p l e R s mi args below meth c H locs cells slots Q (F0 mi pc ls (st.map (mm_cv φ))) := by
  have harc := mm_arc_ok
  simp only [Bool.and_eq_true] at harc
  match op, hc0, hs0 with
  | 0, hc, hs =>
    simp only [mm_c4] at hc
    simp only [mm_al] at hs
    split at hc
    next z =>
      simp only [Bool.and_eq_true, beq_iff_eq, decide_eq_true_eq] at hc
      obtain ⟨⟨rfl, hcl⟩, hb12⟩ := hc
      split at hs
      next hh =>
        cases hs
        obtain ⟨hco, hk, h3, hnot, ha0, hall⟩ := hh
        have hin := List.all_eq_true.mp mm_in_ok b (List.mem_range.mpr hb12)
        simp only [Bool.and_eq_true] at hin
        have hborn := mm_born (a := a) (nr := mm_nr h.1 a) hk (by rw [hco]; exact hb12) h3
        rw [hco] at hborn
        refine va_new (ci := b) (fs := mm_df a) (C := mm_cN b) (T := mm_T b) (N := mm_N b) hx hb hts (mm_lays hb12) (fun j => mm_dt (mm_T b j).2.2.1) (mm_fds hb12) hown (hts _ (mm_tb_of hcl rfl)) (hts _ (mm_tb_of hin.1 rfl)) (hts _ (mm_tb_of hin.2 rfl)) hK.1 hP hD hS hA (mm_cls_at hb12) hborn hroom.1 hroom.2 hd (fun qa H1 hP1 hD1 hS1 => ?_)
        have hph : ∀ z ∈ h.1, mm_ph φ a (mm_nr h.1 a) qa z.1 z.2 = φ z.1 z.2 := fun z hz => mm_ph_ne (fun e => hnot (e ▸ hz))
        have hE : mm_ce aC (mm_ph φ a (mm_nr h.1 a) qa) (h.1 ++ [(a, mm_nr h.1 a)], h.2) (a, mm_nr h.1 a) = .inr (b, mm_df a) := by
          unfold mm_ce
          rw [if_pos hk, hco]
          refine congrArg _ (congrArg _ (List.map_congr_left fun f hf => ?_))
          have hz := List.all_eq_true.mp hall f hf
          simp only [Bool.and_eq_true, beq_iff_eq] at hz
          obtain ⟨f1, f2⟩ := f
          unfold mm_fv
          dsimp only at hz ⊢
          rw [hz.1.1, hz.1.2, hz.2]
          match f2 with
          | 0 => rfl
          | 1 => rfl
          | 2 => rfl
          | f2 + 3 => rfl
        have hws := mm_ws_new (aC := aC) (φ := φ) (qa := qa) hnot ho1 ho2 hE
        have := kk (mm_ph φ a (mm_nr h.1 a) qa) H1 hph (by rw [hws]; exact hP1) (by rw [hws]; exact hD1) hS1
        simp only [List.map_cons, mm_cv_re hph hst] at this
        simp only [mm_cv, mm_ph_at] at this
        exact this
      next => cases hs
    next => cases hc
  | 1, hc, hs =>
    simp only [mm_c4] at hc
    simp only [mm_al] at hs
    simp only [Bool.and_eq_true, beq_iff_eq] at hc
    obtain ⟨rfl, hc⟩ := hc
    split at hs
    next x t =>
      split at hs
      next hh =>
        cases hs
        obtain ⟨rfl, hk, hb1, hnot, hall⟩ := hh
        have hln := mm_ln_le a
        have hst' : ∀ v ∈ t, mm_okV h v := fun v hv => hst v (List.mem_cons_of_mem _ hv)
        have hz : ∀ j, j < mm_ln a → h.2.1 (100 + a) (mm_nr h.1 a) j = 0 := fun j hj => by
          have := List.all_eq_true.mp hall j (List.mem_range.mpr hj)
          exact eq_of_beq this
        obtain ⟨x1, x2, x3⟩ := mm_kx a
        match b, hc, hk with
        | 0, hc, hk =>
          cases of_decide_eq_true hc
          have hk : mm_kd a = 1 := hk
          have hwd : (Jvm.Cond.arrayClass .int).before args s = true := hts _ (mm_tb_of harc.1 rfl)
          refine va_newa (atype := .int) (ty := .int) (a0 := (mm_ln a, .inl (fun j => h.2.1 (100 + a) (mm_nr h.1 a) j))) hx hb hwd rfl hK.1 hP hD hS hA (fun cA => ?_) (nI_pos (by omega)) (nI_clamp (by omega)) (by show mm_ln a * 4 ≤ _; omega) hroom.1 hroom.2 hd (fun qa cA H1 hK1 hP1 hD1 hS1 => ?_)
          · rw [vp_cell_i]
            exact mm_arr_ext fun j hj => by rw [hz j hj]; rfl
          · have hcA : cA = aC 0 := by
              have e1 : s.vm.findClass ("[" ++ FieldType.int.toString) = some cA := (hK1.2 6 (cA, .int) rfl).2
              have e2 : s.vm.findClass ("[" ++ FieldType.int.toString) = some (aC 0) := (hK.1.2 0 (aC 0, .int) rfl).2
              exact Option.some.inj (e1.symm.trans e2)
            subst hcA
            have hph : ∀ z ∈ h.1, mm_ph φ a (mm_nr h.1 a) qa z.1 z.2 = φ z.1 z.2 := fun z hz => mm_ph_ne (fun e => hnot (e ▸ hz))
            have hE : mm_ce aC (mm_ph φ a (mm_nr h.1 a) qa) (h.1 ++ [(a, mm_nr h.1 a)], h.2) (a, mm_nr h.1 a) = .inl (aC 0, mm_ln a, .inl (fun j => h.2.1 (100 + a) (mm_nr h.1 a) j)) := by
              have k0 : ¬ mm_kd a = 0 := by omega
              have k3 : ¬ mm_kd a = 3 := by omega
              unfold mm_ce
              rw [if_neg k0, if_neg k3, x1 hk]
            have hws := mm_ws_new (aC := aC) (φ := φ) (qa := qa) hnot ho1 ho2 hE
            have := kk (mm_ph φ a (mm_nr h.1 a) qa) H1 hph (by rw [hws]; exact hP1) (by rw [hws]; exact hD1) hS1
            simp only [List.map_cons, mm_cv_re hph hst'] at this
            simp only [mm_cv, mm_ph_at] at this
            exact this
        | 1, hc, hk =>
          cases of_decide_eq_true hc
          have hk : mm_kd a = 2 := hk
          have hwd : (Jvm.Cond.arrayClass .byte).before args s = true := hts _ (mm_tb_of harc.2 rfl)
          refine va_newa (atype := .byte) (ty := .byte) (a0 := (mm_ln a, .inl (fun j => h.2.1 (100 + a) (mm_nr h.1 a) j))) hx hb hwd rfl hK.1 hP hD hS hA (fun cA => ?_) (nI_pos (by omega)) (nI_clamp (by omega)) (Nat.le_trans (Nat.mul_le_mul hln (show componentBytes .byte ≤ 8 by decide)) (by decide)) hroom.1 hroom.2 hd (fun qa cA H1 hK1 hP1 hD1 hS1 => ?_)
          · rw [vp_cell_i]
            exact mm_arr_ext fun j hj => by rw [hz j hj]; rfl
          · have hcA : cA = aC 1 := by
              have e1 : s.vm.findClass ("[" ++ FieldType.byte.toString) = some cA := (hK1.2 6 (cA, .byte) rfl).2
              have e2 : s.vm.findClass ("[" ++ FieldType.byte.toString) = some (aC 1) := (hK.1.2 1 (aC 1, .byte) rfl).2
              exact Option.some.inj (e1.symm.trans e2)
            subst hcA
            have hph : ∀ z ∈ h.1, mm_ph φ a (mm_nr h.1 a) qa z.1 z.2 = φ z.1 z.2 := fun z hz => mm_ph_ne (fun e => hnot (e ▸ hz))
            have hE : mm_ce aC (mm_ph φ a (mm_nr h.1 a) qa) (h.1 ++ [(a, mm_nr h.1 a)], h.2) (a, mm_nr h.1 a) = .inl (aC 1, mm_ln a, .inl (fun j => h.2.1 (100 + a) (mm_nr h.1 a) j)) := by
              have k0 : ¬ mm_kd a = 0 := by omega
              have k3 : ¬ mm_kd a = 3 := by omega
              unfold mm_ce
              rw [if_neg k0, if_neg k3, x2 hk]
            have hws := mm_ws_new (aC := aC) (φ := φ) (qa := qa) hnot ho1 ho2 hE
            have := kk (mm_ph φ a (mm_nr h.1 a) qa) H1 hph (by rw [hws]; exact hP1) (by rw [hws]; exact hD1) hS1
            simp only [List.map_cons, mm_cv_re hph hst'] at this
            simp only [mm_cv, mm_ph_at] at this
            exact this
        | b + 2, hc, hk => cases hc
      next => cases hs
    next => cases hs
  | 2, hc, hs =>
    simp only [mm_c4] at hc
    simp only [mm_al] at hs
    split at hc
    next z =>
      simp only [Bool.and_eq_true, beq_iff_eq, decide_eq_true_eq] at hc
      obtain ⟨⟨rfl, hcl⟩, hax⟩ := hc
      split at hs
      next x t =>
        split at hs
        next hh =>
          cases hs
          obtain ⟨rfl, hk, hnot, hall⟩ := hh
          have hln := mm_ln_le a
          have hst' : ∀ v ∈ t, mm_okV h v := fun v hv => hst v (List.mem_cons_of_mem _ hv)
          have hz : ∀ j, j < mm_ln a → h.2.2.2 (100 + a) (mm_nr h.1 a) j = (0, 0) := fun j hj => by
            have := List.all_eq_true.mp hall j (List.mem_range.mpr hj)
            exact eq_of_beq this
          have key : ∀ (C : String) (cA : ClassId) (qa : Nat) (H1 : Heap), cA = aC (mm_ax a) → va_P D mm_cls (mm_ws aC φ h ++ [(qa, .inl (cA, mm_ln a, .inr (.inr (.inr (.inr (fun _ => none))))))]) H1 → va_D A (mm_ws aC φ h ++ [(qa, .inl (cA, mm_ln a, .inr (.inr (.inr (.inr (fun _ => none))))))]) → va_S A H0 H1 locs → W p l e R s mi args below meth c H1 locs (cells + 1) (slots + mm_ln a) Q (F0 mi (pc + 3) ls (.ref qa :: t.map (mm_cv φ))) := by
            intro C cA qa H1 hcA hP1 hD1 hS1
            subst hcA
            have hph : ∀ z ∈ h.1, mm_ph φ a (mm_nr h.1 a) qa z.1 z.2 = φ z.1 z.2 := fun z hz => mm_ph_ne (fun e => hnot (e ▸ hz))
            have hE : mm_ce aC (mm_ph φ a (mm_nr h.1 a) qa) (h.1 ++ [(a, mm_nr h.1 a)], h.2) (a, mm_nr h.1 a) = .inl (aC (mm_ax a), mm_ln a, .inr (.inr (.inr (.inr (fun _ => none))))) := by
              have k0 : ¬ mm_kd a = 0 := by omega
              unfold mm_ce
              rw [if_neg k0, if_pos hk]
              refine congrArg (fun f => Sum.inl (aC (mm_ax a), mm_ln a, Sum.inr (Sum.inr (Sum.inr (Sum.inr f))))) (funext fun j => ?_)
              split
              next hj =>
                show mm_or _ (h.2.2.2 (100 + a) (mm_nr h.1 a) j) = none
                rw [hz j hj]
                rfl
              next => rfl
            have hws := mm_ws_new (aC := aC) (φ := φ) (qa := qa) hnot ho1 ho2 hE
            have := kk (mm_ph φ a (mm_nr h.1 a) qa) H1 hph (by rw [hws]; exact hP1) (by rw [hws]; exact hD1) hS1
            simp only [List.map_cons, mm_cv_re hph hst'] at this
            simp only [mm_cv, mm_ph_at] at this
            exact this
          have hcases : mm_ax a = 2 ∨ mm_ax a = 3 ∨ mm_ax a = 4 := by omega
          have e6 : (mm_ty aC).length = 6 := rfl
          rcases hcases with ea | ea | ea
          · rw [ea] at hcl
            refine va_newq (C := "SongToBridge$Keeper") hx hb hown (hts _ (mm_tb_of hcl rfl)) (hK.2.2.2.2.1 _ (by decide)) hK.1 hP hD hS hA (nI_pos (by omega)) (nI_clamp (by omega)) (by omega) hroom.1 hroom.2 hd (fun qa cA H1 hK1 hP1 hD1 hS1 => key "" cA qa H1 ?_ hP1 hD1 hS1)
            obtain ⟨_, _, -, -, -, e1⟩ := (hK1.2 6 (cA, .object "SongToBridge$Keeper") rfl).2
            obtain ⟨_, _, -, -, -, e2⟩ := (hK.1.2 2 (aC 2, .object "SongToBridge$Keeper") rfl).2
            rw [ea]
            exact Option.some.inj (e1.symm.trans e2)
          · rw [ea] at hcl
            refine va_newq (C := "SongToBridge$Bridge") hx hb hown (hts _ (mm_tb_of hcl rfl)) (hK.2.2.2.2.1 _ (by decide)) hK.1 hP hD hS hA (nI_pos (by omega)) (nI_clamp (by omega)) (by omega) hroom.1 hroom.2 hd (fun qa cA H1 hK1 hP1 hD1 hS1 => key "" cA qa H1 ?_ hP1 hD1 hS1)
            obtain ⟨_, _, -, -, -, e1⟩ := (hK1.2 6 (cA, .object "SongToBridge$Bridge") rfl).2
            obtain ⟨_, _, -, -, -, e2⟩ := (hK.1.2 3 (aC 3, .object "SongToBridge$Bridge") rfl).2
            rw [ea]
            exact Option.some.inj (e1.symm.trans e2)
          · rw [ea] at hcl
            refine va_newq (C := "SongToBridge$Singer") hx hb hown (hts _ (mm_tb_of hcl rfl)) (hK.2.2.2.2.1 _ (by decide)) hK.1 hP hD hS hA (nI_pos (by omega)) (nI_clamp (by omega)) (by omega) hroom.1 hroom.2 hd (fun qa cA H1 hK1 hP1 hD1 hS1 => key "" cA qa H1 ?_ hP1 hD1 hS1)
            obtain ⟨_, _, -, -, -, e1⟩ := (hK1.2 6 (cA, .object "SongToBridge$Singer") rfl).2
            obtain ⟨_, _, -, -, -, e2⟩ := (hK.1.2 4 (aC 4, .object "SongToBridge$Singer") rfl).2
            rw [ea]
            exact Option.some.inj (e1.symm.trans e2)
        next => cases hs
      next => cases hs
    next => cases hc
  | 3, hc, hs =>
    simp only [mm_c4] at hc
    simp only [mm_al] at hs
    split at hc
    next z d =>
      simp only [Bool.and_eq_true, beq_iff_eq] at hc
      obtain ⟨⟨rfl, rfl⟩, hcl⟩ := hc
      split at hs
      next x y t =>
        split at hs
        next hh =>
          cases hs
          obtain ⟨rfl, rfl, rfl, rfl, hnot, hnots, hall⟩ := hh
          have hst' : ∀ v ∈ t, mm_okV h v := fun v hv => hst v (by simp [hv])
          have hz : ∀ x, x < 6 → ∀ j, j < 6 → h.2.1 115 (mm_nr h.1 15 + x) j = 0 := fun x hx j hj => by
            have := List.all_eq_true.mp (List.all_eq_true.mp hall x (List.mem_range.mpr hx)) j (List.mem_range.mpr hj)
            exact eq_of_beq this
          have hcy : s.vm.findClass (FieldType.array .int).toString = some (aC 0) := (hK.1.2 0 (aC 0, .int) rfl).2
          have e0 : mm_ws aC φ h ++ va_pl [] (fun _ => .inr (0, [])) = mm_ws aC φ h := List.append_nil _
          refine va_mna (X := mm_ws aC φ h) (L := []) (f := fun _ => .inr (0, [])) (ty := .int) (cy := aC 0) (z := (6, .inl (fun _ => 0))) hx hb hown (hts _ (mm_tb_of hcl rfl)) hK.2.2.2.2.2 (hts _ (mm_tb_of harc.1 rfl)) hcy hK.1 (by rw [e0]; exact hP) (by rw [e0]; exact hD) hS hA (N' := 6) (K' := 6) (by decide) (by decide) rfl rfl (by decide) (by decide) (by decide) rfl rfl hroom.1 hroom.2 (fun c9 => ?_) hd (fun qa r cA H1 hinj hnl hK1 hP1 hD1 hS1 => ?_)
          · rw [vp_cell_i]
            show ({ cls := c9, slots := Array.replicate 6 (.int 0), vm := .none } : Cell) = _
            rfl
          · have hcA : cA = aC 5 := by
              have e1 : s.vm.findClass ("[" ++ (FieldType.array .int).toString) = some cA := (hK1.2 6 (cA, .array .int) rfl).2
              have e2 : s.vm.findClass ("[" ++ (FieldType.array .int).toString) = some (aC 5) := (hK.1.2 5 (aC 5, .array .int) rfl).2
              exact Option.some.inj (e1.symm.trans e2)
            subst hcA
            obtain ⟨φ', hφ'⟩ : ∃ φ' : Nat → Nat → Nat, φ' = fun ρ j => if ρ = 14 ∧ j = mm_nr h.1 14 then qa else if ρ = 15 ∧ mm_nr h.1 15 ≤ j ∧ j < mm_nr h.1 15 + 6 then r (j - mm_nr h.1 15) else φ ρ j := ⟨_, rfl⟩
            have hph : ∀ z ∈ h.1, φ' z.1 z.2 = φ z.1 z.2 := by
              intro z hzm
              rw [hφ']
              dsimp only
              rw [if_neg (fun e => hnot (by rw [← e.2, ← e.1]; exact hzm)), if_neg (fun e => hnots (z.2 - mm_nr h.1 15) (by omega) (by rw [show mm_nr h.1 15 + (z.2 - mm_nr h.1 15) = z.2 by omega, ← e.1]; exact hzm))]
            have h14 : φ' 14 (mm_nr h.1 14) = qa := by rw [hφ']; simp
            have h15 : ∀ j, j < 6 → φ' 15 (mm_nr h.1 15 + j) = r j := by
              intro j hj
              rw [hφ']
              dsimp only
              rw [if_neg (by omega), if_pos ⟨rfl, by omega, by omega⟩, show mm_nr h.1 15 + j - mm_nr h.1 15 = j by omega]
            obtain ⟨R', hR'⟩ : ∃ R' : mm_HR, R' = fun c i j => if c = 114 ∧ i = mm_nr h.1 14 ∧ j < 6 then (15, mm_nr h.1 15 + j) else h.2.2.2 c i j := ⟨_, rfl⟩
            obtain ⟨I', hI'⟩ : ∃ I' : mm_HI, I' = fun c i j => if c = 115 ∧ mm_nr h.1 15 ≤ i ∧ i < mm_nr h.1 15 + 6 then 0 else h.2.1 c i j := ⟨_, rfl⟩
            rw [← hR'] at kk
            have k14 : mm_kd 14 = 3 := by decide +kernel
            have k15 : mm_kd 15 = 1 := by decide +kernel
            have l14 : mm_ln 14 = 6 := by decide +kernel
            have l15 : mm_ln 15 = 6 := by decide +kernel
            have x14 : mm_ax 14 = 5 := by decide +kernel
            have x15 : mm_ax 15 = 0 := by decide +kernel
            have hold : ∀ z ∈ h.1, mm_ce aC φ' (h.1 ++ [(14, mm_nr h.1 14)] ++ (List.range 6).map (fun j => (15, mm_nr h.1 15 + j)), I', h.2.2.1, R') z = mm_ce aC φ h z := by
              intro z hzm
              have e1 : mm_ce aC φ' (h.1 ++ [(14, mm_nr h.1 14)] ++ (List.range 6).map (fun j => (15, mm_nr h.1 15 + j)), I', h.2.2.1, R') z = mm_ce aC φ' (h.1, h.2.1, h.2.2.1, R') z := by
                have key : ∀ c, (c ≠ 115 ∨ z.1 = 15) → I' c z.2 = h.2.1 c z.2 := by
                  intro c hc9
                  funext j
                  rw [hI']
                  dsimp only
                  rw [if_neg]
                  rintro ⟨e1, e2, e3⟩
                  rcases hc9 with q | q
                  · exact q e1
                  · exact hnots (z.2 - mm_nr h.1 15) (by omega) (by rw [show mm_nr h.1 15 + (z.2 - mm_nr h.1 15) = z.2 by omega, ← q]; exact hzm)
                unfold mm_ce
                split
                next hk =>
                  refine congrArg _ (congrArg _ (List.map_congr_left fun f hf => ?_))
                  obtain ⟨x, hx9⟩ := List.getElem?_of_mem hf
                  have hfx := mm_fsx (c := f.1) (ty := f.2) hx9
                  unfold mm_fv
                  dsimp only
                  rw [key f.1 (Or.inl (by omega))]
                next hk =>
                  dsimp only
                  rw [key (100 + z.1) (by omega)]
              rw [e1]
              refine mm_ce_re (h' := (h.1, h.2.1, h.2.2.1, R')) hzm rfl rfl (fun c9 i9 j9 hcond => ?_) (Or.inl hnot) hph (ho1 z hzm) (ho2 z hzm)
              rcases hcond with q | q
              · show R' c9 i9 j9 = _
                rw [hR']
                dsimp only
                rw [if_neg (fun e => q (by rw [e.1, e.2.1]))]
              · exact congrFun (congrFun (congrFun q c9) i9) j9
            have hw : mm_ws aC φ' (h.1 ++ [(14, mm_nr h.1 14)] ++ (List.range 6).map (fun j => (15, mm_nr h.1 15 + j)), I', h.2.2.1, R') = (mm_ws aC φ h ++ [(qa, .inl (aC 5, 6, .inr (.inr (.inr (.inr (fun i => if i < 6 then some (r i) else none))))))]) ++ va_pl ([] ++ (List.range 6).map r) (vr_up (fun _ => .inr (0, [])) ((List.range 6).map r) (.inl (aC 0, 6, .inl (fun _ => 0)))) := by
              unfold mm_ws
              dsimp only
              rw [List.map_append, List.map_append]
              congr 1
              · congr 1
                · refine List.map_congr_left fun z hzm => ?_
                  rw [hph z hzm, hold z hzm]
                · show [(φ' 14 (mm_nr h.1 14), mm_ce aC φ' _ (14, mm_nr h.1 14))] = _
                  rw [h14]
                  unfold mm_ce
                  have n0 : ¬ mm_kd 14 = 0 := by omega
                  rw [if_neg n0, if_pos k14, x14, l14]
                  refine congrArg (fun f => [(qa, Sum.inl (aC 5, 6, Sum.inr (Sum.inr (Sum.inr (Sum.inr f)))))]) (funext fun j => ?_)
                  dsimp only
                  split
                  next hj =>
                    rw [hR']
                    dsimp only
                    rw [if_pos ⟨rfl, rfl, hj⟩]
                    unfold mm_or
                    rw [if_neg (by show ¬ (15 : Nat) = 0; decide)]
                    exact congrArg some (h15 j hj)
                  next => rfl
              · unfold va_pl
                rw [List.nil_append, List.map_map, List.map_map]
                refine List.map_congr_left fun j hj => ?_
                have hj := List.mem_range.mp hj
                show (φ' 15 (mm_nr h.1 15 + j), mm_ce aC φ' _ (15, mm_nr h.1 15 + j)) = (r j, vr_up _ _ _ (r j))
                rw [h15 j hj, vr_up_in (List.mem_map.mpr ⟨j, List.mem_range.mpr hj, rfl⟩)]
                unfold mm_ce
                have n0 : ¬ mm_kd 15 = 0 := by omega
                have n3 : ¬ mm_kd 15 = 3 := by omega
                rw [if_neg n0, if_neg n3, x15, l15]
                refine congrArg (fun f => (r j, Sum.inl (aC 0, 6, Sum.inl f))) (funext fun x => ?_)
                rw [hI']
                dsimp only
                rw [if_pos ⟨rfl, by omega, by omega⟩]
            have hag : mm_agr (h.1 ++ [(14, mm_nr h.1 14)] ++ (List.range 6).map (fun j => (15, mm_nr h.1 15 + j)), I', h.2.2.1, R') (h.1 ++ [(14, mm_nr h.1 14)] ++ (List.range 6).map (fun j => (15, mm_nr h.1 15 + j)), h.2.1, h.2.2.1, R') := by
              refine ⟨rfl, fun z hzm => ⟨fun _ f hf => ⟨fun _ _ => ?_, fun _ => rfl, fun _ => rfl⟩, fun n0 n3 j hj => ?_, fun _ _ _ => rfl⟩⟩
              · obtain ⟨x, hx9⟩ := List.getElem?_of_mem hf
                have hfx := mm_fsx (c := f.1) (ty := f.2) hx9
                show h.2.1 f.1 z.2 0 = I' f.1 z.2 0
                rw [hI']
                dsimp only
                rw [if_neg (by omega)]
              · show h.2.1 (100 + z.1) z.2 j = I' (100 + z.1) z.2 j
                rw [hI']
                dsimp only
                split
                next e =>
                  have e15 : z.1 = 15 := by omega
                  rw [e15, l15] at hj
                  have := hz (z.2 - mm_nr h.1 15) (by omega) j hj
                  rw [show mm_nr h.1 15 + (z.2 - mm_nr h.1 15) = z.2 by omega] at this
                  rw [e15]
                  exact this
                next => rfl
            have hPa : va_P D mm_cls (mm_ws aC φ' (h.1 ++ [(14, mm_nr h.1 14)] ++ (List.range 6).map (fun j => (15, mm_nr h.1 15 + j)), I', h.2.2.1, R')) H1 := by rw [hw]; exact hP1
            have hDa : va_D A (mm_ws aC φ' (h.1 ++ [(14, mm_nr h.1 14)] ++ (List.range 6).map (fun j => (15, mm_nr h.1 15 + j)), I', h.2.2.1, R')) := by rw [hw]; exact hD1
            have := kk φ' H1 hph (mm_P_agr hag hPa) (mm_D_agr hag hDa) hS1
            simp only [List.map_cons, mm_cv_re hph hst'] at this
            simp only [mm_cv, h14] at this
            exact this
        next => cases hs
      next => cases hs
    next => cases hc
  | op + 4, hc, hs => simp [mm_c4] at hc
end MMN
