/-! the law's start: the tables, the two objects -/
set_option maxRecDepth 100000 in
theorem lw_tab : (mm_wd 1157 (.castable "SongToBridge$Worn" "SongToBridge$Deaf") && mm_wd 1158 (.castable "SongToBridge$Deaf" "SongToBridge$Keeper") && mm_wd 1159 (.castable "SongToBridge$Echo" "SongToBridge$Keeper") && mm_wd 1160 (.castable "SongToBridge$Worn" "SongToBridge$Keeper") && mm_wd 86 (.arrayOver (.object "SongToBridge$Keeper")) && mm_wd 121 (.arrayOver (.object "SongToBridge$Bridge")) && mm_wd 123 (.arrayOver (.object "SongToBridge$Singer")) && mm_wd 125 (.arrayOver (.array .int)) && mm_wd 59 (.classLink R_law 7 (mm_cN 0)) && mm_wd 759 (.classLink R_law 10 (mm_cN 11)) && mm_wd 61 (.methodLink R_law 9 (mm_y 0)) && mm_wd 62 (.instanceMethod (mm_y 0)) && mm_wd 761 (.methodLink R_law 12 (mm_y 112)) && mm_wd 762 (.instanceMethod (mm_y 112))) = true := by decide +kernel
set_option maxRecDepth 100000 in
theorem lw_nums : mm_rf 0 + 1 ≤ 9 ∧ 8 + (mm_mL 0 + 11) + mm_rl 0 ≤ 346 ∧ mm_rf 112 + 1 ≤ 9 ∧ 8 + (mm_mL 112 + 11) + mm_rl 112 ≤ 346 ∧ mm_rt 0 = none ∧ mm_rt 112 = none ∧ (mm_y 0).name = "<init>" ∧ (mm_y 112).name = "<init>" ∧ mm_na 0 = 0 ∧ mm_na 112 = 0 ∧ mm_N 0 = 7 ∧ mm_N 11 = 45 ∧ mm_mc 0 = 89 ∧ mm_ms 0 = 587 ∧ mm_mc 112 = 26 ∧ mm_ms 112 = 419 ∧ mm_mL 0 = 1 ∧ mm_mL 112 = 1 := by decide +kernel
theorem lw_arrC {A : Array Value} {s : State} {t : FieldType} (h : (Jvm.Cond.arrayClass t).before A s = true) : ∃ cA : ClassId, ArrOfT s cA t ∧ s.vm.findClass ("[" ++ t.toString) = some cA := by
  simp only [Jvm.Cond.before, Jvm.Cond.holds, Jvm.Cond.value] at h
  cases h1 : s.vm.findClass ("[" ++ t.toString) with
  | none => simp [h1] at h
  | some c =>
    cases h2 : s.vm.classes[c]? with
    | none => simp [h1, h2] at h
    | some k =>
      simp [h1, h2] at h
      cases hk : k.kind with
      | array comp ty =>
        simp [hk] at h
        subst h
        exact ⟨c, fun n z => ⟨fun k9 h9 => (by cases h9), k, h2, comp, hk⟩, rfl⟩
      | _ => simp [hk] at h
theorem lw_arrO {A : Array Value} {s : State} {C : String} (h : (Jvm.Cond.arrayOver (.object C)).before A s = true) : ∃ cA : ClassId, ArrOfT s cA (.object C) ∧ va_RA s cA (.object C) := by
  obtain ⟨comp, c, k, h1, h2, h3, h4, h5⟩ := Cond.arrayOver_spec h
  exact ⟨c, fun n z => ⟨fun k9 h9 => (by cases h9), k, h3, comp, h4⟩, k, comp, h3, h4, h1, h5⟩
theorem lw_arrA {A : Array Value} {s : State} {t : FieldType} (h : (Jvm.Cond.arrayOver (.array t)).before A s = true) : ∃ cA : ClassId, ArrOfT s cA (.array t) ∧ va_RA s cA (.array t) := by
  obtain ⟨comp, c, k, h1, h2, h3, h4, h5⟩ := arrayOverA_spec h
  exact ⟨c, fun n z => ⟨fun k9 h9 => (by cases h9), k, h3, comp, h4⟩, h5⟩
theorem lw_K {s : State} {b : Nat} (hts : ∀ w ∈ lw_tbl, w.before #[Value.ref b] s = true) (hgv : (Jvm.Cond.and given_1 narrow_1).before #[Value.ref b] s = true) : ∃ (D : va_G) (aC : Nat → ClassId), mm_K D aC s := by
  have htb : ∀ w ∈ mm_tb, w.before #[Value.ref b] s = true := fun w hw => hts w (List.mem_filter.mp hw).1
  have ht : ∀ {i : Nat} {w : Jvm.Cond}, mm_wd i w = true → w.before #[Value.ref b] s = true := fun h => hts _ (List.mem_of_getElem? (of_decide_eq_true h))
  have htab := lw_tab
  simp only [Bool.and_eq_true] at htab
  obtain ⟨⟨⟨⟨⟨⟨⟨⟨⟨⟨⟨⟨⟨c1, c2⟩, c3⟩, c4⟩, o1⟩, o2⟩, o3⟩, o4⟩, -⟩, -⟩, -⟩, -⟩, -⟩, -⟩ := htab
  have harc := mm_arc_ok
  simp only [Bool.and_eq_true] at harc
  have hcl : ∀ ci, ci < 12 → ∃ (cC : ClassId) (iS : Nat → Nat), u_Kn s (mm_cN ci) (mm_T ci) (mm_N ci) cC iS := by
    intro ci hci
    have hin := List.all_eq_true.mp mm_in_ok ci (List.mem_range.mpr hci)
    simp only [Bool.and_eq_true] at hin
    exact u_known (n := mm_N ci) htb (mm_lays hci) (ht hin.1)
  obtain ⟨dd, hdd⟩ : ∃ dd : Nat → ClassId × (Nat → Nat), ∀ ci, ci < 12 → u_Kn s (mm_cN ci) (mm_T ci) (mm_N ci) (dd ci).1 (dd ci).2 := by
    refine ⟨fun k => @dite _ (k < 12) (Classical.propDecidable _) (fun h => ((hcl k h).choose, (hcl k h).choose_spec.choose)) (fun _ => ((hcl 0 (by decide)).choose, fun _ => 0)), fun ci h => ?_⟩
    simp only [dif_pos h]
    exact (hcl ci h).choose_spec.choose_spec
  obtain ⟨a0, a0a, a0b⟩ := lw_arrC (ht harc.1)
  obtain ⟨a1, a1a, a1b⟩ := lw_arrC (ht harc.2)
  obtain ⟨a2, a2a, a2b⟩ := lw_arrO (ht o1)
  obtain ⟨a3, a3a, a3b⟩ := lw_arrO (ht o2)
  obtain ⟨a4, a4a, a4b⟩ := lw_arrO (ht o3)
  obtain ⟨a5, a5a, a5b⟩ := lw_arrA (ht o4)
  have hs := flat_of_before _ hgv
  refine ⟨(fun k => (dd k).1, fun k => (dd k).2), fun j => match j with | 0 => a0 | 1 => a1 | 2 => a2 | 3 => a3 | 4 => a4 | _ => a5, ⟨fun k q hq => ?_, fun k q hq => ?_⟩, ?_, ?_, ?_, ?_, ht o4⟩
  · have hk : k < 12 := by
      have := (List.getElem?_eq_some_iff.mp hq).1
      simpa [mm_cls] using this
    rw [mm_cls_at hk] at hq
    cases hq
    exact hdd k hk
  · match k, hq with
    | 0, hq => cases hq; exact ⟨a0a, a0b⟩
    | 1, hq => cases hq; exact ⟨a1a, a1b⟩
    | 2, hq => cases hq; exact ⟨a2a, a2b⟩
    | 3, hq => cases hq; exact ⟨a3a, a3b⟩
    | 4, hq => cases hq; exact ⟨a4a, a4b⟩
    | 5, hq => cases hq; exact ⟨a5a, a5b⟩
    | k + 6, hq => simp [mm_ty] at hq
  · intro q hq
    simp only [mm_nc, List.mem_cons, List.not_mem_nil, or_false] at hq
    rcases hq with rfl | rfl | rfl | rfl | rfl | rfl | rfl | rfl
    · exact va_Nc.of (hs (.not (.castable "SongToBridge$Keeper" "SongToBridge$Deaf")) (by decide +kernel))
    · exact va_Nc.of (hs (.not (.castable "SongToBridge$Echo" "SongToBridge$Deaf")) (by decide +kernel))
    · exact va_Nc.of (hs (.not (.castable "SongToBridge$Keeper" "SongToBridge$Echo")) (by decide +kernel))
    · exact va_Nc.of (hs (.not (.castable "SongToBridge$Deaf" "SongToBridge$Echo")) (by decide +kernel))
    · exact va_Nc.of (hs (.not (.castable "SongToBridge$Worn" "SongToBridge$Echo")) (by decide +kernel))
    · exact va_Nc.of (hs (.not (.castable "SongToBridge$Keeper" "SongToBridge$Worn")) (by decide +kernel))
    · exact va_Nc.of (hs (.not (.castable "SongToBridge$Deaf" "SongToBridge$Worn")) (by decide +kernel))
    · exact va_Nc.of (hs (.not (.castable "SongToBridge$Echo" "SongToBridge$Worn")) (by decide +kernel))
  · intro o9 k9 y9 hcm
    exact va_Nw.of rfl (hts _ (mm_cm_w hcm _ List.mem_cons_self))
  · intro q hq
    simp only [mm_ca, List.mem_cons, List.not_mem_nil, or_false] at hq
    rcases hq with rfl | rfl | rfl | rfl
    · exact va_Nw.of rfl (ht c1)
    · exact va_Nw.of rfl (ht c2)
    · exact va_Nw.of rfl (ht c3)
    · exact va_Nw.of rfl (ht c4)
  · intro C hC
    simp only [mm_ao, List.mem_cons, List.not_mem_nil, or_false] at hC
    rcases hC with rfl | rfl | rfl
    · exact va_AO.of (ht o1)
    · exact va_AO.of (ht o2)
    · exact va_AO.of (ht o3)
theorem lw_okN (r : Nat) (h3 : r ≠ 3) : mm_okH (mm_new r) := by
  refine ⟨fun q hq e => ?_, fun q hq f hf h2 => Or.inl rfl, fun q hq hk j hj => Or.inl rfl⟩
  have hq : q ∈ [(r, 0)] := hq
  rw [List.mem_singleton.mp hq] at e
  exact absurd e h3
theorem lw_wsN {aC : Nat → ClassId} {φ : Nat → Nat → Nat} {r ci q : Nat} (hk : mm_kd r = 0) (hco : mm_co r 0 = ci) (hq : φ r 0 = q) : mm_ws aC φ (mm_new r) = [(q, .inr (ci, mm_df r))] := by
  show [(φ r 0, mm_ce aC φ (mm_new r) (r, 0))] = _
  rw [hq]
  have e : mm_ce aC φ (mm_new r) (r, 0) = .inr (ci, mm_df r) := by
    unfold mm_ce
    rw [if_pos hk, hco]
    refine congrArg _ (congrArg _ (List.map_congr_left fun f hf => ?_))
    obtain ⟨f1, f2⟩ := f
    match f2 with
    | 0 => rfl
    | 1 => rfl
    | 2 => rfl
    | f2 + 3 => rfl
  rw [e]
theorem lw_Pl {D : va_G} {cls : List vw_C} {w1 w2 : va_W} {H : Heap} (h : va_P D cls (w1 ++ w2) H) : va_P D cls w1 H := fun k q hk => h k q (by rw [List.getElem?_append_left (List.getElem?_eq_some_iff.mp hk).1]; exact hk)
theorem lw_Pr {D : va_G} {cls : List vw_C} {w1 w2 : va_W} {H : Heap} (h : va_P D cls (w1 ++ w2) H) : va_P D cls w2 H := fun k q hk => h (w1.length + k) q (by rw [List.getElem?_append_right (by omega), show w1.length + k - w1.length = k by omega]; exact hk)
theorem lw_Dl {A : Nat → Prop} {w1 w2 : va_W} (h : va_D A (w1 ++ w2)) : va_D A w1 := ⟨fun i j x y hi hj e => h.1 i j x y (by rw [List.getElem?_append_left (List.getElem?_eq_some_iff.mp hi).1]; exact hi) (by rw [List.getElem?_append_left (List.getElem?_eq_some_iff.mp hj).1]; exact hj) e, fun k q hk => h.2 k q (by rw [List.getElem?_append_left (List.getElem?_eq_some_iff.mp hk).1]; exact hk)⟩
theorem lw_Dx {A : Nat → Prop} {w1 w2 : va_W} (h : va_D A (w1 ++ w2)) {i j : Nat} {x y : Nat × va_E} (hi : w1[i]? = some x) (hj : w2[j]? = some y) : x.1 ≠ y.1 := by
  intro e
  have hl := (List.getElem?_eq_some_iff.mp hi).1
  have := h.1 i (w1.length + j) x y (by rw [List.getElem?_append_left hl]; exact hi) (by rw [List.getElem?_append_right (by omega), show w1.length + j - w1.length = j by omega]; exact hj) e
  omega
set_option maxRecDepth 100000 in
theorem lw_rC : mm_idC.all (fun z => decide (z.1 ≠ 9) && decide (z.1 < 21)) = true := by decide +kernel
set_option maxRecDepth 100000 in
theorem lw_rM : mm_idM.all (fun z => decide (z.1 = 9) || decide (21 ≤ z.1)) = true := by decide +kernel
section LWS
variable {p : Program} {e : Env} {s : State} {mi : MethodId} {below : List Frame} {meth : Method} {c : Code}
theorem lw_begin (Rl : Nat → mm_H → mm_H → Prop) (hRid : ∀ k a b, Rl k a b → lw_ids a b) (hops : lw_ops Rl) (hop0 : ∀ k hC hM, k < 64 → Rl k hC hM → Rl (k + 1) hC hM) (hR0 : Rl 0 (mm_idC, mm_IC0, fun _ _ => 0, mm_RS (fun _ => 0)) (mm_idM, fun _ _ _ => 0, fun _ _ => 0, mm_RM)) (l : Launch) {b L : Nat} {xs : Nat → Int32} (hL : L ≤ 384) (C0 : lw_At p s mi meth c b L xs) : W p l e room_1 s mi #[Value.ref b] below meth c s.heap [] 0 0 (lw_Z below #[Value.ref b] s) (entryFrame mi ([Value.ref b] : List Value).toArray 4) := by
  obtain ⟨hx, hb, hr, hml, hown, hts, hX, hbl, hlocks, hgv⟩ := C0
  obtain ⟨D, aC, hK⟩ := lw_K hts hgv
  have htb : ∀ w ∈ mm_tb, w.before #[Value.ref b] s = true := fun w hw => hts w (List.mem_filter.mp hw).1
  have ht : ∀ {i : Nat} {w : Jvm.Cond}, mm_wd i w = true → w.before #[Value.ref b] s = true := fun h => hts _ (List.mem_of_getElem? (of_decide_eq_true h))
  have htab := lw_tab
  simp only [Bool.and_eq_true] at htab
  obtain ⟨⟨⟨⟨⟨⟨-, t9⟩, t10⟩, t11⟩, t12⟩, t13⟩, t14⟩ := htab
  obtain ⟨n1, n2, n3, n4, n5, n6, n7, n8, n9, n10, n11, n12, n13, n14, n15, n16, n17, n18⟩ := lw_nums
  obtain ⟨hid0, hid1, hokC, hokM⟩ := hRid _ _ _ hR0
  have hA : ∀ q : Nat, s.heap.size ≤ q → (fun q : Nat => s.heap.size ≤ q) q := fun _ h => h
  have hin0 := List.all_eq_true.mp mm_in_ok 0 (List.mem_range.mpr (by decide))
  have hin11 := List.all_eq_true.mp mm_in_ok 11 (List.mem_range.mpr (by decide))
  simp only [Bool.and_eq_true] at hin0 hin11
  have hS : va_S (fun q : Nat => s.heap.size ≤ q) s.heap s.heap [] := va_S.rf
  have hP : va_P D mm_cls [] s.heap := fun k q h => by simp at h
  have hD : va_D (fun q : Nat => s.heap.size ≤ q) [] := ⟨fun i j p q h => by simp at h, fun k q h => by simp at h⟩
  have hl := lv_entry ([.ref b]) (n := 4) (Nat.le_of_ble_eq_true rfl)
  rw [lg_entry_eq]
  generalize (lg_sl ([.ref b]) ++ List.replicate (4 - (lg_sl ([.ref b])).length) Slot.unset).toArray = ls at hl ⊢
  have hl : lv_has ls 4 [(0, .ref b)] := hl
  have born0 := mm_born (a := 1) (nr := 0) lw_co1.2.1 (by rw [lw_co1.1]; decide) (fun h9 => by omega)
  rw [lw_co1.1] at born0
  refine va_new (ci := 0) (fs := mm_df 1) (C := mm_cN 0) (T := mm_T 0) (N := mm_N 0) hx hb htb (mm_lays (by decide)) (fun j => mm_dt (mm_T 0 j).2.2.1) (mm_fds (by decide)) hown (ht t9) (ht hin0.1) (ht hin0.2) hK.1 hP hD hS hA (mm_cls_at (by decide)) born0 (by decide) (by rw [n11]; decide) dl_0 (fun q1 H hP hD hS => ?_)
  refine lv_dup hx hb dl_3 rfl ?_
  obtain ⟨φ1, hφ1⟩ : ∃ φ1 : Nat → Nat → Nat, φ1 = fun _ _ => q1 := ⟨_, rfl⟩
  have hws1 : mm_ws aC φ1 (mm_new 1) = [(q1, .inr (0, mm_df 1))] := lw_wsN lw_co1.2.1 lw_co1.1 (by rw [hφ1])
  have hP : va_P D mm_cls (mm_ws aC φ1 (mm_new 1)) H := by rw [hws1]; exact hP
  have hD : va_D (fun q : Nat => s.heap.size ≤ q) (mm_ws aC φ1 (mm_new 1)) := by rw [hws1]; exact hD
  obtain ⟨h1, hrun1, hag1⟩ := mm_cok_ok mm_ctC
  have hsp1 : (mm_sp [.inr (.inr (1, 0))]).length ≤ mm_mL 0 := by rw [n17]; decide
  have ho1 : mm_okS (mm_new 1) [.inr (.inr (1, 0))] := fun w hw q e => by
    rw [List.mem_singleton.mp hw] at e
    cases e
    exact List.mem_singleton.mpr rfl
  have hM1 := mm_met l D aC 20000 0 [.inr (.inr (1, 0))] (mm_new 1) h1 none (by decide) hrun1 hsp1 (lw_okN 1 (by decide)) ho1 φ1 H.size
  obtain ⟨g1, g2, g3, g4, g5, -⟩ := mm_m_w (m := 0) (by decide)
  have hcb1 : CallB room_1 s #[Value.ref b] R_law 9 (mm_y 0) (mm_bc 0) (mm_mL 0) (mm_rt 0) (mm_wm 0) (mm_rm 0) (mm_mc 0) (mm_ms 0) (mm_na 0) := callB_of (mm_na 0) htb (mm_wm_in (by decide)) rfl rfl rfl (htb _ g2) (ht t11) ⟨g4, g5, g3⟩ ⟨n1, n2⟩
  rw [n5] at hcb1
  have hq1 : Value.ref q1 = .ref (φ1 1 0) := by rw [hφ1]
  have hr1 := va_runI (p := p) (l := l) (e := e) (m := mi) (below := below) (meth := meth) (c := c) (locs := []) (cells := 0 + 1) (slots := 0 + mm_N 0) (g := F0 mi (0 + 3 + 1) ls [.ref q1, .ref q1]) (rest := [.ref q1]) (b := φ1 1 0) (As := []) ⟨hx, hb, hml, hown, htb⟩ hM1 ⟨hcb1, n7, ht t12⟩ (mm_pre (as := [.inr (.inr (1, 0))]) hK hP hD) rfl (by rw [n9]; rfl) hl.1 (by rw [hq1]; rfl) (Nat.le_of_ble_eq_true rfl) dl_4 (by rw [n11, n13, n14]; decide)
  refine mm_callF hr1 hS (fun z hz => ?_) (fun φ2 H1 locs1 hφ2 hP1 hD1 hk1 hS1 => ?_)
  · rcases hz with ⟨k9, e9, hk9⟩ | hz
    · exact hD.2 k9 _ hk9
    · exact Nat.le_trans hS.1 hz
  have hq2 : φ2 1 0 = q1 := by rw [hφ2 (1, 0) (List.mem_singleton.mpr rfl), hφ1]
  have hP1 := mm_P_agr hag1 hP1
  have hD1 : va_D (fun q : Nat => s.heap.size ≤ q) (mm_ws aC φ2 (mm_idC, mm_IC0, fun _ _ => 0, mm_RS (fun _ => 0))) := mm_D_agr hag1 (hD1.weaken (fun k9 q9 _ h9 => by
    rcases h9 with ⟨k8, e8, hk8⟩ | h9
    · exact hD.2 k8 (q9.1, e8) hk8
    · exact Nat.le_trans hS.1 h9))
  refine lv_astore_n (lv' := [(1, .ref q1), (0, .ref b)]) hx hb dl_7 rfl hl (by decide) rfl (fun ls hl => ?_)
  have born11 := mm_born (a := 9) (nr := 0) lw_co9.2.1 (by rw [lw_co9.1]; decide) (fun h9 => by omega)
  rw [lw_co9.1] at born11
  refine va_new (ci := 11) (fs := mm_df 9) (C := mm_cN 11) (T := mm_T 11) (N := mm_N 11) hx hb htb (mm_lays (by decide)) (fun j => mm_dt (mm_T 11 j).2.2.1) (mm_fds (by decide)) hown (ht t10) (ht hin11.1) (ht hin11.2) hK.1 hP1 hD1 hS1 hA (mm_cls_at (by decide)) born11 (by rw [n13]; decide) (by rw [n11, n12, n14]; decide) dl_8 (fun q2 H2 hP2 hD2 hS2 => ?_)
  refine lv_dup hx hb dl_11 rfl ?_
  have hPc := lw_Pl hP2
  have hPm := lw_Pr hP2
  have hDc := lw_Dl hD2
  have hws3 : mm_ws aC (fun _ _ => q2) (mm_new 9) = [(q2, .inr (11, mm_df 9))] := lw_wsN lw_co9.2.1 lw_co9.1 rfl
  have hPm : va_P D mm_cls (mm_ws aC (fun _ _ => q2) (mm_new 9)) H2 := by rw [hws3]; exact hPm
  have hDm : va_D (fun q : Nat => s.heap.size ≤ q) (mm_ws aC (fun _ _ => q2) (mm_new 9)) := by
    rw [hws3]
    refine ⟨fun i j x y hi hj _ => ?_, fun k q hk => ?_⟩
    · have := (List.getElem?_eq_some_iff.mp hi).1
      have := (List.getElem?_eq_some_iff.mp hj).1
      simp at *
      omega
    · exact hD2.2 ((mm_ws aC φ2 (mm_idC, mm_IC0, fun _ _ => 0, mm_RS (fun _ => 0))).length + k) q (by rw [List.getElem?_append_right (by omega)]; simpa using hk)
  have hx12 : ∀ (k : Nat) (x : Nat × va_E), (mm_ws aC φ2 (mm_idC, mm_IC0, fun _ _ => 0, mm_RS (fun _ => 0)))[k]? = some x → x.1 ≠ q2 := fun k x hk => lw_Dx hD2 hk (j := 0) rfl
  obtain ⟨h2, hrun2, hag2⟩ := mm_cok_ok mm_ctM
  have hsp2 : (mm_sp [.inr (.inr (9, 0))]).length ≤ mm_mL 112 := by rw [n18]; decide
  have ho2 : mm_okS (mm_new 9) [.inr (.inr (9, 0))] := fun w hw q e => by
    rw [List.mem_singleton.mp hw] at e
    cases e
    exact List.mem_singleton.mpr rfl
  have hM2 := mm_met l D aC 200 112 [.inr (.inr (9, 0))] (mm_new 9) h2 none (by decide) hrun2 hsp2 (lw_okN 9 (by decide)) ho2 (fun _ _ => q2) H2.size
  obtain ⟨k1, k2, k3, k4, k5, -⟩ := mm_m_w (m := 112) (by decide)
  have hcb2 : CallB room_1 s #[Value.ref b] R_law 12 (mm_y 112) (mm_bc 112) (mm_mL 112) (mm_rt 112) (mm_wm 112) (mm_rm 112) (mm_mc 112) (mm_ms 112) (mm_na 112) := callB_of (mm_na 112) htb (mm_wm_in (by decide)) rfl rfl rfl (htb _ k2) (ht t13) ⟨k4, k5, k3⟩ ⟨n3, n4⟩
  rw [n6] at hcb2
  have hr2 := va_runI (p := p) (l := l) (e := e) (m := mi) (below := below) (meth := meth) (c := c) (locs := locs1) (cells := 0 + 1 + mm_mc 0 + 1) (slots := 0 + mm_N 0 + mm_ms 0 + mm_N 11) (g := F0 mi (8 + 3 + 1) ls [.ref q2, .ref q2]) (rest := [.ref q2]) (b := q2) (As := []) ⟨hx, hb, hml, hown, htb⟩ hM2 ⟨hcb2, n8, ht t14⟩ (mm_pre (as := [.inr (.inr (9, 0))]) hK hPm hDm) rfl (by rw [n10]; rfl) hl.1 rfl (Nat.le_of_ble_eq_true rfl) dl_12 (by rw [n11, n12, n13, n14, n15, n16]; decide)
  refine mm_callF hr2 hS2 (fun z hz => ?_) (fun φ4 H3 locs3 hφ4 hP3 hD3 hk3 hS3 => ?_)
  · rcases hz with ⟨k9, e9, hk9⟩ | hz
    · exact hDm.2 k9 _ hk9
    · exact Nat.le_trans hS2.1 hz
  have hq4 : φ4 9 0 = q2 := hφ4 (9, 0) (List.mem_singleton.mpr rfl)
  have hP3 := mm_P_agr hag2 hP3
  have hD3 := mm_D_agr hag2 hD3
  have hout : ∀ (k : Nat) (x : Nat × va_E), (mm_ws aC φ2 (mm_idC, mm_IC0, fun _ _ => 0, mm_RS (fun _ => 0)))[k]? = some x → x.1 < H2.size ∧ ¬ va_A (mm_ws aC (fun _ _ => q2) (mm_new 9)) H2.size x.1 := by
    intro k x hk
    have hlt := (hPc k x hk).lt
    refine ⟨hlt, fun h9 => ?_⟩
    rcases h9 with ⟨k9, e9, hk9⟩ | h9
    · rw [hws3] at hk9
      have := List.mem_singleton.mp (List.mem_of_getElem? hk9)
      exact hx12 k x hk (congrArg Prod.fst this)
    · omega
  have hPc3 : va_P D mm_cls (mm_ws aC φ2 (mm_idC, mm_IC0, fun _ _ => 0, mm_RS (fun _ => 0))) H3 := hPc.kept (fun k x hk => hk3 x.1 (hout k x hk).1 (hout k x hk).2)
  obtain ⟨φ, hφ⟩ : ∃ φ : Nat → Nat → Nat, φ = fun r i => if r = 9 ∨ 21 ≤ r then φ4 r i else φ2 r i := ⟨_, rfl⟩
  have hφC : ∀ z ∈ mm_idC, φ z.1 z.2 = φ2 z.1 z.2 := fun z hz => by
    have := List.all_eq_true.mp lw_rC z hz
    simp only [Bool.and_eq_true, decide_eq_true_eq] at this
    rw [hφ]
    dsimp only
    rw [if_neg (by omega)]
  have hφM : ∀ z ∈ mm_idM, φ z.1 z.2 = φ4 z.1 z.2 := fun z hz => by
    have := List.all_eq_true.mp lw_rM z hz
    simp only [Bool.or_eq_true, decide_eq_true_eq] at this
    rw [hφ]
    dsimp only
    rw [if_pos this]
  have hwC : mm_ws aC φ (mm_idC, mm_IC0, fun _ _ => 0, mm_RS (fun _ => 0)) = mm_ws aC φ2 (mm_idC, mm_IC0, fun _ _ => 0, mm_RS (fun _ => 0)) := mm_ws_re hφC hokC
  have hwM : mm_ws aC φ (mm_idM, fun _ _ _ => 0, fun _ _ => 0, mm_RM) = mm_ws aC φ4 (mm_idM, fun _ _ _ => 0, fun _ _ => 0, mm_RM) := mm_ws_re hφM hokM
  have hDM : va_D (fun q : Nat => s.heap.size ≤ q) (mm_ws aC φ4 (mm_idM, fun _ _ _ => 0, fun _ _ => 0, mm_RM)) := hD3.weaken (fun k9 q9 _ h9 => by
    rcases h9 with ⟨k8, e8, hk8⟩ | h9
    · exact hDm.2 k8 (q9.1, e8) hk8
    · exact Nat.le_trans hS2.1 h9)
  have hC : lw_C D aC φ p s mi c b := ⟨hx, hb, hml, hown, hts, hK, mm_D_ids (h1 := (mm_idC, mm_IC0, fun _ _ => 0, mm_RS (fun _ => 0))) rfl (by rw [hwC]; exact hDc), mm_D_ids (h1 := (mm_idM, fun _ _ _ => 0, fun _ _ => 0, mm_RM)) rfl (by rw [hwM]; exact hDM), fun z hz w hw => by
    rw [hφC z hz, hφM w hw]
    obtain ⟨kz, hkz⟩ := List.getElem?_of_mem hz
    obtain ⟨kw, hkw⟩ := List.getElem?_of_mem hw
    have a1 := (hout kz _ (mm_ws_at (aC := aC) (φ := φ2) (h := (mm_idC, mm_IC0, fun _ _ => 0, mm_RS (fun _ => 0))) hkz)).2
    have a2 := hD3.2 kw _ (mm_ws_at (aC := aC) (φ := φ4) (h := (mm_idM, fun _ _ _ => 0, fun _ _ => 0, mm_RM)) hkw)
    exact fun e9 => a1 (by dsimp only at e9 ⊢; rw [e9]; exact a2)⟩
  refine lv_astore_n (lv' := [(2, .ref q2), (1, .ref q1), (0, .ref b)]) hx hb dl_15 rfl hl (by decide) rfl (fun ls hl => ?_)
  refine lv_iconst (v := 0) hx hb dl_16 (by decide) ?_
  refine lv_istore_n (lv' := [(3, .int 0), (2, .ref q2), (1, .ref q1), (0, .ref b)]) hx hb dl_17 rfl hl (by decide) rfl (fun ls hl => ?_)
  refine W.widen (k := 117) (n := 1058) (by rw [n13, n15]; decide) (by rw [n11, n12, n14, n16]; decide) ?_
  have e1 : φ 1 0 = q1 := by rw [hφC (1, 0) lw_m1, hq2]
  have e9 : φ 9 0 = q2 := by rw [hφM (9, 0) lw_m9, hq4]
  have hl := lv_sub hl [3, 2, 1, 0] rfl
  rw [← e1, ← e9] at hl
  exact lw_loop Rl hRid hops hop0 hL hC hX hbl hr hlocks 64 0 (by decide) (by omega) _ _ hR0 H3 locs3 (by rw [hwC]; exact hPc3) (by rw [hwM]; exact hP3) hS3 ls hl
end LWS
