/-! what holds of the tables all along a method; the steps that read and write cells -/
def mm_nc : List (String × String) := [("SongToBridge$Keeper", "SongToBridge$Deaf"), ("SongToBridge$Echo", "SongToBridge$Deaf"), ("SongToBridge$Keeper", "SongToBridge$Echo"), ("SongToBridge$Deaf", "SongToBridge$Echo"), ("SongToBridge$Worn", "SongToBridge$Echo"), ("SongToBridge$Keeper", "SongToBridge$Worn"), ("SongToBridge$Deaf", "SongToBridge$Worn"), ("SongToBridge$Echo", "SongToBridge$Worn")]
def mm_ca : List (String × String) := [("SongToBridge$Worn", "SongToBridge$Deaf"), ("SongToBridge$Deaf", "SongToBridge$Keeper"), ("SongToBridge$Echo", "SongToBridge$Keeper"), ("SongToBridge$Worn", "SongToBridge$Keeper")]
def mm_ao : List String := ["SongToBridge$Keeper", "SongToBridge$Bridge", "SongToBridge$Singer"]
def mm_K (D : va_G) (aC : Nat → ClassId) (U : State) : Prop := va_K D mm_cls (mm_ty aC) U ∧ (∀ q ∈ mm_nc, va_Nc q.1 q.2 U) ∧ (∀ o k y : Nat, mm_cm.lookup (o, k) = some (2, y) → va_Nw (.methodLinkNest (mm_cN o) k (mm_y y) "SongToBridge") U) ∧ (∀ q ∈ mm_ca, va_Nw (.castable q.1 q.2) U) ∧ (∀ C ∈ mm_ao, va_AO C U) ∧ (Jvm.Cond.arrayOver (.array .int)).before #[] U = true
theorem mm_K.warm {D : va_G} {aC : Nat → ClassId} {s U : State} (hW : s.WarmedH U.vm) (h : mm_K D aC s) : mm_K D aC U :=
  ⟨va_K.moved hW.alike h.1, fun q hq => (h.2.1 q hq).moved hW.alike, fun o k y hl => va_Nw.warmM hW (h.2.2.1 o k y hl), fun q hq => va_Nw.warmC hW (h.2.2.2.1 q hq), fun C hC => (h.2.2.2.2.1 C hC).moved hW.alike, over_moved hW.alike h.2.2.2.2.2⟩
theorem mm_K.same {D : va_G} {aC : Nat → ClassId} {s U : State} (hv : s.vm = U.vm) (h : mm_K D aC s) : mm_K D aC U := by
  have ha : s.vm.Alike U.vm := by rw [hv]; exact Vm.Alike.refl U.vm
  exact ⟨va_K.moved ha h.1, fun q hq => (h.2.1 q hq).moved ha, fun o k y hl => va_Nw.same rfl hv (h.2.2.1 o k y hl), fun q hq => va_Nw.same rfl hv (h.2.2.2.1 q hq), fun C hC => (h.2.2.2.2.1 C hC).moved ha, over_moved ha h.2.2.2.2.2⟩
set_option maxRecDepth 100000 in
theorem mm_s3 : (List.range 47).all (fun r => decide (mm_kd r = 1 → mm_ax r = 0) && decide (mm_kd r = 2 → mm_ax r = 1) && decide (mm_kd r = 3 → 2 ≤ mm_ax r ∧ mm_ax r ≤ 5)) = true := by decide +kernel
theorem mm_kd_ge {r : Nat} (h : 47 ≤ r) : mm_kd r = 9 := by
  unfold mm_kd
  rw [List.getD_eq_getElem?_getD, List.getElem?_eq_none (by rw [mm_rk_len]; omega)]
  rfl
theorem mm_kx (r : Nat) : (mm_kd r = 1 → mm_ax r = 0) ∧ (mm_kd r = 2 → mm_ax r = 1) ∧ (mm_kd r = 3 → 2 ≤ mm_ax r ∧ mm_ax r ≤ 5) := by
  by_cases hr : r < 47
  · have h := List.all_eq_true.mp mm_s3 r (List.mem_range.mpr hr)
    simp only [Bool.and_eq_true, decide_eq_true_eq] at h
    exact ⟨h.1.1, h.1.2, h.2⟩
  · have := mm_kd_ge (r := r) (by omega)
    exact ⟨fun h => by omega, fun h => by omega, fun h => by omega⟩
theorem mm_ty_at (aC : Nat → ClassId) (j : Nat) (hj : j ≤ 5) : ∃ ty, (mm_ty aC)[j]? = some (aC j, ty) ∧ (2 ≤ j → ty.isReference = true) := by
  match j, hj with
  | 0, _ => exact ⟨_, rfl, fun h => by omega⟩
  | 1, _ => exact ⟨_, rfl, fun h => by omega⟩
  | 2, _ => exact ⟨_, rfl, fun h => rfl⟩
  | 3, _ => exact ⟨_, rfl, fun h => rfl⟩
  | 4, _ => exact ⟨_, rfl, fun h => rfl⟩
  | 5, _ => exact ⟨_, rfl, fun h => rfl⟩
  | j + 6, h => omega
theorem mm_in_vp {x : Int32} {n : Nat} (h : mm_in x n = true) : vp_in x n := by
  have h := of_decide_eq_true h
  rintro (q | q)
  · exact h.1 q
  · exact absurd h.2 (Nat.not_lt.mpr q)
section MMH
variable {p : Program} {l : Launch} {e : Env} {R : Room} {s : State} {mi : MethodId} {args : Array Value} {below : List Frame} {meth : Method} {c : Code} {H : Heap} {locs : List Loc} {cells slots : Nat} {Q : State → Prop}
variable {m pc nx op a b : Nat} {k : Int} {zs : List Nat} {st : List mm_V} {rest : List Value} {ls : Array Slot} {φ : Nat → Nat → Nat} {i : Instr} {n : Nat} {D : va_G} {aC : Nat → ClassId} {A : Nat → Prop} {h h' : mm_H} {H0 : Heap}
theorem mm_aald {tys : List (ClassId × FieldType)} {cl : List vw_C} {ws : va_W} {cc : ByteArray} {ad : Nat} (hexec : p.tables.exec = Jvm.exec) (hb : c.code = cc) (hK : va_K D cl tys s) (hP : va_P D cl ws H) (q0 t0 : Nat) {cA : ClassId} {ty : FieldType} {n : Nat} {f : Nat → Option Nat} (ha : ws[q0]? = some (ad, .inl (cA, n, .inr (.inr (.inr (.inr f)))))) (ht : tys[t0]? = some (cA, ty)) (hty : ty.isReference = true) {x : Int32} (hin : vp_in x n) (hdg : decode cc pc = .ok (.aaload, 1))
    (kk : W p l e R s mi args below meth c H locs cells slots Q (F0 mi (pc + 1) ls (va_rf (f x.toNatClampNeg) :: rest))) : W p l e R s mi args below meth c H locs cells slots Q (F0 mi pc ls (.int x :: .ref ad :: rest)) := by
  have hlt : x.toNatClampNeg < n := Nat.not_le.mp fun q => hin (Or.inr q)
  exact W.aald (v := va_rf (f x.toNatClampNeg)) (ty := ty) hexec hb (hP q0 _ ha) ((hK.2 t0 _ ht).1 n (fun j => va_rf (f j))) hty (fun q => by cases q) (by show ¬ (x < 0 ∨ (arrV _ _ _).slots.size ≤ _); rw [arrV_size]; exact hin) (by show (arrV _ _ _).slots[_]? = _; rw [arrV_read _ _ hlt]) rfl rfl hdg kk
theorem mm_putf {z i' : Nat} (hx : p.tables.exec = Jvm.exec) (hb : c.code = mm_bc m) (hown : s.vm.findClass (mm_cN (mm_ow m)) = some mi.cls) (hts : ∀ w ∈ mm_tb, w.before args s = true) (hK : mm_K D aC s) (hnm : (mm_y m).name = "<init>" → meth.name = "<init>") (hd : decode (mm_bc m) pc = .ok (.putfield z, 3)) (hcf : mm_cf.lookup (mm_ow m, z) = some a) (ha : a < 86)
    (hfin : (!(mm_T (mm_ax (mm_cr a)) (mm_cs a)).2.2.2 || (decide ((mm_y m).name = "<init>") && decide (mm_ow m = mm_ax (mm_cr a)))) = true) (hmem : (mm_cr a, i') ∈ h.1) {v : Value} (hn : narrow (mm_dt (mm_T (mm_ax (mm_cr a)) (mm_cs a)).2.2.1) v = v) (hfit : fits (mm_dt (mm_T (mm_ax (mm_cr a)) (mm_cs a)).2.2.1) v = true)
    (hP : va_P D mm_cls (mm_ws aC φ h) H) (hD : va_D A (mm_ws aC φ h)) (hS : va_S A H0 H locs) (hi : h'.1 = h.1)
    (hce : mm_ce aC φ h' (mm_cr a, i') = .inr (mm_co (mm_cr a) i', ((mm_fs (mm_cr a)).map (mm_fv φ h i')).set (mm_cs a) v) ∧ ∀ q', q' ≠ (mm_cr a, i') → mm_ce aC φ h' q' = mm_ce aC φ h q')
    (kk : ∀ H' locs', va_P D mm_cls (mm_ws aC φ h') H' → va_D A (mm_ws aC φ h') → va_S A H0 H' locs' → W p l e R s mi args below meth c H' locs' cells slots Q (F0 mi (pc + 3) ls rest)) : W p l e R s mi args below meth c H locs cells slots Q (F0 mi pc ls (v :: .ref (φ (mm_cr a) i') :: rest)) := by
  obtain ⟨g1, g2, g3, g4, g5, g6, g7, g8⟩ := mm_cx ha
  obtain ⟨kq, hk⟩ := List.getElem?_of_mem hmem
  have hat := mm_ws_at (aC := aC) (φ := φ) hk
  have hco : mm_co (mm_cr a) i' = mm_ax (mm_cr a) := by unfold mm_co; rw [if_neg g3]
  have hce0 : mm_ce aC φ h (mm_cr a, i') = .inr (mm_ax (mm_cr a), (mm_fs (mm_cr a)).map (mm_fv φ h i')) := by
    unfold mm_ce
    rw [if_pos g2, hco]
  rw [hce0] at hat
  have hset := mm_ws_set (h' := h') hk hD hi hce.2
  rw [hce.1, hco] at hset
  have hlt : mm_cs a < (mm_fs (mm_cr a)).length := (List.getElem?_eq_some_iff.mp g1).1
  have kk' : ∀ (H1 : Heap) (locs1 : List Loc), va_P D mm_cls ((mm_ws aC φ h).set kq (φ (mm_cr a) i', .inr (mm_ax (mm_cr a), ((mm_fs (mm_cr a)).map (mm_fv φ h i')).set (mm_cs a) v))) H1 → va_D A ((mm_ws aC φ h).set kq (φ (mm_cr a) i', .inr (mm_ax (mm_cr a), ((mm_fs (mm_cr a)).map (mm_fv φ h i')).set (mm_cs a) v))) → va_S A H0 H1 locs1 → W p l e R s mi args below meth c H1 locs1 cells slots Q (F0 mi (pc + 3) ls rest) := fun H1 locs1 a1 a2 a3 => kk H1 locs1 (by rw [← hset]; exact a1) (by rw [← hset]; exact a2) a3
  by_cases hf : (mm_T (mm_ax (mm_cr a)) (mm_cs a)).2.2.2 = true
  · rw [hf] at hfin
    simp only [Bool.not_true, Bool.false_or, Bool.and_eq_true, decide_eq_true_eq] at hfin
    exact va_putF (D := D) (ci := mm_ax (mm_cr a)) (v := v) (ty := mm_dt (mm_T (mm_ax (mm_cr a)) (mm_cs a)).2.2.1) (C := mm_cN (mm_ax (mm_cr a))) (T := mm_T (mm_ax (mm_cr a))) (N := mm_N (mm_ax (mm_cr a))) hx hb hts (mm_lays g5) (fun j => mm_dt (mm_T (mm_ax (mm_cr a)) j).2.2.1) (mm_fds g5) (mm_nms g5) hown hK.1 hP hD hS kq hat (mm_cls_at g5) (mm_cs a) (by rw [g6]; exact hlt) (hts _ (mm_cf_w hcf)) (fun _ h9 => h9) hf (hnm hfin.1) (by rw [g8, hfin.2]) (mm_fds g5 _ (by rw [g6]; exact hlt)) hn hfit (by rw [List.length_map]; exact hlt) hd kk'
  · exact va_put (D := D) (ci := mm_ax (mm_cr a)) (v := v) (ty := mm_dt (mm_T (mm_ax (mm_cr a)) (mm_cs a)).2.2.1) (C := mm_cN (mm_ax (mm_cr a))) (T := mm_T (mm_ax (mm_cr a))) (N := mm_N (mm_ax (mm_cr a))) hx hb hts (mm_lays g5) (fun j => mm_dt (mm_T (mm_ax (mm_cr a)) j).2.2.1) (mm_fds g5) (mm_nms g5) hown hK.1 hP hD hS kq hat (mm_cls_at g5) (mm_cs a) (by rw [g6]; exact hlt) (hts _ (mm_cf_w hcf)) (fun _ h9 => h9) (by simpa using hf) (mm_fds g5 _ (by rw [g6]; exact hlt)) hn hfit (by rw [List.length_map]; exact hlt) hd kk'
/-- getfield, putfield -/
theorem mm_w3a (hx : p.tables.exec = Jvm.exec) (hb : c.code = mm_bc m) (hown : s.vm.findClass (mm_cN (mm_ow m)) = some mi.cls) (hts : ∀ w ∈ mm_tb, w.before args s = true) (hK : mm_K D aC s) (hnm : (mm_y m).name = "<init>" → meth.name = "<init>") (hd : decode (mm_bc m) pc = .ok (i, n)) (hop : op ≤ 1) (hc0 : mm_c3 m op a b i n = true) {q : List mm_V × mm_H} (hs0 : mm_hp op a b st h = some q) (hst : ∀ v ∈ st, mm_okV h v)
    (hP : va_P D mm_cls (mm_ws aC φ h) H) (hD : va_D A (mm_ws aC φ h)) (hS : va_S A H0 H locs)
    (kk : ∀ H' locs', va_P D mm_cls (mm_ws aC φ q.2) H' → va_D A (mm_ws aC φ q.2) → va_S A H0 H' locs' → W p l e R s mi args below meth c H' locs' cells slots Q (F0 mi (pc + n) ls (q.1.map (mm_cv φ)))) : W p l e R s mi args below meth c H locs cells slots Q (F0 mi pc ls (st.map (mm_cv φ))) := by
  match op, hop, hc0, hs0 with
  | 0, _, hc, hs =>
    simp only [mm_c3] at hc
    simp only [mm_hp] at hs
    split at hc
    next z =>
      simp only [Bool.and_eq_true, beq_iff_eq, decide_eq_true_eq] at hc
      obtain ⟨⟨⟨rfl, hcf⟩, hby⟩, ha⟩ := hc
      split at hs
      next r i' t =>
        split at hs
        next hr =>
          subst hr
          obtain ⟨g1, g2, g3, g4, g5, g6, g7, g8⟩ := mm_cx ha
          have hmem : (mm_cr a, i') ∈ h.1 := hst _ List.mem_cons_self _ rfl
          obtain ⟨kq, hk⟩ := List.getElem?_of_mem hmem
          have hat := mm_ws_at (aC := aC) (φ := φ) hk
          have hce0 : mm_ce aC φ h (mm_cr a, i') = .inr (mm_ax (mm_cr a), (mm_fs (mm_cr a)).map (mm_fv φ h i')) := by
            unfold mm_ce mm_co
            rw [if_pos g2, if_neg g3]
          rw [hce0] at hat
          have hlt : mm_cs a < (mm_fs (mm_cr a)).length := (List.getElem?_eq_some_iff.mp g1).1
          refine va_get (D := D) (ci := mm_ax (mm_cr a)) (v := mm_fv φ h i' (a, mm_cy a)) (C := mm_cN (mm_ax (mm_cr a))) (T := mm_T (mm_ax (mm_cr a))) (N := mm_N (mm_ax (mm_cr a))) hx hb hts (mm_lays g5) hown hK.1 hP kq hat (mm_cls_at g5) (mm_cs a) (by rw [g6]; exact hlt) (hts _ (mm_cf_w hcf)) (fun _ h9 => h9) (by rw [List.getElem?_map, g1]; rfl) hd ?_
          rw [← hby]
          split at hs
          next => cases hs; exact kk H locs hP hD hS
          next => cases hs; exact kk H locs hP hD hS
          next =>
            split at hs
            next => cases hs
            next hne =>
              cases hs
              have := kk H locs hP hD hS
              simp only [mm_fv, mm_or_ne hne]
              exact this
          next => cases hs; exact kk H locs hP hD hS
          next => cases hs
        next => cases hs
      next => cases hs
    next => cases hc
  | 1, _, hc, hs =>
    simp only [mm_c3] at hc
    simp only [mm_hp] at hs
    split at hc
    next z =>
      simp only [Bool.and_eq_true, beq_iff_eq, decide_eq_true_eq] at hc
      obtain ⟨⟨⟨⟨rfl, hcf⟩, hby⟩, ha⟩, hfin⟩ := hc
      obtain ⟨g1, g2, g3, g4, g5, g6, g7, g8⟩ := mm_cx ha
      rw [← hby] at g7
      split at hs
      next x r i' t =>
        split at hs
        next hr =>
          subst hr
          cases hs
          have hty : mm_dt (mm_T (mm_ax (mm_cr a)) (mm_cs a)).2.2.1 = .int := of_decide_eq_true g7
          have hmem : (mm_cr a, i') ∈ h.1 := hst _ (List.mem_cons_of_mem _ List.mem_cons_self) _ rfl
          refine mm_putf (h' := (h.1, mm_uI h.2.1 a i' 0 x, h.2.2.1, h.2.2.2)) hx hb hown hts hK hnm hd hcf ha hfin hmem (by rw [hty]; rfl) (by rw [hty]; rfl) hP hD hS rfl (mm_ce_put ha ?_ (fun _ _ _ => rfl) (fun _ _ _ => rfl) ?_) kk
          · intro c' i2 hne
            funext j
            simp only [mm_uI]
            rw [if_neg (fun z => by rcases hne with q | q; exact q z.1; exact q z.2.1)]
          · rw [← hby]
            simp [mm_fv, mm_uI, mm_cv]
        next => cases hs
      next x r i' t =>
        split at hs
        next hr =>
          subst hr
          cases hs
          have hty : mm_dt (mm_T (mm_ax (mm_cr a)) (mm_cs a)).2.2.1 = .long := of_decide_eq_true g7
          have hmem : (mm_cr a, i') ∈ h.1 := hst _ (List.mem_cons_of_mem _ List.mem_cons_self) _ rfl
          refine mm_putf (h' := (h.1, h.2.1, mm_uL h.2.2.1 a i' x, h.2.2.2)) hx hb hown hts hK hnm hd hcf ha hfin hmem (by rw [hty]; rfl) (by rw [hty]; rfl) hP hD hS rfl (mm_ce_put ha (fun _ _ _ => rfl) ?_ (fun _ _ _ => rfl) ?_) kk
          · intro c' i2 hne
            simp only [mm_uL]
            rw [if_neg (fun z => by rcases hne with q | q; exact q z.1; exact q z.2)]
          · rw [← hby]
            simp [mm_fv, mm_uL, mm_cv]
        next => cases hs
      next q r i' t =>
        split at hs
        next hr =>
          obtain ⟨hr, hq0⟩ := hr
          subst hr
          cases hs
          have hty : mm_isr (mm_dt (mm_T (mm_ax (mm_cr a)) (mm_cs a)).2.2.1) = true := g7
          have hmem : (mm_cr a, i') ∈ h.1 := hst _ (List.mem_cons_of_mem _ List.mem_cons_self) _ rfl
          refine mm_putf (h' := (h.1, h.2.1, h.2.2.1, mm_uR h.2.2.2 a i' 0 q)) hx hb hown hts hK hnm hd hcf ha hfin hmem ?_ ?_ hP hD hS rfl (mm_ce_put ha (fun _ _ _ => rfl) (fun _ _ _ => rfl) ?_ ?_) kk
          · revert hty
            generalize mm_dt (mm_T (mm_ax (mm_cr a)) (mm_cs a)).2.2.1 = ty
            intro hty
            cases ty <;> first | rfl | (cases hty; done)
          · revert hty
            generalize mm_dt (mm_T (mm_ax (mm_cr a)) (mm_cs a)).2.2.1 = ty
            intro hty
            cases ty <;> first | rfl | (cases hty; done)
          · intro c' i2 hne
            funext j
            simp only [mm_uR]
            rw [if_neg (fun z => by rcases hne with q | q; exact q z.1; exact q z.2.1)]
          · rw [← hby]
            simp [mm_fv, mm_uR, mm_cv, mm_or, hq0, va_rf]
        next => cases hs
      next x r i' t =>
        split at hs
        next hr =>
          obtain ⟨hr, hx01⟩ := hr
          subst hr
          cases hs
          have hty : mm_dt (mm_T (mm_ax (mm_cr a)) (mm_cs a)).2.2.1 = .boolean := of_decide_eq_true g7
          have hmem : (mm_cr a, i') ∈ h.1 := hst _ (List.mem_cons_of_mem _ List.mem_cons_self) _ rfl
          refine mm_putf (h' := (h.1, mm_uI h.2.1 a i' 0 x, h.2.2.1, h.2.2.2)) hx hb hown hts hK hnm hd hcf ha hfin hmem (by rw [hty]; rcases hx01 with rfl | rfl <;> rfl) (by rw [hty]; rcases hx01 with rfl | rfl <;> rfl) hP hD hS rfl (mm_ce_put ha ?_ (fun _ _ _ => rfl) (fun _ _ _ => rfl) ?_) kk
          · intro c' i2 hne
            funext j
            simp only [mm_uI]
            rw [if_neg (fun z => by rcases hne with q | q; exact q z.1; exact q z.2.1)]
          · rw [← hby]
            simp [mm_fv, mm_uI, mm_cv]
        next => cases hs
      next => cases hs
    next => cases hc
  | op + 2, hop, hc, hs => omega
end MMH
