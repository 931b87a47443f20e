/-! the two constructors, by evaluation -/
def mm_idC : List (Nat × Nat) := [(1, 0), (2, 0), (10, 0), (11, 0), (3, 0), (3, 1), (3, 2), (3, 3), (4, 0), (12, 0), (13, 0), (14, 0), (15, 0), (15, 1), (15, 2), (15, 3), (15, 4), (15, 5), (16, 0), (5, 0), (17, 0), (5, 1), (17, 1), (5, 2), (17, 2), (5, 3), (17, 3), (5, 4), (17, 4), (5, 5), (17, 5), (5, 6), (17, 6), (5, 7), (17, 7), (5, 8), (17, 8), (6, 0), (18, 0), (6, 1), (18, 1), (6, 2), (18, 2), (6, 3), (18, 3), (6, 4), (18, 4), (4, 1), (12, 1), (13, 1), (14, 1), (15, 6), (15, 7), (15, 8), (15, 9), (15, 10), (15, 11), (16, 1), (5, 9), (17, 9), (5, 10), (17, 10), (5, 11), (17, 11), (5, 12), (17, 12), (5, 13), (17, 13), (5, 14), (17, 14), (5, 15), (17, 15), (5, 16), (17, 16), (5, 17), (17, 17), (6, 5), (18, 5), (6, 6), (18, 6), (6, 7), (18, 7), (6, 8), (18, 8), (6, 9), (18, 9), (7, 0), (19, 0), (20, 0), (8, 0)]
def mm_idM : List (Nat × Nat) := [(9, 0), (21, 0), (22, 0), (23, 0), (24, 0), (25, 0), (26, 0), (27, 0), (28, 0), (29, 0), (30, 0), (31, 0), (32, 0), (33, 0), (34, 0), (35, 0), (36, 0), (37, 0), (38, 0), (39, 0), (40, 0), (41, 0), (42, 0), (43, 0), (44, 0), (45, 0), (46, 0)]
/-- the ints of a new object of the class -/
def mm_IC0 : mm_HI := fun c _ _ => match c with
  | 18 => 1
  | 26 => 1
  | 33 => -1
  | 34 => -1
  | 115 => -1
  | _ => 0
def mm_agB (h1 h2 : mm_H) : Bool := decide (h2.1 = h1.1) && h1.1.all (fun q => (!decide (mm_kd q.1 = 0) || (mm_fs q.1).all (fun f => (decide (f.2 = 1) || decide (f.2 = 2) || decide (h2.2.1 f.1 q.2 0 = h1.2.1 f.1 q.2 0)) && (!decide (f.2 = 1) || decide (h2.2.2.1 f.1 q.2 = h1.2.2.1 f.1 q.2)) && (!decide (f.2 = 2) || decide (h2.2.2.2 f.1 q.2 0 = h1.2.2.2 f.1 q.2 0)))) && (decide (mm_kd q.1 = 0) || decide (mm_kd q.1 = 3) || (List.range (mm_ln q.1)).all (fun j => decide (h2.2.1 (100 + q.1) q.2 j = h1.2.1 (100 + q.1) q.2 j))) && (!decide (mm_kd q.1 = 3) || (List.range (mm_ln q.1)).all (fun j => decide (h2.2.2.2 (100 + q.1) q.2 j = h1.2.2.2 (100 + q.1) q.2 j))))
theorem mm_agB_ok {h1 h2 : mm_H} (h : mm_agB h1 h2 = true) : mm_agr h1 h2 := by
  unfold mm_agB at h
  simp only [Bool.and_eq_true, decide_eq_true_eq] at h
  refine ⟨h.1, fun q hq => ?_⟩
  have hx := List.all_eq_true.mp h.2 q hq
  simp only [Bool.and_eq_true, Bool.or_eq_true, Bool.not_eq_true', decide_eq_false_iff_not, decide_eq_true_eq] at hx
  obtain ⟨⟨a1, a2⟩, a3⟩ := hx
  refine ⟨fun k0 f hf => ?_, fun k0 k3 j hj => ?_, fun k3 j hj => ?_⟩
  · rcases a1 with a1 | a1
    · exact absurd k0 a1
    · have hy := List.all_eq_true.mp a1 f hf
      simp only [Bool.and_eq_true, Bool.or_eq_true, Bool.not_eq_true', decide_eq_false_iff_not, decide_eq_true_eq] at hy
      refine ⟨fun n1 n2 => ?_, fun e => ?_, fun e => ?_⟩
      · rcases hy.1.1 with (z | z) | z
        · exact absurd z n1
        · exact absurd z n2
        · exact z
      · rcases hy.1.2 with z | z
        · exact absurd e z
        · exact z
      · rcases hy.2 with z | z
        · exact absurd e z
        · exact z
  · rcases a2 with (a2 | a2) | a2
    · exact absurd a2 k0
    · exact absurd a2 k3
    · exact of_decide_eq_true (List.all_eq_true.mp a2 j (List.mem_range.mpr hj))
  · rcases a3 with a3 | a3
    · exact absurd k3 a3
    · exact of_decide_eq_true (List.all_eq_true.mp a3 j (List.mem_range.mpr hj))
def mm_new (r : Nat) : mm_H := ([(r, 0)], fun _ _ _ => 0, fun _ _ => 0, fun _ _ _ => (0, 0))
def mm_cok (m r n : Nat) (h2 : mm_H) : Bool := match mm_run n (m, 0, mm_il (mm_mL m) [.inr (.inr (r, 0))], [], 0, 0) (mm_new r) with
  | some (none, h) => mm_agB h h2
  | _ => false
theorem mm_cok_ok {m r n : Nat} {h2 : mm_H} (h : mm_cok m r n h2 = true) : ∃ h1, mm_run n (m, 0, mm_il (mm_mL m) [.inr (.inr (r, 0))], [], 0, 0) (mm_new r) = some (none, h1) ∧ mm_agr h1 h2 := by
  unfold mm_cok at h
  split at h
  next h1 hr => exact ⟨h1, hr, mm_agB_ok h⟩
  next => cases h
set_option maxRecDepth 1000000 in
theorem mm_ctM : mm_cok 112 9 200 (mm_idM, fun _ _ _ => 0, fun _ _ => 0, mm_RM) = true := by decide +kernel
set_option maxRecDepth 1000000 in
theorem mm_ctC : mm_cok 0 1 20000 (mm_idC, mm_IC0, fun _ _ => 0, mm_RS (fun _ => 0)) = true := by decide +kernel
