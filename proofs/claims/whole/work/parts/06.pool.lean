/-! the pools and the methods against the tables' words -/
def mm_fw (q : (Nat × Nat) × Nat) : Jvm.Cond := .fieldLink (mm_cN q.1.1) q.1.2 (mm_T (mm_ax (mm_cr q.2)) (mm_cs q.2)).1 (mm_T (mm_ax (mm_cr q.2)) (mm_cs q.2)).2.1 (mm_T (mm_ax (mm_cr q.2)) (mm_cs q.2)).2.2.1
set_option maxRecDepth 100000 in
theorem mm_cf_ok : (mm_cf.zip mm_cfi).all (fun q => mm_wd q.2 (mm_fw q.1)) = true := by decide +kernel
def mm_mw (q : (Nat × Nat) × (Nat × Nat)) : List Jvm.Cond := match q.2.1 with
  | 0 => [.methodLink (mm_cN q.1.1) q.1.2 (mm_y q.2.2), .static (mm_y q.2.2)]
  | 1 => [.methodLink (mm_cN q.1.1) q.1.2 (mm_y q.2.2), .instanceMethod (mm_y q.2.2)]
  | 2 => [.methodLinkNest (mm_cN q.1.1) q.1.2 (mm_y q.2.2) "SongToBridge", .instanceMethod (mm_y q.2.2)]
  | 3 => [.methodLink (mm_cN q.1.1) q.1.2 (mm_y q.2.2), .instanceMethod (mm_y q.2.2), .selects (mm_cN (mm_ow q.2.2)) (mm_y q.2.2) (mm_y q.2.2)]
  | 4 => [.methodLink (mm_cN q.1.1) q.1.2 (mm_vx q.2.2), .sameMethod (mm_vx q.2.2).cls "SongToBridge$Keeper" (mm_vx q.2.2).name (mm_vx q.2.2).desc, .instanceMethod (mm_vx q.2.2)]
  | 5 => [.methodLink (mm_cN q.1.1) q.1.2 objectInit]
  | 7 => [.methodLink (mm_cN q.1.1) q.1.2 Lib.Math.min.name]
  | _ => [.methodLink (mm_cN q.1.1) q.1.2 arraycopyName]
def mm_mz (q : ((Nat × Nat) × (Nat × Nat)) × List Nat) : Bool := ((mm_mw q.1).length == q.2.length) && ((mm_mw q.1).zip q.2).all (fun z => mm_wd z.2 z.1)
set_option maxRecDepth 100000 in
theorem mm_cm_ok1 : ((mm_cm.zip mm_cmi).take 60).all mm_mz = true := by decide +kernel
set_option maxRecDepth 100000 in
theorem mm_cm_ok2 : ((mm_cm.zip mm_cmi).drop 60).all mm_mz = true := by decide +kernel
def mm_mq (m : Nat) : Bool := mm_wd ((mm_mti.getD m []).getD 0 0) (.code (mm_y m) (mm_bc m) (mm_mL m) (mm_rt m)) && mm_wd ((mm_mti.getD m []).getD 1 0) (.initialized (mm_y m).cls) && decide ((parseMethodDescriptor (mm_y m).desc).map (fun d => d.parameters.length) = some (mm_na m)) && decide ((mm_y m).cls ≠ "java/lang/invoke/MethodHandle") && decide ((mm_y m).cls ≠ "java/lang/invoke/VarHandle") && plainName (mm_y m).cls
set_option maxRecDepth 100000 in
theorem mm_mt0 : (List.range 30).all (fun j => mm_mq (0 + j)) = true := by decide +kernel
set_option maxRecDepth 100000 in
theorem mm_mt30 : (List.range 30).all (fun j => mm_mq (30 + j)) = true := by decide +kernel
set_option maxRecDepth 100000 in
theorem mm_mt60 : (List.range 30).all (fun j => mm_mq (60 + j)) = true := by decide +kernel
set_option maxRecDepth 100000 in
theorem mm_mt90 : (List.range 30).all (fun j => mm_mq (90 + j)) = true := by decide +kernel
set_option maxRecDepth 100000 in
theorem mm_mt120 : (List.range 30).all (fun j => mm_mq (120 + j)) = true := by decide +kernel
set_option maxRecDepth 100000 in
theorem mm_mt150 : (List.range 28).all (fun j => mm_mq (150 + j)) = true := by decide +kernel
theorem mm_mall (m : Nat) (hm : m < 178) : mm_mq m = true := by
  by_cases h0 : m < 30
  · have h := List.all_eq_true.mp mm_mt0 (m - 0) (List.mem_range.mpr (by omega))
    rwa [show 0 + (m - 0) = m by omega] at h
  by_cases h30 : m < 60
  · have h := List.all_eq_true.mp mm_mt30 (m - 30) (List.mem_range.mpr (by omega))
    rwa [show 30 + (m - 30) = m by omega] at h
  by_cases h60 : m < 90
  · have h := List.all_eq_true.mp mm_mt60 (m - 60) (List.mem_range.mpr (by omega))
    rwa [show 60 + (m - 60) = m by omega] at h
  by_cases h90 : m < 120
  · have h := List.all_eq_true.mp mm_mt90 (m - 90) (List.mem_range.mpr (by omega))
    rwa [show 90 + (m - 90) = m by omega] at h
  by_cases h120 : m < 150
  · have h := List.all_eq_true.mp mm_mt120 (m - 120) (List.mem_range.mpr (by omega))
    rwa [show 120 + (m - 120) = m by omega] at h
  by_cases h150 : m < 178
  · have h := List.all_eq_true.mp mm_mt150 (m - 150) (List.mem_range.mpr (by omega))
    rwa [show 150 + (m - 150) = m by omega] at h
  omega
set_option maxRecDepth 100000 in
theorem mm_mn_ok : (mm_wd (mm_mni.getD 0 0) (.static Lib.Math.min.name) && mm_wd (mm_mni.getD 1 0) (.initialized "java/lang/Math") && mm_wd (mm_mni.getD 2 0) (.code Lib.Math.min.name Lib.Math.min.code 2 (some .int))) = true := by decide +kernel
set_option maxRecDepth 100000 in
theorem mm_ac_ok : (mm_wd (mm_aci.getD 0 0) (.native arraycopyName) && mm_wd (mm_aci.getD 1 0) (.static arraycopyName) && mm_wd (mm_aci.getD 2 0) (.initialized "java/lang/System")) = true := by decide +kernel
set_option maxRecDepth 100000 in
theorem mm_oi_ok : (mm_wd (mm_oii.getD 0 0) (.instanceMethod objectInit) && mm_wd (mm_oii.getD 1 0) (.code objectInit ⟨#[0xb1]⟩ 1 none)) = true := by decide +kernel
def mm_vq (g i : Nat) : Bool := mm_wd (((mm_vti.getD g []).getD i []).getD 0 0) (.selects (mm_cN (2 + i)) (mm_vx g) (mm_y (mm_vs g i))) && mm_wd (((mm_vti.getD g []).getD i []).getD 1 0) (.instanceMethod (mm_y (mm_vs g i)))
set_option maxRecDepth 100000 in
theorem mm_vt_ok : (List.range 4).all (fun g => (List.range 4).all (fun i => mm_vq g i)) = true := by decide +kernel
/-- the fields' words, the descriptors and the names -/
def mm_dt (d : String) : FieldType := match parseFieldDescriptor d with
  | some t => t
  | none => .int
set_option maxRecDepth 100000 in
theorem mm_fd_ok : (List.range 12).all (fun c => (List.range (mm_N c)).all (fun k => decide (parseFieldDescriptor (mm_T c k).2.2.1 = some (mm_dt (mm_T c k).2.2.1)) && (List.range (mm_N c)).all (fun j => decide (k = j) || decide (¬ (mm_T c k).2.1 = (mm_T c j).2.1)))) = true := by decide +kernel
