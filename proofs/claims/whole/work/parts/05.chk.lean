/-! what an entry of the program says of the bytes; the pools against the tables' words -/
def mm_cc (b : Nat) : Jvm.ClassFile.Cond := match b with
  | 0 => .eq
  | 1 => .ne
  | 2 => .lt
  | 3 => .ge
  | 4 => .gt
  | _ => .le
/-- the word at a place of the tables -/
def mm_wd (i : Nat) (w : Jvm.Cond) : Bool := decide (lw_tbl[i]? = some w)
def mm_c0 (m op a b : Nat) (c : Int) (i : Instr) (n : Nat) : Bool := match op with
  | 0 => (match i with
    | .iconst k => n == 1 && decide (Int32.ofInt k = Int32.ofInt c)
    | .bipush k => n == 2 && decide ((Int8.ofInt k).toInt32 = Int32.ofInt c)
    | .sipush k => n == 3 && decide ((Int16.ofInt k).toInt32 = Int32.ofInt c)
    | .ldc k => n == 2 && mm_wd a (.constant (mm_cN (mm_ow m)) k (Int32.ofInt c))
    | .ldc_w k => n == 3 && mm_wd a (.constant (mm_cN (mm_ow m)) k (Int32.ofInt c))
    | _ => false)
  | 1 => (match i with
    | .lconst k => n == 1 && decide (Int64.ofNat (k : Nat) = Int64.ofInt c)
    | .ldc2_w k => n == 3 && mm_wd a (.constantLong (mm_cN (mm_ow m)) k (Int64.ofInt c))
    | _ => false)
  | 2 => n == 1 && (match b with
    | 0 => decide (i = .iadd)
    | 1 => decide (i = .isub)
    | 2 => decide (i = .imul)
    | 3 => decide (i = .iand)
    | 4 => decide (i = .ior)
    | 5 => decide (i = .ixor)
    | 6 => decide (i = .ishl)
    | 7 => decide (i = .ishr)
    | _ => decide (i = .iushr))
  | 3 => n == 1 && (match b with
    | 0 => decide (i = .ladd)
    | 1 => decide (i = .lmul)
    | 2 => decide (i = .land)
    | 3 => decide (i = .lor)
    | 4 => decide (i = .ldiv)
    | _ => decide (i = .lrem))
  | 4 => n == 1 && (match b with
    | 0 => decide (i = .lshl)
    | 1 => decide (i = .lshr)
    | _ => decide (i = .lushr))
  | 5 => n == 1 && (match b with
    | 0 => decide (i = .i2l)
    | 1 => decide (i = .l2i)
    | _ => decide (i = .i2b))
  | 6 => n == 1 && decide (i = .dup)
  | 7 => n == 1 && decide (i = .dup2)
  | _ => false
/-- the pairs of a lookupswitch, and the places -/
def mm_lp (pc : Nat) : List (Int × Int) → List Nat → Bool
  | [], [] => true
  | (k, o) :: ps, a :: t :: l => decide (k = (a : Int)) && decide ((pc : Int) + o = (t : Int)) && mm_lp pc ps l
  | _, _ => false
def mm_tp (pc : Nat) : List Int → List Nat → Bool
  | [], [] => true
  | o :: os, t :: l => decide ((pc : Int) + o = (t : Int)) && mm_tp pc os l
  | _, _ => false
def mm_c1 (pc op a b : Nat) (c : Int) (l : List Nat) (i : Instr) (n : Nat) : Bool := match op with
  | 0 => (match i with
    | .ifCond cd off => n == 3 && decide (cd = mm_cc b) && decide ((pc : Int) + off = (a : Int))
    | _ => false)
  | 1 => (match i with
    | .if_icmp cd off => n == 3 && decide (cd = mm_cc b) && decide ((pc : Int) + off = (a : Int))
    | _ => false)
  | 2 => (match i with
    | .goto off => n == 3 && decide ((pc : Int) + off = (a : Int))
    | _ => false)
  | 3 => (match i with
    | .tableswitch d lo hi offs => decide ((pc : Int) + d = (a : Int)) && decide (lo = c) && decide (hi = c + (l.length : Int) - 1) && mm_tp pc offs.toList l
    | _ => false)
  | 4 => (match i with
    | .lookupswitch d ps => decide ((pc : Int) + d = (a : Int)) && (ps.toList.zip (ps.toList.drop 1)).all (fun q => decide (q.1.1 < q.2.1)) && mm_lp pc ps.toList l
    | _ => false)
  | _ => false
def mm_c2 (op a b : Nat) (c : Int) (i : Instr) (n : Nat) : Bool := match op with
  | 0 => (match b, i with
    | 0, .iload k => n == 2 && k == a
    | 0, .iload_n k => n == 1 && (k : Nat) == a
    | 1, .lload k => n == 2 && k == a
    | 1, .lload_n k => n == 1 && (k : Nat) == a
    | 2, .aload k => n == 2 && k == a
    | 2, .aload_n k => n == 1 && (k : Nat) == a
    | _, _ => false)
  | 1 => (match b, i with
    | 0, .istore k => n == 2 && k == a
    | 0, .istore_n k => n == 1 && (k : Nat) == a
    | 1, .lstore k => n == 2 && k == a
    | 1, .lstore_n k => n == 1 && (k : Nat) == a
    | 2, .astore k => n == 2 && k == a
    | 2, .astore_n k => n == 1 && (k : Nat) == a
    | _, _ => false)
  | 2 => (match i with
    | .iinc k d => n == 3 && k == a && decide (d = c)
    | _ => false)
  | _ => false
def mm_c3 (m op a b : Nat) (i : Instr) (n : Nat) : Bool := match op with
  | 0 => (match i with
    | .getfield k => n == 3 && decide (mm_cf.lookup (mm_ow m, k) = some a) && b == mm_cy a && decide (a < 86)
    | _ => false)
  | 1 => (match i with
    | .putfield k => n == 3 && decide (mm_cf.lookup (mm_ow m, k) = some a) && b == mm_cy a && decide (a < 86) && (!(mm_T (mm_ax (mm_cr a)) (mm_cs a)).2.2.2 || (decide ((mm_y m).name = "<init>") && decide (mm_ow m = mm_ax (mm_cr a))))
    | _ => false)
  | 2 => n == 1 && (match b with
    | 0 => decide (i = .iaload)
    | 1 => decide (i = .baload)
    | 2 => decide (i = .aaload)
    | _ => false)
  | 3 => n == 1 && (match b with
    | 0 => decide (i = .iastore)
    | 1 => decide (i = .bastore)
    | 2 => decide (i = .aastore)
    | _ => false)
  | 4 => n == 1 && decide (i = .arraylength)
  | 5 => (match i with
    | .invokestatic k => n == 3 && decide (mm_cm.lookup (mm_ow m, k) = some (6, 0)) && decide (1 ≤ mm_rf m) && decide (40 ≤ mm_rl m)
    | _ => false)
  | 6 => (match i with
    | .instanceof k => n == 3 && mm_wd b (.classLink (mm_cN (mm_ow m)) k (mm_cN a)) && decide (3 ≤ a ∧ a ≤ 5)
    | _ => false)
  | 7 => (match i with
    | .invokespecial k => n == 3 && decide (mm_cm.lookup (mm_ow m, k) = some (5, 0)) && decide (1 ≤ mm_rf m) && decide (20 ≤ mm_rl m)
    | _ => false)
  | 8 => (match i with
    | .invokestatic k => n == 3 && decide (mm_cm.lookup (mm_ow m, k) = some (7, 0)) && decide (1 ≤ mm_rf m) && decide (20 ≤ mm_rl m)
    | _ => false)
  | _ => false
def mm_c4 (m op a b : Nat) (l : List Nat) (i : Instr) (n : Nat) : Bool := match op with
  | 0 => (match i with
    | .new k => n == 3 && mm_wd (l.getD 0 0) (.classLink (mm_cN (mm_ow m)) k (mm_cN b)) && decide (b < 12)
    | _ => false)
  | 1 => n == 2 && (match b with
    | 0 => decide (i = .newarray .int)
    | 1 => decide (i = .newarray .byte)
    | _ => false)
  | 2 => (match i with
    | .anewarray k => n == 3 && mm_wd (l.getD 0 0) (.classLink (mm_cN (mm_ow m)) k (mm_cN (match mm_ax a with | 2 => 2 | 3 => 7 | _ => 8))) && decide (2 ≤ mm_ax a ∧ mm_ax a ≤ 4)
    | _ => false)
  | 3 => (match i with
    | .multianewarray k d => n == 4 && d == 2 && mm_wd (l.getD 0 0) (.classLink (mm_cN (mm_ow m)) k "[[I")
    | _ => false)
  | _ => false
/-- the room of a call -/
def mm_cw (m y : Nat) : Bool := decide (mm_rf y + 1 ≤ mm_rf m) && decide (8 + (mm_mL y + 11) + mm_rl y ≤ mm_rl m) && decide (y < 178)
def mm_c5 (m op a b : Nat) (i : Instr) (n : Nat) : Bool := match op with
  | 0 => (match i with
    | .invokestatic k => n == 3 && decide (mm_cm.lookup (mm_ow m, k) = some (0, a)) && b == mm_na a && mm_cw m a
    | _ => false)
  | 1 => (match i with
    | .invokespecial k => n == 3 && (decide (mm_cm.lookup (mm_ow m, k) = some (1, a)) || decide (mm_cm.lookup (mm_ow m, k) = some (2, a))) && b == mm_na a && mm_cw m a
    | _ => false)
  | 2 => (match i with
    | .invokevirtual k => n == 3 && decide (mm_cm.lookup (mm_ow m, k) = some (3, a)) && b == mm_na a && mm_cw m a
    | _ => false)
  | 3 => (match i with
    | .invokevirtual k => n == 3 && decide (mm_cm.lookup (mm_ow m, k) = some (4, a)) && decide (a < 4) && b == mm_na (mm_vs a 0) && mm_cw m (mm_vs a 0) && mm_cw m (mm_vs a 1) && mm_cw m (mm_vs a 2) && mm_cw m (mm_vs a 3)
    | _ => false)
  | _ => false
def mm_c6 (op : Nat) (i : Instr) (n : Nat) : Bool := n == 1 && (match op with
  | 0 => decide (i = .ireturn)
  | 1 => decide (i = .lreturn)
  | _ => decide (i = .return_))
def mm_ci (m pc : Nat) (e : mm_E) (i : Instr) (n : Nat) : Bool := match e.1 with
  | 0 => mm_c0 m e.2.1 e.2.2.2.1 e.2.2.2.2.1 e.2.2.2.2.2.1 i n
  | 1 => mm_c1 pc e.2.1 e.2.2.2.1 e.2.2.2.2.1 e.2.2.2.2.2.1 e.2.2.2.2.2.2 i n
  | 2 => mm_c2 e.2.1 e.2.2.2.1 e.2.2.2.2.1 e.2.2.2.2.2.1 i n
  | 3 => mm_c3 m e.2.1 e.2.2.2.1 e.2.2.2.2.1 i n
  | 4 => mm_c4 m e.2.1 e.2.2.2.1 e.2.2.2.2.1 e.2.2.2.2.2.2 i n
  | 5 => mm_c5 m e.2.1 e.2.2.2.1 e.2.2.2.2.1 i n
  | 6 => mm_c6 e.2.1 i n
  | _ => false
def mm_ck (m pc : Nat) (e : mm_E) : Bool := match decode (mm_bc m) pc with
  | .ok (i, n) => decide (e.2.2.1 = pc + n) && mm_ci m pc e i n
  | .error _ => false
def mm_ka (m : Nat) : Bool := (mm_pg.getD m []).all (fun q => mm_ck m q.1 q.2)
set_option maxRecDepth 100000 in
theorem mm_k0 : (List.range 20).all (fun j => mm_ka (0 + j)) = true := by decide +kernel
set_option maxRecDepth 100000 in
theorem mm_k20 : (List.range 20).all (fun j => mm_ka (20 + j)) = true := by decide +kernel
set_option maxRecDepth 100000 in
theorem mm_k40 : (List.range 20).all (fun j => mm_ka (40 + j)) = true := by decide +kernel
set_option maxRecDepth 100000 in
theorem mm_k60 : (List.range 20).all (fun j => mm_ka (60 + j)) = true := by decide +kernel
set_option maxRecDepth 100000 in
theorem mm_k80 : (List.range 20).all (fun j => mm_ka (80 + j)) = true := by decide +kernel
set_option maxRecDepth 100000 in
theorem mm_k100 : (List.range 20).all (fun j => mm_ka (100 + j)) = true := by decide +kernel
set_option maxRecDepth 100000 in
theorem mm_k120 : (List.range 20).all (fun j => mm_ka (120 + j)) = true := by decide +kernel
set_option maxRecDepth 100000 in
theorem mm_k140 : (List.range 20).all (fun j => mm_ka (140 + j)) = true := by decide +kernel
set_option maxRecDepth 100000 in
theorem mm_k160 : (List.range 18).all (fun j => mm_ka (160 + j)) = true := by decide +kernel
theorem mm_kall (m : Nat) (hm : m < 178) : mm_ka m = true := by
  by_cases h0 : m < 20
  · have h := List.all_eq_true.mp mm_k0 (m - 0) (List.mem_range.mpr (by omega))
    rwa [show 0 + (m - 0) = m by omega] at h
  by_cases h20 : m < 40
  · have h := List.all_eq_true.mp mm_k20 (m - 20) (List.mem_range.mpr (by omega))
    rwa [show 20 + (m - 20) = m by omega] at h
  by_cases h40 : m < 60
  · have h := List.all_eq_true.mp mm_k40 (m - 40) (List.mem_range.mpr (by omega))
    rwa [show 40 + (m - 40) = m by omega] at h
  by_cases h60 : m < 80
  · have h := List.all_eq_true.mp mm_k60 (m - 60) (List.mem_range.mpr (by omega))
    rwa [show 60 + (m - 60) = m by omega] at h
  by_cases h80 : m < 100
  · have h := List.all_eq_true.mp mm_k80 (m - 80) (List.mem_range.mpr (by omega))
    rwa [show 80 + (m - 80) = m by omega] at h
  by_cases h100 : m < 120
  · have h := List.all_eq_true.mp mm_k100 (m - 100) (List.mem_range.mpr (by omega))
    rwa [show 100 + (m - 100) = m by omega] at h
  by_cases h120 : m < 140
  · have h := List.all_eq_true.mp mm_k120 (m - 120) (List.mem_range.mpr (by omega))
    rwa [show 120 + (m - 120) = m by omega] at h
  by_cases h140 : m < 160
  · have h := List.all_eq_true.mp mm_k140 (m - 140) (List.mem_range.mpr (by omega))
    rwa [show 140 + (m - 140) = m by omega] at h
  by_cases h160 : m < 178
  · have h := List.all_eq_true.mp mm_k160 (m - 160) (List.mem_range.mpr (by omega))
    rwa [show 160 + (m - 160) = m by omega] at h
  omega
