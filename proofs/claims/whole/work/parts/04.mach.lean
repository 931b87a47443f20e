/-! the machine over pictures: values, stores by components, one step a kind, runs by fuel -/
abbrev mm_V : Type := Int32 ⊕ (Int64 ⊕ (Nat × Nat))
abbrev mm_HI : Type := Nat → Nat → Nat → Int32
abbrev mm_HL : Type := Nat → Nat → Int64
abbrev mm_HR : Type := Nat → Nat → Nat → Nat × Nat
abbrev mm_H : Type := List (Nat × Nat) × mm_HI × mm_HL × mm_HR
abbrev mm_F : Type := Nat × Nat × List (Option mm_V) × List mm_V × Nat × Nat
def mm_uI (I : mm_HI) (c i j : Nat) (x : Int32) : mm_HI := fun c' i' j' => if c' = c ∧ i' = i ∧ j' = j then x else I c' i' j'
def mm_uL (L : mm_HL) (c i : Nat) (x : Int64) : mm_HL := fun c' i' => if c' = c ∧ i' = i then x else L c' i'
def mm_uR (R : mm_HR) (c i j : Nat) (x : Nat × Nat) : mm_HR := fun c' i' j' => if c' = c ∧ i' = i ∧ j' = j then x else R c' i' j'
def mm_cat (v : mm_V) : Nat := match v with
  | .inr (.inl _) => 2
  | _ => 1
def mm_ib (b : Nat) (x y : Int32) : Int32 := match b with
  | 0 => x + y
  | 1 => x - y
  | 2 => x * y
  | 3 => x &&& y
  | 4 => x ||| y
  | 5 => x ^^^ y
  | 6 => x <<< (y &&& 31)
  | 7 => x >>> (y &&& 31)
  | _ => (x.toUInt32 >>> (y.toUInt32 &&& Int32.toUInt32 31)).toInt32
def mm_lb (b : Nat) (x y : Int64) : Int64 := match b with
  | 0 => x + y
  | 1 => x * y
  | 2 => x &&& y
  | 3 => x ||| y
  | 4 => x / y
  | _ => x - x / y * y
def mm_sh (b : Nat) (x : Int64) (y : Int32) : Int64 := match b with
  | 0 => x <<< (y.toInt64 &&& 63)
  | 1 => x >>> (y.toInt64 &&& 63)
  | _ => (x.toUInt64 >>> (y.toInt64.toUInt64 &&& Int64.toUInt64 63)).toInt64
def mm_cd (b : Nat) (x y : Int32) : Bool := match b with
  | 0 => decide (x = y)
  | 1 => decide (¬ x = y)
  | 2 => decide (x < y)
  | 3 => decide (y ≤ x)
  | 4 => decide (y < x)
  | _ => decide (x ≤ y)
def mm_ps (op b : Nat) (c : Int) (st : List mm_V) : Option (List mm_V) := match op with
  | 0 => some (.inl (Int32.ofInt c) :: st)
  | 1 => some (.inr (.inl (Int64.ofInt c)) :: st)
  | 2 => match st with
    | .inl y :: .inl x :: r => some (.inl (mm_ib b x y) :: r)
    | _ => none
  | 3 => match st with
    | .inr (.inl y) :: .inr (.inl x) :: r => if 4 ≤ b ∧ y = 0 then none else some (.inr (.inl (mm_lb b x y)) :: r)
    | _ => none
  | 4 => match st with
    | .inl y :: .inr (.inl x) :: r => some (.inr (.inl (mm_sh b x y)) :: r)
    | _ => none
  | 5 => match b, st with
    | 0, .inl x :: r => some (.inr (.inl x.toInt64) :: r)
    | 1, .inr (.inl x) :: r => some (.inl x.toInt32 :: r)
    | 2, .inl x :: r => some (.inl x.toInt8.toInt32 :: r)
    | _, _ => none
  | 6 => match st with
    | v :: r => if mm_cat v = 1 then some (v :: v :: r) else none
    | _ => none
  | 7 => match st with
    | v :: w :: r => if mm_cat v = 1 ∧ mm_cat w = 1 then some (v :: w :: v :: w :: r) else none
    | _ => none
  | _ => none
def mm_ts (a : Nat) (c : Int) (l : List Nat) (x : Int32) : Nat := if x.toInt < c ∨ c + (l.length : Int) ≤ x.toInt then a else l.getD (x.toInt - c).toNat a
def mm_lk (a : Nat) : List Nat → Int32 → Nat
  | k :: t :: r, x => if x.toInt = (k : Int) then t else mm_lk a r x
  | _, _ => a
def mm_br (op nx a b : Nat) (c : Int) (l : List Nat) (st : List mm_V) : Option (Nat × List mm_V) := match op with
  | 0 => match st with
    | .inl x :: r => some (if mm_cd b x 0 = true then a else nx, r)
    | _ => none
  | 1 => match st with
    | .inl y :: .inl x :: r => some (if mm_cd b x y = true then a else nx, r)
    | _ => none
  | 2 => some (a, st)
  | 3 => match st with
    | .inl x :: r => some (mm_ts a c l x, r)
    | _ => none
  | 4 => match st with
    | .inl x :: r => some (mm_lk a l x, r)
    | _ => none
  | _ => none
/-- a value is of a type: 0 int, 1 long, 2 reference -/
def mm_tg (b : Nat) (v : mm_V) : Bool := match v with
  | .inl _ => b == 0
  | .inr (.inl _) => b == 1
  | .inr (.inr _) => b == 2
/-- the place ahead of a holds no long -/
def mm_pl (la : List (Option mm_V)) (a : Nat) : Bool := match a with
  | 0 => true
  | k + 1 => match la[k]? with
    | some (some (.inr (.inl _))) => false
    | _ => true
def mm_lo (op a b : Nat) (c : Int) (la : List (Option mm_V)) (st : List mm_V) : Option (List (Option mm_V) × List mm_V) := match op with
  | 0 => match la[a]? with
    | some (some v) => if mm_tg b v = true then some (la, v :: st) else none
    | _ => none
  | 1 => match st with
    | v :: r => if mm_tg b v = true ∧ mm_pl la a = true then
        (if b = 1 then (if a + 1 < la.length then some ((la.set a (some v)).set (a + 1) none, r) else none) else (if a < la.length then some (la.set a (some v), r) else none)) else none
    | _ => none
  | 2 => match la[a]? with
    | some (some (.inl x)) => if mm_pl la a = true then some (la.set a (some (.inl (x + Int32.ofInt c))), st) else none
    | _ => none
  | _ => none
def mm_in (x : Int32) (n : Nat) : Bool := decide (¬ x < 0 ∧ x.toNatClampNeg < n)
/-- a cell of role q may stand in an array of type k -/
def mm_as (k q : Nat) : Bool := (k == 2 && q == 3) || (k == 3 && q == 5) || (k == 4 && q == 6)
/-- a keeper of kind i is of the class a -/
def mm_io (a i : Nat) : Bool := (a == 2 + i) || (a == 3 && i == 3)
def mm_cp (I : mm_HI) (c0 i0 c1 i1 sp dp n : Nat) : mm_HI := fun c i j => if c = c1 ∧ i = i1 ∧ dp ≤ j ∧ j < dp + n then I c0 i0 (sp + (j - dp)) else I c i j
def mm_hp (op a b : Nat) (st : List mm_V) (h : mm_H) : Option (List mm_V × mm_H) := match op with
  | 0 => match st with
    | .inr (.inr (r, i)) :: t => if r = mm_cr a then (match b with
        | 0 => some (.inl (h.2.1 a i 0) :: t, h)
        | 1 => some (.inr (.inl (h.2.2.1 a i)) :: t, h)
        | 2 => if (h.2.2.2 a i 0).1 = 0 then none else some (.inr (.inr (h.2.2.2 a i 0)) :: t, h)
        | 3 => some (.inl (h.2.1 a i 0) :: t, h)
        | _ => none) else none
    | _ => none
  | 1 => match b, st with
    | 0, .inl x :: .inr (.inr (r, i)) :: t => if r = mm_cr a then some (t, (h.1, mm_uI h.2.1 a i 0 x, h.2.2.1, h.2.2.2)) else none
    | 1, .inr (.inl x) :: .inr (.inr (r, i)) :: t => if r = mm_cr a then some (t, (h.1, h.2.1, mm_uL h.2.2.1 a i x, h.2.2.2)) else none
    | 2, .inr (.inr q) :: .inr (.inr (r, i)) :: t => if r = mm_cr a ∧ q.1 ≠ 0 then some (t, (h.1, h.2.1, h.2.2.1, mm_uR h.2.2.2 a i 0 q)) else none
    | 3, .inl x :: .inr (.inr (r, i)) :: t => if r = mm_cr a ∧ (x = 0 ∨ x = 1) then some (t, (h.1, mm_uI h.2.1 a i 0 x, h.2.2.1, h.2.2.2)) else none
    | _, _ => none
  | 2 => match st with
    | .inl x :: .inr (.inr (r, i)) :: t => if mm_kd r = b + 1 ∧ mm_in x (mm_ln r) = true then (match b with
        | 0 => some (.inl (h.2.1 (100 + r) i x.toNatClampNeg) :: t, h)
        | 1 => some (.inl (h.2.1 (100 + r) i x.toNatClampNeg) :: t, h)
        | 2 => if (h.2.2.2 (100 + r) i x.toNatClampNeg).1 = 0 then none else some (.inr (.inr (h.2.2.2 (100 + r) i x.toNatClampNeg)) :: t, h)
        | _ => none) else none
    | _ => none
  | 3 => match b, st with
    | 0, .inl y :: .inl x :: .inr (.inr (r, i)) :: t => if mm_kd r = 1 ∧ mm_in x (mm_ln r) = true then some (t, (h.1, mm_uI h.2.1 (100 + r) i x.toNatClampNeg y, h.2.2.1, h.2.2.2)) else none
    | 1, .inl y :: .inl x :: .inr (.inr (r, i)) :: t => if mm_kd r = 2 ∧ mm_in x (mm_ln r) = true then some (t, (h.1, mm_uI h.2.1 (100 + r) i x.toNatClampNeg y.toInt8.toInt32, h.2.2.1, h.2.2.2)) else none
    | 2, .inr (.inr q) :: .inl x :: .inr (.inr (r, i)) :: t => if mm_kd r = 3 ∧ mm_in x (mm_ln r) = true ∧ q.1 ≠ 0 ∧ mm_as (mm_ax r) q.1 = true then some (t, (h.1, h.2.1, h.2.2.1, mm_uR h.2.2.2 (100 + r) i x.toNatClampNeg q)) else none
    | _, _ => none
  | 4 => match st with
    | .inr (.inr (r, _)) :: t => if 1 ≤ mm_kd r ∧ mm_kd r ≤ 3 then some (.inl (Int32.ofNat (mm_ln r)) :: t, h) else none
    | _ => none
  | 5 => match st with
    | [.inl n, .inl dp, .inr (.inr (r1, i1)), .inl sp, .inr (.inr (r0, i0))] => if mm_kd r0 = 1 ∧ mm_kd r1 = 1 ∧ ¬ sp < 0 ∧ ¬ dp < 0 ∧ ¬ n < 0 ∧ sp.toNatClampNeg + n.toNatClampNeg ≤ mm_ln r0 ∧ dp.toNatClampNeg + n.toNatClampNeg ≤ mm_ln r1 then
        some ([], (h.1, mm_cp h.2.1 (100 + r0) i0 (100 + r1) i1 sp.toNatClampNeg dp.toNatClampNeg n.toNatClampNeg, h.2.2.1, h.2.2.2)) else none
    | _ => none
  | 6 => match st with
    | .inr (.inr (r, i)) :: t => if r = 3 then some (.inl (if mm_io a i = true then 1 else 0) :: t, h) else none
    | _ => none
  | 7 => match st with
    | [.inr (.inr (_, _))] => some ([], h)
    | _ => none
  | 8 => match st with
    | .inl y :: .inl x :: t => if (t.map mm_cat).sum ≤ 7 then some (.inl (if y < x then y else x) :: t, h) else none
    | _ => none
  | _ => none
def mm_nr (ids : List (Nat × Nat)) (r : Nat) : Nat := (ids.filter (fun q => q.1 == r)).length
def mm_al (op a b : Nat) (st : List mm_V) (h : mm_H) : Option (List mm_V × mm_H × Nat × Nat) := match op with
  | 0 => if mm_co a (mm_nr h.1 a) = b ∧ mm_kd a = 0 ∧ (a = 3 → mm_nr h.1 a < 4) ∧ (a, mm_nr h.1 a) ∉ h.1 ∧ a ≠ 0 ∧ (mm_fs a).all (fun q => h.2.1 q.1 (mm_nr h.1 a) 0 == 0 && h.2.2.1 q.1 (mm_nr h.1 a) == 0 && h.2.2.2 q.1 (mm_nr h.1 a) 0 == (0, 0)) = true then
      some (.inr (.inr (a, mm_nr h.1 a)) :: st, (h.1 ++ [(a, mm_nr h.1 a)], h.2), 1, mm_N b) else none
  | 1 => match st with
    | .inl n :: t => if n = Int32.ofNat (mm_ln a) ∧ mm_kd a = b + 1 ∧ b ≤ 1 ∧ (a, mm_nr h.1 a) ∉ h.1 ∧ (List.range (mm_ln a)).all (fun j => h.2.1 (100 + a) (mm_nr h.1 a) j == 0) = true then
        some (.inr (.inr (a, mm_nr h.1 a)) :: t, (h.1 ++ [(a, mm_nr h.1 a)], h.2), 1, mm_ln a) else none
    | _ => none
  | 2 => match st with
    | .inl n :: t => if n = Int32.ofNat (mm_ln a) ∧ mm_kd a = 3 ∧ (a, mm_nr h.1 a) ∉ h.1 ∧ (List.range (mm_ln a)).all (fun j => h.2.2.2 (100 + a) (mm_nr h.1 a) j == (0, 0)) = true then
        some (.inr (.inr (a, mm_nr h.1 a)) :: t, (h.1 ++ [(a, mm_nr h.1 a)], h.2), 1, mm_ln a) else none
    | _ => none
  | 3 => match st with
    | .inl k :: .inl n :: t => if n = 6 ∧ k = 6 ∧ a = 14 ∧ b = 15 ∧ (14, mm_nr h.1 14) ∉ h.1 ∧ (∀ j, j < 6 → (15, mm_nr h.1 15 + j) ∉ h.1) ∧ (List.range 6).all (fun x => (List.range 6).all (fun j => h.2.1 115 (mm_nr h.1 15 + x) j == 0)) = true then
        some (.inr (.inr (14, mm_nr h.1 14)) :: t, (h.1 ++ [(14, mm_nr h.1 14)] ++ (List.range 6).map (fun j => (15, mm_nr h.1 15 + j)), h.2.1, h.2.2.1, fun c i j => if c = 114 ∧ i = mm_nr h.1 14 ∧ j < 6 then (15, mm_nr h.1 15 + j) else h.2.2.2 c i j), 7, 42) else none
    | _ => none
  | _ => none
def mm_cl (op a b : Nat) (st : List mm_V) : Option (Nat × List mm_V × List mm_V) := match op with
  | 0 => if b ≤ st.length then some (a, (st.take b).reverse, st.drop b) else none
  | 1 => match st.drop b with
    | .inr (.inr (r, i)) :: t => if mm_kd r = 0 then some (a, .inr (.inr (r, i)) :: (st.take b).reverse, t) else none
    | _ => none
  | 2 => match st.drop b with
    | .inr (.inr (r, i)) :: t => if mm_co r i = mm_ow a ∧ mm_kd r = 0 then some (a, .inr (.inr (r, i)) :: (st.take b).reverse, t) else none
    | _ => none
  | 3 => match st.drop b with
    | .inr (.inr (r, i)) :: t => if r = 3 ∧ i < 4 then some (mm_vs a i, .inr (.inr (r, i)) :: (st.take b).reverse, t) else none
    | _ => none
  | _ => none
def mm_sp (as : List mm_V) : List (Option mm_V) := as.flatMap (fun v => if mm_cat v = 2 then [some v, none] else [some v])
def mm_il (n : Nat) (as : List mm_V) : List (Option mm_V) := mm_sp as ++ List.replicate (n - (mm_sp as).length) none
def mm_re (m op : Nat) (st : List mm_V) : Option (Option mm_V) := match op with
  | 0 => match st with
    | [.inl v] => if mm_rt m = some .int ∨ (mm_rt m = some .boolean ∧ (v = 0 ∨ v = 1)) then some (some (.inl v)) else none
    | _ => none
  | 1 => match st with
    | [.inr (.inl v)] => if mm_rt m = some .long then some (some (.inr (.inl v))) else none
    | _ => none
  | 2 => match st with
    | [] => if mm_rt m = none then some none else none
    | _ => none
  | _ => none
def mm_run : Nat → mm_F → mm_H → Option (Option mm_V × mm_H)
  | 0, _, _ => none
  | n + 1, f, h => match mm_fetch f.1 f.2.1 with
    | none => none
    | some e => match e.1 with
      | 0 => match mm_ps e.2.1 e.2.2.2.2.1 e.2.2.2.2.2.1 f.2.2.2.1 with
        | some st => mm_run n (f.1, e.2.2.1, f.2.2.1, st, f.2.2.2.2) h
        | none => none
      | 1 => match mm_br e.2.1 e.2.2.1 e.2.2.2.1 e.2.2.2.2.1 e.2.2.2.2.2.1 e.2.2.2.2.2.2 f.2.2.2.1 with
        | some q => mm_run n (f.1, q.1, f.2.2.1, q.2, f.2.2.2.2) h
        | none => none
      | 2 => match mm_lo e.2.1 e.2.2.2.1 e.2.2.2.2.1 e.2.2.2.2.2.1 f.2.2.1 f.2.2.2.1 with
        | some q => mm_run n (f.1, e.2.2.1, q.1, q.2, f.2.2.2.2) h
        | none => none
      | 3 => match mm_hp e.2.1 e.2.2.2.1 e.2.2.2.2.1 f.2.2.2.1 h with
        | some q => mm_run n (f.1, e.2.2.1, f.2.2.1, q.1, f.2.2.2.2) q.2
        | none => none
      | 4 => match mm_al e.2.1 e.2.2.2.1 e.2.2.2.2.1 f.2.2.2.1 h with
        | some q => if f.2.2.2.2.1 + q.2.2.1 ≤ mm_mc f.1 ∧ f.2.2.2.2.2 + q.2.2.2 ≤ mm_ms f.1 then mm_run n (f.1, e.2.2.1, f.2.2.1, q.1, f.2.2.2.2.1 + q.2.2.1, f.2.2.2.2.2 + q.2.2.2) q.2.1 else none
        | none => none
      | 5 => match mm_cl e.2.1 e.2.2.2.1 e.2.2.2.2.1 f.2.2.2.1 with
        | some q => if f.2.2.2.2.1 + mm_mc q.1 ≤ mm_mc f.1 ∧ f.2.2.2.2.2 + mm_ms q.1 ≤ mm_ms f.1 ∧ (q.2.2.map mm_cat).sum ≤ 8 ∧ (mm_sp q.2.1).length ≤ mm_mL q.1 then (match mm_run n (q.1, 0, mm_il (mm_mL q.1) q.2.1, [], 0, 0) h with
            | some v => mm_run n (f.1, e.2.2.1, f.2.2.1, v.1.toList ++ q.2.2, f.2.2.2.2.1 + mm_mc q.1, f.2.2.2.2.2 + mm_ms q.1) v.2
            | none => none) else none
        | none => none
      | 6 => match mm_re f.1 e.2.1 f.2.2.2.1 with
        | some v => some (v, h)
        | none => none
      | _ => none
