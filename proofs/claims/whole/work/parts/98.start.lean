/-! every call keeps the relation; the law's start -/
theorem pz_ops : lw_ops pz_R := by
  rintro k hC hM hk ⟨ck, n, g, f, A, κ, I, J, LC, LM, rfl, rfl, h⟩
  exact ⟨fun w => op1 h w, op2 h, op3 h, op4 h hk, fun a b => op5 h a b, fun a b => op6 h a b, fun a b c => op7 h hk a b c, fun a => op8 h a, fun a b c d e => op9 h hk a b c d e, fun a b => op10 h a b, fun a b c => op11 h hk a b c, fun a b => op12 h a b, fun a b => op13 h hk a b, fun a b => op14 h hk a b, op15 h hk, fun a b c => op16 h a b c, fun a => op17 h a, fun a => op18 h a, fun a b c => op19 h a b c, fun a b c => op20 h a b c, fun a => op21 h hk a, op22 h hk, op23 h, fun a b c d => op24 h a b c d, op25 h, op26 h, fun a => op27 h a, op28 h⟩
theorem whole_start {p : Program} {e : Env} {s : State} {m : MethodId} {below : List Frame} {meth : Method} {c : Code} (l : Launch) {b L : Nat} {xs : Nat → Int32} (hL : L ≤ 384) (C0 : lw_At p s m meth c b L xs) : W p l e room_1 s m #[Value.ref b] below meth c s.heap [] 0 0 (lw_Z below #[Value.ref b] s) (entryFrame m ([Value.ref b] : List Value).toArray 4) :=
  lw_begin pz_R pz_R_ids pz_ops pz_R_op0 pz_R_0 l hL C0
