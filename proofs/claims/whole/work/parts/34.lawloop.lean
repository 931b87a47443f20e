/-! the law's loop, and its start: over a relation of the two pictures that every call keeps -/
/-- every call answers alike and keeps the relation -/
def lw_ops (Rl : Nat → mm_H → mm_H → Prop) : Prop := ∀ (k : Nat) (hC hM : mm_H), k < 64 → Rl k hC hM → (∀ w : Int64, lw_two (Rl (k + 1)) 1 116 [.inr (.inl w)] hC hM) ∧ (lw_two (Rl (k + 1)) 2 117 [] hC hM) ∧ (lw_two (Rl (k + 1)) 3 121 [] hC hM) ∧ (lw_two (Rl (k + 1)) 4 122 [] hC hM) ∧ (∀ w0 w1 : Int32, lw_two (Rl (k + 1)) 5 127 [.inl w0, .inl w1] hC hM) ∧ (∀ w0 w1 : Int32, lw_two (Rl (k + 1)) 6 128 [.inl w0, .inl w1] hC hM) ∧ (∀ w0 w1 w2 : Int32, lw_two (Rl (k + 1)) 7 129 [.inl w0, .inl w1, .inl w2] hC hM) ∧ (∀ w0 : Int32, lw_two (Rl (k + 1)) 8 131 [.inl w0] hC hM) ∧ (∀ w0 w1 w2 w3 w4 : Int32, lw_two (Rl (k + 1)) 9 135 [.inl w0, .inl w1, .inl w2, .inl w3, .inl w4] hC hM) ∧ (∀ w0 w1 : Int32, lw_two (Rl (k + 1)) 10 138 [.inl w0, .inl w1] hC hM) ∧ (∀ w0 w1 w2 : Int32, lw_two (Rl (k + 1)) 11 139 [.inl w0, .inl w1, .inl w2] hC hM) ∧ (∀ w0 w1 : Int32, lw_two (Rl (k + 1)) 12 143 [.inl w0, .inl w1] hC hM) ∧ (∀ w0 w1 : Int32, lw_two (Rl (k + 1)) 13 144 [.inl w0, .inl w1] hC hM) ∧ (∀ w0 w1 : Int32, lw_two (Rl (k + 1)) 14 145 [.inl w0, .inl w1] hC hM) ∧ (lw_two (Rl (k + 1)) 15 146 [] hC hM) ∧ (∀ w0 w1 w2 : Int32, lw_two (Rl (k + 1)) 16 149 [.inl w0, .inl w1, .inl w2] hC hM) ∧ (∀ w0 : Int32, lw_two (Rl (k + 1)) 17 151 [.inl w0] hC hM) ∧ (∀ w0 : Int32, lw_two (Rl (k + 1)) 18 153 [.inl w0] hC hM) ∧ (∀ w0 w1 w2 : Int32, lw_two (Rl (k + 1)) 19 156 [.inl w0, .inl w1, .inl w2] hC hM) ∧ (∀ w0 w1 w2 : Int32, lw_two (Rl (k + 1)) 20 158 [.inl w0, .inl w1, .inl w2] hC hM) ∧ (∀ w0 : Int32, lw_two (Rl (k + 1)) 21 159 [.inl w0] hC hM) ∧ (lw_two (Rl (k + 1)) 22 160 [] hC hM) ∧ (lw_two (Rl (k + 1)) 23 163 [] hC hM) ∧ (∀ w0 w1 w2 w3 : Int32, lw_two (Rl (k + 1)) 24 167 [.inl w0, .inl w1, .inl w2, .inl w3] hC hM) ∧ (lw_two (Rl (k + 1)) 25 168 [] hC hM) ∧ (lw_two (Rl (k + 1)) 26 169 [] hC hM) ∧ (∀ w0 : Int32, lw_two (Rl (k + 1)) 27 172 [.inl w0] hC hM) ∧ (lw_twoL (Rl (k + 1)) 28 175 [] hC hM)
section LWL
variable {p : Program} {l : Launch} {e : Env} {s : State} {mi : MethodId} {below : List Frame} {meth : Method} {c : Code} {D : va_G} {aC : Nat → ClassId} {φ : Nat → Nat → Nat} {b L : Nat} {xs : Nat → Int32}
theorem lw_gt {L k : Nat} (hL : L ≤ 384) (hk : k ≤ 64) : nI L - 6 < nI (6 * k) ↔ L < 6 * k + 6 := by
  rw [Int32.lt_iff_toInt_lt, show (6 : Int32) = nI 6 from rfl, pk_sub_toInt (by omega) (by omega), nI_toInt (by omega)]
  omega
theorem lw_loop (Rl : Nat → mm_H → mm_H → Prop) (hRid : ∀ k a b, Rl k a b → lw_ids a b) (hops : lw_ops Rl) (hop0 : ∀ k hC hM, k < 64 → Rl k hC hM → Rl (k + 1) hC hM) (hL : L ≤ 384) (C : lw_C D aC φ p s mi c b) (hXs : va_X b L xs s s.heap) (hbl : b < s.heap.size) (hr : meth.sig.returnType = ret) (hlocks : meth.locks = false) :
    ∀ (d k : Nat), k ≤ 64 → L < 6 * k + 6 * d + 6 → ∀ (hC hM : mm_H), Rl k hC hM → ∀ (H : Heap) (locs : List Loc), va_P D mm_cls (mm_ws aC φ hC) H → va_P D mm_cls (mm_ws aC φ hM) H → va_S (fun q => s.heap.size ≤ q) s.heap H locs → ∀ (ls : Array Slot), lv_has ls 4 [(0, .ref b), (1, .ref (φ 1 0)), (2, .ref (φ 9 0)), (3, .int (nI (6 * k)))] → W p l e room_1 s mi #[Value.ref b] below meth c H locs 117 1058 (lw_Z below #[Value.ref b] s) (F0 mi 18 ls []) := by
  have hx := C.1
  have hb := C.2.1
  have hbA : ¬ (fun q : Nat => s.heap.size ≤ q) b := Nat.not_le.mpr hbl
  have hexit : ∀ (H : Heap) (locs : List Loc) (ls : Array Slot), va_S (fun q => s.heap.size ≤ q) s.heap H locs → W p l e room_1 s mi #[Value.ref b] below meth c H locs 117 1058 (lw_Z below #[Value.ref b] s) (F0 mi 981 ls []) := by
    intro H locs ls hS
    refine lv_iconst (v := 1) hx hb dl_981 (by decide) ?_
    refine va_forget (fun q hq => hS.2.2 q hq) ?_
    refine W.widen (k := 600000) (n := 7302250) (by decide) (by decide) ?_
    exact lw_ret hx hb hr hlocks dl_982
  intro d
  induction d with
  | zero =>
    intro k hk64 hLk hC hM hRl H locs hP hP2 hS ls hl
    refine lv_iload_n hx hb dl_18 rfl (lv_at hl 3 rfl) ?_
    refine lv_aload_n hx hb dl_19 rfl (lv_at hl 0 rfl) ?_
    refine va_slen hx hb hXs hbl hbA hS dl_20 ?_
    refine lv_bipush (v := 6) hx hb dl_21 rfl ?_
    refine lv_isub hx hb dl_23 ?_
    refine lv_icmp_gt (tgt := 981) hx hb dl_24 (by decide) (fun _ => hexit H locs ls hS) (fun h9 => absurd ((lw_gt hL hk64).mpr (by omega)) h9)
  | succ d ih =>
    intro k hk64 hLk hC hM hRl H locs hP hP2 hS ls hl
    refine lv_iload_n hx hb dl_18 rfl (lv_at hl 3 rfl) ?_
    refine lv_aload_n hx hb dl_19 rfl (lv_at hl 0 rfl) ?_
    refine va_slen hx hb hXs hbl hbA hS dl_20 ?_
    refine lv_bipush (v := 6) hx hb dl_21 rfl ?_
    refine lv_isub hx hb dl_23 ?_
    refine lv_icmp_gt (tgt := 981) hx hb dl_24 (by decide) (fun _ => hexit H locs ls hS) (fun h9 => ?_)
    have hk6 : 6 * k + 6 ≤ L := by
      rcases Nat.lt_or_ge L (6 * k + 6) with q | q
      · exact absurd ((lw_gt hL hk64).mpr q) h9
      · exact q
    have hk : k < 64 := by omega
    have hop := hops k hC hM hk hRl
    have hid := hRid k hC hM hRl
    have hcs : 117 ≤ 600000 ∧ 1058 ≤ 7302250 := by decide
    refine lv_aload_n hx hb dl_27 rfl (lv_at hl 0 rfl) ?_
    refine lv_iload_n hx hb dl_28 rfl (lv_at hl 3 rfl) ?_
    refine va_sld hx hb hXs hbl hbA hS (vp_in_nI (by omega) (by omega)) dl_29 ?_
    refine lv_bipush (v := 31) hx hb dl_30 rfl ?_
    refine lv_iand hx hb dl_32 ?_
    obtain ⟨j, hj, ej⟩ := pk_andE (xs (nI (6 * k)).toNatClampNeg) (m := 31) 5 (by decide)
    rw [ej]
    have knext : ∀ (H1 : Heap) (locs1 : List Loc) (hC' hM' : mm_H), Rl (k + 1) hC' hM' → va_P D mm_cls (mm_ws aC φ hC') H1 → va_P D mm_cls (mm_ws aC φ hM') H1 → va_S (fun q => s.heap.size ≤ q) s.heap H1 locs1 → W p l e room_1 s mi #[Value.ref b] below meth c H1 locs1 117 1058 (lw_Z below #[Value.ref b] s) (F0 mi 975 ls []) := by
      intro H1 locs1 hC' hM' hRl' hP' hP2' hS'
      refine lv_iinc (v := nI (6 * (k + 1))) (lv' := [(3, .int (nI (6 * (k + 1)))), (0, .ref b), (1, .ref (φ 1 0)), (2, .ref (φ 9 0))]) hx hb dl_975 hl (k := 3) rfl (by rw [show Int32.ofInt 6 = nI 6 from rfl, nI_add]; rfl) (by decide) rfl (fun ls' hl' => ?_)
      refine lv_goto (tgt := 18) hx hb dl_978 (by decide) ?_
      exact ih (k + 1) (by omega) (by omega) hC' hM' hRl' H1 locs1 hP' hP2' hS' ls' (lv_sub hl' [1, 2, 3, 0] rfl)
    match j, hj with
    | 0, _ => exact lv_tableIn (off := 127) (tgt := 160) hx hb dl_33 (by decide) (by decide) (by decide) (by decide) (lw_case0 C hXs hbl hl hk6 hL hcs hid (fun a b9 h9 => hRid _ _ _ h9) (hop.1 _) hP hP2 hS (fun hC' hM' H1 locs1 hz a1 a2 a3 => knext H1 locs1 hC' hM' hz a1 a2 a3))
    | 1, _ => exact lv_tableIn (off := 180) (tgt := 213) hx hb dl_33 (by decide) (by decide) (by decide) (by decide) (lw_case1 C hXs hbl hl hk6 hL hcs hid (fun a b9 h9 => hRid _ _ _ h9) (hop.2.1) hP hP2 hS (fun hC' hM' H1 locs1 hz a1 a2 a3 => knext H1 locs1 hC' hM' hz a1 a2 a3))
    | 2, _ => exact lv_tableIn (off := 193) (tgt := 226) hx hb dl_33 (by decide) (by decide) (by decide) (by decide) (lw_case2 C hXs hbl hl hk6 hL hcs hid (fun a b9 h9 => hRid _ _ _ h9) (hop.2.2.1) hP hP2 hS (fun hC' hM' H1 locs1 hz a1 a2 a3 => knext H1 locs1 hC' hM' hz a1 a2 a3))
    | 3, _ => exact lv_tableIn (off := 206) (tgt := 239) hx hb dl_33 (by decide) (by decide) (by decide) (by decide) (lw_case3 C hXs hbl hl hk6 hL hcs hid (fun a b9 h9 => hRid _ _ _ h9) (hop.2.2.2.1) hP hP2 hS (fun hC' hM' H1 locs1 hz a1 a2 a3 => knext H1 locs1 hC' hM' hz a1 a2 a3))
    | 4, _ => exact lv_tableIn (off := 219) (tgt := 252) hx hb dl_33 (by decide) (by decide) (by decide) (by decide) (lw_case4 C hXs hbl hl hk6 hL hcs hid (fun a b9 h9 => hRid _ _ _ h9) (hop.2.2.2.2.1 _ _) hP hP2 hS (fun hC' hM' H1 locs1 hz a1 a2 a3 => knext H1 locs1 hC' hM' hz a1 a2 a3))
    | 5, _ => exact lv_tableIn (off := 252) (tgt := 285) hx hb dl_33 (by decide) (by decide) (by decide) (by decide) (lw_case5 C hXs hbl hl hk6 hL hcs hid (fun a b9 h9 => hRid _ _ _ h9) (hop.2.2.2.2.2.1 _ _) hP hP2 hS (fun hC' hM' H1 locs1 hz a1 a2 a3 => knext H1 locs1 hC' hM' hz a1 a2 a3))
    | 6, _ => exact lv_tableIn (off := 285) (tgt := 318) hx hb dl_33 (by decide) (by decide) (by decide) (by decide) (lw_case6 C hXs hbl hl hk6 hL hcs hid (fun a b9 h9 => hRid _ _ _ h9) (hop.2.2.2.2.2.2.1 _ _ _) hP hP2 hS (fun hC' hM' H1 locs1 hz a1 a2 a3 => knext H1 locs1 hC' hM' hz a1 a2 a3))
    | 7, _ => exact lv_tableIn (off := 328) (tgt := 361) hx hb dl_33 (by decide) (by decide) (by decide) (by decide) (lw_case7 C hXs hbl hl hk6 hL hcs hid (fun a b9 h9 => hRid _ _ _ h9) (hop.2.2.2.2.2.2.2.1 _) hP hP2 hS (fun hC' hM' H1 locs1 hz a1 a2 a3 => knext H1 locs1 hC' hM' hz a1 a2 a3))
    | 8, _ => exact lv_tableIn (off := 351) (tgt := 384) hx hb dl_33 (by decide) (by decide) (by decide) (by decide) (lw_case8 C hXs hbl hl hk6 hL hcs hid (fun a b9 h9 => hRid _ _ _ h9) (hop.2.2.2.2.2.2.2.2.1 _ _ _ _ _) hP hP2 hS (fun hC' hM' H1 locs1 hz a1 a2 a3 => knext H1 locs1 hC' hM' hz a1 a2 a3))
    | 9, _ => exact lv_tableIn (off := 414) (tgt := 447) hx hb dl_33 (by decide) (by decide) (by decide) (by decide) (lw_case9 C hXs hbl hl hk6 hL hcs hid (fun a b9 h9 => hRid _ _ _ h9) (hop.2.2.2.2.2.2.2.2.2.1 _ _) hP hP2 hS (fun hC' hM' H1 locs1 hz a1 a2 a3 => knext H1 locs1 hC' hM' hz a1 a2 a3))
    | 10, _ => exact lv_tableIn (off := 447) (tgt := 480) hx hb dl_33 (by decide) (by decide) (by decide) (by decide) (lw_case10 C hXs hbl hl hk6 hL hcs hid (fun a b9 h9 => hRid _ _ _ h9) (hop.2.2.2.2.2.2.2.2.2.2.1 _ _ _) hP hP2 hS (fun hC' hM' H1 locs1 hz a1 a2 a3 => knext H1 locs1 hC' hM' hz a1 a2 a3))
    | 11, _ => exact lv_tableIn (off := 490) (tgt := 523) hx hb dl_33 (by decide) (by decide) (by decide) (by decide) (lw_case11 C hXs hbl hl hk6 hL hcs hid (fun a b9 h9 => hRid _ _ _ h9) (hop.2.2.2.2.2.2.2.2.2.2.2.1 _ _) hP hP2 hS (fun hC' hM' H1 locs1 hz a1 a2 a3 => knext H1 locs1 hC' hM' hz a1 a2 a3))
    | 12, _ => exact lv_tableIn (off := 523) (tgt := 556) hx hb dl_33 (by decide) (by decide) (by decide) (by decide) (lw_case12 C hXs hbl hl hk6 hL hcs hid (fun a b9 h9 => hRid _ _ _ h9) (hop.2.2.2.2.2.2.2.2.2.2.2.2.1 _ _) hP hP2 hS (fun hC' hM' H1 locs1 hz a1 a2 a3 => knext H1 locs1 hC' hM' hz a1 a2 a3))
    | 13, _ => exact lv_tableIn (off := 556) (tgt := 589) hx hb dl_33 (by decide) (by decide) (by decide) (by decide) (lw_case13 C hXs hbl hl hk6 hL hcs hid (fun a b9 h9 => hRid _ _ _ h9) (hop.2.2.2.2.2.2.2.2.2.2.2.2.2.1 _ _) hP hP2 hS (fun hC' hM' H1 locs1 hz a1 a2 a3 => knext H1 locs1 hC' hM' hz a1 a2 a3))
    | 14, _ => exact lv_tableIn (off := 589) (tgt := 622) hx hb dl_33 (by decide) (by decide) (by decide) (by decide) (lw_case14 C hXs hbl hl hk6 hL hcs hid (fun a b9 h9 => hRid _ _ _ h9) (hop.2.2.2.2.2.2.2.2.2.2.2.2.2.2.1) hP hP2 hS (fun hC' hM' H1 locs1 hz a1 a2 a3 => knext H1 locs1 hC' hM' hz a1 a2 a3))
    | 15, _ => exact lv_tableIn (off := 602) (tgt := 635) hx hb dl_33 (by decide) (by decide) (by decide) (by decide) (lw_case15 C hXs hbl hl hk6 hL hcs hid (fun a b9 h9 => hRid _ _ _ h9) (hop.2.2.2.2.2.2.2.2.2.2.2.2.2.2.2.1 _ _ _) hP hP2 hS (fun hC' hM' H1 locs1 hz a1 a2 a3 => knext H1 locs1 hC' hM' hz a1 a2 a3))
    | 16, _ => exact lv_tableIn (off := 645) (tgt := 678) hx hb dl_33 (by decide) (by decide) (by decide) (by decide) (lw_case16 C hXs hbl hl hk6 hL hcs hid (fun a b9 h9 => hRid _ _ _ h9) (hop.2.2.2.2.2.2.2.2.2.2.2.2.2.2.2.2.1 _) hP hP2 hS (fun hC' hM' H1 locs1 hz a1 a2 a3 => knext H1 locs1 hC' hM' hz a1 a2 a3))
    | 17, _ => exact lv_tableIn (off := 668) (tgt := 701) hx hb dl_33 (by decide) (by decide) (by decide) (by decide) (lw_case17 C hXs hbl hl hk6 hL hcs hid (fun a b9 h9 => hRid _ _ _ h9) (hop.2.2.2.2.2.2.2.2.2.2.2.2.2.2.2.2.2.1 _) hP hP2 hS (fun hC' hM' H1 locs1 hz a1 a2 a3 => knext H1 locs1 hC' hM' hz a1 a2 a3))
    | 18, _ => exact lv_tableIn (off := 691) (tgt := 724) hx hb dl_33 (by decide) (by decide) (by decide) (by decide) (lw_case18 C hXs hbl hl hk6 hL hcs hid (fun a b9 h9 => hRid _ _ _ h9) (hop.2.2.2.2.2.2.2.2.2.2.2.2.2.2.2.2.2.2.1 _ _ _) hP hP2 hS (fun hC' hM' H1 locs1 hz a1 a2 a3 => knext H1 locs1 hC' hM' hz a1 a2 a3))
    | 19, _ => exact lv_tableIn (off := 734) (tgt := 767) hx hb dl_33 (by decide) (by decide) (by decide) (by decide) (lw_case19 C hXs hbl hl hk6 hL hcs hid (fun a b9 h9 => hRid _ _ _ h9) (hop.2.2.2.2.2.2.2.2.2.2.2.2.2.2.2.2.2.2.2.1 _ _ _) hP hP2 hS (fun hC' hM' H1 locs1 hz a1 a2 a3 => knext H1 locs1 hC' hM' hz a1 a2 a3))
    | 20, _ => exact lv_tableIn (off := 777) (tgt := 810) hx hb dl_33 (by decide) (by decide) (by decide) (by decide) (lw_case20 C hXs hbl hl hk6 hL hcs hid (fun a b9 h9 => hRid _ _ _ h9) (hop.2.2.2.2.2.2.2.2.2.2.2.2.2.2.2.2.2.2.2.2.1 _) hP hP2 hS (fun hC' hM' H1 locs1 hz a1 a2 a3 => knext H1 locs1 hC' hM' hz a1 a2 a3))
    | 21, _ => exact lv_tableIn (off := 800) (tgt := 833) hx hb dl_33 (by decide) (by decide) (by decide) (by decide) (lw_case21 C hXs hbl hl hk6 hL hcs hid (fun a b9 h9 => hRid _ _ _ h9) (hop.2.2.2.2.2.2.2.2.2.2.2.2.2.2.2.2.2.2.2.2.2.1) hP hP2 hS (fun hC' hM' H1 locs1 hz a1 a2 a3 => knext H1 locs1 hC' hM' hz a1 a2 a3))
    | 22, _ => exact lv_tableIn (off := 813) (tgt := 846) hx hb dl_33 (by decide) (by decide) (by decide) (by decide) (lw_case22 C hXs hbl hl hk6 hL hcs hid (fun a b9 h9 => hRid _ _ _ h9) (hop.2.2.2.2.2.2.2.2.2.2.2.2.2.2.2.2.2.2.2.2.2.2.1) hP hP2 hS (fun hC' hM' H1 locs1 hz a1 a2 a3 => knext H1 locs1 hC' hM' hz a1 a2 a3))
    | 23, _ => exact lv_tableIn (off := 826) (tgt := 859) hx hb dl_33 (by decide) (by decide) (by decide) (by decide) (lw_case23 C hXs hbl hl hk6 hL hcs hid (fun a b9 h9 => hRid _ _ _ h9) (hop.2.2.2.2.2.2.2.2.2.2.2.2.2.2.2.2.2.2.2.2.2.2.2.1 _ _ _ _) hP hP2 hS (fun hC' hM' H1 locs1 hz a1 a2 a3 => knext H1 locs1 hC' hM' hz a1 a2 a3))
    | 24, _ => exact lv_tableIn (off := 879) (tgt := 912) hx hb dl_33 (by decide) (by decide) (by decide) (by decide) (lw_case24 C hXs hbl hl hk6 hL hcs hid (fun a b9 h9 => hRid _ _ _ h9) (hop.2.2.2.2.2.2.2.2.2.2.2.2.2.2.2.2.2.2.2.2.2.2.2.2.1) hP hP2 hS (fun hC' hM' H1 locs1 hz a1 a2 a3 => knext H1 locs1 hC' hM' hz a1 a2 a3))
    | 25, _ => exact lv_tableIn (off := 892) (tgt := 925) hx hb dl_33 (by decide) (by decide) (by decide) (by decide) (lw_case25 C hXs hbl hl hk6 hL hcs hid (fun a b9 h9 => hRid _ _ _ h9) (hop.2.2.2.2.2.2.2.2.2.2.2.2.2.2.2.2.2.2.2.2.2.2.2.2.2.1) hP hP2 hS (fun hC' hM' H1 locs1 hz a1 a2 a3 => knext H1 locs1 hC' hM' hz a1 a2 a3))
    | 26, _ => exact lv_tableIn (off := 905) (tgt := 938) hx hb dl_33 (by decide) (by decide) (by decide) (by decide) (lw_case26 C hXs hbl hl hk6 hL hcs hid (fun a b9 h9 => hRid _ _ _ h9) (hop.2.2.2.2.2.2.2.2.2.2.2.2.2.2.2.2.2.2.2.2.2.2.2.2.2.2.1 _) hP hP2 hS (fun hC' hM' H1 locs1 hz a1 a2 a3 => knext H1 locs1 hC' hM' hz a1 a2 a3))
    | 27, _ => exact lv_tableIn (off := 928) (tgt := 961) hx hb dl_33 (by decide) (by decide) (by decide) (by decide) (lw_case27 C hXs hbl hl hk6 hL hcs hid (fun a b9 h9 => hRid _ _ _ h9) (hop.2.2.2.2.2.2.2.2.2.2.2.2.2.2.2.2.2.2.2.2.2.2.2.2.2.2.2) hP hP2 hS (fun hC' hM' H1 locs1 hz a1 a2 a3 => knext H1 locs1 hC' hM' hz a1 a2 a3))
    | 28, _ => exact lv_tableOut (tgt := 975) hx hb dl_33 (Or.inr (by decide)) (by decide) (knext H locs hC hM (hop0 k hC hM hk hRl) hP hP2 hS)
    | 29, _ => exact lv_tableOut (tgt := 975) hx hb dl_33 (Or.inr (by decide)) (by decide) (knext H locs hC hM (hop0 k hC hM hk hRl) hP hP2 hS)
    | 30, _ => exact lv_tableOut (tgt := 975) hx hb dl_33 (Or.inr (by decide)) (by decide) (knext H locs hC hM (hop0 k hC hM hk hRl) hP hP2 hS)
    | 31, _ => exact lv_tableOut (tgt := 975) hx hb dl_33 (Or.inr (by decide)) (by decide) (knext H locs hC hM (hop0 k hC hM hk hRl) hP hP2 hS)
    | j + 32, hj => omega
end LWL
