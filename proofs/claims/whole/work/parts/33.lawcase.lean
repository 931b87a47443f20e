/-! the law's cases: the same call of both, their answers compared -/
section LWK
variable {p : Program} {l : Launch} {e : Env} {s : State} {mi : MethodId} {below : List Frame} {meth : Method} {c : Code} {H : Heap} {locs : List Loc} {cells slots : Nat} {Q : State → Prop} {D : va_G} {aC : Nat → ClassId} {φ : Nat → Nat → Nat} {b L k : Nat} {xs : Nat → Int32} {ls : Array Slot} {hC hM : mm_H} {Z : mm_H → mm_H → Prop}
def lw_two (Z : mm_H → mm_H → Prop) (yC yM : Nat) (as : List mm_V) (hC hM : mm_H) : Prop := ∃ (r : Int32) (hC' hM' : mm_H), mm_ev yC 0 (mm_il (mm_mL yC) (.inr (.inr (1, 0)) :: as)) [] hC = some (some (.inl r), hC') ∧ mm_ev yM 0 (mm_il (mm_mL yM) (.inr (.inr (9, 0)) :: as)) [] hM = some (some (.inl r), hM') ∧ Z hC' hM'
def lw_twoL (Z : mm_H → mm_H → Prop) (yC yM : Nat) (as : List mm_V) (hC hM : mm_H) : Prop := ∃ (r : Int64) (hC' hM' : mm_H), mm_ev yC 0 (mm_il (mm_mL yC) (.inr (.inr (1, 0)) :: as)) [] hC = some (some (.inr (.inl r)), hC') ∧ mm_ev yM 0 (mm_il (mm_mL yM) (.inr (.inr (9, 0)) :: as)) [] hM = some (some (.inr (.inl r)), hM') ∧ Z hC' hM'
def lw_ids (hC hM : mm_H) : Prop := hC.1 = mm_idC ∧ hM.1 = mm_idM ∧ mm_okH hC ∧ mm_okH hM
theorem lw_okI {h : mm_H} {as : List mm_V} (ha : as.all (fun v => match v with | .inr (.inr _) => false | _ => true) = true) : mm_okS h as := by
  intro v hv q e
  subst e
  have := List.all_eq_true.mp ha _ hv
  cases this
theorem lw_arg {pc j : Nat} {jz : Int} {st : List Value} (C : lw_C D aC φ p s mi c b) (hXs : va_X b L xs s s.heap) (hbl : b < s.heap.size) (hl : lv_has ls 4 [(0, .ref b), (1, .ref (φ 1 0)), (2, .ref (φ 9 0)), (3, .int (nI (6 * k)))]) (hk : 6 * k + j < L) (hL : L ≤ 384) (hS : va_S (fun q => s.heap.size ≤ q) s.heap H locs) (hj : Int32.ofInt jz = nI j) (d0 : decode code pc = .ok (.aload_n 0, 1)) (d1 : decode code (pc + 1) = .ok (.iload_n 3, 1)) (d2 : decode code (pc + 1 + 1) = .ok (.iconst jz, 1)) (d3 : decode code (pc + 1 + 1 + 1) = .ok (.iadd, 1)) (d4 : decode code (pc + 1 + 1 + 1 + 1) = .ok (.iaload, 1))
    (kk : W p l e room_1 s mi #[Value.ref b] below meth c H locs cells slots Q (F0 mi (pc + 1 + 1 + 1 + 1 + 1) ls (.int (xs (6 * k + j)) :: st))) : W p l e room_1 s mi #[Value.ref b] below meth c H locs cells slots Q (F0 mi pc ls st) := by
  obtain ⟨hx, hb, -⟩ := C
  have hbA : ¬ (fun q : Nat => s.heap.size ≤ q) b := Nat.not_le.mpr hbl
  refine lv_aload_n hx hb d0 rfl (lv_at hl 0 rfl) ?_
  refine lv_iload_n hx hb d1 rfl (lv_at hl 3 rfl) ?_
  refine lv_iconst (v := nI j) hx hb d2 hj ?_
  refine lv_iadd hx hb d3 ?_
  rw [nI_add]
  refine va_sld hx hb hXs hbl hbA hS (vp_in_nI hk (by omega)) d4 ?_
  rw [nI_clamp (by omega)]
  exact kk
theorem lw_cmp (r : Int64) : lg_cmp r r = 0 := by
  unfold lg_cmp
  simp
set_option maxRecDepth 100000 in
theorem lw_co1 : mm_co 1 0 = 0 ∧ mm_kd 1 = 0 ∧ (1 : Nat) ≠ 3 := by decide +kernel
set_option maxRecDepth 100000 in
theorem lw_co9 : mm_co 9 0 = 11 ∧ mm_kd 9 = 0 ∧ (9 : Nat) ≠ 3 := by decide +kernel
theorem lw_m1 : (1, 0) ∈ mm_idC := by decide +kernel
theorem lw_m9 : (9, 0) ∈ mm_idM := by decide +kernel
set_option maxRecDepth 100000 in
theorem lw_w1 : lw_wok 15 1 312 313 314 = true := by decide +kernel
set_option maxRecDepth 100000 in
theorem lw_v1 : mm_ow 1 = 0 ∧ mm_na 1 = 1 ∧ mm_mL 1 = 4 := by decide +kernel
set_option maxRecDepth 100000 in
theorem lw_w116 : lw_wok 19 116 902 903 904 = true := by decide +kernel
set_option maxRecDepth 100000 in
theorem lw_v116 : mm_ow 116 = 11 ∧ mm_na 116 = 1 ∧ mm_mL 116 = 7 := by decide +kernel
set_option maxRecDepth 100000 in
theorem lw_w2 : lw_wok 20 2 327 328 329 = true := by decide +kernel
set_option maxRecDepth 100000 in
theorem lw_v2 : mm_ow 2 = 0 ∧ mm_na 2 = 0 ∧ mm_mL 2 = 2 := by decide +kernel
set_option maxRecDepth 100000 in
theorem lw_w117 : lw_wok 24 117 907 908 909 = true := by decide +kernel
set_option maxRecDepth 100000 in
theorem lw_v117 : mm_ow 117 = 11 ∧ mm_na 117 = 0 ∧ mm_mL 117 = 2 := by decide +kernel
set_option maxRecDepth 100000 in
theorem lw_w3 : lw_wok 25 3 331 332 333 = true := by decide +kernel
set_option maxRecDepth 100000 in
theorem lw_v3 : mm_ow 3 = 0 ∧ mm_na 3 = 0 ∧ mm_mL 3 = 1 := by decide +kernel
set_option maxRecDepth 100000 in
theorem lw_w121 : lw_wok 28 121 911 912 913 = true := by decide +kernel
set_option maxRecDepth 100000 in
theorem lw_v121 : mm_ow 121 = 11 ∧ mm_na 121 = 0 ∧ mm_mL 121 = 1 := by decide +kernel
set_option maxRecDepth 100000 in
theorem lw_w4 : lw_wok 29 4 351 352 353 = true := by decide +kernel
set_option maxRecDepth 100000 in
theorem lw_v4 : mm_ow 4 = 0 ∧ mm_na 4 = 0 ∧ mm_mL 4 = 2 := by decide +kernel
set_option maxRecDepth 100000 in
theorem lw_w122 : lw_wok 32 122 929 930 931 = true := by decide +kernel
set_option maxRecDepth 100000 in
theorem lw_v122 : mm_ow 122 = 11 ∧ mm_na 122 = 0 ∧ mm_mL 122 = 2 := by decide +kernel
set_option maxRecDepth 100000 in
theorem lw_w5 : lw_wok 33 5 386 387 388 = true := by decide +kernel
set_option maxRecDepth 100000 in
theorem lw_v5 : mm_ow 5 = 0 ∧ mm_na 5 = 2 ∧ mm_mL 5 = 3 := by decide +kernel
set_option maxRecDepth 100000 in
theorem lw_w127 : lw_wok 37 127 933 934 935 = true := by decide +kernel
set_option maxRecDepth 100000 in
theorem lw_v127 : mm_ow 127 = 11 ∧ mm_na 127 = 2 ∧ mm_mL 127 = 3 := by decide +kernel
set_option maxRecDepth 100000 in
theorem lw_w6 : lw_wok 38 6 416 417 418 = true := by decide +kernel
set_option maxRecDepth 100000 in
theorem lw_v6 : mm_ow 6 = 0 ∧ mm_na 6 = 2 ∧ mm_mL 6 = 3 := by decide +kernel
set_option maxRecDepth 100000 in
theorem lw_w128 : lw_wok 41 128 956 957 958 = true := by decide +kernel
set_option maxRecDepth 100000 in
theorem lw_v128 : mm_ow 128 = 11 ∧ mm_na 128 = 2 ∧ mm_mL 128 = 4 := by decide +kernel
set_option maxRecDepth 100000 in
theorem lw_w7 : lw_wok 42 7 423 424 425 = true := by decide +kernel
set_option maxRecDepth 100000 in
theorem lw_v7 : mm_ow 7 = 0 ∧ mm_na 7 = 3 ∧ mm_mL 7 = 5 := by decide +kernel
set_option maxRecDepth 100000 in
theorem lw_w129 : lw_wok 46 129 960 961 962 = true := by decide +kernel
set_option maxRecDepth 100000 in
theorem lw_v129 : mm_ow 129 = 11 ∧ mm_na 129 = 3 ∧ mm_mL 129 = 5 := by decide +kernel
set_option maxRecDepth 100000 in
theorem lw_w8 : lw_wok 47 8 435 436 437 = true := by decide +kernel
set_option maxRecDepth 100000 in
theorem lw_v8 : mm_ow 8 = 0 ∧ mm_na 8 = 1 ∧ mm_mL 8 = 2 := by decide +kernel
set_option maxRecDepth 100000 in
theorem lw_w131 : lw_wok 51 131 964 965 966 = true := by decide +kernel
set_option maxRecDepth 100000 in
theorem lw_v131 : mm_ow 131 = 11 ∧ mm_na 131 = 1 ∧ mm_mL 131 = 2 := by decide +kernel
set_option maxRecDepth 100000 in
theorem lw_w9 : lw_wok 52 9 447 448 449 = true := by decide +kernel
set_option maxRecDepth 100000 in
theorem lw_v9 : mm_ow 9 = 0 ∧ mm_na 9 = 5 ∧ mm_mL 9 = 8 := by decide +kernel
set_option maxRecDepth 100000 in
theorem lw_w135 : lw_wok 56 135 972 973 974 = true := by decide +kernel
set_option maxRecDepth 100000 in
theorem lw_v135 : mm_ow 135 = 11 ∧ mm_na 135 = 5 ∧ mm_mL 135 = 7 := by decide +kernel
set_option maxRecDepth 100000 in
theorem lw_w10 : lw_wok 57 10 459 460 461 = true := by decide +kernel
set_option maxRecDepth 100000 in
theorem lw_v10 : mm_ow 10 = 0 ∧ mm_na 10 = 2 ∧ mm_mL 10 = 3 := by decide +kernel
set_option maxRecDepth 100000 in
theorem lw_w138 : lw_wok 60 138 979 980 981 = true := by decide +kernel
set_option maxRecDepth 100000 in
theorem lw_v138 : mm_ow 138 = 11 ∧ mm_na 138 = 2 ∧ mm_mL 138 = 3 := by decide +kernel
set_option maxRecDepth 100000 in
theorem lw_w11 : lw_wok 61 11 479 480 481 = true := by decide +kernel
set_option maxRecDepth 100000 in
theorem lw_v11 : mm_ow 11 = 0 ∧ mm_na 11 = 3 ∧ mm_mL 11 = 5 := by decide +kernel
set_option maxRecDepth 100000 in
theorem lw_w139 : lw_wok 64 139 998 999 1000 = true := by decide +kernel
set_option maxRecDepth 100000 in
theorem lw_v139 : mm_ow 139 = 11 ∧ mm_na 139 = 3 ∧ mm_mL 139 = 5 := by decide +kernel
set_option maxRecDepth 100000 in
theorem lw_w12 : lw_wok 65 12 483 484 485 = true := by decide +kernel
set_option maxRecDepth 100000 in
theorem lw_v12 : mm_ow 12 = 0 ∧ mm_na 12 = 2 ∧ mm_mL 12 = 5 := by decide +kernel
set_option maxRecDepth 100000 in
theorem lw_w143 : lw_wok 68 143 1005 1006 1007 = true := by decide +kernel
set_option maxRecDepth 100000 in
theorem lw_v143 : mm_ow 143 = 11 ∧ mm_na 143 = 2 ∧ mm_mL 143 = 3 := by decide +kernel
set_option maxRecDepth 100000 in
theorem lw_w13 : lw_wok 69 13 515 516 517 = true := by decide +kernel
set_option maxRecDepth 100000 in
theorem lw_v13 : mm_ow 13 = 0 ∧ mm_na 13 = 2 ∧ mm_mL 13 = 5 := by decide +kernel
set_option maxRecDepth 100000 in
theorem lw_w144 : lw_wok 72 144 1021 1022 1023 = true := by decide +kernel
set_option maxRecDepth 100000 in
theorem lw_v144 : mm_ow 144 = 11 ∧ mm_na 144 = 2 ∧ mm_mL 144 = 5 := by decide +kernel
set_option maxRecDepth 100000 in
theorem lw_w14 : lw_wok 73 14 533 534 535 = true := by decide +kernel
set_option maxRecDepth 100000 in
theorem lw_v14 : mm_ow 14 = 0 ∧ mm_na 14 = 2 ∧ mm_mL 14 = 5 := by decide +kernel
set_option maxRecDepth 100000 in
theorem lw_w145 : lw_wok 76 145 1025 1026 1027 = true := by decide +kernel
set_option maxRecDepth 100000 in
theorem lw_v145 : mm_ow 145 = 11 ∧ mm_na 145 = 2 ∧ mm_mL 145 = 5 := by decide +kernel
set_option maxRecDepth 100000 in
theorem lw_w15 : lw_wok 77 15 545 546 547 = true := by decide +kernel
set_option maxRecDepth 100000 in
theorem lw_v15 : mm_ow 15 = 0 ∧ mm_na 15 = 0 ∧ mm_mL 15 = 3 := by decide +kernel
set_option maxRecDepth 100000 in
theorem lw_w146 : lw_wok 80 146 1029 1030 1031 = true := by decide +kernel
set_option maxRecDepth 100000 in
theorem lw_v146 : mm_ow 146 = 11 ∧ mm_na 146 = 0 ∧ mm_mL 146 = 4 := by decide +kernel
set_option maxRecDepth 100000 in
theorem lw_w16 : lw_wok 81 16 554 555 556 = true := by decide +kernel
set_option maxRecDepth 100000 in
theorem lw_v16 : mm_ow 16 = 0 ∧ mm_na 16 = 3 ∧ mm_mL 16 = 5 := by decide +kernel
set_option maxRecDepth 100000 in
theorem lw_w149 : lw_wok 84 149 1033 1034 1035 = true := by decide +kernel
set_option maxRecDepth 100000 in
theorem lw_v149 : mm_ow 149 = 11 ∧ mm_na 149 = 3 ∧ mm_mL 149 = 4 := by decide +kernel
set_option maxRecDepth 100000 in
theorem lw_w17 : lw_wok 85 17 585 586 587 = true := by decide +kernel
set_option maxRecDepth 100000 in
theorem lw_v17 : mm_ow 17 = 0 ∧ mm_na 17 = 1 ∧ mm_mL 17 = 3 := by decide +kernel
set_option maxRecDepth 100000 in
theorem lw_w151 : lw_wok 88 151 1046 1047 1048 = true := by decide +kernel
set_option maxRecDepth 100000 in
theorem lw_v151 : mm_ow 151 = 11 ∧ mm_na 151 = 1 ∧ mm_mL 151 = 2 := by decide +kernel
set_option maxRecDepth 100000 in
theorem lw_w18 : lw_wok 89 18 593 594 595 = true := by decide +kernel
set_option maxRecDepth 100000 in
theorem lw_v18 : mm_ow 18 = 0 ∧ mm_na 18 = 1 ∧ mm_mL 18 = 2 := by decide +kernel
set_option maxRecDepth 100000 in
theorem lw_w153 : lw_wok 92 153 1054 1055 1056 = true := by decide +kernel
set_option maxRecDepth 100000 in
theorem lw_v153 : mm_ow 153 = 11 ∧ mm_na 153 = 1 ∧ mm_mL 153 = 2 := by decide +kernel
set_option maxRecDepth 100000 in
theorem lw_w19 : lw_wok 93 19 604 605 606 = true := by decide +kernel
set_option maxRecDepth 100000 in
theorem lw_v19 : mm_ow 19 = 0 ∧ mm_na 19 = 3 ∧ mm_mL 19 = 4 := by decide +kernel
set_option maxRecDepth 100000 in
theorem lw_w156 : lw_wok 96 156 1062 1063 1064 = true := by decide +kernel
set_option maxRecDepth 100000 in
theorem lw_v156 : mm_ow 156 = 11 ∧ mm_na 156 = 3 ∧ mm_mL 156 = 4 := by decide +kernel
set_option maxRecDepth 100000 in
theorem lw_w20 : lw_wok 97 20 629 630 631 = true := by decide +kernel
set_option maxRecDepth 100000 in
theorem lw_v20 : mm_ow 20 = 0 ∧ mm_na 20 = 3 ∧ mm_mL 20 = 5 := by decide +kernel
set_option maxRecDepth 100000 in
theorem lw_w158 : lw_wok 100 158 1074 1075 1076 = true := by decide +kernel
set_option maxRecDepth 100000 in
theorem lw_v158 : mm_ow 158 = 11 ∧ mm_na 158 = 3 ∧ mm_mL 158 = 4 := by decide +kernel
set_option maxRecDepth 100000 in
theorem lw_w21 : lw_wok 101 21 645 646 647 = true := by decide +kernel
set_option maxRecDepth 100000 in
theorem lw_v21 : mm_ow 21 = 0 ∧ mm_na 21 = 1 ∧ mm_mL 21 = 2 := by decide +kernel
set_option maxRecDepth 100000 in
theorem lw_w159 : lw_wok 104 159 1082 1083 1084 = true := by decide +kernel
set_option maxRecDepth 100000 in
theorem lw_v159 : mm_ow 159 = 11 ∧ mm_na 159 = 1 ∧ mm_mL 159 = 2 := by decide +kernel
set_option maxRecDepth 100000 in
theorem lw_w22 : lw_wok 105 22 649 650 651 = true := by decide +kernel
set_option maxRecDepth 100000 in
theorem lw_v22 : mm_ow 22 = 0 ∧ mm_na 22 = 0 ∧ mm_mL 22 = 2 := by decide +kernel
set_option maxRecDepth 100000 in
theorem lw_w160 : lw_wok 108 160 1086 1087 1088 = true := by decide +kernel
set_option maxRecDepth 100000 in
theorem lw_v160 : mm_ow 160 = 11 ∧ mm_na 160 = 0 ∧ mm_mL 160 = 2 := by decide +kernel
set_option maxRecDepth 100000 in
theorem lw_w23 : lw_wok 109 23 653 654 655 = true := by decide +kernel
set_option maxRecDepth 100000 in
theorem lw_v23 : mm_ow 23 = 0 ∧ mm_na 23 = 0 ∧ mm_mL 23 = 1 := by decide +kernel
set_option maxRecDepth 100000 in
theorem lw_w163 : lw_wok 112 163 1090 1091 1092 = true := by decide +kernel
set_option maxRecDepth 100000 in
theorem lw_v163 : mm_ow 163 = 11 ∧ mm_na 163 = 0 ∧ mm_mL 163 = 1 := by decide +kernel
set_option maxRecDepth 100000 in
theorem lw_w24 : lw_wok 113 24 669 670 671 = true := by decide +kernel
set_option maxRecDepth 100000 in
theorem lw_v24 : mm_ow 24 = 0 ∧ mm_na 24 = 4 ∧ mm_mL 24 = 6 := by decide +kernel
set_option maxRecDepth 100000 in
theorem lw_w167 : lw_wok 117 167 1102 1103 1104 = true := by decide +kernel
set_option maxRecDepth 100000 in
theorem lw_v167 : mm_ow 167 = 11 ∧ mm_na 167 = 4 ∧ mm_mL 167 = 7 := by decide +kernel
set_option maxRecDepth 100000 in
theorem lw_w25 : lw_wok 118 25 704 705 706 = true := by decide +kernel
set_option maxRecDepth 100000 in
theorem lw_v25 : mm_ow 25 = 0 ∧ mm_na 25 = 0 ∧ mm_mL 25 = 1 := by decide +kernel
set_option maxRecDepth 100000 in
theorem lw_w168 : lw_wok 121 168 1122 1123 1124 = true := by decide +kernel
set_option maxRecDepth 100000 in
theorem lw_v168 : mm_ow 168 = 11 ∧ mm_na 168 = 0 ∧ mm_mL 168 = 2 := by decide +kernel
set_option maxRecDepth 100000 in
theorem lw_w26 : lw_wok 122 26 725 726 727 = true := by decide +kernel
set_option maxRecDepth 100000 in
theorem lw_v26 : mm_ow 26 = 0 ∧ mm_na 26 = 0 ∧ mm_mL 26 = 1 := by decide +kernel
set_option maxRecDepth 100000 in
theorem lw_w169 : lw_wok 125 169 1126 1127 1128 = true := by decide +kernel
set_option maxRecDepth 100000 in
theorem lw_v169 : mm_ow 169 = 11 ∧ mm_na 169 = 0 ∧ mm_mL 169 = 2 := by decide +kernel
set_option maxRecDepth 100000 in
theorem lw_w27 : lw_wok 126 27 729 730 731 = true := by decide +kernel
set_option maxRecDepth 100000 in
theorem lw_v27 : mm_ow 27 = 0 ∧ mm_na 27 = 1 ∧ mm_mL 27 = 2 := by decide +kernel
set_option maxRecDepth 100000 in
theorem lw_w172 : lw_wok 129 172 1130 1131 1132 = true := by decide +kernel
set_option maxRecDepth 100000 in
theorem lw_v172 : mm_ow 172 = 11 ∧ mm_na 172 = 1 ∧ mm_mL 172 = 2 := by decide +kernel
set_option maxRecDepth 100000 in
theorem lw_w28 : lw_wok 130 28 737 738 739 = true := by decide +kernel
set_option maxRecDepth 100000 in
theorem lw_v28 : mm_ow 28 = 0 ∧ mm_na 28 = 0 ∧ mm_mL 28 = 5 := by decide +kernel
set_option maxRecDepth 100000 in
theorem lw_w175 : lw_wok 134 175 1142 1143 1144 = true := by decide +kernel
set_option maxRecDepth 100000 in
theorem lw_v175 : mm_ow 175 = 11 ∧ mm_na 175 = 0 ∧ mm_mL 175 = 3 := by decide +kernel
theorem lw_case0 (C : lw_C D aC φ p s mi c b) (hXs : va_X b L xs s s.heap) (hbl : b < s.heap.size) (hl : lv_has ls 4 [(0, .ref b), (1, .ref (φ 1 0)), (2, .ref (φ 9 0)), (3, .int (nI (6 * k)))]) (hk : 6 * k + 6 ≤ L) (hL : L ≤ 384) (hcs : cells ≤ 600000 ∧ slots ≤ 7302250) (hid : lw_ids hC hM) (hZ : ∀ a b, Z a b → lw_ids a b) (hop : lw_two Z 1 116 [.inr (.inl (((xs (6 * k + 1)).toInt64 <<< ((32 : Int32).toInt64 &&& 63)) ||| ((xs (6 * k + 2)).toInt64 &&& 4294967295)))] hC hM) (hP : va_P D mm_cls (mm_ws aC φ hC) H) (hP2 : va_P D mm_cls (mm_ws aC φ hM) H) (hS : va_S (fun q => s.heap.size ≤ q) s.heap H locs)
    (kk : ∀ (hC' hM' : mm_H) (H1 : Heap) (locs1 : List Loc), Z hC' hM' → va_P D mm_cls (mm_ws aC φ hC') H1 → va_P D mm_cls (mm_ws aC φ hM') H1 → va_S (fun q => s.heap.size ≤ q) s.heap H1 locs1 → W p l e room_1 s mi #[Value.ref b] below meth c H1 locs1 cells slots Q (F0 mi 975 ls [])) : W p l e room_1 s mi #[Value.ref b] below meth c H locs cells slots Q (F0 mi 160 ls []) := by
  obtain ⟨r, hC', hM', e1, e2, hz⟩ := hop
  obtain ⟨z1, z2, z3, z4⟩ := hZ _ _ hz
  obtain ⟨i1, i2, i3, i4⟩ := hid
  have hx := C.1
  have hb := C.2.1
  have hown := C.2.2.2.1
  have hts := C.2.2.2.2.1
  have hDC : va_D (fun q => s.heap.size ≤ q) (mm_ws aC φ hC) := mm_D_ids i1 C.2.2.2.2.2.2.1
  have hDM : va_D (fun q => s.heap.size ≤ q) (mm_ws aC φ hM) := mm_D_ids i2 C.2.2.2.2.2.2.2.1
  have hX := C.2.2.2.2.2.2.2.2
  refine lv_aload_n hx hb dl_160 rfl (lv_at hl 1 rfl) ?_
  refine lw_arg (j := 1) C hXs hbl hl (by omega) hL hS rfl dl_161 dl_162 dl_163 dl_164 dl_165 ?_
  refine lv_i2l hx hb dl_166 rfl ?_
  refine lv_bipush (v := 32) hx hb dl_167 rfl ?_
  refine lv_lshl hx hb dl_169 rfl ?_
  refine lw_arg (j := 2) C hXs hbl hl (by omega) hL hS rfl dl_170 dl_171 dl_172 dl_173 dl_174 ?_
  refine lv_i2l hx hb dl_175 rfl ?_
  refine lv_ldc2 (v := 4294967295) hx hb hown (hts _ (List.mem_of_getElem? (i := 1156) (of_decide_eq_true (by decide +kernel)))) dl_176 ?_
  refine lv_land hx hb dl_179 ?_
  refine lv_lor hx hb dl_180 ?_
  refine lw_call (as := [.inr (.inl (((xs (6 * k + 1)).toInt64 <<< ((32 : Int32).toInt64 &&& 63)) ||| ((xs (6 * k + 2)).toInt64 &&& 4294967295)))]) (h := hC) (h' := hC') (h2 := hM) (r := 1) (rest := []) C dl_181 lw_w1 (lw_v1).2.1 (by rw [(lw_v1).2.2]; exact Nat.le_of_ble_eq_true rfl) e1 (by rw [(lw_v1).1]; exact lw_co1) (by rw [i1]; exact lw_m1) i3 z3 (z1.trans i1.symm) (lw_okI rfl) hl.1 (Nat.le_of_ble_eq_true rfl) hcs hDC (fun z hz9 w hw9 => hX z (by rw [← i1]; exact hz9) w (by rw [← i2]; exact hw9)) hP hP2 hS (fun H1 locs1 hP hP2 hS => ?_)
  refine lv_aload_n hx hb dl_184 rfl (lv_at hl 2 rfl) ?_
  refine lw_arg (j := 1) C hXs hbl hl (by omega) hL hS rfl dl_185 dl_186 dl_187 dl_188 dl_189 ?_
  refine lv_i2l hx hb dl_190 rfl ?_
  refine lv_bipush (v := 32) hx hb dl_191 rfl ?_
  refine lv_lshl hx hb dl_193 rfl ?_
  refine lw_arg (j := 2) C hXs hbl hl (by omega) hL hS rfl dl_194 dl_195 dl_196 dl_197 dl_198 ?_
  refine lv_i2l hx hb dl_199 rfl ?_
  refine lv_ldc2 (v := 4294967295) hx hb hown (hts _ (List.mem_of_getElem? (i := 1156) (of_decide_eq_true (by decide +kernel)))) dl_200 ?_
  refine lv_land hx hb dl_203 ?_
  refine lv_lor hx hb dl_204 ?_
  refine lw_call (as := [.inr (.inl (((xs (6 * k + 1)).toInt64 <<< ((32 : Int32).toInt64 &&& 63)) ||| ((xs (6 * k + 2)).toInt64 &&& 4294967295)))]) (h := hM) (h' := hM') (h2 := hC') (r := 9) (rest := [.int r]) C dl_205 lw_w116 (lw_v116).2.1 (by rw [(lw_v116).2.2]; exact Nat.le_of_ble_eq_true rfl) e2 (by rw [(lw_v116).1]; exact lw_co9) (by rw [i2]; exact lw_m9) i4 z4 (z2.trans i2.symm) (lw_okI rfl) hl.1 (Nat.le_of_ble_eq_true rfl) hcs hDM (fun z hz9 w hw9 => (hX w (by rw [← z1]; exact hw9) z (by rw [← i2]; exact hz9)).symm) hP2 hP hS (fun H2 locs2 hP2 hP hS => ?_)
  refine lv_icmp_eq (tgt := 975) hx hb dl_208 (by decide) (fun _ => ?_) (fun h9 => absurd rfl h9)
  exact kk hC' hM' H2 locs2 hz hP hP2 hS
theorem lw_case1 (C : lw_C D aC φ p s mi c b) (hXs : va_X b L xs s s.heap) (hbl : b < s.heap.size) (hl : lv_has ls 4 [(0, .ref b), (1, .ref (φ 1 0)), (2, .ref (φ 9 0)), (3, .int (nI (6 * k)))]) (hk : 6 * k + 6 ≤ L) (hL : L ≤ 384) (hcs : cells ≤ 600000 ∧ slots ≤ 7302250) (hid : lw_ids hC hM) (hZ : ∀ a b, Z a b → lw_ids a b) (hop : lw_two Z 2 117 [] hC hM) (hP : va_P D mm_cls (mm_ws aC φ hC) H) (hP2 : va_P D mm_cls (mm_ws aC φ hM) H) (hS : va_S (fun q => s.heap.size ≤ q) s.heap H locs)
    (kk : ∀ (hC' hM' : mm_H) (H1 : Heap) (locs1 : List Loc), Z hC' hM' → va_P D mm_cls (mm_ws aC φ hC') H1 → va_P D mm_cls (mm_ws aC φ hM') H1 → va_S (fun q => s.heap.size ≤ q) s.heap H1 locs1 → W p l e room_1 s mi #[Value.ref b] below meth c H1 locs1 cells slots Q (F0 mi 975 ls [])) : W p l e room_1 s mi #[Value.ref b] below meth c H locs cells slots Q (F0 mi 213 ls []) := by
  obtain ⟨r, hC', hM', e1, e2, hz⟩ := hop
  obtain ⟨z1, z2, z3, z4⟩ := hZ _ _ hz
  obtain ⟨i1, i2, i3, i4⟩ := hid
  have hx := C.1
  have hb := C.2.1
  have hown := C.2.2.2.1
  have hts := C.2.2.2.2.1
  have hDC : va_D (fun q => s.heap.size ≤ q) (mm_ws aC φ hC) := mm_D_ids i1 C.2.2.2.2.2.2.1
  have hDM : va_D (fun q => s.heap.size ≤ q) (mm_ws aC φ hM) := mm_D_ids i2 C.2.2.2.2.2.2.2.1
  have hX := C.2.2.2.2.2.2.2.2
  refine lv_aload_n hx hb dl_213 rfl (lv_at hl 1 rfl) ?_
  refine lw_call (as := []) (h := hC) (h' := hC') (h2 := hM) (r := 1) (rest := []) C dl_214 lw_w2 (lw_v2).2.1 (by rw [(lw_v2).2.2]; exact Nat.le_of_ble_eq_true rfl) e1 (by rw [(lw_v2).1]; exact lw_co1) (by rw [i1]; exact lw_m1) i3 z3 (z1.trans i1.symm) (lw_okI rfl) hl.1 (Nat.le_of_ble_eq_true rfl) hcs hDC (fun z hz9 w hw9 => hX z (by rw [← i1]; exact hz9) w (by rw [← i2]; exact hw9)) hP hP2 hS (fun H1 locs1 hP hP2 hS => ?_)
  refine lv_aload_n hx hb dl_217 rfl (lv_at hl 2 rfl) ?_
  refine lw_call (as := []) (h := hM) (h' := hM') (h2 := hC') (r := 9) (rest := [.int r]) C dl_218 lw_w117 (lw_v117).2.1 (by rw [(lw_v117).2.2]; exact Nat.le_of_ble_eq_true rfl) e2 (by rw [(lw_v117).1]; exact lw_co9) (by rw [i2]; exact lw_m9) i4 z4 (z2.trans i2.symm) (lw_okI rfl) hl.1 (Nat.le_of_ble_eq_true rfl) hcs hDM (fun z hz9 w hw9 => (hX w (by rw [← z1]; exact hw9) z (by rw [← i2]; exact hz9)).symm) hP2 hP hS (fun H2 locs2 hP2 hP hS => ?_)
  refine lv_icmp_eq (tgt := 975) hx hb dl_221 (by decide) (fun _ => ?_) (fun h9 => absurd rfl h9)
  exact kk hC' hM' H2 locs2 hz hP hP2 hS
theorem lw_case2 (C : lw_C D aC φ p s mi c b) (hXs : va_X b L xs s s.heap) (hbl : b < s.heap.size) (hl : lv_has ls 4 [(0, .ref b), (1, .ref (φ 1 0)), (2, .ref (φ 9 0)), (3, .int (nI (6 * k)))]) (hk : 6 * k + 6 ≤ L) (hL : L ≤ 384) (hcs : cells ≤ 600000 ∧ slots ≤ 7302250) (hid : lw_ids hC hM) (hZ : ∀ a b, Z a b → lw_ids a b) (hop : lw_two Z 3 121 [] hC hM) (hP : va_P D mm_cls (mm_ws aC φ hC) H) (hP2 : va_P D mm_cls (mm_ws aC φ hM) H) (hS : va_S (fun q => s.heap.size ≤ q) s.heap H locs)
    (kk : ∀ (hC' hM' : mm_H) (H1 : Heap) (locs1 : List Loc), Z hC' hM' → va_P D mm_cls (mm_ws aC φ hC') H1 → va_P D mm_cls (mm_ws aC φ hM') H1 → va_S (fun q => s.heap.size ≤ q) s.heap H1 locs1 → W p l e room_1 s mi #[Value.ref b] below meth c H1 locs1 cells slots Q (F0 mi 975 ls [])) : W p l e room_1 s mi #[Value.ref b] below meth c H locs cells slots Q (F0 mi 226 ls []) := by
  obtain ⟨r, hC', hM', e1, e2, hz⟩ := hop
  obtain ⟨z1, z2, z3, z4⟩ := hZ _ _ hz
  obtain ⟨i1, i2, i3, i4⟩ := hid
  have hx := C.1
  have hb := C.2.1
  have hown := C.2.2.2.1
  have hts := C.2.2.2.2.1
  have hDC : va_D (fun q => s.heap.size ≤ q) (mm_ws aC φ hC) := mm_D_ids i1 C.2.2.2.2.2.2.1
  have hDM : va_D (fun q => s.heap.size ≤ q) (mm_ws aC φ hM) := mm_D_ids i2 C.2.2.2.2.2.2.2.1
  have hX := C.2.2.2.2.2.2.2.2
  refine lv_aload_n hx hb dl_226 rfl (lv_at hl 1 rfl) ?_
  refine lw_call (as := []) (h := hC) (h' := hC') (h2 := hM) (r := 1) (rest := []) C dl_227 lw_w3 (lw_v3).2.1 (by rw [(lw_v3).2.2]; exact Nat.le_of_ble_eq_true rfl) e1 (by rw [(lw_v3).1]; exact lw_co1) (by rw [i1]; exact lw_m1) i3 z3 (z1.trans i1.symm) (lw_okI rfl) hl.1 (Nat.le_of_ble_eq_true rfl) hcs hDC (fun z hz9 w hw9 => hX z (by rw [← i1]; exact hz9) w (by rw [← i2]; exact hw9)) hP hP2 hS (fun H1 locs1 hP hP2 hS => ?_)
  refine lv_aload_n hx hb dl_230 rfl (lv_at hl 2 rfl) ?_
  refine lw_call (as := []) (h := hM) (h' := hM') (h2 := hC') (r := 9) (rest := [.int r]) C dl_231 lw_w121 (lw_v121).2.1 (by rw [(lw_v121).2.2]; exact Nat.le_of_ble_eq_true rfl) e2 (by rw [(lw_v121).1]; exact lw_co9) (by rw [i2]; exact lw_m9) i4 z4 (z2.trans i2.symm) (lw_okI rfl) hl.1 (Nat.le_of_ble_eq_true rfl) hcs hDM (fun z hz9 w hw9 => (hX w (by rw [← z1]; exact hw9) z (by rw [← i2]; exact hz9)).symm) hP2 hP hS (fun H2 locs2 hP2 hP hS => ?_)
  refine lv_icmp_eq (tgt := 975) hx hb dl_234 (by decide) (fun _ => ?_) (fun h9 => absurd rfl h9)
  exact kk hC' hM' H2 locs2 hz hP hP2 hS
theorem lw_case3 (C : lw_C D aC φ p s mi c b) (hXs : va_X b L xs s s.heap) (hbl : b < s.heap.size) (hl : lv_has ls 4 [(0, .ref b), (1, .ref (φ 1 0)), (2, .ref (φ 9 0)), (3, .int (nI (6 * k)))]) (hk : 6 * k + 6 ≤ L) (hL : L ≤ 384) (hcs : cells ≤ 600000 ∧ slots ≤ 7302250) (hid : lw_ids hC hM) (hZ : ∀ a b, Z a b → lw_ids a b) (hop : lw_two Z 4 122 [] hC hM) (hP : va_P D mm_cls (mm_ws aC φ hC) H) (hP2 : va_P D mm_cls (mm_ws aC φ hM) H) (hS : va_S (fun q => s.heap.size ≤ q) s.heap H locs)
    (kk : ∀ (hC' hM' : mm_H) (H1 : Heap) (locs1 : List Loc), Z hC' hM' → va_P D mm_cls (mm_ws aC φ hC') H1 → va_P D mm_cls (mm_ws aC φ hM') H1 → va_S (fun q => s.heap.size ≤ q) s.heap H1 locs1 → W p l e room_1 s mi #[Value.ref b] below meth c H1 locs1 cells slots Q (F0 mi 975 ls [])) : W p l e room_1 s mi #[Value.ref b] below meth c H locs cells slots Q (F0 mi 239 ls []) := by
  obtain ⟨r, hC', hM', e1, e2, hz⟩ := hop
  obtain ⟨z1, z2, z3, z4⟩ := hZ _ _ hz
  obtain ⟨i1, i2, i3, i4⟩ := hid
  have hx := C.1
  have hb := C.2.1
  have hown := C.2.2.2.1
  have hts := C.2.2.2.2.1
  have hDC : va_D (fun q => s.heap.size ≤ q) (mm_ws aC φ hC) := mm_D_ids i1 C.2.2.2.2.2.2.1
  have hDM : va_D (fun q => s.heap.size ≤ q) (mm_ws aC φ hM) := mm_D_ids i2 C.2.2.2.2.2.2.2.1
  have hX := C.2.2.2.2.2.2.2.2
  refine lv_aload_n hx hb dl_239 rfl (lv_at hl 1 rfl) ?_
  refine lw_call (as := []) (h := hC) (h' := hC') (h2 := hM) (r := 1) (rest := []) C dl_240 lw_w4 (lw_v4).2.1 (by rw [(lw_v4).2.2]; exact Nat.le_of_ble_eq_true rfl) e1 (by rw [(lw_v4).1]; exact lw_co1) (by rw [i1]; exact lw_m1) i3 z3 (z1.trans i1.symm) (lw_okI rfl) hl.1 (Nat.le_of_ble_eq_true rfl) hcs hDC (fun z hz9 w hw9 => hX z (by rw [← i1]; exact hz9) w (by rw [← i2]; exact hw9)) hP hP2 hS (fun H1 locs1 hP hP2 hS => ?_)
  refine lv_aload_n hx hb dl_243 rfl (lv_at hl 2 rfl) ?_
  refine lw_call (as := []) (h := hM) (h' := hM') (h2 := hC') (r := 9) (rest := [.int r]) C dl_244 lw_w122 (lw_v122).2.1 (by rw [(lw_v122).2.2]; exact Nat.le_of_ble_eq_true rfl) e2 (by rw [(lw_v122).1]; exact lw_co9) (by rw [i2]; exact lw_m9) i4 z4 (z2.trans i2.symm) (lw_okI rfl) hl.1 (Nat.le_of_ble_eq_true rfl) hcs hDM (fun z hz9 w hw9 => (hX w (by rw [← z1]; exact hw9) z (by rw [← i2]; exact hz9)).symm) hP2 hP hS (fun H2 locs2 hP2 hP hS => ?_)
  refine lv_icmp_eq (tgt := 975) hx hb dl_247 (by decide) (fun _ => ?_) (fun h9 => absurd rfl h9)
  exact kk hC' hM' H2 locs2 hz hP hP2 hS
theorem lw_case4 (C : lw_C D aC φ p s mi c b) (hXs : va_X b L xs s s.heap) (hbl : b < s.heap.size) (hl : lv_has ls 4 [(0, .ref b), (1, .ref (φ 1 0)), (2, .ref (φ 9 0)), (3, .int (nI (6 * k)))]) (hk : 6 * k + 6 ≤ L) (hL : L ≤ 384) (hcs : cells ≤ 600000 ∧ slots ≤ 7302250) (hid : lw_ids hC hM) (hZ : ∀ a b, Z a b → lw_ids a b) (hop : lw_two Z 5 127 [.inl (xs (6 * k + 1)), .inl (xs (6 * k + 2))] hC hM) (hP : va_P D mm_cls (mm_ws aC φ hC) H) (hP2 : va_P D mm_cls (mm_ws aC φ hM) H) (hS : va_S (fun q => s.heap.size ≤ q) s.heap H locs)
    (kk : ∀ (hC' hM' : mm_H) (H1 : Heap) (locs1 : List Loc), Z hC' hM' → va_P D mm_cls (mm_ws aC φ hC') H1 → va_P D mm_cls (mm_ws aC φ hM') H1 → va_S (fun q => s.heap.size ≤ q) s.heap H1 locs1 → W p l e room_1 s mi #[Value.ref b] below meth c H1 locs1 cells slots Q (F0 mi 975 ls [])) : W p l e room_1 s mi #[Value.ref b] below meth c H locs cells slots Q (F0 mi 252 ls []) := by
  obtain ⟨r, hC', hM', e1, e2, hz⟩ := hop
  obtain ⟨z1, z2, z3, z4⟩ := hZ _ _ hz
  obtain ⟨i1, i2, i3, i4⟩ := hid
  have hx := C.1
  have hb := C.2.1
  have hown := C.2.2.2.1
  have hts := C.2.2.2.2.1
  have hDC : va_D (fun q => s.heap.size ≤ q) (mm_ws aC φ hC) := mm_D_ids i1 C.2.2.2.2.2.2.1
  have hDM : va_D (fun q => s.heap.size ≤ q) (mm_ws aC φ hM) := mm_D_ids i2 C.2.2.2.2.2.2.2.1
  have hX := C.2.2.2.2.2.2.2.2
  refine lv_aload_n hx hb dl_252 rfl (lv_at hl 1 rfl) ?_
  refine lw_arg (j := 1) C hXs hbl hl (by omega) hL hS rfl dl_253 dl_254 dl_255 dl_256 dl_257 ?_
  refine lw_arg (j := 2) C hXs hbl hl (by omega) hL hS rfl dl_258 dl_259 dl_260 dl_261 dl_262 ?_
  refine lw_call (as := [.inl (xs (6 * k + 1)), .inl (xs (6 * k + 2))]) (h := hC) (h' := hC') (h2 := hM) (r := 1) (rest := []) C dl_263 lw_w5 (lw_v5).2.1 (by rw [(lw_v5).2.2]; exact Nat.le_of_ble_eq_true rfl) e1 (by rw [(lw_v5).1]; exact lw_co1) (by rw [i1]; exact lw_m1) i3 z3 (z1.trans i1.symm) (lw_okI rfl) hl.1 (Nat.le_of_ble_eq_true rfl) hcs hDC (fun z hz9 w hw9 => hX z (by rw [← i1]; exact hz9) w (by rw [← i2]; exact hw9)) hP hP2 hS (fun H1 locs1 hP hP2 hS => ?_)
  refine lv_aload_n hx hb dl_266 rfl (lv_at hl 2 rfl) ?_
  refine lw_arg (j := 1) C hXs hbl hl (by omega) hL hS rfl dl_267 dl_268 dl_269 dl_270 dl_271 ?_
  refine lw_arg (j := 2) C hXs hbl hl (by omega) hL hS rfl dl_272 dl_273 dl_274 dl_275 dl_276 ?_
  refine lw_call (as := [.inl (xs (6 * k + 1)), .inl (xs (6 * k + 2))]) (h := hM) (h' := hM') (h2 := hC') (r := 9) (rest := [.int r]) C dl_277 lw_w127 (lw_v127).2.1 (by rw [(lw_v127).2.2]; exact Nat.le_of_ble_eq_true rfl) e2 (by rw [(lw_v127).1]; exact lw_co9) (by rw [i2]; exact lw_m9) i4 z4 (z2.trans i2.symm) (lw_okI rfl) hl.1 (Nat.le_of_ble_eq_true rfl) hcs hDM (fun z hz9 w hw9 => (hX w (by rw [← z1]; exact hw9) z (by rw [← i2]; exact hz9)).symm) hP2 hP hS (fun H2 locs2 hP2 hP hS => ?_)
  refine lv_icmp_eq (tgt := 975) hx hb dl_280 (by decide) (fun _ => ?_) (fun h9 => absurd rfl h9)
  exact kk hC' hM' H2 locs2 hz hP hP2 hS
theorem lw_case5 (C : lw_C D aC φ p s mi c b) (hXs : va_X b L xs s s.heap) (hbl : b < s.heap.size) (hl : lv_has ls 4 [(0, .ref b), (1, .ref (φ 1 0)), (2, .ref (φ 9 0)), (3, .int (nI (6 * k)))]) (hk : 6 * k + 6 ≤ L) (hL : L ≤ 384) (hcs : cells ≤ 600000 ∧ slots ≤ 7302250) (hid : lw_ids hC hM) (hZ : ∀ a b, Z a b → lw_ids a b) (hop : lw_two Z 6 128 [.inl (xs (6 * k + 1)), .inl (xs (6 * k + 2))] hC hM) (hP : va_P D mm_cls (mm_ws aC φ hC) H) (hP2 : va_P D mm_cls (mm_ws aC φ hM) H) (hS : va_S (fun q => s.heap.size ≤ q) s.heap H locs)
    (kk : ∀ (hC' hM' : mm_H) (H1 : Heap) (locs1 : List Loc), Z hC' hM' → va_P D mm_cls (mm_ws aC φ hC') H1 → va_P D mm_cls (mm_ws aC φ hM') H1 → va_S (fun q => s.heap.size ≤ q) s.heap H1 locs1 → W p l e room_1 s mi #[Value.ref b] below meth c H1 locs1 cells slots Q (F0 mi 975 ls [])) : W p l e room_1 s mi #[Value.ref b] below meth c H locs cells slots Q (F0 mi 285 ls []) := by
  obtain ⟨r, hC', hM', e1, e2, hz⟩ := hop
  obtain ⟨z1, z2, z3, z4⟩ := hZ _ _ hz
  obtain ⟨i1, i2, i3, i4⟩ := hid
  have hx := C.1
  have hb := C.2.1
  have hown := C.2.2.2.1
  have hts := C.2.2.2.2.1
  have hDC : va_D (fun q => s.heap.size ≤ q) (mm_ws aC φ hC) := mm_D_ids i1 C.2.2.2.2.2.2.1
  have hDM : va_D (fun q => s.heap.size ≤ q) (mm_ws aC φ hM) := mm_D_ids i2 C.2.2.2.2.2.2.2.1
  have hX := C.2.2.2.2.2.2.2.2
  refine lv_aload_n hx hb dl_285 rfl (lv_at hl 1 rfl) ?_
  refine lw_arg (j := 1) C hXs hbl hl (by omega) hL hS rfl dl_286 dl_287 dl_288 dl_289 dl_290 ?_
  refine lw_arg (j := 2) C hXs hbl hl (by omega) hL hS rfl dl_291 dl_292 dl_293 dl_294 dl_295 ?_
  refine lw_call (as := [.inl (xs (6 * k + 1)), .inl (xs (6 * k + 2))]) (h := hC) (h' := hC') (h2 := hM) (r := 1) (rest := []) C dl_296 lw_w6 (lw_v6).2.1 (by rw [(lw_v6).2.2]; exact Nat.le_of_ble_eq_true rfl) e1 (by rw [(lw_v6).1]; exact lw_co1) (by rw [i1]; exact lw_m1) i3 z3 (z1.trans i1.symm) (lw_okI rfl) hl.1 (Nat.le_of_ble_eq_true rfl) hcs hDC (fun z hz9 w hw9 => hX z (by rw [← i1]; exact hz9) w (by rw [← i2]; exact hw9)) hP hP2 hS (fun H1 locs1 hP hP2 hS => ?_)
  refine lv_aload_n hx hb dl_299 rfl (lv_at hl 2 rfl) ?_
  refine lw_arg (j := 1) C hXs hbl hl (by omega) hL hS rfl dl_300 dl_301 dl_302 dl_303 dl_304 ?_
  refine lw_arg (j := 2) C hXs hbl hl (by omega) hL hS rfl dl_305 dl_306 dl_307 dl_308 dl_309 ?_
  refine lw_call (as := [.inl (xs (6 * k + 1)), .inl (xs (6 * k + 2))]) (h := hM) (h' := hM') (h2 := hC') (r := 9) (rest := [.int r]) C dl_310 lw_w128 (lw_v128).2.1 (by rw [(lw_v128).2.2]; exact Nat.le_of_ble_eq_true rfl) e2 (by rw [(lw_v128).1]; exact lw_co9) (by rw [i2]; exact lw_m9) i4 z4 (z2.trans i2.symm) (lw_okI rfl) hl.1 (Nat.le_of_ble_eq_true rfl) hcs hDM (fun z hz9 w hw9 => (hX w (by rw [← z1]; exact hw9) z (by rw [← i2]; exact hz9)).symm) hP2 hP hS (fun H2 locs2 hP2 hP hS => ?_)
  refine lv_icmp_eq (tgt := 975) hx hb dl_313 (by decide) (fun _ => ?_) (fun h9 => absurd rfl h9)
  exact kk hC' hM' H2 locs2 hz hP hP2 hS
theorem lw_case6 (C : lw_C D aC φ p s mi c b) (hXs : va_X b L xs s s.heap) (hbl : b < s.heap.size) (hl : lv_has ls 4 [(0, .ref b), (1, .ref (φ 1 0)), (2, .ref (φ 9 0)), (3, .int (nI (6 * k)))]) (hk : 6 * k + 6 ≤ L) (hL : L ≤ 384) (hcs : cells ≤ 600000 ∧ slots ≤ 7302250) (hid : lw_ids hC hM) (hZ : ∀ a b, Z a b → lw_ids a b) (hop : lw_two Z 7 129 [.inl (xs (6 * k + 1)), .inl (xs (6 * k + 2)), .inl (xs (6 * k + 3))] hC hM) (hP : va_P D mm_cls (mm_ws aC φ hC) H) (hP2 : va_P D mm_cls (mm_ws aC φ hM) H) (hS : va_S (fun q => s.heap.size ≤ q) s.heap H locs)
    (kk : ∀ (hC' hM' : mm_H) (H1 : Heap) (locs1 : List Loc), Z hC' hM' → va_P D mm_cls (mm_ws aC φ hC') H1 → va_P D mm_cls (mm_ws aC φ hM') H1 → va_S (fun q => s.heap.size ≤ q) s.heap H1 locs1 → W p l e room_1 s mi #[Value.ref b] below meth c H1 locs1 cells slots Q (F0 mi 975 ls [])) : W p l e room_1 s mi #[Value.ref b] below meth c H locs cells slots Q (F0 mi 318 ls []) := by
  obtain ⟨r, hC', hM', e1, e2, hz⟩ := hop
  obtain ⟨z1, z2, z3, z4⟩ := hZ _ _ hz
  obtain ⟨i1, i2, i3, i4⟩ := hid
  have hx := C.1
  have hb := C.2.1
  have hown := C.2.2.2.1
  have hts := C.2.2.2.2.1
  have hDC : va_D (fun q => s.heap.size ≤ q) (mm_ws aC φ hC) := mm_D_ids i1 C.2.2.2.2.2.2.1
  have hDM : va_D (fun q => s.heap.size ≤ q) (mm_ws aC φ hM) := mm_D_ids i2 C.2.2.2.2.2.2.2.1
  have hX := C.2.2.2.2.2.2.2.2
  refine lv_aload_n hx hb dl_318 rfl (lv_at hl 1 rfl) ?_
  refine lw_arg (j := 1) C hXs hbl hl (by omega) hL hS rfl dl_319 dl_320 dl_321 dl_322 dl_323 ?_
  refine lw_arg (j := 2) C hXs hbl hl (by omega) hL hS rfl dl_324 dl_325 dl_326 dl_327 dl_328 ?_
  refine lw_arg (j := 3) C hXs hbl hl (by omega) hL hS rfl dl_329 dl_330 dl_331 dl_332 dl_333 ?_
  refine lw_call (as := [.inl (xs (6 * k + 1)), .inl (xs (6 * k + 2)), .inl (xs (6 * k + 3))]) (h := hC) (h' := hC') (h2 := hM) (r := 1) (rest := []) C dl_334 lw_w7 (lw_v7).2.1 (by rw [(lw_v7).2.2]; exact Nat.le_of_ble_eq_true rfl) e1 (by rw [(lw_v7).1]; exact lw_co1) (by rw [i1]; exact lw_m1) i3 z3 (z1.trans i1.symm) (lw_okI rfl) hl.1 (Nat.le_of_ble_eq_true rfl) hcs hDC (fun z hz9 w hw9 => hX z (by rw [← i1]; exact hz9) w (by rw [← i2]; exact hw9)) hP hP2 hS (fun H1 locs1 hP hP2 hS => ?_)
  refine lv_aload_n hx hb dl_337 rfl (lv_at hl 2 rfl) ?_
  refine lw_arg (j := 1) C hXs hbl hl (by omega) hL hS rfl dl_338 dl_339 dl_340 dl_341 dl_342 ?_
  refine lw_arg (j := 2) C hXs hbl hl (by omega) hL hS rfl dl_343 dl_344 dl_345 dl_346 dl_347 ?_
  refine lw_arg (j := 3) C hXs hbl hl (by omega) hL hS rfl dl_348 dl_349 dl_350 dl_351 dl_352 ?_
  refine lw_call (as := [.inl (xs (6 * k + 1)), .inl (xs (6 * k + 2)), .inl (xs (6 * k + 3))]) (h := hM) (h' := hM') (h2 := hC') (r := 9) (rest := [.int r]) C dl_353 lw_w129 (lw_v129).2.1 (by rw [(lw_v129).2.2]; exact Nat.le_of_ble_eq_true rfl) e2 (by rw [(lw_v129).1]; exact lw_co9) (by rw [i2]; exact lw_m9) i4 z4 (z2.trans i2.symm) (lw_okI rfl) hl.1 (Nat.le_of_ble_eq_true rfl) hcs hDM (fun z hz9 w hw9 => (hX w (by rw [← z1]; exact hw9) z (by rw [← i2]; exact hz9)).symm) hP2 hP hS (fun H2 locs2 hP2 hP hS => ?_)
  refine lv_icmp_eq (tgt := 975) hx hb dl_356 (by decide) (fun _ => ?_) (fun h9 => absurd rfl h9)
  exact kk hC' hM' H2 locs2 hz hP hP2 hS
theorem lw_case7 (C : lw_C D aC φ p s mi c b) (hXs : va_X b L xs s s.heap) (hbl : b < s.heap.size) (hl : lv_has ls 4 [(0, .ref b), (1, .ref (φ 1 0)), (2, .ref (φ 9 0)), (3, .int (nI (6 * k)))]) (hk : 6 * k + 6 ≤ L) (hL : L ≤ 384) (hcs : cells ≤ 600000 ∧ slots ≤ 7302250) (hid : lw_ids hC hM) (hZ : ∀ a b, Z a b → lw_ids a b) (hop : lw_two Z 8 131 [.inl (xs (6 * k + 1))] hC hM) (hP : va_P D mm_cls (mm_ws aC φ hC) H) (hP2 : va_P D mm_cls (mm_ws aC φ hM) H) (hS : va_S (fun q => s.heap.size ≤ q) s.heap H locs)
    (kk : ∀ (hC' hM' : mm_H) (H1 : Heap) (locs1 : List Loc), Z hC' hM' → va_P D mm_cls (mm_ws aC φ hC') H1 → va_P D mm_cls (mm_ws aC φ hM') H1 → va_S (fun q => s.heap.size ≤ q) s.heap H1 locs1 → W p l e room_1 s mi #[Value.ref b] below meth c H1 locs1 cells slots Q (F0 mi 975 ls [])) : W p l e room_1 s mi #[Value.ref b] below meth c H locs cells slots Q (F0 mi 361 ls []) := by
  obtain ⟨r, hC', hM', e1, e2, hz⟩ := hop
  obtain ⟨z1, z2, z3, z4⟩ := hZ _ _ hz
  obtain ⟨i1, i2, i3, i4⟩ := hid
  have hx := C.1
  have hb := C.2.1
  have hown := C.2.2.2.1
  have hts := C.2.2.2.2.1
  have hDC : va_D (fun q => s.heap.size ≤ q) (mm_ws aC φ hC) := mm_D_ids i1 C.2.2.2.2.2.2.1
  have hDM : va_D (fun q => s.heap.size ≤ q) (mm_ws aC φ hM) := mm_D_ids i2 C.2.2.2.2.2.2.2.1
  have hX := C.2.2.2.2.2.2.2.2
  refine lv_aload_n hx hb dl_361 rfl (lv_at hl 1 rfl) ?_
  refine lw_arg (j := 1) C hXs hbl hl (by omega) hL hS rfl dl_362 dl_363 dl_364 dl_365 dl_366 ?_
  refine lw_call (as := [.inl (xs (6 * k + 1))]) (h := hC) (h' := hC') (h2 := hM) (r := 1) (rest := []) C dl_367 lw_w8 (lw_v8).2.1 (by rw [(lw_v8).2.2]; exact Nat.le_of_ble_eq_true rfl) e1 (by rw [(lw_v8).1]; exact lw_co1) (by rw [i1]; exact lw_m1) i3 z3 (z1.trans i1.symm) (lw_okI rfl) hl.1 (Nat.le_of_ble_eq_true rfl) hcs hDC (fun z hz9 w hw9 => hX z (by rw [← i1]; exact hz9) w (by rw [← i2]; exact hw9)) hP hP2 hS (fun H1 locs1 hP hP2 hS => ?_)
  refine lv_aload_n hx hb dl_370 rfl (lv_at hl 2 rfl) ?_
  refine lw_arg (j := 1) C hXs hbl hl (by omega) hL hS rfl dl_371 dl_372 dl_373 dl_374 dl_375 ?_
  refine lw_call (as := [.inl (xs (6 * k + 1))]) (h := hM) (h' := hM') (h2 := hC') (r := 9) (rest := [.int r]) C dl_376 lw_w131 (lw_v131).2.1 (by rw [(lw_v131).2.2]; exact Nat.le_of_ble_eq_true rfl) e2 (by rw [(lw_v131).1]; exact lw_co9) (by rw [i2]; exact lw_m9) i4 z4 (z2.trans i2.symm) (lw_okI rfl) hl.1 (Nat.le_of_ble_eq_true rfl) hcs hDM (fun z hz9 w hw9 => (hX w (by rw [← z1]; exact hw9) z (by rw [← i2]; exact hz9)).symm) hP2 hP hS (fun H2 locs2 hP2 hP hS => ?_)
  refine lv_icmp_eq (tgt := 975) hx hb dl_379 (by decide) (fun _ => ?_) (fun h9 => absurd rfl h9)
  exact kk hC' hM' H2 locs2 hz hP hP2 hS
theorem lw_case8 (C : lw_C D aC φ p s mi c b) (hXs : va_X b L xs s s.heap) (hbl : b < s.heap.size) (hl : lv_has ls 4 [(0, .ref b), (1, .ref (φ 1 0)), (2, .ref (φ 9 0)), (3, .int (nI (6 * k)))]) (hk : 6 * k + 6 ≤ L) (hL : L ≤ 384) (hcs : cells ≤ 600000 ∧ slots ≤ 7302250) (hid : lw_ids hC hM) (hZ : ∀ a b, Z a b → lw_ids a b) (hop : lw_two Z 9 135 [.inl (xs (6 * k + 1)), .inl (xs (6 * k + 2)), .inl (xs (6 * k + 3)), .inl (xs (6 * k + 4)), .inl (xs (6 * k + 5))] hC hM) (hP : va_P D mm_cls (mm_ws aC φ hC) H) (hP2 : va_P D mm_cls (mm_ws aC φ hM) H) (hS : va_S (fun q => s.heap.size ≤ q) s.heap H locs)
    (kk : ∀ (hC' hM' : mm_H) (H1 : Heap) (locs1 : List Loc), Z hC' hM' → va_P D mm_cls (mm_ws aC φ hC') H1 → va_P D mm_cls (mm_ws aC φ hM') H1 → va_S (fun q => s.heap.size ≤ q) s.heap H1 locs1 → W p l e room_1 s mi #[Value.ref b] below meth c H1 locs1 cells slots Q (F0 mi 975 ls [])) : W p l e room_1 s mi #[Value.ref b] below meth c H locs cells slots Q (F0 mi 384 ls []) := by
  obtain ⟨r, hC', hM', e1, e2, hz⟩ := hop
  obtain ⟨z1, z2, z3, z4⟩ := hZ _ _ hz
  obtain ⟨i1, i2, i3, i4⟩ := hid
  have hx := C.1
  have hb := C.2.1
  have hown := C.2.2.2.1
  have hts := C.2.2.2.2.1
  have hDC : va_D (fun q => s.heap.size ≤ q) (mm_ws aC φ hC) := mm_D_ids i1 C.2.2.2.2.2.2.1
  have hDM : va_D (fun q => s.heap.size ≤ q) (mm_ws aC φ hM) := mm_D_ids i2 C.2.2.2.2.2.2.2.1
  have hX := C.2.2.2.2.2.2.2.2
  refine lv_aload_n hx hb dl_384 rfl (lv_at hl 1 rfl) ?_
  refine lw_arg (j := 1) C hXs hbl hl (by omega) hL hS rfl dl_385 dl_386 dl_387 dl_388 dl_389 ?_
  refine lw_arg (j := 2) C hXs hbl hl (by omega) hL hS rfl dl_390 dl_391 dl_392 dl_393 dl_394 ?_
  refine lw_arg (j := 3) C hXs hbl hl (by omega) hL hS rfl dl_395 dl_396 dl_397 dl_398 dl_399 ?_
  refine lw_arg (j := 4) C hXs hbl hl (by omega) hL hS rfl dl_400 dl_401 dl_402 dl_403 dl_404 ?_
  refine lw_arg (j := 5) C hXs hbl hl (by omega) hL hS rfl dl_405 dl_406 dl_407 dl_408 dl_409 ?_
  refine lw_call (as := [.inl (xs (6 * k + 1)), .inl (xs (6 * k + 2)), .inl (xs (6 * k + 3)), .inl (xs (6 * k + 4)), .inl (xs (6 * k + 5))]) (h := hC) (h' := hC') (h2 := hM) (r := 1) (rest := []) C dl_410 lw_w9 (lw_v9).2.1 (by rw [(lw_v9).2.2]; exact Nat.le_of_ble_eq_true rfl) e1 (by rw [(lw_v9).1]; exact lw_co1) (by rw [i1]; exact lw_m1) i3 z3 (z1.trans i1.symm) (lw_okI rfl) hl.1 (Nat.le_of_ble_eq_true rfl) hcs hDC (fun z hz9 w hw9 => hX z (by rw [← i1]; exact hz9) w (by rw [← i2]; exact hw9)) hP hP2 hS (fun H1 locs1 hP hP2 hS => ?_)
  refine lv_aload_n hx hb dl_413 rfl (lv_at hl 2 rfl) ?_
  refine lw_arg (j := 1) C hXs hbl hl (by omega) hL hS rfl dl_414 dl_415 dl_416 dl_417 dl_418 ?_
  refine lw_arg (j := 2) C hXs hbl hl (by omega) hL hS rfl dl_419 dl_420 dl_421 dl_422 dl_423 ?_
  refine lw_arg (j := 3) C hXs hbl hl (by omega) hL hS rfl dl_424 dl_425 dl_426 dl_427 dl_428 ?_
  refine lw_arg (j := 4) C hXs hbl hl (by omega) hL hS rfl dl_429 dl_430 dl_431 dl_432 dl_433 ?_
  refine lw_arg (j := 5) C hXs hbl hl (by omega) hL hS rfl dl_434 dl_435 dl_436 dl_437 dl_438 ?_
  refine lw_call (as := [.inl (xs (6 * k + 1)), .inl (xs (6 * k + 2)), .inl (xs (6 * k + 3)), .inl (xs (6 * k + 4)), .inl (xs (6 * k + 5))]) (h := hM) (h' := hM') (h2 := hC') (r := 9) (rest := [.int r]) C dl_439 lw_w135 (lw_v135).2.1 (by rw [(lw_v135).2.2]; exact Nat.le_of_ble_eq_true rfl) e2 (by rw [(lw_v135).1]; exact lw_co9) (by rw [i2]; exact lw_m9) i4 z4 (z2.trans i2.symm) (lw_okI rfl) hl.1 (Nat.le_of_ble_eq_true rfl) hcs hDM (fun z hz9 w hw9 => (hX w (by rw [← z1]; exact hw9) z (by rw [← i2]; exact hz9)).symm) hP2 hP hS (fun H2 locs2 hP2 hP hS => ?_)
  refine lv_icmp_eq (tgt := 975) hx hb dl_442 (by decide) (fun _ => ?_) (fun h9 => absurd rfl h9)
  exact kk hC' hM' H2 locs2 hz hP hP2 hS
theorem lw_case9 (C : lw_C D aC φ p s mi c b) (hXs : va_X b L xs s s.heap) (hbl : b < s.heap.size) (hl : lv_has ls 4 [(0, .ref b), (1, .ref (φ 1 0)), (2, .ref (φ 9 0)), (3, .int (nI (6 * k)))]) (hk : 6 * k + 6 ≤ L) (hL : L ≤ 384) (hcs : cells ≤ 600000 ∧ slots ≤ 7302250) (hid : lw_ids hC hM) (hZ : ∀ a b, Z a b → lw_ids a b) (hop : lw_two Z 10 138 [.inl (xs (6 * k + 1)), .inl (xs (6 * k + 2))] hC hM) (hP : va_P D mm_cls (mm_ws aC φ hC) H) (hP2 : va_P D mm_cls (mm_ws aC φ hM) H) (hS : va_S (fun q => s.heap.size ≤ q) s.heap H locs)
    (kk : ∀ (hC' hM' : mm_H) (H1 : Heap) (locs1 : List Loc), Z hC' hM' → va_P D mm_cls (mm_ws aC φ hC') H1 → va_P D mm_cls (mm_ws aC φ hM') H1 → va_S (fun q => s.heap.size ≤ q) s.heap H1 locs1 → W p l e room_1 s mi #[Value.ref b] below meth c H1 locs1 cells slots Q (F0 mi 975 ls [])) : W p l e room_1 s mi #[Value.ref b] below meth c H locs cells slots Q (F0 mi 447 ls []) := by
  obtain ⟨r, hC', hM', e1, e2, hz⟩ := hop
  obtain ⟨z1, z2, z3, z4⟩ := hZ _ _ hz
  obtain ⟨i1, i2, i3, i4⟩ := hid
  have hx := C.1
  have hb := C.2.1
  have hown := C.2.2.2.1
  have hts := C.2.2.2.2.1
  have hDC : va_D (fun q => s.heap.size ≤ q) (mm_ws aC φ hC) := mm_D_ids i1 C.2.2.2.2.2.2.1
  have hDM : va_D (fun q => s.heap.size ≤ q) (mm_ws aC φ hM) := mm_D_ids i2 C.2.2.2.2.2.2.2.1
  have hX := C.2.2.2.2.2.2.2.2
  refine lv_aload_n hx hb dl_447 rfl (lv_at hl 1 rfl) ?_
  refine lw_arg (j := 1) C hXs hbl hl (by omega) hL hS rfl dl_448 dl_449 dl_450 dl_451 dl_452 ?_
  refine lw_arg (j := 2) C hXs hbl hl (by omega) hL hS rfl dl_453 dl_454 dl_455 dl_456 dl_457 ?_
  refine lw_call (as := [.inl (xs (6 * k + 1)), .inl (xs (6 * k + 2))]) (h := hC) (h' := hC') (h2 := hM) (r := 1) (rest := []) C dl_458 lw_w10 (lw_v10).2.1 (by rw [(lw_v10).2.2]; exact Nat.le_of_ble_eq_true rfl) e1 (by rw [(lw_v10).1]; exact lw_co1) (by rw [i1]; exact lw_m1) i3 z3 (z1.trans i1.symm) (lw_okI rfl) hl.1 (Nat.le_of_ble_eq_true rfl) hcs hDC (fun z hz9 w hw9 => hX z (by rw [← i1]; exact hz9) w (by rw [← i2]; exact hw9)) hP hP2 hS (fun H1 locs1 hP hP2 hS => ?_)
  refine lv_aload_n hx hb dl_461 rfl (lv_at hl 2 rfl) ?_
  refine lw_arg (j := 1) C hXs hbl hl (by omega) hL hS rfl dl_462 dl_463 dl_464 dl_465 dl_466 ?_
  refine lw_arg (j := 2) C hXs hbl hl (by omega) hL hS rfl dl_467 dl_468 dl_469 dl_470 dl_471 ?_
  refine lw_call (as := [.inl (xs (6 * k + 1)), .inl (xs (6 * k + 2))]) (h := hM) (h' := hM') (h2 := hC') (r := 9) (rest := [.int r]) C dl_472 lw_w138 (lw_v138).2.1 (by rw [(lw_v138).2.2]; exact Nat.le_of_ble_eq_true rfl) e2 (by rw [(lw_v138).1]; exact lw_co9) (by rw [i2]; exact lw_m9) i4 z4 (z2.trans i2.symm) (lw_okI rfl) hl.1 (Nat.le_of_ble_eq_true rfl) hcs hDM (fun z hz9 w hw9 => (hX w (by rw [← z1]; exact hw9) z (by rw [← i2]; exact hz9)).symm) hP2 hP hS (fun H2 locs2 hP2 hP hS => ?_)
  refine lv_icmp_eq (tgt := 975) hx hb dl_475 (by decide) (fun _ => ?_) (fun h9 => absurd rfl h9)
  exact kk hC' hM' H2 locs2 hz hP hP2 hS
theorem lw_case10 (C : lw_C D aC φ p s mi c b) (hXs : va_X b L xs s s.heap) (hbl : b < s.heap.size) (hl : lv_has ls 4 [(0, .ref b), (1, .ref (φ 1 0)), (2, .ref (φ 9 0)), (3, .int (nI (6 * k)))]) (hk : 6 * k + 6 ≤ L) (hL : L ≤ 384) (hcs : cells ≤ 600000 ∧ slots ≤ 7302250) (hid : lw_ids hC hM) (hZ : ∀ a b, Z a b → lw_ids a b) (hop : lw_two Z 11 139 [.inl (xs (6 * k + 1)), .inl (xs (6 * k + 2)), .inl (xs (6 * k + 3))] hC hM) (hP : va_P D mm_cls (mm_ws aC φ hC) H) (hP2 : va_P D mm_cls (mm_ws aC φ hM) H) (hS : va_S (fun q => s.heap.size ≤ q) s.heap H locs)
    (kk : ∀ (hC' hM' : mm_H) (H1 : Heap) (locs1 : List Loc), Z hC' hM' → va_P D mm_cls (mm_ws aC φ hC') H1 → va_P D mm_cls (mm_ws aC φ hM') H1 → va_S (fun q => s.heap.size ≤ q) s.heap H1 locs1 → W p l e room_1 s mi #[Value.ref b] below meth c H1 locs1 cells slots Q (F0 mi 975 ls [])) : W p l e room_1 s mi #[Value.ref b] below meth c H locs cells slots Q (F0 mi 480 ls []) := by
  obtain ⟨r, hC', hM', e1, e2, hz⟩ := hop
  obtain ⟨z1, z2, z3, z4⟩ := hZ _ _ hz
  obtain ⟨i1, i2, i3, i4⟩ := hid
  have hx := C.1
  have hb := C.2.1
  have hown := C.2.2.2.1
  have hts := C.2.2.2.2.1
  have hDC : va_D (fun q => s.heap.size ≤ q) (mm_ws aC φ hC) := mm_D_ids i1 C.2.2.2.2.2.2.1
  have hDM : va_D (fun q => s.heap.size ≤ q) (mm_ws aC φ hM) := mm_D_ids i2 C.2.2.2.2.2.2.2.1
  have hX := C.2.2.2.2.2.2.2.2
  refine lv_aload_n hx hb dl_480 rfl (lv_at hl 1 rfl) ?_
  refine lw_arg (j := 1) C hXs hbl hl (by omega) hL hS rfl dl_481 dl_482 dl_483 dl_484 dl_485 ?_
  refine lw_arg (j := 2) C hXs hbl hl (by omega) hL hS rfl dl_486 dl_487 dl_488 dl_489 dl_490 ?_
  refine lw_arg (j := 3) C hXs hbl hl (by omega) hL hS rfl dl_491 dl_492 dl_493 dl_494 dl_495 ?_
  refine lw_call (as := [.inl (xs (6 * k + 1)), .inl (xs (6 * k + 2)), .inl (xs (6 * k + 3))]) (h := hC) (h' := hC') (h2 := hM) (r := 1) (rest := []) C dl_496 lw_w11 (lw_v11).2.1 (by rw [(lw_v11).2.2]; exact Nat.le_of_ble_eq_true rfl) e1 (by rw [(lw_v11).1]; exact lw_co1) (by rw [i1]; exact lw_m1) i3 z3 (z1.trans i1.symm) (lw_okI rfl) hl.1 (Nat.le_of_ble_eq_true rfl) hcs hDC (fun z hz9 w hw9 => hX z (by rw [← i1]; exact hz9) w (by rw [← i2]; exact hw9)) hP hP2 hS (fun H1 locs1 hP hP2 hS => ?_)
  refine lv_aload_n hx hb dl_499 rfl (lv_at hl 2 rfl) ?_
  refine lw_arg (j := 1) C hXs hbl hl (by omega) hL hS rfl dl_500 dl_501 dl_502 dl_503 dl_504 ?_
  refine lw_arg (j := 2) C hXs hbl hl (by omega) hL hS rfl dl_505 dl_506 dl_507 dl_508 dl_509 ?_
  refine lw_arg (j := 3) C hXs hbl hl (by omega) hL hS rfl dl_510 dl_511 dl_512 dl_513 dl_514 ?_
  refine lw_call (as := [.inl (xs (6 * k + 1)), .inl (xs (6 * k + 2)), .inl (xs (6 * k + 3))]) (h := hM) (h' := hM') (h2 := hC') (r := 9) (rest := [.int r]) C dl_515 lw_w139 (lw_v139).2.1 (by rw [(lw_v139).2.2]; exact Nat.le_of_ble_eq_true rfl) e2 (by rw [(lw_v139).1]; exact lw_co9) (by rw [i2]; exact lw_m9) i4 z4 (z2.trans i2.symm) (lw_okI rfl) hl.1 (Nat.le_of_ble_eq_true rfl) hcs hDM (fun z hz9 w hw9 => (hX w (by rw [← z1]; exact hw9) z (by rw [← i2]; exact hz9)).symm) hP2 hP hS (fun H2 locs2 hP2 hP hS => ?_)
  refine lv_icmp_eq (tgt := 975) hx hb dl_518 (by decide) (fun _ => ?_) (fun h9 => absurd rfl h9)
  exact kk hC' hM' H2 locs2 hz hP hP2 hS
theorem lw_case11 (C : lw_C D aC φ p s mi c b) (hXs : va_X b L xs s s.heap) (hbl : b < s.heap.size) (hl : lv_has ls 4 [(0, .ref b), (1, .ref (φ 1 0)), (2, .ref (φ 9 0)), (3, .int (nI (6 * k)))]) (hk : 6 * k + 6 ≤ L) (hL : L ≤ 384) (hcs : cells ≤ 600000 ∧ slots ≤ 7302250) (hid : lw_ids hC hM) (hZ : ∀ a b, Z a b → lw_ids a b) (hop : lw_two Z 12 143 [.inl (xs (6 * k + 1)), .inl (xs (6 * k + 2))] hC hM) (hP : va_P D mm_cls (mm_ws aC φ hC) H) (hP2 : va_P D mm_cls (mm_ws aC φ hM) H) (hS : va_S (fun q => s.heap.size ≤ q) s.heap H locs)
    (kk : ∀ (hC' hM' : mm_H) (H1 : Heap) (locs1 : List Loc), Z hC' hM' → va_P D mm_cls (mm_ws aC φ hC') H1 → va_P D mm_cls (mm_ws aC φ hM') H1 → va_S (fun q => s.heap.size ≤ q) s.heap H1 locs1 → W p l e room_1 s mi #[Value.ref b] below meth c H1 locs1 cells slots Q (F0 mi 975 ls [])) : W p l e room_1 s mi #[Value.ref b] below meth c H locs cells slots Q (F0 mi 523 ls []) := by
  obtain ⟨r, hC', hM', e1, e2, hz⟩ := hop
  obtain ⟨z1, z2, z3, z4⟩ := hZ _ _ hz
  obtain ⟨i1, i2, i3, i4⟩ := hid
  have hx := C.1
  have hb := C.2.1
  have hown := C.2.2.2.1
  have hts := C.2.2.2.2.1
  have hDC : va_D (fun q => s.heap.size ≤ q) (mm_ws aC φ hC) := mm_D_ids i1 C.2.2.2.2.2.2.1
  have hDM : va_D (fun q => s.heap.size ≤ q) (mm_ws aC φ hM) := mm_D_ids i2 C.2.2.2.2.2.2.2.1
  have hX := C.2.2.2.2.2.2.2.2
  refine lv_aload_n hx hb dl_523 rfl (lv_at hl 1 rfl) ?_
  refine lw_arg (j := 1) C hXs hbl hl (by omega) hL hS rfl dl_524 dl_525 dl_526 dl_527 dl_528 ?_
  refine lw_arg (j := 2) C hXs hbl hl (by omega) hL hS rfl dl_529 dl_530 dl_531 dl_532 dl_533 ?_
  refine lw_call (as := [.inl (xs (6 * k + 1)), .inl (xs (6 * k + 2))]) (h := hC) (h' := hC') (h2 := hM) (r := 1) (rest := []) C dl_534 lw_w12 (lw_v12).2.1 (by rw [(lw_v12).2.2]; exact Nat.le_of_ble_eq_true rfl) e1 (by rw [(lw_v12).1]; exact lw_co1) (by rw [i1]; exact lw_m1) i3 z3 (z1.trans i1.symm) (lw_okI rfl) hl.1 (Nat.le_of_ble_eq_true rfl) hcs hDC (fun z hz9 w hw9 => hX z (by rw [← i1]; exact hz9) w (by rw [← i2]; exact hw9)) hP hP2 hS (fun H1 locs1 hP hP2 hS => ?_)
  refine lv_aload_n hx hb dl_537 rfl (lv_at hl 2 rfl) ?_
  refine lw_arg (j := 1) C hXs hbl hl (by omega) hL hS rfl dl_538 dl_539 dl_540 dl_541 dl_542 ?_
  refine lw_arg (j := 2) C hXs hbl hl (by omega) hL hS rfl dl_543 dl_544 dl_545 dl_546 dl_547 ?_
  refine lw_call (as := [.inl (xs (6 * k + 1)), .inl (xs (6 * k + 2))]) (h := hM) (h' := hM') (h2 := hC') (r := 9) (rest := [.int r]) C dl_548 lw_w143 (lw_v143).2.1 (by rw [(lw_v143).2.2]; exact Nat.le_of_ble_eq_true rfl) e2 (by rw [(lw_v143).1]; exact lw_co9) (by rw [i2]; exact lw_m9) i4 z4 (z2.trans i2.symm) (lw_okI rfl) hl.1 (Nat.le_of_ble_eq_true rfl) hcs hDM (fun z hz9 w hw9 => (hX w (by rw [← z1]; exact hw9) z (by rw [← i2]; exact hz9)).symm) hP2 hP hS (fun H2 locs2 hP2 hP hS => ?_)
  refine lv_icmp_eq (tgt := 975) hx hb dl_551 (by decide) (fun _ => ?_) (fun h9 => absurd rfl h9)
  exact kk hC' hM' H2 locs2 hz hP hP2 hS
theorem lw_case12 (C : lw_C D aC φ p s mi c b) (hXs : va_X b L xs s s.heap) (hbl : b < s.heap.size) (hl : lv_has ls 4 [(0, .ref b), (1, .ref (φ 1 0)), (2, .ref (φ 9 0)), (3, .int (nI (6 * k)))]) (hk : 6 * k + 6 ≤ L) (hL : L ≤ 384) (hcs : cells ≤ 600000 ∧ slots ≤ 7302250) (hid : lw_ids hC hM) (hZ : ∀ a b, Z a b → lw_ids a b) (hop : lw_two Z 13 144 [.inl (xs (6 * k + 1)), .inl (xs (6 * k + 2))] hC hM) (hP : va_P D mm_cls (mm_ws aC φ hC) H) (hP2 : va_P D mm_cls (mm_ws aC φ hM) H) (hS : va_S (fun q => s.heap.size ≤ q) s.heap H locs)
    (kk : ∀ (hC' hM' : mm_H) (H1 : Heap) (locs1 : List Loc), Z hC' hM' → va_P D mm_cls (mm_ws aC φ hC') H1 → va_P D mm_cls (mm_ws aC φ hM') H1 → va_S (fun q => s.heap.size ≤ q) s.heap H1 locs1 → W p l e room_1 s mi #[Value.ref b] below meth c H1 locs1 cells slots Q (F0 mi 975 ls [])) : W p l e room_1 s mi #[Value.ref b] below meth c H locs cells slots Q (F0 mi 556 ls []) := by
  obtain ⟨r, hC', hM', e1, e2, hz⟩ := hop
  obtain ⟨z1, z2, z3, z4⟩ := hZ _ _ hz
  obtain ⟨i1, i2, i3, i4⟩ := hid
  have hx := C.1
  have hb := C.2.1
  have hown := C.2.2.2.1
  have hts := C.2.2.2.2.1
  have hDC : va_D (fun q => s.heap.size ≤ q) (mm_ws aC φ hC) := mm_D_ids i1 C.2.2.2.2.2.2.1
  have hDM : va_D (fun q => s.heap.size ≤ q) (mm_ws aC φ hM) := mm_D_ids i2 C.2.2.2.2.2.2.2.1
  have hX := C.2.2.2.2.2.2.2.2
  refine lv_aload_n hx hb dl_556 rfl (lv_at hl 1 rfl) ?_
  refine lw_arg (j := 1) C hXs hbl hl (by omega) hL hS rfl dl_557 dl_558 dl_559 dl_560 dl_561 ?_
  refine lw_arg (j := 2) C hXs hbl hl (by omega) hL hS rfl dl_562 dl_563 dl_564 dl_565 dl_566 ?_
  refine lw_call (as := [.inl (xs (6 * k + 1)), .inl (xs (6 * k + 2))]) (h := hC) (h' := hC') (h2 := hM) (r := 1) (rest := []) C dl_567 lw_w13 (lw_v13).2.1 (by rw [(lw_v13).2.2]; exact Nat.le_of_ble_eq_true rfl) e1 (by rw [(lw_v13).1]; exact lw_co1) (by rw [i1]; exact lw_m1) i3 z3 (z1.trans i1.symm) (lw_okI rfl) hl.1 (Nat.le_of_ble_eq_true rfl) hcs hDC (fun z hz9 w hw9 => hX z (by rw [← i1]; exact hz9) w (by rw [← i2]; exact hw9)) hP hP2 hS (fun H1 locs1 hP hP2 hS => ?_)
  refine lv_aload_n hx hb dl_570 rfl (lv_at hl 2 rfl) ?_
  refine lw_arg (j := 1) C hXs hbl hl (by omega) hL hS rfl dl_571 dl_572 dl_573 dl_574 dl_575 ?_
  refine lw_arg (j := 2) C hXs hbl hl (by omega) hL hS rfl dl_576 dl_577 dl_578 dl_579 dl_580 ?_
  refine lw_call (as := [.inl (xs (6 * k + 1)), .inl (xs (6 * k + 2))]) (h := hM) (h' := hM') (h2 := hC') (r := 9) (rest := [.int r]) C dl_581 lw_w144 (lw_v144).2.1 (by rw [(lw_v144).2.2]; exact Nat.le_of_ble_eq_true rfl) e2 (by rw [(lw_v144).1]; exact lw_co9) (by rw [i2]; exact lw_m9) i4 z4 (z2.trans i2.symm) (lw_okI rfl) hl.1 (Nat.le_of_ble_eq_true rfl) hcs hDM (fun z hz9 w hw9 => (hX w (by rw [← z1]; exact hw9) z (by rw [← i2]; exact hz9)).symm) hP2 hP hS (fun H2 locs2 hP2 hP hS => ?_)
  refine lv_icmp_eq (tgt := 975) hx hb dl_584 (by decide) (fun _ => ?_) (fun h9 => absurd rfl h9)
  exact kk hC' hM' H2 locs2 hz hP hP2 hS
theorem lw_case13 (C : lw_C D aC φ p s mi c b) (hXs : va_X b L xs s s.heap) (hbl : b < s.heap.size) (hl : lv_has ls 4 [(0, .ref b), (1, .ref (φ 1 0)), (2, .ref (φ 9 0)), (3, .int (nI (6 * k)))]) (hk : 6 * k + 6 ≤ L) (hL : L ≤ 384) (hcs : cells ≤ 600000 ∧ slots ≤ 7302250) (hid : lw_ids hC hM) (hZ : ∀ a b, Z a b → lw_ids a b) (hop : lw_two Z 14 145 [.inl (xs (6 * k + 1)), .inl (xs (6 * k + 2))] hC hM) (hP : va_P D mm_cls (mm_ws aC φ hC) H) (hP2 : va_P D mm_cls (mm_ws aC φ hM) H) (hS : va_S (fun q => s.heap.size ≤ q) s.heap H locs)
    (kk : ∀ (hC' hM' : mm_H) (H1 : Heap) (locs1 : List Loc), Z hC' hM' → va_P D mm_cls (mm_ws aC φ hC') H1 → va_P D mm_cls (mm_ws aC φ hM') H1 → va_S (fun q => s.heap.size ≤ q) s.heap H1 locs1 → W p l e room_1 s mi #[Value.ref b] below meth c H1 locs1 cells slots Q (F0 mi 975 ls [])) : W p l e room_1 s mi #[Value.ref b] below meth c H locs cells slots Q (F0 mi 589 ls []) := by
  obtain ⟨r, hC', hM', e1, e2, hz⟩ := hop
  obtain ⟨z1, z2, z3, z4⟩ := hZ _ _ hz
  obtain ⟨i1, i2, i3, i4⟩ := hid
  have hx := C.1
  have hb := C.2.1
  have hown := C.2.2.2.1
  have hts := C.2.2.2.2.1
  have hDC : va_D (fun q => s.heap.size ≤ q) (mm_ws aC φ hC) := mm_D_ids i1 C.2.2.2.2.2.2.1
  have hDM : va_D (fun q => s.heap.size ≤ q) (mm_ws aC φ hM) := mm_D_ids i2 C.2.2.2.2.2.2.2.1
  have hX := C.2.2.2.2.2.2.2.2
  refine lv_aload_n hx hb dl_589 rfl (lv_at hl 1 rfl) ?_
  refine lw_arg (j := 1) C hXs hbl hl (by omega) hL hS rfl dl_590 dl_591 dl_592 dl_593 dl_594 ?_
  refine lw_arg (j := 2) C hXs hbl hl (by omega) hL hS rfl dl_595 dl_596 dl_597 dl_598 dl_599 ?_
  refine lw_call (as := [.inl (xs (6 * k + 1)), .inl (xs (6 * k + 2))]) (h := hC) (h' := hC') (h2 := hM) (r := 1) (rest := []) C dl_600 lw_w14 (lw_v14).2.1 (by rw [(lw_v14).2.2]; exact Nat.le_of_ble_eq_true rfl) e1 (by rw [(lw_v14).1]; exact lw_co1) (by rw [i1]; exact lw_m1) i3 z3 (z1.trans i1.symm) (lw_okI rfl) hl.1 (Nat.le_of_ble_eq_true rfl) hcs hDC (fun z hz9 w hw9 => hX z (by rw [← i1]; exact hz9) w (by rw [← i2]; exact hw9)) hP hP2 hS (fun H1 locs1 hP hP2 hS => ?_)
  refine lv_aload_n hx hb dl_603 rfl (lv_at hl 2 rfl) ?_
  refine lw_arg (j := 1) C hXs hbl hl (by omega) hL hS rfl dl_604 dl_605 dl_606 dl_607 dl_608 ?_
  refine lw_arg (j := 2) C hXs hbl hl (by omega) hL hS rfl dl_609 dl_610 dl_611 dl_612 dl_613 ?_
  refine lw_call (as := [.inl (xs (6 * k + 1)), .inl (xs (6 * k + 2))]) (h := hM) (h' := hM') (h2 := hC') (r := 9) (rest := [.int r]) C dl_614 lw_w145 (lw_v145).2.1 (by rw [(lw_v145).2.2]; exact Nat.le_of_ble_eq_true rfl) e2 (by rw [(lw_v145).1]; exact lw_co9) (by rw [i2]; exact lw_m9) i4 z4 (z2.trans i2.symm) (lw_okI rfl) hl.1 (Nat.le_of_ble_eq_true rfl) hcs hDM (fun z hz9 w hw9 => (hX w (by rw [← z1]; exact hw9) z (by rw [← i2]; exact hz9)).symm) hP2 hP hS (fun H2 locs2 hP2 hP hS => ?_)
  refine lv_icmp_eq (tgt := 975) hx hb dl_617 (by decide) (fun _ => ?_) (fun h9 => absurd rfl h9)
  exact kk hC' hM' H2 locs2 hz hP hP2 hS
theorem lw_case14 (C : lw_C D aC φ p s mi c b) (hXs : va_X b L xs s s.heap) (hbl : b < s.heap.size) (hl : lv_has ls 4 [(0, .ref b), (1, .ref (φ 1 0)), (2, .ref (φ 9 0)), (3, .int (nI (6 * k)))]) (hk : 6 * k + 6 ≤ L) (hL : L ≤ 384) (hcs : cells ≤ 600000 ∧ slots ≤ 7302250) (hid : lw_ids hC hM) (hZ : ∀ a b, Z a b → lw_ids a b) (hop : lw_two Z 15 146 [] hC hM) (hP : va_P D mm_cls (mm_ws aC φ hC) H) (hP2 : va_P D mm_cls (mm_ws aC φ hM) H) (hS : va_S (fun q => s.heap.size ≤ q) s.heap H locs)
    (kk : ∀ (hC' hM' : mm_H) (H1 : Heap) (locs1 : List Loc), Z hC' hM' → va_P D mm_cls (mm_ws aC φ hC') H1 → va_P D mm_cls (mm_ws aC φ hM') H1 → va_S (fun q => s.heap.size ≤ q) s.heap H1 locs1 → W p l e room_1 s mi #[Value.ref b] below meth c H1 locs1 cells slots Q (F0 mi 975 ls [])) : W p l e room_1 s mi #[Value.ref b] below meth c H locs cells slots Q (F0 mi 622 ls []) := by
  obtain ⟨r, hC', hM', e1, e2, hz⟩ := hop
  obtain ⟨z1, z2, z3, z4⟩ := hZ _ _ hz
  obtain ⟨i1, i2, i3, i4⟩ := hid
  have hx := C.1
  have hb := C.2.1
  have hown := C.2.2.2.1
  have hts := C.2.2.2.2.1
  have hDC : va_D (fun q => s.heap.size ≤ q) (mm_ws aC φ hC) := mm_D_ids i1 C.2.2.2.2.2.2.1
  have hDM : va_D (fun q => s.heap.size ≤ q) (mm_ws aC φ hM) := mm_D_ids i2 C.2.2.2.2.2.2.2.1
  have hX := C.2.2.2.2.2.2.2.2
  refine lv_aload_n hx hb dl_622 rfl (lv_at hl 1 rfl) ?_
  refine lw_call (as := []) (h := hC) (h' := hC') (h2 := hM) (r := 1) (rest := []) C dl_623 lw_w15 (lw_v15).2.1 (by rw [(lw_v15).2.2]; exact Nat.le_of_ble_eq_true rfl) e1 (by rw [(lw_v15).1]; exact lw_co1) (by rw [i1]; exact lw_m1) i3 z3 (z1.trans i1.symm) (lw_okI rfl) hl.1 (Nat.le_of_ble_eq_true rfl) hcs hDC (fun z hz9 w hw9 => hX z (by rw [← i1]; exact hz9) w (by rw [← i2]; exact hw9)) hP hP2 hS (fun H1 locs1 hP hP2 hS => ?_)
  refine lv_aload_n hx hb dl_626 rfl (lv_at hl 2 rfl) ?_
  refine lw_call (as := []) (h := hM) (h' := hM') (h2 := hC') (r := 9) (rest := [.int r]) C dl_627 lw_w146 (lw_v146).2.1 (by rw [(lw_v146).2.2]; exact Nat.le_of_ble_eq_true rfl) e2 (by rw [(lw_v146).1]; exact lw_co9) (by rw [i2]; exact lw_m9) i4 z4 (z2.trans i2.symm) (lw_okI rfl) hl.1 (Nat.le_of_ble_eq_true rfl) hcs hDM (fun z hz9 w hw9 => (hX w (by rw [← z1]; exact hw9) z (by rw [← i2]; exact hz9)).symm) hP2 hP hS (fun H2 locs2 hP2 hP hS => ?_)
  refine lv_icmp_eq (tgt := 975) hx hb dl_630 (by decide) (fun _ => ?_) (fun h9 => absurd rfl h9)
  exact kk hC' hM' H2 locs2 hz hP hP2 hS
theorem lw_case15 (C : lw_C D aC φ p s mi c b) (hXs : va_X b L xs s s.heap) (hbl : b < s.heap.size) (hl : lv_has ls 4 [(0, .ref b), (1, .ref (φ 1 0)), (2, .ref (φ 9 0)), (3, .int (nI (6 * k)))]) (hk : 6 * k + 6 ≤ L) (hL : L ≤ 384) (hcs : cells ≤ 600000 ∧ slots ≤ 7302250) (hid : lw_ids hC hM) (hZ : ∀ a b, Z a b → lw_ids a b) (hop : lw_two Z 16 149 [.inl (xs (6 * k + 1)), .inl (xs (6 * k + 2)), .inl (xs (6 * k + 3))] hC hM) (hP : va_P D mm_cls (mm_ws aC φ hC) H) (hP2 : va_P D mm_cls (mm_ws aC φ hM) H) (hS : va_S (fun q => s.heap.size ≤ q) s.heap H locs)
    (kk : ∀ (hC' hM' : mm_H) (H1 : Heap) (locs1 : List Loc), Z hC' hM' → va_P D mm_cls (mm_ws aC φ hC') H1 → va_P D mm_cls (mm_ws aC φ hM') H1 → va_S (fun q => s.heap.size ≤ q) s.heap H1 locs1 → W p l e room_1 s mi #[Value.ref b] below meth c H1 locs1 cells slots Q (F0 mi 975 ls [])) : W p l e room_1 s mi #[Value.ref b] below meth c H locs cells slots Q (F0 mi 635 ls []) := by
  obtain ⟨r, hC', hM', e1, e2, hz⟩ := hop
  obtain ⟨z1, z2, z3, z4⟩ := hZ _ _ hz
  obtain ⟨i1, i2, i3, i4⟩ := hid
  have hx := C.1
  have hb := C.2.1
  have hown := C.2.2.2.1
  have hts := C.2.2.2.2.1
  have hDC : va_D (fun q => s.heap.size ≤ q) (mm_ws aC φ hC) := mm_D_ids i1 C.2.2.2.2.2.2.1
  have hDM : va_D (fun q => s.heap.size ≤ q) (mm_ws aC φ hM) := mm_D_ids i2 C.2.2.2.2.2.2.2.1
  have hX := C.2.2.2.2.2.2.2.2
  refine lv_aload_n hx hb dl_635 rfl (lv_at hl 1 rfl) ?_
  refine lw_arg (j := 1) C hXs hbl hl (by omega) hL hS rfl dl_636 dl_637 dl_638 dl_639 dl_640 ?_
  refine lw_arg (j := 2) C hXs hbl hl (by omega) hL hS rfl dl_641 dl_642 dl_643 dl_644 dl_645 ?_
  refine lw_arg (j := 3) C hXs hbl hl (by omega) hL hS rfl dl_646 dl_647 dl_648 dl_649 dl_650 ?_
  refine lw_call (as := [.inl (xs (6 * k + 1)), .inl (xs (6 * k + 2)), .inl (xs (6 * k + 3))]) (h := hC) (h' := hC') (h2 := hM) (r := 1) (rest := []) C dl_651 lw_w16 (lw_v16).2.1 (by rw [(lw_v16).2.2]; exact Nat.le_of_ble_eq_true rfl) e1 (by rw [(lw_v16).1]; exact lw_co1) (by rw [i1]; exact lw_m1) i3 z3 (z1.trans i1.symm) (lw_okI rfl) hl.1 (Nat.le_of_ble_eq_true rfl) hcs hDC (fun z hz9 w hw9 => hX z (by rw [← i1]; exact hz9) w (by rw [← i2]; exact hw9)) hP hP2 hS (fun H1 locs1 hP hP2 hS => ?_)
  refine lv_aload_n hx hb dl_654 rfl (lv_at hl 2 rfl) ?_
  refine lw_arg (j := 1) C hXs hbl hl (by omega) hL hS rfl dl_655 dl_656 dl_657 dl_658 dl_659 ?_
  refine lw_arg (j := 2) C hXs hbl hl (by omega) hL hS rfl dl_660 dl_661 dl_662 dl_663 dl_664 ?_
  refine lw_arg (j := 3) C hXs hbl hl (by omega) hL hS rfl dl_665 dl_666 dl_667 dl_668 dl_669 ?_
  refine lw_call (as := [.inl (xs (6 * k + 1)), .inl (xs (6 * k + 2)), .inl (xs (6 * k + 3))]) (h := hM) (h' := hM') (h2 := hC') (r := 9) (rest := [.int r]) C dl_670 lw_w149 (lw_v149).2.1 (by rw [(lw_v149).2.2]; exact Nat.le_of_ble_eq_true rfl) e2 (by rw [(lw_v149).1]; exact lw_co9) (by rw [i2]; exact lw_m9) i4 z4 (z2.trans i2.symm) (lw_okI rfl) hl.1 (Nat.le_of_ble_eq_true rfl) hcs hDM (fun z hz9 w hw9 => (hX w (by rw [← z1]; exact hw9) z (by rw [← i2]; exact hz9)).symm) hP2 hP hS (fun H2 locs2 hP2 hP hS => ?_)
  refine lv_icmp_eq (tgt := 975) hx hb dl_673 (by decide) (fun _ => ?_) (fun h9 => absurd rfl h9)
  exact kk hC' hM' H2 locs2 hz hP hP2 hS
theorem lw_case16 (C : lw_C D aC φ p s mi c b) (hXs : va_X b L xs s s.heap) (hbl : b < s.heap.size) (hl : lv_has ls 4 [(0, .ref b), (1, .ref (φ 1 0)), (2, .ref (φ 9 0)), (3, .int (nI (6 * k)))]) (hk : 6 * k + 6 ≤ L) (hL : L ≤ 384) (hcs : cells ≤ 600000 ∧ slots ≤ 7302250) (hid : lw_ids hC hM) (hZ : ∀ a b, Z a b → lw_ids a b) (hop : lw_two Z 17 151 [.inl (xs (6 * k + 1))] hC hM) (hP : va_P D mm_cls (mm_ws aC φ hC) H) (hP2 : va_P D mm_cls (mm_ws aC φ hM) H) (hS : va_S (fun q => s.heap.size ≤ q) s.heap H locs)
    (kk : ∀ (hC' hM' : mm_H) (H1 : Heap) (locs1 : List Loc), Z hC' hM' → va_P D mm_cls (mm_ws aC φ hC') H1 → va_P D mm_cls (mm_ws aC φ hM') H1 → va_S (fun q => s.heap.size ≤ q) s.heap H1 locs1 → W p l e room_1 s mi #[Value.ref b] below meth c H1 locs1 cells slots Q (F0 mi 975 ls [])) : W p l e room_1 s mi #[Value.ref b] below meth c H locs cells slots Q (F0 mi 678 ls []) := by
  obtain ⟨r, hC', hM', e1, e2, hz⟩ := hop
  obtain ⟨z1, z2, z3, z4⟩ := hZ _ _ hz
  obtain ⟨i1, i2, i3, i4⟩ := hid
  have hx := C.1
  have hb := C.2.1
  have hown := C.2.2.2.1
  have hts := C.2.2.2.2.1
  have hDC : va_D (fun q => s.heap.size ≤ q) (mm_ws aC φ hC) := mm_D_ids i1 C.2.2.2.2.2.2.1
  have hDM : va_D (fun q => s.heap.size ≤ q) (mm_ws aC φ hM) := mm_D_ids i2 C.2.2.2.2.2.2.2.1
  have hX := C.2.2.2.2.2.2.2.2
  refine lv_aload_n hx hb dl_678 rfl (lv_at hl 1 rfl) ?_
  refine lw_arg (j := 1) C hXs hbl hl (by omega) hL hS rfl dl_679 dl_680 dl_681 dl_682 dl_683 ?_
  refine lw_call (as := [.inl (xs (6 * k + 1))]) (h := hC) (h' := hC') (h2 := hM) (r := 1) (rest := []) C dl_684 lw_w17 (lw_v17).2.1 (by rw [(lw_v17).2.2]; exact Nat.le_of_ble_eq_true rfl) e1 (by rw [(lw_v17).1]; exact lw_co1) (by rw [i1]; exact lw_m1) i3 z3 (z1.trans i1.symm) (lw_okI rfl) hl.1 (Nat.le_of_ble_eq_true rfl) hcs hDC (fun z hz9 w hw9 => hX z (by rw [← i1]; exact hz9) w (by rw [← i2]; exact hw9)) hP hP2 hS (fun H1 locs1 hP hP2 hS => ?_)
  refine lv_aload_n hx hb dl_687 rfl (lv_at hl 2 rfl) ?_
  refine lw_arg (j := 1) C hXs hbl hl (by omega) hL hS rfl dl_688 dl_689 dl_690 dl_691 dl_692 ?_
  refine lw_call (as := [.inl (xs (6 * k + 1))]) (h := hM) (h' := hM') (h2 := hC') (r := 9) (rest := [.int r]) C dl_693 lw_w151 (lw_v151).2.1 (by rw [(lw_v151).2.2]; exact Nat.le_of_ble_eq_true rfl) e2 (by rw [(lw_v151).1]; exact lw_co9) (by rw [i2]; exact lw_m9) i4 z4 (z2.trans i2.symm) (lw_okI rfl) hl.1 (Nat.le_of_ble_eq_true rfl) hcs hDM (fun z hz9 w hw9 => (hX w (by rw [← z1]; exact hw9) z (by rw [← i2]; exact hz9)).symm) hP2 hP hS (fun H2 locs2 hP2 hP hS => ?_)
  refine lv_icmp_eq (tgt := 975) hx hb dl_696 (by decide) (fun _ => ?_) (fun h9 => absurd rfl h9)
  exact kk hC' hM' H2 locs2 hz hP hP2 hS
theorem lw_case17 (C : lw_C D aC φ p s mi c b) (hXs : va_X b L xs s s.heap) (hbl : b < s.heap.size) (hl : lv_has ls 4 [(0, .ref b), (1, .ref (φ 1 0)), (2, .ref (φ 9 0)), (3, .int (nI (6 * k)))]) (hk : 6 * k + 6 ≤ L) (hL : L ≤ 384) (hcs : cells ≤ 600000 ∧ slots ≤ 7302250) (hid : lw_ids hC hM) (hZ : ∀ a b, Z a b → lw_ids a b) (hop : lw_two Z 18 153 [.inl (xs (6 * k + 1))] hC hM) (hP : va_P D mm_cls (mm_ws aC φ hC) H) (hP2 : va_P D mm_cls (mm_ws aC φ hM) H) (hS : va_S (fun q => s.heap.size ≤ q) s.heap H locs)
    (kk : ∀ (hC' hM' : mm_H) (H1 : Heap) (locs1 : List Loc), Z hC' hM' → va_P D mm_cls (mm_ws aC φ hC') H1 → va_P D mm_cls (mm_ws aC φ hM') H1 → va_S (fun q => s.heap.size ≤ q) s.heap H1 locs1 → W p l e room_1 s mi #[Value.ref b] below meth c H1 locs1 cells slots Q (F0 mi 975 ls [])) : W p l e room_1 s mi #[Value.ref b] below meth c H locs cells slots Q (F0 mi 701 ls []) := by
  obtain ⟨r, hC', hM', e1, e2, hz⟩ := hop
  obtain ⟨z1, z2, z3, z4⟩ := hZ _ _ hz
  obtain ⟨i1, i2, i3, i4⟩ := hid
  have hx := C.1
  have hb := C.2.1
  have hown := C.2.2.2.1
  have hts := C.2.2.2.2.1
  have hDC : va_D (fun q => s.heap.size ≤ q) (mm_ws aC φ hC) := mm_D_ids i1 C.2.2.2.2.2.2.1
  have hDM : va_D (fun q => s.heap.size ≤ q) (mm_ws aC φ hM) := mm_D_ids i2 C.2.2.2.2.2.2.2.1
  have hX := C.2.2.2.2.2.2.2.2
  refine lv_aload_n hx hb dl_701 rfl (lv_at hl 1 rfl) ?_
  refine lw_arg (j := 1) C hXs hbl hl (by omega) hL hS rfl dl_702 dl_703 dl_704 dl_705 dl_706 ?_
  refine lw_call (as := [.inl (xs (6 * k + 1))]) (h := hC) (h' := hC') (h2 := hM) (r := 1) (rest := []) C dl_707 lw_w18 (lw_v18).2.1 (by rw [(lw_v18).2.2]; exact Nat.le_of_ble_eq_true rfl) e1 (by rw [(lw_v18).1]; exact lw_co1) (by rw [i1]; exact lw_m1) i3 z3 (z1.trans i1.symm) (lw_okI rfl) hl.1 (Nat.le_of_ble_eq_true rfl) hcs hDC (fun z hz9 w hw9 => hX z (by rw [← i1]; exact hz9) w (by rw [← i2]; exact hw9)) hP hP2 hS (fun H1 locs1 hP hP2 hS => ?_)
  refine lv_aload_n hx hb dl_710 rfl (lv_at hl 2 rfl) ?_
  refine lw_arg (j := 1) C hXs hbl hl (by omega) hL hS rfl dl_711 dl_712 dl_713 dl_714 dl_715 ?_
  refine lw_call (as := [.inl (xs (6 * k + 1))]) (h := hM) (h' := hM') (h2 := hC') (r := 9) (rest := [.int r]) C dl_716 lw_w153 (lw_v153).2.1 (by rw [(lw_v153).2.2]; exact Nat.le_of_ble_eq_true rfl) e2 (by rw [(lw_v153).1]; exact lw_co9) (by rw [i2]; exact lw_m9) i4 z4 (z2.trans i2.symm) (lw_okI rfl) hl.1 (Nat.le_of_ble_eq_true rfl) hcs hDM (fun z hz9 w hw9 => (hX w (by rw [← z1]; exact hw9) z (by rw [← i2]; exact hz9)).symm) hP2 hP hS (fun H2 locs2 hP2 hP hS => ?_)
  refine lv_icmp_eq (tgt := 975) hx hb dl_719 (by decide) (fun _ => ?_) (fun h9 => absurd rfl h9)
  exact kk hC' hM' H2 locs2 hz hP hP2 hS
theorem lw_case18 (C : lw_C D aC φ p s mi c b) (hXs : va_X b L xs s s.heap) (hbl : b < s.heap.size) (hl : lv_has ls 4 [(0, .ref b), (1, .ref (φ 1 0)), (2, .ref (φ 9 0)), (3, .int (nI (6 * k)))]) (hk : 6 * k + 6 ≤ L) (hL : L ≤ 384) (hcs : cells ≤ 600000 ∧ slots ≤ 7302250) (hid : lw_ids hC hM) (hZ : ∀ a b, Z a b → lw_ids a b) (hop : lw_two Z 19 156 [.inl (xs (6 * k + 1)), .inl (xs (6 * k + 2)), .inl (xs (6 * k + 3))] hC hM) (hP : va_P D mm_cls (mm_ws aC φ hC) H) (hP2 : va_P D mm_cls (mm_ws aC φ hM) H) (hS : va_S (fun q => s.heap.size ≤ q) s.heap H locs)
    (kk : ∀ (hC' hM' : mm_H) (H1 : Heap) (locs1 : List Loc), Z hC' hM' → va_P D mm_cls (mm_ws aC φ hC') H1 → va_P D mm_cls (mm_ws aC φ hM') H1 → va_S (fun q => s.heap.size ≤ q) s.heap H1 locs1 → W p l e room_1 s mi #[Value.ref b] below meth c H1 locs1 cells slots Q (F0 mi 975 ls [])) : W p l e room_1 s mi #[Value.ref b] below meth c H locs cells slots Q (F0 mi 724 ls []) := by
  obtain ⟨r, hC', hM', e1, e2, hz⟩ := hop
  obtain ⟨z1, z2, z3, z4⟩ := hZ _ _ hz
  obtain ⟨i1, i2, i3, i4⟩ := hid
  have hx := C.1
  have hb := C.2.1
  have hown := C.2.2.2.1
  have hts := C.2.2.2.2.1
  have hDC : va_D (fun q => s.heap.size ≤ q) (mm_ws aC φ hC) := mm_D_ids i1 C.2.2.2.2.2.2.1
  have hDM : va_D (fun q => s.heap.size ≤ q) (mm_ws aC φ hM) := mm_D_ids i2 C.2.2.2.2.2.2.2.1
  have hX := C.2.2.2.2.2.2.2.2
  refine lv_aload_n hx hb dl_724 rfl (lv_at hl 1 rfl) ?_
  refine lw_arg (j := 1) C hXs hbl hl (by omega) hL hS rfl dl_725 dl_726 dl_727 dl_728 dl_729 ?_
  refine lw_arg (j := 2) C hXs hbl hl (by omega) hL hS rfl dl_730 dl_731 dl_732 dl_733 dl_734 ?_
  refine lw_arg (j := 3) C hXs hbl hl (by omega) hL hS rfl dl_735 dl_736 dl_737 dl_738 dl_739 ?_
  refine lw_call (as := [.inl (xs (6 * k + 1)), .inl (xs (6 * k + 2)), .inl (xs (6 * k + 3))]) (h := hC) (h' := hC') (h2 := hM) (r := 1) (rest := []) C dl_740 lw_w19 (lw_v19).2.1 (by rw [(lw_v19).2.2]; exact Nat.le_of_ble_eq_true rfl) e1 (by rw [(lw_v19).1]; exact lw_co1) (by rw [i1]; exact lw_m1) i3 z3 (z1.trans i1.symm) (lw_okI rfl) hl.1 (Nat.le_of_ble_eq_true rfl) hcs hDC (fun z hz9 w hw9 => hX z (by rw [← i1]; exact hz9) w (by rw [← i2]; exact hw9)) hP hP2 hS (fun H1 locs1 hP hP2 hS => ?_)
  refine lv_aload_n hx hb dl_743 rfl (lv_at hl 2 rfl) ?_
  refine lw_arg (j := 1) C hXs hbl hl (by omega) hL hS rfl dl_744 dl_745 dl_746 dl_747 dl_748 ?_
  refine lw_arg (j := 2) C hXs hbl hl (by omega) hL hS rfl dl_749 dl_750 dl_751 dl_752 dl_753 ?_
  refine lw_arg (j := 3) C hXs hbl hl (by omega) hL hS rfl dl_754 dl_755 dl_756 dl_757 dl_758 ?_
  refine lw_call (as := [.inl (xs (6 * k + 1)), .inl (xs (6 * k + 2)), .inl (xs (6 * k + 3))]) (h := hM) (h' := hM') (h2 := hC') (r := 9) (rest := [.int r]) C dl_759 lw_w156 (lw_v156).2.1 (by rw [(lw_v156).2.2]; exact Nat.le_of_ble_eq_true rfl) e2 (by rw [(lw_v156).1]; exact lw_co9) (by rw [i2]; exact lw_m9) i4 z4 (z2.trans i2.symm) (lw_okI rfl) hl.1 (Nat.le_of_ble_eq_true rfl) hcs hDM (fun z hz9 w hw9 => (hX w (by rw [← z1]; exact hw9) z (by rw [← i2]; exact hz9)).symm) hP2 hP hS (fun H2 locs2 hP2 hP hS => ?_)
  refine lv_icmp_eq (tgt := 975) hx hb dl_762 (by decide) (fun _ => ?_) (fun h9 => absurd rfl h9)
  exact kk hC' hM' H2 locs2 hz hP hP2 hS
theorem lw_case19 (C : lw_C D aC φ p s mi c b) (hXs : va_X b L xs s s.heap) (hbl : b < s.heap.size) (hl : lv_has ls 4 [(0, .ref b), (1, .ref (φ 1 0)), (2, .ref (φ 9 0)), (3, .int (nI (6 * k)))]) (hk : 6 * k + 6 ≤ L) (hL : L ≤ 384) (hcs : cells ≤ 600000 ∧ slots ≤ 7302250) (hid : lw_ids hC hM) (hZ : ∀ a b, Z a b → lw_ids a b) (hop : lw_two Z 20 158 [.inl (xs (6 * k + 1)), .inl (xs (6 * k + 2)), .inl (xs (6 * k + 3))] hC hM) (hP : va_P D mm_cls (mm_ws aC φ hC) H) (hP2 : va_P D mm_cls (mm_ws aC φ hM) H) (hS : va_S (fun q => s.heap.size ≤ q) s.heap H locs)
    (kk : ∀ (hC' hM' : mm_H) (H1 : Heap) (locs1 : List Loc), Z hC' hM' → va_P D mm_cls (mm_ws aC φ hC') H1 → va_P D mm_cls (mm_ws aC φ hM') H1 → va_S (fun q => s.heap.size ≤ q) s.heap H1 locs1 → W p l e room_1 s mi #[Value.ref b] below meth c H1 locs1 cells slots Q (F0 mi 975 ls [])) : W p l e room_1 s mi #[Value.ref b] below meth c H locs cells slots Q (F0 mi 767 ls []) := by
  obtain ⟨r, hC', hM', e1, e2, hz⟩ := hop
  obtain ⟨z1, z2, z3, z4⟩ := hZ _ _ hz
  obtain ⟨i1, i2, i3, i4⟩ := hid
  have hx := C.1
  have hb := C.2.1
  have hown := C.2.2.2.1
  have hts := C.2.2.2.2.1
  have hDC : va_D (fun q => s.heap.size ≤ q) (mm_ws aC φ hC) := mm_D_ids i1 C.2.2.2.2.2.2.1
  have hDM : va_D (fun q => s.heap.size ≤ q) (mm_ws aC φ hM) := mm_D_ids i2 C.2.2.2.2.2.2.2.1
  have hX := C.2.2.2.2.2.2.2.2
  refine lv_aload_n hx hb dl_767 rfl (lv_at hl 1 rfl) ?_
  refine lw_arg (j := 1) C hXs hbl hl (by omega) hL hS rfl dl_768 dl_769 dl_770 dl_771 dl_772 ?_
  refine lw_arg (j := 2) C hXs hbl hl (by omega) hL hS rfl dl_773 dl_774 dl_775 dl_776 dl_777 ?_
  refine lw_arg (j := 3) C hXs hbl hl (by omega) hL hS rfl dl_778 dl_779 dl_780 dl_781 dl_782 ?_
  refine lw_call (as := [.inl (xs (6 * k + 1)), .inl (xs (6 * k + 2)), .inl (xs (6 * k + 3))]) (h := hC) (h' := hC') (h2 := hM) (r := 1) (rest := []) C dl_783 lw_w20 (lw_v20).2.1 (by rw [(lw_v20).2.2]; exact Nat.le_of_ble_eq_true rfl) e1 (by rw [(lw_v20).1]; exact lw_co1) (by rw [i1]; exact lw_m1) i3 z3 (z1.trans i1.symm) (lw_okI rfl) hl.1 (Nat.le_of_ble_eq_true rfl) hcs hDC (fun z hz9 w hw9 => hX z (by rw [← i1]; exact hz9) w (by rw [← i2]; exact hw9)) hP hP2 hS (fun H1 locs1 hP hP2 hS => ?_)
  refine lv_aload_n hx hb dl_786 rfl (lv_at hl 2 rfl) ?_
  refine lw_arg (j := 1) C hXs hbl hl (by omega) hL hS rfl dl_787 dl_788 dl_789 dl_790 dl_791 ?_
  refine lw_arg (j := 2) C hXs hbl hl (by omega) hL hS rfl dl_792 dl_793 dl_794 dl_795 dl_796 ?_
  refine lw_arg (j := 3) C hXs hbl hl (by omega) hL hS rfl dl_797 dl_798 dl_799 dl_800 dl_801 ?_
  refine lw_call (as := [.inl (xs (6 * k + 1)), .inl (xs (6 * k + 2)), .inl (xs (6 * k + 3))]) (h := hM) (h' := hM') (h2 := hC') (r := 9) (rest := [.int r]) C dl_802 lw_w158 (lw_v158).2.1 (by rw [(lw_v158).2.2]; exact Nat.le_of_ble_eq_true rfl) e2 (by rw [(lw_v158).1]; exact lw_co9) (by rw [i2]; exact lw_m9) i4 z4 (z2.trans i2.symm) (lw_okI rfl) hl.1 (Nat.le_of_ble_eq_true rfl) hcs hDM (fun z hz9 w hw9 => (hX w (by rw [← z1]; exact hw9) z (by rw [← i2]; exact hz9)).symm) hP2 hP hS (fun H2 locs2 hP2 hP hS => ?_)
  refine lv_icmp_eq (tgt := 975) hx hb dl_805 (by decide) (fun _ => ?_) (fun h9 => absurd rfl h9)
  exact kk hC' hM' H2 locs2 hz hP hP2 hS
theorem lw_case20 (C : lw_C D aC φ p s mi c b) (hXs : va_X b L xs s s.heap) (hbl : b < s.heap.size) (hl : lv_has ls 4 [(0, .ref b), (1, .ref (φ 1 0)), (2, .ref (φ 9 0)), (3, .int (nI (6 * k)))]) (hk : 6 * k + 6 ≤ L) (hL : L ≤ 384) (hcs : cells ≤ 600000 ∧ slots ≤ 7302250) (hid : lw_ids hC hM) (hZ : ∀ a b, Z a b → lw_ids a b) (hop : lw_two Z 21 159 [.inl (xs (6 * k + 1))] hC hM) (hP : va_P D mm_cls (mm_ws aC φ hC) H) (hP2 : va_P D mm_cls (mm_ws aC φ hM) H) (hS : va_S (fun q => s.heap.size ≤ q) s.heap H locs)
    (kk : ∀ (hC' hM' : mm_H) (H1 : Heap) (locs1 : List Loc), Z hC' hM' → va_P D mm_cls (mm_ws aC φ hC') H1 → va_P D mm_cls (mm_ws aC φ hM') H1 → va_S (fun q => s.heap.size ≤ q) s.heap H1 locs1 → W p l e room_1 s mi #[Value.ref b] below meth c H1 locs1 cells slots Q (F0 mi 975 ls [])) : W p l e room_1 s mi #[Value.ref b] below meth c H locs cells slots Q (F0 mi 810 ls []) := by
  obtain ⟨r, hC', hM', e1, e2, hz⟩ := hop
  obtain ⟨z1, z2, z3, z4⟩ := hZ _ _ hz
  obtain ⟨i1, i2, i3, i4⟩ := hid
  have hx := C.1
  have hb := C.2.1
  have hown := C.2.2.2.1
  have hts := C.2.2.2.2.1
  have hDC : va_D (fun q => s.heap.size ≤ q) (mm_ws aC φ hC) := mm_D_ids i1 C.2.2.2.2.2.2.1
  have hDM : va_D (fun q => s.heap.size ≤ q) (mm_ws aC φ hM) := mm_D_ids i2 C.2.2.2.2.2.2.2.1
  have hX := C.2.2.2.2.2.2.2.2
  refine lv_aload_n hx hb dl_810 rfl (lv_at hl 1 rfl) ?_
  refine lw_arg (j := 1) C hXs hbl hl (by omega) hL hS rfl dl_811 dl_812 dl_813 dl_814 dl_815 ?_
  refine lw_call (as := [.inl (xs (6 * k + 1))]) (h := hC) (h' := hC') (h2 := hM) (r := 1) (rest := []) C dl_816 lw_w21 (lw_v21).2.1 (by rw [(lw_v21).2.2]; exact Nat.le_of_ble_eq_true rfl) e1 (by rw [(lw_v21).1]; exact lw_co1) (by rw [i1]; exact lw_m1) i3 z3 (z1.trans i1.symm) (lw_okI rfl) hl.1 (Nat.le_of_ble_eq_true rfl) hcs hDC (fun z hz9 w hw9 => hX z (by rw [← i1]; exact hz9) w (by rw [← i2]; exact hw9)) hP hP2 hS (fun H1 locs1 hP hP2 hS => ?_)
  refine lv_aload_n hx hb dl_819 rfl (lv_at hl 2 rfl) ?_
  refine lw_arg (j := 1) C hXs hbl hl (by omega) hL hS rfl dl_820 dl_821 dl_822 dl_823 dl_824 ?_
  refine lw_call (as := [.inl (xs (6 * k + 1))]) (h := hM) (h' := hM') (h2 := hC') (r := 9) (rest := [.int r]) C dl_825 lw_w159 (lw_v159).2.1 (by rw [(lw_v159).2.2]; exact Nat.le_of_ble_eq_true rfl) e2 (by rw [(lw_v159).1]; exact lw_co9) (by rw [i2]; exact lw_m9) i4 z4 (z2.trans i2.symm) (lw_okI rfl) hl.1 (Nat.le_of_ble_eq_true rfl) hcs hDM (fun z hz9 w hw9 => (hX w (by rw [← z1]; exact hw9) z (by rw [← i2]; exact hz9)).symm) hP2 hP hS (fun H2 locs2 hP2 hP hS => ?_)
  refine lv_icmp_eq (tgt := 975) hx hb dl_828 (by decide) (fun _ => ?_) (fun h9 => absurd rfl h9)
  exact kk hC' hM' H2 locs2 hz hP hP2 hS
theorem lw_case21 (C : lw_C D aC φ p s mi c b) (hXs : va_X b L xs s s.heap) (hbl : b < s.heap.size) (hl : lv_has ls 4 [(0, .ref b), (1, .ref (φ 1 0)), (2, .ref (φ 9 0)), (3, .int (nI (6 * k)))]) (hk : 6 * k + 6 ≤ L) (hL : L ≤ 384) (hcs : cells ≤ 600000 ∧ slots ≤ 7302250) (hid : lw_ids hC hM) (hZ : ∀ a b, Z a b → lw_ids a b) (hop : lw_two Z 22 160 [] hC hM) (hP : va_P D mm_cls (mm_ws aC φ hC) H) (hP2 : va_P D mm_cls (mm_ws aC φ hM) H) (hS : va_S (fun q => s.heap.size ≤ q) s.heap H locs)
    (kk : ∀ (hC' hM' : mm_H) (H1 : Heap) (locs1 : List Loc), Z hC' hM' → va_P D mm_cls (mm_ws aC φ hC') H1 → va_P D mm_cls (mm_ws aC φ hM') H1 → va_S (fun q => s.heap.size ≤ q) s.heap H1 locs1 → W p l e room_1 s mi #[Value.ref b] below meth c H1 locs1 cells slots Q (F0 mi 975 ls [])) : W p l e room_1 s mi #[Value.ref b] below meth c H locs cells slots Q (F0 mi 833 ls []) := by
  obtain ⟨r, hC', hM', e1, e2, hz⟩ := hop
  obtain ⟨z1, z2, z3, z4⟩ := hZ _ _ hz
  obtain ⟨i1, i2, i3, i4⟩ := hid
  have hx := C.1
  have hb := C.2.1
  have hown := C.2.2.2.1
  have hts := C.2.2.2.2.1
  have hDC : va_D (fun q => s.heap.size ≤ q) (mm_ws aC φ hC) := mm_D_ids i1 C.2.2.2.2.2.2.1
  have hDM : va_D (fun q => s.heap.size ≤ q) (mm_ws aC φ hM) := mm_D_ids i2 C.2.2.2.2.2.2.2.1
  have hX := C.2.2.2.2.2.2.2.2
  refine lv_aload_n hx hb dl_833 rfl (lv_at hl 1 rfl) ?_
  refine lw_call (as := []) (h := hC) (h' := hC') (h2 := hM) (r := 1) (rest := []) C dl_834 lw_w22 (lw_v22).2.1 (by rw [(lw_v22).2.2]; exact Nat.le_of_ble_eq_true rfl) e1 (by rw [(lw_v22).1]; exact lw_co1) (by rw [i1]; exact lw_m1) i3 z3 (z1.trans i1.symm) (lw_okI rfl) hl.1 (Nat.le_of_ble_eq_true rfl) hcs hDC (fun z hz9 w hw9 => hX z (by rw [← i1]; exact hz9) w (by rw [← i2]; exact hw9)) hP hP2 hS (fun H1 locs1 hP hP2 hS => ?_)
  refine lv_aload_n hx hb dl_837 rfl (lv_at hl 2 rfl) ?_
  refine lw_call (as := []) (h := hM) (h' := hM') (h2 := hC') (r := 9) (rest := [.int r]) C dl_838 lw_w160 (lw_v160).2.1 (by rw [(lw_v160).2.2]; exact Nat.le_of_ble_eq_true rfl) e2 (by rw [(lw_v160).1]; exact lw_co9) (by rw [i2]; exact lw_m9) i4 z4 (z2.trans i2.symm) (lw_okI rfl) hl.1 (Nat.le_of_ble_eq_true rfl) hcs hDM (fun z hz9 w hw9 => (hX w (by rw [← z1]; exact hw9) z (by rw [← i2]; exact hz9)).symm) hP2 hP hS (fun H2 locs2 hP2 hP hS => ?_)
  refine lv_icmp_eq (tgt := 975) hx hb dl_841 (by decide) (fun _ => ?_) (fun h9 => absurd rfl h9)
  exact kk hC' hM' H2 locs2 hz hP hP2 hS
theorem lw_case22 (C : lw_C D aC φ p s mi c b) (hXs : va_X b L xs s s.heap) (hbl : b < s.heap.size) (hl : lv_has ls 4 [(0, .ref b), (1, .ref (φ 1 0)), (2, .ref (φ 9 0)), (3, .int (nI (6 * k)))]) (hk : 6 * k + 6 ≤ L) (hL : L ≤ 384) (hcs : cells ≤ 600000 ∧ slots ≤ 7302250) (hid : lw_ids hC hM) (hZ : ∀ a b, Z a b → lw_ids a b) (hop : lw_two Z 23 163 [] hC hM) (hP : va_P D mm_cls (mm_ws aC φ hC) H) (hP2 : va_P D mm_cls (mm_ws aC φ hM) H) (hS : va_S (fun q => s.heap.size ≤ q) s.heap H locs)
    (kk : ∀ (hC' hM' : mm_H) (H1 : Heap) (locs1 : List Loc), Z hC' hM' → va_P D mm_cls (mm_ws aC φ hC') H1 → va_P D mm_cls (mm_ws aC φ hM') H1 → va_S (fun q => s.heap.size ≤ q) s.heap H1 locs1 → W p l e room_1 s mi #[Value.ref b] below meth c H1 locs1 cells slots Q (F0 mi 975 ls [])) : W p l e room_1 s mi #[Value.ref b] below meth c H locs cells slots Q (F0 mi 846 ls []) := by
  obtain ⟨r, hC', hM', e1, e2, hz⟩ := hop
  obtain ⟨z1, z2, z3, z4⟩ := hZ _ _ hz
  obtain ⟨i1, i2, i3, i4⟩ := hid
  have hx := C.1
  have hb := C.2.1
  have hown := C.2.2.2.1
  have hts := C.2.2.2.2.1
  have hDC : va_D (fun q => s.heap.size ≤ q) (mm_ws aC φ hC) := mm_D_ids i1 C.2.2.2.2.2.2.1
  have hDM : va_D (fun q => s.heap.size ≤ q) (mm_ws aC φ hM) := mm_D_ids i2 C.2.2.2.2.2.2.2.1
  have hX := C.2.2.2.2.2.2.2.2
  refine lv_aload_n hx hb dl_846 rfl (lv_at hl 1 rfl) ?_
  refine lw_call (as := []) (h := hC) (h' := hC') (h2 := hM) (r := 1) (rest := []) C dl_847 lw_w23 (lw_v23).2.1 (by rw [(lw_v23).2.2]; exact Nat.le_of_ble_eq_true rfl) e1 (by rw [(lw_v23).1]; exact lw_co1) (by rw [i1]; exact lw_m1) i3 z3 (z1.trans i1.symm) (lw_okI rfl) hl.1 (Nat.le_of_ble_eq_true rfl) hcs hDC (fun z hz9 w hw9 => hX z (by rw [← i1]; exact hz9) w (by rw [← i2]; exact hw9)) hP hP2 hS (fun H1 locs1 hP hP2 hS => ?_)
  refine lv_aload_n hx hb dl_850 rfl (lv_at hl 2 rfl) ?_
  refine lw_call (as := []) (h := hM) (h' := hM') (h2 := hC') (r := 9) (rest := [.int r]) C dl_851 lw_w163 (lw_v163).2.1 (by rw [(lw_v163).2.2]; exact Nat.le_of_ble_eq_true rfl) e2 (by rw [(lw_v163).1]; exact lw_co9) (by rw [i2]; exact lw_m9) i4 z4 (z2.trans i2.symm) (lw_okI rfl) hl.1 (Nat.le_of_ble_eq_true rfl) hcs hDM (fun z hz9 w hw9 => (hX w (by rw [← z1]; exact hw9) z (by rw [← i2]; exact hz9)).symm) hP2 hP hS (fun H2 locs2 hP2 hP hS => ?_)
  refine lv_icmp_eq (tgt := 975) hx hb dl_854 (by decide) (fun _ => ?_) (fun h9 => absurd rfl h9)
  exact kk hC' hM' H2 locs2 hz hP hP2 hS
theorem lw_case23 (C : lw_C D aC φ p s mi c b) (hXs : va_X b L xs s s.heap) (hbl : b < s.heap.size) (hl : lv_has ls 4 [(0, .ref b), (1, .ref (φ 1 0)), (2, .ref (φ 9 0)), (3, .int (nI (6 * k)))]) (hk : 6 * k + 6 ≤ L) (hL : L ≤ 384) (hcs : cells ≤ 600000 ∧ slots ≤ 7302250) (hid : lw_ids hC hM) (hZ : ∀ a b, Z a b → lw_ids a b) (hop : lw_two Z 24 167 [.inl (xs (6 * k + 1)), .inl (xs (6 * k + 2)), .inl (xs (6 * k + 3)), .inl (xs (6 * k + 4))] hC hM) (hP : va_P D mm_cls (mm_ws aC φ hC) H) (hP2 : va_P D mm_cls (mm_ws aC φ hM) H) (hS : va_S (fun q => s.heap.size ≤ q) s.heap H locs)
    (kk : ∀ (hC' hM' : mm_H) (H1 : Heap) (locs1 : List Loc), Z hC' hM' → va_P D mm_cls (mm_ws aC φ hC') H1 → va_P D mm_cls (mm_ws aC φ hM') H1 → va_S (fun q => s.heap.size ≤ q) s.heap H1 locs1 → W p l e room_1 s mi #[Value.ref b] below meth c H1 locs1 cells slots Q (F0 mi 975 ls [])) : W p l e room_1 s mi #[Value.ref b] below meth c H locs cells slots Q (F0 mi 859 ls []) := by
  obtain ⟨r, hC', hM', e1, e2, hz⟩ := hop
  obtain ⟨z1, z2, z3, z4⟩ := hZ _ _ hz
  obtain ⟨i1, i2, i3, i4⟩ := hid
  have hx := C.1
  have hb := C.2.1
  have hown := C.2.2.2.1
  have hts := C.2.2.2.2.1
  have hDC : va_D (fun q => s.heap.size ≤ q) (mm_ws aC φ hC) := mm_D_ids i1 C.2.2.2.2.2.2.1
  have hDM : va_D (fun q => s.heap.size ≤ q) (mm_ws aC φ hM) := mm_D_ids i2 C.2.2.2.2.2.2.2.1
  have hX := C.2.2.2.2.2.2.2.2
  refine lv_aload_n hx hb dl_859 rfl (lv_at hl 1 rfl) ?_
  refine lw_arg (j := 1) C hXs hbl hl (by omega) hL hS rfl dl_860 dl_861 dl_862 dl_863 dl_864 ?_
  refine lw_arg (j := 2) C hXs hbl hl (by omega) hL hS rfl dl_865 dl_866 dl_867 dl_868 dl_869 ?_
  refine lw_arg (j := 3) C hXs hbl hl (by omega) hL hS rfl dl_870 dl_871 dl_872 dl_873 dl_874 ?_
  refine lw_arg (j := 4) C hXs hbl hl (by omega) hL hS rfl dl_875 dl_876 dl_877 dl_878 dl_879 ?_
  refine lw_call (as := [.inl (xs (6 * k + 1)), .inl (xs (6 * k + 2)), .inl (xs (6 * k + 3)), .inl (xs (6 * k + 4))]) (h := hC) (h' := hC') (h2 := hM) (r := 1) (rest := []) C dl_880 lw_w24 (lw_v24).2.1 (by rw [(lw_v24).2.2]; exact Nat.le_of_ble_eq_true rfl) e1 (by rw [(lw_v24).1]; exact lw_co1) (by rw [i1]; exact lw_m1) i3 z3 (z1.trans i1.symm) (lw_okI rfl) hl.1 (Nat.le_of_ble_eq_true rfl) hcs hDC (fun z hz9 w hw9 => hX z (by rw [← i1]; exact hz9) w (by rw [← i2]; exact hw9)) hP hP2 hS (fun H1 locs1 hP hP2 hS => ?_)
  refine lv_aload_n hx hb dl_883 rfl (lv_at hl 2 rfl) ?_
  refine lw_arg (j := 1) C hXs hbl hl (by omega) hL hS rfl dl_884 dl_885 dl_886 dl_887 dl_888 ?_
  refine lw_arg (j := 2) C hXs hbl hl (by omega) hL hS rfl dl_889 dl_890 dl_891 dl_892 dl_893 ?_
  refine lw_arg (j := 3) C hXs hbl hl (by omega) hL hS rfl dl_894 dl_895 dl_896 dl_897 dl_898 ?_
  refine lw_arg (j := 4) C hXs hbl hl (by omega) hL hS rfl dl_899 dl_900 dl_901 dl_902 dl_903 ?_
  refine lw_call (as := [.inl (xs (6 * k + 1)), .inl (xs (6 * k + 2)), .inl (xs (6 * k + 3)), .inl (xs (6 * k + 4))]) (h := hM) (h' := hM') (h2 := hC') (r := 9) (rest := [.int r]) C dl_904 lw_w167 (lw_v167).2.1 (by rw [(lw_v167).2.2]; exact Nat.le_of_ble_eq_true rfl) e2 (by rw [(lw_v167).1]; exact lw_co9) (by rw [i2]; exact lw_m9) i4 z4 (z2.trans i2.symm) (lw_okI rfl) hl.1 (Nat.le_of_ble_eq_true rfl) hcs hDM (fun z hz9 w hw9 => (hX w (by rw [← z1]; exact hw9) z (by rw [← i2]; exact hz9)).symm) hP2 hP hS (fun H2 locs2 hP2 hP hS => ?_)
  refine lv_icmp_eq (tgt := 975) hx hb dl_907 (by decide) (fun _ => ?_) (fun h9 => absurd rfl h9)
  exact kk hC' hM' H2 locs2 hz hP hP2 hS
theorem lw_case24 (C : lw_C D aC φ p s mi c b) (hXs : va_X b L xs s s.heap) (hbl : b < s.heap.size) (hl : lv_has ls 4 [(0, .ref b), (1, .ref (φ 1 0)), (2, .ref (φ 9 0)), (3, .int (nI (6 * k)))]) (hk : 6 * k + 6 ≤ L) (hL : L ≤ 384) (hcs : cells ≤ 600000 ∧ slots ≤ 7302250) (hid : lw_ids hC hM) (hZ : ∀ a b, Z a b → lw_ids a b) (hop : lw_two Z 25 168 [] hC hM) (hP : va_P D mm_cls (mm_ws aC φ hC) H) (hP2 : va_P D mm_cls (mm_ws aC φ hM) H) (hS : va_S (fun q => s.heap.size ≤ q) s.heap H locs)
    (kk : ∀ (hC' hM' : mm_H) (H1 : Heap) (locs1 : List Loc), Z hC' hM' → va_P D mm_cls (mm_ws aC φ hC') H1 → va_P D mm_cls (mm_ws aC φ hM') H1 → va_S (fun q => s.heap.size ≤ q) s.heap H1 locs1 → W p l e room_1 s mi #[Value.ref b] below meth c H1 locs1 cells slots Q (F0 mi 975 ls [])) : W p l e room_1 s mi #[Value.ref b] below meth c H locs cells slots Q (F0 mi 912 ls []) := by
  obtain ⟨r, hC', hM', e1, e2, hz⟩ := hop
  obtain ⟨z1, z2, z3, z4⟩ := hZ _ _ hz
  obtain ⟨i1, i2, i3, i4⟩ := hid
  have hx := C.1
  have hb := C.2.1
  have hown := C.2.2.2.1
  have hts := C.2.2.2.2.1
  have hDC : va_D (fun q => s.heap.size ≤ q) (mm_ws aC φ hC) := mm_D_ids i1 C.2.2.2.2.2.2.1
  have hDM : va_D (fun q => s.heap.size ≤ q) (mm_ws aC φ hM) := mm_D_ids i2 C.2.2.2.2.2.2.2.1
  have hX := C.2.2.2.2.2.2.2.2
  refine lv_aload_n hx hb dl_912 rfl (lv_at hl 1 rfl) ?_
  refine lw_call (as := []) (h := hC) (h' := hC') (h2 := hM) (r := 1) (rest := []) C dl_913 lw_w25 (lw_v25).2.1 (by rw [(lw_v25).2.2]; exact Nat.le_of_ble_eq_true rfl) e1 (by rw [(lw_v25).1]; exact lw_co1) (by rw [i1]; exact lw_m1) i3 z3 (z1.trans i1.symm) (lw_okI rfl) hl.1 (Nat.le_of_ble_eq_true rfl) hcs hDC (fun z hz9 w hw9 => hX z (by rw [← i1]; exact hz9) w (by rw [← i2]; exact hw9)) hP hP2 hS (fun H1 locs1 hP hP2 hS => ?_)
  refine lv_aload_n hx hb dl_916 rfl (lv_at hl 2 rfl) ?_
  refine lw_call (as := []) (h := hM) (h' := hM') (h2 := hC') (r := 9) (rest := [.int r]) C dl_917 lw_w168 (lw_v168).2.1 (by rw [(lw_v168).2.2]; exact Nat.le_of_ble_eq_true rfl) e2 (by rw [(lw_v168).1]; exact lw_co9) (by rw [i2]; exact lw_m9) i4 z4 (z2.trans i2.symm) (lw_okI rfl) hl.1 (Nat.le_of_ble_eq_true rfl) hcs hDM (fun z hz9 w hw9 => (hX w (by rw [← z1]; exact hw9) z (by rw [← i2]; exact hz9)).symm) hP2 hP hS (fun H2 locs2 hP2 hP hS => ?_)
  refine lv_icmp_eq (tgt := 975) hx hb dl_920 (by decide) (fun _ => ?_) (fun h9 => absurd rfl h9)
  exact kk hC' hM' H2 locs2 hz hP hP2 hS
theorem lw_case25 (C : lw_C D aC φ p s mi c b) (hXs : va_X b L xs s s.heap) (hbl : b < s.heap.size) (hl : lv_has ls 4 [(0, .ref b), (1, .ref (φ 1 0)), (2, .ref (φ 9 0)), (3, .int (nI (6 * k)))]) (hk : 6 * k + 6 ≤ L) (hL : L ≤ 384) (hcs : cells ≤ 600000 ∧ slots ≤ 7302250) (hid : lw_ids hC hM) (hZ : ∀ a b, Z a b → lw_ids a b) (hop : lw_two Z 26 169 [] hC hM) (hP : va_P D mm_cls (mm_ws aC φ hC) H) (hP2 : va_P D mm_cls (mm_ws aC φ hM) H) (hS : va_S (fun q => s.heap.size ≤ q) s.heap H locs)
    (kk : ∀ (hC' hM' : mm_H) (H1 : Heap) (locs1 : List Loc), Z hC' hM' → va_P D mm_cls (mm_ws aC φ hC') H1 → va_P D mm_cls (mm_ws aC φ hM') H1 → va_S (fun q => s.heap.size ≤ q) s.heap H1 locs1 → W p l e room_1 s mi #[Value.ref b] below meth c H1 locs1 cells slots Q (F0 mi 975 ls [])) : W p l e room_1 s mi #[Value.ref b] below meth c H locs cells slots Q (F0 mi 925 ls []) := by
  obtain ⟨r, hC', hM', e1, e2, hz⟩ := hop
  obtain ⟨z1, z2, z3, z4⟩ := hZ _ _ hz
  obtain ⟨i1, i2, i3, i4⟩ := hid
  have hx := C.1
  have hb := C.2.1
  have hown := C.2.2.2.1
  have hts := C.2.2.2.2.1
  have hDC : va_D (fun q => s.heap.size ≤ q) (mm_ws aC φ hC) := mm_D_ids i1 C.2.2.2.2.2.2.1
  have hDM : va_D (fun q => s.heap.size ≤ q) (mm_ws aC φ hM) := mm_D_ids i2 C.2.2.2.2.2.2.2.1
  have hX := C.2.2.2.2.2.2.2.2
  refine lv_aload_n hx hb dl_925 rfl (lv_at hl 1 rfl) ?_
  refine lw_call (as := []) (h := hC) (h' := hC') (h2 := hM) (r := 1) (rest := []) C dl_926 lw_w26 (lw_v26).2.1 (by rw [(lw_v26).2.2]; exact Nat.le_of_ble_eq_true rfl) e1 (by rw [(lw_v26).1]; exact lw_co1) (by rw [i1]; exact lw_m1) i3 z3 (z1.trans i1.symm) (lw_okI rfl) hl.1 (Nat.le_of_ble_eq_true rfl) hcs hDC (fun z hz9 w hw9 => hX z (by rw [← i1]; exact hz9) w (by rw [← i2]; exact hw9)) hP hP2 hS (fun H1 locs1 hP hP2 hS => ?_)
  refine lv_aload_n hx hb dl_929 rfl (lv_at hl 2 rfl) ?_
  refine lw_call (as := []) (h := hM) (h' := hM') (h2 := hC') (r := 9) (rest := [.int r]) C dl_930 lw_w169 (lw_v169).2.1 (by rw [(lw_v169).2.2]; exact Nat.le_of_ble_eq_true rfl) e2 (by rw [(lw_v169).1]; exact lw_co9) (by rw [i2]; exact lw_m9) i4 z4 (z2.trans i2.symm) (lw_okI rfl) hl.1 (Nat.le_of_ble_eq_true rfl) hcs hDM (fun z hz9 w hw9 => (hX w (by rw [← z1]; exact hw9) z (by rw [← i2]; exact hz9)).symm) hP2 hP hS (fun H2 locs2 hP2 hP hS => ?_)
  refine lv_icmp_eq (tgt := 975) hx hb dl_933 (by decide) (fun _ => ?_) (fun h9 => absurd rfl h9)
  exact kk hC' hM' H2 locs2 hz hP hP2 hS
theorem lw_case26 (C : lw_C D aC φ p s mi c b) (hXs : va_X b L xs s s.heap) (hbl : b < s.heap.size) (hl : lv_has ls 4 [(0, .ref b), (1, .ref (φ 1 0)), (2, .ref (φ 9 0)), (3, .int (nI (6 * k)))]) (hk : 6 * k + 6 ≤ L) (hL : L ≤ 384) (hcs : cells ≤ 600000 ∧ slots ≤ 7302250) (hid : lw_ids hC hM) (hZ : ∀ a b, Z a b → lw_ids a b) (hop : lw_two Z 27 172 [.inl (xs (6 * k + 1))] hC hM) (hP : va_P D mm_cls (mm_ws aC φ hC) H) (hP2 : va_P D mm_cls (mm_ws aC φ hM) H) (hS : va_S (fun q => s.heap.size ≤ q) s.heap H locs)
    (kk : ∀ (hC' hM' : mm_H) (H1 : Heap) (locs1 : List Loc), Z hC' hM' → va_P D mm_cls (mm_ws aC φ hC') H1 → va_P D mm_cls (mm_ws aC φ hM') H1 → va_S (fun q => s.heap.size ≤ q) s.heap H1 locs1 → W p l e room_1 s mi #[Value.ref b] below meth c H1 locs1 cells slots Q (F0 mi 975 ls [])) : W p l e room_1 s mi #[Value.ref b] below meth c H locs cells slots Q (F0 mi 938 ls []) := by
  obtain ⟨r, hC', hM', e1, e2, hz⟩ := hop
  obtain ⟨z1, z2, z3, z4⟩ := hZ _ _ hz
  obtain ⟨i1, i2, i3, i4⟩ := hid
  have hx := C.1
  have hb := C.2.1
  have hown := C.2.2.2.1
  have hts := C.2.2.2.2.1
  have hDC : va_D (fun q => s.heap.size ≤ q) (mm_ws aC φ hC) := mm_D_ids i1 C.2.2.2.2.2.2.1
  have hDM : va_D (fun q => s.heap.size ≤ q) (mm_ws aC φ hM) := mm_D_ids i2 C.2.2.2.2.2.2.2.1
  have hX := C.2.2.2.2.2.2.2.2
  refine lv_aload_n hx hb dl_938 rfl (lv_at hl 1 rfl) ?_
  refine lw_arg (j := 1) C hXs hbl hl (by omega) hL hS rfl dl_939 dl_940 dl_941 dl_942 dl_943 ?_
  refine lw_call (as := [.inl (xs (6 * k + 1))]) (h := hC) (h' := hC') (h2 := hM) (r := 1) (rest := []) C dl_944 lw_w27 (lw_v27).2.1 (by rw [(lw_v27).2.2]; exact Nat.le_of_ble_eq_true rfl) e1 (by rw [(lw_v27).1]; exact lw_co1) (by rw [i1]; exact lw_m1) i3 z3 (z1.trans i1.symm) (lw_okI rfl) hl.1 (Nat.le_of_ble_eq_true rfl) hcs hDC (fun z hz9 w hw9 => hX z (by rw [← i1]; exact hz9) w (by rw [← i2]; exact hw9)) hP hP2 hS (fun H1 locs1 hP hP2 hS => ?_)
  refine lv_aload_n hx hb dl_947 rfl (lv_at hl 2 rfl) ?_
  refine lw_arg (j := 1) C hXs hbl hl (by omega) hL hS rfl dl_948 dl_949 dl_950 dl_951 dl_952 ?_
  refine lw_call (as := [.inl (xs (6 * k + 1))]) (h := hM) (h' := hM') (h2 := hC') (r := 9) (rest := [.int r]) C dl_953 lw_w172 (lw_v172).2.1 (by rw [(lw_v172).2.2]; exact Nat.le_of_ble_eq_true rfl) e2 (by rw [(lw_v172).1]; exact lw_co9) (by rw [i2]; exact lw_m9) i4 z4 (z2.trans i2.symm) (lw_okI rfl) hl.1 (Nat.le_of_ble_eq_true rfl) hcs hDM (fun z hz9 w hw9 => (hX w (by rw [← z1]; exact hw9) z (by rw [← i2]; exact hz9)).symm) hP2 hP hS (fun H2 locs2 hP2 hP hS => ?_)
  refine lv_icmp_eq (tgt := 975) hx hb dl_956 (by decide) (fun _ => ?_) (fun h9 => absurd rfl h9)
  exact kk hC' hM' H2 locs2 hz hP hP2 hS
theorem lw_case27 (C : lw_C D aC φ p s mi c b) (hXs : va_X b L xs s s.heap) (hbl : b < s.heap.size) (hl : lv_has ls 4 [(0, .ref b), (1, .ref (φ 1 0)), (2, .ref (φ 9 0)), (3, .int (nI (6 * k)))]) (hk : 6 * k + 6 ≤ L) (hL : L ≤ 384) (hcs : cells ≤ 600000 ∧ slots ≤ 7302250) (hid : lw_ids hC hM) (hZ : ∀ a b, Z a b → lw_ids a b) (hop : lw_twoL Z 28 175 [] hC hM) (hP : va_P D mm_cls (mm_ws aC φ hC) H) (hP2 : va_P D mm_cls (mm_ws aC φ hM) H) (hS : va_S (fun q => s.heap.size ≤ q) s.heap H locs)
    (kk : ∀ (hC' hM' : mm_H) (H1 : Heap) (locs1 : List Loc), Z hC' hM' → va_P D mm_cls (mm_ws aC φ hC') H1 → va_P D mm_cls (mm_ws aC φ hM') H1 → va_S (fun q => s.heap.size ≤ q) s.heap H1 locs1 → W p l e room_1 s mi #[Value.ref b] below meth c H1 locs1 cells slots Q (F0 mi 975 ls [])) : W p l e room_1 s mi #[Value.ref b] below meth c H locs cells slots Q (F0 mi 961 ls []) := by
  obtain ⟨r, hC', hM', e1, e2, hz⟩ := hop
  obtain ⟨z1, z2, z3, z4⟩ := hZ _ _ hz
  obtain ⟨i1, i2, i3, i4⟩ := hid
  have hx := C.1
  have hb := C.2.1
  have hown := C.2.2.2.1
  have hts := C.2.2.2.2.1
  have hDC : va_D (fun q => s.heap.size ≤ q) (mm_ws aC φ hC) := mm_D_ids i1 C.2.2.2.2.2.2.1
  have hDM : va_D (fun q => s.heap.size ≤ q) (mm_ws aC φ hM) := mm_D_ids i2 C.2.2.2.2.2.2.2.1
  have hX := C.2.2.2.2.2.2.2.2
  refine lv_aload_n hx hb dl_961 rfl (lv_at hl 1 rfl) ?_
  refine lw_call (as := []) (h := hC) (h' := hC') (h2 := hM) (r := 1) (rest := []) C dl_962 lw_w28 (lw_v28).2.1 (by rw [(lw_v28).2.2]; exact Nat.le_of_ble_eq_true rfl) e1 (by rw [(lw_v28).1]; exact lw_co1) (by rw [i1]; exact lw_m1) i3 z3 (z1.trans i1.symm) (lw_okI rfl) hl.1 (Nat.le_of_ble_eq_true rfl) hcs hDC (fun z hz9 w hw9 => hX z (by rw [← i1]; exact hz9) w (by rw [← i2]; exact hw9)) hP hP2 hS (fun H1 locs1 hP hP2 hS => ?_)
  refine lv_aload_n hx hb dl_965 rfl (lv_at hl 2 rfl) ?_
  refine lw_call (as := []) (h := hM) (h' := hM') (h2 := hC') (r := 9) (rest := [.long r]) C dl_966 lw_w175 (lw_v175).2.1 (by rw [(lw_v175).2.2]; exact Nat.le_of_ble_eq_true rfl) e2 (by rw [(lw_v175).1]; exact lw_co9) (by rw [i2]; exact lw_m9) i4 z4 (z2.trans i2.symm) (lw_okI rfl) hl.1 (Nat.le_of_ble_eq_true rfl) hcs hDM (fun z hz9 w hw9 => (hX w (by rw [← z1]; exact hw9) z (by rw [← i2]; exact hz9)).symm) hP2 hP hS (fun H2 locs2 hP2 hP hS => ?_)
  refine W.lcmp hx hb dl_969 ?_
  rw [lw_cmp]
  refine lv_if_eq (tgt := 975) hx hb dl_970 (by decide) (fun _ => ?_) (fun h9 => absurd rfl h9)
  exact kk hC' hM' H2 locs2 hz hP hP2 hS
end LWK
