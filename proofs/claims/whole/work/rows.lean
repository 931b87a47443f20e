section
-- ===== PART A: goes FIRST, ahead of the names: the tables' words, and 'selects' of the private methods out of them =====
/-- a private method of a class that the tables say can be made, by its rows of tables_1 -/
def lw_okq (q : MethodName × Nat) : Prop := (q.1.cls ≠ "java/lang/invoke/MethodHandle" ∧ q.1.cls ≠ "java/lang/invoke/VarHandle") ∧ Cond.instantiable q.1.cls q.2 ∈ tables_1 ∧ Cond.privateMethod q.1 ∈ tables_1 ∧ Cond.instanceMethod q.1 ∈ tables_1
theorem lw_p0 : lw_okq (⟨"SongToBridge$Page", "fitsAt", "(I)Z"⟩, 2) := ⟨⟨by decide +kernel, by decide +kernel⟩, List.mem_of_getElem? (i := 26) (by decide +kernel), List.mem_of_getElem? (i := 298) (by decide +kernel), List.mem_of_getElem? (i := 299) (by decide +kernel)⟩
theorem lw_p1 : lw_okq (⟨"SongToBridge$Singer", "useKnown", "(I)V"⟩, 8) := ⟨⟨by decide +kernel, by decide +kernel⟩, List.mem_of_getElem? (i := 117) (by decide +kernel), List.mem_of_getElem? (i := 488) (by decide +kernel), List.mem_of_getElem? (i := 489) (by decide +kernel)⟩
theorem lw_p2 : lw_okq (⟨"SongToBridge$Ways", "measureFrom", "(II)V"⟩, 5) := ⟨⟨by decide +kernel, by decide +kernel⟩, List.mem_of_getElem? (i := 200) (by decide +kernel), List.mem_of_getElem? (i := 526) (by decide +kernel), List.mem_of_getElem? (i := 527) (by decide +kernel)⟩
theorem lw_p3 : lw_okq (⟨"SongToBridge$Ways", "shorten", "(LSongToBridge$Bridge;)V"⟩, 5) := ⟨⟨by decide +kernel, by decide +kernel⟩, List.mem_of_getElem? (i := 200) (by decide +kernel), List.mem_of_getElem? (i := 531) (by decide +kernel), List.mem_of_getElem? (i := 532) (by decide +kernel)⟩
theorem lw_p4 : lw_okq (⟨"SongToBridge$Ways", "learnMore", "(II)V"⟩, 5) := ⟨⟨by decide +kernel, by decide +kernel⟩, List.mem_of_getElem? (i := 200) (by decide +kernel), List.mem_of_getElem? (i := 580) (by decide +kernel), List.mem_of_getElem? (i := 581) (by decide +kernel)⟩
theorem lw_p5 : lw_okq (⟨"SongToBridge$Ways", "leastFee", "(II)I"⟩, 5) := ⟨⟨by decide +kernel, by decide +kernel⟩, List.mem_of_getElem? (i := 200) (by decide +kernel), List.mem_of_getElem? (i := 584) (by decide +kernel), List.mem_of_getElem? (i := 585) (by decide +kernel)⟩
theorem lw_p6 : lw_okq (⟨"SongToBridge$Ways", "versesOf", "(I)I"⟩, 5) := ⟨⟨by decide +kernel, by decide +kernel⟩, List.mem_of_getElem? (i := 200) (by decide +kernel), List.mem_of_getElem? (i := 596) (by decide +kernel), List.mem_of_getElem? (i := 597) (by decide +kernel)⟩
theorem lw_p7 : lw_okq (⟨"SongToBridge$World", "couldBeHeard", "(LSongToBridge$Singer;)Z"⟩, 7) := ⟨⟨by decide +kernel, by decide +kernel⟩, List.mem_of_getElem? (i := 73) (by decide +kernel), List.mem_of_getElem? (i := 624) (by decide +kernel), List.mem_of_getElem? (i := 625) (by decide +kernel)⟩
theorem lw_p8 : lw_okq (⟨"SongToBridge$Wanderer", "canTake", "(I)Z"⟩, 6) := ⟨⟨by decide +kernel, by decide +kernel⟩, List.mem_of_getElem? (i := 224) (by decide +kernel), List.mem_of_getElem? (i := 641) (by decide +kernel), List.mem_of_getElem? (i := 642) (by decide +kernel)⟩
theorem lw_p9 : lw_okq (⟨"SongToBridge$Wanderer", "draw", "(I)I"⟩, 6) := ⟨⟨by decide +kernel, by decide +kernel⟩, List.mem_of_getElem? (i := 224) (by decide +kernel), List.mem_of_getElem? (i := 646) (by decide +kernel), List.mem_of_getElem? (i := 647) (by decide +kernel)⟩
theorem lw_p10 : lw_okq (⟨"SongToBridge$Wanderer", "goOverChoice", "(I)V"⟩, 6) := ⟨⟨by decide +kernel, by decide +kernel⟩, List.mem_of_getElem? (i := 224) (by decide +kernel), List.mem_of_getElem? (i := 654) (by decide +kernel), List.mem_of_getElem? (i := 655) (by decide +kernel)⟩
theorem lw_p11 : lw_okq (⟨"SongToBridge", "mixBridges", "(J)J"⟩, 7) := ⟨⟨by decide +kernel, by decide +kernel⟩, List.mem_of_getElem? (i := 18) (by decide +kernel), List.mem_of_getElem? (i := 701) (by decide +kernel), List.mem_of_getElem? (i := 702) (by decide +kernel)⟩
theorem lw_p12 : lw_okq (⟨"SongToBridge", "mixSingers", "(J)J"⟩, 7) := ⟨⟨by decide +kernel, by decide +kernel⟩, List.mem_of_getElem? (i := 18) (by decide +kernel), List.mem_of_getElem? (i := 709) (by decide +kernel), List.mem_of_getElem? (i := 710) (by decide +kernel)⟩
theorem lw_p13 : lw_okq (⟨"SongToBridgeModel", "readBridge", "()V"⟩, 45) := ⟨⟨by decide +kernel, by decide +kernel⟩, List.mem_of_getElem? (i := 718) (by decide +kernel), List.mem_of_getElem? (i := 874) (by decide +kernel), List.mem_of_getElem? (i := 875) (by decide +kernel)⟩
theorem lw_p14 : lw_okq (⟨"SongToBridgeModel", "nextState", "(II)I"⟩, 45) := ⟨⟨by decide +kernel, by decide +kernel⟩, List.mem_of_getElem? (i := 718) (by decide +kernel), List.mem_of_getElem? (i := 878) (by decide +kernel), List.mem_of_getElem? (i := 879) (by decide +kernel)⟩
theorem lw_p15 : lw_okq (⟨"SongToBridgeModel", "isBridge", "(I)Z"⟩, 45) := ⟨⟨by decide +kernel, by decide +kernel⟩, List.mem_of_getElem? (i := 718) (by decide +kernel), List.mem_of_getElem? (i := 896) (by decide +kernel), List.mem_of_getElem? (i := 897) (by decide +kernel)⟩
def lw_privs_1 : List (MethodName × Nat) := [(⟨"SongToBridge$Page", "fitsAt", "(I)Z"⟩, 2), (⟨"SongToBridge$Singer", "useKnown", "(I)V"⟩, 8), (⟨"SongToBridge$Ways", "measureFrom", "(II)V"⟩, 5), (⟨"SongToBridge$Ways", "shorten", "(LSongToBridge$Bridge;)V"⟩, 5), (⟨"SongToBridge$Ways", "learnMore", "(II)V"⟩, 5), (⟨"SongToBridge$Ways", "leastFee", "(II)I"⟩, 5), (⟨"SongToBridge$Ways", "versesOf", "(I)I"⟩, 5), (⟨"SongToBridge$World", "couldBeHeard", "(LSongToBridge$Singer;)Z"⟩, 7), (⟨"SongToBridge$Wanderer", "canTake", "(I)Z"⟩, 6), (⟨"SongToBridge$Wanderer", "draw", "(I)I"⟩, 6), (⟨"SongToBridge$Wanderer", "goOverChoice", "(I)V"⟩, 6), (⟨"SongToBridge", "mixBridges", "(J)J"⟩, 7), (⟨"SongToBridge", "mixSingers", "(J)J"⟩, 7), (⟨"SongToBridgeModel", "readBridge", "()V"⟩, 45), (⟨"SongToBridgeModel", "nextState", "(II)I"⟩, 45), (⟨"SongToBridgeModel", "isBridge", "(I)Z"⟩, 45)]
theorem lw_r1 : ∀ q ∈ lw_privs_1, lw_okq q := List.forall_mem_cons.mpr ⟨lw_p0, List.forall_mem_cons.mpr ⟨lw_p1, List.forall_mem_cons.mpr ⟨lw_p2, List.forall_mem_cons.mpr ⟨lw_p3, List.forall_mem_cons.mpr ⟨lw_p4, List.forall_mem_cons.mpr ⟨lw_p5, List.forall_mem_cons.mpr ⟨lw_p6, List.forall_mem_cons.mpr ⟨lw_p7, List.forall_mem_cons.mpr ⟨lw_p8, List.forall_mem_cons.mpr ⟨lw_p9, List.forall_mem_cons.mpr ⟨lw_p10, List.forall_mem_cons.mpr ⟨lw_p11, List.forall_mem_cons.mpr ⟨lw_p12, List.forall_mem_cons.mpr ⟨lw_p13, List.forall_mem_cons.mpr ⟨lw_p14, List.forall_mem_cons.mpr ⟨lw_p15, fun _ h => absurd h List.not_mem_nil⟩⟩⟩⟩⟩⟩⟩⟩⟩⟩⟩⟩⟩⟩⟩⟩
theorem lw_p16 : lw_okq (⟨"SongToBridgeModel", "bridgeNow", "(II)I"⟩, 45) := ⟨⟨by decide +kernel, by decide +kernel⟩, List.mem_of_getElem? (i := 718) (by decide +kernel), List.mem_of_getElem? (i := 900) (by decide +kernel), List.mem_of_getElem? (i := 901) (by decide +kernel)⟩
theorem lw_p17 : lw_okq (⟨"SongToBridgeModel", "length", "(I)I"⟩, 45) := ⟨⟨by decide +kernel, by decide +kernel⟩, List.mem_of_getElem? (i := 718) (by decide +kernel), List.mem_of_getElem? (i := 904) (by decide +kernel), List.mem_of_getElem? (i := 905) (by decide +kernel)⟩
theorem lw_p18 : lw_okq (⟨"SongToBridgeModel", "songSet", "(I)I"⟩, 45) := ⟨⟨by decide +kernel, by decide +kernel⟩, List.mem_of_getElem? (i := 718) (by decide +kernel), List.mem_of_getElem? (i := 908) (by decide +kernel), List.mem_of_getElem? (i := 909) (by decide +kernel)⟩
theorem lw_p19 : lw_okq (⟨"SongToBridgeModel", "alikeNow", "(I)I"⟩, 45) := ⟨⟨by decide +kernel, by decide +kernel⟩, List.mem_of_getElem? (i := 718) (by decide +kernel), List.mem_of_getElem? (i := 927) (by decide +kernel), List.mem_of_getElem? (i := 928) (by decide +kernel)⟩
theorem lw_p20 : lw_okq (⟨"SongToBridgeModel", "isSinger", "(I)Z"⟩, 45) := ⟨⟨by decide +kernel, by decide +kernel⟩, List.mem_of_getElem? (i := 718) (by decide +kernel), List.mem_of_getElem? (i := 942) (by decide +kernel), List.mem_of_getElem? (i := 943) (by decide +kernel)⟩
theorem lw_p21 : lw_okq (⟨"SongToBridgeModel", "singerNow", "(II)I"⟩, 45) := ⟨⟨by decide +kernel, by decide +kernel⟩, List.mem_of_getElem? (i := 718) (by decide +kernel), List.mem_of_getElem? (i := 946) (by decide +kernel), List.mem_of_getElem? (i := 947) (by decide +kernel)⟩
theorem lw_p22 : lw_okq (⟨"SongToBridgeModel", "forgets", "(I)I"⟩, 45) := ⟨⟨by decide +kernel, by decide +kernel⟩, List.mem_of_getElem? (i := 718) (by decide +kernel), List.mem_of_getElem? (i := 950) (by decide +kernel), List.mem_of_getElem? (i := 951) (by decide +kernel)⟩
theorem lw_p23 : lw_okq (⟨"SongToBridgeModel", "mayNow", "(II)I"⟩, 45) := ⟨⟨by decide +kernel, by decide +kernel⟩, List.mem_of_getElem? (i := 718) (by decide +kernel), List.mem_of_getElem? (i := 968) (by decide +kernel), List.mem_of_getElem? (i := 969) (by decide +kernel)⟩
theorem lw_p24 : lw_okq (⟨"SongToBridgeModel", "canSing", "(II)Z"⟩, 45) := ⟨⟨by decide +kernel, by decide +kernel⟩, List.mem_of_getElem? (i := 718) (by decide +kernel), List.mem_of_getElem? (i := 972) (by decide +kernel), List.mem_of_getElem? (i := 973) (by decide +kernel)⟩
theorem lw_p25 : lw_okq (⟨"SongToBridgeModel", "standsAt", "(II)Z"⟩, 45) := ⟨⟨by decide +kernel, by decide +kernel⟩, List.mem_of_getElem? (i := 718) (by decide +kernel), List.mem_of_getElem? (i := 976) (by decide +kernel), List.mem_of_getElem? (i := 977) (by decide +kernel)⟩
theorem lw_p26 : lw_okq (⟨"SongToBridgeModel", "homeNow", "(III)I"⟩, 45) := ⟨⟨by decide +kernel, by decide +kernel⟩, List.mem_of_getElem? (i := 718) (by decide +kernel), List.mem_of_getElem? (i := 996) (by decide +kernel), List.mem_of_getElem? (i := 997) (by decide +kernel)⟩
theorem lw_p27 : lw_okq (⟨"SongToBridgeModel", "layFar", "(II)V"⟩, 45) := ⟨⟨by decide +kernel, by decide +kernel⟩, List.mem_of_getElem? (i := 718) (by decide +kernel), List.mem_of_getElem? (i := 1000) (by decide +kernel), List.mem_of_getElem? (i := 1001) (by decide +kernel)⟩
theorem lw_p28 : lw_okq (⟨"SongToBridgeModel", "reachBy", "(II)I"⟩, 45) := ⟨⟨by decide +kernel, by decide +kernel⟩, List.mem_of_getElem? (i := 718) (by decide +kernel), List.mem_of_getElem? (i := 1009) (by decide +kernel), List.mem_of_getElem? (i := 1010) (by decide +kernel)⟩
theorem lw_p29 : lw_okq (⟨"SongToBridgeModel", "firstNow", "(I)I"⟩, 45) := ⟨⟨by decide +kernel, by decide +kernel⟩, List.mem_of_getElem? (i := 718) (by decide +kernel), List.mem_of_getElem? (i := 1017) (by decide +kernel), List.mem_of_getElem? (i := 1018) (by decide +kernel)⟩
theorem lw_p30 : lw_okq (⟨"SongToBridgeModel", "cheapestNow", "(III)I"⟩, 45) := ⟨⟨by decide +kernel, by decide +kernel⟩, List.mem_of_getElem? (i := 718) (by decide +kernel), List.mem_of_getElem? (i := 1025) (by decide +kernel), List.mem_of_getElem? (i := 1026) (by decide +kernel)⟩
theorem lw_p31 : lw_okq (⟨"SongToBridgeModel", "learnOn", "(II)V"⟩, 45) := ⟨⟨by decide +kernel, by decide +kernel⟩, List.mem_of_getElem? (i := 718) (by decide +kernel), List.mem_of_getElem? (i := 1029) (by decide +kernel), List.mem_of_getElem? (i := 1030) (by decide +kernel)⟩
def lw_privs_2 : List (MethodName × Nat) := [(⟨"SongToBridgeModel", "bridgeNow", "(II)I"⟩, 45), (⟨"SongToBridgeModel", "length", "(I)I"⟩, 45), (⟨"SongToBridgeModel", "songSet", "(I)I"⟩, 45), (⟨"SongToBridgeModel", "alikeNow", "(I)I"⟩, 45), (⟨"SongToBridgeModel", "isSinger", "(I)Z"⟩, 45), (⟨"SongToBridgeModel", "singerNow", "(II)I"⟩, 45), (⟨"SongToBridgeModel", "forgets", "(I)I"⟩, 45), (⟨"SongToBridgeModel", "mayNow", "(II)I"⟩, 45), (⟨"SongToBridgeModel", "canSing", "(II)Z"⟩, 45), (⟨"SongToBridgeModel", "standsAt", "(II)Z"⟩, 45), (⟨"SongToBridgeModel", "homeNow", "(III)I"⟩, 45), (⟨"SongToBridgeModel", "layFar", "(II)V"⟩, 45), (⟨"SongToBridgeModel", "reachBy", "(II)I"⟩, 45), (⟨"SongToBridgeModel", "firstNow", "(I)I"⟩, 45), (⟨"SongToBridgeModel", "cheapestNow", "(III)I"⟩, 45), (⟨"SongToBridgeModel", "learnOn", "(II)V"⟩, 45)]
theorem lw_r2 : ∀ q ∈ lw_privs_2, lw_okq q := List.forall_mem_cons.mpr ⟨lw_p16, List.forall_mem_cons.mpr ⟨lw_p17, List.forall_mem_cons.mpr ⟨lw_p18, List.forall_mem_cons.mpr ⟨lw_p19, List.forall_mem_cons.mpr ⟨lw_p20, List.forall_mem_cons.mpr ⟨lw_p21, List.forall_mem_cons.mpr ⟨lw_p22, List.forall_mem_cons.mpr ⟨lw_p23, List.forall_mem_cons.mpr ⟨lw_p24, List.forall_mem_cons.mpr ⟨lw_p25, List.forall_mem_cons.mpr ⟨lw_p26, List.forall_mem_cons.mpr ⟨lw_p27, List.forall_mem_cons.mpr ⟨lw_p28, List.forall_mem_cons.mpr ⟨lw_p29, List.forall_mem_cons.mpr ⟨lw_p30, List.forall_mem_cons.mpr ⟨lw_p31, fun _ h => absurd h List.not_mem_nil⟩⟩⟩⟩⟩⟩⟩⟩⟩⟩⟩⟩⟩⟩⟩⟩
theorem lw_p32 : lw_okq (⟨"SongToBridgeModel", "choirNow", "(III)I"⟩, 45) := ⟨⟨by decide +kernel, by decide +kernel⟩, List.mem_of_getElem? (i := 718) (by decide +kernel), List.mem_of_getElem? (i := 1037) (by decide +kernel), List.mem_of_getElem? (i := 1038) (by decide +kernel)⟩
theorem lw_p33 : lw_okq (⟨"SongToBridgeModel", "whoNow", "()I"⟩, 45) := ⟨⟨by decide +kernel, by decide +kernel⟩, List.mem_of_getElem? (i := 718) (by decide +kernel), List.mem_of_getElem? (i := 1053) (by decide +kernel), List.mem_of_getElem? (i := 1054) (by decide +kernel)⟩
theorem lw_p34 : lw_okq (⟨"SongToBridgeModel", "isWay", "(I)Z"⟩, 45) := ⟨⟨by decide +kernel, by decide +kernel⟩, List.mem_of_getElem? (i := 718) (by decide +kernel), List.mem_of_getElem? (i := 1057) (by decide +kernel), List.mem_of_getElem? (i := 1058) (by decide +kernel)⟩
theorem lw_p35 : lw_okq (⟨"SongToBridgeModel", "wanderOn", "(I)Z"⟩, 45) := ⟨⟨by decide +kernel, by decide +kernel⟩, List.mem_of_getElem? (i := 718) (by decide +kernel), List.mem_of_getElem? (i := 1065) (by decide +kernel), List.mem_of_getElem? (i := 1066) (by decide +kernel)⟩
theorem lw_p36 : lw_okq (⟨"SongToBridgeModel", "mayWander", "(II)Z"⟩, 45) := ⟨⟨by decide +kernel, by decide +kernel⟩, List.mem_of_getElem? (i := 718) (by decide +kernel), List.mem_of_getElem? (i := 1069) (by decide +kernel), List.mem_of_getElem? (i := 1070) (by decide +kernel)⟩
theorem lw_p37 : lw_okq (⟨"SongToBridgeModel", "draw", "(I)I"⟩, 45) := ⟨⟨by decide +kernel, by decide +kernel⟩, List.mem_of_getElem? (i := 718) (by decide +kernel), List.mem_of_getElem? (i := 1073) (by decide +kernel), List.mem_of_getElem? (i := 1074) (by decide +kernel)⟩
theorem lw_p38 : lw_okq (⟨"SongToBridgeModel", "howMany", "(I)I"⟩, 45) := ⟨⟨by decide +kernel, by decide +kernel⟩, List.mem_of_getElem? (i := 718) (by decide +kernel), List.mem_of_getElem? (i := 1093) (by decide +kernel), List.mem_of_getElem? (i := 1094) (by decide +kernel)⟩
theorem lw_p39 : lw_okq (⟨"SongToBridgeModel", "feeMany", "()I"⟩, 45) := ⟨⟨by decide +kernel, by decide +kernel⟩, List.mem_of_getElem? (i := 718) (by decide +kernel), List.mem_of_getElem? (i := 1097) (by decide +kernel), List.mem_of_getElem? (i := 1098) (by decide +kernel)⟩
theorem lw_p40 : lw_okq (⟨"SongToBridgeModel", "mix", "(J)V"⟩, 45) := ⟨⟨by decide +kernel, by decide +kernel⟩, List.mem_of_getElem? (i := 718) (by decide +kernel), List.mem_of_getElem? (i := 1106) (by decide +kernel), List.mem_of_getElem? (i := 1107) (by decide +kernel)⟩
theorem lw_p41 : lw_okq (⟨"SongToBridgeModel", "mixSinger", "(I)V"⟩, 45) := ⟨⟨by decide +kernel, by decide +kernel⟩, List.mem_of_getElem? (i := 718) (by decide +kernel), List.mem_of_getElem? (i := 1111) (by decide +kernel), List.mem_of_getElem? (i := 1112) (by decide +kernel)⟩
def lw_privs_3 : List (MethodName × Nat) := [(⟨"SongToBridgeModel", "choirNow", "(III)I"⟩, 45), (⟨"SongToBridgeModel", "whoNow", "()I"⟩, 45), (⟨"SongToBridgeModel", "isWay", "(I)Z"⟩, 45), (⟨"SongToBridgeModel", "wanderOn", "(I)Z"⟩, 45), (⟨"SongToBridgeModel", "mayWander", "(II)Z"⟩, 45), (⟨"SongToBridgeModel", "draw", "(I)I"⟩, 45), (⟨"SongToBridgeModel", "howMany", "(I)I"⟩, 45), (⟨"SongToBridgeModel", "feeMany", "()I"⟩, 45), (⟨"SongToBridgeModel", "mix", "(J)V"⟩, 45), (⟨"SongToBridgeModel", "mixSinger", "(I)V"⟩, 45)]
theorem lw_r3 : ∀ q ∈ lw_privs_3, lw_okq q := List.forall_mem_cons.mpr ⟨lw_p32, List.forall_mem_cons.mpr ⟨lw_p33, List.forall_mem_cons.mpr ⟨lw_p34, List.forall_mem_cons.mpr ⟨lw_p35, List.forall_mem_cons.mpr ⟨lw_p36, List.forall_mem_cons.mpr ⟨lw_p37, List.forall_mem_cons.mpr ⟨lw_p38, List.forall_mem_cons.mpr ⟨lw_p39, List.forall_mem_cons.mpr ⟨lw_p40, List.forall_mem_cons.mpr ⟨lw_p41, fun _ h => absurd h List.not_mem_nil⟩⟩⟩⟩⟩⟩⟩⟩⟩⟩
def lw_privs : List (MethodName × Nat) := lw_privs_1 ++ (lw_privs_2 ++ (lw_privs_3))
def lw_tbl : List Cond := k2_sels lw_privs ++ tables_1
theorem lw_privs_ok : ∀ q ∈ lw_privs, lw_okq q := by
  show ∀ q ∈ lw_privs_1 ++ (lw_privs_2 ++ (lw_privs_3)), lw_okq q
  exact List.forall_mem_append.mpr ⟨lw_r1, List.forall_mem_append.mpr ⟨lw_r2, lw_r3⟩⟩
end
section
/-! static tables: classes, fields, roles of cells, components, methods, pools (by program out of the claim) -/
def mm_cn : List String := ["SongToBridge", "SongToBridge$Page", "SongToBridge$Keeper", "SongToBridge$Deaf", "SongToBridge$Echo", "SongToBridge$Worn", "SongToBridge$World", "SongToBridge$Bridge", "SongToBridge$Singer", "SongToBridge$Ways", "SongToBridge$Wanderer", "SongToBridgeModel", "java/lang/Integer", "java/lang/Math", "java/util/Arrays"]
def mm_cN (k : Nat) : String := mm_cn.getD k ""
def mm_fl : List (List (String × String × String × Bool)) := [[("SongToBridge", "page", "LSongToBridge$Page;", true), ("SongToBridge", "keepers", "[LSongToBridge$Keeper;", true), ("SongToBridge", "world", "LSongToBridge$World;", true), ("SongToBridge", "kept", "LSongToBridge$World;", true), ("SongToBridge", "hasImage", "Z", false), ("SongToBridge", "ways", "LSongToBridge$Ways;", true), ("SongToBridge", "wanderer", "LSongToBridge$Wanderer;", true)], [("SongToBridge$Page", "letters", "[I", true), ("SongToBridge$Page", "size", "I", false)], [], [], [], [], [("SongToBridge$World", "bridges", "[LSongToBridge$Bridge;", true), ("SongToBridge$World", "bridgeCount", "I", false), ("SongToBridge$World", "singers", "[LSongToBridge$Singer;", true), ("SongToBridge$World", "singerCount", "I", false), ("SongToBridge$World", "fees", "[[I", true), ("SongToBridge$World", "heard", "[I", true), ("SongToBridge$World", "heardCount", "I", false)], [("SongToBridge$Bridge", "keeper", "LSongToBridge$Keeper;", false), ("SongToBridge$Bridge", "from", "I", false), ("SongToBridge$Bridge", "to", "I", false), ("SongToBridge$Bridge", "size", "I", false), ("SongToBridge$Bridge", "song", "[I", true), ("SongToBridge$Bridge", "length", "I", false)], [("SongToBridge$Singer", "place", "I", false), ("SongToBridge$Singer", "verses", "I", false), ("SongToBridge$Singer", "breath", "I", false), ("SongToBridge$Singer", "breathOfDay", "I", false), ("SongToBridge$Singer", "memory", "I", false), ("SongToBridge$Singer", "purse", "I", false), ("SongToBridge$Singer", "deeds", "I", false), ("SongToBridge$Singer", "lastUse", "[I", true)], [("SongToBridge$Ways", "world", "LSongToBridge$World;", true), ("SongToBridge$Ways", "breathTo", "[I", true), ("SongToBridge$Ways", "feesToKnow", "[I", true), ("SongToBridge$Ways", "lessonFees", "I", false), ("SongToBridge$Ways", "lessonVerses", "I", false)], [("SongToBridge$Wanderer", "world", "LSongToBridge$World;", true), ("SongToBridge$Wanderer", "open", "I", false), ("SongToBridge$Wanderer", "place", "I", false), ("SongToBridge$Wanderer", "breath", "I", false), ("SongToBridge$Wanderer", "crossed", "I", false), ("SongToBridge$Wanderer", "seed", "J", false)], [("SongToBridgeModel", "bridges", "I", false), ("SongToBridgeModel", "kindOf", "[I", true), ("SongToBridgeModel", "placeA", "[I", true), ("SongToBridgeModel", "placeB", "[I", true), ("SongToBridgeModel", "songMany", "[I", true), ("SongToBridgeModel", "song", "[I", true), ("SongToBridgeModel", "singers", "I", false), ("SongToBridgeModel", "placeOf", "[I", true), ("SongToBridgeModel", "knows", "[I", true), ("SongToBridgeModel", "breathOf", "[I", true), ("SongToBridgeModel", "dayOf", "[I", true), ("SongToBridgeModel", "memoryOf", "[I", true), ("SongToBridgeModel", "purseOf", "[I", true), ("SongToBridgeModel", "usedAt", "[I", true), ("SongToBridgeModel", "clock", "I", false), ("SongToBridgeModel", "feeOf", "[I", true), ("SongToBridgeModel", "heardMany", "I", false), ("SongToBridgeModel", "heardOf", "[I", true), ("SongToBridgeModel", "pageLength", "I", false), ("SongToBridgeModel", "page", "[B", true), ("SongToBridgeModel", "faultAt", "I", false), ("SongToBridgeModel", "isWhole", "Z", false), ("SongToBridgeModel", "newA", "I", false), ("SongToBridgeModel", "newB", "I", false), ("SongToBridgeModel", "newKind", "I", false), ("SongToBridgeModel", "newMany", "I", false), ("SongToBridgeModel", "newSong", "[I", true), ("SongToBridgeModel", "far", "[I", true), ("SongToBridgeModel", "cost", "[I", true), ("SongToBridgeModel", "seedNow", "J", false), ("SongToBridgeModel", "wanderPlace", "I", false), ("SongToBridgeModel", "wanderBreath", "I", false), ("SongToBridgeModel", "isKept", "Z", false), ("SongToBridgeModel", "keptBridges", "I", false), ("SongToBridgeModel", "keptSingers", "I", false), ("SongToBridgeModel", "keptHeard", "I", false), ("SongToBridgeModel", "keptSong", "[I", true), ("SongToBridgeModel", "keptPlace", "[I", true), ("SongToBridgeModel", "keptKnows", "[I", true), ("SongToBridgeModel", "keptBreath", "[I", true), ("SongToBridgeModel", "keptPurse", "[I", true), ("SongToBridgeModel", "keptUsed", "[I", true), ("SongToBridgeModel", "keptFee", "[I", true), ("SongToBridgeModel", "keptOf", "[I", true), ("SongToBridgeModel", "h", "J", false)]]
def mm_T (k : Nat) : u_T := fun j => (mm_fl.getD k []).getD j ("", "", "", false)
def mm_N (k : Nat) : Nat := (mm_fl.getD k []).length
def mm_cls : List vw_C := (List.range 12).map (fun k => (mm_cN k, mm_T k, mm_N k))
/-- the roles: kind (0 object, 1 int[], 2 byte[], 3 references), length, class or array type, fields (component, type: 0 int, 1 long, 2 reference, 3 boolean) -/
def mm_rk : List (Nat × Nat × Nat × List (Nat × Nat)) := [(9, 0, 0, []), (0, 0, 0, [(0, 2), (1, 2), (2, 2), (3, 2), (4, 3), (5, 2), (6, 2)]), (0, 0, 1, [(7, 2), (8, 0)]), (0, 0, 2, []), (0, 0, 6, [(9, 2), (10, 0), (11, 2), (12, 0), (13, 2), (14, 2), (15, 0)]), (0, 0, 7, [(16, 2), (17, 0), (18, 0), (19, 0), (20, 2), (21, 0)]), (0, 0, 8, [(22, 0), (23, 0), (24, 0), (25, 0), (26, 0), (27, 0), (28, 0), (29, 2)]), (0, 0, 9, [(30, 2), (31, 2), (32, 2), (33, 0), (34, 0)]), (0, 0, 10, [(35, 2), (36, 0), (37, 0), (38, 0), (39, 0), (40, 1)]), (0, 0, 11, [(41, 0), (42, 2), (43, 2), (44, 2), (45, 2), (46, 2), (47, 0), (48, 2), (49, 2), (50, 2), (51, 2), (52, 2), (53, 2), (54, 2), (55, 0), (56, 2), (57, 0), (58, 2), (59, 0), (60, 2), (61, 0), (62, 3), (63, 0), (64, 0), (65, 0), (66, 0), (67, 2), (68, 2), (69, 2), (70, 1), (71, 0), (72, 0), (73, 3), (74, 0), (75, 0), (76, 0), (77, 2), (78, 2), (79, 2), (80, 2), (81, 2), (82, 2), (83, 2), (84, 2), (85, 1)]), (1, 16, 0, []), (3, 4, 2, []), (3, 9, 3, []), (3, 5, 4, []), (3, 6, 5, []), (1, 6, 0, []), (1, 10, 0, []), (1, 5, 0, []), (1, 6, 0, []), (1, 6, 0, []), (1, 64, 0, []), (1, 9, 0, []), (1, 9, 0, []), (1, 9, 0, []), (1, 9, 0, []), (1, 45, 0, []), (1, 5, 0, []), (1, 5, 0, []), (1, 5, 0, []), (1, 5, 0, []), (1, 5, 0, []), (1, 5, 0, []), (1, 30, 0, []), (1, 36, 0, []), (1, 10, 0, []), (2, 16, 1, []), (1, 5, 0, []), (1, 6, 0, []), (1, 64, 0, []), (1, 45, 0, []), (1, 5, 0, []), (1, 5, 0, []), (1, 5, 0, []), (1, 5, 0, []), (1, 30, 0, []), (1, 36, 0, []), (1, 10, 0, [])]
def mm_kd (r : Nat) : Nat := (mm_rk.getD r (9, 0, 0, [])).1
def mm_ln (r : Nat) : Nat := (mm_rk.getD r (9, 0, 0, [])).2.1
def mm_ax (r : Nat) : Nat := (mm_rk.getD r (9, 0, 0, [])).2.2.1
def mm_fs (r : Nat) : List (Nat × Nat) := (mm_rk.getD r (9, 0, 0, [])).2.2.2
/-- the class of a cell: the keepers (role 3) are of four -/
def mm_co (r i : Nat) : Nat := if r = 3 then 2 + i else mm_ax r
/-- the components: role, slot, type -/
def mm_ct : List (Nat × Nat × Nat) := [(1, 0, 2), (1, 1, 2), (1, 2, 2), (1, 3, 2), (1, 4, 3), (1, 5, 2), (1, 6, 2), (2, 0, 2), (2, 1, 0), (4, 0, 2), (4, 1, 0), (4, 2, 2), (4, 3, 0), (4, 4, 2), (4, 5, 2), (4, 6, 0), (5, 0, 2), (5, 1, 0), (5, 2, 0), (5, 3, 0), (5, 4, 2), (5, 5, 0), (6, 0, 0), (6, 1, 0), (6, 2, 0), (6, 3, 0), (6, 4, 0), (6, 5, 0), (6, 6, 0), (6, 7, 2), (7, 0, 2), (7, 1, 2), (7, 2, 2), (7, 3, 0), (7, 4, 0), (8, 0, 2), (8, 1, 0), (8, 2, 0), (8, 3, 0), (8, 4, 0), (8, 5, 1), (9, 0, 0), (9, 1, 2), (9, 2, 2), (9, 3, 2), (9, 4, 2), (9, 5, 2), (9, 6, 0), (9, 7, 2), (9, 8, 2), (9, 9, 2), (9, 10, 2), (9, 11, 2), (9, 12, 2), (9, 13, 2), (9, 14, 0), (9, 15, 2), (9, 16, 0), (9, 17, 2), (9, 18, 0), (9, 19, 2), (9, 20, 0), (9, 21, 3), (9, 22, 0), (9, 23, 0), (9, 24, 0), (9, 25, 0), (9, 26, 2), (9, 27, 2), (9, 28, 2), (9, 29, 1), (9, 30, 0), (9, 31, 0), (9, 32, 3), (9, 33, 0), (9, 34, 0), (9, 35, 0), (9, 36, 2), (9, 37, 2), (9, 38, 2), (9, 39, 2), (9, 40, 2), (9, 41, 2), (9, 42, 2), (9, 43, 2), (9, 44, 1)]
def mm_cr (c : Nat) : Nat := (mm_ct.getD c (0, 0, 9)).1
def mm_cs (c : Nat) : Nat := (mm_ct.getD c (0, 0, 9)).2.1
def mm_cy (c : Nat) : Nat := (mm_ct.getD c (0, 0, 9)).2.2
def mm_ty (aC : Nat → ClassId) : List (ClassId × FieldType) := [(aC 0, .int), (aC 1, .byte), (aC 2, .object "SongToBridge$Keeper"), (aC 3, .object "SongToBridge$Bridge"), (aC 4, .object "SongToBridge$Singer"), (aC 5, .array .int)]
/-- the methods: class, locals, type of the answer, room (frames, locals), cells and slots made, parameters -/
def mm_mt : List (Nat × Nat × Option FieldType × Nat × Nat × Nat × Nat × Nat) := [(0, 1, none, 4, 80, 89, 587, 0), (0, 4, (some .int), 2, 47, 0, 0, 1), (0, 2, (some .int), 0, 0, 0, 0, 0), (0, 1, (some .int), 4, 84, 0, 0, 0), (0, 2, (some .int), 5, 104, 0, 0, 0), (0, 3, (some .int), 2, 42, 0, 0, 2), (0, 3, (some .int), 1, 21, 0, 0, 2), (0, 5, (some .int), 3, 64, 0, 0, 3), (0, 2, (some .int), 2, 44, 0, 0, 1), (0, 8, (some .int), 2, 48, 0, 0, 5), (0, 3, (some .int), 3, 65, 0, 0, 2), (0, 5, (some .int), 1, 20, 0, 0, 3), (0, 5, (some .int), 2, 45, 0, 0, 2), (0, 5, (some .int), 3, 69, 0, 0, 2), (0, 5, (some .int), 2, 44, 0, 0, 2), (0, 3, (some .int), 3, 64, 0, 0, 0), (0, 5, (some .int), 5, 116, 0, 0, 3), (0, 3, (some .int), 4, 92, 0, 0, 1), (0, 2, (some .int), 5, 118, 0, 0, 1), (0, 4, (some .int), 5, 121, 0, 0, 3), (0, 5, (some .int), 5, 122, 0, 0, 3), (0, 2, (some .int), 1, 21, 0, 0, 1), (0, 2, (some .int), 0, 0, 0, 0, 0), (0, 1, (some .int), 4, 91, 0, 0, 0), (0, 6, (some .int), 4, 90, 0, 0, 4), (0, 1, (some .int), 3, 83, 0, 0, 0), (0, 1, (some .int), 3, 83, 0, 0, 0), (0, 2, (some .int), 1, 23, 0, 0, 1), (0, 5, (some .long), 6, 148, 0, 0, 0), (0, 7, (some .long), 2, 44, 0, 0, 1), (0, 8, (some .long), 5, 121, 0, 0, 1), (0, 7, (some .long), 1, 22, 0, 0, 3), (0, 3, (some .long), 0, 0, 0, 0, 2), (0, 1, (some .int), 1, 20, 0, 0, 1), (0, 1, (some .boolean), 0, 0, 0, 0, 1), (0, 1, (some .boolean), 0, 0, 0, 0, 1), (0, 2, (some .boolean), 0, 0, 0, 0, 2), (1, 1, none, 1, 20, 1, 16, 0), (1, 3, (some .int), 0, 0, 0, 0, 2), (1, 6, (some .int), 1, 22, 0, 0, 1), (1, 5, none, 1, 22, 0, 0, 2), (1, 2, (some .int), 3, 63, 0, 0, 0), (1, 1, (some .boolean), 4, 84, 0, 0, 0), (1, 4, (some .boolean), 2, 40, 0, 0, 1), (1, 1, (some .int), 1, 20, 0, 0, 0), (1, 1, (some .int), 0, 0, 0, 0, 0), (2, 1, none, 1, 20, 0, 0, 0), (2, 1, (some .int), 0, 0, 0, 0, 0), (2, 1, (some .int), 0, 0, 0, 0, 0), (2, 3, (some .boolean), 0, 0, 0, 0, 2), (2, 3, (some .int), 0, 0, 0, 0, 2), (3, 1, none, 2, 40, 0, 0, 0), (3, 1, (some .int), 0, 0, 0, 0, 0), (3, 3, (some .boolean), 0, 0, 0, 0, 2), (4, 1, none, 2, 40, 0, 0, 0), (4, 1, (some .int), 0, 0, 0, 0, 0), (4, 3, (some .int), 1, 20, 0, 0, 2), (5, 1, none, 3, 60, 0, 0, 0), (5, 1, (some .int), 0, 0, 0, 0, 0), (5, 1, (some .int), 0, 0, 0, 0, 0), (6, 3, none, 2, 41, 38, 235, 1), (6, 3, none, 2, 61, 0, 0, 1), (6, 2, (some .boolean), 0, 0, 0, 0, 1), (6, 2, (some .boolean), 0, 0, 0, 0, 1), (6, 3, (some .int), 1, 22, 0, 0, 1), (6, 4, (some .int), 0, 0, 0, 0, 0), (6, 5, (some .boolean), 0, 0, 0, 0, 0), (6, 3, (some .int), 3, 69, 0, 0, 0), (6, 5, (some .boolean), 2, 45, 0, 0, 1), (6, 4, (some .int), 2, 45, 0, 0, 1), (6, 9, (some .int), 3, 68, 0, 0, 2), (7, 2, none, 1, 20, 1, 5, 1), (7, 4, none, 2, 42, 0, 0, 2), (7, 2, none, 1, 40, 0, 0, 1), (7, 2, (some .int), 1, 21, 0, 0, 1), (7, 2, (some .int), 0, 0, 0, 0, 1), (7, 3, none, 2, 42, 0, 0, 2), (7, 3, (some .int), 0, 0, 0, 0, 0), (7, 4, (some .boolean), 1, 22, 0, 0, 1), (7, 3, (some .boolean), 0, 0, 0, 0, 1), (7, 3, (some .boolean), 0, 0, 0, 0, 2), (7, 1, (some .int), 0, 0, 0, 0, 0), (7, 2, (some .int), 0, 0, 0, 0, 1), (8, 1, none, 1, 20, 1, 6, 0), (8, 6, none, 1, 23, 0, 0, 5), (8, 2, none, 1, 40, 0, 0, 1), (8, 2, (some .int), 2, 44, 0, 0, 1), (8, 2, (some .boolean), 0, 0, 0, 0, 1), (8, 4, (some .int), 1, 21, 0, 0, 0), (8, 2, none, 1, 22, 0, 0, 1), (8, 3, none, 1, 22, 0, 0, 2), (8, 3, none, 0, 0, 0, 0, 1), (8, 1, (some .boolean), 2, 44, 0, 0, 0), (9, 2, none, 1, 20, 2, 70, 1), (9, 4, (some .int), 3, 68, 0, 0, 2), (9, 6, (some .int), 4, 91, 0, 0, 2), (9, 5, none, 2, 41, 0, 0, 2), (9, 2, none, 1, 20, 0, 0, 1), (9, 5, (some .int), 3, 68, 0, 0, 2), (9, 7, (some .int), 4, 92, 0, 0, 1), (9, 6, none, 4, 96, 0, 0, 2), (9, 5, none, 2, 45, 0, 0, 2), (9, 6, (some .int), 1, 20, 0, 0, 2), (9, 7, (some .int), 4, 96, 0, 0, 2), (9, 4, (some .int), 0, 0, 0, 0, 1), (10, 2, none, 1, 20, 0, 0, 1), (10, 3, none, 3, 68, 0, 0, 2), (10, 3, none, 3, 66, 0, 0, 0), (10, 4, none, 2, 43, 0, 0, 1), (10, 2, (some .boolean), 1, 22, 0, 0, 1), (10, 2, (some .int), 0, 0, 0, 0, 1), (10, 2, (some .int), 0, 0, 0, 0, 1), (11, 1, none, 1, 20, 26, 419, 0), (11, 3, (some .boolean), 0, 0, 0, 0, 3), (11, 2, (some .boolean), 0, 0, 0, 0, 2), (11, 3, (some .int), 0, 0, 0, 0, 1), (11, 7, (some .int), 0, 0, 0, 0, 1), (11, 2, (some .int), 0, 0, 0, 0, 0), (11, 1, (some .int), 0, 0, 0, 0, 1), (11, 4, (some .int), 1, 22, 0, 0, 2), (11, 5, none, 2, 45, 0, 0, 0), (11, 1, (some .int), 3, 69, 0, 0, 0), (11, 2, (some .int), 3, 69, 0, 0, 0), (11, 2, (some .boolean), 1, 22, 0, 0, 1), (11, 4, (some .int), 0, 0, 0, 0, 1), (11, 2, (some .int), 1, 23, 0, 0, 1), (11, 3, (some .int), 2, 44, 0, 0, 2), (11, 3, (some .int), 3, 66, 0, 0, 2), (11, 4, (some .int), 2, 43, 0, 0, 2), (11, 5, (some .int), 2, 43, 0, 0, 3), (11, 5, (some .int), 0, 0, 0, 0, 1), (11, 2, (some .int), 2, 43, 0, 0, 1), (11, 1, (some .boolean), 1, 22, 0, 0, 1), (11, 1, (some .boolean), 1, 22, 0, 0, 1), (11, 2, (some .boolean), 1, 22, 0, 0, 1), (11, 7, (some .int), 2, 42, 0, 0, 5), (11, 5, (some .int), 1, 21, 0, 0, 1), (11, 3, (some .int), 2, 45, 0, 0, 2), (11, 3, (some .int), 3, 67, 0, 0, 2), (11, 5, (some .int), 2, 42, 0, 0, 3), (11, 5, (some .boolean), 1, 21, 0, 0, 2), (11, 3, (some .boolean), 0, 0, 0, 0, 2), (11, 3, (some .int), 2, 45, 0, 0, 2), (11, 3, (some .int), 3, 67, 0, 0, 2), (11, 5, (some .int), 3, 67, 0, 0, 2), (11, 5, (some .int), 2, 43, 0, 0, 2), (11, 4, (some .int), 2, 45, 0, 0, 0), (11, 8, none, 2, 45, 0, 0, 2), (11, 7, (some .int), 3, 72, 0, 0, 3), (11, 4, (some .int), 4, 98, 0, 0, 3), (11, 5, (some .int), 3, 72, 0, 0, 2), (11, 2, (some .int), 4, 96, 0, 0, 1), (11, 7, (some .int), 4, 96, 0, 0, 1), (11, 2, (some .int), 5, 122, 0, 0, 1), (11, 7, none, 3, 72, 0, 0, 2), (11, 7, (some .int), 4, 98, 0, 0, 3), (11, 4, (some .int), 5, 124, 0, 0, 3), (11, 8, (some .int), 3, 72, 0, 0, 3), (11, 4, (some .int), 4, 99, 0, 0, 3), (11, 2, (some .int), 2, 43, 0, 0, 1), (11, 2, (some .int), 0, 0, 0, 0, 0), (11, 6, (some .boolean), 1, 22, 0, 0, 1), (11, 7, (some .int), 2, 47, 0, 0, 0), (11, 1, (some .int), 3, 73, 0, 0, 0), (11, 2, (some .int), 0, 0, 0, 0, 1), (11, 3, (some .boolean), 2, 45, 0, 0, 2), (11, 5, (some .boolean), 3, 67, 0, 0, 1), (11, 7, (some .int), 4, 91, 0, 0, 4), (11, 2, (some .int), 0, 0, 0, 0, 0), (11, 2, (some .int), 0, 0, 0, 0, 0), (11, 3, (some .int), 0, 0, 0, 0, 0), (11, 2, (some .int), 1, 22, 0, 0, 1), (11, 2, (some .int), 2, 43, 0, 0, 1), (11, 3, none, 0, 0, 0, 0, 1), (11, 3, none, 5, 124, 0, 0, 1), (11, 3, (some .long), 6, 146, 0, 0, 0), (12, 1, (some .int), 0, 0, 0, 0, 1), (14, 4, none, 0, 0, 0, 0, 2)]
def mm_mr (m : Nat) : Nat × Nat × Option FieldType × Nat × Nat × Nat × Nat × Nat := mm_mt.getD m (0, 0, none, 0, 0, 0, 0, 0)
def mm_ow (m : Nat) : Nat := (mm_mr m).1
def mm_mL (m : Nat) : Nat := (mm_mr m).2.1
def mm_rt (m : Nat) : Option FieldType := (mm_mr m).2.2.1
def mm_rf (m : Nat) : Nat := (mm_mr m).2.2.2.1
def mm_rl (m : Nat) : Nat := (mm_mr m).2.2.2.2.1
def mm_mc (m : Nat) : Nat := (mm_mr m).2.2.2.2.2.1
def mm_ms (m : Nat) : Nat := (mm_mr m).2.2.2.2.2.2.1
def mm_na (m : Nat) : Nat := (mm_mr m).2.2.2.2.2.2.2
def mm_yn : List (String × String) := [("<init>", "()V"), ("letters", "(J)I"), ("blank", "()I"), ("fault", "()I"), ("bridge", "()I"), ("about", "(II)I"), ("as", "(II)I"), ("change", "(III)I"), ("alike", "(I)I"), ("singer", "(IIIII)I"), ("told", "(II)I"), ("teach", "(III)I"), ("may", "(II)I"), ("cross", "(II)I"), ("learn", "(II)I"), ("night", "()I"), ("home", "(III)I"), ("reach", "(I)I"), ("first", "(I)I"), ("cheapest", "(III)I"), ("choir", "(III)I"), ("heard", "(I)I"), ("hush", "()I"), ("who", "()I"), ("wander", "(IIII)I"), ("image", "()I"), ("restore", "()I"), ("count", "(I)I"), ("digest", "()J"), ("mixBridges", "(J)J"), ("mixSingers", "(J)J"), ("mixRow", "(J[II)J"), ("mix", "(JI)J"), ("choirSize", "(I)I"), ("isPlace", "(I)Z"), ("isVerse", "(I)Z"), ("isOfKind", "(LSongToBridge$Keeper;I)Z"), ("<init>", "()V"), ("codeAt", "(JI)I"), ("lettersIn", "(J)I"), ("append", "(JI)V"), ("firstFault", "()I"), ("isBridge", "()Z"), ("fitsAt", "(I)Z"), ("songStart", "()I"), ("kindTold", "()I"), ("<init>", "()V"), ("kindNumber", "()I"), ("firstHeard", "()I"), ("isContent", "(II)Z"), ("lengthOf", "(II)I"), ("<init>", "()V"), ("kindNumber", "()I"), ("isContent", "(II)Z"), ("<init>", "()V"), ("kindNumber", "()I"), ("lengthOf", "(II)I"), ("<init>", "()V"), ("kindNumber", "()I"), ("firstHeard", "()I"), ("<init>", "(LSongToBridge$Keeper;)V"), ("takeOver", "(LSongToBridge$World;)V"), ("hasBridge", "(I)Z"), ("hasSinger", "(I)Z"), ("leastAlike", "(I)I"), ("feesTold", "()I"), ("isHeardOneWay", "()Z"), ("singersOfHeard", "()I"), ("couldBeHeard", "(LSongToBridge$Singer;)Z"), ("openTo", "(I)I"), ("placesOpen", "(II)I"), ("<init>", "(LSongToBridge$Keeper;)V"), ("readFrom", "(LSongToBridge$Page;LSongToBridge$Keeper;)V"), ("takeOver", "(LSongToBridge$Bridge;)V"), ("property", "(I)I"), ("verseAt", "(I)I"), ("setVerse", "(II)V"), ("verseBits", "()I"), ("opensTo", "(I)Z"), ("hasSameSong", "(LSongToBridge$Bridge;)Z"), ("isInReach", "(II)Z"), ("endBits", "()I"), ("otherEnd", "(I)I"), ("<init>", "()V"), ("begin", "(IIIII)V"), ("takeOver", "(LSongToBridge$Singer;)V"), ("property", "(I)I"), ("knows", "(I)Z"), ("verseToForget", "()I"), ("goOver", "(LSongToBridge$Bridge;)V"), ("buy", "(II)V"), ("useKnown", "(I)V"), ("sleep", "()Z"), ("<init>", "(LSongToBridge$World;)V"), ("homeBreath", "(LSongToBridge$Singer;I)I"), ("homeBridge", "(LSongToBridge$Singer;I)I"), ("measureFrom", "(II)V"), ("shorten", "(LSongToBridge$Bridge;)V"), ("placesInBreath", "(LSongToBridge$Singer;I)I"), ("verseToLearn", "(LSongToBridge$Singer;)I"), ("findLessons", "(LSongToBridge$Singer;I)V"), ("learnMore", "(II)V"), ("leastFee", "(II)I"), ("leastChoir", "(II)I"), ("versesOf", "(I)I"), ("<init>", "(LSongToBridge$World;)V"), ("begin", "(LSongToBridge$Singer;I)V"), ("takeTurn", "()V"), ("goOverChoice", "(I)V"), ("canTake", "(I)Z"), ("draw", "(I)I"), ("property", "(I)I"), ("<init>", "()V"), ("within", "(III)Z"), ("has", "(II)Z"), ("size", "(I)I"), ("letters", "(J)I"), ("blank", "()I"), ("signOf", "(I)I"), ("nextState", "(II)I"), ("readBridge", "()V"), ("fault", "()I"), ("bridge", "()I"), ("isBridge", "(I)Z"), ("songSet", "(I)I"), ("length", "(I)I"), ("bridgeNow", "(II)I"), ("about", "(II)I"), ("as", "(II)I"), ("change", "(III)I"), ("alikeNow", "(I)I"), ("alike", "(I)I"), ("isPlace", "(I)Z"), ("isVerse", "(I)Z"), ("isSinger", "(I)Z"), ("singer", "(IIIII)I"), ("forgets", "(I)I"), ("singerNow", "(II)I"), ("told", "(II)I"), ("teach", "(III)I"), ("canSing", "(II)Z"), ("standsAt", "(II)Z"), ("mayNow", "(II)I"), ("may", "(II)I"), ("cross", "(II)I"), ("learn", "(II)I"), ("night", "()I"), ("layFar", "(II)V"), ("homeNow", "(III)I"), ("home", "(III)I"), ("reachBy", "(II)I"), ("reach", "(I)I"), ("firstNow", "(I)I"), ("first", "(I)I"), ("learnOn", "(II)V"), ("cheapestNow", "(III)I"), ("cheapest", "(III)I"), ("choirNow", "(III)I"), ("choir", "(III)I"), ("heard", "(I)I"), ("hush", "()I"), ("isWay", "(I)Z"), ("whoNow", "()I"), ("who", "()I"), ("draw", "(I)I"), ("mayWander", "(II)Z"), ("wanderOn", "(I)Z"), ("wander", "(IIII)I"), ("image", "()I"), ("restore", "()I"), ("feeMany", "()I"), ("howMany", "(I)I"), ("count", "(I)I"), ("mix", "(J)V"), ("mixSinger", "(I)V"), ("digest", "()J"), ("bitCount", "(I)I"), ("fill", "([II)V")]
def mm_y (m : Nat) : MethodName := ⟨mm_cN (mm_ow m), (mm_yn.getD m ("", "")).1, (mm_yn.getD m ("", "")).2⟩
def mm_bs : List ByteArray := [prog_1_method_1_code, prog_1_method_2_code, prog_1_method_3_code, prog_1_method_4_code, prog_1_method_5_code, prog_1_method_6_code, prog_1_method_7_code, prog_1_method_8_code, prog_1_method_9_code, prog_1_method_10_code, prog_1_method_11_code, prog_1_method_12_code, prog_1_method_13_code, prog_1_method_14_code, prog_1_method_15_code, prog_1_method_16_code, prog_1_method_17_code, prog_1_method_18_code, prog_1_method_19_code, prog_1_method_20_code, prog_1_method_21_code, prog_1_method_22_code, prog_1_method_23_code, prog_1_method_24_code, prog_1_method_25_code, prog_1_method_26_code, prog_1_method_27_code, prog_1_method_28_code, prog_1_method_29_code, prog_1_method_30_code, prog_1_method_31_code, prog_1_method_32_code, prog_1_method_33_code, prog_1_method_34_code, prog_1_method_35_code, prog_1_method_36_code, prog_1_method_37_code, prog_6_method_1_code, prog_6_method_2_code, prog_6_method_3_code, prog_6_method_4_code, prog_6_method_5_code, prog_6_method_6_code, prog_6_method_7_code, prog_6_method_8_code, prog_6_method_9_code, prog_5_method_1_code, prog_5_method_2_code, prog_5_method_3_code, prog_5_method_4_code, prog_5_method_5_code, prog_3_method_1_code, prog_3_method_2_code, prog_3_method_3_code, prog_4_method_1_code, prog_4_method_2_code, prog_4_method_3_code, prog_11_method_1_code, prog_11_method_2_code, prog_11_method_3_code, prog_10_method_1_code, prog_10_method_2_code, prog_10_method_3_code, prog_10_method_4_code, prog_10_method_5_code, prog_10_method_6_code, prog_10_method_7_code, prog_10_method_8_code, prog_10_method_9_code, prog_10_method_10_code, prog_10_method_11_code, prog_2_method_1_code, prog_2_method_2_code, prog_2_method_3_code, prog_2_method_4_code, prog_2_method_5_code, prog_2_method_6_code, prog_2_method_7_code, prog_2_method_8_code, prog_2_method_9_code, prog_2_method_10_code, prog_2_method_11_code, prog_2_method_12_code, prog_7_method_1_code, prog_7_method_2_code, prog_7_method_3_code, prog_7_method_4_code, prog_7_method_5_code, prog_7_method_6_code, prog_7_method_7_code, prog_7_method_8_code, prog_7_method_9_code, prog_7_method_10_code, prog_9_method_1_code, prog_9_method_2_code, prog_9_method_3_code, prog_9_method_4_code, prog_9_method_5_code, prog_9_method_6_code, prog_9_method_7_code, prog_9_method_8_code, prog_9_method_9_code, prog_9_method_10_code, prog_9_method_11_code, prog_9_method_12_code, prog_8_method_1_code, prog_8_method_2_code, prog_8_method_3_code, prog_8_method_4_code, prog_8_method_5_code, prog_8_method_6_code, prog_8_method_7_code, prog_13_method_1_code, prog_13_method_3_code, prog_13_method_4_code, prog_13_method_5_code, prog_13_method_6_code, prog_13_method_7_code, prog_13_method_8_code, prog_13_method_9_code, prog_13_method_10_code, prog_13_method_11_code, prog_13_method_12_code, prog_13_method_13_code, prog_13_method_14_code, prog_13_method_15_code, prog_13_method_16_code, prog_13_method_17_code, prog_13_method_18_code, prog_13_method_19_code, prog_13_method_20_code, prog_13_method_21_code, prog_13_method_22_code, prog_13_method_23_code, prog_13_method_24_code, prog_13_method_25_code, prog_13_method_26_code, prog_13_method_27_code, prog_13_method_28_code, prog_13_method_29_code, prog_13_method_30_code, prog_13_method_31_code, prog_13_method_32_code, prog_13_method_33_code, prog_13_method_34_code, prog_13_method_35_code, prog_13_method_36_code, prog_13_method_37_code, prog_13_method_38_code, prog_13_method_39_code, prog_13_method_40_code, prog_13_method_41_code, prog_13_method_42_code, prog_13_method_43_code, prog_13_method_44_code, prog_13_method_45_code, prog_13_method_46_code, prog_13_method_47_code, prog_13_method_48_code, prog_13_method_49_code, prog_13_method_50_code, prog_13_method_51_code, prog_13_method_52_code, prog_13_method_53_code, prog_13_method_54_code, prog_13_method_55_code, prog_13_method_56_code, prog_13_method_57_code, prog_13_method_58_code, prog_13_method_59_code, prog_13_method_60_code, prog_13_method_61_code, prog_13_method_62_code, prog_13_method_63_code, prog_13_method_64_code, prog_13_method_65_code, prog_14_method_49_code, prog_17_method_103_code]
def mm_bc (m : Nat) : ByteArray := mm_bs.getD m ⟨#[]⟩
/-- pools: (class, entry) to component; (class, entry) to (kind of call, method): 0 static, 1 special, 2 special of a nest mate, 3 virtual, 4 of a keeper, 5 Object, 6 arraycopy -/
def mm_cf : List ((Nat × Nat) × Nat) := [((0, 12), 0), ((0, 28), 1), ((0, 37), 2), ((0, 41), 3), ((0, 44), 4), ((0, 53), 5), ((0, 60), 6), ((0, 68), 8), ((0, 84), 10), ((0, 87), 9), ((0, 108), 16), ((0, 132), 12), ((0, 135), 11), ((0, 149), 13), ((0, 153), 23), ((0, 159), 22), ((0, 162), 24), ((0, 180), 27), ((0, 212), 33), ((0, 215), 34), ((0, 224), 15), ((0, 227), 14), ((0, 269), 7), ((1, 11), 7), ((1, 15), 8), ((6, 11), 9), ((6, 17), 10), ((6, 23), 11), ((6, 27), 12), ((6, 32), 13), ((6, 35), 14), ((6, 39), 15), ((6, 69), 17), ((6, 72), 18), ((6, 79), 23), ((6, 86), 21), ((6, 89), 25), ((7, 9), 17), ((7, 15), 18), ((7, 18), 19), ((7, 21), 20), ((7, 25), 21), ((7, 28), 16), ((7, 32), 7), ((7, 41), 8), ((8, 9), 22), ((8, 15), 23), ((8, 18), 24), ((8, 21), 25), ((8, 24), 26), ((8, 27), 27), ((8, 30), 28), ((8, 33), 29), ((8, 63), 21), ((9, 9), 31), ((9, 15), 32), ((9, 18), 33), ((9, 22), 34), ((9, 25), 30), ((9, 29), 23), ((9, 44), 22), ((9, 47), 24), ((9, 54), 10), ((9, 57), 9), ((9, 71), 21), ((9, 87), 18), ((9, 90), 17), ((9, 99), 13), ((9, 114), 27), ((9, 126), 12), ((9, 132), 11), ((10, 7), 36), ((10, 13), 37), ((10, 16), 38), ((10, 19), 39), ((10, 22), 40), ((10, 26), 35), ((10, 30), 23), ((10, 41), 22), ((10, 42), 24), ((10, 43), 10), ((10, 57), 9), ((10, 61), 21), ((11, 7), 42), ((11, 13), 43), ((11, 16), 44), ((11, 19), 45), ((11, 22), 46), ((11, 25), 48), ((11, 28), 49), ((11, 31), 50), ((11, 34), 51), ((11, 37), 52), ((11, 40), 53), ((11, 43), 54), ((11, 46), 56), ((11, 49), 58), ((11, 52), 60), ((11, 56), 67), ((11, 59), 68), ((11, 62), 69), ((11, 65), 77), ((11, 68), 78), ((11, 71), 79), ((11, 74), 80), ((11, 77), 81), ((11, 80), 82), ((11, 83), 83), ((11, 86), 84), ((11, 91), 59), ((11, 99), 63), ((11, 102), 64), ((11, 109), 65), ((11, 112), 66), ((11, 119), 61), ((11, 122), 62), ((11, 129), 41), ((11, 151), 47), ((11, 182), 55), ((11, 209), 57), ((11, 221), 70), ((11, 231), 71), ((11, 234), 72), ((11, 246), 73), ((11, 249), 74), ((11, 252), 75), ((11, 255), 76), ((11, 266), 85)]
def mm_cfi : List Nat := [290, 291, 292, 293, 294, 295, 296, 77, 212, 208, 132, 217, 214, 221, 172, 167, 176, 182, 251, 253, 225, 223, 75, 73, 76, 205, 209, 213, 216, 219, 222, 224, 135, 138, 171, 145, 178, 133, 136, 139, 140, 141, 131, 74, 78, 164, 168, 173, 177, 179, 180, 183, 184, 144, 248, 249, 250, 252, 247, 170, 166, 175, 211, 206, 142, 137, 134, 220, 181, 218, 215, 272, 273, 274, 275, 276, 271, 169, 165, 174, 210, 207, 143, 766, 767, 768, 769, 770, 772, 773, 774, 775, 776, 777, 778, 780, 782, 784, 791, 792, 793, 801, 802, 803, 804, 805, 806, 807, 808, 783, 787, 788, 789, 790, 785, 786, 765, 771, 779, 781, 794, 795, 796, 797, 798, 799, 800, 809]
def mm_cm : List ((Nat × Nat) × (Nat × Nat)) := [((0, 3), (5, 0)), ((0, 11), (2, 37)), ((0, 18), (2, 46)), ((0, 21), (2, 51)), ((0, 24), (2, 54)), ((0, 27), (2, 57)), ((0, 34), (1, 60)), ((0, 50), (1, 93)), ((0, 59), (1, 105)), ((0, 64), (0, 39)), ((0, 72), (3, 40)), ((0, 76), (3, 41)), ((0, 80), (3, 42)), ((0, 91), (3, 45)), ((0, 94), (3, 72)), ((0, 100), (3, 62)), ((0, 104), (3, 74)), ((0, 112), (0, 36)), ((0, 116), (0, 35)), ((0, 119), (3, 75)), ((0, 122), (3, 76)), ((0, 126), (3, 64)), ((0, 129), (0, 34)), ((0, 139), (3, 84)), ((0, 145), (3, 63)), ((0, 148), (3, 86)), ((0, 156), (3, 78)), ((0, 165), (3, 80)), ((0, 169), (3, 12)), ((0, 173), (3, 89)), ((0, 177), (3, 87)), ((0, 183), (3, 90)), ((0, 186), (7, 0)), ((0, 191), (3, 92)), ((0, 194), (3, 94)), ((0, 198), (3, 95)), ((0, 201), (3, 98)), ((0, 204), (3, 99)), ((0, 208), (3, 100)), ((0, 218), (3, 103)), ((0, 221), (0, 33)), ((0, 231), (3, 66)), ((0, 234), (3, 67)), ((0, 237), (3, 106)), ((0, 239), (3, 107)), ((0, 242), (3, 111)), ((0, 243), (3, 61)), ((0, 246), (3, 65)), ((0, 251), (3, 29)), ((0, 255), (3, 30)), ((0, 258), (0, 31)), ((0, 262), (3, 23)), ((0, 265), (0, 32)), ((0, 272), (3, 27)), ((0, 277), (0, 176)), ((1, 3), (5, 0)), ((1, 21), (0, 38)), ((1, 25), (3, 43)), ((1, 29), (3, 44)), ((1, 33), (3, 41)), ((1, 36), (3, 45)), ((2, 3), (5, 0)), ((3, 3), (2, 46)), ((4, 3), (2, 46)), ((4, 9), (0, 176)), ((5, 3), (2, 51)), ((6, 3), (5, 0)), ((6, 42), (1, 71)), ((6, 45), (2, 83)), ((6, 46), (0, 177)), ((6, 52), (3, 73)), ((6, 56), (3, 85)), ((6, 59), (6, 0)), ((6, 65), (3, 79)), ((6, 75), (3, 68)), ((6, 82), (3, 78)), ((6, 92), (3, 69)), ((6, 96), (3, 81)), ((7, 3), (5, 0)), ((7, 37), (3, 44)), ((7, 42), (3, 77)), ((7, 45), (4, 3)), ((7, 51), (6, 0)), ((7, 57), (4, 0)), ((7, 60), (3, 75)), ((7, 64), (4, 1)), ((7, 67), (4, 2)), ((8, 3), (5, 0)), ((8, 37), (0, 177)), ((8, 43), (6, 0)), ((8, 49), (3, 88)), ((8, 53), (3, 87)), ((8, 57), (3, 82)), ((8, 66), (3, 77)), ((8, 69), (3, 91)), ((8, 73), (0, 176)), ((9, 3), (5, 0)), ((9, 34), (3, 69)), ((9, 40), (3, 96)), ((9, 50), (3, 94)), ((9, 61), (3, 78)), ((9, 67), (3, 80)), ((9, 74), (3, 82)), ((9, 77), (0, 177)), ((9, 83), (3, 97)), ((9, 93), (7, 0)), ((9, 103), (3, 98)), ((9, 106), (0, 176)), ((9, 111), (3, 87)), ((9, 117), (3, 70)), ((9, 120), (3, 101)), ((9, 123), (3, 102)), ((9, 129), (3, 104)), ((10, 1), (5, 0)), ((10, 35), (3, 69)), ((10, 46), (3, 109)), ((10, 50), (3, 110)), ((10, 53), (3, 108)), ((10, 66), (3, 82)), ((10, 69), (3, 80)), ((11, 1), (5, 0)), ((11, 95), (0, 113)), ((11, 105), (0, 118)), ((11, 115), (3, 119)), ((11, 126), (3, 120)), ((11, 132), (3, 124)), ((11, 135), (0, 115)), ((11, 138), (3, 125)), ((11, 141), (3, 123)), ((11, 145), (3, 126)), ((11, 148), (3, 130)), ((11, 154), (0, 132)), ((11, 157), (0, 114)), ((11, 161), (3, 136)), ((11, 164), (3, 134)), ((11, 167), (3, 137)), ((11, 170), (0, 133)), ((11, 173), (3, 140)), ((11, 176), (3, 141)), ((11, 179), (3, 142)), ((11, 186), (3, 147)), ((11, 190), (3, 148)), ((11, 194), (3, 150)), ((11, 197), (3, 152)), ((11, 200), (3, 154)), ((11, 203), (3, 155)), ((11, 206), (3, 157)), ((11, 212), (3, 161)), ((11, 215), (3, 162)), ((11, 237), (3, 165)), ((11, 240), (3, 164)), ((11, 243), (3, 166)), ((11, 258), (3, 170)), ((11, 261), (3, 171)), ((11, 269), (3, 173)), ((11, 275), (3, 174))]
def mm_cmi : List (List Nat) := [[64], [69, 70], [88, 89], [95, 96], [102, 103], [109, 110], [116, 117], [243, 244], [267, 268], [316, 317], [323, 324, 325], [335, 336, 337], [355, 356, 357], [360, 348, 349], [361, 362, 363], [390, 391, 392], [394, 395, 396], [420, 421], [427, 428], [430, 413, 414], [431, 432, 433], [439, 440, 441], [451, 452], [454, 455, 456], [463, 464, 465], [467, 468, 469], [487, 488, 489], [511, 512, 513], [519, 484, 485], [520, 521, 522], [537, 476, 477], [538, 539, 540], [542], [549, 550, 551], [558, 559, 560], [577, 578, 579], [589, 590, 591], [597, 598, 599], [608, 609, 610], [633, 634, 635], [641, 642], [657, 658, 659], [661, 662, 663], [673, 674, 675], [678, 679, 680], [700, 701, 702], [708, 709, 710], [733, 734, 735], [742, 744, 11], [750, 752, 12], [754, 755], [757, 654, 655], [746, 747], [758, 730, 731], [644, 379], [72], [319, 320], [339, 341, 0], [343, 344, 345], [359, 336, 337], [347, 348, 349], [91], [98, 89], [105, 89], [378, 379], [112, 96], [119], [127, 128], [160, 161], [202, 203], [712, 713, 714], [719, 720, 721], [724], [443, 444, 445], [665, 667, 7], [566, 488, 489], [616, 563, 564], [617, 618, 619], [130], [365, 344, 345], [366, 367, 368], [370, 373, 371], [716], [398, 401, 399], [412, 413, 414], [491, 494, 492], [501, 504, 502], [163], [458, 203], [723], [471, 472, 473], [475, 476, 477], [524, 525, 526], [528, 367, 368], [529, 531, 1], [553, 379], [246], [562, 563, 564], [567, 569, 2], [581, 559, 560], [582, 488, 489], [583, 512, 513], [584, 525, 526], [571, 203], [572, 574, 3], [576], [601, 590, 591], [602, 379], [603, 476, 477], [612, 613, 614], [621, 623, 4], [625, 627, 5], [637, 639, 6], [270], [677, 563, 564], [682, 684, 8], [687, 689, 9], [695, 697, 10], [699, 525, 526], [686, 512, 513], [764], [923, 924], [926, 927], [919, 921, 14], [915, 917, 13], [949, 951, 18], [953, 954], [945, 947, 17], [937, 939, 15], [941, 943, 16], [968, 970, 19], [976, 977], [995, 996], [991, 993, 22], [983, 985, 20], [987, 989, 21], [1002, 1003], [1013, 1015, 24], [1017, 1019, 25], [1009, 1011, 23], [1041, 1043, 27], [1037, 1039, 26], [1050, 1052, 28], [1058, 1060, 29], [1070, 1072, 31], [1066, 1068, 30], [1078, 1080, 32], [1098, 1100, 34], [1094, 1096, 33], [1110, 1112, 36], [1114, 1116, 37], [1106, 1108, 35], [1138, 1140, 39], [1134, 1136, 38], [1147, 1149, 40], [1152, 1154, 41]]
def mm_mti : List (List Nat) := [[63, 43], [315, 43], [330, 43], [334, 43], [354, 43], [389, 43], [419, 43], [426, 43], [438, 43], [450, 43], [462, 43], [482, 43], [486, 43], [518, 43], [536, 43], [548, 43], [557, 43], [588, 43], [596, 43], [607, 43], [632, 43], [648, 43], [652, 43], [656, 43], [672, 43], [707, 43], [728, 43], [732, 43], [740, 43], [745, 43], [753, 43], [756, 43], [748, 43], [643, 43], [453, 43], [429, 43], [422, 43], [71, 44], [321, 44], [318, 44], [326, 44], [338, 44], [358, 44], [342, 44], [346, 44], [350, 44], [90, 45], [411, 45], [500, 45], [510, 45], [385, 45], [97, 46], [404, 46], [507, 46], [104, 47], [407, 47], [377, 47], [111, 48], [410, 48], [499, 48], [118, 49], [711, 49], [393, 49], [466, 49], [442, 49], [736, 49], [660, 49], [664, 49], [668, 49], [565, 49], [615, 49], [129, 50], [364, 50], [715, 50], [397, 50], [415, 50], [434, 50], [369, 50], [490, 50], [446, 50], [514, 50], [620, 50], [527, 50], [162, 51], [457, 51], [722, 51], [470, 51], [478, 51], [474, 51], [523, 51], [541, 51], [532, 51], [552, 51], [245, 53], [561, 53], [580, 53], [570, 53], [575, 53], [592, 53], [600, 53], [611, 53], [624, 53], [628, 53], [636, 53], [640, 53], [269, 54], [676, 54], [681, 54], [698, 54], [685, 54], [690, 54], [703, 54], [763, 55], [925, 55], [997, 55], [955, 55], [905, 55], [910, 55], [928, 55], [922, 55], [918, 55], [914, 55], [932, 55], [940, 55], [952, 55], [948, 55], [944, 55], [936, 55], [959, 55], [963, 55], [971, 55], [967, 55], [978, 55], [1004, 55], [986, 55], [975, 55], [994, 55], [990, 55], [982, 55], [1001, 55], [1016, 55], [1020, 55], [1012, 55], [1008, 55], [1024, 55], [1028, 55], [1032, 55], [1044, 55], [1040, 55], [1036, 55], [1053, 55], [1049, 55], [1061, 55], [1057, 55], [1073, 55], [1069, 55], [1065, 55], [1081, 55], [1077, 55], [1085, 55], [1089, 55], [1101, 55], [1097, 55], [1093, 55], [1117, 55], [1113, 55], [1109, 55], [1105, 55], [1125, 55], [1129, 55], [1141, 55], [1137, 55], [1133, 55], [1150, 55], [1155, 55], [1145, 55], [380, 56], [204, 52]]
def mm_mni : List Nat := [543, 57, 544]
def mm_aci : List Nat := [718, 717, 58]
def mm_oii : List Nat := [65, 66]
def mm_vti : List (List (List Nat)) := [[[400, 399], [402, 403], [405, 406], [408, 409]], [[493, 492], [495, 492], [496, 492], [497, 498]], [[503, 502], [505, 506], [508, 502], [509, 506]], [[372, 371], [374, 371], [375, 376], [384, 371]]]
/-- which method a keeper of kind i has for a call of group g -/
def mm_vt : List (List Nat) := [[47, 52, 55, 58], [48, 48, 48, 59], [49, 53, 49, 53], [50, 50, 56, 50]]
def mm_vs (g i : Nat) : Nat := (mm_vt.getD g []).getD i 999
/-- the methods of the group as the calls name them -/
def mm_vx (g : Nat) : MethodName := ⟨"SongToBridge$Keeper", (([("kindNumber", "()I"), ("firstHeard", "()I"), ("isContent", "(II)Z"), ("lengthOf", "(II)I")] : List (String × String)).getD g ("", "")).1, (([("kindNumber", "()I"), ("firstHeard", "()I"), ("isContent", "(II)Z"), ("lengthOf", "(II)I")] : List (String × String)).getD g ("", "")).2⟩
end
section
/-! the program: of each method its instructions, by their places: (kind, operation, next place, two operands, a number, places) -/
abbrev mm_E : Type := Nat × Nat × Nat × Nat × Nat × Int × List Nat
-- 0: SongToBridge.<init>()V
def mm_p0 : List (Nat × mm_E) := [(0, (2, 0, 1, 0, 2, 0, [])), (1, (3, 7, 4, 0, 0, 0, [])), (4, (2, 0, 5, 0, 2, 0, [])), (5, (4, 0, 8, 2, 1, 0, [67])), (8, (0, 6, 9, 0, 0, 0, [])), (9, (5, 1, 12, 37, 0, 0, [])), (12, (3, 1, 15, 0, 2, 0, [])), (15, (2, 0, 16, 0, 2, 0, [])), (16, (0, 0, 17, 0, 0, 4, [])), (17, (4, 2, 20, 11, 0, 0, [85])), (20, (0, 6, 21, 0, 0, 0, [])), (21, (0, 0, 22, 0, 0, 0, [])), (22, (4, 0, 25, 3, 2, 0, [85])), (25, (0, 6, 26, 0, 0, 0, [])), (26, (5, 1, 29, 46, 0, 0, [])), (29, (3, 3, 30, 0, 2, 0, [])), (30, (0, 6, 31, 0, 0, 0, [])), (31, (0, 0, 32, 0, 0, 1, [])), (32, (4, 0, 35, 3, 3, 0, [93])), (35, (0, 6, 36, 0, 0, 0, [])), (36, (5, 1, 39, 51, 0, 0, [])), (39, (3, 3, 40, 0, 2, 0, [])), (40, (0, 6, 41, 0, 0, 0, [])), (41, (0, 0, 42, 0, 0, 2, [])), (42, (4, 0, 45, 3, 4, 0, [100])), (45, (0, 6, 46, 0, 0, 0, [])), (46, (5, 1, 49, 54, 0, 0, [])), (49, (3, 3, 50, 0, 2, 0, [])), (50, (0, 6, 51, 0, 0, 0, [])), (51, (0, 0, 52, 0, 0, 3, [])), (52, (4, 0, 55, 3, 5, 0, [107])), (55, (0, 6, 56, 0, 0, 0, [])), (56, (5, 1, 59, 57, 0, 0, [])), (59, (3, 3, 60, 0, 2, 0, [])), (60, (3, 1, 63, 1, 2, 0, [])), (63, (2, 0, 64, 0, 2, 0, [])), (64, (4, 0, 67, 4, 6, 0, [114])), (67, (0, 6, 68, 0, 0, 0, [])), (68, (2, 0, 69, 0, 2, 0, [])), (69, (3, 0, 72, 1, 2, 0, [])), (72, (0, 0, 73, 0, 0, 0, [])), (73, (3, 2, 74, 0, 2, 0, [])), (74, (5, 1, 77, 60, 1, 0, [])), (77, (3, 1, 80, 2, 2, 0, [])), (80, (2, 0, 81, 0, 2, 0, [])), (81, (4, 0, 84, 4, 6, 0, [114])), (84, (0, 6, 85, 0, 0, 0, [])), (85, (2, 0, 86, 0, 2, 0, [])), (86, (3, 0, 89, 1, 2, 0, [])), (89, (0, 0, 90, 0, 0, 0, [])), (90, (3, 2, 91, 0, 2, 0, [])), (91, (5, 1, 94, 60, 1, 0, [])), (94, (3, 1, 97, 3, 2, 0, [])), (97, (2, 0, 98, 0, 2, 0, [])), (98, (0, 0, 99, 0, 0, 0, [])), (99, (3, 1, 102, 4, 3, 0, [])), (102, (2, 0, 103, 0, 2, 0, [])), (103, (4, 0, 106, 7, 9, 0, [241])), (106, (0, 6, 107, 0, 0, 0, [])), (107, (2, 0, 108, 0, 2, 0, [])), (108, (3, 0, 111, 2, 2, 0, [])), (111, (5, 1, 114, 93, 1, 0, [])), (114, (3, 1, 117, 5, 2, 0, [])), (117, (2, 0, 118, 0, 2, 0, [])), (118, (4, 0, 121, 8, 10, 0, [265])), (121, (0, 6, 122, 0, 0, 0, [])), (122, (2, 0, 123, 0, 2, 0, [])), (123, (3, 0, 126, 2, 2, 0, [])), (126, (5, 1, 129, 105, 1, 0, [])), (129, (3, 1, 132, 6, 2, 0, [])), (132, (6, 2, 133, 0, 0, 0, []))]
-- 1: SongToBridge.letters(J)I
def mm_p1 : List (Nat × mm_E) := [(0, (2, 0, 1, 1, 1, 0, [])), (1, (5, 0, 4, 39, 1, 0, [])), (4, (2, 1, 5, 3, 0, 0, [])), (5, (2, 0, 6, 3, 0, 0, [])), (6, (1, 0, 9, 12, 3, 0, [])), (9, (0, 0, 11, 0, 0, (-102), [])), (11, (6, 0, 12, 0, 0, 0, [])), (12, (2, 0, 13, 0, 2, 0, [])), (13, (3, 0, 16, 0, 2, 0, [])), (16, (3, 0, 19, 8, 0, 0, [])), (19, (2, 0, 20, 3, 0, 0, [])), (20, (0, 2, 21, 0, 0, 0, [])), (21, (0, 0, 23, 0, 0, 16, [])), (23, (1, 1, 26, 29, 5, 0, [])), (26, (0, 0, 28, 0, 0, (-104), [])), (28, (6, 0, 29, 0, 0, 0, [])), (29, (2, 0, 30, 0, 2, 0, [])), (30, (3, 0, 33, 0, 2, 0, [])), (33, (2, 0, 34, 1, 1, 0, [])), (34, (2, 0, 35, 3, 0, 0, [])), (35, (5, 2, 38, 40, 2, 0, [])), (38, (2, 0, 39, 0, 2, 0, [])), (39, (3, 0, 42, 0, 2, 0, [])), (42, (3, 0, 45, 8, 0, 0, [])), (45, (6, 0, 46, 0, 0, 0, []))]
-- 2: SongToBridge.blank()I
def mm_p2 : List (Nat × mm_E) := [(0, (2, 0, 1, 0, 2, 0, [])), (1, (3, 0, 4, 0, 2, 0, [])), (4, (3, 0, 7, 8, 0, 0, [])), (7, (2, 1, 8, 1, 0, 0, [])), (8, (2, 0, 9, 0, 2, 0, [])), (9, (3, 0, 12, 0, 2, 0, [])), (12, (0, 0, 13, 0, 0, 0, [])), (13, (3, 1, 16, 8, 0, 0, [])), (16, (2, 0, 17, 1, 0, 0, [])), (17, (6, 0, 18, 0, 0, 0, []))]
-- 3: SongToBridge.fault()I
def mm_p3 : List (Nat × mm_E) := [(0, (2, 0, 1, 0, 2, 0, [])), (1, (3, 0, 4, 0, 2, 0, [])), (4, (5, 2, 7, 41, 0, 0, [])), (7, (6, 0, 8, 0, 0, 0, []))]
-- 4: SongToBridge.bridge()I
def mm_p4 : List (Nat × mm_E) := [(0, (2, 0, 1, 0, 2, 0, [])), (1, (3, 0, 4, 0, 2, 0, [])), (4, (5, 2, 7, 42, 0, 0, [])), (7, (1, 0, 10, 13, 1, 0, [])), (10, (0, 0, 12, 0, 0, (-103), [])), (12, (6, 0, 13, 0, 0, 0, [])), (13, (2, 0, 14, 0, 2, 0, [])), (14, (3, 0, 17, 2, 2, 0, [])), (17, (3, 0, 20, 10, 0, 0, [])), (20, (0, 0, 22, 0, 0, 9, [])), (22, (1, 1, 25, 28, 2, 0, [])), (25, (0, 0, 27, 0, 0, (-104), [])), (27, (6, 0, 28, 0, 0, 0, [])), (28, (2, 0, 29, 0, 2, 0, [])), (29, (3, 0, 32, 2, 2, 0, [])), (32, (3, 0, 35, 10, 0, 0, [])), (35, (2, 1, 36, 1, 0, 0, [])), (36, (2, 0, 37, 0, 2, 0, [])), (37, (3, 0, 40, 2, 2, 0, [])), (40, (3, 0, 43, 9, 2, 0, [])), (43, (2, 0, 44, 1, 0, 0, [])), (44, (3, 2, 45, 0, 2, 0, [])), (45, (2, 0, 46, 0, 2, 0, [])), (46, (3, 0, 49, 0, 2, 0, [])), (49, (2, 0, 50, 0, 2, 0, [])), (50, (3, 0, 53, 1, 2, 0, [])), (53, (2, 0, 54, 0, 2, 0, [])), (54, (3, 0, 57, 0, 2, 0, [])), (57, (5, 2, 60, 45, 0, 0, [])), (60, (3, 2, 61, 0, 2, 0, [])), (61, (5, 2, 64, 72, 2, 0, [])), (64, (2, 0, 65, 0, 2, 0, [])), (65, (3, 0, 68, 2, 2, 0, [])), (68, (2, 0, 69, 1, 0, 0, [])), (69, (0, 0, 70, 0, 0, 1, [])), (70, (0, 2, 71, 0, 0, 0, [])), (71, (3, 1, 74, 10, 0, 0, [])), (74, (2, 0, 75, 0, 2, 0, [])), (75, (3, 0, 78, 0, 2, 0, [])), (78, (0, 0, 79, 0, 0, 0, [])), (79, (3, 1, 82, 8, 0, 0, [])), (82, (2, 0, 83, 1, 0, 0, [])), (83, (6, 0, 84, 0, 0, 0, []))]
-- 5: SongToBridge.about(II)I
def mm_p5 : List (Nat × mm_E) := [(0, (2, 0, 1, 0, 2, 0, [])), (1, (3, 0, 4, 2, 2, 0, [])), (4, (2, 0, 5, 1, 0, 0, [])), (5, (5, 2, 8, 62, 1, 0, [])), (8, (1, 0, 11, 14, 1, 0, [])), (11, (0, 0, 13, 0, 0, (-101), [])), (13, (6, 0, 14, 0, 0, 0, [])), (14, (2, 0, 15, 2, 0, 0, [])), (15, (1, 0, 18, 24, 2, 0, [])), (18, (2, 0, 19, 2, 0, 0, [])), (19, (0, 0, 21, 0, 0, 9, [])), (21, (1, 1, 24, 27, 5, 0, [])), (24, (0, 0, 26, 0, 0, (-102), [])), (26, (6, 0, 27, 0, 0, 0, [])), (27, (2, 0, 28, 0, 2, 0, [])), (28, (3, 0, 31, 2, 2, 0, [])), (31, (3, 0, 34, 9, 2, 0, [])), (34, (2, 0, 35, 1, 0, 0, [])), (35, (3, 2, 36, 0, 2, 0, [])), (36, (2, 0, 37, 2, 0, 0, [])), (37, (5, 2, 40, 74, 1, 0, [])), (40, (6, 0, 41, 0, 0, 0, []))]
-- 6: SongToBridge.as(II)I
def mm_p6 : List (Nat × mm_E) := [(0, (2, 0, 1, 0, 2, 0, [])), (1, (3, 0, 4, 2, 2, 0, [])), (4, (2, 0, 5, 1, 0, 0, [])), (5, (5, 2, 8, 62, 1, 0, [])), (8, (1, 0, 11, 14, 1, 0, [])), (11, (0, 0, 13, 0, 0, (-101), [])), (13, (6, 0, 14, 0, 0, 0, [])), (14, (2, 0, 15, 2, 0, 0, [])), (15, (1, 0, 18, 23, 2, 0, [])), (18, (2, 0, 19, 2, 0, 0, [])), (19, (0, 0, 20, 0, 0, 3, [])), (20, (1, 1, 23, 26, 5, 0, [])), (23, (0, 0, 25, 0, 0, (-102), [])), (25, (6, 0, 26, 0, 0, 0, [])), (26, (2, 0, 27, 0, 2, 0, [])), (27, (3, 0, 30, 2, 2, 0, [])), (30, (3, 0, 33, 9, 2, 0, [])), (33, (2, 0, 34, 1, 0, 0, [])), (34, (3, 2, 35, 0, 2, 0, [])), (35, (3, 0, 38, 16, 2, 0, [])), (38, (2, 0, 39, 2, 0, 0, [])), (39, (5, 0, 42, 36, 2, 0, [])), (42, (1, 0, 45, 49, 0, 0, [])), (45, (2, 0, 46, 1, 0, 0, [])), (46, (1, 2, 49, 50, 0, 0, [])), (49, (0, 0, 50, 0, 0, (-1), [])), (50, (6, 0, 51, 0, 0, 0, []))]
-- 7: SongToBridge.change(III)I
def mm_p7 : List (Nat × mm_E) := [(0, (2, 0, 1, 0, 2, 0, [])), (1, (3, 0, 4, 2, 2, 0, [])), (4, (2, 0, 5, 1, 0, 0, [])), (5, (5, 2, 8, 62, 1, 0, [])), (8, (1, 0, 11, 18, 0, 0, [])), (11, (2, 0, 12, 3, 0, 0, [])), (12, (5, 0, 15, 35, 1, 0, [])), (15, (1, 0, 18, 21, 1, 0, [])), (18, (0, 0, 20, 0, 0, (-101), [])), (20, (6, 0, 21, 0, 0, 0, [])), (21, (2, 0, 22, 0, 2, 0, [])), (22, (3, 0, 25, 2, 2, 0, [])), (25, (3, 0, 28, 9, 2, 0, [])), (28, (2, 0, 29, 1, 0, 0, [])), (29, (3, 2, 30, 0, 2, 0, [])), (30, (2, 0, 31, 2, 0, 0, [])), (31, (5, 2, 34, 75, 1, 0, [])), (34, (2, 1, 36, 4, 0, 0, [])), (36, (2, 0, 38, 4, 0, 0, [])), (38, (0, 0, 39, 0, 0, (-1), [])), (39, (1, 1, 42, 45, 1, 0, [])), (42, (0, 0, 44, 0, 0, (-101), [])), (44, (6, 0, 45, 0, 0, 0, [])), (45, (2, 0, 46, 0, 2, 0, [])), (46, (3, 0, 49, 2, 2, 0, [])), (49, (3, 0, 52, 9, 2, 0, [])), (52, (2, 0, 53, 1, 0, 0, [])), (53, (3, 2, 54, 0, 2, 0, [])), (54, (2, 0, 55, 2, 0, 0, [])), (55, (2, 0, 56, 3, 0, 0, [])), (56, (5, 2, 59, 76, 2, 0, [])), (59, (2, 0, 61, 4, 0, 0, [])), (61, (6, 0, 62, 0, 0, 0, []))]
-- 8: SongToBridge.alike(I)I
def mm_p8 : List (Nat × mm_E) := [(0, (2, 0, 1, 0, 2, 0, [])), (1, (3, 0, 4, 2, 2, 0, [])), (4, (2, 0, 5, 1, 0, 0, [])), (5, (5, 2, 8, 62, 1, 0, [])), (8, (1, 0, 11, 22, 0, 0, [])), (11, (2, 0, 12, 0, 2, 0, [])), (12, (3, 0, 15, 2, 2, 0, [])), (15, (2, 0, 16, 1, 0, 0, [])), (16, (5, 2, 19, 64, 1, 0, [])), (19, (1, 2, 22, 24, 0, 0, [])), (22, (0, 0, 24, 0, 0, (-101), [])), (24, (6, 0, 25, 0, 0, 0, []))]
-- 9: SongToBridge.singer(IIIII)I
def mm_p9 : List (Nat × mm_E) := [(0, (2, 0, 1, 1, 0, 0, [])), (1, (5, 0, 4, 34, 1, 0, [])), (4, (1, 0, 7, 10, 1, 0, [])), (7, (0, 0, 9, 0, 0, (-101), [])), (9, (6, 0, 10, 0, 0, 0, [])), (10, (2, 0, 11, 2, 0, 0, [])), (11, (1, 0, 14, 59, 2, 0, [])), (14, (2, 0, 15, 2, 0, 0, [])), (15, (0, 0, 17, 0, 0, 63, [])), (17, (1, 1, 20, 59, 4, 0, [])), (20, (2, 0, 21, 3, 0, 0, [])), (21, (1, 0, 24, 59, 2, 0, [])), (24, (2, 0, 25, 3, 0, 0, [])), (25, (0, 0, 27, 0, 0, 30, [])), (27, (1, 1, 30, 59, 4, 0, [])), (30, (2, 0, 32, 4, 0, 0, [])), (32, (0, 0, 33, 0, 0, 1, [])), (33, (1, 1, 36, 59, 2, 0, [])), (36, (2, 0, 38, 4, 0, 0, [])), (38, (0, 0, 40, 0, 0, 6, [])), (40, (1, 1, 43, 59, 4, 0, [])), (43, (2, 0, 45, 5, 0, 0, [])), (45, (1, 0, 48, 59, 2, 0, [])), (48, (2, 0, 50, 5, 0, 0, [])), (50, (0, 0, 52, 0, 0, 99, [])), (52, (1, 1, 55, 59, 4, 0, [])), (55, (0, 0, 56, 0, 0, 1, [])), (56, (1, 2, 59, 60, 0, 0, [])), (59, (0, 0, 60, 0, 0, 0, [])), (60, (2, 1, 62, 6, 0, 0, [])), (62, (2, 0, 64, 6, 0, 0, [])), (64, (1, 0, 67, 70, 1, 0, [])), (67, (0, 0, 69, 0, 0, (-102), [])), (69, (6, 0, 70, 0, 0, 0, [])), (70, (2, 0, 71, 0, 2, 0, [])), (71, (3, 0, 74, 2, 2, 0, [])), (74, (3, 0, 77, 12, 0, 0, [])), (77, (0, 0, 78, 0, 0, 5, [])), (78, (1, 1, 81, 84, 2, 0, [])), (81, (0, 0, 83, 0, 0, (-104), [])), (83, (6, 0, 84, 0, 0, 0, [])), (84, (2, 0, 85, 0, 2, 0, [])), (85, (3, 0, 88, 2, 2, 0, [])), (88, (3, 0, 91, 12, 0, 0, [])), (91, (2, 1, 93, 7, 0, 0, [])), (93, (2, 0, 94, 0, 2, 0, [])), (94, (3, 0, 97, 2, 2, 0, [])), (97, (3, 0, 100, 11, 2, 0, [])), (100, (2, 0, 102, 7, 0, 0, [])), (102, (3, 2, 103, 0, 2, 0, [])), (103, (2, 0, 104, 1, 0, 0, [])), (104, (2, 0, 105, 2, 0, 0, [])), (105, (2, 0, 106, 3, 0, 0, [])), (106, (2, 0, 108, 4, 0, 0, [])), (108, (2, 0, 110, 5, 0, 0, [])), (110, (5, 2, 113, 84, 5, 0, [])), (113, (2, 0, 114, 0, 2, 0, [])), (114, (3, 0, 117, 2, 2, 0, [])), (117, (2, 0, 119, 7, 0, 0, [])), (119, (0, 0, 120, 0, 0, 1, [])), (120, (0, 2, 121, 0, 0, 0, [])), (121, (3, 1, 124, 12, 0, 0, [])), (124, (2, 0, 126, 7, 0, 0, [])), (126, (6, 0, 127, 0, 0, 0, []))]
-- 10: SongToBridge.told(II)I
def mm_p10 : List (Nat × mm_E) := [(0, (2, 0, 1, 0, 2, 0, [])), (1, (3, 0, 4, 2, 2, 0, [])), (4, (2, 0, 5, 1, 0, 0, [])), (5, (5, 2, 8, 63, 1, 0, [])), (8, (1, 0, 11, 14, 1, 0, [])), (11, (0, 0, 13, 0, 0, (-101), [])), (13, (6, 0, 14, 0, 0, 0, [])), (14, (2, 0, 15, 2, 0, 0, [])), (15, (1, 0, 18, 24, 2, 0, [])), (18, (2, 0, 19, 2, 0, 0, [])), (19, (0, 0, 21, 0, 0, 6, [])), (21, (1, 1, 24, 27, 5, 0, [])), (24, (0, 0, 26, 0, 0, (-102), [])), (26, (6, 0, 27, 0, 0, 0, [])), (27, (2, 0, 28, 0, 2, 0, [])), (28, (3, 0, 31, 2, 2, 0, [])), (31, (3, 0, 34, 11, 2, 0, [])), (34, (2, 0, 35, 1, 0, 0, [])), (35, (3, 2, 36, 0, 2, 0, [])), (36, (2, 0, 37, 2, 0, 0, [])), (37, (5, 2, 40, 86, 1, 0, [])), (40, (6, 0, 41, 0, 0, 0, []))]
-- 11: SongToBridge.teach(III)I
def mm_p11 : List (Nat × mm_E) := [(0, (2, 0, 1, 1, 0, 0, [])), (1, (5, 0, 4, 34, 1, 0, [])), (4, (1, 0, 7, 14, 0, 0, [])), (7, (2, 0, 8, 2, 0, 0, [])), (8, (5, 0, 11, 35, 1, 0, [])), (11, (1, 0, 14, 17, 1, 0, [])), (14, (0, 0, 16, 0, 0, (-101), [])), (16, (6, 0, 17, 0, 0, 0, [])), (17, (2, 0, 18, 3, 0, 0, [])), (18, (0, 0, 19, 0, 0, (-1), [])), (19, (1, 1, 22, 28, 2, 0, [])), (22, (2, 0, 23, 3, 0, 0, [])), (23, (0, 0, 25, 0, 0, 99, [])), (25, (1, 1, 28, 31, 5, 0, [])), (28, (0, 0, 30, 0, 0, (-102), [])), (30, (6, 0, 31, 0, 0, 0, [])), (31, (2, 0, 32, 0, 2, 0, [])), (32, (3, 0, 35, 2, 2, 0, [])), (35, (3, 0, 38, 13, 2, 0, [])), (38, (2, 0, 39, 1, 0, 0, [])), (39, (3, 2, 40, 0, 2, 0, [])), (40, (2, 0, 41, 2, 0, 0, [])), (41, (3, 2, 42, 0, 0, 0, [])), (42, (2, 1, 44, 4, 0, 0, [])), (44, (2, 0, 45, 0, 2, 0, [])), (45, (3, 0, 48, 2, 2, 0, [])), (48, (3, 0, 51, 13, 2, 0, [])), (51, (2, 0, 52, 1, 0, 0, [])), (52, (3, 2, 53, 0, 2, 0, [])), (53, (2, 0, 54, 2, 0, 0, [])), (54, (2, 0, 55, 3, 0, 0, [])), (55, (3, 3, 56, 0, 0, 0, [])), (56, (2, 0, 58, 4, 0, 0, [])), (58, (6, 0, 59, 0, 0, 0, []))]
-- 12: SongToBridge.may(II)I
def mm_p12 : List (Nat × mm_E) := [(0, (2, 0, 1, 0, 2, 0, [])), (1, (3, 0, 4, 2, 2, 0, [])), (4, (2, 0, 5, 1, 0, 0, [])), (5, (5, 2, 8, 63, 1, 0, [])), (8, (1, 0, 11, 22, 0, 0, [])), (11, (2, 0, 12, 0, 2, 0, [])), (12, (3, 0, 15, 2, 2, 0, [])), (15, (2, 0, 16, 2, 0, 0, [])), (16, (5, 2, 19, 62, 1, 0, [])), (19, (1, 0, 22, 25, 1, 0, [])), (22, (0, 0, 24, 0, 0, (-101), [])), (24, (6, 0, 25, 0, 0, 0, [])), (25, (2, 0, 26, 0, 2, 0, [])), (26, (3, 0, 29, 2, 2, 0, [])), (29, (3, 0, 32, 11, 2, 0, [])), (32, (2, 0, 33, 1, 0, 0, [])), (33, (3, 2, 34, 0, 2, 0, [])), (34, (2, 1, 35, 3, 2, 0, [])), (35, (2, 0, 36, 0, 2, 0, [])), (36, (3, 0, 39, 2, 2, 0, [])), (39, (3, 0, 42, 9, 2, 0, [])), (42, (2, 0, 43, 2, 0, 0, [])), (43, (3, 2, 44, 0, 2, 0, [])), (44, (2, 1, 46, 4, 2, 0, [])), (46, (2, 0, 48, 4, 2, 0, [])), (48, (2, 0, 49, 3, 2, 0, [])), (49, (3, 0, 52, 23, 0, 0, [])), (52, (5, 2, 55, 78, 1, 0, [])), (55, (1, 0, 58, 60, 1, 0, [])), (58, (0, 0, 59, 0, 0, 0, [])), (59, (6, 0, 60, 0, 0, 0, [])), (60, (2, 0, 62, 4, 2, 0, [])), (62, (2, 0, 63, 3, 2, 0, [])), (63, (3, 0, 66, 22, 0, 0, [])), (66, (2, 0, 67, 3, 2, 0, [])), (67, (3, 0, 70, 24, 0, 0, [])), (70, (5, 2, 73, 80, 2, 0, [])), (73, (1, 0, 76, 80, 0, 0, [])), (76, (0, 0, 77, 0, 0, 1, [])), (77, (1, 2, 80, 81, 0, 0, [])), (80, (0, 0, 81, 0, 0, 2, [])), (81, (6, 0, 82, 0, 0, 0, []))]
-- 13: SongToBridge.cross(II)I
def mm_p13 : List (Nat × mm_E) := [(0, (2, 0, 1, 0, 2, 0, [])), (1, (2, 0, 2, 1, 0, 0, [])), (2, (2, 0, 3, 2, 0, 0, [])), (3, (5, 2, 6, 12, 2, 0, [])), (6, (2, 1, 7, 3, 0, 0, [])), (7, (2, 0, 8, 3, 0, 0, [])), (8, (0, 0, 10, 0, 0, (-101), [])), (10, (1, 1, 13, 16, 1, 0, [])), (13, (0, 0, 15, 0, 0, (-101), [])), (15, (6, 0, 16, 0, 0, 0, [])), (16, (2, 0, 17, 3, 0, 0, [])), (17, (0, 0, 18, 0, 0, 1, [])), (18, (1, 1, 21, 24, 0, 0, [])), (21, (0, 0, 23, 0, 0, (-103), [])), (23, (6, 0, 24, 0, 0, 0, [])), (24, (2, 0, 25, 0, 2, 0, [])), (25, (3, 0, 28, 2, 2, 0, [])), (28, (3, 0, 31, 11, 2, 0, [])), (31, (2, 0, 32, 1, 0, 0, [])), (32, (3, 2, 33, 0, 2, 0, [])), (33, (2, 1, 35, 4, 2, 0, [])), (35, (2, 0, 37, 4, 2, 0, [])), (37, (2, 0, 38, 0, 2, 0, [])), (38, (3, 0, 41, 2, 2, 0, [])), (41, (3, 0, 44, 9, 2, 0, [])), (44, (2, 0, 45, 2, 0, 0, [])), (45, (3, 2, 46, 0, 2, 0, [])), (46, (5, 2, 49, 89, 1, 0, [])), (49, (2, 0, 51, 4, 2, 0, [])), (51, (3, 0, 54, 22, 0, 0, [])), (54, (6, 0, 55, 0, 0, 0, []))]
-- 14: SongToBridge.learn(II)I
def mm_p14 : List (Nat × mm_E) := [(0, (2, 0, 1, 0, 2, 0, [])), (1, (3, 0, 4, 2, 2, 0, [])), (4, (2, 0, 5, 1, 0, 0, [])), (5, (5, 2, 8, 63, 1, 0, [])), (8, (1, 0, 11, 18, 0, 0, [])), (11, (2, 0, 12, 2, 0, 0, [])), (12, (5, 0, 15, 35, 1, 0, [])), (15, (1, 0, 18, 21, 1, 0, [])), (18, (0, 0, 20, 0, 0, (-101), [])), (20, (6, 0, 21, 0, 0, 0, [])), (21, (2, 0, 22, 0, 2, 0, [])), (22, (3, 0, 25, 2, 2, 0, [])), (25, (3, 0, 28, 11, 2, 0, [])), (28, (2, 0, 29, 1, 0, 0, [])), (29, (3, 2, 30, 0, 2, 0, [])), (30, (2, 1, 31, 3, 2, 0, [])), (31, (2, 0, 32, 0, 2, 0, [])), (32, (3, 0, 35, 2, 2, 0, [])), (35, (3, 0, 38, 13, 2, 0, [])), (38, (2, 0, 39, 3, 2, 0, [])), (39, (3, 0, 42, 22, 0, 0, [])), (42, (3, 2, 43, 0, 2, 0, [])), (43, (2, 0, 44, 2, 0, 0, [])), (44, (3, 2, 45, 0, 0, 0, [])), (45, (2, 1, 47, 4, 0, 0, [])), (47, (2, 0, 48, 3, 2, 0, [])), (48, (2, 0, 49, 2, 0, 0, [])), (49, (5, 2, 52, 87, 1, 0, [])), (52, (1, 0, 55, 70, 1, 0, [])), (55, (2, 0, 57, 4, 0, 0, [])), (57, (0, 0, 58, 0, 0, (-1), [])), (58, (1, 1, 61, 70, 0, 0, [])), (61, (2, 0, 63, 4, 0, 0, [])), (63, (2, 0, 64, 3, 2, 0, [])), (64, (3, 0, 67, 27, 0, 0, [])), (67, (1, 1, 70, 73, 5, 0, [])), (70, (0, 0, 72, 0, 0, (-103), [])), (72, (6, 0, 73, 0, 0, 0, [])), (73, (2, 0, 74, 3, 2, 0, [])), (74, (2, 0, 75, 2, 0, 0, [])), (75, (2, 0, 77, 4, 0, 0, [])), (77, (5, 2, 80, 90, 2, 0, [])), (80, (2, 0, 81, 0, 2, 0, [])), (81, (3, 0, 84, 2, 2, 0, [])), (84, (3, 0, 87, 13, 2, 0, [])), (87, (2, 0, 88, 3, 2, 0, [])), (88, (3, 0, 91, 22, 0, 0, [])), (91, (3, 2, 92, 0, 2, 0, [])), (92, (2, 0, 93, 2, 0, 0, [])), (93, (2, 0, 95, 4, 0, 0, [])), (95, (0, 0, 96, 0, 0, 1, [])), (96, (0, 2, 97, 0, 0, 0, [])), (97, (0, 0, 99, 0, 0, 99, [])), (99, (3, 8, 102, 0, 0, 0, [])), (102, (3, 3, 103, 0, 0, 0, [])), (103, (2, 0, 104, 3, 2, 0, [])), (104, (3, 0, 107, 27, 0, 0, [])), (107, (6, 0, 108, 0, 0, 0, []))]
-- 15: SongToBridge.night()I
def mm_p15 : List (Nat × mm_E) := [(0, (0, 0, 1, 0, 0, 0, [])), (1, (2, 1, 2, 1, 0, 0, [])), (2, (0, 0, 3, 0, 0, 0, [])), (3, (2, 1, 4, 2, 0, 0, [])), (4, (2, 0, 5, 2, 0, 0, [])), (5, (2, 0, 6, 0, 2, 0, [])), (6, (3, 0, 9, 2, 2, 0, [])), (9, (3, 0, 12, 12, 0, 0, [])), (12, (1, 1, 15, 39, 3, 0, [])), (15, (2, 0, 16, 0, 2, 0, [])), (16, (3, 0, 19, 2, 2, 0, [])), (19, (3, 0, 22, 11, 2, 0, [])), (22, (2, 0, 23, 2, 0, 0, [])), (23, (3, 2, 24, 0, 2, 0, [])), (24, (5, 2, 27, 92, 0, 0, [])), (27, (1, 0, 30, 33, 0, 0, [])), (30, (2, 2, 33, 1, 0, 1, [])), (33, (2, 2, 36, 2, 0, 1, [])), (36, (1, 2, 39, 4, 0, 0, [])), (39, (2, 0, 40, 1, 0, 0, [])), (40, (6, 0, 41, 0, 0, 0, []))]
-- 16: SongToBridge.home(III)I
def mm_p16 : List (Nat × mm_E) := [(0, (2, 0, 1, 0, 2, 0, [])), (1, (3, 0, 4, 2, 2, 0, [])), (4, (2, 0, 5, 1, 0, 0, [])), (5, (5, 2, 8, 63, 1, 0, [])), (8, (1, 0, 11, 18, 0, 0, [])), (11, (2, 0, 12, 2, 0, 0, [])), (12, (5, 0, 15, 34, 1, 0, [])), (15, (1, 0, 18, 21, 1, 0, [])), (18, (0, 0, 20, 0, 0, (-101), [])), (20, (6, 0, 21, 0, 0, 0, [])), (21, (2, 0, 22, 3, 0, 0, [])), (22, (1, 0, 25, 30, 2, 0, [])), (25, (2, 0, 26, 3, 0, 0, [])), (26, (0, 0, 27, 0, 0, 1, [])), (27, (1, 1, 30, 33, 5, 0, [])), (30, (0, 0, 32, 0, 0, (-102), [])), (32, (6, 0, 33, 0, 0, 0, [])), (33, (2, 0, 34, 0, 2, 0, [])), (34, (3, 0, 37, 2, 2, 0, [])), (37, (3, 0, 40, 11, 2, 0, [])), (40, (2, 0, 41, 1, 0, 0, [])), (41, (3, 2, 42, 0, 2, 0, [])), (42, (2, 1, 44, 4, 2, 0, [])), (44, (2, 0, 45, 3, 0, 0, [])), (45, (1, 0, 48, 61, 1, 0, [])), (48, (2, 0, 49, 0, 2, 0, [])), (49, (3, 0, 52, 5, 2, 0, [])), (52, (2, 0, 54, 4, 2, 0, [])), (54, (2, 0, 55, 2, 0, 0, [])), (55, (5, 2, 58, 94, 2, 0, [])), (58, (1, 2, 61, 71, 0, 0, [])), (61, (2, 0, 62, 0, 2, 0, [])), (62, (3, 0, 65, 5, 2, 0, [])), (65, (2, 0, 67, 4, 2, 0, [])), (67, (2, 0, 68, 2, 0, 0, [])), (68, (5, 2, 71, 95, 2, 0, [])), (71, (6, 0, 72, 0, 0, 0, []))]
-- 17: SongToBridge.reach(I)I
def mm_p17 : List (Nat × mm_E) := [(0, (2, 0, 1, 0, 2, 0, [])), (1, (3, 0, 4, 2, 2, 0, [])), (4, (2, 0, 5, 1, 0, 0, [])), (5, (5, 2, 8, 63, 1, 0, [])), (8, (1, 0, 11, 14, 1, 0, [])), (11, (0, 0, 13, 0, 0, (-101), [])), (13, (6, 0, 14, 0, 0, 0, [])), (14, (2, 0, 15, 0, 2, 0, [])), (15, (3, 0, 18, 2, 2, 0, [])), (18, (3, 0, 21, 11, 2, 0, [])), (21, (2, 0, 22, 1, 0, 0, [])), (22, (3, 2, 23, 0, 2, 0, [])), (23, (2, 1, 24, 2, 2, 0, [])), (24, (2, 0, 25, 0, 2, 0, [])), (25, (3, 0, 28, 5, 2, 0, [])), (28, (2, 0, 29, 2, 2, 0, [])), (29, (2, 0, 30, 2, 2, 0, [])), (30, (3, 0, 33, 23, 0, 0, [])), (33, (5, 2, 36, 98, 2, 0, [])), (36, (6, 0, 37, 0, 0, 0, []))]
-- 18: SongToBridge.first(I)I
def mm_p18 : List (Nat × mm_E) := [(0, (2, 0, 1, 0, 2, 0, [])), (1, (3, 0, 4, 2, 2, 0, [])), (4, (2, 0, 5, 1, 0, 0, [])), (5, (5, 2, 8, 63, 1, 0, [])), (8, (1, 0, 11, 30, 0, 0, [])), (11, (2, 0, 12, 0, 2, 0, [])), (12, (3, 0, 15, 5, 2, 0, [])), (15, (2, 0, 16, 0, 2, 0, [])), (16, (3, 0, 19, 2, 2, 0, [])), (19, (3, 0, 22, 11, 2, 0, [])), (22, (2, 0, 23, 1, 0, 0, [])), (23, (3, 2, 24, 0, 2, 0, [])), (24, (5, 2, 27, 99, 1, 0, [])), (27, (1, 2, 30, 32, 0, 0, [])), (30, (0, 0, 32, 0, 0, (-101), [])), (32, (6, 0, 33, 0, 0, 0, []))]
-- 19: SongToBridge.cheapest(III)I
def mm_p19 : List (Nat × mm_E) := [(0, (2, 0, 1, 0, 2, 0, [])), (1, (3, 0, 4, 2, 2, 0, [])), (4, (2, 0, 5, 1, 0, 0, [])), (5, (5, 2, 8, 63, 1, 0, [])), (8, (1, 0, 11, 18, 0, 0, [])), (11, (2, 0, 12, 2, 0, 0, [])), (12, (5, 0, 15, 34, 1, 0, [])), (15, (1, 0, 18, 21, 1, 0, [])), (18, (0, 0, 20, 0, 0, (-101), [])), (20, (6, 0, 21, 0, 0, 0, [])), (21, (2, 0, 22, 3, 0, 0, [])), (22, (1, 0, 25, 30, 2, 0, [])), (25, (2, 0, 26, 3, 0, 0, [])), (26, (0, 0, 27, 0, 0, 1, [])), (27, (1, 1, 30, 33, 5, 0, [])), (30, (0, 0, 32, 0, 0, (-102), [])), (32, (6, 0, 33, 0, 0, 0, [])), (33, (2, 0, 34, 0, 2, 0, [])), (34, (3, 0, 37, 5, 2, 0, [])), (37, (2, 0, 38, 0, 2, 0, [])), (38, (3, 0, 41, 2, 2, 0, [])), (41, (3, 0, 44, 11, 2, 0, [])), (44, (2, 0, 45, 1, 0, 0, [])), (45, (3, 2, 46, 0, 2, 0, [])), (46, (2, 0, 47, 2, 0, 0, [])), (47, (5, 2, 50, 100, 2, 0, [])), (50, (2, 0, 51, 3, 0, 0, [])), (51, (1, 0, 54, 64, 1, 0, [])), (54, (2, 0, 55, 0, 2, 0, [])), (55, (3, 0, 58, 5, 2, 0, [])), (58, (3, 0, 61, 33, 0, 0, [])), (61, (1, 2, 64, 71, 0, 0, [])), (64, (2, 0, 65, 0, 2, 0, [])), (65, (3, 0, 68, 5, 2, 0, [])), (68, (3, 0, 71, 34, 0, 0, [])), (71, (6, 0, 72, 0, 0, 0, []))]
-- 20: SongToBridge.choir(III)I
def mm_p20 : List (Nat × mm_E) := [(0, (2, 0, 1, 1, 0, 0, [])), (1, (5, 0, 4, 34, 1, 0, [])), (4, (1, 0, 7, 14, 0, 0, [])), (7, (2, 0, 8, 2, 0, 0, [])), (8, (5, 0, 11, 34, 1, 0, [])), (11, (1, 0, 14, 17, 1, 0, [])), (14, (0, 0, 16, 0, 0, (-101), [])), (16, (6, 0, 17, 0, 0, 0, [])), (17, (2, 0, 18, 3, 0, 0, [])), (18, (1, 0, 21, 26, 2, 0, [])), (21, (2, 0, 22, 3, 0, 0, [])), (22, (0, 0, 23, 0, 0, 1, [])), (23, (1, 1, 26, 29, 5, 0, [])), (26, (0, 0, 28, 0, 0, (-102), [])), (28, (6, 0, 29, 0, 0, 0, [])), (29, (2, 0, 30, 0, 2, 0, [])), (30, (3, 0, 33, 5, 2, 0, [])), (33, (2, 0, 34, 1, 0, 0, [])), (34, (2, 0, 35, 2, 0, 0, [])), (35, (5, 2, 38, 103, 2, 0, [])), (38, (2, 1, 40, 4, 0, 0, [])), (40, (2, 0, 41, 3, 0, 0, [])), (41, (1, 0, 44, 52, 1, 0, [])), (44, (2, 0, 46, 4, 0, 0, [])), (46, (5, 0, 49, 33, 1, 0, [])), (49, (1, 2, 52, 54, 0, 0, [])), (52, (2, 0, 54, 4, 0, 0, [])), (54, (6, 0, 55, 0, 0, 0, []))]
-- 21: SongToBridge.heard(I)I
def mm_p21 : List (Nat × mm_E) := [(0, (2, 0, 1, 0, 2, 0, [])), (1, (3, 0, 4, 2, 2, 0, [])), (4, (2, 0, 5, 1, 0, 0, [])), (5, (5, 2, 8, 62, 1, 0, [])), (8, (1, 0, 11, 14, 1, 0, [])), (11, (0, 0, 13, 0, 0, (-101), [])), (13, (6, 0, 14, 0, 0, 0, [])), (14, (2, 0, 15, 0, 2, 0, [])), (15, (3, 0, 18, 2, 2, 0, [])), (18, (3, 0, 21, 15, 0, 0, [])), (21, (0, 0, 23, 0, 0, 10, [])), (23, (1, 1, 26, 29, 2, 0, [])), (26, (0, 0, 28, 0, 0, (-104), [])), (28, (6, 0, 29, 0, 0, 0, [])), (29, (2, 0, 30, 0, 2, 0, [])), (30, (3, 0, 33, 2, 2, 0, [])), (33, (3, 0, 36, 14, 2, 0, [])), (36, (2, 0, 37, 0, 2, 0, [])), (37, (3, 0, 40, 2, 2, 0, [])), (40, (3, 0, 43, 15, 0, 0, [])), (43, (2, 0, 44, 1, 0, 0, [])), (44, (3, 3, 45, 0, 0, 0, [])), (45, (2, 0, 46, 0, 2, 0, [])), (46, (3, 0, 49, 2, 2, 0, [])), (49, (0, 6, 50, 0, 0, 0, [])), (50, (3, 0, 53, 15, 0, 0, [])), (53, (0, 0, 54, 0, 0, 1, [])), (54, (0, 2, 55, 0, 0, 0, [])), (55, (3, 1, 58, 15, 0, 0, [])), (58, (2, 0, 59, 0, 2, 0, [])), (59, (3, 0, 62, 2, 2, 0, [])), (62, (3, 0, 65, 15, 0, 0, [])), (65, (6, 0, 66, 0, 0, 0, []))]
-- 22: SongToBridge.hush()I
def mm_p22 : List (Nat × mm_E) := [(0, (2, 0, 1, 0, 2, 0, [])), (1, (3, 0, 4, 2, 2, 0, [])), (4, (3, 0, 7, 15, 0, 0, [])), (7, (2, 1, 8, 1, 0, 0, [])), (8, (2, 0, 9, 0, 2, 0, [])), (9, (3, 0, 12, 2, 2, 0, [])), (12, (0, 0, 13, 0, 0, 0, [])), (13, (3, 1, 16, 15, 0, 0, [])), (16, (2, 0, 17, 1, 0, 0, [])), (17, (6, 0, 18, 0, 0, 0, []))]
-- 23: SongToBridge.who()I
def mm_p23 : List (Nat × mm_E) := [(0, (2, 0, 1, 0, 2, 0, [])), (1, (3, 0, 4, 2, 2, 0, [])), (4, (5, 2, 7, 66, 0, 0, [])), (7, (1, 0, 10, 20, 0, 0, [])), (10, (2, 0, 11, 0, 2, 0, [])), (11, (3, 0, 14, 2, 2, 0, [])), (14, (5, 2, 17, 67, 0, 0, [])), (17, (1, 2, 20, 21, 0, 0, [])), (20, (0, 0, 21, 0, 0, 0, [])), (21, (6, 0, 22, 0, 0, 0, []))]
-- 24: SongToBridge.wander(IIII)I
def mm_p24 : List (Nat × mm_E) := [(0, (2, 0, 1, 0, 2, 0, [])), (1, (3, 0, 4, 2, 2, 0, [])), (4, (2, 0, 5, 1, 0, 0, [])), (5, (5, 2, 8, 63, 1, 0, [])), (8, (1, 0, 11, 14, 1, 0, [])), (11, (0, 0, 13, 0, 0, (-101), [])), (13, (6, 0, 14, 0, 0, 0, [])), (14, (2, 0, 15, 2, 0, 0, [])), (15, (0, 0, 16, 0, 0, 1, [])), (16, (1, 1, 19, 40, 2, 0, [])), (19, (2, 0, 20, 2, 0, 0, [])), (20, (0, 0, 22, 0, 0, 60, [])), (22, (1, 1, 25, 40, 4, 0, [])), (25, (2, 0, 26, 3, 0, 0, [])), (26, (1, 0, 29, 40, 2, 0, [])), (29, (2, 0, 31, 4, 0, 0, [])), (31, (1, 0, 34, 40, 2, 0, [])), (34, (2, 0, 36, 4, 0, 0, [])), (36, (0, 0, 37, 0, 0, 3, [])), (37, (1, 1, 40, 43, 5, 0, [])), (40, (0, 0, 42, 0, 0, (-102), [])), (42, (6, 0, 43, 0, 0, 0, [])), (43, (2, 0, 44, 0, 2, 0, [])), (44, (3, 0, 47, 6, 2, 0, [])), (47, (2, 0, 48, 0, 2, 0, [])), (48, (3, 0, 51, 2, 2, 0, [])), (51, (3, 0, 54, 11, 2, 0, [])), (54, (2, 0, 55, 1, 0, 0, [])), (55, (3, 2, 56, 0, 2, 0, [])), (56, (2, 0, 57, 3, 0, 0, [])), (57, (5, 2, 60, 106, 2, 0, [])), (60, (0, 0, 61, 0, 0, 0, [])), (61, (2, 1, 63, 5, 0, 0, [])), (63, (2, 0, 65, 5, 0, 0, [])), (65, (2, 0, 66, 2, 0, 0, [])), (66, (1, 1, 69, 82, 3, 0, [])), (69, (2, 0, 70, 0, 2, 0, [])), (70, (3, 0, 73, 6, 2, 0, [])), (73, (5, 2, 76, 107, 0, 0, [])), (76, (2, 2, 79, 5, 0, 1, [])), (79, (1, 2, 82, 63, 0, 0, [])), (82, (2, 0, 83, 0, 2, 0, [])), (83, (3, 0, 86, 6, 2, 0, [])), (86, (2, 0, 88, 4, 0, 0, [])), (88, (5, 2, 91, 111, 1, 0, [])), (91, (6, 0, 92, 0, 0, 0, []))]
-- 25: SongToBridge.image()I
def mm_p25 : List (Nat × mm_E) := [(0, (2, 0, 1, 0, 2, 0, [])), (1, (3, 0, 4, 3, 2, 0, [])), (4, (2, 0, 5, 0, 2, 0, [])), (5, (3, 0, 8, 2, 2, 0, [])), (8, (5, 2, 11, 61, 1, 0, [])), (11, (2, 0, 12, 0, 2, 0, [])), (12, (0, 0, 13, 0, 0, 1, [])), (13, (3, 1, 16, 4, 3, 0, [])), (16, (2, 0, 17, 0, 2, 0, [])), (17, (3, 0, 20, 2, 2, 0, [])), (20, (3, 0, 23, 12, 0, 0, [])), (23, (6, 0, 24, 0, 0, 0, []))]
-- 26: SongToBridge.restore()I
def mm_p26 : List (Nat × mm_E) := [(0, (2, 0, 1, 0, 2, 0, [])), (1, (3, 0, 4, 4, 3, 0, [])), (4, (1, 0, 7, 10, 1, 0, [])), (7, (0, 0, 9, 0, 0, (-103), [])), (9, (6, 0, 10, 0, 0, 0, [])), (10, (2, 0, 11, 0, 2, 0, [])), (11, (3, 0, 14, 2, 2, 0, [])), (14, (2, 0, 15, 0, 2, 0, [])), (15, (3, 0, 18, 3, 2, 0, [])), (18, (5, 2, 21, 61, 1, 0, [])), (21, (2, 0, 22, 0, 2, 0, [])), (22, (3, 0, 25, 2, 2, 0, [])), (25, (3, 0, 28, 12, 0, 0, [])), (28, (6, 0, 29, 0, 0, 0, []))]
-- 27: SongToBridge.count(I)I
def mm_p27 : List (Nat × mm_E) := [(0, (2, 0, 1, 1, 0, 0, [])), (1, (1, 3, 36, 76, 0, 0, [36, 44, 52, 60, 68])), (36, (2, 0, 37, 0, 2, 0, [])), (37, (3, 0, 40, 2, 2, 0, [])), (40, (3, 0, 43, 10, 0, 0, [])), (43, (6, 0, 44, 0, 0, 0, [])), (44, (2, 0, 45, 0, 2, 0, [])), (45, (3, 0, 48, 2, 2, 0, [])), (48, (3, 0, 51, 12, 0, 0, [])), (51, (6, 0, 52, 0, 0, 0, [])), (52, (2, 0, 53, 0, 2, 0, [])), (53, (3, 0, 56, 2, 2, 0, [])), (56, (5, 2, 59, 65, 0, 0, [])), (59, (6, 0, 60, 0, 0, 0, [])), (60, (2, 0, 61, 0, 2, 0, [])), (61, (3, 0, 64, 2, 2, 0, [])), (64, (3, 0, 67, 15, 0, 0, [])), (67, (6, 0, 68, 0, 0, 0, [])), (68, (2, 0, 69, 0, 2, 0, [])), (69, (3, 0, 72, 0, 2, 0, [])), (72, (3, 0, 75, 8, 0, 0, [])), (75, (6, 0, 76, 0, 0, 0, [])), (76, (0, 0, 78, 0, 0, (-102), [])), (78, (6, 0, 79, 0, 0, 0, []))]
-- 28: SongToBridge.digest()J
def mm_p28 : List (Nat × mm_E) := [(0, (2, 0, 1, 0, 2, 0, [])), (1, (0, 1, 4, 741, 0, 599, [])), (4, (5, 2, 7, 29, 1, 0, [])), (7, (2, 1, 8, 1, 1, 0, [])), (8, (2, 0, 9, 0, 2, 0, [])), (9, (2, 0, 10, 1, 1, 0, [])), (10, (5, 2, 13, 30, 1, 0, [])), (13, (2, 1, 14, 1, 1, 0, [])), (14, (0, 0, 15, 0, 0, 0, [])), (15, (2, 1, 16, 3, 0, 0, [])), (16, (2, 0, 17, 3, 0, 0, [])), (17, (0, 0, 19, 0, 0, 6, [])), (19, (1, 1, 22, 44, 3, 0, [])), (22, (2, 0, 23, 1, 1, 0, [])), (23, (2, 0, 24, 0, 2, 0, [])), (24, (3, 0, 27, 2, 2, 0, [])), (27, (3, 0, 30, 13, 2, 0, [])), (30, (2, 0, 31, 3, 0, 0, [])), (31, (3, 2, 32, 0, 2, 0, [])), (32, (0, 0, 34, 0, 0, 6, [])), (34, (5, 0, 37, 31, 3, 0, [])), (37, (2, 1, 38, 1, 1, 0, [])), (38, (2, 2, 41, 3, 0, 1, [])), (41, (1, 2, 44, 16, 0, 0, [])), (44, (2, 0, 45, 1, 1, 0, [])), (45, (2, 0, 46, 0, 2, 0, [])), (46, (3, 0, 49, 2, 2, 0, [])), (49, (3, 0, 52, 14, 2, 0, [])), (52, (2, 0, 53, 0, 2, 0, [])), (53, (3, 0, 56, 2, 2, 0, [])), (56, (3, 0, 59, 15, 0, 0, [])), (59, (5, 0, 62, 31, 3, 0, [])), (62, (2, 1, 63, 1, 1, 0, [])), (63, (2, 0, 64, 1, 1, 0, [])), (64, (2, 0, 65, 0, 2, 0, [])), (65, (5, 2, 68, 23, 0, 0, [])), (68, (5, 0, 71, 32, 2, 0, [])), (71, (2, 1, 72, 1, 1, 0, [])), (72, (2, 0, 73, 0, 2, 0, [])), (73, (3, 0, 76, 5, 2, 0, [])), (76, (0, 0, 77, 0, 0, 0, [])), (77, (0, 0, 78, 0, 0, 5, [])), (78, (5, 2, 81, 103, 2, 0, [])), (81, (2, 1, 82, 3, 0, 0, [])), (82, (2, 0, 83, 1, 1, 0, [])), (83, (2, 0, 84, 3, 0, 0, [])), (84, (5, 0, 87, 33, 1, 0, [])), (87, (5, 0, 90, 32, 2, 0, [])), (90, (2, 1, 91, 1, 1, 0, [])), (91, (2, 0, 92, 1, 1, 0, [])), (92, (2, 0, 93, 3, 0, 0, [])), (93, (5, 0, 96, 32, 2, 0, [])), (96, (2, 1, 97, 1, 1, 0, [])), (97, (2, 0, 98, 1, 1, 0, [])), (98, (2, 0, 99, 0, 2, 0, [])), (99, (3, 0, 102, 0, 2, 0, [])), (102, (3, 0, 105, 7, 2, 0, [])), (105, (2, 0, 106, 0, 2, 0, [])), (106, (3, 0, 109, 0, 2, 0, [])), (109, (3, 0, 112, 8, 0, 0, [])), (112, (5, 0, 115, 31, 3, 0, [])), (115, (2, 1, 116, 1, 1, 0, [])), (116, (0, 0, 117, 0, 0, 0, [])), (117, (2, 1, 119, 4, 0, 0, [])), (119, (2, 0, 121, 4, 0, 0, [])), (121, (0, 0, 122, 0, 0, 4, [])), (122, (1, 1, 125, 142, 4, 0, [])), (125, (2, 0, 126, 1, 1, 0, [])), (126, (2, 0, 127, 0, 2, 0, [])), (127, (2, 0, 129, 4, 0, 0, [])), (129, (5, 2, 132, 27, 1, 0, [])), (132, (5, 0, 135, 32, 2, 0, [])), (135, (2, 1, 136, 1, 1, 0, [])), (136, (2, 2, 139, 4, 0, 1, [])), (139, (1, 2, 142, 119, 0, 0, [])), (142, (2, 0, 143, 1, 1, 0, [])), (143, (6, 1, 144, 0, 0, 0, []))]
-- 29: SongToBridge.mixBridges(J)J
def mm_p29 : List (Nat × mm_E) := [(0, (2, 0, 1, 1, 1, 0, [])), (1, (2, 1, 2, 3, 1, 0, [])), (2, (0, 0, 3, 0, 0, 0, [])), (3, (2, 1, 5, 5, 0, 0, [])), (5, (2, 0, 7, 5, 0, 0, [])), (7, (2, 0, 8, 0, 2, 0, [])), (8, (3, 0, 11, 2, 2, 0, [])), (11, (3, 0, 14, 10, 0, 0, [])), (14, (1, 1, 17, 73, 3, 0, [])), (17, (0, 0, 18, 0, 0, 0, [])), (18, (2, 1, 20, 6, 0, 0, [])), (20, (2, 0, 22, 6, 0, 0, [])), (22, (0, 0, 24, 0, 0, 9, [])), (24, (1, 1, 27, 53, 4, 0, [])), (27, (2, 0, 28, 3, 1, 0, [])), (28, (2, 0, 29, 0, 2, 0, [])), (29, (3, 0, 32, 2, 2, 0, [])), (32, (3, 0, 35, 9, 2, 0, [])), (35, (2, 0, 37, 5, 0, 0, [])), (37, (3, 2, 38, 0, 2, 0, [])), (38, (2, 0, 40, 6, 0, 0, [])), (40, (5, 2, 43, 74, 1, 0, [])), (43, (5, 0, 46, 32, 2, 0, [])), (46, (2, 1, 47, 3, 1, 0, [])), (47, (2, 2, 50, 6, 0, 1, [])), (50, (1, 2, 53, 20, 0, 0, [])), (53, (2, 0, 54, 3, 1, 0, [])), (54, (2, 0, 55, 0, 2, 0, [])), (55, (3, 0, 58, 2, 2, 0, [])), (58, (2, 0, 60, 5, 0, 0, [])), (60, (5, 2, 63, 64, 1, 0, [])), (63, (5, 0, 66, 32, 2, 0, [])), (66, (2, 1, 67, 3, 1, 0, [])), (67, (2, 2, 70, 5, 0, 1, [])), (70, (1, 2, 73, 5, 0, 0, [])), (73, (2, 0, 74, 3, 1, 0, [])), (74, (6, 1, 75, 0, 0, 0, []))]
-- 30: SongToBridge.mixSingers(J)J
def mm_p30 : List (Nat × mm_E) := [(0, (2, 0, 1, 1, 1, 0, [])), (1, (2, 1, 2, 3, 1, 0, [])), (2, (0, 0, 3, 0, 0, 0, [])), (3, (2, 1, 5, 5, 0, 0, [])), (5, (2, 0, 7, 5, 0, 0, [])), (7, (2, 0, 8, 0, 2, 0, [])), (8, (3, 0, 11, 2, 2, 0, [])), (11, (3, 0, 14, 12, 0, 0, [])), (14, (1, 1, 17, 130, 3, 0, [])), (17, (2, 0, 18, 0, 2, 0, [])), (18, (3, 0, 21, 2, 2, 0, [])), (21, (3, 0, 24, 11, 2, 0, [])), (24, (2, 0, 26, 5, 0, 0, [])), (26, (3, 2, 27, 0, 2, 0, [])), (27, (2, 1, 29, 6, 2, 0, [])), (29, (0, 0, 30, 0, 0, 0, [])), (30, (2, 1, 32, 7, 0, 0, [])), (32, (2, 0, 34, 7, 0, 0, [])), (34, (0, 0, 36, 0, 0, 6, [])), (36, (1, 1, 39, 57, 4, 0, [])), (39, (2, 0, 40, 3, 1, 0, [])), (40, (2, 0, 42, 6, 2, 0, [])), (42, (2, 0, 44, 7, 0, 0, [])), (44, (5, 2, 47, 86, 1, 0, [])), (47, (5, 0, 50, 32, 2, 0, [])), (50, (2, 1, 51, 3, 1, 0, [])), (51, (2, 2, 54, 7, 0, 1, [])), (54, (1, 2, 57, 32, 0, 0, [])), (57, (2, 0, 58, 3, 1, 0, [])), (58, (2, 0, 59, 0, 2, 0, [])), (59, (3, 0, 62, 5, 2, 0, [])), (62, (2, 0, 64, 6, 2, 0, [])), (64, (2, 0, 66, 6, 2, 0, [])), (66, (3, 0, 69, 23, 0, 0, [])), (69, (5, 2, 72, 98, 2, 0, [])), (72, (5, 0, 75, 32, 2, 0, [])), (75, (2, 1, 76, 3, 1, 0, [])), (76, (2, 0, 77, 3, 1, 0, [])), (77, (2, 0, 78, 0, 2, 0, [])), (78, (3, 0, 81, 5, 2, 0, [])), (81, (2, 0, 83, 6, 2, 0, [])), (83, (5, 2, 86, 99, 1, 0, [])), (86, (5, 0, 89, 32, 2, 0, [])), (89, (2, 1, 90, 3, 1, 0, [])), (90, (2, 0, 91, 0, 2, 0, [])), (91, (3, 0, 94, 5, 2, 0, [])), (94, (2, 0, 96, 6, 2, 0, [])), (96, (0, 0, 97, 0, 0, 5, [])), (97, (5, 2, 100, 100, 2, 0, [])), (100, (2, 0, 101, 3, 1, 0, [])), (101, (2, 0, 102, 0, 2, 0, [])), (102, (3, 0, 105, 5, 2, 0, [])), (105, (3, 0, 108, 33, 0, 0, [])), (108, (5, 0, 111, 32, 2, 0, [])), (111, (2, 1, 112, 3, 1, 0, [])), (112, (2, 0, 113, 3, 1, 0, [])), (113, (2, 0, 114, 0, 2, 0, [])), (114, (3, 0, 117, 5, 2, 0, [])), (117, (3, 0, 120, 34, 0, 0, [])), (120, (5, 0, 123, 32, 2, 0, [])), (123, (2, 1, 124, 3, 1, 0, [])), (124, (2, 2, 127, 5, 0, 1, [])), (127, (1, 2, 130, 5, 0, 0, [])), (130, (2, 0, 131, 3, 1, 0, [])), (131, (6, 1, 132, 0, 0, 0, []))]
-- 31: SongToBridge.mixRow(J[II)J
def mm_p31 : List (Nat × mm_E) := [(0, (2, 0, 1, 0, 1, 0, [])), (1, (2, 1, 3, 4, 1, 0, [])), (3, (0, 0, 4, 0, 0, 0, [])), (4, (2, 1, 6, 6, 0, 0, [])), (6, (2, 0, 8, 6, 0, 0, [])), (8, (2, 0, 9, 3, 0, 0, [])), (9, (1, 1, 12, 36, 3, 0, [])), (12, (2, 0, 14, 6, 0, 0, [])), (14, (2, 0, 15, 2, 2, 0, [])), (15, (3, 4, 16, 0, 0, 0, [])), (16, (1, 1, 19, 36, 3, 0, [])), (19, (2, 0, 21, 4, 1, 0, [])), (21, (2, 0, 22, 2, 2, 0, [])), (22, (2, 0, 24, 6, 0, 0, [])), (24, (3, 2, 25, 0, 0, 0, [])), (25, (5, 0, 28, 32, 2, 0, [])), (28, (2, 1, 30, 4, 1, 0, [])), (30, (2, 2, 33, 6, 0, 1, [])), (33, (1, 2, 36, 6, 0, 0, [])), (36, (2, 0, 38, 4, 1, 0, [])), (38, (6, 1, 39, 0, 0, 0, []))]
-- 32: SongToBridge.mix(JI)J
def mm_p32 : List (Nat × mm_E) := [(0, (0, 1, 3, 749, 0, 31, [])), (3, (2, 0, 4, 0, 1, 0, [])), (4, (0, 3, 5, 0, 1, 0, [])), (5, (2, 0, 6, 2, 0, 0, [])), (6, (0, 5, 7, 0, 0, 0, [])), (7, (0, 3, 8, 0, 0, 0, [])), (8, (6, 1, 9, 0, 0, 0, []))]
-- 33: SongToBridge.choirSize(I)I
def mm_p33 : List (Nat × mm_E) := [(0, (2, 0, 1, 0, 0, 0, [])), (1, (0, 0, 2, 0, 0, (-1), [])), (2, (1, 1, 5, 9, 1, 0, [])), (5, (0, 0, 6, 0, 0, (-1), [])), (6, (1, 2, 9, 13, 0, 0, [])), (9, (2, 0, 10, 0, 0, 0, [])), (10, (5, 0, 13, 176, 1, 0, [])), (13, (6, 0, 14, 0, 0, 0, []))]
-- 34: SongToBridge.isPlace(I)Z
def mm_p34 : List (Nat × mm_E) := [(0, (2, 0, 1, 0, 0, 0, [])), (1, (1, 0, 4, 14, 2, 0, [])), (4, (2, 0, 5, 0, 0, 0, [])), (5, (0, 0, 7, 0, 0, 6, [])), (7, (1, 1, 10, 14, 3, 0, [])), (10, (0, 0, 11, 0, 0, 1, [])), (11, (1, 2, 14, 15, 0, 0, [])), (14, (0, 0, 15, 0, 0, 0, [])), (15, (6, 0, 16, 0, 0, 0, []))]
-- 35: SongToBridge.isVerse(I)Z
def mm_p35 : List (Nat × mm_E) := [(0, (2, 0, 1, 0, 0, 0, [])), (1, (1, 0, 4, 14, 2, 0, [])), (4, (2, 0, 5, 0, 0, 0, [])), (5, (0, 0, 7, 0, 0, 6, [])), (7, (1, 1, 10, 14, 3, 0, [])), (10, (0, 0, 11, 0, 0, 1, [])), (11, (1, 2, 14, 15, 0, 0, [])), (14, (0, 0, 15, 0, 0, 0, [])), (15, (6, 0, 16, 0, 0, 0, []))]
-- 36: SongToBridge.isOfKind(LSongToBridge$Keeper;I)Z
def mm_p36 : List (Nat × mm_E) := [(0, (2, 0, 1, 1, 0, 0, [])), (1, (1, 3, 28, 43, 0, 1, [28, 33, 38])), (28, (2, 0, 29, 0, 2, 0, [])), (29, (3, 6, 32, 3, 93, 0, [])), (32, (6, 0, 33, 0, 0, 0, [])), (33, (2, 0, 34, 0, 2, 0, [])), (34, (3, 6, 37, 4, 100, 0, [])), (37, (6, 0, 38, 0, 0, 0, [])), (38, (2, 0, 39, 0, 2, 0, [])), (39, (3, 6, 42, 5, 107, 0, [])), (42, (6, 0, 43, 0, 0, 0, [])), (43, (0, 0, 44, 0, 0, 1, [])), (44, (6, 0, 45, 0, 0, 0, []))]
-- 37: SongToBridge$Page.<init>()V
def mm_p37 : List (Nat × mm_E) := [(0, (2, 0, 1, 0, 2, 0, [])), (1, (3, 7, 4, 0, 0, 0, [])), (4, (2, 0, 5, 0, 2, 0, [])), (5, (0, 0, 7, 0, 0, 16, [])), (7, (4, 1, 9, 10, 0, 0, [])), (9, (3, 1, 12, 7, 2, 0, [])), (12, (2, 0, 13, 0, 2, 0, [])), (13, (0, 0, 14, 0, 0, 0, [])), (14, (3, 1, 17, 8, 0, 0, [])), (17, (6, 2, 18, 0, 0, 0, []))]
-- 38: SongToBridge$Page.codeAt(JI)I
def mm_p38 : List (Nat × mm_E) := [(0, (2, 0, 1, 0, 1, 0, [])), (1, (0, 0, 3, 0, 0, 8, [])), (3, (2, 0, 4, 2, 0, 0, [])), (4, (0, 2, 5, 0, 2, 0, [])), (5, (0, 4, 6, 0, 2, 0, [])), (6, (0, 1, 9, 322, 0, 255, [])), (9, (0, 3, 10, 0, 2, 0, [])), (10, (0, 5, 11, 0, 1, 0, [])), (11, (6, 0, 12, 0, 0, 0, []))]
-- 39: SongToBridge$Page.lettersIn(J)I
def mm_p39 : List (Nat × mm_E) := [(0, (0, 0, 1, 0, 0, 0, [])), (1, (2, 1, 2, 2, 0, 0, [])), (2, (0, 0, 3, 0, 0, 0, [])), (3, (2, 1, 4, 3, 0, 0, [])), (4, (2, 0, 5, 3, 0, 0, [])), (5, (0, 0, 7, 0, 0, 8, [])), (7, (1, 1, 10, 62, 3, 0, [])), (10, (2, 0, 11, 0, 1, 0, [])), (11, (2, 0, 12, 3, 0, 0, [])), (12, (5, 0, 15, 38, 2, 0, [])), (15, (2, 1, 17, 4, 0, 0, [])), (17, (2, 0, 18, 2, 0, 0, [])), (18, (2, 0, 19, 3, 0, 0, [])), (19, (1, 1, 22, 26, 3, 0, [])), (22, (0, 0, 23, 0, 0, 1, [])), (23, (1, 2, 26, 27, 0, 0, [])), (26, (0, 0, 27, 0, 0, 0, [])), (27, (2, 1, 29, 5, 0, 0, [])), (29, (2, 0, 31, 4, 0, 0, [])), (31, (0, 0, 33, 0, 0, 126, [])), (33, (1, 1, 36, 46, 4, 0, [])), (36, (2, 0, 38, 5, 0, 0, [])), (38, (1, 0, 41, 48, 0, 0, [])), (41, (2, 0, 43, 4, 0, 0, [])), (43, (1, 0, 46, 48, 0, 0, [])), (46, (0, 0, 47, 0, 0, (-1), [])), (47, (6, 0, 48, 0, 0, 0, [])), (48, (2, 0, 50, 4, 0, 0, [])), (50, (1, 0, 53, 56, 0, 0, [])), (53, (2, 2, 56, 2, 0, 1, [])), (56, (2, 2, 59, 3, 0, 1, [])), (59, (1, 2, 62, 4, 0, 0, [])), (62, (2, 0, 63, 2, 0, 0, [])), (63, (6, 0, 64, 0, 0, 0, []))]
-- 40: SongToBridge$Page.append(JI)V
def mm_p40 : List (Nat × mm_E) := [(0, (0, 0, 1, 0, 0, 0, [])), (1, (2, 1, 3, 4, 0, 0, [])), (3, (2, 0, 5, 4, 0, 0, [])), (5, (2, 0, 6, 3, 0, 0, [])), (6, (1, 1, 9, 49, 3, 0, [])), (9, (2, 0, 10, 0, 2, 0, [])), (10, (3, 0, 13, 8, 0, 0, [])), (13, (0, 0, 15, 0, 0, 16, [])), (15, (1, 1, 18, 49, 3, 0, [])), (18, (2, 0, 19, 0, 2, 0, [])), (19, (3, 0, 22, 7, 2, 0, [])), (22, (2, 0, 23, 0, 2, 0, [])), (23, (3, 0, 26, 8, 0, 0, [])), (26, (2, 0, 27, 1, 1, 0, [])), (27, (2, 0, 29, 4, 0, 0, [])), (29, (5, 0, 32, 38, 2, 0, [])), (32, (3, 3, 33, 0, 0, 0, [])), (33, (2, 0, 34, 0, 2, 0, [])), (34, (0, 6, 35, 0, 0, 0, [])), (35, (3, 0, 38, 8, 0, 0, [])), (38, (0, 0, 39, 0, 0, 1, [])), (39, (0, 2, 40, 0, 0, 0, [])), (40, (3, 1, 43, 8, 0, 0, [])), (43, (2, 2, 46, 4, 0, 1, [])), (46, (1, 2, 49, 3, 0, 0, [])), (49, (6, 2, 50, 0, 0, 0, []))]
-- 41: SongToBridge$Page.firstFault()I
def mm_p41 : List (Nat × mm_E) := [(0, (0, 0, 1, 0, 0, 0, [])), (1, (2, 1, 2, 1, 0, 0, [])), (2, (2, 0, 3, 1, 0, 0, [])), (3, (2, 0, 4, 0, 2, 0, [])), (4, (3, 0, 7, 8, 0, 0, [])), (7, (1, 1, 10, 26, 3, 0, [])), (10, (2, 0, 11, 0, 2, 0, [])), (11, (2, 0, 12, 1, 0, 0, [])), (12, (5, 2, 15, 43, 1, 0, [])), (15, (1, 0, 18, 20, 1, 0, [])), (18, (2, 0, 19, 1, 0, 0, [])), (19, (6, 0, 20, 0, 0, 0, [])), (20, (2, 2, 23, 1, 0, 1, [])), (23, (1, 2, 26, 2, 0, 0, [])), (26, (2, 0, 27, 0, 2, 0, [])), (27, (3, 0, 30, 8, 0, 0, [])), (30, (6, 0, 31, 0, 0, 0, []))]
-- 42: SongToBridge$Page.isBridge()Z
def mm_p42 : List (Nat × mm_E) := [(0, (2, 0, 1, 0, 2, 0, [])), (1, (3, 0, 4, 8, 0, 0, [])), (4, (2, 0, 5, 0, 2, 0, [])), (5, (5, 2, 8, 44, 0, 0, [])), (8, (1, 1, 11, 26, 5, 0, [])), (11, (2, 0, 12, 0, 2, 0, [])), (12, (5, 2, 15, 41, 0, 0, [])), (15, (2, 0, 16, 0, 2, 0, [])), (16, (3, 0, 19, 8, 0, 0, [])), (19, (1, 1, 22, 26, 1, 0, [])), (22, (0, 0, 23, 0, 0, 1, [])), (23, (1, 2, 26, 27, 0, 0, [])), (26, (0, 0, 27, 0, 0, 0, [])), (27, (6, 0, 28, 0, 0, 0, []))]
-- 43: SongToBridge$Page.fitsAt(I)Z
def mm_p43 : List (Nat × mm_E) := [(0, (2, 0, 1, 0, 2, 0, [])), (1, (3, 0, 4, 7, 2, 0, [])), (4, (2, 0, 5, 1, 0, 0, [])), (5, (3, 2, 6, 0, 0, 0, [])), (6, (2, 1, 7, 2, 0, 0, [])), (7, (2, 0, 8, 1, 0, 0, [])), (8, (0, 0, 9, 0, 0, 2, [])), (9, (1, 1, 12, 54, 3, 0, [])), (12, (2, 0, 13, 2, 0, 0, [])), (13, (0, 0, 15, 0, 0, 48, [])), (15, (1, 1, 18, 28, 2, 0, [])), (18, (2, 0, 19, 2, 0, 0, [])), (19, (0, 0, 21, 0, 0, 54, [])), (21, (1, 1, 24, 28, 3, 0, [])), (24, (0, 0, 25, 0, 0, 1, [])), (25, (1, 2, 28, 29, 0, 0, [])), (28, (0, 0, 29, 0, 0, 0, [])), (29, (2, 1, 30, 3, 0, 0, [])), (30, (2, 0, 31, 3, 0, 0, [])), (31, (1, 0, 34, 52, 0, 0, [])), (34, (2, 0, 35, 1, 0, 0, [])), (35, (1, 0, 38, 48, 0, 0, [])), (38, (2, 0, 39, 2, 0, 0, [])), (39, (2, 0, 40, 0, 2, 0, [])), (40, (3, 0, 43, 7, 2, 0, [])), (43, (0, 0, 44, 0, 0, 0, [])), (44, (3, 2, 45, 0, 0, 0, [])), (45, (1, 1, 48, 52, 0, 0, [])), (48, (0, 0, 49, 0, 0, 1, [])), (49, (1, 2, 52, 53, 0, 0, [])), (52, (0, 0, 53, 0, 0, 0, [])), (53, (6, 0, 54, 0, 0, 0, [])), (54, (2, 0, 55, 1, 0, 0, [])), (55, (2, 0, 56, 0, 2, 0, [])), (56, (5, 2, 59, 44, 0, 0, [])), (59, (1, 1, 62, 64, 3, 0, [])), (62, (0, 0, 63, 0, 0, 1, [])), (63, (6, 0, 64, 0, 0, 0, [])), (64, (2, 0, 65, 2, 0, 0, [])), (65, (0, 0, 67, 0, 0, 97, [])), (67, (1, 1, 70, 90, 2, 0, [])), (70, (2, 0, 71, 2, 0, 0, [])), (71, (0, 0, 73, 0, 0, 103, [])), (73, (1, 1, 76, 90, 3, 0, [])), (76, (2, 0, 77, 1, 0, 0, [])), (77, (2, 0, 78, 0, 2, 0, [])), (78, (5, 2, 81, 44, 0, 0, [])), (81, (0, 0, 82, 0, 0, 5, [])), (82, (0, 2, 83, 0, 0, 0, [])), (83, (1, 1, 86, 90, 3, 0, [])), (86, (0, 0, 87, 0, 0, 1, [])), (87, (1, 2, 90, 91, 0, 0, [])), (90, (0, 0, 91, 0, 0, 0, [])), (91, (6, 0, 92, 0, 0, 0, []))]
-- 44: SongToBridge$Page.songStart()I
def mm_p44 : List (Nat × mm_E) := [(0, (2, 0, 1, 0, 2, 0, [])), (1, (5, 2, 4, 45, 0, 0, [])), (4, (1, 0, 7, 11, 1, 0, [])), (7, (0, 0, 8, 0, 0, 2, [])), (8, (1, 2, 11, 12, 0, 0, [])), (11, (0, 0, 12, 0, 0, 3, [])), (12, (6, 0, 13, 0, 0, 0, []))]
-- 45: SongToBridge$Page.kindTold()I
def mm_p45 : List (Nat × mm_E) := [(0, (2, 0, 1, 0, 2, 0, [])), (1, (3, 0, 4, 8, 0, 0, [])), (4, (0, 0, 5, 0, 0, 3, [])), (5, (1, 1, 8, 10, 3, 0, [])), (8, (0, 0, 9, 0, 0, 0, [])), (9, (6, 0, 10, 0, 0, 0, [])), (10, (2, 0, 11, 0, 2, 0, [])), (11, (3, 0, 14, 7, 2, 0, [])), (14, (0, 0, 15, 0, 0, 2, [])), (15, (3, 2, 16, 0, 0, 0, [])), (16, (1, 4, 52, 58, 0, 0, [33, 54, 63, 52, 126, 56])), (52, (0, 0, 53, 0, 0, 1, [])), (53, (6, 0, 54, 0, 0, 0, [])), (54, (0, 0, 55, 0, 0, 2, [])), (55, (6, 0, 56, 0, 0, 0, [])), (56, (0, 0, 57, 0, 0, 3, [])), (57, (6, 0, 58, 0, 0, 0, [])), (58, (0, 0, 59, 0, 0, 0, [])), (59, (6, 0, 60, 0, 0, 0, []))]
-- 46: SongToBridge$Keeper.<init>()V
def mm_p46 : List (Nat × mm_E) := [(0, (2, 0, 1, 0, 2, 0, [])), (1, (3, 7, 4, 0, 0, 0, [])), (4, (6, 2, 5, 0, 0, 0, []))]
-- 47: SongToBridge$Keeper.kindNumber()I
def mm_p47 : List (Nat × mm_E) := [(0, (0, 0, 1, 0, 0, 0, [])), (1, (6, 0, 2, 0, 0, 0, []))]
-- 48: SongToBridge$Keeper.firstHeard()I
def mm_p48 : List (Nat × mm_E) := [(0, (0, 0, 1, 0, 0, 0, [])), (1, (6, 0, 2, 0, 0, 0, []))]
-- 49: SongToBridge$Keeper.isContent(II)Z
def mm_p49 : List (Nat × mm_E) := [(0, (2, 0, 1, 1, 0, 0, [])), (1, (1, 0, 4, 8, 1, 0, [])), (4, (0, 0, 5, 0, 0, 1, [])), (5, (1, 2, 8, 9, 0, 0, [])), (8, (0, 0, 9, 0, 0, 0, [])), (9, (6, 0, 10, 0, 0, 0, []))]
-- 50: SongToBridge$Keeper.lengthOf(II)I
def mm_p50 : List (Nat × mm_E) := [(0, (2, 0, 1, 1, 0, 0, [])), (1, (6, 0, 2, 0, 0, 0, []))]
-- 51: SongToBridge$Deaf.<init>()V
def mm_p51 : List (Nat × mm_E) := [(0, (2, 0, 1, 0, 2, 0, [])), (1, (5, 1, 4, 46, 0, 0, [])), (4, (6, 2, 5, 0, 0, 0, []))]
-- 52: SongToBridge$Deaf.kindNumber()I
def mm_p52 : List (Nat × mm_E) := [(0, (0, 0, 1, 0, 0, 1, [])), (1, (6, 0, 2, 0, 0, 0, []))]
-- 53: SongToBridge$Deaf.isContent(II)Z
def mm_p53 : List (Nat × mm_E) := [(0, (2, 0, 1, 1, 0, 0, [])), (1, (0, 0, 2, 0, 0, 1, [])), (2, (1, 1, 5, 13, 4, 0, [])), (5, (2, 0, 6, 2, 0, 0, [])), (6, (1, 0, 9, 13, 0, 0, [])), (9, (0, 0, 10, 0, 0, 1, [])), (10, (1, 2, 13, 14, 0, 0, [])), (13, (0, 0, 14, 0, 0, 0, [])), (14, (6, 0, 15, 0, 0, 0, []))]
-- 54: SongToBridge$Echo.<init>()V
def mm_p54 : List (Nat × mm_E) := [(0, (2, 0, 1, 0, 2, 0, [])), (1, (5, 1, 4, 46, 0, 0, [])), (4, (6, 2, 5, 0, 0, 0, []))]
-- 55: SongToBridge$Echo.kindNumber()I
def mm_p55 : List (Nat × mm_E) := [(0, (0, 0, 1, 0, 0, 2, [])), (1, (6, 0, 2, 0, 0, 0, []))]
-- 56: SongToBridge$Echo.lengthOf(II)I
def mm_p56 : List (Nat × mm_E) := [(0, (2, 0, 1, 2, 0, 0, [])), (1, (5, 0, 4, 176, 1, 0, [])), (4, (6, 0, 5, 0, 0, 0, []))]
-- 57: SongToBridge$Worn.<init>()V
def mm_p57 : List (Nat × mm_E) := [(0, (2, 0, 1, 0, 2, 0, [])), (1, (5, 1, 4, 51, 0, 0, [])), (4, (6, 2, 5, 0, 0, 0, []))]
-- 58: SongToBridge$Worn.kindNumber()I
def mm_p58 : List (Nat × mm_E) := [(0, (0, 0, 1, 0, 0, 3, [])), (1, (6, 0, 2, 0, 0, 0, []))]
-- 59: SongToBridge$Worn.firstHeard()I
def mm_p59 : List (Nat × mm_E) := [(0, (0, 0, 1, 0, 0, 1, [])), (1, (6, 0, 2, 0, 0, 0, []))]
-- 60: SongToBridge$World.<init>(LSongToBridge$Keeper;)V
def mm_p60 : List (Nat × mm_E) := [(0, (2, 0, 1, 0, 2, 0, [])), (1, (3, 7, 4, 0, 0, 0, [])), (4, (2, 0, 5, 0, 2, 0, [])), (5, (0, 0, 7, 0, 0, 9, [])), (7, (4, 2, 10, 12, 0, 0, [120])), (10, (3, 1, 13, 9, 2, 0, [])), (13, (2, 0, 14, 0, 2, 0, [])), (14, (0, 0, 15, 0, 0, 0, [])), (15, (3, 1, 18, 10, 0, 0, [])), (18, (2, 0, 19, 0, 2, 0, [])), (19, (0, 0, 20, 0, 0, 5, [])), (20, (4, 2, 23, 13, 0, 0, [122])), (23, (3, 1, 26, 11, 2, 0, [])), (26, (2, 0, 27, 0, 2, 0, [])), (27, (0, 0, 28, 0, 0, 0, [])), (28, (3, 1, 31, 12, 0, 0, [])), (31, (2, 0, 32, 0, 2, 0, [])), (32, (0, 0, 34, 0, 0, 6, [])), (34, (0, 0, 36, 0, 0, 6, [])), (36, (4, 3, 40, 14, 15, 0, [124])), (40, (3, 1, 43, 13, 2, 0, [])), (43, (2, 0, 44, 0, 2, 0, [])), (44, (0, 0, 46, 0, 0, 10, [])), (46, (4, 1, 48, 16, 0, 0, [])), (48, (3, 1, 51, 14, 2, 0, [])), (51, (2, 0, 52, 0, 2, 0, [])), (52, (0, 0, 53, 0, 0, 0, [])), (53, (3, 1, 56, 15, 0, 0, [])), (56, (0, 0, 57, 0, 0, 0, [])), (57, (2, 1, 58, 2, 0, 0, [])), (58, (2, 0, 59, 2, 0, 0, [])), (59, (0, 0, 61, 0, 0, 9, [])), (61, (1, 1, 64, 84, 3, 0, [])), (64, (2, 0, 65, 0, 2, 0, [])), (65, (3, 0, 68, 9, 2, 0, [])), (68, (2, 0, 69, 2, 0, 0, [])), (69, (4, 0, 72, 5, 7, 0, [120])), (72, (0, 6, 73, 0, 0, 0, [])), (73, (2, 0, 74, 1, 2, 0, [])), (74, (5, 1, 77, 71, 1, 0, [])), (77, (3, 3, 78, 0, 2, 0, [])), (78, (2, 2, 81, 2, 0, 1, [])), (81, (1, 2, 84, 58, 0, 0, [])), (84, (0, 0, 85, 0, 0, 0, [])), (85, (2, 1, 86, 2, 0, 0, [])), (86, (2, 0, 87, 2, 0, 0, [])), (87, (0, 0, 88, 0, 0, 5, [])), (88, (1, 1, 91, 110, 3, 0, [])), (91, (2, 0, 92, 0, 2, 0, [])), (92, (3, 0, 95, 11, 2, 0, [])), (95, (2, 0, 96, 2, 0, 0, [])), (96, (4, 0, 99, 6, 8, 0, [122])), (99, (0, 6, 100, 0, 0, 0, [])), (100, (5, 1, 103, 83, 0, 0, [])), (103, (3, 3, 104, 0, 2, 0, [])), (104, (2, 2, 107, 2, 0, 1, [])), (107, (1, 2, 110, 86, 0, 0, [])), (110, (0, 0, 111, 0, 0, 0, [])), (111, (2, 1, 112, 2, 0, 0, [])), (112, (2, 0, 113, 2, 0, 0, [])), (113, (0, 0, 115, 0, 0, 6, [])), (115, (1, 1, 118, 134, 3, 0, [])), (118, (2, 0, 119, 0, 2, 0, [])), (119, (3, 0, 122, 13, 2, 0, [])), (122, (2, 0, 123, 2, 0, 0, [])), (123, (3, 2, 124, 0, 2, 0, [])), (124, (0, 0, 125, 0, 0, (-1), [])), (125, (5, 0, 128, 177, 2, 0, [])), (128, (2, 2, 131, 2, 0, 1, [])), (131, (1, 2, 134, 112, 0, 0, [])), (134, (6, 2, 135, 0, 0, 0, []))]
-- 61: SongToBridge$World.takeOver(LSongToBridge$World;)V
def mm_p61 : List (Nat × mm_E) := [(0, (2, 0, 1, 0, 2, 0, [])), (1, (2, 0, 2, 1, 2, 0, [])), (2, (3, 0, 5, 10, 0, 0, [])), (5, (3, 1, 8, 10, 0, 0, [])), (8, (0, 0, 9, 0, 0, 0, [])), (9, (2, 1, 10, 2, 0, 0, [])), (10, (2, 0, 11, 2, 0, 0, [])), (11, (2, 0, 12, 0, 2, 0, [])), (12, (3, 0, 15, 10, 0, 0, [])), (15, (1, 1, 18, 39, 3, 0, [])), (18, (2, 0, 19, 0, 2, 0, [])), (19, (3, 0, 22, 9, 2, 0, [])), (22, (2, 0, 23, 2, 0, 0, [])), (23, (3, 2, 24, 0, 2, 0, [])), (24, (2, 0, 25, 1, 2, 0, [])), (25, (3, 0, 28, 9, 2, 0, [])), (28, (2, 0, 29, 2, 0, 0, [])), (29, (3, 2, 30, 0, 2, 0, [])), (30, (5, 2, 33, 73, 1, 0, [])), (33, (2, 2, 36, 2, 0, 1, [])), (36, (1, 2, 39, 10, 0, 0, [])), (39, (2, 0, 40, 0, 2, 0, [])), (40, (2, 0, 41, 1, 2, 0, [])), (41, (3, 0, 44, 12, 0, 0, [])), (44, (3, 1, 47, 12, 0, 0, [])), (47, (0, 0, 48, 0, 0, 0, [])), (48, (2, 1, 49, 2, 0, 0, [])), (49, (2, 0, 50, 2, 0, 0, [])), (50, (2, 0, 51, 0, 2, 0, [])), (51, (3, 0, 54, 12, 0, 0, [])), (54, (1, 1, 57, 78, 3, 0, [])), (57, (2, 0, 58, 0, 2, 0, [])), (58, (3, 0, 61, 11, 2, 0, [])), (61, (2, 0, 62, 2, 0, 0, [])), (62, (3, 2, 63, 0, 2, 0, [])), (63, (2, 0, 64, 1, 2, 0, [])), (64, (3, 0, 67, 11, 2, 0, [])), (67, (2, 0, 68, 2, 0, 0, [])), (68, (3, 2, 69, 0, 2, 0, [])), (69, (5, 2, 72, 85, 1, 0, [])), (72, (2, 2, 75, 2, 0, 1, [])), (75, (1, 2, 78, 49, 0, 0, [])), (78, (0, 0, 79, 0, 0, 0, [])), (79, (2, 1, 80, 2, 0, 0, [])), (80, (2, 0, 81, 2, 0, 0, [])), (81, (0, 0, 83, 0, 0, 6, [])), (83, (1, 1, 86, 111, 3, 0, [])), (86, (2, 0, 87, 1, 2, 0, [])), (87, (3, 0, 90, 13, 2, 0, [])), (90, (2, 0, 91, 2, 0, 0, [])), (91, (3, 2, 92, 0, 2, 0, [])), (92, (0, 0, 93, 0, 0, 0, [])), (93, (2, 0, 94, 0, 2, 0, [])), (94, (3, 0, 97, 13, 2, 0, [])), (97, (2, 0, 98, 2, 0, 0, [])), (98, (3, 2, 99, 0, 2, 0, [])), (99, (0, 0, 100, 0, 0, 0, [])), (100, (0, 0, 102, 0, 0, 6, [])), (102, (3, 5, 105, 0, 0, 0, [])), (105, (2, 2, 108, 2, 0, 1, [])), (108, (1, 2, 111, 80, 0, 0, [])), (111, (2, 0, 112, 0, 2, 0, [])), (112, (2, 0, 113, 1, 2, 0, [])), (113, (3, 0, 116, 15, 0, 0, [])), (116, (3, 1, 119, 15, 0, 0, [])), (119, (2, 0, 120, 1, 2, 0, [])), (120, (3, 0, 123, 14, 2, 0, [])), (123, (0, 0, 124, 0, 0, 0, [])), (124, (2, 0, 125, 0, 2, 0, [])), (125, (3, 0, 128, 14, 2, 0, [])), (128, (0, 0, 129, 0, 0, 0, [])), (129, (0, 0, 131, 0, 0, 10, [])), (131, (3, 5, 134, 0, 0, 0, [])), (134, (6, 2, 135, 0, 0, 0, []))]
-- 62: SongToBridge$World.hasBridge(I)Z
def mm_p62 : List (Nat × mm_E) := [(0, (2, 0, 1, 1, 0, 0, [])), (1, (1, 0, 4, 16, 2, 0, [])), (4, (2, 0, 5, 1, 0, 0, [])), (5, (2, 0, 6, 0, 2, 0, [])), (6, (3, 0, 9, 10, 0, 0, [])), (9, (1, 1, 12, 16, 3, 0, [])), (12, (0, 0, 13, 0, 0, 1, [])), (13, (1, 2, 16, 17, 0, 0, [])), (16, (0, 0, 17, 0, 0, 0, [])), (17, (6, 0, 18, 0, 0, 0, []))]
-- 63: SongToBridge$World.hasSinger(I)Z
def mm_p63 : List (Nat × mm_E) := [(0, (2, 0, 1, 1, 0, 0, [])), (1, (1, 0, 4, 16, 2, 0, [])), (4, (2, 0, 5, 1, 0, 0, [])), (5, (2, 0, 6, 0, 2, 0, [])), (6, (3, 0, 9, 12, 0, 0, [])), (9, (1, 1, 12, 16, 3, 0, [])), (12, (0, 0, 13, 0, 0, 1, [])), (13, (1, 2, 16, 17, 0, 0, [])), (16, (0, 0, 17, 0, 0, 0, [])), (17, (6, 0, 18, 0, 0, 0, []))]
-- 64: SongToBridge$World.leastAlike(I)I
def mm_p64 : List (Nat × mm_E) := [(0, (0, 0, 1, 0, 0, 0, [])), (1, (2, 1, 2, 2, 0, 0, [])), (2, (2, 0, 3, 2, 0, 0, [])), (3, (2, 0, 4, 0, 2, 0, [])), (4, (3, 0, 7, 10, 0, 0, [])), (7, (1, 1, 10, 41, 3, 0, [])), (10, (2, 0, 11, 2, 0, 0, [])), (11, (2, 0, 12, 1, 0, 0, [])), (12, (1, 1, 15, 35, 0, 0, [])), (15, (2, 0, 16, 0, 2, 0, [])), (16, (3, 0, 19, 9, 2, 0, [])), (19, (2, 0, 20, 2, 0, 0, [])), (20, (3, 2, 21, 0, 2, 0, [])), (21, (2, 0, 22, 0, 2, 0, [])), (22, (3, 0, 25, 9, 2, 0, [])), (25, (2, 0, 26, 1, 0, 0, [])), (26, (3, 2, 27, 0, 2, 0, [])), (27, (5, 2, 30, 79, 1, 0, [])), (30, (1, 0, 33, 35, 0, 0, [])), (33, (2, 0, 34, 2, 0, 0, [])), (34, (6, 0, 35, 0, 0, 0, [])), (35, (2, 2, 38, 2, 0, 1, [])), (38, (1, 2, 41, 2, 0, 0, [])), (41, (0, 0, 42, 0, 0, (-1), [])), (42, (6, 0, 43, 0, 0, 0, []))]
-- 65: SongToBridge$World.feesTold()I
def mm_p65 : List (Nat × mm_E) := [(0, (0, 0, 1, 0, 0, 0, [])), (1, (2, 1, 2, 1, 0, 0, [])), (2, (0, 0, 3, 0, 0, 0, [])), (3, (2, 1, 4, 2, 0, 0, [])), (4, (2, 0, 5, 2, 0, 0, [])), (5, (0, 0, 7, 0, 0, 6, [])), (7, (1, 1, 10, 45, 3, 0, [])), (10, (0, 0, 11, 0, 0, 0, [])), (11, (2, 1, 12, 3, 0, 0, [])), (12, (2, 0, 13, 3, 0, 0, [])), (13, (0, 0, 15, 0, 0, 6, [])), (15, (1, 1, 18, 39, 3, 0, [])), (18, (2, 0, 19, 0, 2, 0, [])), (19, (3, 0, 22, 13, 2, 0, [])), (22, (2, 0, 23, 2, 0, 0, [])), (23, (3, 2, 24, 0, 2, 0, [])), (24, (2, 0, 25, 3, 0, 0, [])), (25, (3, 2, 26, 0, 0, 0, [])), (26, (0, 0, 27, 0, 0, (-1), [])), (27, (1, 1, 30, 33, 0, 0, [])), (30, (2, 2, 33, 1, 0, 1, [])), (33, (2, 2, 36, 3, 0, 1, [])), (36, (1, 2, 39, 12, 0, 0, [])), (39, (2, 2, 42, 2, 0, 1, [])), (42, (1, 2, 45, 4, 0, 0, [])), (45, (2, 0, 46, 1, 0, 0, [])), (46, (6, 0, 47, 0, 0, 0, []))]
-- 66: SongToBridge$World.isHeardOneWay()Z
def mm_p66 : List (Nat × mm_E) := [(0, (0, 0, 2, 0, 0, 63, [])), (2, (2, 1, 3, 1, 0, 0, [])), (3, (0, 0, 4, 0, 0, 0, [])), (4, (2, 1, 5, 2, 0, 0, [])), (5, (2, 0, 6, 2, 0, 0, [])), (6, (2, 0, 7, 0, 2, 0, [])), (7, (3, 0, 10, 15, 0, 0, [])), (10, (1, 1, 13, 81, 3, 0, [])), (13, (2, 0, 14, 0, 2, 0, [])), (14, (3, 0, 17, 9, 2, 0, [])), (17, (2, 0, 18, 0, 2, 0, [])), (18, (3, 0, 21, 14, 2, 0, [])), (21, (2, 0, 22, 2, 0, 0, [])), (22, (3, 2, 23, 0, 0, 0, [])), (23, (3, 2, 24, 0, 2, 0, [])), (24, (2, 1, 25, 3, 2, 0, [])), (25, (0, 0, 26, 0, 0, 0, [])), (26, (2, 1, 28, 4, 0, 0, [])), (28, (2, 0, 29, 1, 0, 0, [])), (29, (2, 0, 30, 3, 2, 0, [])), (30, (3, 0, 33, 17, 0, 0, [])), (33, (0, 2, 34, 0, 7, 0, [])), (34, (0, 0, 35, 0, 0, 1, [])), (35, (0, 2, 36, 0, 3, 0, [])), (36, (1, 0, 39, 50, 0, 0, [])), (39, (2, 0, 41, 4, 0, 0, [])), (41, (0, 0, 42, 0, 0, 1, [])), (42, (2, 0, 43, 3, 2, 0, [])), (43, (3, 0, 46, 18, 0, 0, [])), (46, (0, 2, 47, 0, 6, 0, [])), (47, (0, 2, 48, 0, 4, 0, [])), (48, (2, 1, 50, 4, 0, 0, [])), (50, (2, 0, 51, 1, 0, 0, [])), (51, (2, 0, 52, 3, 2, 0, [])), (52, (3, 0, 55, 18, 0, 0, [])), (55, (0, 2, 56, 0, 7, 0, [])), (56, (0, 0, 57, 0, 0, 1, [])), (57, (0, 2, 58, 0, 3, 0, [])), (58, (1, 0, 61, 72, 0, 0, [])), (61, (2, 0, 63, 4, 0, 0, [])), (63, (0, 0, 64, 0, 0, 1, [])), (64, (2, 0, 65, 3, 2, 0, [])), (65, (3, 0, 68, 17, 0, 0, [])), (68, (0, 2, 69, 0, 6, 0, [])), (69, (0, 2, 70, 0, 4, 0, [])), (70, (2, 1, 72, 4, 0, 0, [])), (72, (2, 0, 74, 4, 0, 0, [])), (74, (2, 1, 75, 1, 0, 0, [])), (75, (2, 2, 78, 2, 0, 1, [])), (78, (1, 2, 81, 5, 0, 0, [])), (81, (2, 0, 82, 1, 0, 0, [])), (82, (1, 0, 85, 89, 0, 0, [])), (85, (0, 0, 86, 0, 0, 1, [])), (86, (1, 2, 89, 90, 0, 0, [])), (89, (0, 0, 90, 0, 0, 0, [])), (90, (6, 0, 91, 0, 0, 0, []))]
-- 67: SongToBridge$World.singersOfHeard()I
def mm_p67 : List (Nat × mm_E) := [(0, (0, 0, 1, 0, 0, 0, [])), (1, (2, 1, 2, 1, 0, 0, [])), (2, (0, 0, 3, 0, 0, 0, [])), (3, (2, 1, 4, 2, 0, 0, [])), (4, (2, 0, 5, 2, 0, 0, [])), (5, (2, 0, 6, 0, 2, 0, [])), (6, (3, 0, 9, 12, 0, 0, [])), (9, (1, 1, 12, 37, 3, 0, [])), (12, (2, 0, 13, 0, 2, 0, [])), (13, (2, 0, 14, 0, 2, 0, [])), (14, (3, 0, 17, 11, 2, 0, [])), (17, (2, 0, 18, 2, 0, 0, [])), (18, (3, 2, 19, 0, 2, 0, [])), (19, (5, 2, 22, 68, 1, 0, [])), (22, (1, 0, 25, 31, 0, 0, [])), (25, (2, 0, 26, 1, 0, 0, [])), (26, (0, 0, 27, 0, 0, 1, [])), (27, (2, 0, 28, 2, 0, 0, [])), (28, (0, 2, 29, 0, 6, 0, [])), (29, (0, 2, 30, 0, 4, 0, [])), (30, (2, 1, 31, 1, 0, 0, [])), (31, (2, 2, 34, 2, 0, 1, [])), (34, (1, 2, 37, 4, 0, 0, [])), (37, (2, 0, 38, 1, 0, 0, [])), (38, (6, 0, 39, 0, 0, 0, []))]
-- 68: SongToBridge$World.couldBeHeard(LSongToBridge$Singer;)Z
def mm_p68 : List (Nat × mm_E) := [(0, (0, 0, 1, 0, 0, 0, [])), (1, (2, 1, 2, 2, 0, 0, [])), (2, (0, 0, 3, 0, 0, 0, [])), (3, (2, 1, 4, 3, 0, 0, [])), (4, (2, 0, 5, 3, 0, 0, [])), (5, (2, 0, 6, 0, 2, 0, [])), (6, (3, 0, 9, 15, 0, 0, [])), (9, (1, 1, 12, 53, 3, 0, [])), (12, (2, 0, 13, 0, 2, 0, [])), (13, (3, 0, 16, 9, 2, 0, [])), (16, (2, 0, 17, 0, 2, 0, [])), (17, (3, 0, 20, 14, 2, 0, [])), (20, (2, 0, 21, 3, 0, 0, [])), (21, (3, 2, 22, 0, 0, 0, [])), (22, (3, 2, 23, 0, 2, 0, [])), (23, (2, 1, 25, 4, 2, 0, [])), (25, (2, 0, 27, 4, 2, 0, [])), (27, (2, 0, 28, 1, 2, 0, [])), (28, (3, 0, 31, 23, 0, 0, [])), (31, (5, 2, 34, 78, 1, 0, [])), (34, (1, 0, 37, 39, 1, 0, [])), (37, (0, 0, 38, 0, 0, 0, [])), (38, (6, 0, 39, 0, 0, 0, [])), (39, (2, 0, 40, 2, 0, 0, [])), (40, (2, 0, 42, 4, 2, 0, [])), (42, (3, 0, 45, 21, 0, 0, [])), (45, (0, 2, 46, 0, 0, 0, [])), (46, (2, 1, 47, 2, 0, 0, [])), (47, (2, 2, 50, 3, 0, 1, [])), (50, (1, 2, 53, 4, 0, 0, [])), (53, (2, 0, 54, 2, 0, 0, [])), (54, (2, 0, 55, 1, 2, 0, [])), (55, (3, 0, 58, 25, 0, 0, [])), (58, (1, 1, 61, 65, 4, 0, [])), (61, (0, 0, 62, 0, 0, 1, [])), (62, (1, 2, 65, 66, 0, 0, [])), (65, (0, 0, 66, 0, 0, 0, [])), (66, (6, 0, 67, 0, 0, 0, []))]
-- 69: SongToBridge$World.openTo(I)I
def mm_p69 : List (Nat × mm_E) := [(0, (0, 0, 1, 0, 0, 0, [])), (1, (2, 1, 2, 2, 0, 0, [])), (2, (0, 0, 3, 0, 0, 0, [])), (3, (2, 1, 4, 3, 0, 0, [])), (4, (2, 0, 5, 3, 0, 0, [])), (5, (2, 0, 6, 0, 2, 0, [])), (6, (3, 0, 9, 10, 0, 0, [])), (9, (1, 1, 12, 37, 3, 0, [])), (12, (2, 0, 13, 0, 2, 0, [])), (13, (3, 0, 16, 9, 2, 0, [])), (16, (2, 0, 17, 3, 0, 0, [])), (17, (3, 2, 18, 0, 2, 0, [])), (18, (2, 0, 19, 1, 0, 0, [])), (19, (5, 2, 22, 78, 1, 0, [])), (22, (1, 0, 25, 31, 0, 0, [])), (25, (2, 0, 26, 2, 0, 0, [])), (26, (0, 0, 27, 0, 0, 1, [])), (27, (2, 0, 28, 3, 0, 0, [])), (28, (0, 2, 29, 0, 6, 0, [])), (29, (0, 2, 30, 0, 4, 0, [])), (30, (2, 1, 31, 2, 0, 0, [])), (31, (2, 2, 34, 3, 0, 1, [])), (34, (1, 2, 37, 4, 0, 0, [])), (37, (2, 0, 38, 2, 0, 0, [])), (38, (6, 0, 39, 0, 0, 0, []))]
-- 70: SongToBridge$World.placesOpen(II)I
def mm_p70 : List (Nat × mm_E) := [(0, (2, 0, 1, 0, 2, 0, [])), (1, (2, 0, 2, 2, 0, 0, [])), (2, (5, 2, 5, 69, 1, 0, [])), (5, (2, 1, 6, 3, 0, 0, [])), (6, (0, 0, 7, 0, 0, 1, [])), (7, (2, 0, 8, 1, 0, 0, [])), (8, (0, 2, 9, 0, 6, 0, [])), (9, (2, 1, 11, 4, 0, 0, [])), (11, (0, 0, 12, 0, 0, 1, [])), (12, (2, 1, 14, 5, 0, 0, [])), (14, (2, 0, 16, 5, 0, 0, [])), (16, (0, 0, 18, 0, 0, 6, [])), (18, (1, 1, 21, 95, 3, 0, [])), (21, (2, 0, 23, 4, 0, 0, [])), (23, (2, 1, 25, 6, 0, 0, [])), (25, (0, 0, 26, 0, 0, 0, [])), (26, (2, 1, 28, 7, 0, 0, [])), (28, (2, 0, 30, 7, 0, 0, [])), (30, (2, 0, 31, 0, 2, 0, [])), (31, (3, 0, 34, 10, 0, 0, [])), (34, (1, 1, 37, 79, 3, 0, [])), (37, (2, 0, 38, 0, 2, 0, [])), (38, (3, 0, 41, 9, 2, 0, [])), (41, (2, 0, 43, 7, 0, 0, [])), (43, (3, 2, 44, 0, 2, 0, [])), (44, (5, 2, 47, 81, 0, 0, [])), (47, (2, 1, 49, 8, 0, 0, [])), (49, (2, 0, 50, 3, 0, 0, [])), (50, (2, 0, 52, 7, 0, 0, [])), (52, (0, 2, 53, 0, 7, 0, [])), (53, (0, 0, 54, 0, 0, 1, [])), (54, (0, 2, 55, 0, 3, 0, [])), (55, (1, 0, 58, 73, 0, 0, [])), (58, (2, 0, 60, 4, 0, 0, [])), (60, (2, 0, 62, 8, 0, 0, [])), (62, (0, 2, 63, 0, 3, 0, [])), (63, (1, 0, 66, 73, 0, 0, [])), (66, (2, 0, 68, 4, 0, 0, [])), (68, (2, 0, 70, 8, 0, 0, [])), (70, (0, 2, 71, 0, 4, 0, [])), (71, (2, 1, 73, 4, 0, 0, [])), (73, (2, 2, 76, 7, 0, 1, [])), (76, (1, 2, 79, 28, 0, 0, [])), (79, (2, 0, 81, 4, 0, 0, [])), (81, (2, 0, 83, 6, 0, 0, [])), (83, (1, 1, 86, 89, 1, 0, [])), (86, (1, 2, 89, 95, 0, 0, [])), (89, (2, 2, 92, 5, 0, 1, [])), (92, (1, 2, 95, 14, 0, 0, [])), (95, (2, 0, 97, 4, 0, 0, [])), (97, (6, 0, 98, 0, 0, 0, []))]
-- 71: SongToBridge$Bridge.<init>(LSongToBridge$Keeper;)V
def mm_p71 : List (Nat × mm_E) := [(0, (2, 0, 1, 0, 2, 0, [])), (1, (3, 7, 4, 0, 0, 0, [])), (4, (2, 0, 5, 0, 2, 0, [])), (5, (0, 0, 6, 0, 0, 0, [])), (6, (3, 1, 9, 17, 0, 0, [])), (9, (2, 0, 10, 0, 2, 0, [])), (10, (0, 0, 11, 0, 0, 1, [])), (11, (3, 1, 14, 18, 0, 0, [])), (14, (2, 0, 15, 0, 2, 0, [])), (15, (0, 0, 16, 0, 0, 0, [])), (16, (3, 1, 19, 19, 0, 0, [])), (19, (2, 0, 20, 0, 2, 0, [])), (20, (0, 0, 21, 0, 0, 5, [])), (21, (4, 1, 23, 17, 0, 0, [])), (23, (3, 1, 26, 20, 2, 0, [])), (26, (2, 0, 27, 0, 2, 0, [])), (27, (0, 0, 28, 0, 0, 0, [])), (28, (3, 1, 31, 21, 0, 0, [])), (31, (2, 0, 32, 0, 2, 0, [])), (32, (2, 0, 33, 1, 2, 0, [])), (33, (3, 1, 36, 16, 2, 0, [])), (36, (6, 2, 37, 0, 0, 0, []))]
-- 72: SongToBridge$Bridge.readFrom(LSongToBridge$Page;LSongToBridge$Keeper;)V
def mm_p72 : List (Nat × mm_E) := [(0, (2, 0, 1, 0, 2, 0, [])), (1, (2, 0, 2, 2, 2, 0, [])), (2, (3, 1, 5, 16, 2, 0, [])), (5, (2, 0, 6, 0, 2, 0, [])), (6, (2, 0, 7, 1, 2, 0, [])), (7, (3, 0, 10, 7, 2, 0, [])), (10, (0, 0, 11, 0, 0, 0, [])), (11, (3, 2, 12, 0, 0, 0, [])), (12, (0, 0, 14, 0, 0, 48, [])), (14, (0, 2, 15, 0, 1, 0, [])), (15, (3, 1, 18, 17, 0, 0, [])), (18, (2, 0, 19, 0, 2, 0, [])), (19, (2, 0, 20, 1, 2, 0, [])), (20, (3, 0, 23, 7, 2, 0, [])), (23, (0, 0, 24, 0, 0, 1, [])), (24, (3, 2, 25, 0, 0, 0, [])), (25, (0, 0, 27, 0, 0, 48, [])), (27, (0, 2, 28, 0, 1, 0, [])), (28, (3, 1, 31, 18, 0, 0, [])), (31, (2, 0, 32, 0, 2, 0, [])), (32, (0, 0, 33, 0, 0, 0, [])), (33, (3, 1, 36, 19, 0, 0, [])), (36, (2, 0, 37, 1, 2, 0, [])), (37, (5, 2, 40, 44, 0, 0, [])), (40, (2, 1, 41, 3, 0, 0, [])), (41, (2, 0, 42, 3, 0, 0, [])), (42, (2, 0, 43, 1, 2, 0, [])), (43, (3, 0, 46, 8, 0, 0, [])), (46, (1, 1, 49, 91, 3, 0, [])), (49, (2, 0, 50, 0, 2, 0, [])), (50, (3, 0, 53, 19, 0, 0, [])), (53, (0, 0, 54, 0, 0, 5, [])), (54, (1, 1, 57, 91, 3, 0, [])), (57, (2, 0, 58, 0, 2, 0, [])), (58, (3, 0, 61, 20, 2, 0, [])), (61, (2, 0, 62, 0, 2, 0, [])), (62, (3, 0, 65, 19, 0, 0, [])), (65, (2, 0, 66, 1, 2, 0, [])), (66, (3, 0, 69, 7, 2, 0, [])), (69, (2, 0, 70, 3, 0, 0, [])), (70, (3, 2, 71, 0, 0, 0, [])), (71, (0, 0, 73, 0, 0, 97, [])), (73, (0, 2, 74, 0, 1, 0, [])), (74, (3, 3, 75, 0, 0, 0, [])), (75, (2, 0, 76, 0, 2, 0, [])), (76, (0, 6, 77, 0, 0, 0, [])), (77, (3, 0, 80, 19, 0, 0, [])), (80, (0, 0, 81, 0, 0, 1, [])), (81, (0, 2, 82, 0, 0, 0, [])), (82, (3, 1, 85, 19, 0, 0, [])), (85, (2, 2, 88, 3, 0, 1, [])), (88, (1, 2, 91, 41, 0, 0, [])), (91, (2, 0, 92, 0, 2, 0, [])), (92, (2, 0, 93, 0, 2, 0, [])), (93, (3, 0, 96, 16, 2, 0, [])), (96, (2, 0, 97, 0, 2, 0, [])), (97, (3, 0, 100, 19, 0, 0, [])), (100, (2, 0, 101, 0, 2, 0, [])), (101, (5, 2, 104, 77, 0, 0, [])), (104, (5, 3, 107, 3, 2, 0, [])), (107, (3, 1, 110, 21, 0, 0, [])), (110, (6, 2, 111, 0, 0, 0, []))]
-- 73: SongToBridge$Bridge.takeOver(LSongToBridge$Bridge;)V
def mm_p73 : List (Nat × mm_E) := [(0, (2, 0, 1, 0, 2, 0, [])), (1, (2, 0, 2, 1, 2, 0, [])), (2, (3, 0, 5, 16, 2, 0, [])), (5, (3, 1, 8, 16, 2, 0, [])), (8, (2, 0, 9, 0, 2, 0, [])), (9, (2, 0, 10, 1, 2, 0, [])), (10, (3, 0, 13, 17, 0, 0, [])), (13, (3, 1, 16, 17, 0, 0, [])), (16, (2, 0, 17, 0, 2, 0, [])), (17, (2, 0, 18, 1, 2, 0, [])), (18, (3, 0, 21, 18, 0, 0, [])), (21, (3, 1, 24, 18, 0, 0, [])), (24, (2, 0, 25, 0, 2, 0, [])), (25, (2, 0, 26, 1, 2, 0, [])), (26, (3, 0, 29, 19, 0, 0, [])), (29, (3, 1, 32, 19, 0, 0, [])), (32, (2, 0, 33, 1, 2, 0, [])), (33, (3, 0, 36, 20, 2, 0, [])), (36, (0, 0, 37, 0, 0, 0, [])), (37, (2, 0, 38, 0, 2, 0, [])), (38, (3, 0, 41, 20, 2, 0, [])), (41, (0, 0, 42, 0, 0, 0, [])), (42, (0, 0, 43, 0, 0, 5, [])), (43, (3, 5, 46, 0, 0, 0, [])), (46, (2, 0, 47, 0, 2, 0, [])), (47, (2, 0, 48, 1, 2, 0, [])), (48, (3, 0, 51, 21, 0, 0, [])), (51, (3, 1, 54, 21, 0, 0, [])), (54, (6, 2, 55, 0, 0, 0, []))]
-- 74: SongToBridge$Bridge.property(I)I
def mm_p74 : List (Nat × mm_E) := [(0, (2, 0, 1, 1, 0, 0, [])), (1, (1, 3, 36, 64, 0, 0, [36, 44, 49, 54, 59])), (36, (2, 0, 37, 0, 2, 0, [])), (37, (3, 0, 40, 16, 2, 0, [])), (40, (5, 3, 43, 0, 0, 0, [])), (43, (6, 0, 44, 0, 0, 0, [])), (44, (2, 0, 45, 0, 2, 0, [])), (45, (3, 0, 48, 17, 0, 0, [])), (48, (6, 0, 49, 0, 0, 0, [])), (49, (2, 0, 50, 0, 2, 0, [])), (50, (3, 0, 53, 18, 0, 0, [])), (53, (6, 0, 54, 0, 0, 0, [])), (54, (2, 0, 55, 0, 2, 0, [])), (55, (3, 0, 58, 19, 0, 0, [])), (58, (6, 0, 59, 0, 0, 0, [])), (59, (2, 0, 60, 0, 2, 0, [])), (60, (3, 0, 63, 21, 0, 0, [])), (63, (6, 0, 64, 0, 0, 0, [])), (64, (2, 0, 65, 0, 2, 0, [])), (65, (2, 0, 66, 1, 0, 0, [])), (66, (0, 0, 67, 0, 0, 5, [])), (67, (0, 2, 68, 0, 1, 0, [])), (68, (5, 2, 71, 75, 1, 0, [])), (71, (6, 0, 72, 0, 0, 0, []))]
-- 75: SongToBridge$Bridge.verseAt(I)I
def mm_p75 : List (Nat × mm_E) := [(0, (2, 0, 1, 1, 0, 0, [])), (1, (1, 0, 4, 21, 2, 0, [])), (4, (2, 0, 5, 1, 0, 0, [])), (5, (2, 0, 6, 0, 2, 0, [])), (6, (3, 0, 9, 19, 0, 0, [])), (9, (1, 1, 12, 21, 3, 0, [])), (12, (2, 0, 13, 0, 2, 0, [])), (13, (3, 0, 16, 20, 2, 0, [])), (16, (2, 0, 17, 1, 0, 0, [])), (17, (3, 2, 18, 0, 0, 0, [])), (18, (1, 2, 21, 22, 0, 0, [])), (21, (0, 0, 22, 0, 0, (-1), [])), (22, (6, 0, 23, 0, 0, 0, []))]
-- 76: SongToBridge$Bridge.setVerse(II)V
def mm_p76 : List (Nat × mm_E) := [(0, (2, 0, 1, 1, 0, 0, [])), (1, (1, 0, 4, 38, 2, 0, [])), (4, (2, 0, 5, 1, 0, 0, [])), (5, (2, 0, 6, 0, 2, 0, [])), (6, (3, 0, 9, 19, 0, 0, [])), (9, (1, 1, 12, 38, 3, 0, [])), (12, (2, 0, 13, 0, 2, 0, [])), (13, (3, 0, 16, 20, 2, 0, [])), (16, (2, 0, 17, 1, 0, 0, [])), (17, (2, 0, 18, 2, 0, 0, [])), (18, (3, 3, 19, 0, 0, 0, [])), (19, (2, 0, 20, 0, 2, 0, [])), (20, (2, 0, 21, 0, 2, 0, [])), (21, (3, 0, 24, 16, 2, 0, [])), (24, (2, 0, 25, 0, 2, 0, [])), (25, (3, 0, 28, 19, 0, 0, [])), (28, (2, 0, 29, 0, 2, 0, [])), (29, (5, 2, 32, 77, 0, 0, [])), (32, (5, 3, 35, 3, 2, 0, [])), (35, (3, 1, 38, 21, 0, 0, [])), (38, (6, 2, 39, 0, 0, 0, []))]
-- 77: SongToBridge$Bridge.verseBits()I
def mm_p77 : List (Nat × mm_E) := [(0, (0, 0, 1, 0, 0, 0, [])), (1, (2, 1, 2, 1, 0, 0, [])), (2, (0, 0, 3, 0, 0, 0, [])), (3, (2, 1, 4, 2, 0, 0, [])), (4, (2, 0, 5, 2, 0, 0, [])), (5, (2, 0, 6, 0, 2, 0, [])), (6, (3, 0, 9, 19, 0, 0, [])), (9, (1, 1, 12, 29, 3, 0, [])), (12, (2, 0, 13, 1, 0, 0, [])), (13, (0, 0, 14, 0, 0, 1, [])), (14, (2, 0, 15, 0, 2, 0, [])), (15, (3, 0, 18, 20, 2, 0, [])), (18, (2, 0, 19, 2, 0, 0, [])), (19, (3, 2, 20, 0, 0, 0, [])), (20, (0, 2, 21, 0, 6, 0, [])), (21, (0, 2, 22, 0, 4, 0, [])), (22, (2, 1, 23, 1, 0, 0, [])), (23, (2, 2, 26, 2, 0, 1, [])), (26, (1, 2, 29, 4, 0, 0, [])), (29, (2, 0, 30, 1, 0, 0, [])), (30, (6, 0, 31, 0, 0, 0, []))]
-- 78: SongToBridge$Bridge.opensTo(I)Z
def mm_p78 : List (Nat × mm_E) := [(0, (0, 0, 1, 0, 0, 0, [])), (1, (2, 1, 2, 2, 0, 0, [])), (2, (2, 0, 3, 0, 2, 0, [])), (3, (3, 0, 6, 16, 2, 0, [])), (6, (5, 3, 9, 1, 0, 0, [])), (9, (2, 1, 10, 3, 0, 0, [])), (10, (2, 0, 11, 3, 0, 0, [])), (11, (2, 0, 12, 0, 2, 0, [])), (12, (3, 0, 15, 19, 0, 0, [])), (15, (1, 1, 18, 40, 3, 0, [])), (18, (2, 0, 19, 1, 0, 0, [])), (19, (2, 0, 20, 0, 2, 0, [])), (20, (3, 0, 23, 20, 2, 0, [])), (23, (2, 0, 24, 3, 0, 0, [])), (24, (3, 2, 25, 0, 0, 0, [])), (25, (0, 2, 26, 0, 7, 0, [])), (26, (0, 0, 27, 0, 0, 1, [])), (27, (0, 2, 28, 0, 3, 0, [])), (28, (1, 0, 31, 34, 1, 0, [])), (31, (2, 2, 34, 2, 0, 1, [])), (34, (2, 2, 37, 3, 0, 1, [])), (37, (1, 2, 40, 10, 0, 0, [])), (40, (2, 0, 41, 0, 2, 0, [])), (41, (3, 0, 44, 16, 2, 0, [])), (44, (2, 0, 45, 2, 0, 0, [])), (45, (2, 0, 46, 1, 0, 0, [])), (46, (5, 3, 49, 2, 2, 0, [])), (49, (6, 0, 50, 0, 0, 0, []))]
-- 79: SongToBridge$Bridge.hasSameSong(LSongToBridge$Bridge;)Z
def mm_p79 : List (Nat × mm_E) := [(0, (2, 0, 1, 0, 2, 0, [])), (1, (3, 0, 4, 19, 0, 0, [])), (4, (2, 0, 5, 1, 2, 0, [])), (5, (3, 0, 8, 19, 0, 0, [])), (8, (1, 1, 11, 13, 0, 0, [])), (11, (0, 0, 12, 0, 0, 0, [])), (12, (6, 0, 13, 0, 0, 0, [])), (13, (0, 0, 14, 0, 0, 0, [])), (14, (2, 1, 15, 2, 0, 0, [])), (15, (2, 0, 16, 2, 0, 0, [])), (16, (2, 0, 17, 0, 2, 0, [])), (17, (3, 0, 20, 19, 0, 0, [])), (20, (1, 1, 23, 46, 3, 0, [])), (23, (2, 0, 24, 0, 2, 0, [])), (24, (3, 0, 27, 20, 2, 0, [])), (27, (2, 0, 28, 2, 0, 0, [])), (28, (3, 2, 29, 0, 0, 0, [])), (29, (2, 0, 30, 1, 2, 0, [])), (30, (3, 0, 33, 20, 2, 0, [])), (33, (2, 0, 34, 2, 0, 0, [])), (34, (3, 2, 35, 0, 0, 0, [])), (35, (1, 1, 38, 40, 0, 0, [])), (38, (0, 0, 39, 0, 0, 0, [])), (39, (6, 0, 40, 0, 0, 0, [])), (40, (2, 2, 43, 2, 0, 1, [])), (43, (1, 2, 46, 15, 0, 0, [])), (46, (0, 0, 47, 0, 0, 1, [])), (47, (6, 0, 48, 0, 0, 0, []))]
-- 80: SongToBridge$Bridge.isInReach(II)Z
def mm_p80 : List (Nat × mm_E) := [(0, (2, 0, 1, 1, 0, 0, [])), (1, (2, 0, 2, 0, 2, 0, [])), (2, (3, 0, 5, 17, 0, 0, [])), (5, (1, 1, 8, 16, 0, 0, [])), (8, (2, 0, 9, 1, 0, 0, [])), (9, (2, 0, 10, 0, 2, 0, [])), (10, (3, 0, 13, 18, 0, 0, [])), (13, (1, 1, 16, 28, 1, 0, [])), (16, (2, 0, 17, 0, 2, 0, [])), (17, (3, 0, 20, 21, 0, 0, [])), (20, (2, 0, 21, 2, 0, 0, [])), (21, (1, 1, 24, 28, 4, 0, [])), (24, (0, 0, 25, 0, 0, 1, [])), (25, (1, 2, 28, 29, 0, 0, [])), (28, (0, 0, 29, 0, 0, 0, [])), (29, (6, 0, 30, 0, 0, 0, []))]
-- 81: SongToBridge$Bridge.endBits()I
def mm_p81 : List (Nat × mm_E) := [(0, (0, 0, 1, 0, 0, 1, [])), (1, (2, 0, 2, 0, 2, 0, [])), (2, (3, 0, 5, 17, 0, 0, [])), (5, (0, 2, 6, 0, 6, 0, [])), (6, (0, 0, 7, 0, 0, 1, [])), (7, (2, 0, 8, 0, 2, 0, [])), (8, (3, 0, 11, 18, 0, 0, [])), (11, (0, 2, 12, 0, 6, 0, [])), (12, (0, 2, 13, 0, 4, 0, [])), (13, (6, 0, 14, 0, 0, 0, []))]
-- 82: SongToBridge$Bridge.otherEnd(I)I
def mm_p82 : List (Nat × mm_E) := [(0, (2, 0, 1, 1, 0, 0, [])), (1, (2, 0, 2, 0, 2, 0, [])), (2, (3, 0, 5, 17, 0, 0, [])), (5, (1, 1, 8, 15, 1, 0, [])), (8, (2, 0, 9, 0, 2, 0, [])), (9, (3, 0, 12, 18, 0, 0, [])), (12, (1, 2, 15, 19, 0, 0, [])), (15, (2, 0, 16, 0, 2, 0, [])), (16, (3, 0, 19, 17, 0, 0, [])), (19, (6, 0, 20, 0, 0, 0, []))]
-- 83: SongToBridge$Singer.<init>()V
def mm_p83 : List (Nat × mm_E) := [(0, (2, 0, 1, 0, 2, 0, [])), (1, (3, 7, 4, 0, 0, 0, [])), (4, (2, 0, 5, 0, 2, 0, [])), (5, (0, 0, 6, 0, 0, 0, [])), (6, (3, 1, 9, 22, 0, 0, [])), (9, (2, 0, 10, 0, 2, 0, [])), (10, (0, 0, 11, 0, 0, 0, [])), (11, (3, 1, 14, 23, 0, 0, [])), (14, (2, 0, 15, 0, 2, 0, [])), (15, (0, 0, 16, 0, 0, 0, [])), (16, (3, 1, 19, 24, 0, 0, [])), (19, (2, 0, 20, 0, 2, 0, [])), (20, (0, 0, 21, 0, 0, 0, [])), (21, (3, 1, 24, 25, 0, 0, [])), (24, (2, 0, 25, 0, 2, 0, [])), (25, (0, 0, 26, 0, 0, 1, [])), (26, (3, 1, 29, 26, 0, 0, [])), (29, (2, 0, 30, 0, 2, 0, [])), (30, (0, 0, 31, 0, 0, 0, [])), (31, (3, 1, 34, 27, 0, 0, [])), (34, (2, 0, 35, 0, 2, 0, [])), (35, (0, 0, 36, 0, 0, 0, [])), (36, (3, 1, 39, 28, 0, 0, [])), (39, (2, 0, 40, 0, 2, 0, [])), (40, (0, 0, 42, 0, 0, 6, [])), (42, (4, 1, 44, 18, 0, 0, [])), (44, (3, 1, 47, 29, 2, 0, [])), (47, (6, 2, 48, 0, 0, 0, []))]
-- 84: SongToBridge$Singer.begin(IIIII)V
def mm_p84 : List (Nat × mm_E) := [(0, (2, 0, 1, 0, 2, 0, [])), (1, (2, 0, 2, 1, 0, 0, [])), (2, (3, 1, 5, 22, 0, 0, [])), (5, (2, 0, 6, 0, 2, 0, [])), (6, (2, 0, 7, 2, 0, 0, [])), (7, (3, 1, 10, 23, 0, 0, [])), (10, (2, 0, 11, 0, 2, 0, [])), (11, (2, 0, 12, 3, 0, 0, [])), (12, (3, 1, 15, 24, 0, 0, [])), (15, (2, 0, 16, 0, 2, 0, [])), (16, (2, 0, 17, 3, 0, 0, [])), (17, (3, 1, 20, 25, 0, 0, [])), (20, (2, 0, 21, 0, 2, 0, [])), (21, (2, 0, 23, 4, 0, 0, [])), (23, (3, 1, 26, 26, 0, 0, [])), (26, (2, 0, 27, 0, 2, 0, [])), (27, (2, 0, 29, 5, 0, 0, [])), (29, (3, 1, 32, 27, 0, 0, [])), (32, (2, 0, 33, 0, 2, 0, [])), (33, (0, 0, 34, 0, 0, 0, [])), (34, (3, 1, 37, 28, 0, 0, [])), (37, (2, 0, 38, 0, 2, 0, [])), (38, (3, 0, 41, 29, 2, 0, [])), (41, (0, 0, 42, 0, 0, 0, [])), (42, (5, 0, 45, 177, 2, 0, [])), (45, (6, 2, 46, 0, 0, 0, []))]
-- 85: SongToBridge$Singer.takeOver(LSongToBridge$Singer;)V
def mm_p85 : List (Nat × mm_E) := [(0, (2, 0, 1, 0, 2, 0, [])), (1, (2, 0, 2, 1, 2, 0, [])), (2, (3, 0, 5, 22, 0, 0, [])), (5, (3, 1, 8, 22, 0, 0, [])), (8, (2, 0, 9, 0, 2, 0, [])), (9, (2, 0, 10, 1, 2, 0, [])), (10, (3, 0, 13, 23, 0, 0, [])), (13, (3, 1, 16, 23, 0, 0, [])), (16, (2, 0, 17, 0, 2, 0, [])), (17, (2, 0, 18, 1, 2, 0, [])), (18, (3, 0, 21, 24, 0, 0, [])), (21, (3, 1, 24, 24, 0, 0, [])), (24, (2, 0, 25, 0, 2, 0, [])), (25, (2, 0, 26, 1, 2, 0, [])), (26, (3, 0, 29, 25, 0, 0, [])), (29, (3, 1, 32, 25, 0, 0, [])), (32, (2, 0, 33, 0, 2, 0, [])), (33, (2, 0, 34, 1, 2, 0, [])), (34, (3, 0, 37, 26, 0, 0, [])), (37, (3, 1, 40, 26, 0, 0, [])), (40, (2, 0, 41, 0, 2, 0, [])), (41, (2, 0, 42, 1, 2, 0, [])), (42, (3, 0, 45, 27, 0, 0, [])), (45, (3, 1, 48, 27, 0, 0, [])), (48, (2, 0, 49, 0, 2, 0, [])), (49, (2, 0, 50, 1, 2, 0, [])), (50, (3, 0, 53, 28, 0, 0, [])), (53, (3, 1, 56, 28, 0, 0, [])), (56, (2, 0, 57, 1, 2, 0, [])), (57, (3, 0, 60, 29, 2, 0, [])), (60, (0, 0, 61, 0, 0, 0, [])), (61, (2, 0, 62, 0, 2, 0, [])), (62, (3, 0, 65, 29, 2, 0, [])), (65, (0, 0, 66, 0, 0, 0, [])), (66, (0, 0, 68, 0, 0, 6, [])), (68, (3, 5, 71, 0, 0, 0, [])), (71, (6, 2, 72, 0, 0, 0, []))]
-- 86: SongToBridge$Singer.property(I)I
def mm_p86 : List (Nat × mm_E) := [(0, (2, 0, 1, 1, 0, 0, [])), (1, (1, 3, 40, 70, 0, 0, [40, 45, 50, 55, 60, 65])), (40, (2, 0, 41, 0, 2, 0, [])), (41, (3, 0, 44, 22, 0, 0, [])), (44, (6, 0, 45, 0, 0, 0, [])), (45, (2, 0, 46, 0, 2, 0, [])), (46, (3, 0, 49, 23, 0, 0, [])), (49, (6, 0, 50, 0, 0, 0, [])), (50, (2, 0, 51, 0, 2, 0, [])), (51, (3, 0, 54, 24, 0, 0, [])), (54, (6, 0, 55, 0, 0, 0, [])), (55, (2, 0, 56, 0, 2, 0, [])), (56, (3, 0, 59, 25, 0, 0, [])), (59, (6, 0, 60, 0, 0, 0, [])), (60, (2, 0, 61, 0, 2, 0, [])), (61, (3, 0, 64, 26, 0, 0, [])), (64, (6, 0, 65, 0, 0, 0, [])), (65, (2, 0, 66, 0, 2, 0, [])), (66, (3, 0, 69, 27, 0, 0, [])), (69, (6, 0, 70, 0, 0, 0, [])), (70, (2, 0, 71, 0, 2, 0, [])), (71, (5, 2, 74, 88, 0, 0, [])), (74, (6, 0, 75, 0, 0, 0, []))]
-- 87: SongToBridge$Singer.knows(I)Z
def mm_p87 : List (Nat × mm_E) := [(0, (2, 0, 1, 0, 2, 0, [])), (1, (3, 0, 4, 23, 0, 0, [])), (4, (2, 0, 5, 1, 0, 0, [])), (5, (0, 2, 6, 0, 7, 0, [])), (6, (0, 0, 7, 0, 0, 1, [])), (7, (0, 2, 8, 0, 3, 0, [])), (8, (1, 0, 11, 15, 0, 0, [])), (11, (0, 0, 12, 0, 0, 1, [])), (12, (1, 2, 15, 16, 0, 0, [])), (15, (0, 0, 16, 0, 0, 0, [])), (16, (6, 0, 17, 0, 0, 0, []))]
-- 88: SongToBridge$Singer.verseToForget()I
def mm_p88 : List (Nat × mm_E) := [(0, (0, 0, 1, 0, 0, (-1), [])), (1, (2, 1, 2, 1, 0, 0, [])), (2, (0, 0, 3, 0, 0, 0, [])), (3, (2, 1, 4, 2, 0, 0, [])), (4, (0, 0, 5, 0, 0, 0, [])), (5, (2, 1, 6, 3, 0, 0, [])), (6, (2, 0, 7, 3, 0, 0, [])), (7, (0, 0, 9, 0, 0, 6, [])), (9, (1, 1, 12, 50, 3, 0, [])), (12, (2, 0, 13, 0, 2, 0, [])), (13, (2, 0, 14, 3, 0, 0, [])), (14, (5, 2, 17, 87, 1, 0, [])), (17, (1, 0, 20, 44, 0, 0, [])), (20, (2, 0, 21, 1, 0, 0, [])), (21, (0, 0, 22, 0, 0, (-1), [])), (22, (1, 1, 25, 35, 0, 0, [])), (25, (2, 0, 26, 0, 2, 0, [])), (26, (3, 0, 29, 29, 2, 0, [])), (29, (2, 0, 30, 3, 0, 0, [])), (30, (3, 2, 31, 0, 0, 0, [])), (31, (2, 0, 32, 2, 0, 0, [])), (32, (1, 1, 35, 44, 3, 0, [])), (35, (2, 0, 36, 3, 0, 0, [])), (36, (2, 1, 37, 1, 0, 0, [])), (37, (2, 0, 38, 0, 2, 0, [])), (38, (3, 0, 41, 29, 2, 0, [])), (41, (2, 0, 42, 3, 0, 0, [])), (42, (3, 2, 43, 0, 0, 0, [])), (43, (2, 1, 44, 2, 0, 0, [])), (44, (2, 2, 47, 3, 0, 1, [])), (47, (1, 2, 50, 6, 0, 0, [])), (50, (2, 0, 51, 1, 0, 0, [])), (51, (6, 0, 52, 0, 0, 0, []))]
-- 89: SongToBridge$Singer.goOver(LSongToBridge$Bridge;)V
def mm_p89 : List (Nat × mm_E) := [(0, (2, 0, 1, 0, 2, 0, [])), (1, (2, 0, 2, 1, 2, 0, [])), (2, (2, 0, 3, 0, 2, 0, [])), (3, (3, 0, 6, 22, 0, 0, [])), (6, (5, 2, 9, 82, 1, 0, [])), (9, (3, 1, 12, 22, 0, 0, [])), (12, (2, 0, 13, 0, 2, 0, [])), (13, (0, 6, 14, 0, 0, 0, [])), (14, (3, 0, 17, 24, 0, 0, [])), (17, (2, 0, 18, 1, 2, 0, [])), (18, (3, 0, 21, 21, 0, 0, [])), (21, (0, 2, 22, 0, 1, 0, [])), (22, (3, 1, 25, 24, 0, 0, [])), (25, (2, 0, 26, 0, 2, 0, [])), (26, (2, 0, 27, 1, 2, 0, [])), (27, (5, 2, 30, 77, 0, 0, [])), (30, (5, 2, 33, 91, 1, 0, [])), (33, (6, 2, 34, 0, 0, 0, []))]
-- 90: SongToBridge$Singer.buy(II)V
def mm_p90 : List (Nat × mm_E) := [(0, (2, 0, 1, 0, 2, 0, [])), (1, (0, 6, 2, 0, 0, 0, [])), (2, (3, 0, 5, 27, 0, 0, [])), (5, (2, 0, 6, 2, 0, 0, [])), (6, (0, 2, 7, 0, 1, 0, [])), (7, (3, 1, 10, 27, 0, 0, [])), (10, (2, 0, 11, 0, 2, 0, [])), (11, (0, 6, 12, 0, 0, 0, [])), (12, (3, 0, 15, 23, 0, 0, [])), (15, (0, 0, 16, 0, 0, 1, [])), (16, (2, 0, 17, 1, 0, 0, [])), (17, (0, 2, 18, 0, 6, 0, [])), (18, (0, 2, 19, 0, 4, 0, [])), (19, (3, 1, 22, 23, 0, 0, [])), (22, (2, 0, 23, 0, 2, 0, [])), (23, (0, 0, 24, 0, 0, 1, [])), (24, (2, 0, 25, 1, 0, 0, [])), (25, (0, 2, 26, 0, 6, 0, [])), (26, (5, 2, 29, 91, 1, 0, [])), (29, (6, 2, 30, 0, 0, 0, []))]
-- 91: SongToBridge$Singer.useKnown(I)V
def mm_p91 : List (Nat × mm_E) := [(0, (2, 0, 1, 0, 2, 0, [])), (1, (0, 6, 2, 0, 0, 0, [])), (2, (3, 0, 5, 28, 0, 0, [])), (5, (0, 0, 6, 0, 0, 1, [])), (6, (0, 2, 7, 0, 0, 0, [])), (7, (3, 1, 10, 28, 0, 0, [])), (10, (0, 0, 11, 0, 0, 0, [])), (11, (2, 1, 12, 2, 0, 0, [])), (12, (2, 0, 13, 2, 0, 0, [])), (13, (0, 0, 15, 0, 0, 6, [])), (15, (1, 1, 18, 47, 3, 0, [])), (18, (2, 0, 19, 1, 0, 0, [])), (19, (2, 0, 20, 0, 2, 0, [])), (20, (3, 0, 23, 23, 0, 0, [])), (23, (0, 2, 24, 0, 3, 0, [])), (24, (0, 0, 25, 0, 0, 1, [])), (25, (2, 0, 26, 2, 0, 0, [])), (26, (0, 2, 27, 0, 6, 0, [])), (27, (0, 2, 28, 0, 3, 0, [])), (28, (1, 0, 31, 41, 0, 0, [])), (31, (2, 0, 32, 0, 2, 0, [])), (32, (3, 0, 35, 29, 2, 0, [])), (35, (2, 0, 36, 2, 0, 0, [])), (36, (2, 0, 37, 0, 2, 0, [])), (37, (3, 0, 40, 28, 0, 0, [])), (40, (3, 3, 41, 0, 0, 0, [])), (41, (2, 2, 44, 2, 0, 1, [])), (44, (1, 2, 47, 12, 0, 0, [])), (47, (6, 2, 48, 0, 0, 0, []))]
-- 92: SongToBridge$Singer.sleep()Z
def mm_p92 : List (Nat × mm_E) := [(0, (2, 0, 1, 0, 2, 0, [])), (1, (2, 0, 2, 0, 2, 0, [])), (2, (3, 0, 5, 25, 0, 0, [])), (5, (3, 1, 8, 24, 0, 0, [])), (8, (2, 0, 9, 0, 2, 0, [])), (9, (3, 0, 12, 23, 0, 0, [])), (12, (5, 0, 15, 176, 1, 0, [])), (15, (2, 0, 16, 0, 2, 0, [])), (16, (3, 0, 19, 26, 0, 0, [])), (19, (1, 1, 22, 24, 4, 0, [])), (22, (0, 0, 23, 0, 0, 0, [])), (23, (6, 0, 24, 0, 0, 0, [])), (24, (2, 0, 25, 0, 2, 0, [])), (25, (0, 6, 26, 0, 0, 0, [])), (26, (3, 0, 29, 23, 0, 0, [])), (29, (0, 0, 30, 0, 0, 1, [])), (30, (2, 0, 31, 0, 2, 0, [])), (31, (5, 2, 34, 88, 0, 0, [])), (34, (0, 2, 35, 0, 6, 0, [])), (35, (0, 0, 36, 0, 0, (-1), [])), (36, (0, 2, 37, 0, 5, 0, [])), (37, (0, 2, 38, 0, 3, 0, [])), (38, (3, 1, 41, 23, 0, 0, [])), (41, (0, 0, 42, 0, 0, 1, [])), (42, (6, 0, 43, 0, 0, 0, []))]
-- 93: SongToBridge$Ways.<init>(LSongToBridge$World;)V
def mm_p93 : List (Nat × mm_E) := [(0, (2, 0, 1, 0, 2, 0, [])), (1, (3, 7, 4, 0, 0, 0, [])), (4, (2, 0, 5, 0, 2, 0, [])), (5, (0, 0, 7, 0, 0, 6, [])), (7, (4, 1, 9, 19, 0, 0, [])), (9, (3, 1, 12, 31, 2, 0, [])), (12, (2, 0, 13, 0, 2, 0, [])), (13, (0, 0, 15, 0, 0, 64, [])), (15, (4, 1, 17, 20, 0, 0, [])), (17, (3, 1, 20, 32, 2, 0, [])), (20, (2, 0, 21, 0, 2, 0, [])), (21, (0, 0, 22, 0, 0, (-1), [])), (22, (3, 1, 25, 33, 0, 0, [])), (25, (2, 0, 26, 0, 2, 0, [])), (26, (0, 0, 27, 0, 0, (-1), [])), (27, (3, 1, 30, 34, 0, 0, [])), (30, (2, 0, 31, 0, 2, 0, [])), (31, (2, 0, 32, 1, 2, 0, [])), (32, (3, 1, 35, 30, 2, 0, [])), (35, (6, 2, 36, 0, 0, 0, []))]
-- 94: SongToBridge$Ways.homeBreath(LSongToBridge$Singer;I)I
def mm_p94 : List (Nat × mm_E) := [(0, (2, 0, 1, 0, 2, 0, [])), (1, (2, 0, 2, 2, 0, 0, [])), (2, (2, 0, 3, 0, 2, 0, [])), (3, (3, 0, 6, 30, 2, 0, [])), (6, (2, 0, 7, 1, 2, 0, [])), (7, (3, 0, 10, 23, 0, 0, [])), (10, (5, 2, 13, 69, 1, 0, [])), (13, (5, 2, 16, 96, 2, 0, [])), (16, (2, 0, 17, 0, 2, 0, [])), (17, (3, 0, 20, 31, 2, 0, [])), (20, (2, 0, 21, 1, 2, 0, [])), (21, (3, 0, 24, 22, 0, 0, [])), (24, (3, 2, 25, 0, 0, 0, [])), (25, (2, 1, 26, 3, 0, 0, [])), (26, (2, 0, 27, 3, 0, 0, [])), (27, (2, 0, 28, 1, 2, 0, [])), (28, (3, 0, 31, 24, 0, 0, [])), (31, (1, 1, 34, 38, 4, 0, [])), (34, (2, 0, 35, 3, 0, 0, [])), (35, (1, 2, 38, 39, 0, 0, [])), (38, (0, 0, 39, 0, 0, (-1), [])), (39, (6, 0, 40, 0, 0, 0, []))]
-- 95: SongToBridge$Ways.homeBridge(LSongToBridge$Singer;I)I
def mm_p95 : List (Nat × mm_E) := [(0, (2, 0, 1, 0, 2, 0, [])), (1, (2, 0, 2, 1, 2, 0, [])), (2, (2, 0, 3, 2, 0, 0, [])), (3, (5, 2, 6, 94, 2, 0, [])), (6, (2, 1, 7, 3, 0, 0, [])), (7, (2, 0, 8, 3, 0, 0, [])), (8, (0, 0, 9, 0, 0, (-1), [])), (9, (1, 1, 12, 14, 1, 0, [])), (12, (0, 0, 13, 0, 0, (-1), [])), (13, (6, 0, 14, 0, 0, 0, [])), (14, (0, 0, 15, 0, 0, 0, [])), (15, (2, 1, 17, 4, 0, 0, [])), (17, (2, 0, 19, 4, 0, 0, [])), (19, (2, 0, 20, 0, 2, 0, [])), (20, (3, 0, 23, 30, 2, 0, [])), (23, (3, 0, 26, 10, 0, 0, [])), (26, (1, 1, 29, 99, 3, 0, [])), (29, (2, 0, 30, 0, 2, 0, [])), (30, (3, 0, 33, 30, 2, 0, [])), (33, (3, 0, 36, 9, 2, 0, [])), (36, (2, 0, 38, 4, 0, 0, [])), (38, (3, 2, 39, 0, 2, 0, [])), (39, (2, 1, 41, 5, 2, 0, [])), (41, (2, 0, 43, 5, 2, 0, [])), (43, (2, 0, 44, 1, 2, 0, [])), (44, (3, 0, 47, 23, 0, 0, [])), (47, (5, 2, 50, 78, 1, 0, [])), (50, (1, 0, 53, 93, 0, 0, [])), (53, (2, 0, 55, 5, 2, 0, [])), (55, (2, 0, 56, 1, 2, 0, [])), (56, (3, 0, 59, 22, 0, 0, [])), (59, (2, 0, 60, 3, 0, 0, [])), (60, (5, 2, 63, 80, 2, 0, [])), (63, (1, 0, 66, 93, 0, 0, [])), (66, (2, 0, 68, 5, 2, 0, [])), (68, (3, 0, 71, 21, 0, 0, [])), (71, (2, 0, 72, 0, 2, 0, [])), (72, (3, 0, 75, 31, 2, 0, [])), (75, (2, 0, 77, 5, 2, 0, [])), (77, (2, 0, 78, 1, 2, 0, [])), (78, (3, 0, 81, 22, 0, 0, [])), (81, (5, 2, 84, 82, 1, 0, [])), (84, (3, 2, 85, 0, 0, 0, [])), (85, (0, 2, 86, 0, 0, 0, [])), (86, (2, 0, 87, 3, 0, 0, [])), (87, (1, 1, 90, 93, 1, 0, [])), (90, (2, 0, 92, 4, 0, 0, [])), (92, (6, 0, 93, 0, 0, 0, [])), (93, (2, 2, 96, 4, 0, 1, [])), (96, (1, 2, 99, 17, 0, 0, [])), (99, (0, 0, 100, 0, 0, (-1), [])), (100, (6, 0, 101, 0, 0, 0, []))]
-- 96: SongToBridge$Ways.measureFrom(II)V
def mm_p96 : List (Nat × mm_E) := [(0, (2, 0, 1, 0, 2, 0, [])), (1, (3, 0, 4, 31, 2, 0, [])), (4, (0, 0, 7, 0, 0, 10000, [])), (7, (5, 0, 10, 177, 2, 0, [])), (10, (2, 0, 11, 0, 2, 0, [])), (11, (3, 0, 14, 31, 2, 0, [])), (14, (2, 0, 15, 1, 0, 0, [])), (15, (0, 0, 16, 0, 0, 0, [])), (16, (3, 3, 17, 0, 0, 0, [])), (17, (0, 0, 18, 0, 0, 1, [])), (18, (2, 1, 19, 3, 0, 0, [])), (19, (2, 0, 20, 3, 0, 0, [])), (20, (0, 0, 22, 0, 0, 6, [])), (22, (1, 1, 25, 75, 3, 0, [])), (25, (0, 0, 26, 0, 0, 0, [])), (26, (2, 1, 28, 4, 0, 0, [])), (28, (2, 0, 30, 4, 0, 0, [])), (30, (2, 0, 31, 0, 2, 0, [])), (31, (3, 0, 34, 30, 2, 0, [])), (34, (3, 0, 37, 10, 0, 0, [])), (37, (1, 1, 40, 69, 3, 0, [])), (40, (2, 0, 41, 2, 0, 0, [])), (41, (2, 0, 43, 4, 0, 0, [])), (43, (0, 2, 44, 0, 7, 0, [])), (44, (0, 0, 45, 0, 0, 1, [])), (45, (0, 2, 46, 0, 3, 0, [])), (46, (1, 0, 49, 63, 0, 0, [])), (49, (2, 0, 50, 0, 2, 0, [])), (50, (2, 0, 51, 0, 2, 0, [])), (51, (3, 0, 54, 30, 2, 0, [])), (54, (3, 0, 57, 9, 2, 0, [])), (57, (2, 0, 59, 4, 0, 0, [])), (59, (3, 2, 60, 0, 2, 0, [])), (60, (5, 2, 63, 97, 1, 0, [])), (63, (2, 2, 66, 4, 0, 1, [])), (66, (1, 2, 69, 28, 0, 0, [])), (69, (2, 2, 72, 3, 0, 1, [])), (72, (1, 2, 75, 19, 0, 0, [])), (75, (6, 2, 76, 0, 0, 0, []))]
-- 97: SongToBridge$Ways.shorten(LSongToBridge$Bridge;)V
def mm_p97 : List (Nat × mm_E) := [(0, (2, 0, 1, 0, 2, 0, [])), (1, (3, 0, 4, 31, 2, 0, [])), (4, (2, 0, 5, 1, 2, 0, [])), (5, (3, 0, 8, 18, 0, 0, [])), (8, (2, 0, 9, 0, 2, 0, [])), (9, (3, 0, 12, 31, 2, 0, [])), (12, (2, 0, 13, 1, 2, 0, [])), (13, (3, 0, 16, 18, 0, 0, [])), (16, (3, 2, 17, 0, 0, 0, [])), (17, (2, 0, 18, 0, 2, 0, [])), (18, (3, 0, 21, 31, 2, 0, [])), (21, (2, 0, 22, 1, 2, 0, [])), (22, (3, 0, 25, 17, 0, 0, [])), (25, (3, 2, 26, 0, 0, 0, [])), (26, (2, 0, 27, 1, 2, 0, [])), (27, (3, 0, 30, 21, 0, 0, [])), (30, (0, 2, 31, 0, 0, 0, [])), (31, (3, 8, 34, 0, 0, 0, [])), (34, (3, 3, 35, 0, 0, 0, [])), (35, (2, 0, 36, 0, 2, 0, [])), (36, (3, 0, 39, 31, 2, 0, [])), (39, (2, 0, 40, 1, 2, 0, [])), (40, (3, 0, 43, 17, 0, 0, [])), (43, (2, 0, 44, 0, 2, 0, [])), (44, (3, 0, 47, 31, 2, 0, [])), (47, (2, 0, 48, 1, 2, 0, [])), (48, (3, 0, 51, 17, 0, 0, [])), (51, (3, 2, 52, 0, 0, 0, [])), (52, (2, 0, 53, 0, 2, 0, [])), (53, (3, 0, 56, 31, 2, 0, [])), (56, (2, 0, 57, 1, 2, 0, [])), (57, (3, 0, 60, 18, 0, 0, [])), (60, (3, 2, 61, 0, 0, 0, [])), (61, (2, 0, 62, 1, 2, 0, [])), (62, (3, 0, 65, 21, 0, 0, [])), (65, (0, 2, 66, 0, 0, 0, [])), (66, (3, 8, 69, 0, 0, 0, [])), (69, (3, 3, 70, 0, 0, 0, [])), (70, (6, 2, 71, 0, 0, 0, []))]
-- 98: SongToBridge$Ways.placesInBreath(LSongToBridge$Singer;I)I
def mm_p98 : List (Nat × mm_E) := [(0, (2, 0, 1, 0, 2, 0, [])), (1, (2, 0, 2, 1, 2, 0, [])), (2, (3, 0, 5, 22, 0, 0, [])), (5, (2, 0, 6, 0, 2, 0, [])), (6, (3, 0, 9, 30, 2, 0, [])), (9, (2, 0, 10, 2, 0, 0, [])), (10, (5, 2, 13, 69, 1, 0, [])), (13, (5, 2, 16, 96, 2, 0, [])), (16, (0, 0, 17, 0, 0, 0, [])), (17, (2, 1, 18, 3, 0, 0, [])), (18, (0, 0, 19, 0, 0, 0, [])), (19, (2, 1, 21, 4, 0, 0, [])), (21, (2, 0, 23, 4, 0, 0, [])), (23, (0, 0, 25, 0, 0, 6, [])), (25, (1, 1, 28, 55, 3, 0, [])), (28, (2, 0, 29, 0, 2, 0, [])), (29, (3, 0, 32, 31, 2, 0, [])), (32, (2, 0, 34, 4, 0, 0, [])), (34, (3, 2, 35, 0, 0, 0, [])), (35, (2, 0, 36, 1, 2, 0, [])), (36, (3, 0, 39, 24, 0, 0, [])), (39, (1, 1, 42, 49, 4, 0, [])), (42, (2, 0, 43, 3, 0, 0, [])), (43, (0, 0, 44, 0, 0, 1, [])), (44, (2, 0, 46, 4, 0, 0, [])), (46, (0, 2, 47, 0, 6, 0, [])), (47, (0, 2, 48, 0, 4, 0, [])), (48, (2, 1, 49, 3, 0, 0, [])), (49, (2, 2, 52, 4, 0, 1, [])), (52, (1, 2, 55, 21, 0, 0, [])), (55, (2, 0, 56, 3, 0, 0, [])), (56, (6, 0, 57, 0, 0, 0, []))]
-- 99: SongToBridge$Ways.verseToLearn(LSongToBridge$Singer;)I
def mm_p99 : List (Nat × mm_E) := [(0, (2, 0, 1, 0, 2, 0, [])), (1, (3, 0, 4, 30, 2, 0, [])), (4, (3, 0, 7, 13, 2, 0, [])), (7, (2, 0, 8, 1, 2, 0, [])), (8, (3, 0, 11, 22, 0, 0, [])), (11, (3, 2, 12, 0, 2, 0, [])), (12, (2, 1, 13, 2, 2, 0, [])), (13, (0, 0, 14, 0, 0, (-1), [])), (14, (2, 1, 15, 3, 0, 0, [])), (15, (2, 0, 16, 0, 2, 0, [])), (16, (2, 0, 17, 1, 2, 0, [])), (17, (2, 0, 18, 1, 2, 0, [])), (18, (3, 0, 21, 23, 0, 0, [])), (21, (5, 2, 24, 98, 2, 0, [])), (24, (5, 0, 27, 176, 1, 0, [])), (27, (2, 1, 29, 4, 0, 0, [])), (29, (0, 0, 30, 0, 0, 0, [])), (30, (2, 1, 32, 5, 0, 0, [])), (32, (2, 0, 34, 5, 0, 0, [])), (34, (0, 0, 36, 0, 0, 6, [])), (36, (1, 1, 39, 106, 3, 0, [])), (39, (2, 0, 40, 1, 2, 0, [])), (40, (2, 0, 42, 5, 0, 0, [])), (42, (5, 2, 45, 87, 1, 0, [])), (45, (1, 0, 48, 100, 1, 0, [])), (48, (2, 0, 49, 2, 2, 0, [])), (49, (2, 0, 51, 5, 0, 0, [])), (51, (3, 2, 52, 0, 0, 0, [])), (52, (0, 0, 53, 0, 0, (-1), [])), (53, (1, 1, 56, 100, 0, 0, [])), (56, (2, 0, 57, 2, 2, 0, [])), (57, (2, 0, 59, 5, 0, 0, [])), (59, (3, 2, 60, 0, 0, 0, [])), (60, (2, 0, 61, 1, 2, 0, [])), (61, (3, 0, 64, 27, 0, 0, [])), (64, (1, 1, 67, 100, 4, 0, [])), (67, (2, 0, 68, 0, 2, 0, [])), (68, (2, 0, 69, 1, 2, 0, [])), (69, (2, 0, 70, 1, 2, 0, [])), (70, (3, 0, 73, 23, 0, 0, [])), (73, (0, 0, 74, 0, 0, 1, [])), (74, (2, 0, 76, 5, 0, 0, [])), (76, (0, 2, 77, 0, 6, 0, [])), (77, (0, 2, 78, 0, 4, 0, [])), (78, (5, 2, 81, 98, 2, 0, [])), (81, (5, 0, 84, 176, 1, 0, [])), (84, (2, 1, 86, 6, 0, 0, [])), (86, (2, 0, 88, 6, 0, 0, [])), (88, (2, 0, 90, 4, 0, 0, [])), (90, (1, 1, 93, 100, 5, 0, [])), (93, (2, 0, 95, 6, 0, 0, [])), (95, (2, 1, 97, 4, 0, 0, [])), (97, (2, 0, 99, 5, 0, 0, [])), (99, (2, 1, 100, 3, 0, 0, [])), (100, (2, 2, 103, 5, 0, 1, [])), (103, (1, 2, 106, 32, 0, 0, [])), (106, (2, 0, 107, 3, 0, 0, [])), (107, (6, 0, 108, 0, 0, 0, []))]
-- 100: SongToBridge$Ways.findLessons(LSongToBridge$Singer;I)V
def mm_p100 : List (Nat × mm_E) := [(0, (2, 0, 1, 0, 2, 0, [])), (1, (0, 0, 2, 0, 0, (-1), [])), (2, (3, 1, 5, 33, 0, 0, [])), (5, (2, 0, 6, 0, 2, 0, [])), (6, (0, 0, 7, 0, 0, (-1), [])), (7, (3, 1, 10, 34, 0, 0, [])), (10, (2, 0, 11, 1, 2, 0, [])), (11, (3, 0, 14, 27, 0, 0, [])), (14, (0, 0, 15, 0, 0, 1, [])), (15, (0, 2, 16, 0, 0, 0, [])), (16, (2, 1, 17, 3, 0, 0, [])), (17, (2, 0, 18, 0, 2, 0, [])), (18, (3, 0, 21, 32, 2, 0, [])), (21, (0, 0, 24, 0, 0, 10000, [])), (24, (5, 0, 27, 177, 2, 0, [])), (27, (2, 0, 28, 0, 2, 0, [])), (28, (3, 0, 31, 32, 2, 0, [])), (31, (2, 0, 32, 1, 2, 0, [])), (32, (3, 0, 35, 23, 0, 0, [])), (35, (0, 0, 36, 0, 0, 0, [])), (36, (3, 3, 37, 0, 0, 0, [])), (37, (2, 0, 38, 1, 2, 0, [])), (38, (3, 0, 41, 23, 0, 0, [])), (41, (2, 1, 43, 4, 0, 0, [])), (43, (2, 0, 45, 4, 0, 0, [])), (45, (0, 0, 47, 0, 0, 63, [])), (47, (1, 1, 50, 125, 4, 0, [])), (50, (2, 0, 51, 0, 2, 0, [])), (51, (3, 0, 54, 32, 2, 0, [])), (54, (2, 0, 56, 4, 0, 0, [])), (56, (3, 2, 57, 0, 0, 0, [])), (57, (2, 0, 58, 3, 0, 0, [])), (58, (1, 1, 61, 119, 3, 0, [])), (61, (2, 0, 62, 0, 2, 0, [])), (62, (3, 0, 65, 30, 2, 0, [])), (65, (2, 0, 66, 1, 2, 0, [])), (66, (3, 0, 69, 22, 0, 0, [])), (69, (2, 0, 71, 4, 0, 0, [])), (71, (5, 2, 74, 70, 2, 0, [])), (74, (2, 1, 76, 5, 0, 0, [])), (76, (2, 0, 78, 5, 0, 0, [])), (78, (2, 0, 79, 2, 0, 0, [])), (79, (0, 2, 80, 0, 7, 0, [])), (80, (0, 0, 81, 0, 0, 1, [])), (81, (0, 2, 82, 0, 3, 0, [])), (82, (1, 0, 85, 111, 0, 0, [])), (85, (2, 0, 86, 0, 2, 0, [])), (86, (3, 0, 89, 32, 2, 0, [])), (89, (2, 0, 91, 4, 0, 0, [])), (91, (3, 2, 92, 0, 0, 0, [])), (92, (2, 1, 93, 3, 0, 0, [])), (93, (2, 0, 94, 0, 2, 0, [])), (94, (2, 0, 95, 3, 0, 0, [])), (95, (3, 1, 98, 33, 0, 0, [])), (98, (2, 0, 99, 0, 2, 0, [])), (99, (2, 0, 101, 4, 0, 0, [])), (101, (2, 0, 102, 1, 2, 0, [])), (102, (3, 0, 105, 23, 0, 0, [])), (105, (0, 0, 106, 0, 0, (-1), [])), (106, (0, 2, 107, 0, 5, 0, [])), (107, (0, 2, 108, 0, 3, 0, [])), (108, (3, 1, 111, 34, 0, 0, [])), (111, (2, 0, 112, 0, 2, 0, [])), (112, (2, 0, 114, 4, 0, 0, [])), (114, (2, 0, 116, 5, 0, 0, [])), (116, (5, 2, 119, 101, 2, 0, [])), (119, (2, 2, 122, 4, 0, 1, [])), (122, (1, 2, 125, 43, 0, 0, [])), (125, (6, 2, 126, 0, 0, 0, []))]
-- 101: SongToBridge$Ways.learnMore(II)V
def mm_p101 : List (Nat × mm_E) := [(0, (0, 0, 1, 0, 0, 0, [])), (1, (2, 1, 2, 3, 0, 0, [])), (2, (2, 0, 3, 3, 0, 0, [])), (3, (0, 0, 5, 0, 0, 6, [])), (5, (1, 1, 8, 57, 3, 0, [])), (8, (2, 0, 9, 1, 0, 0, [])), (9, (0, 0, 10, 0, 0, 1, [])), (10, (2, 0, 11, 3, 0, 0, [])), (11, (0, 2, 12, 0, 6, 0, [])), (12, (0, 2, 13, 0, 4, 0, [])), (13, (2, 1, 15, 4, 0, 0, [])), (15, (2, 0, 17, 4, 0, 0, [])), (17, (2, 0, 18, 1, 0, 0, [])), (18, (1, 1, 21, 51, 0, 0, [])), (21, (2, 0, 22, 0, 2, 0, [])), (22, (3, 0, 25, 32, 2, 0, [])), (25, (2, 0, 27, 4, 0, 0, [])), (27, (2, 0, 28, 0, 2, 0, [])), (28, (3, 0, 31, 32, 2, 0, [])), (31, (2, 0, 33, 4, 0, 0, [])), (33, (3, 2, 34, 0, 0, 0, [])), (34, (2, 0, 35, 0, 2, 0, [])), (35, (3, 0, 38, 32, 2, 0, [])), (38, (2, 0, 39, 1, 0, 0, [])), (39, (3, 2, 40, 0, 0, 0, [])), (40, (2, 0, 41, 0, 2, 0, [])), (41, (2, 0, 42, 3, 0, 0, [])), (42, (2, 0, 43, 2, 0, 0, [])), (43, (5, 2, 46, 102, 2, 0, [])), (46, (0, 2, 47, 0, 0, 0, [])), (47, (3, 8, 50, 0, 0, 0, [])), (50, (3, 3, 51, 0, 0, 0, [])), (51, (2, 2, 54, 3, 0, 1, [])), (54, (1, 2, 57, 2, 0, 0, [])), (57, (6, 2, 58, 0, 0, 0, []))]
-- 102: SongToBridge$Ways.leastFee(II)I
def mm_p102 : List (Nat × mm_E) := [(0, (0, 0, 3, 0, 0, 10000, [])), (3, (2, 1, 4, 3, 0, 0, [])), (4, (0, 0, 5, 0, 0, 0, [])), (5, (2, 1, 7, 4, 0, 0, [])), (7, (2, 0, 9, 4, 0, 0, [])), (9, (0, 0, 11, 0, 0, 6, [])), (11, (1, 1, 14, 56, 3, 0, [])), (14, (2, 0, 15, 0, 2, 0, [])), (15, (3, 0, 18, 30, 2, 0, [])), (18, (3, 0, 21, 13, 2, 0, [])), (21, (2, 0, 23, 4, 0, 0, [])), (23, (3, 2, 24, 0, 2, 0, [])), (24, (2, 0, 25, 1, 0, 0, [])), (25, (3, 2, 26, 0, 0, 0, [])), (26, (2, 1, 28, 5, 0, 0, [])), (28, (2, 0, 29, 2, 0, 0, [])), (29, (2, 0, 31, 4, 0, 0, [])), (31, (0, 2, 32, 0, 7, 0, [])), (32, (0, 0, 33, 0, 0, 1, [])), (33, (0, 2, 34, 0, 3, 0, [])), (34, (1, 0, 37, 50, 0, 0, [])), (37, (2, 0, 39, 5, 0, 0, [])), (39, (0, 0, 40, 0, 0, (-1), [])), (40, (1, 1, 43, 50, 0, 0, [])), (43, (2, 0, 44, 3, 0, 0, [])), (44, (2, 0, 46, 5, 0, 0, [])), (46, (3, 8, 49, 0, 0, 0, [])), (49, (2, 1, 50, 3, 0, 0, [])), (50, (2, 2, 53, 4, 0, 1, [])), (53, (1, 2, 56, 7, 0, 0, [])), (56, (2, 0, 57, 3, 0, 0, [])), (57, (6, 0, 58, 0, 0, 0, []))]
-- 103: SongToBridge$Ways.leastChoir(II)I
def mm_p103 : List (Nat × mm_E) := [(0, (0, 0, 1, 0, 0, (-1), [])), (1, (2, 1, 2, 3, 0, 0, [])), (2, (0, 0, 4, 0, 0, 6, [])), (4, (2, 1, 6, 4, 0, 0, [])), (6, (0, 0, 7, 0, 0, 0, [])), (7, (2, 1, 9, 5, 0, 0, [])), (9, (2, 0, 11, 5, 0, 0, [])), (11, (0, 0, 12, 0, 0, 1, [])), (12, (2, 0, 13, 0, 2, 0, [])), (13, (3, 0, 16, 30, 2, 0, [])), (16, (3, 0, 19, 12, 0, 0, [])), (19, (0, 2, 20, 0, 6, 0, [])), (20, (1, 1, 23, 71, 3, 0, [])), (23, (2, 0, 25, 5, 0, 0, [])), (25, (5, 0, 28, 176, 1, 0, [])), (28, (2, 1, 30, 6, 0, 0, [])), (30, (2, 0, 32, 6, 0, 0, [])), (32, (2, 0, 34, 4, 0, 0, [])), (34, (1, 1, 37, 65, 3, 0, [])), (37, (2, 0, 38, 0, 2, 0, [])), (38, (3, 0, 41, 30, 2, 0, [])), (41, (2, 0, 42, 1, 0, 0, [])), (42, (2, 0, 43, 0, 2, 0, [])), (43, (2, 0, 45, 5, 0, 0, [])), (45, (5, 2, 48, 104, 1, 0, [])), (48, (5, 2, 51, 70, 2, 0, [])), (51, (2, 0, 52, 2, 0, 0, [])), (52, (0, 2, 53, 0, 7, 0, [])), (53, (0, 0, 54, 0, 0, 1, [])), (54, (0, 2, 55, 0, 3, 0, [])), (55, (1, 0, 58, 65, 0, 0, [])), (58, (2, 0, 60, 5, 0, 0, [])), (60, (2, 1, 61, 3, 0, 0, [])), (61, (2, 0, 63, 6, 0, 0, [])), (63, (2, 1, 65, 4, 0, 0, [])), (65, (2, 2, 68, 5, 0, 1, [])), (68, (1, 2, 71, 9, 0, 0, [])), (71, (2, 0, 72, 3, 0, 0, [])), (72, (6, 0, 73, 0, 0, 0, []))]
-- 104: SongToBridge$Ways.versesOf(I)I
def mm_p104 : List (Nat × mm_E) := [(0, (0, 0, 1, 0, 0, 0, [])), (1, (2, 1, 2, 2, 0, 0, [])), (2, (0, 0, 3, 0, 0, 0, [])), (3, (2, 1, 4, 3, 0, 0, [])), (4, (2, 0, 5, 3, 0, 0, [])), (5, (2, 0, 6, 0, 2, 0, [])), (6, (3, 0, 9, 30, 2, 0, [])), (9, (3, 0, 12, 12, 0, 0, [])), (12, (1, 1, 15, 44, 3, 0, [])), (15, (2, 0, 16, 1, 0, 0, [])), (16, (2, 0, 17, 3, 0, 0, [])), (17, (0, 2, 18, 0, 7, 0, [])), (18, (0, 0, 19, 0, 0, 1, [])), (19, (0, 2, 20, 0, 3, 0, [])), (20, (1, 0, 23, 38, 0, 0, [])), (23, (2, 0, 24, 2, 0, 0, [])), (24, (2, 0, 25, 0, 2, 0, [])), (25, (3, 0, 28, 30, 2, 0, [])), (28, (3, 0, 31, 11, 2, 0, [])), (31, (2, 0, 32, 3, 0, 0, [])), (32, (3, 2, 33, 0, 2, 0, [])), (33, (3, 0, 36, 23, 0, 0, [])), (36, (0, 2, 37, 0, 4, 0, [])), (37, (2, 1, 38, 2, 0, 0, [])), (38, (2, 2, 41, 3, 0, 1, [])), (41, (1, 2, 44, 4, 0, 0, [])), (44, (2, 0, 45, 2, 0, 0, [])), (45, (6, 0, 46, 0, 0, 0, []))]
-- 105: SongToBridge$Wanderer.<init>(LSongToBridge$World;)V
def mm_p105 : List (Nat × mm_E) := [(0, (2, 0, 1, 0, 2, 0, [])), (1, (3, 7, 4, 0, 0, 0, [])), (4, (2, 0, 5, 0, 2, 0, [])), (5, (0, 0, 6, 0, 0, 0, [])), (6, (3, 1, 9, 36, 0, 0, [])), (9, (2, 0, 10, 0, 2, 0, [])), (10, (0, 0, 11, 0, 0, 0, [])), (11, (3, 1, 14, 37, 0, 0, [])), (14, (2, 0, 15, 0, 2, 0, [])), (15, (0, 0, 16, 0, 0, 0, [])), (16, (3, 1, 19, 38, 0, 0, [])), (19, (2, 0, 20, 0, 2, 0, [])), (20, (0, 0, 21, 0, 0, 0, [])), (21, (3, 1, 24, 39, 0, 0, [])), (24, (2, 0, 25, 0, 2, 0, [])), (25, (0, 1, 26, 0, 0, 0, [])), (26, (3, 1, 29, 40, 1, 0, [])), (29, (2, 0, 30, 0, 2, 0, [])), (30, (2, 0, 31, 1, 2, 0, [])), (31, (3, 1, 34, 35, 2, 0, [])), (34, (6, 2, 35, 0, 0, 0, []))]
-- 106: SongToBridge$Wanderer.begin(LSongToBridge$Singer;I)V
def mm_p106 : List (Nat × mm_E) := [(0, (2, 0, 1, 0, 2, 0, [])), (1, (2, 0, 2, 0, 2, 0, [])), (2, (3, 0, 5, 35, 2, 0, [])), (5, (2, 0, 6, 1, 2, 0, [])), (6, (3, 0, 9, 23, 0, 0, [])), (9, (5, 2, 12, 69, 1, 0, [])), (12, (3, 1, 15, 36, 0, 0, [])), (15, (2, 0, 16, 0, 2, 0, [])), (16, (2, 0, 17, 1, 2, 0, [])), (17, (3, 0, 20, 22, 0, 0, [])), (20, (3, 1, 23, 37, 0, 0, [])), (23, (2, 0, 24, 0, 2, 0, [])), (24, (2, 0, 25, 1, 2, 0, [])), (25, (3, 0, 28, 24, 0, 0, [])), (28, (3, 1, 31, 38, 0, 0, [])), (31, (2, 0, 32, 0, 2, 0, [])), (32, (0, 0, 33, 0, 0, 0, [])), (33, (3, 1, 36, 39, 0, 0, [])), (36, (2, 0, 37, 0, 2, 0, [])), (37, (2, 0, 38, 2, 0, 0, [])), (38, (0, 5, 39, 0, 0, 0, [])), (39, (3, 1, 42, 40, 1, 0, [])), (42, (6, 2, 43, 0, 0, 0, []))]
-- 107: SongToBridge$Wanderer.takeTurn()V
def mm_p107 : List (Nat × mm_E) := [(0, (0, 0, 1, 0, 0, 0, [])), (1, (2, 1, 2, 1, 0, 0, [])), (2, (0, 0, 3, 0, 0, 0, [])), (3, (2, 1, 4, 2, 0, 0, [])), (4, (2, 0, 5, 2, 0, 0, [])), (5, (2, 0, 6, 0, 2, 0, [])), (6, (3, 0, 9, 35, 2, 0, [])), (9, (3, 0, 12, 10, 0, 0, [])), (12, (1, 1, 15, 32, 3, 0, [])), (15, (2, 0, 16, 0, 2, 0, [])), (16, (2, 0, 17, 2, 0, 0, [])), (17, (5, 2, 20, 109, 1, 0, [])), (20, (1, 0, 23, 26, 0, 0, [])), (23, (2, 2, 26, 1, 0, 1, [])), (26, (2, 2, 29, 2, 0, 1, [])), (29, (1, 2, 32, 4, 0, 0, [])), (32, (2, 0, 33, 1, 0, 0, [])), (33, (1, 0, 36, 45, 5, 0, [])), (36, (2, 0, 37, 0, 2, 0, [])), (37, (2, 0, 38, 0, 2, 0, [])), (38, (2, 0, 39, 1, 0, 0, [])), (39, (5, 2, 42, 110, 1, 0, [])), (42, (5, 2, 45, 108, 1, 0, [])), (45, (6, 2, 46, 0, 0, 0, []))]
-- 108: SongToBridge$Wanderer.goOverChoice(I)V
def mm_p108 : List (Nat × mm_E) := [(0, (2, 0, 1, 1, 0, 0, [])), (1, (2, 1, 2, 2, 0, 0, [])), (2, (0, 0, 3, 0, 0, 0, [])), (3, (2, 1, 4, 3, 0, 0, [])), (4, (2, 0, 5, 3, 0, 0, [])), (5, (2, 0, 6, 0, 2, 0, [])), (6, (3, 0, 9, 35, 2, 0, [])), (9, (3, 0, 12, 10, 0, 0, [])), (12, (1, 1, 15, 88, 3, 0, [])), (15, (2, 0, 16, 0, 2, 0, [])), (16, (2, 0, 17, 3, 0, 0, [])), (17, (5, 2, 20, 109, 1, 0, [])), (20, (1, 0, 23, 82, 0, 0, [])), (23, (2, 0, 24, 2, 0, 0, [])), (24, (1, 0, 27, 79, 1, 0, [])), (27, (2, 0, 28, 0, 2, 0, [])), (28, (0, 6, 29, 0, 0, 0, [])), (29, (3, 0, 32, 38, 0, 0, [])), (32, (2, 0, 33, 0, 2, 0, [])), (33, (3, 0, 36, 35, 2, 0, [])), (36, (3, 0, 39, 9, 2, 0, [])), (39, (2, 0, 40, 3, 0, 0, [])), (40, (3, 2, 41, 0, 2, 0, [])), (41, (3, 0, 44, 21, 0, 0, [])), (44, (0, 2, 45, 0, 1, 0, [])), (45, (3, 1, 48, 38, 0, 0, [])), (48, (2, 0, 49, 0, 2, 0, [])), (49, (2, 0, 50, 0, 2, 0, [])), (50, (3, 0, 53, 35, 2, 0, [])), (53, (3, 0, 56, 9, 2, 0, [])), (56, (2, 0, 57, 3, 0, 0, [])), (57, (3, 2, 58, 0, 2, 0, [])), (58, (2, 0, 59, 0, 2, 0, [])), (59, (3, 0, 62, 37, 0, 0, [])), (62, (5, 2, 65, 82, 1, 0, [])), (65, (3, 1, 68, 37, 0, 0, [])), (68, (2, 0, 69, 0, 2, 0, [])), (69, (0, 6, 70, 0, 0, 0, [])), (70, (3, 0, 73, 39, 0, 0, [])), (73, (0, 0, 74, 0, 0, 1, [])), (74, (0, 2, 75, 0, 0, 0, [])), (75, (3, 1, 78, 39, 0, 0, [])), (78, (6, 2, 79, 0, 0, 0, [])), (79, (2, 2, 82, 2, 0, (-1), [])), (82, (2, 2, 85, 3, 0, 1, [])), (85, (1, 2, 88, 4, 0, 0, [])), (88, (6, 2, 89, 0, 0, 0, []))]
-- 109: SongToBridge$Wanderer.canTake(I)Z
def mm_p109 : List (Nat × mm_E) := [(0, (2, 0, 1, 0, 2, 0, [])), (1, (3, 0, 4, 36, 0, 0, [])), (4, (2, 0, 5, 1, 0, 0, [])), (5, (0, 2, 6, 0, 7, 0, [])), (6, (0, 0, 7, 0, 0, 1, [])), (7, (0, 2, 8, 0, 3, 0, [])), (8, (1, 0, 11, 38, 0, 0, [])), (11, (2, 0, 12, 0, 2, 0, [])), (12, (3, 0, 15, 35, 2, 0, [])), (15, (3, 0, 18, 9, 2, 0, [])), (18, (2, 0, 19, 1, 0, 0, [])), (19, (3, 2, 20, 0, 2, 0, [])), (20, (2, 0, 21, 0, 2, 0, [])), (21, (3, 0, 24, 37, 0, 0, [])), (24, (2, 0, 25, 0, 2, 0, [])), (25, (3, 0, 28, 38, 0, 0, [])), (28, (5, 2, 31, 80, 2, 0, [])), (31, (1, 0, 34, 38, 0, 0, [])), (34, (0, 0, 35, 0, 0, 1, [])), (35, (1, 2, 38, 39, 0, 0, [])), (38, (0, 0, 39, 0, 0, 0, [])), (39, (6, 0, 40, 0, 0, 0, []))]
-- 110: SongToBridge$Wanderer.draw(I)I
def mm_p110 : List (Nat × mm_E) := [(0, (2, 0, 1, 0, 2, 0, [])), (1, (0, 1, 4, 691, 0, 1103515245, [])), (4, (2, 0, 5, 0, 2, 0, [])), (5, (3, 0, 8, 40, 1, 0, [])), (8, (0, 3, 9, 0, 1, 0, [])), (9, (0, 1, 12, 692, 0, 12345, [])), (12, (0, 3, 13, 0, 0, 0, [])), (13, (0, 1, 16, 693, 0, 2147483647, [])), (16, (0, 3, 17, 0, 2, 0, [])), (17, (3, 1, 20, 40, 1, 0, [])), (20, (2, 0, 21, 1, 0, 0, [])), (21, (1, 0, 24, 39, 5, 0, [])), (24, (2, 0, 25, 0, 2, 0, [])), (25, (3, 0, 28, 40, 1, 0, [])), (28, (0, 1, 31, 694, 0, 65536, [])), (31, (0, 3, 32, 0, 4, 0, [])), (32, (2, 0, 33, 1, 0, 0, [])), (33, (0, 5, 34, 0, 0, 0, [])), (34, (0, 3, 35, 0, 5, 0, [])), (35, (0, 5, 36, 0, 1, 0, [])), (36, (1, 2, 39, 40, 0, 0, [])), (39, (0, 0, 40, 0, 0, 0, [])), (40, (6, 0, 41, 0, 0, 0, []))]
-- 111: SongToBridge$Wanderer.property(I)I
def mm_p111 : List (Nat × mm_E) := [(0, (2, 0, 1, 1, 0, 0, [])), (1, (1, 3, 28, 43, 0, 0, [28, 33, 38])), (28, (2, 0, 29, 0, 2, 0, [])), (29, (3, 0, 32, 37, 0, 0, [])), (32, (6, 0, 33, 0, 0, 0, [])), (33, (2, 0, 34, 0, 2, 0, [])), (34, (3, 0, 37, 38, 0, 0, [])), (37, (6, 0, 38, 0, 0, 0, [])), (38, (2, 0, 39, 0, 2, 0, [])), (39, (3, 0, 42, 39, 0, 0, [])), (42, (6, 0, 43, 0, 0, 0, [])), (43, (2, 0, 44, 0, 2, 0, [])), (44, (3, 0, 47, 40, 1, 0, [])), (47, (0, 5, 48, 0, 1, 0, [])), (48, (6, 0, 49, 0, 0, 0, []))]
-- 112: SongToBridgeModel.<init>()V
def mm_p112 : List (Nat × mm_E) := [(0, (2, 0, 1, 0, 2, 0, [])), (1, (3, 7, 4, 0, 0, 0, [])), (4, (2, 0, 5, 0, 2, 0, [])), (5, (0, 0, 7, 0, 0, 9, [])), (7, (4, 1, 9, 21, 0, 0, [])), (9, (3, 1, 12, 42, 2, 0, [])), (12, (2, 0, 13, 0, 2, 0, [])), (13, (0, 0, 15, 0, 0, 9, [])), (15, (4, 1, 17, 22, 0, 0, [])), (17, (3, 1, 20, 43, 2, 0, [])), (20, (2, 0, 21, 0, 2, 0, [])), (21, (0, 0, 23, 0, 0, 9, [])), (23, (4, 1, 25, 23, 0, 0, [])), (25, (3, 1, 28, 44, 2, 0, [])), (28, (2, 0, 29, 0, 2, 0, [])), (29, (0, 0, 31, 0, 0, 9, [])), (31, (4, 1, 33, 24, 0, 0, [])), (33, (3, 1, 36, 45, 2, 0, [])), (36, (2, 0, 37, 0, 2, 0, [])), (37, (0, 0, 39, 0, 0, 45, [])), (39, (4, 1, 41, 25, 0, 0, [])), (41, (3, 1, 44, 46, 2, 0, [])), (44, (2, 0, 45, 0, 2, 0, [])), (45, (0, 0, 46, 0, 0, 5, [])), (46, (4, 1, 48, 26, 0, 0, [])), (48, (3, 1, 51, 48, 2, 0, [])), (51, (2, 0, 52, 0, 2, 0, [])), (52, (0, 0, 53, 0, 0, 5, [])), (53, (4, 1, 55, 27, 0, 0, [])), (55, (3, 1, 58, 49, 2, 0, [])), (58, (2, 0, 59, 0, 2, 0, [])), (59, (0, 0, 60, 0, 0, 5, [])), (60, (4, 1, 62, 28, 0, 0, [])), (62, (3, 1, 65, 50, 2, 0, [])), (65, (2, 0, 66, 0, 2, 0, [])), (66, (0, 0, 67, 0, 0, 5, [])), (67, (4, 1, 69, 29, 0, 0, [])), (69, (3, 1, 72, 51, 2, 0, [])), (72, (2, 0, 73, 0, 2, 0, [])), (73, (0, 0, 74, 0, 0, 5, [])), (74, (4, 1, 76, 30, 0, 0, [])), (76, (3, 1, 79, 52, 2, 0, [])), (79, (2, 0, 80, 0, 2, 0, [])), (80, (0, 0, 81, 0, 0, 5, [])), (81, (4, 1, 83, 31, 0, 0, [])), (83, (3, 1, 86, 53, 2, 0, [])), (86, (2, 0, 87, 0, 2, 0, [])), (87, (0, 0, 89, 0, 0, 30, [])), (89, (4, 1, 91, 32, 0, 0, [])), (91, (3, 1, 94, 54, 2, 0, [])), (94, (2, 0, 95, 0, 2, 0, [])), (95, (0, 0, 97, 0, 0, 36, [])), (97, (4, 1, 99, 33, 0, 0, [])), (99, (3, 1, 102, 56, 2, 0, [])), (102, (2, 0, 103, 0, 2, 0, [])), (103, (0, 0, 105, 0, 0, 10, [])), (105, (4, 1, 107, 34, 0, 0, [])), (107, (3, 1, 110, 58, 2, 0, [])), (110, (2, 0, 111, 0, 2, 0, [])), (111, (0, 0, 113, 0, 0, 16, [])), (113, (4, 1, 115, 35, 1, 0, [])), (115, (3, 1, 118, 60, 2, 0, [])), (118, (2, 0, 119, 0, 2, 0, [])), (119, (0, 0, 120, 0, 0, 5, [])), (120, (4, 1, 122, 36, 0, 0, [])), (122, (3, 1, 125, 67, 2, 0, [])), (125, (2, 0, 126, 0, 2, 0, [])), (126, (0, 0, 128, 0, 0, 6, [])), (128, (4, 1, 130, 37, 0, 0, [])), (130, (3, 1, 133, 68, 2, 0, [])), (133, (2, 0, 134, 0, 2, 0, [])), (134, (0, 0, 136, 0, 0, 64, [])), (136, (4, 1, 138, 38, 0, 0, [])), (138, (3, 1, 141, 69, 2, 0, [])), (141, (2, 0, 142, 0, 2, 0, [])), (142, (0, 0, 144, 0, 0, 45, [])), (144, (4, 1, 146, 39, 0, 0, [])), (146, (3, 1, 149, 77, 2, 0, [])), (149, (2, 0, 150, 0, 2, 0, [])), (150, (0, 0, 151, 0, 0, 5, [])), (151, (4, 1, 153, 40, 0, 0, [])), (153, (3, 1, 156, 78, 2, 0, [])), (156, (2, 0, 157, 0, 2, 0, [])), (157, (0, 0, 158, 0, 0, 5, [])), (158, (4, 1, 160, 41, 0, 0, [])), (160, (3, 1, 163, 79, 2, 0, [])), (163, (2, 0, 164, 0, 2, 0, [])), (164, (0, 0, 165, 0, 0, 5, [])), (165, (4, 1, 167, 42, 0, 0, [])), (167, (3, 1, 170, 80, 2, 0, [])), (170, (2, 0, 171, 0, 2, 0, [])), (171, (0, 0, 172, 0, 0, 5, [])), (172, (4, 1, 174, 43, 0, 0, [])), (174, (3, 1, 177, 81, 2, 0, [])), (177, (2, 0, 178, 0, 2, 0, [])), (178, (0, 0, 180, 0, 0, 30, [])), (180, (4, 1, 182, 44, 0, 0, [])), (182, (3, 1, 185, 82, 2, 0, [])), (185, (2, 0, 186, 0, 2, 0, [])), (186, (0, 0, 188, 0, 0, 36, [])), (188, (4, 1, 190, 45, 0, 0, [])), (190, (3, 1, 193, 83, 2, 0, [])), (193, (2, 0, 194, 0, 2, 0, [])), (194, (0, 0, 196, 0, 0, 10, [])), (196, (4, 1, 198, 46, 0, 0, [])), (198, (3, 1, 201, 84, 2, 0, [])), (201, (6, 2, 202, 0, 0, 0, []))]
-- 113: SongToBridgeModel.within(III)Z
def mm_p113 : List (Nat × mm_E) := [(0, (2, 0, 1, 0, 0, 0, [])), (1, (2, 0, 2, 1, 0, 0, [])), (2, (1, 1, 5, 14, 2, 0, [])), (5, (2, 0, 6, 0, 0, 0, [])), (6, (2, 0, 7, 2, 0, 0, [])), (7, (1, 1, 10, 14, 4, 0, [])), (10, (0, 0, 11, 0, 0, 1, [])), (11, (1, 2, 14, 15, 0, 0, [])), (14, (0, 0, 15, 0, 0, 0, [])), (15, (6, 0, 16, 0, 0, 0, []))]
-- 114: SongToBridgeModel.has(II)Z
def mm_p114 : List (Nat × mm_E) := [(0, (2, 0, 1, 0, 0, 0, [])), (1, (2, 0, 2, 1, 0, 0, [])), (2, (0, 2, 3, 0, 7, 0, [])), (3, (0, 0, 4, 0, 0, 1, [])), (4, (0, 2, 5, 0, 3, 0, [])), (5, (0, 0, 6, 0, 0, 1, [])), (6, (1, 1, 9, 13, 1, 0, [])), (9, (0, 0, 10, 0, 0, 1, [])), (10, (1, 2, 13, 14, 0, 0, [])), (13, (0, 0, 14, 0, 0, 0, [])), (14, (6, 0, 15, 0, 0, 0, []))]
-- 115: SongToBridgeModel.size(I)I
def mm_p115 : List (Nat × mm_E) := [(0, (0, 0, 1, 0, 0, 0, [])), (1, (2, 1, 2, 1, 0, 0, [])), (2, (0, 0, 3, 0, 0, 0, [])), (3, (2, 1, 4, 2, 0, 0, [])), (4, (2, 0, 5, 2, 0, 0, [])), (5, (0, 0, 7, 0, 0, 6, [])), (7, (1, 1, 10, 24, 3, 0, [])), (10, (2, 0, 11, 1, 0, 0, [])), (11, (2, 0, 12, 0, 0, 0, [])), (12, (2, 0, 13, 2, 0, 0, [])), (13, (0, 2, 14, 0, 7, 0, [])), (14, (0, 0, 15, 0, 0, 1, [])), (15, (0, 2, 16, 0, 3, 0, [])), (16, (0, 2, 17, 0, 0, 0, [])), (17, (2, 1, 18, 1, 0, 0, [])), (18, (2, 2, 21, 2, 0, 1, [])), (21, (1, 2, 24, 4, 0, 0, [])), (24, (2, 0, 25, 1, 0, 0, [])), (25, (6, 0, 26, 0, 0, 0, []))]
-- 116: SongToBridgeModel.letters(J)I
def mm_p116 : List (Nat × mm_E) := [(0, (0, 0, 1, 0, 0, 0, [])), (1, (2, 1, 2, 3, 0, 0, [])), (2, (0, 0, 3, 0, 0, 0, [])), (3, (2, 1, 5, 4, 0, 0, [])), (5, (0, 0, 6, 0, 0, 0, [])), (6, (2, 1, 8, 5, 0, 0, [])), (8, (2, 0, 10, 5, 0, 0, [])), (10, (0, 0, 12, 0, 0, 8, [])), (12, (1, 1, 15, 85, 3, 0, [])), (15, (2, 0, 16, 1, 1, 0, [])), (16, (0, 0, 18, 0, 0, 8, [])), (18, (2, 0, 20, 5, 0, 0, [])), (20, (0, 2, 21, 0, 2, 0, [])), (21, (0, 4, 22, 0, 1, 0, [])), (22, (0, 1, 25, 906, 0, 255, [])), (25, (0, 3, 26, 0, 2, 0, [])), (26, (0, 5, 27, 0, 1, 0, [])), (27, (2, 1, 29, 6, 0, 0, [])), (29, (2, 0, 31, 6, 0, 0, [])), (31, (0, 0, 33, 0, 0, 126, [])), (33, (1, 1, 36, 46, 4, 0, [])), (36, (2, 0, 38, 4, 0, 0, [])), (38, (1, 0, 41, 49, 0, 0, [])), (41, (2, 0, 43, 6, 0, 0, [])), (43, (1, 0, 46, 49, 0, 0, [])), (46, (0, 0, 48, 0, 0, (-102), [])), (48, (6, 0, 49, 0, 0, 0, [])), (49, (2, 0, 51, 4, 0, 0, [])), (51, (1, 0, 54, 59, 1, 0, [])), (54, (2, 0, 56, 6, 0, 0, [])), (56, (1, 0, 59, 63, 1, 0, [])), (59, (0, 0, 60, 0, 0, 1, [])), (60, (1, 2, 63, 64, 0, 0, [])), (63, (0, 0, 64, 0, 0, 0, [])), (64, (2, 1, 66, 4, 0, 0, [])), (66, (2, 0, 67, 3, 0, 0, [])), (67, (2, 0, 69, 6, 0, 0, [])), (69, (1, 0, 72, 76, 1, 0, [])), (72, (0, 0, 73, 0, 0, 0, [])), (73, (1, 2, 76, 77, 0, 0, [])), (76, (0, 0, 77, 0, 0, 1, [])), (77, (0, 2, 78, 0, 0, 0, [])), (78, (2, 1, 79, 3, 0, 0, [])), (79, (2, 2, 82, 5, 0, 1, [])), (82, (1, 2, 85, 8, 0, 0, [])), (85, (2, 0, 86, 0, 2, 0, [])), (86, (3, 0, 89, 59, 0, 0, [])), (89, (2, 0, 90, 3, 0, 0, [])), (90, (0, 2, 91, 0, 0, 0, [])), (91, (0, 0, 93, 0, 0, 16, [])), (93, (1, 1, 96, 99, 5, 0, [])), (96, (0, 0, 98, 0, 0, (-104), [])), (98, (6, 0, 99, 0, 0, 0, [])), (99, (0, 0, 100, 0, 0, 0, [])), (100, (2, 1, 102, 5, 0, 0, [])), (102, (2, 0, 104, 5, 0, 0, [])), (104, (2, 0, 105, 3, 0, 0, [])), (105, (1, 1, 108, 135, 3, 0, [])), (108, (2, 0, 109, 0, 2, 0, [])), (109, (3, 0, 112, 60, 2, 0, [])), (112, (2, 0, 113, 0, 2, 0, [])), (113, (3, 0, 116, 59, 0, 0, [])), (116, (2, 0, 118, 5, 0, 0, [])), (118, (0, 2, 119, 0, 0, 0, [])), (119, (2, 0, 120, 1, 1, 0, [])), (120, (0, 0, 122, 0, 0, 8, [])), (122, (2, 0, 124, 5, 0, 0, [])), (124, (0, 2, 125, 0, 2, 0, [])), (125, (0, 4, 126, 0, 1, 0, [])), (126, (0, 5, 127, 0, 1, 0, [])), (127, (0, 5, 128, 0, 2, 0, [])), (128, (3, 3, 129, 0, 1, 0, [])), (129, (2, 2, 132, 5, 0, 1, [])), (132, (1, 2, 135, 102, 0, 0, [])), (135, (2, 0, 136, 0, 2, 0, [])), (136, (0, 6, 137, 0, 0, 0, [])), (137, (3, 0, 140, 59, 0, 0, [])), (140, (2, 0, 141, 3, 0, 0, [])), (141, (0, 2, 142, 0, 0, 0, [])), (142, (3, 1, 145, 59, 0, 0, [])), (145, (2, 0, 146, 0, 2, 0, [])), (146, (3, 0, 149, 59, 0, 0, [])), (149, (6, 0, 150, 0, 0, 0, []))]
-- 117: SongToBridgeModel.blank()I
def mm_p117 : List (Nat × mm_E) := [(0, (2, 0, 1, 0, 2, 0, [])), (1, (3, 0, 4, 59, 0, 0, [])), (4, (2, 1, 5, 1, 0, 0, [])), (5, (2, 0, 6, 0, 2, 0, [])), (6, (0, 0, 7, 0, 0, 0, [])), (7, (3, 1, 10, 59, 0, 0, [])), (10, (2, 0, 11, 1, 0, 0, [])), (11, (6, 0, 12, 0, 0, 0, []))]
-- 118: SongToBridgeModel.signOf(I)I
def mm_p118 : List (Nat × mm_E) := [(0, (2, 0, 1, 0, 0, 0, [])), (1, (0, 0, 3, 0, 0, 63, [])), (3, (1, 1, 6, 10, 1, 0, [])), (6, (0, 0, 7, 0, 0, 1, [])), (7, (1, 2, 10, 31, 0, 0, [])), (10, (2, 0, 11, 0, 0, 0, [])), (11, (0, 0, 13, 0, 0, 33, [])), (13, (1, 1, 16, 20, 1, 0, [])), (16, (0, 0, 17, 0, 0, 2, [])), (17, (1, 2, 20, 31, 0, 0, [])), (20, (2, 0, 21, 0, 0, 0, [])), (21, (0, 0, 23, 0, 0, 126, [])), (23, (1, 1, 26, 30, 1, 0, [])), (26, (0, 0, 27, 0, 0, 3, [])), (27, (1, 2, 30, 31, 0, 0, [])), (30, (0, 0, 31, 0, 0, 0, [])), (31, (6, 0, 32, 0, 0, 0, []))]
-- 119: SongToBridgeModel.nextState(II)I
def mm_p119 : List (Nat × mm_E) := [(0, (2, 0, 1, 2, 0, 0, [])), (1, (0, 0, 3, 0, 0, 48, [])), (3, (0, 0, 5, 0, 0, 53, [])), (5, (5, 0, 8, 113, 3, 0, [])), (8, (2, 1, 9, 3, 0, 0, [])), (9, (2, 0, 10, 1, 0, 0, [])), (10, (1, 0, 13, 31, 1, 0, [])), (13, (2, 0, 14, 0, 2, 0, [])), (14, (2, 0, 15, 2, 0, 0, [])), (15, (0, 0, 17, 0, 0, 48, [])), (17, (0, 2, 18, 0, 1, 0, [])), (18, (3, 1, 21, 63, 0, 0, [])), (21, (2, 0, 22, 3, 0, 0, [])), (22, (1, 0, 25, 29, 0, 0, [])), (25, (0, 0, 26, 0, 0, 1, [])), (26, (1, 2, 29, 30, 0, 0, [])), (29, (0, 0, 30, 0, 0, (-1), [])), (30, (6, 0, 31, 0, 0, 0, [])), (31, (2, 0, 32, 1, 0, 0, [])), (32, (0, 0, 33, 0, 0, 1, [])), (33, (1, 1, 36, 65, 1, 0, [])), (36, (2, 0, 37, 0, 2, 0, [])), (37, (2, 0, 38, 2, 0, 0, [])), (38, (0, 0, 40, 0, 0, 48, [])), (40, (0, 2, 41, 0, 1, 0, [])), (41, (3, 1, 44, 64, 0, 0, [])), (44, (2, 0, 45, 3, 0, 0, [])), (45, (1, 0, 48, 63, 0, 0, [])), (48, (2, 0, 49, 0, 2, 0, [])), (49, (3, 0, 52, 64, 0, 0, [])), (52, (2, 0, 53, 0, 2, 0, [])), (53, (3, 0, 56, 63, 0, 0, [])), (56, (1, 1, 59, 63, 0, 0, [])), (59, (0, 0, 60, 0, 0, 2, [])), (60, (1, 2, 63, 64, 0, 0, [])), (63, (0, 0, 64, 0, 0, (-1), [])), (64, (6, 0, 65, 0, 0, 0, [])), (65, (2, 0, 66, 1, 0, 0, [])), (66, (0, 0, 67, 0, 0, 2, [])), (67, (1, 1, 70, 87, 1, 0, [])), (70, (2, 0, 71, 2, 0, 0, [])), (71, (5, 0, 74, 118, 1, 0, [])), (74, (1, 0, 77, 87, 5, 0, [])), (77, (2, 0, 78, 0, 2, 0, [])), (78, (2, 0, 79, 2, 0, 0, [])), (79, (5, 0, 82, 118, 1, 0, [])), (82, (3, 1, 85, 65, 0, 0, [])), (85, (0, 0, 86, 0, 0, 3, [])), (86, (6, 0, 87, 0, 0, 0, [])), (87, (2, 0, 88, 2, 0, 0, [])), (88, (0, 0, 90, 0, 0, 97, [])), (90, (0, 0, 92, 0, 0, 102, [])), (92, (5, 0, 95, 113, 3, 0, [])), (95, (1, 0, 98, 106, 0, 0, [])), (98, (2, 0, 99, 0, 2, 0, [])), (99, (3, 0, 102, 66, 0, 0, [])), (102, (0, 0, 103, 0, 0, 5, [])), (103, (1, 1, 106, 108, 1, 0, [])), (106, (0, 0, 107, 0, 0, (-1), [])), (107, (6, 0, 108, 0, 0, 0, [])), (108, (2, 0, 109, 0, 2, 0, [])), (109, (3, 0, 112, 67, 2, 0, [])), (112, (2, 0, 113, 0, 2, 0, [])), (113, (3, 0, 116, 66, 0, 0, [])), (116, (2, 0, 117, 2, 0, 0, [])), (117, (0, 0, 119, 0, 0, 97, [])), (119, (0, 2, 120, 0, 1, 0, [])), (120, (3, 3, 121, 0, 0, 0, [])), (121, (2, 0, 122, 0, 2, 0, [])), (122, (0, 6, 123, 0, 0, 0, [])), (123, (3, 0, 126, 66, 0, 0, [])), (126, (0, 0, 127, 0, 0, 1, [])), (127, (0, 2, 128, 0, 0, 0, [])), (128, (3, 1, 131, 66, 0, 0, [])), (131, (0, 0, 132, 0, 0, 3, [])), (132, (6, 0, 133, 0, 0, 0, []))]
-- 120: SongToBridgeModel.readBridge()V
def mm_p120 : List (Nat × mm_E) := [(0, (2, 0, 1, 0, 2, 0, [])), (1, (0, 0, 2, 0, 0, 0, [])), (2, (3, 1, 5, 65, 0, 0, [])), (5, (2, 0, 6, 0, 2, 0, [])), (6, (0, 0, 7, 0, 0, 0, [])), (7, (3, 1, 10, 66, 0, 0, [])), (10, (0, 0, 11, 0, 0, 0, [])), (11, (2, 1, 12, 1, 0, 0, [])), (12, (0, 0, 13, 0, 0, 0, [])), (13, (2, 1, 14, 2, 0, 0, [])), (14, (0, 0, 15, 0, 0, 1, [])), (15, (2, 1, 16, 3, 0, 0, [])), (16, (2, 0, 17, 2, 0, 0, [])), (17, (2, 0, 18, 0, 2, 0, [])), (18, (3, 0, 21, 59, 0, 0, [])), (21, (1, 1, 24, 79, 3, 0, [])), (24, (2, 0, 25, 3, 0, 0, [])), (25, (1, 0, 28, 79, 0, 0, [])), (28, (2, 0, 29, 0, 2, 0, [])), (29, (2, 0, 30, 1, 0, 0, [])), (30, (2, 0, 31, 0, 2, 0, [])), (31, (3, 0, 34, 60, 2, 0, [])), (34, (2, 0, 35, 2, 0, 0, [])), (35, (3, 2, 36, 0, 1, 0, [])), (36, (5, 2, 39, 119, 2, 0, [])), (39, (2, 1, 41, 4, 0, 0, [])), (41, (2, 0, 43, 4, 0, 0, [])), (43, (0, 0, 44, 0, 0, (-1), [])), (44, (1, 1, 47, 51, 0, 0, [])), (47, (0, 0, 48, 0, 0, 1, [])), (48, (1, 2, 51, 52, 0, 0, [])), (51, (0, 0, 52, 0, 0, 0, [])), (52, (2, 1, 53, 3, 0, 0, [])), (53, (2, 0, 54, 3, 0, 0, [])), (54, (1, 0, 57, 62, 0, 0, [])), (57, (2, 0, 59, 4, 0, 0, [])), (59, (1, 2, 62, 63, 0, 0, [])), (62, (2, 0, 63, 1, 0, 0, [])), (63, (2, 1, 64, 1, 0, 0, [])), (64, (2, 0, 65, 2, 0, 0, [])), (65, (2, 0, 66, 3, 0, 0, [])), (66, (1, 0, 69, 73, 0, 0, [])), (69, (0, 0, 70, 0, 0, 1, [])), (70, (1, 2, 73, 74, 0, 0, [])), (73, (0, 0, 74, 0, 0, 0, [])), (74, (0, 2, 75, 0, 0, 0, [])), (75, (2, 1, 76, 2, 0, 0, [])), (76, (1, 2, 79, 16, 0, 0, [])), (79, (2, 0, 80, 0, 2, 0, [])), (80, (2, 0, 81, 2, 0, 0, [])), (81, (3, 1, 84, 61, 0, 0, [])), (84, (2, 0, 85, 0, 2, 0, [])), (85, (2, 0, 86, 2, 0, 0, [])), (86, (2, 0, 87, 0, 2, 0, [])), (87, (3, 0, 90, 59, 0, 0, [])), (90, (1, 1, 93, 104, 1, 0, [])), (93, (2, 0, 94, 0, 2, 0, [])), (94, (3, 0, 97, 66, 0, 0, [])), (97, (1, 0, 100, 104, 5, 0, [])), (100, (0, 0, 101, 0, 0, 1, [])), (101, (1, 2, 104, 105, 0, 0, [])), (104, (0, 0, 105, 0, 0, 0, [])), (105, (3, 1, 108, 62, 3, 0, [])), (108, (6, 2, 109, 0, 0, 0, []))]
-- 121: SongToBridgeModel.fault()I
def mm_p121 : List (Nat × mm_E) := [(0, (2, 0, 1, 0, 2, 0, [])), (1, (5, 2, 4, 120, 0, 0, [])), (4, (2, 0, 5, 0, 2, 0, [])), (5, (3, 0, 8, 61, 0, 0, [])), (8, (6, 0, 9, 0, 0, 0, []))]
-- 122: SongToBridgeModel.bridge()I
def mm_p122 : List (Nat × mm_E) := [(0, (2, 0, 1, 0, 2, 0, [])), (1, (5, 2, 4, 120, 0, 0, [])), (4, (2, 0, 5, 0, 2, 0, [])), (5, (3, 0, 8, 62, 3, 0, [])), (8, (1, 0, 11, 14, 1, 0, [])), (11, (0, 0, 13, 0, 0, (-103), [])), (13, (6, 0, 14, 0, 0, 0, [])), (14, (2, 0, 15, 0, 2, 0, [])), (15, (3, 0, 18, 41, 0, 0, [])), (18, (0, 0, 20, 0, 0, 9, [])), (20, (1, 1, 23, 26, 1, 0, [])), (23, (0, 0, 25, 0, 0, (-104), [])), (25, (6, 0, 26, 0, 0, 0, [])), (26, (2, 0, 27, 0, 2, 0, [])), (27, (3, 0, 30, 42, 2, 0, [])), (30, (2, 0, 31, 0, 2, 0, [])), (31, (3, 0, 34, 41, 0, 0, [])), (34, (2, 0, 35, 0, 2, 0, [])), (35, (3, 0, 38, 65, 0, 0, [])), (38, (3, 3, 39, 0, 0, 0, [])), (39, (2, 0, 40, 0, 2, 0, [])), (40, (3, 0, 43, 43, 2, 0, [])), (43, (2, 0, 44, 0, 2, 0, [])), (44, (3, 0, 47, 41, 0, 0, [])), (47, (2, 0, 48, 0, 2, 0, [])), (48, (3, 0, 51, 63, 0, 0, [])), (51, (3, 3, 52, 0, 0, 0, [])), (52, (2, 0, 53, 0, 2, 0, [])), (53, (3, 0, 56, 44, 2, 0, [])), (56, (2, 0, 57, 0, 2, 0, [])), (57, (3, 0, 60, 41, 0, 0, [])), (60, (2, 0, 61, 0, 2, 0, [])), (61, (3, 0, 64, 64, 0, 0, [])), (64, (3, 3, 65, 0, 0, 0, [])), (65, (2, 0, 66, 0, 2, 0, [])), (66, (3, 0, 69, 45, 2, 0, [])), (69, (2, 0, 70, 0, 2, 0, [])), (70, (3, 0, 73, 41, 0, 0, [])), (73, (2, 0, 74, 0, 2, 0, [])), (74, (3, 0, 77, 66, 0, 0, [])), (77, (3, 3, 78, 0, 0, 0, [])), (78, (0, 0, 79, 0, 0, 0, [])), (79, (2, 1, 80, 1, 0, 0, [])), (80, (2, 0, 81, 1, 0, 0, [])), (81, (0, 0, 82, 0, 0, 5, [])), (82, (1, 1, 85, 122, 3, 0, [])), (85, (2, 0, 86, 0, 2, 0, [])), (86, (3, 0, 89, 46, 2, 0, [])), (89, (0, 0, 90, 0, 0, 5, [])), (90, (2, 0, 91, 0, 2, 0, [])), (91, (3, 0, 94, 41, 0, 0, [])), (94, (0, 2, 95, 0, 2, 0, [])), (95, (2, 0, 96, 1, 0, 0, [])), (96, (0, 2, 97, 0, 0, 0, [])), (97, (2, 0, 98, 1, 0, 0, [])), (98, (2, 0, 99, 0, 2, 0, [])), (99, (3, 0, 102, 66, 0, 0, [])), (102, (1, 1, 105, 114, 3, 0, [])), (105, (2, 0, 106, 0, 2, 0, [])), (106, (3, 0, 109, 67, 2, 0, [])), (109, (2, 0, 110, 1, 0, 0, [])), (110, (3, 2, 111, 0, 0, 0, [])), (111, (1, 2, 114, 115, 0, 0, [])), (114, (0, 0, 115, 0, 0, (-1), [])), (115, (3, 3, 116, 0, 0, 0, [])), (116, (2, 2, 119, 1, 0, 1, [])), (119, (1, 2, 122, 80, 0, 0, [])), (122, (2, 0, 123, 0, 2, 0, [])), (123, (0, 6, 124, 0, 0, 0, [])), (124, (3, 0, 127, 41, 0, 0, [])), (127, (0, 0, 128, 0, 0, 1, [])), (128, (0, 2, 129, 0, 0, 0, [])), (129, (3, 1, 132, 41, 0, 0, [])), (132, (2, 0, 133, 0, 2, 0, [])), (133, (0, 0, 134, 0, 0, 0, [])), (134, (3, 1, 137, 59, 0, 0, [])), (137, (2, 0, 138, 0, 2, 0, [])), (138, (3, 0, 141, 41, 0, 0, [])), (141, (0, 0, 142, 0, 0, 1, [])), (142, (0, 2, 143, 0, 1, 0, [])), (143, (6, 0, 144, 0, 0, 0, []))]
-- 123: SongToBridgeModel.isBridge(I)Z
def mm_p123 : List (Nat × mm_E) := [(0, (2, 0, 1, 1, 0, 0, [])), (1, (0, 0, 2, 0, 0, 0, [])), (2, (2, 0, 3, 0, 2, 0, [])), (3, (3, 0, 6, 41, 0, 0, [])), (6, (0, 0, 7, 0, 0, 1, [])), (7, (0, 2, 8, 0, 1, 0, [])), (8, (5, 0, 11, 113, 3, 0, [])), (11, (6, 0, 12, 0, 0, 0, []))]
-- 124: SongToBridgeModel.songSet(I)I
def mm_p124 : List (Nat × mm_E) := [(0, (0, 0, 1, 0, 0, 0, [])), (1, (2, 1, 2, 2, 0, 0, [])), (2, (0, 0, 3, 0, 0, 0, [])), (3, (2, 1, 4, 3, 0, 0, [])), (4, (2, 0, 5, 3, 0, 0, [])), (5, (2, 0, 6, 0, 2, 0, [])), (6, (3, 0, 9, 45, 2, 0, [])), (9, (2, 0, 10, 1, 0, 0, [])), (10, (3, 2, 11, 0, 0, 0, [])), (11, (1, 1, 14, 35, 3, 0, [])), (14, (2, 0, 15, 2, 0, 0, [])), (15, (0, 0, 16, 0, 0, 1, [])), (16, (2, 0, 17, 0, 2, 0, [])), (17, (3, 0, 20, 46, 2, 0, [])), (20, (0, 0, 21, 0, 0, 5, [])), (21, (2, 0, 22, 1, 0, 0, [])), (22, (0, 2, 23, 0, 2, 0, [])), (23, (2, 0, 24, 3, 0, 0, [])), (24, (0, 2, 25, 0, 0, 0, [])), (25, (3, 2, 26, 0, 0, 0, [])), (26, (0, 2, 27, 0, 6, 0, [])), (27, (0, 2, 28, 0, 4, 0, [])), (28, (2, 1, 29, 2, 0, 0, [])), (29, (2, 2, 32, 3, 0, 1, [])), (32, (1, 2, 35, 4, 0, 0, [])), (35, (2, 0, 36, 2, 0, 0, [])), (36, (6, 0, 37, 0, 0, 0, []))]
-- 125: SongToBridgeModel.length(I)I
def mm_p125 : List (Nat × mm_E) := [(0, (2, 0, 1, 0, 2, 0, [])), (1, (3, 0, 4, 42, 2, 0, [])), (4, (2, 0, 5, 1, 0, 0, [])), (5, (3, 2, 6, 0, 0, 0, [])), (6, (0, 0, 7, 0, 0, 2, [])), (7, (1, 1, 10, 21, 1, 0, [])), (10, (2, 0, 11, 0, 2, 0, [])), (11, (2, 0, 12, 1, 0, 0, [])), (12, (5, 2, 15, 124, 1, 0, [])), (15, (5, 0, 18, 115, 1, 0, [])), (18, (1, 2, 21, 27, 0, 0, [])), (21, (2, 0, 22, 0, 2, 0, [])), (22, (3, 0, 25, 45, 2, 0, [])), (25, (2, 0, 26, 1, 0, 0, [])), (26, (3, 2, 27, 0, 0, 0, [])), (27, (6, 0, 28, 0, 0, 0, []))]
-- 126: SongToBridgeModel.bridgeNow(II)I
def mm_p126 : List (Nat × mm_E) := [(0, (2, 0, 1, 2, 0, 0, [])), (1, (1, 3, 36, 70, 0, 0, [36, 43, 50, 57, 64])), (36, (2, 0, 37, 0, 2, 0, [])), (37, (3, 0, 40, 42, 2, 0, [])), (40, (2, 0, 41, 1, 0, 0, [])), (41, (3, 2, 42, 0, 0, 0, [])), (42, (6, 0, 43, 0, 0, 0, [])), (43, (2, 0, 44, 0, 2, 0, [])), (44, (3, 0, 47, 43, 2, 0, [])), (47, (2, 0, 48, 1, 0, 0, [])), (48, (3, 2, 49, 0, 0, 0, [])), (49, (6, 0, 50, 0, 0, 0, [])), (50, (2, 0, 51, 0, 2, 0, [])), (51, (3, 0, 54, 44, 2, 0, [])), (54, (2, 0, 55, 1, 0, 0, [])), (55, (3, 2, 56, 0, 0, 0, [])), (56, (6, 0, 57, 0, 0, 0, [])), (57, (2, 0, 58, 0, 2, 0, [])), (58, (3, 0, 61, 45, 2, 0, [])), (61, (2, 0, 62, 1, 0, 0, [])), (62, (3, 2, 63, 0, 0, 0, [])), (63, (6, 0, 64, 0, 0, 0, [])), (64, (2, 0, 65, 0, 2, 0, [])), (65, (2, 0, 66, 1, 0, 0, [])), (66, (5, 2, 69, 125, 1, 0, [])), (69, (6, 0, 70, 0, 0, 0, [])), (70, (2, 0, 71, 0, 2, 0, [])), (71, (3, 0, 74, 46, 2, 0, [])), (74, (0, 0, 75, 0, 0, 5, [])), (75, (2, 0, 76, 1, 0, 0, [])), (76, (0, 2, 77, 0, 2, 0, [])), (77, (2, 0, 78, 2, 0, 0, [])), (78, (0, 2, 79, 0, 0, 0, [])), (79, (0, 0, 80, 0, 0, 5, [])), (80, (0, 2, 81, 0, 1, 0, [])), (81, (3, 2, 82, 0, 0, 0, [])), (82, (6, 0, 83, 0, 0, 0, []))]
-- 127: SongToBridgeModel.about(II)I
def mm_p127 : List (Nat × mm_E) := [(0, (2, 0, 1, 0, 2, 0, [])), (1, (2, 0, 2, 1, 0, 0, [])), (2, (5, 2, 5, 123, 1, 0, [])), (5, (1, 0, 8, 13, 1, 0, [])), (8, (0, 0, 10, 0, 0, (-101), [])), (10, (1, 2, 13, 34, 0, 0, [])), (13, (2, 0, 14, 2, 0, 0, [])), (14, (0, 0, 15, 0, 0, 0, [])), (15, (0, 0, 17, 0, 0, 9, [])), (17, (5, 0, 20, 113, 3, 0, [])), (20, (1, 0, 23, 32, 0, 0, [])), (23, (2, 0, 24, 0, 2, 0, [])), (24, (2, 0, 25, 1, 0, 0, [])), (25, (2, 0, 26, 2, 0, 0, [])), (26, (5, 2, 29, 126, 2, 0, [])), (29, (1, 2, 32, 34, 0, 0, [])), (32, (0, 0, 34, 0, 0, (-102), [])), (34, (6, 0, 35, 0, 0, 0, []))]
-- 128: SongToBridgeModel.as(II)I
def mm_p128 : List (Nat × mm_E) := [(0, (2, 0, 1, 0, 2, 0, [])), (1, (2, 0, 2, 1, 0, 0, [])), (2, (5, 2, 5, 123, 1, 0, [])), (5, (1, 0, 8, 11, 1, 0, [])), (8, (0, 0, 10, 0, 0, (-101), [])), (10, (6, 0, 11, 0, 0, 0, [])), (11, (2, 0, 12, 2, 0, 0, [])), (12, (0, 0, 13, 0, 0, 0, [])), (13, (0, 0, 14, 0, 0, 3, [])), (14, (5, 0, 17, 113, 3, 0, [])), (17, (1, 0, 20, 23, 1, 0, [])), (20, (0, 0, 22, 0, 0, (-102), [])), (22, (6, 0, 23, 0, 0, 0, [])), (23, (2, 0, 24, 0, 2, 0, [])), (24, (3, 0, 27, 42, 2, 0, [])), (27, (2, 0, 28, 1, 0, 0, [])), (28, (3, 2, 29, 0, 0, 0, [])), (29, (2, 1, 30, 3, 0, 0, [])), (30, (2, 0, 31, 2, 0, 0, [])), (31, (1, 0, 34, 49, 0, 0, [])), (34, (2, 0, 35, 3, 0, 0, [])), (35, (2, 0, 36, 2, 0, 0, [])), (36, (1, 1, 39, 49, 0, 0, [])), (39, (2, 0, 40, 2, 0, 0, [])), (40, (0, 0, 41, 0, 0, 1, [])), (41, (1, 1, 44, 53, 1, 0, [])), (44, (2, 0, 45, 3, 0, 0, [])), (45, (0, 0, 46, 0, 0, 3, [])), (46, (1, 1, 49, 53, 1, 0, [])), (49, (2, 0, 50, 1, 0, 0, [])), (50, (1, 2, 53, 54, 0, 0, [])), (53, (0, 0, 54, 0, 0, (-1), [])), (54, (6, 0, 55, 0, 0, 0, []))]
-- 129: SongToBridgeModel.change(III)I
def mm_p129 : List (Nat × mm_E) := [(0, (2, 0, 1, 0, 2, 0, [])), (1, (2, 0, 2, 1, 0, 0, [])), (2, (5, 2, 5, 123, 1, 0, [])), (5, (1, 0, 8, 33, 0, 0, [])), (8, (2, 0, 9, 2, 0, 0, [])), (9, (0, 0, 10, 0, 0, 0, [])), (10, (2, 0, 11, 0, 2, 0, [])), (11, (3, 0, 14, 45, 2, 0, [])), (14, (2, 0, 15, 1, 0, 0, [])), (15, (3, 2, 16, 0, 0, 0, [])), (16, (0, 0, 17, 0, 0, 1, [])), (17, (0, 2, 18, 0, 1, 0, [])), (18, (5, 0, 21, 113, 3, 0, [])), (21, (1, 0, 24, 33, 0, 0, [])), (24, (2, 0, 25, 3, 0, 0, [])), (25, (0, 0, 26, 0, 0, 0, [])), (26, (0, 0, 27, 0, 0, 5, [])), (27, (5, 0, 30, 113, 3, 0, [])), (30, (1, 0, 33, 36, 1, 0, [])), (33, (0, 0, 35, 0, 0, (-101), [])), (35, (6, 0, 36, 0, 0, 0, [])), (36, (2, 0, 37, 0, 2, 0, [])), (37, (3, 0, 40, 46, 2, 0, [])), (40, (0, 0, 41, 0, 0, 5, [])), (41, (2, 0, 42, 1, 0, 0, [])), (42, (0, 2, 43, 0, 2, 0, [])), (43, (2, 0, 44, 2, 0, 0, [])), (44, (0, 2, 45, 0, 0, 0, [])), (45, (3, 2, 46, 0, 0, 0, [])), (46, (2, 1, 48, 4, 0, 0, [])), (48, (2, 0, 49, 0, 2, 0, [])), (49, (3, 0, 52, 46, 2, 0, [])), (52, (0, 0, 53, 0, 0, 5, [])), (53, (2, 0, 54, 1, 0, 0, [])), (54, (0, 2, 55, 0, 2, 0, [])), (55, (2, 0, 56, 2, 0, 0, [])), (56, (0, 2, 57, 0, 0, 0, [])), (57, (2, 0, 58, 3, 0, 0, [])), (58, (3, 3, 59, 0, 0, 0, [])), (59, (2, 0, 61, 4, 0, 0, [])), (61, (6, 0, 62, 0, 0, 0, []))]
-- 130: SongToBridgeModel.alikeNow(I)I
def mm_p130 : List (Nat × mm_E) := [(0, (0, 0, 1, 0, 0, 0, [])), (1, (2, 1, 2, 2, 0, 0, [])), (2, (2, 0, 3, 2, 0, 0, [])), (3, (2, 0, 4, 0, 2, 0, [])), (4, (3, 0, 7, 41, 0, 0, [])), (7, (1, 1, 10, 98, 3, 0, [])), (10, (2, 0, 11, 2, 0, 0, [])), (11, (2, 0, 12, 1, 0, 0, [])), (12, (1, 1, 15, 34, 0, 0, [])), (15, (2, 0, 16, 0, 2, 0, [])), (16, (3, 0, 19, 45, 2, 0, [])), (19, (2, 0, 20, 2, 0, 0, [])), (20, (3, 2, 21, 0, 0, 0, [])), (21, (2, 0, 22, 0, 2, 0, [])), (22, (3, 0, 25, 45, 2, 0, [])), (25, (2, 0, 26, 1, 0, 0, [])), (26, (3, 2, 27, 0, 0, 0, [])), (27, (1, 1, 30, 34, 1, 0, [])), (30, (0, 0, 31, 0, 0, 1, [])), (31, (1, 2, 34, 35, 0, 0, [])), (34, (0, 0, 35, 0, 0, 0, [])), (35, (2, 1, 36, 3, 0, 0, [])), (36, (0, 0, 37, 0, 0, 0, [])), (37, (2, 1, 39, 4, 0, 0, [])), (39, (2, 0, 41, 4, 0, 0, [])), (41, (0, 0, 42, 0, 0, 5, [])), (42, (1, 1, 45, 86, 3, 0, [])), (45, (2, 0, 46, 3, 0, 0, [])), (46, (1, 0, 49, 86, 0, 0, [])), (49, (2, 0, 50, 0, 2, 0, [])), (50, (3, 0, 53, 46, 2, 0, [])), (53, (0, 0, 54, 0, 0, 5, [])), (54, (2, 0, 55, 2, 0, 0, [])), (55, (0, 2, 56, 0, 2, 0, [])), (56, (2, 0, 58, 4, 0, 0, [])), (58, (0, 2, 59, 0, 0, 0, [])), (59, (3, 2, 60, 0, 0, 0, [])), (60, (2, 0, 61, 0, 2, 0, [])), (61, (3, 0, 64, 46, 2, 0, [])), (64, (0, 0, 65, 0, 0, 5, [])), (65, (2, 0, 66, 1, 0, 0, [])), (66, (0, 2, 67, 0, 2, 0, [])), (67, (2, 0, 69, 4, 0, 0, [])), (69, (0, 2, 70, 0, 0, 0, [])), (70, (3, 2, 71, 0, 0, 0, [])), (71, (1, 1, 74, 78, 1, 0, [])), (74, (0, 0, 75, 0, 0, 1, [])), (75, (1, 2, 78, 79, 0, 0, [])), (78, (0, 0, 79, 0, 0, 0, [])), (79, (2, 1, 80, 3, 0, 0, [])), (80, (2, 2, 83, 4, 0, 1, [])), (83, (1, 2, 86, 39, 0, 0, [])), (86, (2, 0, 87, 3, 0, 0, [])), (87, (1, 0, 90, 92, 0, 0, [])), (90, (2, 0, 91, 2, 0, 0, [])), (91, (6, 0, 92, 0, 0, 0, [])), (92, (2, 2, 95, 2, 0, 1, [])), (95, (1, 2, 98, 2, 0, 0, [])), (98, (0, 0, 99, 0, 0, (-1), [])), (99, (6, 0, 100, 0, 0, 0, []))]
-- 131: SongToBridgeModel.alike(I)I
def mm_p131 : List (Nat × mm_E) := [(0, (2, 0, 1, 0, 2, 0, [])), (1, (2, 0, 2, 1, 0, 0, [])), (2, (5, 2, 5, 123, 1, 0, [])), (5, (1, 0, 8, 16, 0, 0, [])), (8, (2, 0, 9, 0, 2, 0, [])), (9, (2, 0, 10, 1, 0, 0, [])), (10, (5, 2, 13, 130, 1, 0, [])), (13, (1, 2, 16, 18, 0, 0, [])), (16, (0, 0, 18, 0, 0, (-101), [])), (18, (6, 0, 19, 0, 0, 0, []))]
-- 132: SongToBridgeModel.isPlace(I)Z
def mm_p132 : List (Nat × mm_E) := [(0, (2, 0, 1, 0, 0, 0, [])), (1, (0, 0, 2, 0, 0, 0, [])), (2, (0, 0, 3, 0, 0, 5, [])), (3, (5, 0, 6, 113, 3, 0, [])), (6, (6, 0, 7, 0, 0, 0, []))]
-- 133: SongToBridgeModel.isVerse(I)Z
def mm_p133 : List (Nat × mm_E) := [(0, (2, 0, 1, 0, 0, 0, [])), (1, (0, 0, 2, 0, 0, 0, [])), (2, (0, 0, 3, 0, 0, 5, [])), (3, (5, 0, 6, 113, 3, 0, [])), (6, (6, 0, 7, 0, 0, 0, []))]
-- 134: SongToBridgeModel.isSinger(I)Z
def mm_p134 : List (Nat × mm_E) := [(0, (2, 0, 1, 1, 0, 0, [])), (1, (0, 0, 2, 0, 0, 0, [])), (2, (2, 0, 3, 0, 2, 0, [])), (3, (3, 0, 6, 47, 0, 0, [])), (6, (0, 0, 7, 0, 0, 1, [])), (7, (0, 2, 8, 0, 1, 0, [])), (8, (5, 0, 11, 113, 3, 0, [])), (11, (6, 0, 12, 0, 0, 0, []))]
-- 135: SongToBridgeModel.singer(IIIII)I
def mm_p135 : List (Nat × mm_E) := [(0, (2, 0, 1, 1, 0, 0, [])), (1, (5, 0, 4, 132, 1, 0, [])), (4, (1, 0, 7, 10, 1, 0, [])), (7, (0, 0, 9, 0, 0, (-101), [])), (9, (6, 0, 10, 0, 0, 0, [])), (10, (2, 0, 11, 2, 0, 0, [])), (11, (0, 0, 12, 0, 0, 0, [])), (12, (0, 0, 14, 0, 0, 63, [])), (14, (5, 0, 17, 113, 3, 0, [])), (17, (1, 0, 20, 52, 0, 0, [])), (20, (2, 0, 21, 3, 0, 0, [])), (21, (0, 0, 22, 0, 0, 0, [])), (22, (0, 0, 24, 0, 0, 30, [])), (24, (5, 0, 27, 113, 3, 0, [])), (27, (1, 0, 30, 52, 0, 0, [])), (30, (2, 0, 32, 4, 0, 0, [])), (32, (0, 0, 33, 0, 0, 1, [])), (33, (0, 0, 35, 0, 0, 6, [])), (35, (5, 0, 38, 113, 3, 0, [])), (38, (1, 0, 41, 52, 0, 0, [])), (41, (2, 0, 43, 5, 0, 0, [])), (43, (0, 0, 44, 0, 0, 0, [])), (44, (0, 0, 46, 0, 0, 99, [])), (46, (5, 0, 49, 113, 3, 0, [])), (49, (1, 0, 52, 55, 1, 0, [])), (52, (0, 0, 54, 0, 0, (-102), [])), (54, (6, 0, 55, 0, 0, 0, [])), (55, (2, 0, 56, 0, 2, 0, [])), (56, (3, 0, 59, 47, 0, 0, [])), (59, (0, 0, 60, 0, 0, 5, [])), (60, (1, 1, 63, 66, 1, 0, [])), (63, (0, 0, 65, 0, 0, (-104), [])), (65, (6, 0, 66, 0, 0, 0, [])), (66, (2, 0, 67, 0, 2, 0, [])), (67, (3, 0, 70, 48, 2, 0, [])), (70, (2, 0, 71, 0, 2, 0, [])), (71, (3, 0, 74, 47, 0, 0, [])), (74, (2, 0, 75, 1, 0, 0, [])), (75, (3, 3, 76, 0, 0, 0, [])), (76, (2, 0, 77, 0, 2, 0, [])), (77, (3, 0, 80, 49, 2, 0, [])), (80, (2, 0, 81, 0, 2, 0, [])), (81, (3, 0, 84, 47, 0, 0, [])), (84, (2, 0, 85, 2, 0, 0, [])), (85, (3, 3, 86, 0, 0, 0, [])), (86, (2, 0, 87, 0, 2, 0, [])), (87, (3, 0, 90, 50, 2, 0, [])), (90, (2, 0, 91, 0, 2, 0, [])), (91, (3, 0, 94, 47, 0, 0, [])), (94, (2, 0, 95, 3, 0, 0, [])), (95, (3, 3, 96, 0, 0, 0, [])), (96, (2, 0, 97, 0, 2, 0, [])), (97, (3, 0, 100, 51, 2, 0, [])), (100, (2, 0, 101, 0, 2, 0, [])), (101, (3, 0, 104, 47, 0, 0, [])), (104, (2, 0, 105, 3, 0, 0, [])), (105, (3, 3, 106, 0, 0, 0, [])), (106, (2, 0, 107, 0, 2, 0, [])), (107, (3, 0, 110, 52, 2, 0, [])), (110, (2, 0, 111, 0, 2, 0, [])), (111, (3, 0, 114, 47, 0, 0, [])), (114, (2, 0, 116, 4, 0, 0, [])), (116, (3, 3, 117, 0, 0, 0, [])), (117, (2, 0, 118, 0, 2, 0, [])), (118, (3, 0, 121, 53, 2, 0, [])), (121, (2, 0, 122, 0, 2, 0, [])), (122, (3, 0, 125, 47, 0, 0, [])), (125, (2, 0, 127, 5, 0, 0, [])), (127, (3, 3, 128, 0, 0, 0, [])), (128, (0, 0, 129, 0, 0, 0, [])), (129, (2, 1, 131, 6, 0, 0, [])), (131, (2, 0, 133, 6, 0, 0, [])), (133, (0, 0, 135, 0, 0, 6, [])), (135, (1, 1, 138, 160, 3, 0, [])), (138, (2, 0, 139, 0, 2, 0, [])), (139, (3, 0, 142, 54, 2, 0, [])), (142, (0, 0, 144, 0, 0, 6, [])), (144, (2, 0, 145, 0, 2, 0, [])), (145, (3, 0, 148, 47, 0, 0, [])), (148, (0, 2, 149, 0, 2, 0, [])), (149, (2, 0, 151, 6, 0, 0, [])), (151, (0, 2, 152, 0, 0, 0, [])), (152, (0, 0, 153, 0, 0, 0, [])), (153, (3, 3, 154, 0, 0, 0, [])), (154, (2, 2, 157, 6, 0, 1, [])), (157, (1, 2, 160, 131, 0, 0, [])), (160, (2, 0, 161, 0, 2, 0, [])), (161, (0, 6, 162, 0, 0, 0, [])), (162, (3, 0, 165, 47, 0, 0, [])), (165, (0, 0, 166, 0, 0, 1, [])), (166, (0, 2, 167, 0, 0, 0, [])), (167, (3, 1, 170, 47, 0, 0, [])), (170, (2, 0, 171, 0, 2, 0, [])), (171, (3, 0, 174, 47, 0, 0, [])), (174, (0, 0, 175, 0, 0, 1, [])), (175, (0, 2, 176, 0, 1, 0, [])), (176, (6, 0, 177, 0, 0, 0, []))]
-- 136: SongToBridgeModel.forgets(I)I
def mm_p136 : List (Nat × mm_E) := [(0, (0, 0, 1, 0, 0, (-1), [])), (1, (2, 1, 2, 2, 0, 0, [])), (2, (0, 0, 3, 0, 0, 0, [])), (3, (2, 1, 4, 3, 0, 0, [])), (4, (2, 0, 5, 3, 0, 0, [])), (5, (0, 0, 7, 0, 0, 6, [])), (7, (1, 1, 10, 85, 3, 0, [])), (10, (2, 0, 11, 2, 0, 0, [])), (11, (0, 0, 12, 0, 0, (-1), [])), (12, (1, 1, 15, 48, 0, 0, [])), (15, (2, 0, 16, 0, 2, 0, [])), (16, (3, 0, 19, 54, 2, 0, [])), (19, (0, 0, 21, 0, 0, 6, [])), (21, (2, 0, 22, 1, 0, 0, [])), (22, (0, 2, 23, 0, 2, 0, [])), (23, (2, 0, 24, 3, 0, 0, [])), (24, (0, 2, 25, 0, 0, 0, [])), (25, (3, 2, 26, 0, 0, 0, [])), (26, (2, 0, 27, 0, 2, 0, [])), (27, (3, 0, 30, 54, 2, 0, [])), (30, (0, 0, 32, 0, 0, 6, [])), (32, (2, 0, 33, 1, 0, 0, [])), (33, (0, 2, 34, 0, 2, 0, [])), (34, (2, 0, 35, 2, 0, 0, [])), (35, (1, 0, 38, 42, 3, 0, [])), (38, (0, 0, 39, 0, 0, 0, [])), (39, (1, 2, 42, 43, 0, 0, [])), (42, (2, 0, 43, 2, 0, 0, [])), (43, (0, 2, 44, 0, 0, 0, [])), (44, (3, 2, 45, 0, 0, 0, [])), (45, (1, 1, 48, 52, 3, 0, [])), (48, (0, 0, 49, 0, 0, 1, [])), (49, (1, 2, 52, 53, 0, 0, [])), (52, (0, 0, 53, 0, 0, 0, [])), (53, (2, 1, 55, 4, 0, 0, [])), (55, (2, 0, 56, 0, 2, 0, [])), (56, (3, 0, 59, 49, 2, 0, [])), (59, (2, 0, 60, 1, 0, 0, [])), (60, (3, 2, 61, 0, 0, 0, [])), (61, (2, 0, 62, 3, 0, 0, [])), (62, (5, 0, 65, 114, 2, 0, [])), (65, (1, 0, 68, 77, 0, 0, [])), (68, (2, 0, 70, 4, 0, 0, [])), (70, (1, 0, 73, 77, 0, 0, [])), (73, (2, 0, 74, 3, 0, 0, [])), (74, (1, 2, 77, 78, 0, 0, [])), (77, (2, 0, 78, 2, 0, 0, [])), (78, (2, 1, 79, 2, 0, 0, [])), (79, (2, 2, 82, 3, 0, 1, [])), (82, (1, 2, 85, 4, 0, 0, [])), (85, (2, 0, 86, 2, 0, 0, [])), (86, (6, 0, 87, 0, 0, 0, []))]
-- 137: SongToBridgeModel.singerNow(II)I
def mm_p137 : List (Nat × mm_E) := [(0, (2, 0, 1, 2, 0, 0, [])), (1, (1, 3, 40, 82, 0, 0, [40, 47, 54, 61, 68, 75])), (40, (2, 0, 41, 0, 2, 0, [])), (41, (3, 0, 44, 48, 2, 0, [])), (44, (2, 0, 45, 1, 0, 0, [])), (45, (3, 2, 46, 0, 0, 0, [])), (46, (6, 0, 47, 0, 0, 0, [])), (47, (2, 0, 48, 0, 2, 0, [])), (48, (3, 0, 51, 49, 2, 0, [])), (51, (2, 0, 52, 1, 0, 0, [])), (52, (3, 2, 53, 0, 0, 0, [])), (53, (6, 0, 54, 0, 0, 0, [])), (54, (2, 0, 55, 0, 2, 0, [])), (55, (3, 0, 58, 50, 2, 0, [])), (58, (2, 0, 59, 1, 0, 0, [])), (59, (3, 2, 60, 0, 0, 0, [])), (60, (6, 0, 61, 0, 0, 0, [])), (61, (2, 0, 62, 0, 2, 0, [])), (62, (3, 0, 65, 51, 2, 0, [])), (65, (2, 0, 66, 1, 0, 0, [])), (66, (3, 2, 67, 0, 0, 0, [])), (67, (6, 0, 68, 0, 0, 0, [])), (68, (2, 0, 69, 0, 2, 0, [])), (69, (3, 0, 72, 52, 2, 0, [])), (72, (2, 0, 73, 1, 0, 0, [])), (73, (3, 2, 74, 0, 0, 0, [])), (74, (6, 0, 75, 0, 0, 0, [])), (75, (2, 0, 76, 0, 2, 0, [])), (76, (3, 0, 79, 53, 2, 0, [])), (79, (2, 0, 80, 1, 0, 0, [])), (80, (3, 2, 81, 0, 0, 0, [])), (81, (6, 0, 82, 0, 0, 0, [])), (82, (2, 0, 83, 0, 2, 0, [])), (83, (2, 0, 84, 1, 0, 0, [])), (84, (5, 2, 87, 136, 1, 0, [])), (87, (6, 0, 88, 0, 0, 0, []))]
-- 138: SongToBridgeModel.told(II)I
def mm_p138 : List (Nat × mm_E) := [(0, (2, 0, 1, 0, 2, 0, [])), (1, (2, 0, 2, 1, 0, 0, [])), (2, (5, 2, 5, 134, 1, 0, [])), (5, (1, 0, 8, 13, 1, 0, [])), (8, (0, 0, 10, 0, 0, (-101), [])), (10, (1, 2, 13, 34, 0, 0, [])), (13, (2, 0, 14, 2, 0, 0, [])), (14, (0, 0, 15, 0, 0, 0, [])), (15, (0, 0, 17, 0, 0, 6, [])), (17, (5, 0, 20, 113, 3, 0, [])), (20, (1, 0, 23, 32, 0, 0, [])), (23, (2, 0, 24, 0, 2, 0, [])), (24, (2, 0, 25, 1, 0, 0, [])), (25, (2, 0, 26, 2, 0, 0, [])), (26, (5, 2, 29, 137, 2, 0, [])), (29, (1, 2, 32, 34, 0, 0, [])), (32, (0, 0, 34, 0, 0, (-102), [])), (34, (6, 0, 35, 0, 0, 0, []))]
-- 139: SongToBridgeModel.teach(III)I
def mm_p139 : List (Nat × mm_E) := [(0, (2, 0, 1, 1, 0, 0, [])), (1, (5, 0, 4, 132, 1, 0, [])), (4, (1, 0, 7, 14, 0, 0, [])), (7, (2, 0, 8, 2, 0, 0, [])), (8, (5, 0, 11, 133, 1, 0, [])), (11, (1, 0, 14, 17, 1, 0, [])), (14, (0, 0, 16, 0, 0, (-101), [])), (16, (6, 0, 17, 0, 0, 0, [])), (17, (2, 0, 18, 3, 0, 0, [])), (18, (0, 0, 19, 0, 0, (-1), [])), (19, (0, 0, 21, 0, 0, 99, [])), (21, (5, 0, 24, 113, 3, 0, [])), (24, (1, 0, 27, 30, 1, 0, [])), (27, (0, 0, 29, 0, 0, (-102), [])), (29, (6, 0, 30, 0, 0, 0, [])), (30, (2, 0, 31, 0, 2, 0, [])), (31, (3, 0, 34, 56, 2, 0, [])), (34, (0, 0, 36, 0, 0, 6, [])), (36, (2, 0, 37, 1, 0, 0, [])), (37, (0, 2, 38, 0, 2, 0, [])), (38, (2, 0, 39, 2, 0, 0, [])), (39, (0, 2, 40, 0, 0, 0, [])), (40, (3, 2, 41, 0, 0, 0, [])), (41, (0, 0, 42, 0, 0, 1, [])), (42, (0, 2, 43, 0, 1, 0, [])), (43, (2, 1, 45, 4, 0, 0, [])), (45, (2, 0, 46, 0, 2, 0, [])), (46, (3, 0, 49, 56, 2, 0, [])), (49, (0, 0, 51, 0, 0, 6, [])), (51, (2, 0, 52, 1, 0, 0, [])), (52, (0, 2, 53, 0, 2, 0, [])), (53, (2, 0, 54, 2, 0, 0, [])), (54, (0, 2, 55, 0, 0, 0, [])), (55, (2, 0, 56, 3, 0, 0, [])), (56, (0, 0, 57, 0, 0, 1, [])), (57, (0, 2, 58, 0, 0, 0, [])), (58, (3, 3, 59, 0, 0, 0, [])), (59, (2, 0, 61, 4, 0, 0, [])), (61, (6, 0, 62, 0, 0, 0, []))]
-- 140: SongToBridgeModel.canSing(II)Z
def mm_p140 : List (Nat × mm_E) := [(0, (0, 0, 1, 0, 0, 0, [])), (1, (2, 1, 2, 3, 0, 0, [])), (2, (2, 0, 3, 0, 2, 0, [])), (3, (3, 0, 6, 42, 2, 0, [])), (6, (2, 0, 7, 1, 0, 0, [])), (7, (3, 2, 8, 0, 0, 0, [])), (8, (0, 0, 9, 0, 0, 3, [])), (9, (1, 1, 12, 16, 1, 0, [])), (12, (0, 0, 13, 0, 0, 1, [])), (13, (1, 2, 16, 17, 0, 0, [])), (16, (0, 0, 17, 0, 0, 0, [])), (17, (2, 1, 19, 4, 0, 0, [])), (19, (2, 0, 21, 4, 0, 0, [])), (21, (2, 0, 22, 0, 2, 0, [])), (22, (3, 0, 25, 45, 2, 0, [])), (25, (2, 0, 26, 1, 0, 0, [])), (26, (3, 2, 27, 0, 0, 0, [])), (27, (1, 1, 30, 62, 3, 0, [])), (30, (2, 0, 31, 3, 0, 0, [])), (31, (2, 0, 32, 2, 0, 0, [])), (32, (2, 0, 33, 0, 2, 0, [])), (33, (3, 0, 36, 46, 2, 0, [])), (36, (0, 0, 37, 0, 0, 5, [])), (37, (2, 0, 38, 1, 0, 0, [])), (38, (0, 2, 39, 0, 2, 0, [])), (39, (2, 0, 41, 4, 0, 0, [])), (41, (0, 2, 42, 0, 0, 0, [])), (42, (3, 2, 43, 0, 0, 0, [])), (43, (5, 0, 46, 114, 2, 0, [])), (46, (1, 0, 49, 53, 0, 0, [])), (49, (0, 0, 50, 0, 0, 0, [])), (50, (1, 2, 53, 54, 0, 0, [])), (53, (0, 0, 54, 0, 0, 1, [])), (54, (0, 2, 55, 0, 0, 0, [])), (55, (2, 1, 56, 3, 0, 0, [])), (56, (2, 2, 59, 4, 0, 1, [])), (59, (1, 2, 62, 19, 0, 0, [])), (62, (2, 0, 63, 0, 2, 0, [])), (63, (3, 0, 66, 42, 2, 0, [])), (66, (2, 0, 67, 1, 0, 0, [])), (67, (3, 2, 68, 0, 0, 0, [])), (68, (0, 0, 69, 0, 0, 1, [])), (69, (1, 1, 72, 82, 0, 0, [])), (72, (2, 0, 73, 0, 2, 0, [])), (73, (3, 0, 76, 42, 2, 0, [])), (76, (2, 0, 77, 1, 0, 0, [])), (77, (3, 2, 78, 0, 0, 0, [])), (78, (0, 0, 79, 0, 0, 3, [])), (79, (1, 1, 82, 99, 1, 0, [])), (82, (2, 0, 83, 3, 0, 0, [])), (83, (0, 0, 84, 0, 0, 2, [])), (84, (1, 1, 87, 95, 3, 0, [])), (87, (2, 0, 88, 2, 0, 0, [])), (88, (1, 0, 91, 95, 0, 0, [])), (91, (0, 0, 92, 0, 0, 1, [])), (92, (1, 2, 95, 108, 0, 0, [])), (95, (0, 0, 96, 0, 0, 0, [])), (96, (1, 2, 99, 108, 0, 0, [])), (99, (2, 0, 100, 3, 0, 0, [])), (100, (1, 0, 103, 107, 1, 0, [])), (103, (0, 0, 104, 0, 0, 1, [])), (104, (1, 2, 107, 108, 0, 0, [])), (107, (0, 0, 108, 0, 0, 0, [])), (108, (6, 0, 109, 0, 0, 0, []))]
-- 141: SongToBridgeModel.standsAt(II)Z
def mm_p141 : List (Nat × mm_E) := [(0, (2, 0, 1, 0, 2, 0, [])), (1, (3, 0, 4, 43, 2, 0, [])), (4, (2, 0, 5, 1, 0, 0, [])), (5, (3, 2, 6, 0, 0, 0, [])), (6, (2, 0, 7, 2, 0, 0, [])), (7, (1, 1, 10, 20, 0, 0, [])), (10, (2, 0, 11, 0, 2, 0, [])), (11, (3, 0, 14, 44, 2, 0, [])), (14, (2, 0, 15, 1, 0, 0, [])), (15, (3, 2, 16, 0, 0, 0, [])), (16, (2, 0, 17, 2, 0, 0, [])), (17, (1, 1, 20, 24, 1, 0, [])), (20, (0, 0, 21, 0, 0, 1, [])), (21, (1, 2, 24, 25, 0, 0, [])), (24, (0, 0, 25, 0, 0, 0, [])), (25, (6, 0, 26, 0, 0, 0, []))]
-- 142: SongToBridgeModel.mayNow(II)I
def mm_p142 : List (Nat × mm_E) := [(0, (2, 0, 1, 0, 2, 0, [])), (1, (2, 0, 2, 2, 0, 0, [])), (2, (2, 0, 3, 0, 2, 0, [])), (3, (3, 0, 6, 49, 2, 0, [])), (6, (2, 0, 7, 1, 0, 0, [])), (7, (3, 2, 8, 0, 0, 0, [])), (8, (5, 2, 11, 140, 2, 0, [])), (11, (1, 0, 14, 16, 1, 0, [])), (14, (0, 0, 15, 0, 0, 0, [])), (15, (6, 0, 16, 0, 0, 0, [])), (16, (2, 0, 17, 0, 2, 0, [])), (17, (2, 0, 18, 2, 0, 0, [])), (18, (2, 0, 19, 0, 2, 0, [])), (19, (3, 0, 22, 48, 2, 0, [])), (22, (2, 0, 23, 1, 0, 0, [])), (23, (3, 2, 24, 0, 0, 0, [])), (24, (5, 2, 27, 141, 2, 0, [])), (27, (1, 0, 30, 48, 0, 0, [])), (30, (2, 0, 31, 0, 2, 0, [])), (31, (3, 0, 34, 50, 2, 0, [])), (34, (2, 0, 35, 1, 0, 0, [])), (35, (3, 2, 36, 0, 0, 0, [])), (36, (2, 0, 37, 0, 2, 0, [])), (37, (2, 0, 38, 2, 0, 0, [])), (38, (5, 2, 41, 125, 1, 0, [])), (41, (1, 1, 44, 48, 2, 0, [])), (44, (0, 0, 45, 0, 0, 1, [])), (45, (1, 2, 48, 49, 0, 0, [])), (48, (0, 0, 49, 0, 0, 2, [])), (49, (6, 0, 50, 0, 0, 0, []))]
-- 143: SongToBridgeModel.may(II)I
def mm_p143 : List (Nat × mm_E) := [(0, (2, 0, 1, 0, 2, 0, [])), (1, (2, 0, 2, 1, 0, 0, [])), (2, (5, 2, 5, 134, 1, 0, [])), (5, (1, 0, 8, 25, 0, 0, [])), (8, (2, 0, 9, 0, 2, 0, [])), (9, (2, 0, 10, 2, 0, 0, [])), (10, (5, 2, 13, 123, 1, 0, [])), (13, (1, 0, 16, 25, 0, 0, [])), (16, (2, 0, 17, 0, 2, 0, [])), (17, (2, 0, 18, 1, 0, 0, [])), (18, (2, 0, 19, 2, 0, 0, [])), (19, (5, 2, 22, 142, 2, 0, [])), (22, (1, 2, 25, 27, 0, 0, [])), (25, (0, 0, 27, 0, 0, (-101), [])), (27, (6, 0, 28, 0, 0, 0, []))]
-- 144: SongToBridgeModel.cross(II)I
def mm_p144 : List (Nat × mm_E) := [(0, (2, 0, 1, 0, 2, 0, [])), (1, (2, 0, 2, 1, 0, 0, [])), (2, (5, 2, 5, 134, 1, 0, [])), (5, (1, 0, 8, 16, 0, 0, [])), (8, (2, 0, 9, 0, 2, 0, [])), (9, (2, 0, 10, 2, 0, 0, [])), (10, (5, 2, 13, 123, 1, 0, [])), (13, (1, 0, 16, 19, 1, 0, [])), (16, (0, 0, 18, 0, 0, (-101), [])), (18, (6, 0, 19, 0, 0, 0, [])), (19, (2, 0, 20, 0, 2, 0, [])), (20, (2, 0, 21, 1, 0, 0, [])), (21, (2, 0, 22, 2, 0, 0, [])), (22, (5, 2, 25, 142, 2, 0, [])), (25, (0, 0, 26, 0, 0, 1, [])), (26, (1, 1, 29, 32, 0, 0, [])), (29, (0, 0, 31, 0, 0, (-103), [])), (31, (6, 0, 32, 0, 0, 0, [])), (32, (2, 0, 33, 0, 2, 0, [])), (33, (3, 0, 36, 48, 2, 0, [])), (36, (2, 0, 37, 1, 0, 0, [])), (37, (2, 0, 38, 0, 2, 0, [])), (38, (3, 0, 41, 43, 2, 0, [])), (41, (2, 0, 42, 2, 0, 0, [])), (42, (3, 2, 43, 0, 0, 0, [])), (43, (2, 0, 44, 0, 2, 0, [])), (44, (3, 0, 47, 44, 2, 0, [])), (47, (2, 0, 48, 2, 0, 0, [])), (48, (3, 2, 49, 0, 0, 0, [])), (49, (0, 2, 50, 0, 0, 0, [])), (50, (2, 0, 51, 0, 2, 0, [])), (51, (3, 0, 54, 48, 2, 0, [])), (54, (2, 0, 55, 1, 0, 0, [])), (55, (3, 2, 56, 0, 0, 0, [])), (56, (0, 2, 57, 0, 1, 0, [])), (57, (3, 3, 58, 0, 0, 0, [])), (58, (2, 0, 59, 0, 2, 0, [])), (59, (3, 0, 62, 50, 2, 0, [])), (62, (2, 0, 63, 1, 0, 0, [])), (63, (0, 7, 64, 0, 0, 0, [])), (64, (3, 2, 65, 0, 0, 0, [])), (65, (2, 0, 66, 0, 2, 0, [])), (66, (2, 0, 67, 2, 0, 0, [])), (67, (5, 2, 70, 125, 1, 0, [])), (70, (0, 2, 71, 0, 1, 0, [])), (71, (3, 3, 72, 0, 0, 0, [])), (72, (2, 0, 73, 0, 2, 0, [])), (73, (0, 6, 74, 0, 0, 0, [])), (74, (3, 0, 77, 55, 0, 0, [])), (77, (0, 0, 78, 0, 0, 1, [])), (78, (0, 2, 79, 0, 0, 0, [])), (79, (3, 1, 82, 55, 0, 0, [])), (82, (2, 0, 83, 0, 2, 0, [])), (83, (2, 0, 84, 2, 0, 0, [])), (84, (5, 2, 87, 124, 1, 0, [])), (87, (2, 0, 88, 0, 2, 0, [])), (88, (3, 0, 91, 49, 2, 0, [])), (91, (2, 0, 92, 1, 0, 0, [])), (92, (3, 2, 93, 0, 0, 0, [])), (93, (0, 2, 94, 0, 3, 0, [])), (94, (2, 1, 95, 3, 0, 0, [])), (95, (0, 0, 96, 0, 0, 0, [])), (96, (2, 1, 98, 4, 0, 0, [])), (98, (2, 0, 100, 4, 0, 0, [])), (100, (0, 0, 102, 0, 0, 6, [])), (102, (1, 1, 105, 151, 3, 0, [])), (105, (2, 0, 106, 0, 2, 0, [])), (106, (3, 0, 109, 54, 2, 0, [])), (109, (0, 0, 111, 0, 0, 6, [])), (111, (2, 0, 112, 1, 0, 0, [])), (112, (0, 2, 113, 0, 2, 0, [])), (113, (2, 0, 115, 4, 0, 0, [])), (115, (0, 2, 116, 0, 0, 0, [])), (116, (2, 0, 117, 3, 0, 0, [])), (117, (2, 0, 119, 4, 0, 0, [])), (119, (5, 0, 122, 114, 2, 0, [])), (122, (1, 0, 125, 132, 0, 0, [])), (125, (2, 0, 126, 0, 2, 0, [])), (126, (3, 0, 129, 55, 0, 0, [])), (129, (1, 2, 132, 144, 0, 0, [])), (132, (2, 0, 133, 0, 2, 0, [])), (133, (3, 0, 136, 54, 2, 0, [])), (136, (0, 0, 138, 0, 0, 6, [])), (138, (2, 0, 139, 1, 0, 0, [])), (139, (0, 2, 140, 0, 2, 0, [])), (140, (2, 0, 142, 4, 0, 0, [])), (142, (0, 2, 143, 0, 0, 0, [])), (143, (3, 2, 144, 0, 0, 0, [])), (144, (3, 3, 145, 0, 0, 0, [])), (145, (2, 2, 148, 4, 0, 1, [])), (148, (1, 2, 151, 98, 0, 0, [])), (151, (2, 0, 152, 0, 2, 0, [])), (152, (3, 0, 155, 48, 2, 0, [])), (155, (2, 0, 156, 1, 0, 0, [])), (156, (3, 2, 157, 0, 0, 0, [])), (157, (6, 0, 158, 0, 0, 0, []))]
-- 145: SongToBridgeModel.learn(II)I
def mm_p145 : List (Nat × mm_E) := [(0, (2, 0, 1, 0, 2, 0, [])), (1, (2, 0, 2, 1, 0, 0, [])), (2, (5, 2, 5, 134, 1, 0, [])), (5, (1, 0, 8, 15, 0, 0, [])), (8, (2, 0, 9, 2, 0, 0, [])), (9, (5, 0, 12, 133, 1, 0, [])), (12, (1, 0, 15, 18, 1, 0, [])), (15, (0, 0, 17, 0, 0, (-101), [])), (17, (6, 0, 18, 0, 0, 0, [])), (18, (0, 0, 20, 0, 0, 6, [])), (20, (2, 0, 21, 0, 2, 0, [])), (21, (3, 0, 24, 48, 2, 0, [])), (24, (2, 0, 25, 1, 0, 0, [])), (25, (3, 2, 26, 0, 0, 0, [])), (26, (0, 2, 27, 0, 2, 0, [])), (27, (2, 0, 28, 2, 0, 0, [])), (28, (0, 2, 29, 0, 0, 0, [])), (29, (2, 1, 30, 3, 0, 0, [])), (30, (2, 0, 31, 0, 2, 0, [])), (31, (3, 0, 34, 56, 2, 0, [])), (34, (2, 0, 35, 3, 0, 0, [])), (35, (3, 2, 36, 0, 0, 0, [])), (36, (0, 0, 37, 0, 0, 1, [])), (37, (0, 2, 38, 0, 1, 0, [])), (38, (2, 1, 40, 4, 0, 0, [])), (40, (2, 0, 41, 0, 2, 0, [])), (41, (3, 0, 44, 49, 2, 0, [])), (44, (2, 0, 45, 1, 0, 0, [])), (45, (3, 2, 46, 0, 0, 0, [])), (46, (2, 0, 47, 2, 0, 0, [])), (47, (5, 0, 50, 114, 2, 0, [])), (50, (1, 0, 53, 69, 1, 0, [])), (53, (2, 0, 55, 4, 0, 0, [])), (55, (1, 0, 58, 69, 2, 0, [])), (58, (2, 0, 60, 4, 0, 0, [])), (60, (2, 0, 61, 0, 2, 0, [])), (61, (3, 0, 64, 53, 2, 0, [])), (64, (2, 0, 65, 1, 0, 0, [])), (65, (3, 2, 66, 0, 0, 0, [])), (66, (1, 1, 69, 72, 5, 0, [])), (69, (0, 0, 71, 0, 0, (-103), [])), (71, (6, 0, 72, 0, 0, 0, [])), (72, (2, 0, 73, 0, 2, 0, [])), (73, (3, 0, 76, 53, 2, 0, [])), (76, (2, 0, 77, 1, 0, 0, [])), (77, (0, 7, 78, 0, 0, 0, [])), (78, (3, 2, 79, 0, 0, 0, [])), (79, (2, 0, 81, 4, 0, 0, [])), (81, (0, 2, 82, 0, 1, 0, [])), (82, (3, 3, 83, 0, 0, 0, [])), (83, (2, 0, 84, 0, 2, 0, [])), (84, (3, 0, 87, 49, 2, 0, [])), (87, (2, 0, 88, 1, 0, 0, [])), (88, (0, 7, 89, 0, 0, 0, [])), (89, (3, 2, 90, 0, 0, 0, [])), (90, (0, 0, 91, 0, 0, 1, [])), (91, (2, 0, 92, 2, 0, 0, [])), (92, (0, 2, 93, 0, 6, 0, [])), (93, (0, 2, 94, 0, 4, 0, [])), (94, (3, 3, 95, 0, 0, 0, [])), (95, (2, 0, 96, 0, 2, 0, [])), (96, (0, 6, 97, 0, 0, 0, [])), (97, (3, 0, 100, 55, 0, 0, [])), (100, (0, 0, 101, 0, 0, 1, [])), (101, (0, 2, 102, 0, 0, 0, [])), (102, (3, 1, 105, 55, 0, 0, [])), (105, (2, 0, 106, 0, 2, 0, [])), (106, (3, 0, 109, 54, 2, 0, [])), (109, (0, 0, 111, 0, 0, 6, [])), (111, (2, 0, 112, 1, 0, 0, [])), (112, (0, 2, 113, 0, 2, 0, [])), (113, (2, 0, 114, 2, 0, 0, [])), (114, (0, 2, 115, 0, 0, 0, [])), (115, (2, 0, 116, 0, 2, 0, [])), (116, (3, 0, 119, 55, 0, 0, [])), (119, (3, 3, 120, 0, 0, 0, [])), (120, (2, 0, 121, 0, 2, 0, [])), (121, (3, 0, 124, 56, 2, 0, [])), (124, (2, 0, 125, 3, 0, 0, [])), (125, (2, 0, 127, 4, 0, 0, [])), (127, (0, 0, 129, 0, 0, 99, [])), (129, (1, 1, 132, 139, 3, 0, [])), (132, (2, 0, 134, 4, 0, 0, [])), (134, (0, 0, 135, 0, 0, 2, [])), (135, (0, 2, 136, 0, 0, 0, [])), (136, (1, 2, 139, 141, 0, 0, [])), (139, (0, 0, 141, 0, 0, 100, [])), (141, (3, 3, 142, 0, 0, 0, [])), (142, (2, 0, 143, 0, 2, 0, [])), (143, (3, 0, 146, 53, 2, 0, [])), (146, (2, 0, 147, 1, 0, 0, [])), (147, (3, 2, 148, 0, 0, 0, [])), (148, (6, 0, 149, 0, 0, 0, []))]
-- 146: SongToBridgeModel.night()I
def mm_p146 : List (Nat × mm_E) := [(0, (0, 0, 1, 0, 0, 0, [])), (1, (2, 1, 2, 1, 0, 0, [])), (2, (0, 0, 3, 0, 0, 0, [])), (3, (2, 1, 4, 2, 0, 0, [])), (4, (2, 0, 5, 2, 0, 0, [])), (5, (2, 0, 6, 0, 2, 0, [])), (6, (3, 0, 9, 47, 0, 0, [])), (9, (1, 1, 12, 83, 3, 0, [])), (12, (2, 0, 13, 0, 2, 0, [])), (13, (3, 0, 16, 50, 2, 0, [])), (16, (2, 0, 17, 2, 0, 0, [])), (17, (2, 0, 18, 0, 2, 0, [])), (18, (3, 0, 21, 51, 2, 0, [])), (21, (2, 0, 22, 2, 0, 0, [])), (22, (3, 2, 23, 0, 0, 0, [])), (23, (3, 3, 24, 0, 0, 0, [])), (24, (2, 0, 25, 0, 2, 0, [])), (25, (3, 0, 28, 49, 2, 0, [])), (28, (2, 0, 29, 2, 0, 0, [])), (29, (3, 2, 30, 0, 0, 0, [])), (30, (5, 0, 33, 115, 1, 0, [])), (33, (2, 0, 34, 0, 2, 0, [])), (34, (3, 0, 37, 52, 2, 0, [])), (37, (2, 0, 38, 2, 0, 0, [])), (38, (3, 2, 39, 0, 0, 0, [])), (39, (1, 1, 42, 77, 5, 0, [])), (42, (2, 0, 43, 0, 2, 0, [])), (43, (2, 0, 44, 2, 0, 0, [])), (44, (5, 2, 47, 136, 1, 0, [])), (47, (2, 1, 48, 3, 0, 0, [])), (48, (2, 0, 49, 0, 2, 0, [])), (49, (3, 0, 52, 49, 2, 0, [])), (52, (2, 0, 53, 2, 0, 0, [])), (53, (0, 7, 54, 0, 0, 0, [])), (54, (3, 2, 55, 0, 0, 0, [])), (55, (0, 0, 56, 0, 0, 1, [])), (56, (2, 0, 57, 3, 0, 0, [])), (57, (0, 2, 58, 0, 6, 0, [])), (58, (0, 0, 59, 0, 0, (-1), [])), (59, (0, 2, 60, 0, 5, 0, [])), (60, (0, 2, 61, 0, 3, 0, [])), (61, (3, 3, 62, 0, 0, 0, [])), (62, (2, 0, 63, 0, 2, 0, [])), (63, (3, 0, 66, 54, 2, 0, [])), (66, (0, 0, 68, 0, 0, 6, [])), (68, (2, 0, 69, 2, 0, 0, [])), (69, (0, 2, 70, 0, 2, 0, [])), (70, (2, 0, 71, 3, 0, 0, [])), (71, (0, 2, 72, 0, 0, 0, [])), (72, (0, 0, 73, 0, 0, 0, [])), (73, (3, 3, 74, 0, 0, 0, [])), (74, (2, 2, 77, 1, 0, 1, [])), (77, (2, 2, 80, 2, 0, 1, [])), (80, (1, 2, 83, 4, 0, 0, [])), (83, (2, 0, 84, 1, 0, 0, [])), (84, (6, 0, 85, 0, 0, 0, []))]
-- 147: SongToBridgeModel.layFar(II)V
def mm_p147 : List (Nat × mm_E) := [(0, (0, 0, 1, 0, 0, 0, [])), (1, (2, 1, 2, 3, 0, 0, [])), (2, (2, 0, 3, 3, 0, 0, [])), (3, (0, 0, 5, 0, 0, 6, [])), (5, (1, 1, 8, 31, 3, 0, [])), (8, (2, 0, 9, 0, 2, 0, [])), (9, (3, 0, 12, 68, 2, 0, [])), (12, (2, 0, 13, 3, 0, 0, [])), (13, (2, 0, 14, 3, 0, 0, [])), (14, (2, 0, 15, 1, 0, 0, [])), (15, (1, 1, 18, 22, 1, 0, [])), (18, (0, 0, 19, 0, 0, 0, [])), (19, (1, 2, 22, 24, 0, 0, [])), (22, (0, 0, 24, 1045, 0, 1048576, [])), (24, (3, 3, 25, 0, 0, 0, [])), (25, (2, 2, 28, 3, 0, 1, [])), (28, (1, 2, 31, 2, 0, 0, [])), (31, (0, 0, 32, 0, 0, 0, [])), (32, (2, 1, 33, 3, 0, 0, [])), (33, (2, 0, 34, 3, 0, 0, [])), (34, (0, 0, 36, 0, 0, 6, [])), (36, (1, 1, 39, 198, 3, 0, [])), (39, (0, 0, 40, 0, 0, 0, [])), (40, (2, 1, 42, 4, 0, 0, [])), (42, (2, 0, 44, 4, 0, 0, [])), (44, (2, 0, 45, 0, 2, 0, [])), (45, (3, 0, 48, 41, 0, 0, [])), (48, (1, 1, 51, 192, 3, 0, [])), (51, (2, 0, 52, 0, 2, 0, [])), (52, (2, 0, 54, 4, 0, 0, [])), (54, (2, 0, 55, 2, 0, 0, [])), (55, (5, 2, 58, 140, 2, 0, [])), (58, (1, 0, 61, 70, 0, 0, [])), (61, (2, 0, 62, 0, 2, 0, [])), (62, (2, 0, 64, 4, 0, 0, [])), (64, (5, 2, 67, 125, 1, 0, [])), (67, (1, 2, 70, 72, 0, 0, [])), (70, (0, 0, 72, 1045, 0, 1048576, [])), (72, (2, 1, 74, 5, 0, 0, [])), (74, (2, 0, 75, 0, 2, 0, [])), (75, (3, 0, 78, 43, 2, 0, [])), (78, (2, 0, 80, 4, 0, 0, [])), (80, (3, 2, 81, 0, 0, 0, [])), (81, (2, 1, 83, 6, 0, 0, [])), (83, (2, 0, 84, 0, 2, 0, [])), (84, (3, 0, 87, 44, 2, 0, [])), (87, (2, 0, 89, 4, 0, 0, [])), (89, (3, 2, 90, 0, 0, 0, [])), (90, (2, 1, 92, 7, 0, 0, [])), (92, (2, 0, 93, 0, 2, 0, [])), (93, (3, 0, 96, 68, 2, 0, [])), (96, (2, 0, 98, 6, 0, 0, [])), (98, (2, 0, 99, 0, 2, 0, [])), (99, (3, 0, 102, 68, 2, 0, [])), (102, (2, 0, 104, 7, 0, 0, [])), (104, (3, 2, 105, 0, 0, 0, [])), (105, (2, 0, 107, 5, 0, 0, [])), (107, (0, 2, 108, 0, 0, 0, [])), (108, (2, 0, 109, 0, 2, 0, [])), (109, (3, 0, 112, 68, 2, 0, [])), (112, (2, 0, 114, 6, 0, 0, [])), (114, (3, 2, 115, 0, 0, 0, [])), (115, (1, 1, 118, 131, 3, 0, [])), (118, (2, 0, 119, 0, 2, 0, [])), (119, (3, 0, 122, 68, 2, 0, [])), (122, (2, 0, 124, 7, 0, 0, [])), (124, (3, 2, 125, 0, 0, 0, [])), (125, (2, 0, 127, 5, 0, 0, [])), (127, (0, 2, 128, 0, 0, 0, [])), (128, (1, 2, 131, 138, 0, 0, [])), (131, (2, 0, 132, 0, 2, 0, [])), (132, (3, 0, 135, 68, 2, 0, [])), (135, (2, 0, 137, 6, 0, 0, [])), (137, (3, 2, 138, 0, 0, 0, [])), (138, (3, 3, 139, 0, 0, 0, [])), (139, (2, 0, 140, 0, 2, 0, [])), (140, (3, 0, 143, 68, 2, 0, [])), (143, (2, 0, 145, 7, 0, 0, [])), (145, (2, 0, 146, 0, 2, 0, [])), (146, (3, 0, 149, 68, 2, 0, [])), (149, (2, 0, 151, 6, 0, 0, [])), (151, (3, 2, 152, 0, 0, 0, [])), (152, (2, 0, 154, 5, 0, 0, [])), (154, (0, 2, 155, 0, 0, 0, [])), (155, (2, 0, 156, 0, 2, 0, [])), (156, (3, 0, 159, 68, 2, 0, [])), (159, (2, 0, 161, 7, 0, 0, [])), (161, (3, 2, 162, 0, 0, 0, [])), (162, (1, 1, 165, 178, 3, 0, [])), (165, (2, 0, 166, 0, 2, 0, [])), (166, (3, 0, 169, 68, 2, 0, [])), (169, (2, 0, 171, 6, 0, 0, [])), (171, (3, 2, 172, 0, 0, 0, [])), (172, (2, 0, 174, 5, 0, 0, [])), (174, (0, 2, 175, 0, 0, 0, [])), (175, (1, 2, 178, 185, 0, 0, [])), (178, (2, 0, 179, 0, 2, 0, [])), (179, (3, 0, 182, 68, 2, 0, [])), (182, (2, 0, 184, 7, 0, 0, [])), (184, (3, 2, 185, 0, 0, 0, [])), (185, (3, 3, 186, 0, 0, 0, [])), (186, (2, 2, 189, 4, 0, 1, [])), (189, (1, 2, 192, 42, 0, 0, [])), (192, (2, 2, 195, 3, 0, 1, [])), (195, (1, 2, 198, 33, 0, 0, [])), (198, (6, 2, 199, 0, 0, 0, []))]
-- 148: SongToBridgeModel.homeNow(III)I
def mm_p148 : List (Nat × mm_E) := [(0, (2, 0, 1, 0, 2, 0, [])), (1, (2, 0, 2, 2, 0, 0, [])), (2, (2, 0, 3, 0, 2, 0, [])), (3, (3, 0, 6, 49, 2, 0, [])), (6, (2, 0, 7, 1, 0, 0, [])), (7, (3, 2, 8, 0, 0, 0, [])), (8, (5, 2, 11, 147, 2, 0, [])), (11, (2, 0, 12, 0, 2, 0, [])), (12, (3, 0, 15, 68, 2, 0, [])), (15, (2, 0, 16, 0, 2, 0, [])), (16, (3, 0, 19, 48, 2, 0, [])), (19, (2, 0, 20, 1, 0, 0, [])), (20, (3, 2, 21, 0, 0, 0, [])), (21, (3, 2, 22, 0, 0, 0, [])), (22, (2, 1, 24, 4, 0, 0, [])), (24, (2, 0, 26, 4, 0, 0, [])), (26, (2, 0, 27, 0, 2, 0, [])), (27, (3, 0, 30, 50, 2, 0, [])), (30, (2, 0, 31, 1, 0, 0, [])), (31, (3, 2, 32, 0, 0, 0, [])), (32, (1, 1, 35, 37, 5, 0, [])), (35, (0, 0, 36, 0, 0, (-1), [])), (36, (6, 0, 37, 0, 0, 0, [])), (37, (2, 0, 38, 3, 0, 0, [])), (38, (1, 0, 41, 44, 1, 0, [])), (41, (2, 0, 43, 4, 0, 0, [])), (43, (6, 0, 44, 0, 0, 0, [])), (44, (0, 0, 45, 0, 0, 0, [])), (45, (2, 1, 47, 5, 0, 0, [])), (47, (2, 0, 49, 5, 0, 0, [])), (49, (2, 0, 50, 0, 2, 0, [])), (50, (3, 0, 53, 41, 0, 0, [])), (53, (1, 1, 56, 143, 3, 0, [])), (56, (2, 0, 58, 4, 0, 0, [])), (58, (1, 0, 61, 143, 5, 0, [])), (61, (2, 0, 62, 0, 2, 0, [])), (62, (2, 0, 64, 5, 0, 0, [])), (64, (2, 0, 65, 0, 2, 0, [])), (65, (3, 0, 68, 48, 2, 0, [])), (68, (2, 0, 69, 1, 0, 0, [])), (69, (3, 2, 70, 0, 0, 0, [])), (70, (5, 2, 73, 141, 2, 0, [])), (73, (1, 0, 76, 137, 0, 0, [])), (76, (2, 0, 77, 0, 2, 0, [])), (77, (2, 0, 79, 5, 0, 0, [])), (79, (2, 0, 80, 0, 2, 0, [])), (80, (3, 0, 83, 49, 2, 0, [])), (83, (2, 0, 84, 1, 0, 0, [])), (84, (3, 2, 85, 0, 0, 0, [])), (85, (5, 2, 88, 140, 2, 0, [])), (88, (1, 0, 91, 137, 0, 0, [])), (91, (2, 0, 92, 0, 2, 0, [])), (92, (3, 0, 95, 43, 2, 0, [])), (95, (2, 0, 97, 5, 0, 0, [])), (97, (3, 2, 98, 0, 0, 0, [])), (98, (2, 0, 99, 0, 2, 0, [])), (99, (3, 0, 102, 44, 2, 0, [])), (102, (2, 0, 104, 5, 0, 0, [])), (104, (3, 2, 105, 0, 0, 0, [])), (105, (0, 2, 106, 0, 0, 0, [])), (106, (2, 0, 107, 0, 2, 0, [])), (107, (3, 0, 110, 48, 2, 0, [])), (110, (2, 0, 111, 1, 0, 0, [])), (111, (3, 2, 112, 0, 0, 0, [])), (112, (0, 2, 113, 0, 1, 0, [])), (113, (2, 1, 115, 6, 0, 0, [])), (115, (2, 0, 116, 0, 2, 0, [])), (116, (2, 0, 118, 5, 0, 0, [])), (118, (5, 2, 121, 125, 1, 0, [])), (121, (2, 0, 122, 0, 2, 0, [])), (122, (3, 0, 125, 68, 2, 0, [])), (125, (2, 0, 127, 6, 0, 0, [])), (127, (3, 2, 128, 0, 0, 0, [])), (128, (0, 2, 129, 0, 0, 0, [])), (129, (2, 0, 131, 4, 0, 0, [])), (131, (1, 1, 134, 137, 1, 0, [])), (134, (2, 0, 136, 5, 0, 0, [])), (136, (6, 0, 137, 0, 0, 0, [])), (137, (2, 2, 140, 5, 0, 1, [])), (140, (1, 2, 143, 47, 0, 0, [])), (143, (0, 0, 144, 0, 0, (-1), [])), (144, (6, 0, 145, 0, 0, 0, []))]
-- 149: SongToBridgeModel.home(III)I
def mm_p149 : List (Nat × mm_E) := [(0, (2, 0, 1, 0, 2, 0, [])), (1, (2, 0, 2, 1, 0, 0, [])), (2, (5, 2, 5, 134, 1, 0, [])), (5, (1, 0, 8, 15, 0, 0, [])), (8, (2, 0, 9, 2, 0, 0, [])), (9, (5, 0, 12, 132, 1, 0, [])), (12, (1, 0, 15, 18, 1, 0, [])), (15, (0, 0, 17, 0, 0, (-101), [])), (17, (6, 0, 18, 0, 0, 0, [])), (18, (2, 0, 19, 3, 0, 0, [])), (19, (0, 0, 20, 0, 0, 0, [])), (20, (0, 0, 21, 0, 0, 1, [])), (21, (5, 0, 24, 113, 3, 0, [])), (24, (1, 0, 27, 37, 0, 0, [])), (27, (2, 0, 28, 0, 2, 0, [])), (28, (2, 0, 29, 1, 0, 0, [])), (29, (2, 0, 30, 2, 0, 0, [])), (30, (2, 0, 31, 3, 0, 0, [])), (31, (5, 2, 34, 148, 3, 0, [])), (34, (1, 2, 37, 39, 0, 0, [])), (37, (0, 0, 39, 0, 0, (-102), [])), (39, (6, 0, 40, 0, 0, 0, []))]
-- 150: SongToBridgeModel.reachBy(II)I
def mm_p150 : List (Nat × mm_E) := [(0, (2, 0, 1, 0, 2, 0, [])), (1, (2, 0, 2, 0, 2, 0, [])), (2, (3, 0, 5, 48, 2, 0, [])), (5, (2, 0, 6, 1, 0, 0, [])), (6, (3, 2, 7, 0, 0, 0, [])), (7, (2, 0, 8, 2, 0, 0, [])), (8, (5, 2, 11, 147, 2, 0, [])), (11, (0, 0, 12, 0, 0, 0, [])), (12, (2, 1, 13, 3, 0, 0, [])), (13, (0, 0, 14, 0, 0, 0, [])), (14, (2, 1, 16, 4, 0, 0, [])), (16, (2, 0, 18, 4, 0, 0, [])), (18, (0, 0, 20, 0, 0, 6, [])), (20, (1, 1, 23, 56, 3, 0, [])), (23, (2, 0, 24, 3, 0, 0, [])), (24, (2, 0, 25, 0, 2, 0, [])), (25, (3, 0, 28, 68, 2, 0, [])), (28, (2, 0, 30, 4, 0, 0, [])), (30, (3, 2, 31, 0, 0, 0, [])), (31, (2, 0, 32, 0, 2, 0, [])), (32, (3, 0, 35, 50, 2, 0, [])), (35, (2, 0, 36, 1, 0, 0, [])), (36, (3, 2, 37, 0, 0, 0, [])), (37, (1, 1, 40, 47, 4, 0, [])), (40, (0, 0, 41, 0, 0, 1, [])), (41, (2, 0, 43, 4, 0, 0, [])), (43, (0, 2, 44, 0, 6, 0, [])), (44, (1, 2, 47, 48, 0, 0, [])), (47, (0, 0, 48, 0, 0, 0, [])), (48, (0, 2, 49, 0, 4, 0, [])), (49, (2, 1, 50, 3, 0, 0, [])), (50, (2, 2, 53, 4, 0, 1, [])), (53, (1, 2, 56, 16, 0, 0, [])), (56, (2, 0, 57, 3, 0, 0, [])), (57, (6, 0, 58, 0, 0, 0, []))]
-- 151: SongToBridgeModel.reach(I)I
def mm_p151 : List (Nat × mm_E) := [(0, (2, 0, 1, 0, 2, 0, [])), (1, (2, 0, 2, 1, 0, 0, [])), (2, (5, 2, 5, 134, 1, 0, [])), (5, (1, 0, 8, 22, 0, 0, [])), (8, (2, 0, 9, 0, 2, 0, [])), (9, (2, 0, 10, 1, 0, 0, [])), (10, (2, 0, 11, 0, 2, 0, [])), (11, (3, 0, 14, 49, 2, 0, [])), (14, (2, 0, 15, 1, 0, 0, [])), (15, (3, 2, 16, 0, 0, 0, [])), (16, (5, 2, 19, 150, 2, 0, [])), (19, (1, 2, 22, 24, 0, 0, [])), (22, (0, 0, 24, 0, 0, (-101), [])), (24, (6, 0, 25, 0, 0, 0, []))]
-- 152: SongToBridgeModel.firstNow(I)I
def mm_p152 : List (Nat × mm_E) := [(0, (0, 0, 1, 0, 0, (-1), [])), (1, (2, 1, 2, 2, 0, 0, [])), (2, (2, 0, 3, 0, 2, 0, [])), (3, (2, 0, 4, 1, 0, 0, [])), (4, (2, 0, 5, 0, 2, 0, [])), (5, (3, 0, 8, 49, 2, 0, [])), (8, (2, 0, 9, 1, 0, 0, [])), (9, (3, 2, 10, 0, 0, 0, [])), (10, (5, 2, 13, 150, 2, 0, [])), (13, (5, 0, 16, 115, 1, 0, [])), (16, (2, 1, 17, 3, 0, 0, [])), (17, (0, 0, 18, 0, 0, 0, [])), (18, (2, 1, 20, 4, 0, 0, [])), (20, (2, 0, 22, 4, 0, 0, [])), (22, (0, 0, 24, 0, 0, 6, [])), (24, (1, 1, 27, 131, 3, 0, [])), (27, (2, 0, 28, 0, 2, 0, [])), (28, (3, 0, 31, 56, 2, 0, [])), (31, (0, 0, 33, 0, 0, 6, [])), (33, (2, 0, 34, 0, 2, 0, [])), (34, (3, 0, 37, 48, 2, 0, [])), (37, (2, 0, 38, 1, 0, 0, [])), (38, (3, 2, 39, 0, 0, 0, [])), (39, (0, 2, 40, 0, 2, 0, [])), (40, (2, 0, 42, 4, 0, 0, [])), (42, (0, 2, 43, 0, 0, 0, [])), (43, (3, 2, 44, 0, 0, 0, [])), (44, (0, 0, 45, 0, 0, 1, [])), (45, (0, 2, 46, 0, 1, 0, [])), (46, (2, 1, 48, 5, 0, 0, [])), (48, (2, 0, 49, 0, 2, 0, [])), (49, (3, 0, 52, 49, 2, 0, [])), (52, (2, 0, 53, 1, 0, 0, [])), (53, (3, 2, 54, 0, 0, 0, [])), (54, (2, 0, 56, 4, 0, 0, [])), (56, (5, 0, 59, 114, 2, 0, [])), (59, (1, 0, 62, 125, 1, 0, [])), (62, (2, 0, 64, 5, 0, 0, [])), (64, (1, 0, 67, 125, 2, 0, [])), (67, (2, 0, 69, 5, 0, 0, [])), (69, (2, 0, 70, 0, 2, 0, [])), (70, (3, 0, 73, 53, 2, 0, [])), (73, (2, 0, 74, 1, 0, 0, [])), (74, (3, 2, 75, 0, 0, 0, [])), (75, (1, 1, 78, 125, 4, 0, [])), (78, (2, 0, 79, 0, 2, 0, [])), (79, (2, 0, 80, 1, 0, 0, [])), (80, (2, 0, 81, 0, 2, 0, [])), (81, (3, 0, 84, 49, 2, 0, [])), (84, (2, 0, 85, 1, 0, 0, [])), (85, (3, 2, 86, 0, 0, 0, [])), (86, (0, 0, 87, 0, 0, 1, [])), (87, (2, 0, 89, 4, 0, 0, [])), (89, (0, 2, 90, 0, 6, 0, [])), (90, (0, 2, 91, 0, 4, 0, [])), (91, (5, 2, 94, 150, 2, 0, [])), (94, (5, 0, 97, 115, 1, 0, [])), (97, (2, 1, 99, 6, 0, 0, [])), (99, (2, 0, 101, 6, 0, 0, [])), (101, (2, 0, 102, 3, 0, 0, [])), (102, (1, 1, 105, 110, 5, 0, [])), (105, (2, 0, 107, 4, 0, 0, [])), (107, (1, 2, 110, 111, 0, 0, [])), (110, (2, 0, 111, 2, 0, 0, [])), (111, (2, 1, 112, 2, 0, 0, [])), (112, (2, 0, 114, 6, 0, 0, [])), (114, (2, 0, 115, 3, 0, 0, [])), (115, (1, 1, 118, 123, 5, 0, [])), (118, (2, 0, 120, 6, 0, 0, [])), (120, (1, 2, 123, 124, 0, 0, [])), (123, (2, 0, 124, 3, 0, 0, [])), (124, (2, 1, 125, 3, 0, 0, [])), (125, (2, 2, 128, 4, 0, 1, [])), (128, (1, 2, 131, 20, 0, 0, [])), (131, (2, 0, 132, 2, 0, 0, [])), (132, (6, 0, 133, 0, 0, 0, []))]
-- 153: SongToBridgeModel.first(I)I
def mm_p153 : List (Nat × mm_E) := [(0, (2, 0, 1, 0, 2, 0, [])), (1, (2, 0, 2, 1, 0, 0, [])), (2, (5, 2, 5, 134, 1, 0, [])), (5, (1, 0, 8, 16, 0, 0, [])), (8, (2, 0, 9, 0, 2, 0, [])), (9, (2, 0, 10, 1, 0, 0, [])), (10, (5, 2, 13, 152, 1, 0, [])), (13, (1, 2, 16, 18, 0, 0, [])), (16, (0, 0, 18, 0, 0, (-101), [])), (18, (6, 0, 19, 0, 0, 0, []))]
-- 154: SongToBridgeModel.learnOn(II)V
def mm_p154 : List (Nat × mm_E) := [(0, (2, 0, 1, 0, 2, 0, [])), (1, (2, 0, 2, 1, 0, 0, [])), (2, (2, 0, 3, 2, 0, 0, [])), (3, (5, 2, 6, 147, 2, 0, [])), (6, (0, 0, 7, 0, 0, 0, [])), (7, (2, 1, 8, 3, 0, 0, [])), (8, (2, 0, 9, 3, 0, 0, [])), (9, (0, 0, 11, 0, 0, 6, [])), (11, (1, 1, 14, 144, 3, 0, [])), (14, (0, 0, 16, 1045, 0, 1048576, [])), (16, (2, 1, 18, 4, 0, 0, [])), (18, (0, 0, 19, 0, 0, 0, [])), (19, (2, 1, 21, 5, 0, 0, [])), (21, (2, 0, 23, 5, 0, 0, [])), (23, (0, 0, 25, 0, 0, 6, [])), (25, (1, 1, 28, 83, 3, 0, [])), (28, (2, 0, 29, 0, 2, 0, [])), (29, (3, 0, 32, 56, 2, 0, [])), (32, (0, 0, 34, 0, 0, 6, [])), (34, (2, 0, 36, 5, 0, 0, [])), (36, (0, 2, 37, 0, 2, 0, [])), (37, (2, 0, 38, 3, 0, 0, [])), (38, (0, 2, 39, 0, 0, 0, [])), (39, (3, 2, 40, 0, 0, 0, [])), (40, (0, 0, 41, 0, 0, 1, [])), (41, (0, 2, 42, 0, 1, 0, [])), (42, (2, 1, 44, 6, 0, 0, [])), (44, (2, 0, 45, 0, 2, 0, [])), (45, (3, 0, 48, 68, 2, 0, [])), (48, (2, 0, 50, 5, 0, 0, [])), (50, (3, 2, 51, 0, 0, 0, [])), (51, (0, 0, 53, 1045, 0, 1048576, [])), (53, (1, 1, 56, 73, 3, 0, [])), (56, (2, 0, 58, 6, 0, 0, [])), (58, (1, 0, 61, 73, 2, 0, [])), (61, (2, 0, 63, 6, 0, 0, [])), (63, (2, 0, 65, 4, 0, 0, [])), (65, (1, 1, 68, 73, 3, 0, [])), (68, (2, 0, 70, 6, 0, 0, [])), (70, (1, 2, 73, 75, 0, 0, [])), (73, (2, 0, 75, 4, 0, 0, [])), (75, (2, 1, 77, 4, 0, 0, [])), (77, (2, 2, 80, 5, 0, 1, [])), (80, (1, 2, 83, 21, 0, 0, [])), (83, (2, 0, 84, 2, 0, 0, [])), (84, (0, 0, 85, 0, 0, 1, [])), (85, (2, 0, 86, 3, 0, 0, [])), (86, (0, 2, 87, 0, 6, 0, [])), (87, (0, 2, 88, 0, 4, 0, [])), (88, (2, 1, 90, 5, 0, 0, [])), (90, (2, 0, 92, 5, 0, 0, [])), (92, (2, 0, 93, 2, 0, 0, [])), (93, (1, 1, 96, 138, 0, 0, [])), (96, (2, 0, 98, 4, 0, 0, [])), (98, (0, 0, 100, 1045, 0, 1048576, [])), (100, (1, 1, 103, 138, 3, 0, [])), (103, (2, 0, 104, 0, 2, 0, [])), (104, (3, 0, 107, 69, 2, 0, [])), (107, (2, 0, 108, 2, 0, 0, [])), (108, (3, 2, 109, 0, 0, 0, [])), (109, (2, 0, 111, 4, 0, 0, [])), (111, (0, 2, 112, 0, 0, 0, [])), (112, (2, 0, 113, 0, 2, 0, [])), (113, (3, 0, 116, 69, 2, 0, [])), (116, (2, 0, 118, 5, 0, 0, [])), (118, (3, 2, 119, 0, 0, 0, [])), (119, (1, 1, 122, 138, 3, 0, [])), (122, (2, 0, 123, 0, 2, 0, [])), (123, (3, 0, 126, 69, 2, 0, [])), (126, (2, 0, 128, 5, 0, 0, [])), (128, (2, 0, 129, 0, 2, 0, [])), (129, (3, 0, 132, 69, 2, 0, [])), (132, (2, 0, 133, 2, 0, 0, [])), (133, (3, 2, 134, 0, 0, 0, [])), (134, (2, 0, 136, 4, 0, 0, [])), (136, (0, 2, 137, 0, 0, 0, [])), (137, (3, 3, 138, 0, 0, 0, [])), (138, (2, 2, 141, 3, 0, 1, [])), (141, (1, 2, 144, 8, 0, 0, [])), (144, (6, 2, 145, 0, 0, 0, []))]
-- 155: SongToBridgeModel.cheapestNow(III)I
def mm_p155 : List (Nat × mm_E) := [(0, (0, 0, 1, 0, 0, 0, [])), (1, (2, 1, 3, 4, 0, 0, [])), (3, (2, 0, 5, 4, 0, 0, [])), (5, (0, 0, 7, 0, 0, 64, [])), (7, (1, 1, 10, 40, 3, 0, [])), (10, (2, 0, 11, 0, 2, 0, [])), (11, (3, 0, 14, 69, 2, 0, [])), (14, (2, 0, 16, 4, 0, 0, [])), (16, (2, 0, 18, 4, 0, 0, [])), (18, (2, 0, 19, 0, 2, 0, [])), (19, (3, 0, 22, 49, 2, 0, [])), (22, (2, 0, 23, 1, 0, 0, [])), (23, (3, 2, 24, 0, 0, 0, [])), (24, (1, 1, 27, 31, 1, 0, [])), (27, (0, 0, 28, 0, 0, 0, [])), (28, (1, 2, 31, 33, 0, 0, [])), (31, (0, 0, 33, 1045, 0, 1048576, [])), (33, (3, 3, 34, 0, 0, 0, [])), (34, (2, 2, 37, 4, 0, 1, [])), (37, (1, 2, 40, 3, 0, 0, [])), (40, (0, 0, 41, 0, 0, (-1), [])), (41, (2, 1, 43, 4, 0, 0, [])), (43, (0, 0, 45, 1045, 0, 1048576, [])), (45, (2, 1, 47, 5, 0, 0, [])), (47, (0, 0, 48, 0, 0, 0, [])), (48, (2, 1, 50, 6, 0, 0, [])), (50, (2, 0, 52, 6, 0, 0, [])), (52, (0, 0, 54, 0, 0, 64, [])), (54, (1, 1, 57, 132, 3, 0, [])), (57, (2, 0, 58, 0, 2, 0, [])), (58, (3, 0, 61, 69, 2, 0, [])), (61, (2, 0, 63, 6, 0, 0, [])), (63, (3, 2, 64, 0, 0, 0, [])), (64, (0, 0, 66, 1045, 0, 1048576, [])), (66, (1, 1, 69, 126, 3, 0, [])), (69, (2, 0, 70, 0, 2, 0, [])), (70, (2, 0, 71, 0, 2, 0, [])), (71, (3, 0, 74, 48, 2, 0, [])), (74, (2, 0, 75, 1, 0, 0, [])), (75, (3, 2, 76, 0, 0, 0, [])), (76, (2, 0, 78, 6, 0, 0, [])), (78, (5, 2, 81, 154, 2, 0, [])), (81, (2, 0, 82, 0, 2, 0, [])), (82, (3, 0, 85, 68, 2, 0, [])), (85, (2, 0, 86, 2, 0, 0, [])), (86, (3, 2, 87, 0, 0, 0, [])), (87, (0, 0, 89, 1045, 0, 1048576, [])), (89, (1, 1, 92, 126, 3, 0, [])), (92, (2, 0, 93, 0, 2, 0, [])), (93, (3, 0, 96, 69, 2, 0, [])), (96, (2, 0, 98, 6, 0, 0, [])), (98, (3, 2, 99, 0, 0, 0, [])), (99, (2, 0, 101, 5, 0, 0, [])), (101, (1, 1, 104, 126, 3, 0, [])), (104, (2, 0, 105, 0, 2, 0, [])), (105, (3, 0, 108, 69, 2, 0, [])), (108, (2, 0, 110, 6, 0, 0, [])), (110, (3, 2, 111, 0, 0, 0, [])), (111, (2, 1, 113, 5, 0, 0, [])), (113, (2, 0, 115, 6, 0, 0, [])), (115, (2, 0, 116, 0, 2, 0, [])), (116, (3, 0, 119, 49, 2, 0, [])), (119, (2, 0, 120, 1, 0, 0, [])), (120, (3, 2, 121, 0, 0, 0, [])), (121, (0, 0, 122, 0, 0, (-1), [])), (122, (0, 2, 123, 0, 5, 0, [])), (123, (0, 2, 124, 0, 3, 0, [])), (124, (2, 1, 126, 4, 0, 0, [])), (126, (2, 2, 129, 6, 0, 1, [])), (129, (1, 2, 132, 50, 0, 0, [])), (132, (2, 0, 134, 4, 0, 0, [])), (134, (0, 0, 135, 0, 0, (-1), [])), (135, (1, 1, 138, 149, 0, 0, [])), (138, (2, 0, 140, 5, 0, 0, [])), (140, (2, 0, 141, 0, 2, 0, [])), (141, (3, 0, 144, 53, 2, 0, [])), (144, (2, 0, 145, 1, 0, 0, [])), (145, (3, 2, 146, 0, 0, 0, [])), (146, (1, 1, 149, 151, 5, 0, [])), (149, (0, 0, 150, 0, 0, (-1), [])), (150, (6, 0, 151, 0, 0, 0, [])), (151, (2, 0, 152, 3, 0, 0, [])), (152, (1, 0, 155, 160, 1, 0, [])), (155, (2, 0, 157, 5, 0, 0, [])), (157, (1, 2, 160, 162, 0, 0, [])), (160, (2, 0, 162, 4, 0, 0, [])), (162, (6, 0, 163, 0, 0, 0, []))]
-- 156: SongToBridgeModel.cheapest(III)I
def mm_p156 : List (Nat × mm_E) := [(0, (2, 0, 1, 0, 2, 0, [])), (1, (2, 0, 2, 1, 0, 0, [])), (2, (5, 2, 5, 134, 1, 0, [])), (5, (1, 0, 8, 15, 0, 0, [])), (8, (2, 0, 9, 2, 0, 0, [])), (9, (5, 0, 12, 132, 1, 0, [])), (12, (1, 0, 15, 18, 1, 0, [])), (15, (0, 0, 17, 0, 0, (-101), [])), (17, (6, 0, 18, 0, 0, 0, [])), (18, (2, 0, 19, 3, 0, 0, [])), (19, (0, 0, 20, 0, 0, 0, [])), (20, (0, 0, 21, 0, 0, 1, [])), (21, (5, 0, 24, 113, 3, 0, [])), (24, (1, 0, 27, 37, 0, 0, [])), (27, (2, 0, 28, 0, 2, 0, [])), (28, (2, 0, 29, 1, 0, 0, [])), (29, (2, 0, 30, 2, 0, 0, [])), (30, (2, 0, 31, 3, 0, 0, [])), (31, (5, 2, 34, 155, 3, 0, [])), (34, (1, 2, 37, 39, 0, 0, [])), (37, (0, 0, 39, 0, 0, (-102), [])), (39, (6, 0, 40, 0, 0, 0, []))]
-- 157: SongToBridgeModel.choirNow(III)I
def mm_p157 : List (Nat × mm_E) := [(0, (0, 0, 1, 0, 0, (-1), [])), (1, (2, 1, 3, 4, 0, 0, [])), (3, (0, 0, 4, 0, 0, 0, [])), (4, (2, 1, 6, 5, 0, 0, [])), (6, (2, 0, 8, 5, 0, 0, [])), (8, (0, 0, 9, 0, 0, 1, [])), (9, (2, 0, 10, 0, 2, 0, [])), (10, (3, 0, 13, 47, 0, 0, [])), (13, (0, 2, 14, 0, 6, 0, [])), (14, (1, 1, 17, 116, 3, 0, [])), (17, (0, 0, 18, 0, 0, 0, [])), (18, (2, 1, 20, 6, 0, 0, [])), (20, (0, 0, 21, 0, 0, 0, [])), (21, (2, 1, 23, 7, 0, 0, [])), (23, (2, 0, 25, 7, 0, 0, [])), (25, (2, 0, 26, 0, 2, 0, [])), (26, (3, 0, 29, 47, 0, 0, [])), (29, (1, 1, 32, 64, 3, 0, [])), (32, (2, 0, 34, 6, 0, 0, [])), (34, (2, 0, 36, 5, 0, 0, [])), (36, (2, 0, 38, 7, 0, 0, [])), (38, (5, 0, 41, 114, 2, 0, [])), (41, (1, 0, 44, 54, 0, 0, [])), (44, (2, 0, 45, 0, 2, 0, [])), (45, (3, 0, 48, 49, 2, 0, [])), (48, (2, 0, 50, 7, 0, 0, [])), (50, (3, 2, 51, 0, 0, 0, [])), (51, (1, 2, 54, 55, 0, 0, [])), (54, (0, 0, 55, 0, 0, 0, [])), (55, (0, 2, 56, 0, 4, 0, [])), (56, (2, 1, 58, 6, 0, 0, [])), (58, (2, 2, 61, 7, 0, 1, [])), (61, (1, 2, 64, 23, 0, 0, [])), (64, (2, 0, 65, 0, 2, 0, [])), (65, (2, 0, 66, 2, 0, 0, [])), (66, (2, 0, 68, 6, 0, 0, [])), (68, (5, 2, 71, 147, 2, 0, [])), (71, (2, 0, 72, 0, 2, 0, [])), (72, (3, 0, 75, 68, 2, 0, [])), (75, (2, 0, 76, 1, 0, 0, [])), (76, (3, 2, 77, 0, 0, 0, [])), (77, (0, 0, 79, 1045, 0, 1048576, [])), (79, (1, 1, 82, 106, 3, 0, [])), (82, (2, 0, 84, 4, 0, 0, [])), (84, (0, 0, 85, 0, 0, (-1), [])), (85, (1, 1, 88, 101, 0, 0, [])), (88, (2, 0, 90, 5, 0, 0, [])), (90, (5, 0, 93, 115, 1, 0, [])), (93, (2, 0, 95, 4, 0, 0, [])), (95, (5, 0, 98, 115, 1, 0, [])), (98, (1, 1, 101, 106, 3, 0, [])), (101, (2, 0, 103, 5, 0, 0, [])), (103, (1, 2, 106, 108, 0, 0, [])), (106, (2, 0, 108, 4, 0, 0, [])), (108, (2, 1, 110, 4, 0, 0, [])), (110, (2, 2, 113, 5, 0, 1, [])), (113, (1, 2, 116, 6, 0, 0, [])), (116, (2, 0, 118, 4, 0, 0, [])), (118, (0, 0, 119, 0, 0, (-1), [])), (119, (1, 1, 122, 127, 0, 0, [])), (122, (2, 0, 123, 3, 0, 0, [])), (123, (0, 0, 124, 0, 0, 1, [])), (124, (1, 1, 127, 132, 1, 0, [])), (127, (2, 0, 129, 4, 0, 0, [])), (129, (1, 2, 132, 137, 0, 0, [])), (132, (2, 0, 134, 4, 0, 0, [])), (134, (5, 0, 137, 115, 1, 0, [])), (137, (6, 0, 138, 0, 0, 0, []))]
-- 158: SongToBridgeModel.choir(III)I
def mm_p158 : List (Nat × mm_E) := [(0, (2, 0, 1, 1, 0, 0, [])), (1, (5, 0, 4, 132, 1, 0, [])), (4, (1, 0, 7, 14, 0, 0, [])), (7, (2, 0, 8, 2, 0, 0, [])), (8, (5, 0, 11, 132, 1, 0, [])), (11, (1, 0, 14, 17, 1, 0, [])), (14, (0, 0, 16, 0, 0, (-101), [])), (16, (6, 0, 17, 0, 0, 0, [])), (17, (2, 0, 18, 3, 0, 0, [])), (18, (0, 0, 19, 0, 0, 0, [])), (19, (0, 0, 20, 0, 0, 1, [])), (20, (5, 0, 23, 113, 3, 0, [])), (23, (1, 0, 26, 36, 0, 0, [])), (26, (2, 0, 27, 0, 2, 0, [])), (27, (2, 0, 28, 1, 0, 0, [])), (28, (2, 0, 29, 2, 0, 0, [])), (29, (2, 0, 30, 3, 0, 0, [])), (30, (5, 2, 33, 157, 3, 0, [])), (33, (1, 2, 36, 38, 0, 0, [])), (36, (0, 0, 38, 0, 0, (-102), [])), (38, (6, 0, 39, 0, 0, 0, []))]
-- 159: SongToBridgeModel.heard(I)I
def mm_p159 : List (Nat × mm_E) := [(0, (2, 0, 1, 0, 2, 0, [])), (1, (2, 0, 2, 1, 0, 0, [])), (2, (5, 2, 5, 123, 1, 0, [])), (5, (1, 0, 8, 11, 1, 0, [])), (8, (0, 0, 10, 0, 0, (-101), [])), (10, (6, 0, 11, 0, 0, 0, [])), (11, (2, 0, 12, 0, 2, 0, [])), (12, (3, 0, 15, 57, 0, 0, [])), (15, (0, 0, 17, 0, 0, 10, [])), (17, (1, 1, 20, 23, 1, 0, [])), (20, (0, 0, 22, 0, 0, (-104), [])), (22, (6, 0, 23, 0, 0, 0, [])), (23, (2, 0, 24, 0, 2, 0, [])), (24, (3, 0, 27, 58, 2, 0, [])), (27, (2, 0, 28, 0, 2, 0, [])), (28, (3, 0, 31, 57, 0, 0, [])), (31, (2, 0, 32, 1, 0, 0, [])), (32, (3, 3, 33, 0, 0, 0, [])), (33, (2, 0, 34, 0, 2, 0, [])), (34, (0, 6, 35, 0, 0, 0, [])), (35, (3, 0, 38, 57, 0, 0, [])), (38, (0, 0, 39, 0, 0, 1, [])), (39, (0, 2, 40, 0, 0, 0, [])), (40, (3, 1, 43, 57, 0, 0, [])), (43, (2, 0, 44, 0, 2, 0, [])), (44, (3, 0, 47, 57, 0, 0, [])), (47, (6, 0, 48, 0, 0, 0, []))]
-- 160: SongToBridgeModel.hush()I
def mm_p160 : List (Nat × mm_E) := [(0, (2, 0, 1, 0, 2, 0, [])), (1, (3, 0, 4, 57, 0, 0, [])), (4, (2, 1, 5, 1, 0, 0, [])), (5, (2, 0, 6, 0, 2, 0, [])), (6, (0, 0, 7, 0, 0, 0, [])), (7, (3, 1, 10, 57, 0, 0, [])), (10, (2, 0, 11, 1, 0, 0, [])), (11, (6, 0, 12, 0, 0, 0, []))]
-- 161: SongToBridgeModel.isWay(I)Z
def mm_p161 : List (Nat × mm_E) := [(0, (2, 0, 1, 1, 0, 0, [])), (1, (2, 1, 2, 2, 0, 0, [])), (2, (0, 0, 3, 0, 0, 1, [])), (3, (2, 1, 4, 3, 0, 0, [])), (4, (0, 0, 5, 0, 0, 0, [])), (5, (2, 1, 7, 4, 0, 0, [])), (7, (2, 0, 9, 4, 0, 0, [])), (9, (2, 0, 10, 0, 2, 0, [])), (10, (3, 0, 13, 57, 0, 0, [])), (13, (1, 1, 16, 61, 3, 0, [])), (16, (2, 0, 17, 3, 0, 0, [])), (17, (1, 0, 20, 61, 0, 0, [])), (20, (2, 0, 21, 0, 2, 0, [])), (21, (3, 0, 24, 58, 2, 0, [])), (24, (2, 0, 26, 4, 0, 0, [])), (26, (3, 2, 27, 0, 0, 0, [])), (27, (2, 1, 29, 5, 0, 0, [])), (29, (2, 0, 30, 0, 2, 0, [])), (30, (2, 0, 32, 5, 0, 0, [])), (32, (2, 0, 33, 2, 0, 0, [])), (33, (5, 2, 36, 141, 2, 0, [])), (36, (2, 1, 37, 3, 0, 0, [])), (37, (2, 0, 38, 0, 2, 0, [])), (38, (3, 0, 41, 43, 2, 0, [])), (41, (2, 0, 43, 5, 0, 0, [])), (43, (3, 2, 44, 0, 0, 0, [])), (44, (2, 0, 45, 0, 2, 0, [])), (45, (3, 0, 48, 44, 2, 0, [])), (48, (2, 0, 50, 5, 0, 0, [])), (50, (3, 2, 51, 0, 0, 0, [])), (51, (0, 2, 52, 0, 0, 0, [])), (52, (2, 0, 53, 2, 0, 0, [])), (53, (0, 2, 54, 0, 1, 0, [])), (54, (2, 1, 55, 2, 0, 0, [])), (55, (2, 2, 58, 4, 0, 1, [])), (58, (1, 2, 61, 7, 0, 0, [])), (61, (2, 0, 62, 3, 0, 0, [])), (62, (6, 0, 63, 0, 0, 0, []))]
-- 162: SongToBridgeModel.whoNow()I
def mm_p162 : List (Nat × mm_E) := [(0, (0, 0, 1, 0, 0, 0, [])), (1, (2, 1, 2, 1, 0, 0, [])), (2, (0, 0, 3, 0, 0, 0, [])), (3, (2, 1, 4, 2, 0, 0, [])), (4, (2, 0, 5, 2, 0, 0, [])), (5, (0, 0, 7, 0, 0, 6, [])), (7, (1, 1, 10, 34, 3, 0, [])), (10, (2, 0, 11, 1, 0, 0, [])), (11, (1, 0, 14, 22, 1, 0, [])), (14, (2, 0, 15, 0, 2, 0, [])), (15, (2, 0, 16, 2, 0, 0, [])), (16, (5, 2, 19, 161, 1, 0, [])), (19, (1, 0, 22, 26, 0, 0, [])), (22, (0, 0, 23, 0, 0, 1, [])), (23, (1, 2, 26, 27, 0, 0, [])), (26, (0, 0, 27, 0, 0, 0, [])), (27, (2, 1, 28, 1, 0, 0, [])), (28, (2, 2, 31, 2, 0, 1, [])), (31, (1, 2, 34, 4, 0, 0, [])), (34, (0, 0, 35, 0, 0, 0, [])), (35, (2, 1, 36, 2, 0, 0, [])), (36, (0, 0, 37, 0, 0, 0, [])), (37, (2, 1, 38, 3, 0, 0, [])), (38, (2, 0, 39, 3, 0, 0, [])), (39, (2, 0, 40, 0, 2, 0, [])), (40, (3, 0, 43, 57, 0, 0, [])), (43, (1, 1, 46, 65, 3, 0, [])), (46, (2, 0, 47, 2, 0, 0, [])), (47, (2, 0, 48, 0, 2, 0, [])), (48, (2, 0, 49, 0, 2, 0, [])), (49, (3, 0, 52, 58, 2, 0, [])), (52, (2, 0, 53, 3, 0, 0, [])), (53, (3, 2, 54, 0, 0, 0, [])), (54, (5, 2, 57, 125, 1, 0, [])), (57, (0, 2, 58, 0, 0, 0, [])), (58, (2, 1, 59, 2, 0, 0, [])), (59, (2, 2, 62, 3, 0, 1, [])), (62, (1, 2, 65, 38, 0, 0, [])), (65, (0, 0, 66, 0, 0, 0, [])), (66, (2, 1, 67, 3, 0, 0, [])), (67, (0, 0, 68, 0, 0, 0, [])), (68, (2, 1, 70, 4, 0, 0, [])), (70, (2, 0, 72, 4, 0, 0, [])), (72, (2, 0, 73, 0, 2, 0, [])), (73, (3, 0, 76, 47, 0, 0, [])), (76, (1, 1, 79, 174, 3, 0, [])), (79, (2, 0, 80, 1, 0, 0, [])), (80, (1, 0, 83, 174, 0, 0, [])), (83, (2, 0, 84, 2, 0, 0, [])), (84, (2, 0, 85, 0, 2, 0, [])), (85, (3, 0, 88, 51, 2, 0, [])), (88, (2, 0, 90, 4, 0, 0, [])), (90, (3, 2, 91, 0, 0, 0, [])), (91, (1, 1, 94, 98, 4, 0, [])), (94, (0, 0, 95, 0, 0, 1, [])), (95, (1, 2, 98, 99, 0, 0, [])), (98, (0, 0, 99, 0, 0, 0, [])), (99, (2, 1, 101, 5, 0, 0, [])), (101, (0, 0, 102, 0, 0, 0, [])), (102, (2, 1, 104, 6, 0, 0, [])), (104, (2, 0, 106, 6, 0, 0, [])), (106, (2, 0, 107, 0, 2, 0, [])), (107, (3, 0, 110, 57, 0, 0, [])), (110, (1, 1, 113, 152, 3, 0, [])), (113, (2, 0, 115, 5, 0, 0, [])), (115, (1, 0, 118, 143, 0, 0, [])), (118, (2, 0, 119, 0, 2, 0, [])), (119, (2, 0, 120, 0, 2, 0, [])), (120, (3, 0, 123, 58, 2, 0, [])), (123, (2, 0, 125, 6, 0, 0, [])), (125, (3, 2, 126, 0, 0, 0, [])), (126, (2, 0, 127, 0, 2, 0, [])), (127, (3, 0, 130, 49, 2, 0, [])), (130, (2, 0, 132, 4, 0, 0, [])), (132, (3, 2, 133, 0, 0, 0, [])), (133, (5, 2, 136, 140, 2, 0, [])), (136, (1, 0, 139, 143, 0, 0, [])), (139, (0, 0, 140, 0, 0, 1, [])), (140, (1, 2, 143, 144, 0, 0, [])), (143, (0, 0, 144, 0, 0, 0, [])), (144, (2, 1, 146, 5, 0, 0, [])), (146, (2, 2, 149, 6, 0, 1, [])), (149, (1, 2, 152, 104, 0, 0, [])), (152, (2, 0, 153, 3, 0, 0, [])), (153, (2, 0, 155, 5, 0, 0, [])), (155, (1, 0, 158, 165, 0, 0, [])), (158, (0, 0, 159, 0, 0, 1, [])), (159, (2, 0, 161, 4, 0, 0, [])), (161, (0, 2, 162, 0, 6, 0, [])), (162, (1, 2, 165, 166, 0, 0, [])), (165, (0, 0, 166, 0, 0, 0, [])), (166, (0, 2, 167, 0, 4, 0, [])), (167, (2, 1, 168, 3, 0, 0, [])), (168, (2, 2, 171, 4, 0, 1, [])), (171, (1, 2, 174, 70, 0, 0, [])), (174, (2, 0, 175, 3, 0, 0, [])), (175, (6, 0, 176, 0, 0, 0, []))]
-- 163: SongToBridgeModel.who()I
def mm_p163 : List (Nat × mm_E) := [(0, (2, 0, 1, 0, 2, 0, [])), (1, (5, 2, 4, 162, 0, 0, [])), (4, (6, 0, 5, 0, 0, 0, []))]
-- 164: SongToBridgeModel.draw(I)I
def mm_p164 : List (Nat × mm_E) := [(0, (2, 0, 1, 0, 2, 0, [])), (1, (0, 1, 4, 1118, 0, 1103515245, [])), (4, (2, 0, 5, 0, 2, 0, [])), (5, (3, 0, 8, 70, 1, 0, [])), (8, (0, 3, 9, 0, 1, 0, [])), (9, (0, 1, 12, 1119, 0, 12345, [])), (12, (0, 3, 13, 0, 0, 0, [])), (13, (0, 1, 16, 1120, 0, 2147483647, [])), (16, (0, 3, 17, 0, 2, 0, [])), (17, (3, 1, 20, 70, 1, 0, [])), (20, (2, 0, 21, 0, 2, 0, [])), (21, (3, 0, 24, 70, 1, 0, [])), (24, (0, 1, 27, 1121, 0, 65536, [])), (27, (0, 3, 28, 0, 4, 0, [])), (28, (2, 0, 29, 1, 0, 0, [])), (29, (0, 5, 30, 0, 0, 0, [])), (30, (0, 3, 31, 0, 5, 0, [])), (31, (0, 5, 32, 0, 1, 0, [])), (32, (6, 0, 33, 0, 0, 0, []))]
-- 165: SongToBridgeModel.mayWander(II)Z
def mm_p165 : List (Nat × mm_E) := [(0, (2, 0, 1, 0, 2, 0, [])), (1, (2, 0, 2, 2, 0, 0, [])), (2, (2, 0, 3, 0, 2, 0, [])), (3, (3, 0, 6, 71, 0, 0, [])), (6, (5, 2, 9, 141, 2, 0, [])), (9, (1, 0, 12, 42, 0, 0, [])), (12, (2, 0, 13, 0, 2, 0, [])), (13, (2, 0, 14, 2, 0, 0, [])), (14, (2, 0, 15, 0, 2, 0, [])), (15, (3, 0, 18, 49, 2, 0, [])), (18, (2, 0, 19, 1, 0, 0, [])), (19, (3, 2, 20, 0, 0, 0, [])), (20, (5, 2, 23, 140, 2, 0, [])), (23, (1, 0, 26, 42, 0, 0, [])), (26, (2, 0, 27, 0, 2, 0, [])), (27, (3, 0, 30, 72, 0, 0, [])), (30, (2, 0, 31, 0, 2, 0, [])), (31, (2, 0, 32, 2, 0, 0, [])), (32, (5, 2, 35, 125, 1, 0, [])), (35, (1, 1, 38, 42, 2, 0, [])), (38, (0, 0, 39, 0, 0, 1, [])), (39, (1, 2, 42, 43, 0, 0, [])), (42, (0, 0, 43, 0, 0, 0, [])), (43, (6, 0, 44, 0, 0, 0, []))]
-- 166: SongToBridgeModel.wanderOn(I)Z
def mm_p166 : List (Nat × mm_E) := [(0, (0, 0, 1, 0, 0, 0, [])), (1, (2, 1, 2, 2, 0, 0, [])), (2, (0, 0, 3, 0, 0, 0, [])), (3, (2, 1, 4, 3, 0, 0, [])), (4, (2, 0, 5, 3, 0, 0, [])), (5, (2, 0, 6, 0, 2, 0, [])), (6, (3, 0, 9, 41, 0, 0, [])), (9, (1, 1, 12, 35, 3, 0, [])), (12, (2, 0, 13, 2, 0, 0, [])), (13, (2, 0, 14, 0, 2, 0, [])), (14, (2, 0, 15, 1, 0, 0, [])), (15, (2, 0, 16, 3, 0, 0, [])), (16, (5, 2, 19, 165, 2, 0, [])), (19, (1, 0, 22, 26, 0, 0, [])), (22, (0, 0, 23, 0, 0, 1, [])), (23, (1, 2, 26, 27, 0, 0, [])), (26, (0, 0, 27, 0, 0, 0, [])), (27, (0, 2, 28, 0, 0, 0, [])), (28, (2, 1, 29, 2, 0, 0, [])), (29, (2, 2, 32, 3, 0, 1, [])), (32, (1, 2, 35, 4, 0, 0, [])), (35, (2, 0, 36, 2, 0, 0, [])), (36, (1, 0, 39, 41, 1, 0, [])), (39, (0, 0, 40, 0, 0, 0, [])), (40, (6, 0, 41, 0, 0, 0, [])), (41, (2, 0, 42, 0, 2, 0, [])), (42, (2, 0, 43, 2, 0, 0, [])), (43, (5, 2, 46, 164, 1, 0, [])), (46, (2, 1, 47, 3, 0, 0, [])), (47, (0, 0, 48, 0, 0, 0, [])), (48, (2, 1, 50, 4, 0, 0, [])), (50, (2, 0, 51, 0, 2, 0, [])), (51, (2, 0, 52, 1, 0, 0, [])), (52, (2, 0, 54, 4, 0, 0, [])), (54, (5, 2, 57, 165, 2, 0, [])), (57, (1, 0, 60, 64, 0, 0, [])), (60, (2, 0, 61, 3, 0, 0, [])), (61, (1, 0, 64, 88, 5, 0, [])), (64, (2, 0, 65, 3, 0, 0, [])), (65, (2, 0, 66, 0, 2, 0, [])), (66, (2, 0, 67, 1, 0, 0, [])), (67, (2, 0, 69, 4, 0, 0, [])), (69, (5, 2, 72, 165, 2, 0, [])), (72, (1, 0, 75, 79, 0, 0, [])), (75, (0, 0, 76, 0, 0, 1, [])), (76, (1, 2, 79, 80, 0, 0, [])), (79, (0, 0, 80, 0, 0, 0, [])), (80, (0, 2, 81, 0, 1, 0, [])), (81, (2, 1, 82, 3, 0, 0, [])), (82, (2, 2, 85, 4, 0, 1, [])), (85, (1, 2, 88, 50, 0, 0, [])), (88, (2, 0, 89, 0, 2, 0, [])), (89, (2, 0, 90, 0, 2, 0, [])), (90, (3, 0, 93, 43, 2, 0, [])), (93, (2, 0, 95, 4, 0, 0, [])), (95, (3, 2, 96, 0, 0, 0, [])), (96, (2, 0, 97, 0, 2, 0, [])), (97, (3, 0, 100, 44, 2, 0, [])), (100, (2, 0, 102, 4, 0, 0, [])), (102, (3, 2, 103, 0, 0, 0, [])), (103, (0, 2, 104, 0, 0, 0, [])), (104, (2, 0, 105, 0, 2, 0, [])), (105, (3, 0, 108, 71, 0, 0, [])), (108, (0, 2, 109, 0, 1, 0, [])), (109, (3, 1, 112, 71, 0, 0, [])), (112, (2, 0, 113, 0, 2, 0, [])), (113, (0, 6, 114, 0, 0, 0, [])), (114, (3, 0, 117, 72, 0, 0, [])), (117, (2, 0, 118, 0, 2, 0, [])), (118, (2, 0, 120, 4, 0, 0, [])), (120, (5, 2, 123, 125, 1, 0, [])), (123, (0, 2, 124, 0, 1, 0, [])), (124, (3, 1, 127, 72, 0, 0, [])), (127, (0, 0, 128, 0, 0, 1, [])), (128, (6, 0, 129, 0, 0, 0, []))]
-- 167: SongToBridgeModel.wander(IIII)I
def mm_p167 : List (Nat × mm_E) := [(0, (2, 0, 1, 0, 2, 0, [])), (1, (2, 0, 2, 1, 0, 0, [])), (2, (5, 2, 5, 134, 1, 0, [])), (5, (1, 0, 8, 11, 1, 0, [])), (8, (0, 0, 10, 0, 0, (-101), [])), (10, (6, 0, 11, 0, 0, 0, [])), (11, (2, 0, 12, 2, 0, 0, [])), (12, (0, 0, 13, 0, 0, 1, [])), (13, (0, 0, 15, 0, 0, 60, [])), (15, (5, 0, 18, 113, 3, 0, [])), (18, (1, 0, 21, 35, 0, 0, [])), (21, (2, 0, 22, 3, 0, 0, [])), (22, (1, 0, 25, 35, 2, 0, [])), (25, (2, 0, 27, 4, 0, 0, [])), (27, (0, 0, 28, 0, 0, 0, [])), (28, (0, 0, 29, 0, 0, 3, [])), (29, (5, 0, 32, 113, 3, 0, [])), (32, (1, 0, 35, 38, 1, 0, [])), (35, (0, 0, 37, 0, 0, (-102), [])), (37, (6, 0, 38, 0, 0, 0, [])), (38, (2, 0, 39, 0, 2, 0, [])), (39, (2, 0, 40, 3, 0, 0, [])), (40, (0, 5, 41, 0, 0, 0, [])), (41, (3, 1, 44, 70, 1, 0, [])), (44, (2, 0, 45, 0, 2, 0, [])), (45, (2, 0, 46, 0, 2, 0, [])), (46, (3, 0, 49, 48, 2, 0, [])), (49, (2, 0, 50, 1, 0, 0, [])), (50, (3, 2, 51, 0, 0, 0, [])), (51, (3, 1, 54, 71, 0, 0, [])), (54, (2, 0, 55, 0, 2, 0, [])), (55, (2, 0, 56, 0, 2, 0, [])), (56, (3, 0, 59, 50, 2, 0, [])), (59, (2, 0, 60, 1, 0, 0, [])), (60, (3, 2, 61, 0, 0, 0, [])), (61, (3, 1, 64, 72, 0, 0, [])), (64, (0, 0, 65, 0, 0, 0, [])), (65, (2, 1, 67, 5, 0, 0, [])), (67, (0, 0, 68, 0, 0, 0, [])), (68, (2, 1, 70, 6, 0, 0, [])), (70, (2, 0, 72, 6, 0, 0, [])), (72, (2, 0, 73, 2, 0, 0, [])), (73, (1, 1, 76, 100, 3, 0, [])), (76, (2, 0, 78, 5, 0, 0, [])), (78, (2, 0, 79, 0, 2, 0, [])), (79, (2, 0, 80, 1, 0, 0, [])), (80, (5, 2, 83, 166, 1, 0, [])), (83, (1, 0, 86, 90, 0, 0, [])), (86, (0, 0, 87, 0, 0, 1, [])), (87, (1, 2, 90, 91, 0, 0, [])), (90, (0, 0, 91, 0, 0, 0, [])), (91, (0, 2, 92, 0, 0, 0, [])), (92, (2, 1, 94, 5, 0, 0, [])), (94, (2, 2, 97, 6, 0, 1, [])), (97, (1, 2, 100, 70, 0, 0, [])), (100, (2, 0, 102, 4, 0, 0, [])), (102, (1, 0, 105, 112, 1, 0, [])), (105, (2, 0, 106, 0, 2, 0, [])), (106, (3, 0, 109, 71, 0, 0, [])), (109, (1, 2, 112, 141, 0, 0, [])), (112, (2, 0, 114, 4, 0, 0, [])), (114, (0, 0, 115, 0, 0, 1, [])), (115, (1, 1, 118, 125, 1, 0, [])), (118, (2, 0, 119, 0, 2, 0, [])), (119, (3, 0, 122, 72, 0, 0, [])), (122, (1, 2, 125, 141, 0, 0, [])), (125, (2, 0, 127, 4, 0, 0, [])), (127, (0, 0, 128, 0, 0, 2, [])), (128, (1, 1, 131, 136, 1, 0, [])), (131, (2, 0, 133, 5, 0, 0, [])), (133, (1, 2, 136, 141, 0, 0, [])), (136, (2, 0, 137, 0, 2, 0, [])), (137, (3, 0, 140, 70, 1, 0, [])), (140, (0, 5, 141, 0, 1, 0, [])), (141, (6, 0, 142, 0, 0, 0, []))]
-- 168: SongToBridgeModel.image()I
def mm_p168 : List (Nat × mm_E) := [(0, (2, 0, 1, 0, 2, 0, [])), (1, (0, 0, 2, 0, 0, 1, [])), (2, (3, 1, 5, 73, 3, 0, [])), (5, (2, 0, 6, 0, 2, 0, [])), (6, (2, 0, 7, 0, 2, 0, [])), (7, (3, 0, 10, 41, 0, 0, [])), (10, (3, 1, 13, 74, 0, 0, [])), (13, (2, 0, 14, 0, 2, 0, [])), (14, (2, 0, 15, 0, 2, 0, [])), (15, (3, 0, 18, 47, 0, 0, [])), (18, (3, 1, 21, 75, 0, 0, [])), (21, (2, 0, 22, 0, 2, 0, [])), (22, (2, 0, 23, 0, 2, 0, [])), (23, (3, 0, 26, 57, 0, 0, [])), (26, (3, 1, 29, 76, 0, 0, [])), (29, (0, 0, 30, 0, 0, 0, [])), (30, (2, 1, 31, 1, 0, 0, [])), (31, (2, 0, 32, 1, 0, 0, [])), (32, (0, 0, 34, 0, 0, 45, [])), (34, (1, 1, 37, 55, 3, 0, [])), (37, (2, 0, 38, 0, 2, 0, [])), (38, (3, 0, 41, 77, 2, 0, [])), (41, (2, 0, 42, 1, 0, 0, [])), (42, (2, 0, 43, 0, 2, 0, [])), (43, (3, 0, 46, 46, 2, 0, [])), (46, (2, 0, 47, 1, 0, 0, [])), (47, (3, 2, 48, 0, 0, 0, [])), (48, (3, 3, 49, 0, 0, 0, [])), (49, (2, 2, 52, 1, 0, 1, [])), (52, (1, 2, 55, 31, 0, 0, [])), (55, (0, 0, 56, 0, 0, 0, [])), (56, (2, 1, 57, 1, 0, 0, [])), (57, (2, 0, 58, 1, 0, 0, [])), (58, (0, 0, 59, 0, 0, 5, [])), (59, (1, 1, 62, 116, 3, 0, [])), (62, (2, 0, 63, 0, 2, 0, [])), (63, (3, 0, 66, 78, 2, 0, [])), (66, (2, 0, 67, 1, 0, 0, [])), (67, (2, 0, 68, 0, 2, 0, [])), (68, (3, 0, 71, 48, 2, 0, [])), (71, (2, 0, 72, 1, 0, 0, [])), (72, (3, 2, 73, 0, 0, 0, [])), (73, (3, 3, 74, 0, 0, 0, [])), (74, (2, 0, 75, 0, 2, 0, [])), (75, (3, 0, 78, 79, 2, 0, [])), (78, (2, 0, 79, 1, 0, 0, [])), (79, (2, 0, 80, 0, 2, 0, [])), (80, (3, 0, 83, 49, 2, 0, [])), (83, (2, 0, 84, 1, 0, 0, [])), (84, (3, 2, 85, 0, 0, 0, [])), (85, (3, 3, 86, 0, 0, 0, [])), (86, (2, 0, 87, 0, 2, 0, [])), (87, (3, 0, 90, 80, 2, 0, [])), (90, (2, 0, 91, 1, 0, 0, [])), (91, (2, 0, 92, 0, 2, 0, [])), (92, (3, 0, 95, 50, 2, 0, [])), (95, (2, 0, 96, 1, 0, 0, [])), (96, (3, 2, 97, 0, 0, 0, [])), (97, (3, 3, 98, 0, 0, 0, [])), (98, (2, 0, 99, 0, 2, 0, [])), (99, (3, 0, 102, 81, 2, 0, [])), (102, (2, 0, 103, 1, 0, 0, [])), (103, (2, 0, 104, 0, 2, 0, [])), (104, (3, 0, 107, 53, 2, 0, [])), (107, (2, 0, 108, 1, 0, 0, [])), (108, (3, 2, 109, 0, 0, 0, [])), (109, (3, 3, 110, 0, 0, 0, [])), (110, (2, 2, 113, 1, 0, 1, [])), (113, (1, 2, 116, 57, 0, 0, [])), (116, (0, 0, 117, 0, 0, 0, [])), (117, (2, 1, 118, 1, 0, 0, [])), (118, (2, 0, 119, 1, 0, 0, [])), (119, (0, 0, 121, 0, 0, 30, [])), (121, (1, 1, 124, 142, 3, 0, [])), (124, (2, 0, 125, 0, 2, 0, [])), (125, (3, 0, 128, 82, 2, 0, [])), (128, (2, 0, 129, 1, 0, 0, [])), (129, (2, 0, 130, 0, 2, 0, [])), (130, (3, 0, 133, 54, 2, 0, [])), (133, (2, 0, 134, 1, 0, 0, [])), (134, (3, 2, 135, 0, 0, 0, [])), (135, (3, 3, 136, 0, 0, 0, [])), (136, (2, 2, 139, 1, 0, 1, [])), (139, (1, 2, 142, 118, 0, 0, [])), (142, (0, 0, 143, 0, 0, 0, [])), (143, (2, 1, 144, 1, 0, 0, [])), (144, (2, 0, 145, 1, 0, 0, [])), (145, (0, 0, 147, 0, 0, 36, [])), (147, (1, 1, 150, 168, 3, 0, [])), (150, (2, 0, 151, 0, 2, 0, [])), (151, (3, 0, 154, 83, 2, 0, [])), (154, (2, 0, 155, 1, 0, 0, [])), (155, (2, 0, 156, 0, 2, 0, [])), (156, (3, 0, 159, 56, 2, 0, [])), (159, (2, 0, 160, 1, 0, 0, [])), (160, (3, 2, 161, 0, 0, 0, [])), (161, (3, 3, 162, 0, 0, 0, [])), (162, (2, 2, 165, 1, 0, 1, [])), (165, (1, 2, 168, 144, 0, 0, [])), (168, (0, 0, 169, 0, 0, 0, [])), (169, (2, 1, 170, 1, 0, 0, [])), (170, (2, 0, 171, 1, 0, 0, [])), (171, (0, 0, 173, 0, 0, 10, [])), (173, (1, 1, 176, 194, 3, 0, [])), (176, (2, 0, 177, 0, 2, 0, [])), (177, (3, 0, 180, 84, 2, 0, [])), (180, (2, 0, 181, 1, 0, 0, [])), (181, (2, 0, 182, 0, 2, 0, [])), (182, (3, 0, 185, 58, 2, 0, [])), (185, (2, 0, 186, 1, 0, 0, [])), (186, (3, 2, 187, 0, 0, 0, [])), (187, (3, 3, 188, 0, 0, 0, [])), (188, (2, 2, 191, 1, 0, 1, [])), (191, (1, 2, 194, 170, 0, 0, [])), (194, (2, 0, 195, 0, 2, 0, [])), (195, (3, 0, 198, 47, 0, 0, [])), (198, (6, 0, 199, 0, 0, 0, []))]
-- 169: SongToBridgeModel.restore()I
def mm_p169 : List (Nat × mm_E) := [(0, (2, 0, 1, 0, 2, 0, [])), (1, (3, 0, 4, 73, 3, 0, [])), (4, (1, 0, 7, 10, 1, 0, [])), (7, (0, 0, 9, 0, 0, (-103), [])), (9, (6, 0, 10, 0, 0, 0, [])), (10, (2, 0, 11, 0, 2, 0, [])), (11, (2, 0, 12, 0, 2, 0, [])), (12, (3, 0, 15, 74, 0, 0, [])), (15, (3, 1, 18, 41, 0, 0, [])), (18, (2, 0, 19, 0, 2, 0, [])), (19, (2, 0, 20, 0, 2, 0, [])), (20, (3, 0, 23, 75, 0, 0, [])), (23, (3, 1, 26, 47, 0, 0, [])), (26, (2, 0, 27, 0, 2, 0, [])), (27, (2, 0, 28, 0, 2, 0, [])), (28, (3, 0, 31, 76, 0, 0, [])), (31, (3, 1, 34, 57, 0, 0, [])), (34, (0, 0, 35, 0, 0, 0, [])), (35, (2, 1, 36, 1, 0, 0, [])), (36, (2, 0, 37, 1, 0, 0, [])), (37, (0, 0, 39, 0, 0, 45, [])), (39, (1, 1, 42, 60, 3, 0, [])), (42, (2, 0, 43, 0, 2, 0, [])), (43, (3, 0, 46, 46, 2, 0, [])), (46, (2, 0, 47, 1, 0, 0, [])), (47, (2, 0, 48, 0, 2, 0, [])), (48, (3, 0, 51, 77, 2, 0, [])), (51, (2, 0, 52, 1, 0, 0, [])), (52, (3, 2, 53, 0, 0, 0, [])), (53, (3, 3, 54, 0, 0, 0, [])), (54, (2, 2, 57, 1, 0, 1, [])), (57, (1, 2, 60, 36, 0, 0, [])), (60, (0, 0, 61, 0, 0, 0, [])), (61, (2, 1, 62, 1, 0, 0, [])), (62, (2, 0, 63, 1, 0, 0, [])), (63, (0, 0, 64, 0, 0, 5, [])), (64, (1, 1, 67, 121, 3, 0, [])), (67, (2, 0, 68, 0, 2, 0, [])), (68, (3, 0, 71, 48, 2, 0, [])), (71, (2, 0, 72, 1, 0, 0, [])), (72, (2, 0, 73, 0, 2, 0, [])), (73, (3, 0, 76, 78, 2, 0, [])), (76, (2, 0, 77, 1, 0, 0, [])), (77, (3, 2, 78, 0, 0, 0, [])), (78, (3, 3, 79, 0, 0, 0, [])), (79, (2, 0, 80, 0, 2, 0, [])), (80, (3, 0, 83, 49, 2, 0, [])), (83, (2, 0, 84, 1, 0, 0, [])), (84, (2, 0, 85, 0, 2, 0, [])), (85, (3, 0, 88, 79, 2, 0, [])), (88, (2, 0, 89, 1, 0, 0, [])), (89, (3, 2, 90, 0, 0, 0, [])), (90, (3, 3, 91, 0, 0, 0, [])), (91, (2, 0, 92, 0, 2, 0, [])), (92, (3, 0, 95, 50, 2, 0, [])), (95, (2, 0, 96, 1, 0, 0, [])), (96, (2, 0, 97, 0, 2, 0, [])), (97, (3, 0, 100, 80, 2, 0, [])), (100, (2, 0, 101, 1, 0, 0, [])), (101, (3, 2, 102, 0, 0, 0, [])), (102, (3, 3, 103, 0, 0, 0, [])), (103, (2, 0, 104, 0, 2, 0, [])), (104, (3, 0, 107, 53, 2, 0, [])), (107, (2, 0, 108, 1, 0, 0, [])), (108, (2, 0, 109, 0, 2, 0, [])), (109, (3, 0, 112, 81, 2, 0, [])), (112, (2, 0, 113, 1, 0, 0, [])), (113, (3, 2, 114, 0, 0, 0, [])), (114, (3, 3, 115, 0, 0, 0, [])), (115, (2, 2, 118, 1, 0, 1, [])), (118, (1, 2, 121, 62, 0, 0, [])), (121, (0, 0, 122, 0, 0, 0, [])), (122, (2, 1, 123, 1, 0, 0, [])), (123, (2, 0, 124, 1, 0, 0, [])), (124, (0, 0, 126, 0, 0, 30, [])), (126, (1, 1, 129, 147, 3, 0, [])), (129, (2, 0, 130, 0, 2, 0, [])), (130, (3, 0, 133, 54, 2, 0, [])), (133, (2, 0, 134, 1, 0, 0, [])), (134, (2, 0, 135, 0, 2, 0, [])), (135, (3, 0, 138, 82, 2, 0, [])), (138, (2, 0, 139, 1, 0, 0, [])), (139, (3, 2, 140, 0, 0, 0, [])), (140, (3, 3, 141, 0, 0, 0, [])), (141, (2, 2, 144, 1, 0, 1, [])), (144, (1, 2, 147, 123, 0, 0, [])), (147, (0, 0, 148, 0, 0, 0, [])), (148, (2, 1, 149, 1, 0, 0, [])), (149, (2, 0, 150, 1, 0, 0, [])), (150, (0, 0, 152, 0, 0, 36, [])), (152, (1, 1, 155, 173, 3, 0, [])), (155, (2, 0, 156, 0, 2, 0, [])), (156, (3, 0, 159, 56, 2, 0, [])), (159, (2, 0, 160, 1, 0, 0, [])), (160, (2, 0, 161, 0, 2, 0, [])), (161, (3, 0, 164, 83, 2, 0, [])), (164, (2, 0, 165, 1, 0, 0, [])), (165, (3, 2, 166, 0, 0, 0, [])), (166, (3, 3, 167, 0, 0, 0, [])), (167, (2, 2, 170, 1, 0, 1, [])), (170, (1, 2, 173, 149, 0, 0, [])), (173, (0, 0, 174, 0, 0, 0, [])), (174, (2, 1, 175, 1, 0, 0, [])), (175, (2, 0, 176, 1, 0, 0, [])), (176, (0, 0, 178, 0, 0, 10, [])), (178, (1, 1, 181, 199, 3, 0, [])), (181, (2, 0, 182, 0, 2, 0, [])), (182, (3, 0, 185, 58, 2, 0, [])), (185, (2, 0, 186, 1, 0, 0, [])), (186, (2, 0, 187, 0, 2, 0, [])), (187, (3, 0, 190, 84, 2, 0, [])), (190, (2, 0, 191, 1, 0, 0, [])), (191, (3, 2, 192, 0, 0, 0, [])), (192, (3, 3, 193, 0, 0, 0, [])), (193, (2, 2, 196, 1, 0, 1, [])), (196, (1, 2, 199, 175, 0, 0, [])), (199, (2, 0, 200, 0, 2, 0, [])), (200, (3, 0, 203, 47, 0, 0, [])), (203, (6, 0, 204, 0, 0, 0, []))]
-- 170: SongToBridgeModel.feeMany()I
def mm_p170 : List (Nat × mm_E) := [(0, (0, 0, 1, 0, 0, 0, [])), (1, (2, 1, 2, 1, 0, 0, [])), (2, (0, 0, 3, 0, 0, 0, [])), (3, (2, 1, 4, 2, 0, 0, [])), (4, (2, 0, 5, 2, 0, 0, [])), (5, (0, 0, 7, 0, 0, 36, [])), (7, (1, 1, 10, 33, 3, 0, [])), (10, (2, 0, 11, 1, 0, 0, [])), (11, (2, 0, 12, 0, 2, 0, [])), (12, (3, 0, 15, 56, 2, 0, [])), (15, (2, 0, 16, 2, 0, 0, [])), (16, (3, 2, 17, 0, 0, 0, [])), (17, (1, 0, 20, 24, 5, 0, [])), (20, (0, 0, 21, 0, 0, 1, [])), (21, (1, 2, 24, 25, 0, 0, [])), (24, (0, 0, 25, 0, 0, 0, [])), (25, (0, 2, 26, 0, 0, 0, [])), (26, (2, 1, 27, 1, 0, 0, [])), (27, (2, 2, 30, 2, 0, 1, [])), (30, (1, 2, 33, 4, 0, 0, [])), (33, (2, 0, 34, 1, 0, 0, [])), (34, (6, 0, 35, 0, 0, 0, []))]
-- 171: SongToBridgeModel.howMany(I)I
def mm_p171 : List (Nat × mm_E) := [(0, (2, 0, 1, 1, 0, 0, [])), (1, (1, 3, 36, 61, 0, 0, [36, 41, 46, 51, 56])), (36, (2, 0, 37, 0, 2, 0, [])), (37, (3, 0, 40, 41, 0, 0, [])), (40, (6, 0, 41, 0, 0, 0, [])), (41, (2, 0, 42, 0, 2, 0, [])), (42, (3, 0, 45, 47, 0, 0, [])), (45, (6, 0, 46, 0, 0, 0, [])), (46, (2, 0, 47, 0, 2, 0, [])), (47, (5, 2, 50, 170, 0, 0, [])), (50, (6, 0, 51, 0, 0, 0, [])), (51, (2, 0, 52, 0, 2, 0, [])), (52, (3, 0, 55, 57, 0, 0, [])), (55, (6, 0, 56, 0, 0, 0, [])), (56, (2, 0, 57, 0, 2, 0, [])), (57, (3, 0, 60, 59, 0, 0, [])), (60, (6, 0, 61, 0, 0, 0, [])), (61, (0, 0, 63, 0, 0, (-102), [])), (63, (6, 0, 64, 0, 0, 0, []))]
-- 172: SongToBridgeModel.count(I)I
def mm_p172 : List (Nat × mm_E) := [(0, (2, 0, 1, 0, 2, 0, [])), (1, (2, 0, 2, 1, 0, 0, [])), (2, (5, 2, 5, 171, 1, 0, [])), (5, (6, 0, 6, 0, 0, 0, []))]
-- 173: SongToBridgeModel.mix(J)V
def mm_p173 : List (Nat × mm_E) := [(0, (2, 0, 1, 0, 2, 0, [])), (1, (0, 1, 4, 1151, 0, 31, [])), (4, (2, 0, 5, 0, 2, 0, [])), (5, (3, 0, 8, 85, 1, 0, [])), (8, (0, 3, 9, 0, 1, 0, [])), (9, (2, 0, 10, 1, 1, 0, [])), (10, (0, 3, 11, 0, 0, 0, [])), (11, (3, 1, 14, 85, 1, 0, [])), (14, (6, 2, 15, 0, 0, 0, []))]
-- 174: SongToBridgeModel.mixSinger(I)V
def mm_p174 : List (Nat × mm_E) := [(0, (0, 0, 1, 0, 0, 0, [])), (1, (2, 1, 2, 2, 0, 0, [])), (2, (2, 0, 3, 2, 0, 0, [])), (3, (0, 0, 5, 0, 0, 7, [])), (5, (1, 1, 8, 25, 3, 0, [])), (8, (2, 0, 9, 0, 2, 0, [])), (9, (2, 0, 10, 0, 2, 0, [])), (10, (2, 0, 11, 1, 0, 0, [])), (11, (2, 0, 12, 2, 0, 0, [])), (12, (5, 2, 15, 137, 2, 0, [])), (15, (0, 5, 16, 0, 0, 0, [])), (16, (5, 2, 19, 173, 1, 0, [])), (19, (2, 2, 22, 2, 0, 1, [])), (22, (1, 2, 25, 2, 0, 0, [])), (25, (2, 0, 26, 0, 2, 0, [])), (26, (2, 0, 27, 0, 2, 0, [])), (27, (2, 0, 28, 1, 0, 0, [])), (28, (2, 0, 29, 0, 2, 0, [])), (29, (3, 0, 32, 49, 2, 0, [])), (32, (2, 0, 33, 1, 0, 0, [])), (33, (3, 2, 34, 0, 0, 0, [])), (34, (5, 2, 37, 150, 2, 0, [])), (37, (0, 5, 38, 0, 0, 0, [])), (38, (5, 2, 41, 173, 1, 0, [])), (41, (2, 0, 42, 0, 2, 0, [])), (42, (2, 0, 43, 0, 2, 0, [])), (43, (2, 0, 44, 1, 0, 0, [])), (44, (5, 2, 47, 152, 1, 0, [])), (47, (0, 5, 48, 0, 0, 0, [])), (48, (5, 2, 51, 173, 1, 0, [])), (51, (2, 0, 52, 0, 2, 0, [])), (52, (2, 0, 53, 0, 2, 0, [])), (53, (2, 0, 54, 1, 0, 0, [])), (54, (0, 0, 55, 0, 0, 5, [])), (55, (0, 0, 56, 0, 0, 0, [])), (56, (5, 2, 59, 155, 3, 0, [])), (59, (0, 5, 60, 0, 0, 0, [])), (60, (5, 2, 63, 173, 1, 0, [])), (63, (2, 0, 64, 0, 2, 0, [])), (64, (2, 0, 65, 0, 2, 0, [])), (65, (2, 0, 66, 1, 0, 0, [])), (66, (0, 0, 67, 0, 0, 5, [])), (67, (0, 0, 68, 0, 0, 1, [])), (68, (5, 2, 71, 155, 3, 0, [])), (71, (0, 5, 72, 0, 0, 0, [])), (72, (5, 2, 75, 173, 1, 0, [])), (75, (6, 2, 76, 0, 0, 0, []))]
-- 175: SongToBridgeModel.digest()J
def mm_p175 : List (Nat × mm_E) := [(0, (2, 0, 1, 0, 2, 0, [])), (1, (0, 1, 4, 1146, 0, 599, [])), (4, (3, 1, 7, 85, 1, 0, [])), (7, (0, 0, 8, 0, 0, 0, [])), (8, (2, 1, 9, 1, 0, 0, [])), (9, (2, 0, 10, 1, 0, 0, [])), (10, (2, 0, 11, 0, 2, 0, [])), (11, (3, 0, 14, 41, 0, 0, [])), (14, (1, 1, 17, 58, 3, 0, [])), (17, (0, 0, 18, 0, 0, 0, [])), (18, (2, 1, 19, 2, 0, 0, [])), (19, (2, 0, 20, 2, 0, 0, [])), (20, (0, 0, 22, 0, 0, 10, [])), (22, (1, 1, 25, 42, 3, 0, [])), (25, (2, 0, 26, 0, 2, 0, [])), (26, (2, 0, 27, 0, 2, 0, [])), (27, (2, 0, 28, 1, 0, 0, [])), (28, (2, 0, 29, 2, 0, 0, [])), (29, (5, 2, 32, 126, 2, 0, [])), (32, (0, 5, 33, 0, 0, 0, [])), (33, (5, 2, 36, 173, 1, 0, [])), (36, (2, 2, 39, 2, 0, 1, [])), (39, (1, 2, 42, 19, 0, 0, [])), (42, (2, 0, 43, 0, 2, 0, [])), (43, (2, 0, 44, 0, 2, 0, [])), (44, (2, 0, 45, 1, 0, 0, [])), (45, (5, 2, 48, 130, 1, 0, [])), (48, (0, 5, 49, 0, 0, 0, [])), (49, (5, 2, 52, 173, 1, 0, [])), (52, (2, 2, 55, 1, 0, 1, [])), (55, (1, 2, 58, 9, 0, 0, [])), (58, (0, 0, 59, 0, 0, 0, [])), (59, (2, 1, 60, 1, 0, 0, [])), (60, (2, 0, 61, 1, 0, 0, [])), (61, (2, 0, 62, 0, 2, 0, [])), (62, (3, 0, 65, 47, 0, 0, [])), (65, (1, 1, 68, 79, 3, 0, [])), (68, (2, 0, 69, 0, 2, 0, [])), (69, (2, 0, 70, 1, 0, 0, [])), (70, (5, 2, 73, 174, 1, 0, [])), (73, (2, 2, 76, 1, 0, 1, [])), (76, (1, 2, 79, 60, 0, 0, [])), (79, (0, 0, 80, 0, 0, 0, [])), (80, (2, 1, 81, 1, 0, 0, [])), (81, (2, 0, 82, 1, 0, 0, [])), (82, (0, 0, 84, 0, 0, 36, [])), (84, (1, 1, 87, 106, 3, 0, [])), (87, (2, 0, 88, 0, 2, 0, [])), (88, (2, 0, 89, 0, 2, 0, [])), (89, (3, 0, 92, 56, 2, 0, [])), (92, (2, 0, 93, 1, 0, 0, [])), (93, (3, 2, 94, 0, 0, 0, [])), (94, (0, 0, 95, 0, 0, 1, [])), (95, (0, 2, 96, 0, 1, 0, [])), (96, (0, 5, 97, 0, 0, 0, [])), (97, (5, 2, 100, 173, 1, 0, [])), (100, (2, 2, 103, 1, 0, 1, [])), (103, (1, 2, 106, 81, 0, 0, [])), (106, (0, 0, 107, 0, 0, 0, [])), (107, (2, 1, 108, 1, 0, 0, [])), (108, (2, 0, 109, 1, 0, 0, [])), (109, (2, 0, 110, 0, 2, 0, [])), (110, (3, 0, 113, 57, 0, 0, [])), (113, (1, 1, 116, 133, 3, 0, [])), (116, (2, 0, 117, 0, 2, 0, [])), (117, (2, 0, 118, 0, 2, 0, [])), (118, (3, 0, 121, 58, 2, 0, [])), (121, (2, 0, 122, 1, 0, 0, [])), (122, (3, 2, 123, 0, 0, 0, [])), (123, (0, 5, 124, 0, 0, 0, [])), (124, (5, 2, 127, 173, 1, 0, [])), (127, (2, 2, 130, 1, 0, 1, [])), (130, (1, 2, 133, 108, 0, 0, [])), (133, (2, 0, 134, 0, 2, 0, [])), (134, (2, 0, 135, 0, 2, 0, [])), (135, (5, 2, 138, 162, 0, 0, [])), (138, (0, 5, 139, 0, 0, 0, [])), (139, (5, 2, 142, 173, 1, 0, [])), (142, (2, 0, 143, 0, 2, 0, [])), (143, (2, 0, 144, 0, 2, 0, [])), (144, (0, 0, 145, 0, 0, 0, [])), (145, (0, 0, 146, 0, 0, 5, [])), (146, (0, 0, 147, 0, 0, 0, [])), (147, (5, 2, 150, 157, 3, 0, [])), (150, (0, 5, 151, 0, 0, 0, [])), (151, (5, 2, 154, 173, 1, 0, [])), (154, (2, 0, 155, 0, 2, 0, [])), (155, (2, 0, 156, 0, 2, 0, [])), (156, (0, 0, 157, 0, 0, 0, [])), (157, (0, 0, 158, 0, 0, 5, [])), (158, (0, 0, 159, 0, 0, 1, [])), (159, (5, 2, 162, 157, 3, 0, [])), (162, (0, 5, 163, 0, 0, 0, [])), (163, (5, 2, 166, 173, 1, 0, [])), (166, (0, 0, 167, 0, 0, 0, [])), (167, (2, 1, 168, 1, 0, 0, [])), (168, (2, 0, 169, 1, 0, 0, [])), (169, (2, 0, 170, 0, 2, 0, [])), (170, (3, 0, 173, 59, 0, 0, [])), (173, (1, 1, 176, 193, 3, 0, [])), (176, (2, 0, 177, 0, 2, 0, [])), (177, (2, 0, 178, 0, 2, 0, [])), (178, (3, 0, 181, 60, 2, 0, [])), (181, (2, 0, 182, 1, 0, 0, [])), (182, (3, 2, 183, 0, 1, 0, [])), (183, (0, 5, 184, 0, 0, 0, [])), (184, (5, 2, 187, 173, 1, 0, [])), (187, (2, 2, 190, 1, 0, 1, [])), (190, (1, 2, 193, 168, 0, 0, [])), (193, (0, 0, 194, 0, 0, 0, [])), (194, (2, 1, 195, 1, 0, 0, [])), (195, (2, 0, 196, 1, 0, 0, [])), (196, (0, 0, 197, 0, 0, 5, [])), (197, (1, 1, 200, 216, 3, 0, [])), (200, (2, 0, 201, 0, 2, 0, [])), (201, (2, 0, 202, 0, 2, 0, [])), (202, (2, 0, 203, 1, 0, 0, [])), (203, (5, 2, 206, 171, 1, 0, [])), (206, (0, 5, 207, 0, 0, 0, [])), (207, (5, 2, 210, 173, 1, 0, [])), (210, (2, 2, 213, 1, 0, 1, [])), (213, (1, 2, 216, 195, 0, 0, [])), (216, (2, 0, 217, 0, 2, 0, [])), (217, (3, 0, 220, 85, 1, 0, [])), (220, (6, 1, 221, 0, 0, 0, []))]
-- 176: java/lang/Integer.bitCount(I)I
def mm_p176 : List (Nat × mm_E) := [(0, (2, 0, 1, 0, 0, 0, [])), (1, (2, 0, 2, 0, 0, 0, [])), (2, (0, 0, 3, 0, 0, 1, [])), (3, (0, 2, 4, 0, 8, 0, [])), (4, (0, 0, 7, 381, 0, 1431655765, [])), (7, (0, 2, 8, 0, 3, 0, [])), (8, (0, 2, 9, 0, 1, 0, [])), (9, (2, 1, 10, 0, 0, 0, [])), (10, (2, 0, 11, 0, 0, 0, [])), (11, (0, 0, 14, 382, 0, 858993459, [])), (14, (0, 2, 15, 0, 3, 0, [])), (15, (2, 0, 16, 0, 0, 0, [])), (16, (0, 0, 17, 0, 0, 2, [])), (17, (0, 2, 18, 0, 8, 0, [])), (18, (0, 0, 21, 382, 0, 858993459, [])), (21, (0, 2, 22, 0, 3, 0, [])), (22, (0, 2, 23, 0, 0, 0, [])), (23, (2, 1, 24, 0, 0, 0, [])), (24, (2, 0, 25, 0, 0, 0, [])), (25, (2, 0, 26, 0, 0, 0, [])), (26, (0, 0, 27, 0, 0, 4, [])), (27, (0, 2, 28, 0, 8, 0, [])), (28, (0, 2, 29, 0, 0, 0, [])), (29, (0, 0, 32, 383, 0, 252645135, [])), (32, (0, 2, 33, 0, 3, 0, [])), (33, (2, 1, 34, 0, 0, 0, [])), (34, (2, 0, 35, 0, 0, 0, [])), (35, (2, 0, 36, 0, 0, 0, [])), (36, (0, 0, 38, 0, 0, 8, [])), (38, (0, 2, 39, 0, 8, 0, [])), (39, (0, 2, 40, 0, 0, 0, [])), (40, (2, 1, 41, 0, 0, 0, [])), (41, (2, 0, 42, 0, 0, 0, [])), (42, (2, 0, 43, 0, 0, 0, [])), (43, (0, 0, 45, 0, 0, 16, [])), (45, (0, 2, 46, 0, 8, 0, [])), (46, (0, 2, 47, 0, 0, 0, [])), (47, (2, 1, 48, 0, 0, 0, [])), (48, (2, 0, 49, 0, 0, 0, [])), (49, (0, 0, 51, 0, 0, 63, [])), (51, (0, 2, 52, 0, 3, 0, [])), (52, (6, 0, 53, 0, 0, 0, []))]
-- 177: java/util/Arrays.fill([II)V
def mm_p177 : List (Nat × mm_E) := [(0, (0, 0, 1, 0, 0, 0, [])), (1, (2, 1, 2, 2, 0, 0, [])), (2, (2, 0, 3, 0, 2, 0, [])), (3, (3, 4, 4, 0, 0, 0, [])), (4, (2, 1, 5, 3, 0, 0, [])), (5, (2, 0, 6, 2, 0, 0, [])), (6, (2, 0, 7, 3, 0, 0, [])), (7, (1, 1, 10, 20, 3, 0, [])), (10, (2, 0, 11, 0, 2, 0, [])), (11, (2, 0, 12, 2, 0, 0, [])), (12, (2, 0, 13, 1, 0, 0, [])), (13, (3, 3, 14, 0, 0, 0, [])), (14, (2, 2, 17, 2, 0, 1, [])), (17, (1, 2, 20, 5, 0, 0, [])), (20, (6, 2, 21, 0, 0, 0, []))]
def mm_pg : List (List (Nat × mm_E)) := [mm_p0, mm_p1, mm_p2, mm_p3, mm_p4, mm_p5, mm_p6, mm_p7, mm_p8, mm_p9, mm_p10, mm_p11, mm_p12, mm_p13, mm_p14, mm_p15, mm_p16, mm_p17, mm_p18, mm_p19, mm_p20, mm_p21, mm_p22, mm_p23, mm_p24, mm_p25, mm_p26, mm_p27, mm_p28, mm_p29, mm_p30, mm_p31, mm_p32, mm_p33, mm_p34, mm_p35, mm_p36, mm_p37, mm_p38, mm_p39, mm_p40, mm_p41, mm_p42, mm_p43, mm_p44, mm_p45, mm_p46, mm_p47, mm_p48, mm_p49, mm_p50, mm_p51, mm_p52, mm_p53, mm_p54, mm_p55, mm_p56, mm_p57, mm_p58, mm_p59, mm_p60, mm_p61, mm_p62, mm_p63, mm_p64, mm_p65, mm_p66, mm_p67, mm_p68, mm_p69, mm_p70, mm_p71, mm_p72, mm_p73, mm_p74, mm_p75, mm_p76, mm_p77, mm_p78, mm_p79, mm_p80, mm_p81, mm_p82, mm_p83, mm_p84, mm_p85, mm_p86, mm_p87, mm_p88, mm_p89, mm_p90, mm_p91, mm_p92, mm_p93, mm_p94, mm_p95, mm_p96, mm_p97, mm_p98, mm_p99, mm_p100, mm_p101, mm_p102, mm_p103, mm_p104, mm_p105, mm_p106, mm_p107, mm_p108, mm_p109, mm_p110, mm_p111, mm_p112, mm_p113, mm_p114, mm_p115, mm_p116, mm_p117, mm_p118, mm_p119, mm_p120, mm_p121, mm_p122, mm_p123, mm_p124, mm_p125, mm_p126, mm_p127, mm_p128, mm_p129, mm_p130, mm_p131, mm_p132, mm_p133, mm_p134, mm_p135, mm_p136, mm_p137, mm_p138, mm_p139, mm_p140, mm_p141, mm_p142, mm_p143, mm_p144, mm_p145, mm_p146, mm_p147, mm_p148, mm_p149, mm_p150, mm_p151, mm_p152, mm_p153, mm_p154, mm_p155, mm_p156, mm_p157, mm_p158, mm_p159, mm_p160, mm_p161, mm_p162, mm_p163, mm_p164, mm_p165, mm_p166, mm_p167, mm_p168, mm_p169, mm_p170, mm_p171, mm_p172, mm_p173, mm_p174, mm_p175, mm_p176, mm_p177]
def mm_fetch (m pc : Nat) : Option mm_E := (mm_pg.getD m []).lookup pc
end
section
/-! the machine over pictures: values, stores by components, one step a kind, runs by fuel -/
abbrev mm_V : Type := Int32 ⊕ (Int64 ⊕ (Nat × Nat))
abbrev mm_HI : Type := Nat → Nat → Nat → Int32
abbrev mm_HL : Type := Nat → Nat → Int64
abbrev mm_HR : Type := Nat → Nat → Nat → Nat × Nat
abbrev mm_H : Type := List (Nat × Nat) × mm_HI × mm_HL × mm_HR
abbrev mm_F : Type := Nat × Nat × List (Option mm_V) × List mm_V × Nat × Nat
def mm_uI (I : mm_HI) (c i j : Nat) (x : Int32) : mm_HI := fun c' i' j' => if c' = c ∧ i' = i ∧ j' = j then x else I c' i' j'
def mm_uL (L : mm_HL) (c i : Nat) (x : Int64) : mm_HL := fun c' i' => if c' = c ∧ i' = i then x else L c' i'
def mm_uR (R : mm_HR) (c i j : Nat) (x : Nat × Nat) : mm_HR := fun c' i' j' => if c' = c ∧ i' = i ∧ j' = j then x else R c' i' j'
def mm_cat (v : mm_V) : Nat := match v with
  | .inr (.inl _) => 2
  | _ => 1
def mm_ib (b : Nat) (x y : Int32) : Int32 := match b with
  | 0 => x + y
  | 1 => x - y
  | 2 => x * y
  | 3 => x &&& y
  | 4 => x ||| y
  | 5 => x ^^^ y
  | 6 => x <<< (y &&& 31)
  | 7 => x >>> (y &&& 31)
  | _ => (x.toUInt32 >>> (y.toUInt32 &&& Int32.toUInt32 31)).toInt32
def mm_lb (b : Nat) (x y : Int64) : Int64 := match b with
  | 0 => x + y
  | 1 => x * y
  | 2 => x &&& y
  | 3 => x ||| y
  | 4 => x / y
  | _ => x - x / y * y
def mm_sh (b : Nat) (x : Int64) (y : Int32) : Int64 := match b with
  | 0 => x <<< (y.toInt64 &&& 63)
  | 1 => x >>> (y.toInt64 &&& 63)
  | _ => (x.toUInt64 >>> (y.toInt64.toUInt64 &&& Int64.toUInt64 63)).toInt64
def mm_cd (b : Nat) (x y : Int32) : Bool := match b with
  | 0 => decide (x = y)
  | 1 => decide (¬ x = y)
  | 2 => decide (x < y)
  | 3 => decide (y ≤ x)
  | 4 => decide (y < x)
  | _ => decide (x ≤ y)
def mm_ps (op b : Nat) (c : Int) (st : List mm_V) : Option (List mm_V) := match op with
  | 0 => some (.inl (Int32.ofInt c) :: st)
  | 1 => some (.inr (.inl (Int64.ofInt c)) :: st)
  | 2 => match st with
    | .inl y :: .inl x :: r => some (.inl (mm_ib b x y) :: r)
    | _ => none
  | 3 => match st with
    | .inr (.inl y) :: .inr (.inl x) :: r => if 4 ≤ b ∧ y = 0 then none else some (.inr (.inl (mm_lb b x y)) :: r)
    | _ => none
  | 4 => match st with
    | .inl y :: .inr (.inl x) :: r => some (.inr (.inl (mm_sh b x y)) :: r)
    | _ => none
  | 5 => match b, st with
    | 0, .inl x :: r => some (.inr (.inl x.toInt64) :: r)
    | 1, .inr (.inl x) :: r => some (.inl x.toInt32 :: r)
    | 2, .inl x :: r => some (.inl x.toInt8.toInt32 :: r)
    | _, _ => none
  | 6 => match st with
    | v :: r => if mm_cat v = 1 then some (v :: v :: r) else none
    | _ => none
  | 7 => match st with
    | v :: w :: r => if mm_cat v = 1 ∧ mm_cat w = 1 then some (v :: w :: v :: w :: r) else none
    | _ => none
  | _ => none
def mm_ts (a : Nat) (c : Int) (l : List Nat) (x : Int32) : Nat := if x.toInt < c ∨ c + (l.length : Int) ≤ x.toInt then a else l.getD (x.toInt - c).toNat a
def mm_lk (a : Nat) : List Nat → Int32 → Nat
  | k :: t :: r, x => if x.toInt = (k : Int) then t else mm_lk a r x
  | _, _ => a
def mm_br (op nx a b : Nat) (c : Int) (l : List Nat) (st : List mm_V) : Option (Nat × List mm_V) := match op with
  | 0 => match st with
    | .inl x :: r => some (if mm_cd b x 0 = true then a else nx, r)
    | _ => none
  | 1 => match st with
    | .inl y :: .inl x :: r => some (if mm_cd b x y = true then a else nx, r)
    | _ => none
  | 2 => some (a, st)
  | 3 => match st with
    | .inl x :: r => some (mm_ts a c l x, r)
    | _ => none
  | 4 => match st with
    | .inl x :: r => some (mm_lk a l x, r)
    | _ => none
  | _ => none
/-- a value is of a type: 0 int, 1 long, 2 reference -/
def mm_tg (b : Nat) (v : mm_V) : Bool := match v with
  | .inl _ => b == 0
  | .inr (.inl _) => b == 1
  | .inr (.inr _) => b == 2
/-- the place ahead of a holds no long -/
def mm_pl (la : List (Option mm_V)) (a : Nat) : Bool := match a with
  | 0 => true
  | k + 1 => match la[k]? with
    | some (some (.inr (.inl _))) => false
    | _ => true
def mm_lo (op a b : Nat) (c : Int) (la : List (Option mm_V)) (st : List mm_V) : Option (List (Option mm_V) × List mm_V) := match op with
  | 0 => match la[a]? with
    | some (some v) => if mm_tg b v = true then some (la, v :: st) else none
    | _ => none
  | 1 => match st with
    | v :: r => if mm_tg b v = true ∧ mm_pl la a = true then
        (if b = 1 then (if a + 1 < la.length then some ((la.set a (some v)).set (a + 1) none, r) else none) else (if a < la.length then some (la.set a (some v), r) else none)) else none
    | _ => none
  | 2 => match la[a]? with
    | some (some (.inl x)) => if mm_pl la a = true then some (la.set a (some (.inl (x + Int32.ofInt c))), st) else none
    | _ => none
  | _ => none
def mm_in (x : Int32) (n : Nat) : Bool := decide (¬ x < 0 ∧ x.toNatClampNeg < n)
/-- a cell of role q may stand in an array of type k -/
def mm_as (k q : Nat) : Bool := (k == 2 && q == 3) || (k == 3 && q == 5) || (k == 4 && q == 6)
/-- a keeper of kind i is of the class a -/
def mm_io (a i : Nat) : Bool := (a == 2 + i) || (a == 3 && i == 3)
def mm_cp (I : mm_HI) (c0 i0 c1 i1 sp dp n : Nat) : mm_HI := fun c i j => if c = c1 ∧ i = i1 ∧ dp ≤ j ∧ j < dp + n then I c0 i0 (sp + (j - dp)) else I c i j
def mm_hp (op a b : Nat) (st : List mm_V) (h : mm_H) : Option (List mm_V × mm_H) := match op with
  | 0 => match st with
    | .inr (.inr (r, i)) :: t => if r = mm_cr a then (match b with
        | 0 => some (.inl (h.2.1 a i 0) :: t, h)
        | 1 => some (.inr (.inl (h.2.2.1 a i)) :: t, h)
        | 2 => if (h.2.2.2 a i 0).1 = 0 then none else some (.inr (.inr (h.2.2.2 a i 0)) :: t, h)
        | 3 => some (.inl (h.2.1 a i 0) :: t, h)
        | _ => none) else none
    | _ => none
  | 1 => match b, st with
    | 0, .inl x :: .inr (.inr (r, i)) :: t => if r = mm_cr a then some (t, (h.1, mm_uI h.2.1 a i 0 x, h.2.2.1, h.2.2.2)) else none
    | 1, .inr (.inl x) :: .inr (.inr (r, i)) :: t => if r = mm_cr a then some (t, (h.1, h.2.1, mm_uL h.2.2.1 a i x, h.2.2.2)) else none
    | 2, .inr (.inr q) :: .inr (.inr (r, i)) :: t => if r = mm_cr a ∧ q.1 ≠ 0 then some (t, (h.1, h.2.1, h.2.2.1, mm_uR h.2.2.2 a i 0 q)) else none
    | 3, .inl x :: .inr (.inr (r, i)) :: t => if r = mm_cr a ∧ (x = 0 ∨ x = 1) then some (t, (h.1, mm_uI h.2.1 a i 0 x, h.2.2.1, h.2.2.2)) else none
    | _, _ => none
  | 2 => match st with
    | .inl x :: .inr (.inr (r, i)) :: t => if mm_kd r = b + 1 ∧ mm_in x (mm_ln r) = true then (match b with
        | 0 => some (.inl (h.2.1 (100 + r) i x.toNatClampNeg) :: t, h)
        | 1 => some (.inl (h.2.1 (100 + r) i x.toNatClampNeg) :: t, h)
        | 2 => if (h.2.2.2 (100 + r) i x.toNatClampNeg).1 = 0 then none else some (.inr (.inr (h.2.2.2 (100 + r) i x.toNatClampNeg)) :: t, h)
        | _ => none) else none
    | _ => none
  | 3 => match b, st with
    | 0, .inl y :: .inl x :: .inr (.inr (r, i)) :: t => if mm_kd r = 1 ∧ mm_in x (mm_ln r) = true then some (t, (h.1, mm_uI h.2.1 (100 + r) i x.toNatClampNeg y, h.2.2.1, h.2.2.2)) else none
    | 1, .inl y :: .inl x :: .inr (.inr (r, i)) :: t => if mm_kd r = 2 ∧ mm_in x (mm_ln r) = true then some (t, (h.1, mm_uI h.2.1 (100 + r) i x.toNatClampNeg y.toInt8.toInt32, h.2.2.1, h.2.2.2)) else none
    | 2, .inr (.inr q) :: .inl x :: .inr (.inr (r, i)) :: t => if mm_kd r = 3 ∧ mm_in x (mm_ln r) = true ∧ q.1 ≠ 0 ∧ mm_as (mm_ax r) q.1 = true then some (t, (h.1, h.2.1, h.2.2.1, mm_uR h.2.2.2 (100 + r) i x.toNatClampNeg q)) else none
    | _, _ => none
  | 4 => match st with
    | .inr (.inr (r, _)) :: t => if 1 ≤ mm_kd r ∧ mm_kd r ≤ 3 then some (.inl (Int32.ofNat (mm_ln r)) :: t, h) else none
    | _ => none
  | 5 => match st with
    | [.inl n, .inl dp, .inr (.inr (r1, i1)), .inl sp, .inr (.inr (r0, i0))] => if mm_kd r0 = 1 ∧ mm_kd r1 = 1 ∧ ¬ sp < 0 ∧ ¬ dp < 0 ∧ ¬ n < 0 ∧ sp.toNatClampNeg + n.toNatClampNeg ≤ mm_ln r0 ∧ dp.toNatClampNeg + n.toNatClampNeg ≤ mm_ln r1 then
        some ([], (h.1, mm_cp h.2.1 (100 + r0) i0 (100 + r1) i1 sp.toNatClampNeg dp.toNatClampNeg n.toNatClampNeg, h.2.2.1, h.2.2.2)) else none
    | _ => none
  | 6 => match st with
    | .inr (.inr (r, i)) :: t => if r = 3 then some (.inl (if mm_io a i = true then 1 else 0) :: t, h) else none
    | _ => none
  | 7 => match st with
    | [.inr (.inr (_, _))] => some ([], h)
    | _ => none
  | 8 => match st with
    | .inl y :: .inl x :: t => if (t.map mm_cat).sum ≤ 7 then some (.inl (if y < x then y else x) :: t, h) else none
    | _ => none
  | _ => none
def mm_nr (ids : List (Nat × Nat)) (r : Nat) : Nat := (ids.filter (fun q => q.1 == r)).length
def mm_al (op a b : Nat) (st : List mm_V) (h : mm_H) : Option (List mm_V × mm_H × Nat × Nat) := match op with
  | 0 => if mm_co a (mm_nr h.1 a) = b ∧ mm_kd a = 0 ∧ (a = 3 → mm_nr h.1 a < 4) ∧ (a, mm_nr h.1 a) ∉ h.1 ∧ a ≠ 0 ∧ (mm_fs a).all (fun q => h.2.1 q.1 (mm_nr h.1 a) 0 == 0 && h.2.2.1 q.1 (mm_nr h.1 a) == 0 && h.2.2.2 q.1 (mm_nr h.1 a) 0 == (0, 0)) = true then
      some (.inr (.inr (a, mm_nr h.1 a)) :: st, (h.1 ++ [(a, mm_nr h.1 a)], h.2), 1, mm_N b) else none
  | 1 => match st with
    | .inl n :: t => if n = Int32.ofNat (mm_ln a) ∧ mm_kd a = b + 1 ∧ b ≤ 1 ∧ (a, mm_nr h.1 a) ∉ h.1 ∧ (List.range (mm_ln a)).all (fun j => h.2.1 (100 + a) (mm_nr h.1 a) j == 0) = true then
        some (.inr (.inr (a, mm_nr h.1 a)) :: t, (h.1 ++ [(a, mm_nr h.1 a)], h.2), 1, mm_ln a) else none
    | _ => none
  | 2 => match st with
    | .inl n :: t => if n = Int32.ofNat (mm_ln a) ∧ mm_kd a = 3 ∧ (a, mm_nr h.1 a) ∉ h.1 ∧ (List.range (mm_ln a)).all (fun j => h.2.2.2 (100 + a) (mm_nr h.1 a) j == (0, 0)) = true then
        some (.inr (.inr (a, mm_nr h.1 a)) :: t, (h.1 ++ [(a, mm_nr h.1 a)], h.2), 1, mm_ln a) else none
    | _ => none
  | 3 => match st with
    | .inl k :: .inl n :: t => if n = 6 ∧ k = 6 ∧ a = 14 ∧ b = 15 ∧ (14, mm_nr h.1 14) ∉ h.1 ∧ (∀ j, j < 6 → (15, mm_nr h.1 15 + j) ∉ h.1) ∧ (List.range 6).all (fun x => (List.range 6).all (fun j => h.2.1 115 (mm_nr h.1 15 + x) j == 0)) = true then
        some (.inr (.inr (14, mm_nr h.1 14)) :: t, (h.1 ++ [(14, mm_nr h.1 14)] ++ (List.range 6).map (fun j => (15, mm_nr h.1 15 + j)), h.2.1, h.2.2.1, fun c i j => if c = 114 ∧ i = mm_nr h.1 14 ∧ j < 6 then (15, mm_nr h.1 15 + j) else h.2.2.2 c i j), 7, 42) else none
    | _ => none
  | _ => none
def mm_cl (op a b : Nat) (st : List mm_V) : Option (Nat × List mm_V × List mm_V) := match op with
  | 0 => if b ≤ st.length then some (a, (st.take b).reverse, st.drop b) else none
  | 1 => match st.drop b with
    | .inr (.inr (r, i)) :: t => if mm_co r i = mm_ow a ∧ mm_kd r = 0 then some (a, .inr (.inr (r, i)) :: (st.take b).reverse, t) else none
    | _ => none
  | 2 => match st.drop b with
    | .inr (.inr (r, i)) :: t => if mm_co r i = mm_ow a ∧ mm_kd r = 0 then some (a, .inr (.inr (r, i)) :: (st.take b).reverse, t) else none
    | _ => none
  | 3 => match st.drop b with
    | .inr (.inr (r, i)) :: t => if r = 3 ∧ i < 4 then some (mm_vs a i, .inr (.inr (r, i)) :: (st.take b).reverse, t) else none
    | _ => none
  | _ => none
def mm_sp (as : List mm_V) : List (Option mm_V) := as.flatMap (fun v => if mm_cat v = 2 then [some v, none] else [some v])
def mm_il (n : Nat) (as : List mm_V) : List (Option mm_V) := mm_sp as ++ List.replicate (n - (mm_sp as).length) none
def mm_re (m op : Nat) (st : List mm_V) : Option (Option mm_V) := match op with
  | 0 => match st with
    | [.inl v] => if mm_rt m = some .int ∨ (mm_rt m = some .boolean ∧ (v = 0 ∨ v = 1)) then some (some (.inl v)) else none
    | _ => none
  | 1 => match st with
    | [.inr (.inl v)] => if mm_rt m = some .long then some (some (.inr (.inl v))) else none
    | _ => none
  | 2 => match st with
    | [] => if mm_rt m = none then some none else none
    | _ => none
  | _ => none
def mm_run : Nat → mm_F → mm_H → Option (Option mm_V × mm_H)
  | 0, _, _ => none
  | n + 1, f, h => match mm_fetch f.1 f.2.1 with
    | none => none
    | some e => match e.1 with
      | 0 => match mm_ps e.2.1 e.2.2.2.2.1 e.2.2.2.2.2.1 f.2.2.2.1 with
        | some st => mm_run n (f.1, e.2.2.1, f.2.2.1, st, f.2.2.2.2) h
        | none => none
      | 1 => match mm_br e.2.1 e.2.2.1 e.2.2.2.1 e.2.2.2.2.1 e.2.2.2.2.2.1 e.2.2.2.2.2.2 f.2.2.2.1 with
        | some q => mm_run n (f.1, q.1, f.2.2.1, q.2, f.2.2.2.2) h
        | none => none
      | 2 => match mm_lo e.2.1 e.2.2.2.1 e.2.2.2.2.1 e.2.2.2.2.2.1 f.2.2.1 f.2.2.2.1 with
        | some q => mm_run n (f.1, e.2.2.1, q.1, q.2, f.2.2.2.2) h
        | none => none
      | 3 => match mm_hp e.2.1 e.2.2.2.1 e.2.2.2.2.1 f.2.2.2.1 h with
        | some q => mm_run n (f.1, e.2.2.1, f.2.2.1, q.1, f.2.2.2.2) q.2
        | none => none
      | 4 => match mm_al e.2.1 e.2.2.2.1 e.2.2.2.2.1 f.2.2.2.1 h with
        | some q => if f.2.2.2.2.1 + q.2.2.1 ≤ mm_mc f.1 ∧ f.2.2.2.2.2 + q.2.2.2 ≤ mm_ms f.1 then mm_run n (f.1, e.2.2.1, f.2.2.1, q.1, f.2.2.2.2.1 + q.2.2.1, f.2.2.2.2.2 + q.2.2.2) q.2.1 else none
        | none => none
      | 5 => match mm_cl e.2.1 e.2.2.2.1 e.2.2.2.2.1 f.2.2.2.1 with
        | some q => if f.2.2.2.2.1 + mm_mc q.1 ≤ mm_mc f.1 ∧ f.2.2.2.2.2 + mm_ms q.1 ≤ mm_ms f.1 ∧ (q.2.2.map mm_cat).sum ≤ 8 ∧ (mm_sp q.2.1).length ≤ mm_mL q.1 then (match mm_run n (q.1, 0, mm_il (mm_mL q.1) q.2.1, [], 0, 0) h with
            | some v => mm_run n (f.1, e.2.2.1, f.2.2.1, v.1.toList ++ q.2.2, f.2.2.2.2.1 + mm_mc q.1, f.2.2.2.2.2 + mm_ms q.1) v.2
            | none => none) else none
        | none => none
      | 6 => match mm_re f.1 e.2.1 f.2.2.2.1 with
        | some v => some (v, h)
        | none => none
      | _ => none
end
section
/-! what an entry of the program says of the bytes; the pools against the tables' words -/
def mm_cc (b : Nat) : Jvm.ClassFile.Cond := match b with
  | 0 => .eq
  | 1 => .ne
  | 2 => .lt
  | 3 => .ge
  | 4 => .gt
  | _ => .le
/-- the word at a place of the tables -/
def mm_wd (i : Nat) (w : Jvm.Cond) : Bool := decide (lw_tbl[i]? = some w)
def mm_c0 (m op a b : Nat) (c : Int) (i : Instr) (n : Nat) : Bool := match op with
  | 0 => (match i with
    | .iconst k => n == 1 && decide (Int32.ofInt k = Int32.ofInt c)
    | .bipush k => n == 2 && decide ((Int8.ofInt k).toInt32 = Int32.ofInt c)
    | .sipush k => n == 3 && decide ((Int16.ofInt k).toInt32 = Int32.ofInt c)
    | .ldc k => n == 2 && mm_wd a (.constant (mm_cN (mm_ow m)) k (Int32.ofInt c))
    | .ldc_w k => n == 3 && mm_wd a (.constant (mm_cN (mm_ow m)) k (Int32.ofInt c))
    | _ => false)
  | 1 => (match i with
    | .lconst k => n == 1 && decide (Int64.ofNat (k : Nat) = Int64.ofInt c)
    | .ldc2_w k => n == 3 && mm_wd a (.constantLong (mm_cN (mm_ow m)) k (Int64.ofInt c))
    | _ => false)
  | 2 => n == 1 && (match b with
    | 0 => decide (i = .iadd)
    | 1 => decide (i = .isub)
    | 2 => decide (i = .imul)
    | 3 => decide (i = .iand)
    | 4 => decide (i = .ior)
    | 5 => decide (i = .ixor)
    | 6 => decide (i = .ishl)
    | 7 => decide (i = .ishr)
    | _ => decide (i = .iushr))
  | 3 => n == 1 && (match b with
    | 0 => decide (i = .ladd)
    | 1 => decide (i = .lmul)
    | 2 => decide (i = .land)
    | 3 => decide (i = .lor)
    | 4 => decide (i = .ldiv)
    | _ => decide (i = .lrem))
  | 4 => n == 1 && (match b with
    | 0 => decide (i = .lshl)
    | 1 => decide (i = .lshr)
    | _ => decide (i = .lushr))
  | 5 => n == 1 && (match b with
    | 0 => decide (i = .i2l)
    | 1 => decide (i = .l2i)
    | _ => decide (i = .i2b))
  | 6 => n == 1 && decide (i = .dup)
  | 7 => n == 1 && decide (i = .dup2)
  | _ => false
/-- the pairs of a lookupswitch, and the places -/
def mm_lp (pc : Nat) : List (Int × Int) → List Nat → Bool
  | [], [] => true
  | (k, o) :: ps, a :: t :: l => decide (k = (a : Int)) && decide ((pc : Int) + o = (t : Int)) && mm_lp pc ps l
  | _, _ => false
def mm_tp (pc : Nat) : List Int → List Nat → Bool
  | [], [] => true
  | o :: os, t :: l => decide ((pc : Int) + o = (t : Int)) && mm_tp pc os l
  | _, _ => false
def mm_c1 (pc op a b : Nat) (c : Int) (l : List Nat) (i : Instr) (n : Nat) : Bool := match op with
  | 0 => (match i with
    | .ifCond cd off => n == 3 && decide (cd = mm_cc b) && decide ((pc : Int) + off = (a : Int))
    | _ => false)
  | 1 => (match i with
    | .if_icmp cd off => n == 3 && decide (cd = mm_cc b) && decide ((pc : Int) + off = (a : Int))
    | _ => false)
  | 2 => (match i with
    | .goto off => n == 3 && decide ((pc : Int) + off = (a : Int))
    | _ => false)
  | 3 => (match i with
    | .tableswitch d lo hi offs => decide ((pc : Int) + d = (a : Int)) && decide (lo = c) && decide (hi = c + (l.length : Int) - 1) && mm_tp pc offs.toList l
    | _ => false)
  | 4 => (match i with
    | .lookupswitch d ps => decide ((pc : Int) + d = (a : Int)) && (ps.toList.zip (ps.toList.drop 1)).all (fun q => decide (q.1.1 < q.2.1)) && mm_lp pc ps.toList l
    | _ => false)
  | _ => false
def mm_c2 (op a b : Nat) (c : Int) (i : Instr) (n : Nat) : Bool := match op with
  | 0 => (match b, i with
    | 0, .iload k => n == 2 && k == a
    | 0, .iload_n k => n == 1 && (k : Nat) == a
    | 1, .lload k => n == 2 && k == a
    | 1, .lload_n k => n == 1 && (k : Nat) == a
    | 2, .aload k => n == 2 && k == a
    | 2, .aload_n k => n == 1 && (k : Nat) == a
    | _, _ => false)
  | 1 => (match b, i with
    | 0, .istore k => n == 2 && k == a
    | 0, .istore_n k => n == 1 && (k : Nat) == a
    | 1, .lstore k => n == 2 && k == a
    | 1, .lstore_n k => n == 1 && (k : Nat) == a
    | 2, .astore k => n == 2 && k == a
    | 2, .astore_n k => n == 1 && (k : Nat) == a
    | _, _ => false)
  | 2 => (match i with
    | .iinc k d => n == 3 && k == a && decide (d = c)
    | _ => false)
  | _ => false
def mm_c3 (m op a b : Nat) (i : Instr) (n : Nat) : Bool := match op with
  | 0 => (match i with
    | .getfield k => n == 3 && decide (mm_cf.lookup (mm_ow m, k) = some a) && b == mm_cy a && decide (a < 86)
    | _ => false)
  | 1 => (match i with
    | .putfield k => n == 3 && decide (mm_cf.lookup (mm_ow m, k) = some a) && b == mm_cy a && decide (a < 86) && (!(mm_T (mm_ax (mm_cr a)) (mm_cs a)).2.2.2 || (decide ((mm_y m).name = "<init>") && decide (mm_ow m = mm_ax (mm_cr a))))
    | _ => false)
  | 2 => n == 1 && (match b with
    | 0 => decide (i = .iaload)
    | 1 => decide (i = .baload)
    | 2 => decide (i = .aaload)
    | _ => false)
  | 3 => n == 1 && (match b with
    | 0 => decide (i = .iastore)
    | 1 => decide (i = .bastore)
    | 2 => decide (i = .aastore)
    | _ => false)
  | 4 => n == 1 && decide (i = .arraylength)
  | 5 => (match i with
    | .invokestatic k => n == 3 && decide (mm_cm.lookup (mm_ow m, k) = some (6, 0)) && decide (1 ≤ mm_rf m) && decide (40 ≤ mm_rl m)
    | _ => false)
  | 6 => (match i with
    | .instanceof k => n == 3 && mm_wd b (.classLink (mm_cN (mm_ow m)) k (mm_cN a)) && decide (3 ≤ a ∧ a ≤ 5)
    | _ => false)
  | 7 => (match i with
    | .invokespecial k => n == 3 && decide (mm_cm.lookup (mm_ow m, k) = some (5, 0)) && decide (1 ≤ mm_rf m) && decide (20 ≤ mm_rl m)
    | _ => false)
  | 8 => (match i with
    | .invokestatic k => n == 3 && decide (mm_cm.lookup (mm_ow m, k) = some (7, 0)) && decide (1 ≤ mm_rf m) && decide (20 ≤ mm_rl m)
    | _ => false)
  | _ => false
def mm_c4 (m op a b : Nat) (l : List Nat) (i : Instr) (n : Nat) : Bool := match op with
  | 0 => (match i with
    | .new k => n == 3 && mm_wd (l.getD 0 0) (.classLink (mm_cN (mm_ow m)) k (mm_cN b)) && decide (b < 12)
    | _ => false)
  | 1 => n == 2 && (match b with
    | 0 => decide (i = .newarray .int)
    | 1 => decide (i = .newarray .byte)
    | _ => false)
  | 2 => (match i with
    | .anewarray k => n == 3 && mm_wd (l.getD 0 0) (.classLink (mm_cN (mm_ow m)) k (mm_cN (match mm_ax a with | 2 => 2 | 3 => 7 | _ => 8))) && decide (2 ≤ mm_ax a ∧ mm_ax a ≤ 4)
    | _ => false)
  | 3 => (match i with
    | .multianewarray k d => n == 4 && d == 2 && mm_wd (l.getD 0 0) (.classLink (mm_cN (mm_ow m)) k "[[I")
    | _ => false)
  | _ => false
/-- the room of a call -/
def mm_cw (m y : Nat) : Bool := decide (mm_rf y + 1 ≤ mm_rf m) && decide (8 + (mm_mL y + 11) + mm_rl y ≤ mm_rl m) && decide (y < 178)
def mm_c5 (m op a b : Nat) (i : Instr) (n : Nat) : Bool := match op with
  | 0 => (match i with
    | .invokestatic k => n == 3 && decide (mm_cm.lookup (mm_ow m, k) = some (0, a)) && b == mm_na a && mm_cw m a
    | _ => false)
  | 1 => (match i with
    | .invokespecial k => n == 3 && (decide (mm_cm.lookup (mm_ow m, k) = some (1, a)) || decide (mm_cm.lookup (mm_ow m, k) = some (2, a))) && b == mm_na a && mm_cw m a
    | _ => false)
  | 2 => (match i with
    | .invokevirtual k => n == 3 && decide (mm_cm.lookup (mm_ow m, k) = some (3, a)) && b == mm_na a && mm_cw m a
    | _ => false)
  | 3 => (match i with
    | .invokevirtual k => n == 3 && decide (mm_cm.lookup (mm_ow m, k) = some (4, a)) && decide (a < 4) && b == mm_na (mm_vs a 0) && mm_cw m (mm_vs a 0) && mm_cw m (mm_vs a 1) && mm_cw m (mm_vs a 2) && mm_cw m (mm_vs a 3)
    | _ => false)
  | _ => false
def mm_c6 (op : Nat) (i : Instr) (n : Nat) : Bool := n == 1 && (match op with
  | 0 => decide (i = .ireturn)
  | 1 => decide (i = .lreturn)
  | _ => decide (i = .return_))
def mm_ci (m pc : Nat) (e : mm_E) (i : Instr) (n : Nat) : Bool := match e.1 with
  | 0 => mm_c0 m e.2.1 e.2.2.2.1 e.2.2.2.2.1 e.2.2.2.2.2.1 i n
  | 1 => mm_c1 pc e.2.1 e.2.2.2.1 e.2.2.2.2.1 e.2.2.2.2.2.1 e.2.2.2.2.2.2 i n
  | 2 => mm_c2 e.2.1 e.2.2.2.1 e.2.2.2.2.1 e.2.2.2.2.2.1 i n
  | 3 => mm_c3 m e.2.1 e.2.2.2.1 e.2.2.2.2.1 i n
  | 4 => mm_c4 m e.2.1 e.2.2.2.1 e.2.2.2.2.1 e.2.2.2.2.2.2 i n
  | 5 => mm_c5 m e.2.1 e.2.2.2.1 e.2.2.2.2.1 i n
  | 6 => mm_c6 e.2.1 i n
  | _ => false
def mm_ck (m pc : Nat) (e : mm_E) : Bool := match decode (mm_bc m) pc with
  | .ok (i, n) => decide (e.2.2.1 = pc + n) && mm_ci m pc e i n
  | .error _ => false
def mm_ka (m : Nat) : Bool := (mm_pg.getD m []).all (fun q => mm_ck m q.1 q.2)
set_option maxRecDepth 100000 in
theorem mm_k0 : (List.range 20).all (fun j => mm_ka (0 + j)) = true := by sorry
set_option maxRecDepth 100000 in
theorem mm_k20 : (List.range 20).all (fun j => mm_ka (20 + j)) = true := by sorry
set_option maxRecDepth 100000 in
theorem mm_k40 : (List.range 20).all (fun j => mm_ka (40 + j)) = true := by sorry
set_option maxRecDepth 100000 in
theorem mm_k60 : (List.range 20).all (fun j => mm_ka (60 + j)) = true := by sorry
set_option maxRecDepth 100000 in
theorem mm_k80 : (List.range 20).all (fun j => mm_ka (80 + j)) = true := by sorry
set_option maxRecDepth 100000 in
theorem mm_k100 : (List.range 20).all (fun j => mm_ka (100 + j)) = true := by sorry
set_option maxRecDepth 100000 in
theorem mm_k120 : (List.range 20).all (fun j => mm_ka (120 + j)) = true := by sorry
set_option maxRecDepth 100000 in
theorem mm_k140 : (List.range 20).all (fun j => mm_ka (140 + j)) = true := by sorry
set_option maxRecDepth 100000 in
theorem mm_k160 : (List.range 18).all (fun j => mm_ka (160 + j)) = true := by sorry
theorem mm_kall (m : Nat) (hm : m < 178) : mm_ka m = true := by
  by_cases h0 : m < 20
  · have h := List.all_eq_true.mp mm_k0 (m - 0) (List.mem_range.mpr (by omega))
    rwa [show 0 + (m - 0) = m by omega] at h
  by_cases h20 : m < 40
  · have h := List.all_eq_true.mp mm_k20 (m - 20) (List.mem_range.mpr (by omega))
    rwa [show 20 + (m - 20) = m by omega] at h
  by_cases h40 : m < 60
  · have h := List.all_eq_true.mp mm_k40 (m - 40) (List.mem_range.mpr (by omega))
    rwa [show 40 + (m - 40) = m by omega] at h
  by_cases h60 : m < 80
  · have h := List.all_eq_true.mp mm_k60 (m - 60) (List.mem_range.mpr (by omega))
    rwa [show 60 + (m - 60) = m by omega] at h
  by_cases h80 : m < 100
  · have h := List.all_eq_true.mp mm_k80 (m - 80) (List.mem_range.mpr (by omega))
    rwa [show 80 + (m - 80) = m by omega] at h
  by_cases h100 : m < 120
  · have h := List.all_eq_true.mp mm_k100 (m - 100) (List.mem_range.mpr (by omega))
    rwa [show 100 + (m - 100) = m by omega] at h
  by_cases h120 : m < 140
  · have h := List.all_eq_true.mp mm_k120 (m - 120) (List.mem_range.mpr (by omega))
    rwa [show 120 + (m - 120) = m by omega] at h
  by_cases h140 : m < 160
  · have h := List.all_eq_true.mp mm_k140 (m - 140) (List.mem_range.mpr (by omega))
    rwa [show 140 + (m - 140) = m by omega] at h
  by_cases h160 : m < 178
  · have h := List.all_eq_true.mp mm_k160 (m - 160) (List.mem_range.mpr (by omega))
    rwa [show 160 + (m - 160) = m by omega] at h
  omega
end
section
/-! the pools and the methods against the tables' words -/
def mm_fw (q : (Nat × Nat) × Nat) : Jvm.Cond := .fieldLink (mm_cN q.1.1) q.1.2 (mm_T (mm_ax (mm_cr q.2)) (mm_cs q.2)).1 (mm_T (mm_ax (mm_cr q.2)) (mm_cs q.2)).2.1 (mm_T (mm_ax (mm_cr q.2)) (mm_cs q.2)).2.2.1
set_option maxRecDepth 100000 in
theorem mm_cf_ok : (mm_cf.zip mm_cfi).all (fun q => mm_wd q.2 (mm_fw q.1)) = true := by sorry
def mm_mw (q : (Nat × Nat) × (Nat × Nat)) : List Jvm.Cond := match q.2.1 with
  | 0 => [.methodLink (mm_cN q.1.1) q.1.2 (mm_y q.2.2), .static (mm_y q.2.2)]
  | 1 => [.methodLink (mm_cN q.1.1) q.1.2 (mm_y q.2.2), .instanceMethod (mm_y q.2.2)]
  | 2 => [.methodLinkNest (mm_cN q.1.1) q.1.2 (mm_y q.2.2) "SongToBridge", .instanceMethod (mm_y q.2.2)]
  | 3 => [.methodLink (mm_cN q.1.1) q.1.2 (mm_y q.2.2), .instanceMethod (mm_y q.2.2), .selects (mm_cN (mm_ow q.2.2)) (mm_y q.2.2) (mm_y q.2.2)]
  | 4 => [.methodLink (mm_cN q.1.1) q.1.2 (mm_vx q.2.2), .sameMethod (mm_vx q.2.2).cls "SongToBridge$Keeper" (mm_vx q.2.2).name (mm_vx q.2.2).desc, .instanceMethod (mm_vx q.2.2)]
  | 5 => [.methodLink (mm_cN q.1.1) q.1.2 objectInit]
  | 7 => [.methodLink (mm_cN q.1.1) q.1.2 Lib.Math.min.name]
  | _ => [.methodLink (mm_cN q.1.1) q.1.2 arraycopyName]
def mm_mz (q : ((Nat × Nat) × (Nat × Nat)) × List Nat) : Bool := ((mm_mw q.1).length == q.2.length) && ((mm_mw q.1).zip q.2).all (fun z => mm_wd z.2 z.1)
set_option maxRecDepth 100000 in
theorem mm_cm_ok1 : ((mm_cm.zip mm_cmi).take 60).all mm_mz = true := by sorry
set_option maxRecDepth 100000 in
theorem mm_cm_ok2 : ((mm_cm.zip mm_cmi).drop 60).all mm_mz = true := by sorry
def mm_mq (m : Nat) : Bool := mm_wd ((mm_mti.getD m []).getD 0 0) (.code (mm_y m) (mm_bc m) (mm_mL m) (mm_rt m)) && mm_wd ((mm_mti.getD m []).getD 1 0) (.initialized (mm_y m).cls) && decide ((parseMethodDescriptor (mm_y m).desc).map (fun d => d.parameters.length) = some (mm_na m)) && decide ((mm_y m).cls ≠ "java/lang/invoke/MethodHandle") && decide ((mm_y m).cls ≠ "java/lang/invoke/VarHandle") && plainName (mm_y m).cls
set_option maxRecDepth 100000 in
theorem mm_mt0 : (List.range 30).all (fun j => mm_mq (0 + j)) = true := by sorry
set_option maxRecDepth 100000 in
theorem mm_mt30 : (List.range 30).all (fun j => mm_mq (30 + j)) = true := by sorry
set_option maxRecDepth 100000 in
theorem mm_mt60 : (List.range 30).all (fun j => mm_mq (60 + j)) = true := by sorry
set_option maxRecDepth 100000 in
theorem mm_mt90 : (List.range 30).all (fun j => mm_mq (90 + j)) = true := by sorry
set_option maxRecDepth 100000 in
theorem mm_mt120 : (List.range 30).all (fun j => mm_mq (120 + j)) = true := by sorry
set_option maxRecDepth 100000 in
theorem mm_mt150 : (List.range 28).all (fun j => mm_mq (150 + j)) = true := by sorry
theorem mm_mall (m : Nat) (hm : m < 178) : mm_mq m = true := by
  by_cases h0 : m < 30
  · have h := List.all_eq_true.mp mm_mt0 (m - 0) (List.mem_range.mpr (by omega))
    rwa [show 0 + (m - 0) = m by omega] at h
  by_cases h30 : m < 60
  · have h := List.all_eq_true.mp mm_mt30 (m - 30) (List.mem_range.mpr (by omega))
    rwa [show 30 + (m - 30) = m by omega] at h
  by_cases h60 : m < 90
  · have h := List.all_eq_true.mp mm_mt60 (m - 60) (List.mem_range.mpr (by omega))
    rwa [show 60 + (m - 60) = m by omega] at h
  by_cases h90 : m < 120
  · have h := List.all_eq_true.mp mm_mt90 (m - 90) (List.mem_range.mpr (by omega))
    rwa [show 90 + (m - 90) = m by omega] at h
  by_cases h120 : m < 150
  · have h := List.all_eq_true.mp mm_mt120 (m - 120) (List.mem_range.mpr (by omega))
    rwa [show 120 + (m - 120) = m by omega] at h
  by_cases h150 : m < 178
  · have h := List.all_eq_true.mp mm_mt150 (m - 150) (List.mem_range.mpr (by omega))
    rwa [show 150 + (m - 150) = m by omega] at h
  omega
set_option maxRecDepth 100000 in
theorem mm_mn_ok : (mm_wd (mm_mni.getD 0 0) (.static Lib.Math.min.name) && mm_wd (mm_mni.getD 1 0) (.initialized "java/lang/Math") && mm_wd (mm_mni.getD 2 0) (.code Lib.Math.min.name Lib.Math.min.code 2 (some .int))) = true := by decide +kernel
set_option maxRecDepth 100000 in
theorem mm_ac_ok : (mm_wd (mm_aci.getD 0 0) (.native arraycopyName) && mm_wd (mm_aci.getD 1 0) (.static arraycopyName) && mm_wd (mm_aci.getD 2 0) (.initialized "java/lang/System")) = true := by decide +kernel
set_option maxRecDepth 100000 in
theorem mm_oi_ok : (mm_wd (mm_oii.getD 0 0) (.instanceMethod objectInit) && mm_wd (mm_oii.getD 1 0) (.code objectInit ⟨#[0xb1]⟩ 1 none)) = true := by decide +kernel
def mm_vq (g i : Nat) : Bool := mm_wd (((mm_vti.getD g []).getD i []).getD 0 0) (.selects (mm_cN (2 + i)) (mm_vx g) (mm_y (mm_vs g i))) && mm_wd (((mm_vti.getD g []).getD i []).getD 1 0) (.instanceMethod (mm_y (mm_vs g i)))
set_option maxRecDepth 100000 in
theorem mm_vt_ok : (List.range 4).all (fun g => (List.range 4).all (fun i => mm_vq g i)) = true := by sorry
/-- the fields' words, the descriptors and the names -/
def mm_dt (d : String) : FieldType := match parseFieldDescriptor d with
  | some t => t
  | none => .int
set_option maxRecDepth 100000 in
theorem mm_fd_ok : (List.range 12).all (fun c => (List.range (mm_N c)).all (fun k => decide (parseFieldDescriptor (mm_T c k).2.2.1 = some (mm_dt (mm_T c k).2.2.1)) && (List.range (mm_N c)).all (fun j => decide (k = j) || decide (¬ (mm_T c k).2.1 = (mm_T c j).2.1)))) = true := by sorry
end
section
/-! values, locals and the steps that touch no cell: the kit's rows for the machine's steps -/
def mm_tb : List Jvm.Cond := lw_tbl.filter goodWord
theorem mm_tb_of {i : Nat} {w : Jvm.Cond} (h : mm_wd i w = true) (hg : goodWord w = true) : w ∈ mm_tb := List.mem_filter.mpr ⟨List.mem_of_getElem? (of_decide_eq_true h), hg⟩
def mm_cv (φ : Nat → Nat → Nat) (v : mm_V) : Value := match v with
  | .inl x => .int x
  | .inr (.inl x) => .long x
  | .inr (.inr q) => .ref (φ q.1 q.2)
theorem mm_cv_cat (φ : Nat → Nat → Nat) (v : mm_V) : (mm_cv φ v).category = mm_cat v := by
  rcases v with x | x | q <;> rfl
def mm_lr (φ : Nat → Nat → Nat) (la : List (Option mm_V)) (ls : Array Slot) (nL : Nat) : Prop := la.length = nL ∧ ls.size = nL ∧ lv_wf ls ∧ ∀ (j : Nat) (v : mm_V), la[j]? = some (some v) → ls[j]? = some (.val (mm_cv φ v))
def mm_ll (φ : Nat → Nat → Nat) (la : List (Option mm_V)) : List (Nat × Value) := (List.range la.length).filterMap (fun j => match la[j]? with
  | some (some v) => some (j, mm_cv φ v)
  | _ => none)
theorem mm_ll_mem {φ : Nat → Nat → Nat} {la : List (Option mm_V)} {q : Nat × Value} (h : q ∈ mm_ll φ la) : ∃ v, la[q.1]? = some (some v) ∧ q.2 = mm_cv φ v := by
  obtain ⟨j, -, e⟩ := List.mem_filterMap.mp h
  split at e
  next v hv =>
    cases e
    exact ⟨v, hv, rfl⟩
  next => cases e
theorem mm_ll_of {φ : Nat → Nat → Nat} {la : List (Option mm_V)} {j : Nat} {v : mm_V} (h : la[j]? = some (some v)) : (j, mm_cv φ v) ∈ mm_ll φ la := by
  refine List.mem_filterMap.mpr ⟨j, List.mem_range.mpr (List.getElem?_eq_some_iff.mp h).1, ?_⟩
  rw [h]
theorem mm_lr_has {φ : Nat → Nat → Nat} {la : List (Option mm_V)} {ls : Array Slot} {nL : Nat} (h : mm_lr φ la ls nL) : lv_has ls nL (mm_ll φ la) := ⟨h.2.1, h.2.2.1, fun q hq => by
  obtain ⟨v, h1, h2⟩ := mm_ll_mem hq
  rw [h2]
  exact h.2.2.2 q.1 v h1⟩
theorem mm_pl_spec {la : List (Option mm_V)} {a j : Nat} {v : mm_V} (h : mm_pl la a = true) (hj : la[j]? = some (some v)) (he : j + 1 = a) : mm_cat v = 1 := by
  subst he
  unfold mm_pl at h
  simp only [hj] at h
  rcases v with x | x | q
  · rfl
  · simp at h
  · rfl
theorem mm_lr_st1 {φ : Nat → Nat → Nat} {la : List (Option mm_V)} {ls ls' : Array Slot} {nL a : Nat} {v : mm_V} (h : mm_lr φ la ls nL) (ha : a < la.length) (hp : mm_pl la a = true)
    (h' : lv_has ls' nL ((a, mm_cv φ v) :: (mm_ll φ la).filter (fun q => !(q.1 == a) && !(q.1 + 1 == a && q.2.category == 2)))) : mm_lr φ (la.set a (some v)) ls' nL := by
  refine ⟨by rw [List.length_set]; exact h.1, h'.1, h'.2.1, fun j w hj => ?_⟩
  by_cases e : j = a
  · subst e
    rw [List.getElem?_set_self ha] at hj
    cases hj
    exact h'.2.2 (j, mm_cv φ v) List.mem_cons_self
  · rw [List.getElem?_set_ne (Ne.symm e)] at hj
    refine h'.2.2 (j, mm_cv φ w) (List.mem_cons_of_mem _ (List.mem_filter.mpr ⟨mm_ll_of hj, ?_⟩))
    have e1 : (j == a) = false := by simp [e]
    by_cases e2 : j + 1 = a
    · have := mm_pl_spec hp hj e2
      simp [e1, e2, mm_cv_cat, this]
    · simp [e1, e2]
theorem mm_lr_st2 {φ : Nat → Nat → Nat} {la : List (Option mm_V)} {ls ls' : Array Slot} {nL a : Nat} {v : mm_V} (h : mm_lr φ la ls nL) (ha : a + 1 < la.length) (hp : mm_pl la a = true)
    (h' : lv_has ls' nL ((a, mm_cv φ v) :: (mm_ll φ la).filter (fun q => !(q.1 == a) && (!(q.1 == a + 1) && !(q.1 + 1 == a && q.2.category == 2))))) : mm_lr φ ((la.set a (some v)).set (a + 1) none) ls' nL := by
  refine ⟨by rw [List.length_set, List.length_set]; exact h.1, h'.1, h'.2.1, fun j w hj => ?_⟩
  by_cases e0 : j = a + 1
  · subst e0
    rw [List.getElem?_set_self (by rw [List.length_set]; exact ha)] at hj
    cases hj
  rw [List.getElem?_set_ne (Ne.symm e0)] at hj
  by_cases e : j = a
  · subst e
    rw [List.getElem?_set_self (by omega)] at hj
    cases hj
    exact h'.2.2 (j, mm_cv φ v) List.mem_cons_self
  · rw [List.getElem?_set_ne (Ne.symm e)] at hj
    refine h'.2.2 (j, mm_cv φ w) (List.mem_cons_of_mem _ (List.mem_filter.mpr ⟨mm_ll_of hj, ?_⟩))
    have e1 : (j == a) = false := by simp [e]
    have e3 : (j == a + 1) = false := by simp [e0]
    by_cases e2 : j + 1 = a
    · have := mm_pl_spec hp hj e2
      simp [e1, e3, e2, mm_cv_cat, this]
    · simp [e1, e3, e2]
section MMB
variable {p : Program} {l : Launch} {e : Env} {R : Room} {s : State} {mi : MethodId} {args : Array Value} {below : List Frame} {meth : Method} {c : Code} {H : Heap} {locs : List Loc} {cells slots : Nat} {Q : State → Prop}
variable {m pc nx op a b : Nat} {k : Int} {zs : List Nat} {st st' : List mm_V} {ls : Array Slot} {φ : Nat → Nat → Nat} {i : Instr} {n : Nat}
theorem mm_w0 (hx : p.tables.exec = Jvm.exec) (hb : c.code = mm_bc m) (hown : s.vm.findClass (mm_cN (mm_ow m)) = some mi.cls) (hts : ∀ w ∈ mm_tb, w.before args s = true) (hd : decode (mm_bc m) pc = .ok (i, n)) (hc0 : mm_c0 m op a b k i n = true) (hs0 : mm_ps op b k st = some st')
    (kk : W p l e R s mi args below meth c H locs cells slots Q (F0 mi (pc + n) ls (st'.map (mm_cv φ)))) : W p l e R s mi args below meth c H locs cells slots Q (F0 mi pc ls (st.map (mm_cv φ))) := by
  match op, hc0, hs0 with
  | 0, hc, hs =>
    simp only [mm_ps] at hs
    cases hs
    simp only [mm_c0] at hc
    split at hc
    next z =>
      simp only [Bool.and_eq_true, beq_iff_eq, decide_eq_true_eq] at hc
      obtain ⟨rfl, h⟩ := hc
      exact lv_iconst hx hb hd h kk
    next z =>
      simp only [Bool.and_eq_true, beq_iff_eq, decide_eq_true_eq] at hc
      obtain ⟨rfl, h⟩ := hc
      exact lv_bipush hx hb hd h kk
    next z =>
      simp only [Bool.and_eq_true, beq_iff_eq, decide_eq_true_eq] at hc
      obtain ⟨rfl, h⟩ := hc
      exact lv_sipush hx hb hd h kk
    next z =>
      simp only [Bool.and_eq_true, beq_iff_eq] at hc
      obtain ⟨rfl, h⟩ := hc
      exact lv_ldc hx hb hown (hts _ (mm_tb_of h rfl)) hd kk
    next z =>
      simp only [Bool.and_eq_true, beq_iff_eq] at hc
      obtain ⟨rfl, h⟩ := hc
      exact lv_ldcw hx hb hown (hts _ (mm_tb_of h rfl)) hd kk
    next => cases hc
  | 1, hc, hs =>
    simp only [mm_ps] at hs
    cases hs
    simp only [mm_c0] at hc
    split at hc
    next z =>
      simp only [Bool.and_eq_true, beq_iff_eq, decide_eq_true_eq] at hc
      obtain ⟨rfl, h⟩ := hc
      exact lv_lconst hx hb hd h kk
    next z =>
      simp only [Bool.and_eq_true, beq_iff_eq] at hc
      obtain ⟨rfl, h⟩ := hc
      exact lv_ldc2 hx hb hown (hts _ (mm_tb_of h rfl)) hd kk
    next => cases hc
  | 2, hc, hs =>
    simp only [mm_c0] at hc
    simp only [mm_ps] at hs
    simp only [Bool.and_eq_true, beq_iff_eq] at hc
    obtain ⟨rfl, hc⟩ := hc
    split at hs
    next y x r =>
      cases hs
      match b, hc, kk with
      | 0, hc, kk => cases of_decide_eq_true hc; exact lv_iadd hx hb hd kk
      | 1, hc, kk => cases of_decide_eq_true hc; exact lv_isub hx hb hd kk
      | 2, hc, kk => cases of_decide_eq_true hc; exact lv_imul hx hb hd kk
      | 3, hc, kk => cases of_decide_eq_true hc; exact lv_iand hx hb hd kk
      | 4, hc, kk => cases of_decide_eq_true hc; exact lv_ior hx hb hd kk
      | 5, hc, kk => cases of_decide_eq_true hc; exact lv_ixor hx hb hd kk
      | 6, hc, kk => cases of_decide_eq_true hc; exact lv_ishl hx hb hd kk
      | 7, hc, kk => cases of_decide_eq_true hc; exact lv_ishr hx hb hd kk
      | b + 8, hc, kk => cases of_decide_eq_true hc; exact lv_iushr hx hb hd rfl kk
    next => cases hs
  | 3, hc, hs =>
    simp only [mm_c0] at hc
    simp only [mm_ps] at hs
    simp only [Bool.and_eq_true, beq_iff_eq] at hc
    obtain ⟨rfl, hc⟩ := hc
    split at hs
    next y x r =>
      split at hs
      next => cases hs
      next hne =>
        cases hs
        match b, hc, kk, hne with
        | 0, hc, kk, hne => cases of_decide_eq_true hc; exact lv_ladd hx hb hd kk
        | 1, hc, kk, hne => cases of_decide_eq_true hc; exact lv_lmul hx hb hd kk
        | 2, hc, kk, hne => cases of_decide_eq_true hc; exact lv_land hx hb hd kk
        | 3, hc, kk, hne => cases of_decide_eq_true hc; exact lv_lor hx hb hd kk
        | 4, hc, kk, hne => cases of_decide_eq_true hc; exact lv_ldiv hx hb hd (fun h => hne ⟨by omega, h⟩) kk
        | b + 5, hc, kk, hne => cases of_decide_eq_true hc; exact lv_lrem hx hb hd (fun h => hne ⟨by omega, h⟩) kk
    next => cases hs
  | 4, hc, hs =>
    simp only [mm_c0] at hc
    simp only [mm_ps] at hs
    simp only [Bool.and_eq_true, beq_iff_eq] at hc
    obtain ⟨rfl, hc⟩ := hc
    split at hs
    next y x r =>
      cases hs
      match b, hc, kk with
      | 0, hc, kk => cases of_decide_eq_true hc; exact lv_lshl hx hb hd rfl kk
      | 1, hc, kk => cases of_decide_eq_true hc; exact lv_lshr hx hb hd rfl kk
      | b + 2, hc, kk => cases of_decide_eq_true hc; exact lv_lushr hx hb hd rfl kk
    next => cases hs
  | 5, hc, hs =>
    simp only [mm_c0] at hc
    simp only [mm_ps] at hs
    simp only [Bool.and_eq_true, beq_iff_eq] at hc
    obtain ⟨rfl, hc⟩ := hc
    split at hs
    next => cases hs; cases of_decide_eq_true hc; exact lv_i2l hx hb hd rfl kk
    next => cases hs; cases of_decide_eq_true hc; exact lv_l2i hx hb hd rfl kk
    next => cases hs; cases of_decide_eq_true hc; exact lv_i2b hx hb hd rfl kk
    next => cases hs
  | 6, hc, hs =>
    simp only [mm_c0] at hc
    simp only [mm_ps] at hs
    simp only [Bool.and_eq_true, beq_iff_eq] at hc
    obtain ⟨rfl, hc⟩ := hc
    cases of_decide_eq_true hc
    split at hs
    next v r =>
      split at hs
      next hv => cases hs; exact lv_dup hx hb hd (by rw [mm_cv_cat]; exact hv) kk
      next => cases hs
    next => cases hs
  | 7, hc, hs =>
    simp only [mm_c0] at hc
    simp only [mm_ps] at hs
    simp only [Bool.and_eq_true, beq_iff_eq] at hc
    obtain ⟨rfl, hc⟩ := hc
    cases of_decide_eq_true hc
    split at hs
    next v w r =>
      split at hs
      next hv => cases hs; exact lv_dup2_11 hx hb hd (by rw [mm_cv_cat]; exact hv.1) (by rw [mm_cv_cat]; exact hv.2) kk
      next => cases hs
    next => cases hs
  | op + 8, hc, hs => simp [mm_c0] at hc
theorem mm_tp_spec {pc : Nat} : ∀ {os : List Int} {l : List Nat}, mm_tp pc os l = true → os.length = l.length ∧ ∀ (j : Nat) (t : Nat), l[j]? = some t → ∃ o, os[j]? = some o ∧ (pc : Int) + o = (t : Int)
  | [], [], _ => ⟨rfl, fun j t h => by simp at h⟩
  | [], _ :: _, h => by cases h
  | _ :: _, [], h => by cases h
  | o :: os, t :: l, h => by
    simp only [mm_tp, Bool.and_eq_true, decide_eq_true_eq] at h
    obtain ⟨h1, h2⟩ := mm_tp_spec h.2
    refine ⟨by simp [h1], fun j u hj => ?_⟩
    cases j with
    | zero => simp at hj; subst hj; exact ⟨o, rfl, h.1⟩
    | succ j => simp at hj; simpa using h2 j u hj
theorem mm_lp_spec {pc : Nat} {d : Int} {a : Nat} (hd : (pc : Int) + d = (a : Int)) (x : Int32) : ∀ {ps : List (Int × Int)} {l : List Nat}, mm_lp pc ps l = true → (pc : Int) + Op.lookupswitch.offset ps d x.toInt = ((mm_lk a l x : Nat) : Int)
  | [], [], _ => by simpa [Op.lookupswitch.offset, mm_lk] using hd
  | [], _ :: _, h => by cases h
  | _ :: _, [], h => by cases h
  | _ :: _, [_], h => by cases h
  | (k, o) :: ps, b :: t :: l, h => by
    simp only [mm_lp, Bool.and_eq_true, decide_eq_true_eq] at h
    have ih := mm_lp_spec hd x h.2
    by_cases e : x.toInt = (b : Int)
    · simp [Op.lookupswitch.offset, mm_lk, h.1.1, e, h.1.2]
    · have e' : ¬ (b : Int) = x.toInt := fun q => e q.symm
      simp only [Op.lookupswitch.offset, mm_lk, h.1.1, e] at ih ⊢
      simp [e', ih]
theorem mm_w1 (hx : p.tables.exec = Jvm.exec) (hb : c.code = mm_bc m) (hd : decode (mm_bc m) pc = .ok (i, n)) (hnx : nx = pc + n) (hc0 : mm_c1 pc op a b k zs i n = true) {q : Nat × List mm_V} (hs0 : mm_br op nx a b k zs st = some q)
    (kk : W p l e R s mi args below meth c H locs cells slots Q (F0 mi q.1 ls (q.2.map (mm_cv φ)))) : W p l e R s mi args below meth c H locs cells slots Q (F0 mi pc ls (st.map (mm_cv φ))) := by
  subst hnx
  match op, hc0, hs0 with
  | 0, hc, hs =>
    simp only [mm_c1] at hc
    simp only [mm_br] at hs
    split at hs
    next x r =>
      cases hs
      split at hc
      next cd off =>
        simp only [Bool.and_eq_true, beq_iff_eq, decide_eq_true_eq] at hc
        obtain ⟨⟨rfl, rfl⟩, ht⟩ := hc
        match b, hd, kk with
        | 0, hd, kk => exact lv_if_eq hx hb hd ht (fun h => by simpa [mm_cd, h] using kk) (fun h => by simpa [mm_cd, h] using kk)
        | 1, hd, kk => exact lv_if_ne hx hb hd ht (fun h => by simpa [mm_cd, h] using kk) (fun h => by simpa [mm_cd, h] using kk)
        | 2, hd, kk => exact lv_if_lt hx hb hd ht (fun h => by simpa [mm_cd, h] using kk) (fun h => by simpa [mm_cd, h] using kk)
        | 3, hd, kk => exact lv_if_ge hx hb hd ht (fun h => by simpa [mm_cd, h] using kk) (fun h => by simpa [mm_cd, h] using kk)
        | 4, hd, kk => exact lv_if_gt hx hb hd ht (fun h => by simpa [mm_cd, h] using kk) (fun h => by simpa [mm_cd, h] using kk)
        | b + 5, hd, kk => exact lv_if_le hx hb hd ht (fun h => by simpa [mm_cd, h] using kk) (fun h => by simpa [mm_cd, h] using kk)
      next => cases hc
    next => cases hs
  | 1, hc, hs =>
    simp only [mm_c1] at hc
    simp only [mm_br] at hs
    split at hs
    next y x r =>
      cases hs
      split at hc
      next cd off =>
        simp only [Bool.and_eq_true, beq_iff_eq, decide_eq_true_eq] at hc
        obtain ⟨⟨rfl, rfl⟩, ht⟩ := hc
        match b, hd, kk with
        | 0, hd, kk => exact lv_icmp_eq hx hb hd ht (fun h => by simpa [mm_cd, h] using kk) (fun h => by simpa [mm_cd, h] using kk)
        | 1, hd, kk => exact lv_icmp_ne hx hb hd ht (fun h => by simpa [mm_cd, h] using kk) (fun h => by simpa [mm_cd, h] using kk)
        | 2, hd, kk => exact lv_icmp_lt hx hb hd ht (fun h => by simpa [mm_cd, h] using kk) (fun h => by simpa [mm_cd, h] using kk)
        | 3, hd, kk => exact lv_icmp_ge hx hb hd ht (fun h => by simpa [mm_cd, h] using kk) (fun h => by simpa [mm_cd, h] using kk)
        | 4, hd, kk => exact lv_icmp_gt hx hb hd ht (fun h => by simpa [mm_cd, h] using kk) (fun h => by simpa [mm_cd, h] using kk)
        | b + 5, hd, kk => exact lv_icmp_le hx hb hd ht (fun h => by simpa [mm_cd, h] using kk) (fun h => by simpa [mm_cd, h] using kk)
      next => cases hc
    next => cases hs
  | 2, hc, hs =>
    simp only [mm_c1] at hc
    simp only [mm_br] at hs
    cases hs
    split at hc
    next off =>
      simp only [Bool.and_eq_true, beq_iff_eq, decide_eq_true_eq] at hc
      obtain ⟨rfl, ht⟩ := hc
      exact lv_goto hx hb hd ht kk
    next => cases hc
  | 3, hc, hs =>
    simp only [mm_c1] at hc
    simp only [mm_br] at hs
    split at hs
    next x r =>
      cases hs
      split at hc
      next d lo hi offs =>
        simp only [Bool.and_eq_true, decide_eq_true_eq] at hc
        obtain ⟨⟨⟨ht, rfl⟩, rfl⟩, htp⟩ := hc
        obtain ⟨h1, h2⟩ := mm_tp_spec htp
        by_cases ho : x.toInt < lo ∨ lo + (zs.length : Int) ≤ x.toInt
        · refine lv_tableOut hx hb hd (tgt := a) (by omega) ht ?_
          simpa only [mm_ts, if_pos ho] using kk
        · have hl : (x.toInt - lo).toNat < zs.length := by omega
          obtain ⟨o, g1, g2⟩ := h2 _ _ (List.getElem?_eq_getElem hl)
          refine lv_tableIn hx hb hd (tgt := zs[(x.toInt - lo).toNat]) (off := o) (by omega) (by omega) (by rw [← Array.getElem?_toList]; exact g1) g2 ?_
          have e : mm_ts a lo zs x = zs[(x.toInt - lo).toNat] := by
            simp [mm_ts, if_neg ho, List.getD_eq_getElem?_getD, List.getElem?_eq_getElem hl]
          simpa only [e] using kk
      next => cases hc
    next => cases hs
  | 4, hc, hs =>
    simp only [mm_c1] at hc
    simp only [mm_br] at hs
    split at hs
    next x r =>
      cases hs
      split at hc
      next d ps =>
        simp only [Bool.and_eq_true, decide_eq_true_eq] at hc
        obtain ⟨⟨ht, hp⟩, hlp⟩ := hc
        exact lv_lookup hx hb hd hp rfl (mm_lp_spec ht x hlp) kk
      next => cases hc
    next => cases hs
  | op + 5, hc, hs => simp [mm_c1] at hc
theorem mm_w2 {la : List (Option mm_V)} {nL : Nat} (hx : p.tables.exec = Jvm.exec) (hb : c.code = mm_bc m) (hd : decode (mm_bc m) pc = .ok (i, n)) (hc0 : mm_c2 op a b k i n = true) {q : List (Option mm_V) × List mm_V} (hs0 : mm_lo op a b k la st = some q) (hl : mm_lr φ la ls nL)
    (kk : ∀ ls', mm_lr φ q.1 ls' nL → W p l e R s mi args below meth c H locs cells slots Q (F0 mi (pc + n) ls' (q.2.map (mm_cv φ)))) : W p l e R s mi args below meth c H locs cells slots Q (F0 mi pc ls (st.map (mm_cv φ))) := by
  match op, hc0, hs0 with
  | 0, hc, hs =>
    simp only [mm_c2] at hc
    simp only [mm_lo] at hs
    split at hs
    next v hv =>
      split at hs
      next ht =>
        cases hs
        have kk := kk ls hl
        have hv' := hl.2.2.2 a v hv
        split at hc
        all_goals try (cases hc; done)
        all_goals
          simp only [Bool.and_eq_true, beq_iff_eq] at hc
          obtain ⟨rfl, hk⟩ := hc
          rcases v with x | x | z <;> simp [mm_tg] at ht
        · subst hk; exact lv_iload hx hb hd hv' kk
        · exact lv_iload_n hx hb hd hk hv' kk
        · subst hk; exact lv_lload hx hb hd hv' kk
        · exact lv_lload_n hx hb hd hk hv' kk
        · subst hk; exact lv_aload hx hb hd hv' kk
        · exact lv_aload_n hx hb hd hk hv' kk
      next => cases hs
    next => cases hs
  | 1, hc, hs =>
    simp only [mm_c2] at hc
    simp only [mm_lo] at hs
    split at hs
    next v r =>
      split at hs
      next hv =>
        obtain ⟨ht, hp⟩ := hv
        have hh := mm_lr_has hl
        have e1 := hl.1
        split at hc
        all_goals try (cases hc; done)
        all_goals
          simp only [Bool.and_eq_true, beq_iff_eq] at hc
          obtain ⟨rfl, hk⟩ := hc
          rcases v with x | x | z <;> simp [mm_tg] at ht
        · subst hk
          rw [if_neg (by omega)] at hs
          split at hs
          next ha => cases hs; exact lv_istore hx hb hd hh (by omega) rfl (fun ls' h' => kk ls' (mm_lr_st1 hl ha hp h'))
          next => cases hs
        · rw [if_neg (by omega)] at hs
          split at hs
          next ha => cases hs; exact lv_istore_n hx hb hd hk hh (by omega) rfl (fun ls' h' => kk ls' (mm_lr_st1 hl ha hp h'))
          next => cases hs
        · subst hk
          rw [if_pos rfl] at hs
          split at hs
          next ha => cases hs; exact lv_lstore hx hb hd hh (by omega) rfl (fun ls' h' => kk ls' (mm_lr_st2 hl ha hp h'))
          next => cases hs
        · rw [if_pos rfl] at hs
          split at hs
          next ha => cases hs; exact lv_lstore_n hx hb hd hk hh (by omega) rfl (fun ls' h' => kk ls' (mm_lr_st2 hl ha hp h'))
          next => cases hs
        · subst hk
          rw [if_neg (by omega)] at hs
          split at hs
          next ha => cases hs; exact lv_astore hx hb hd hh (by omega) rfl (fun ls' h' => kk ls' (mm_lr_st1 hl ha hp h'))
          next => cases hs
        · rw [if_neg (by omega)] at hs
          split at hs
          next ha => cases hs; exact lv_astore_n hx hb hd hk hh (by omega) rfl (fun ls' h' => kk ls' (mm_lr_st1 hl ha hp h'))
          next => cases hs
      next => cases hs
    next => cases hs
  | 2, hc, hs =>
    simp only [mm_c2] at hc
    simp only [mm_lo] at hs
    split at hs
    next x hv =>
      split at hs
      next hp =>
        cases hs
        split at hc
        next z d =>
          simp only [Bool.and_eq_true, beq_iff_eq, decide_eq_true_eq] at hc
          obtain ⟨⟨rfl, rfl⟩, rfl⟩ := hc
          have ha := (List.getElem?_eq_some_iff.mp hv).1
          have e1 := hl.1
          obtain ⟨j, hj⟩ := List.getElem?_of_mem (mm_ll_of (φ := φ) hv)
          exact lv_iinc hx hb hd (mm_lr_has hl) hj rfl (by omega) rfl (fun ls' h' => kk ls' (mm_lr_st1 (v := .inl _) hl ha hp h'))
        next => cases hc
      next => cases hs
    next => cases hs
  | op + 3, hc, hs => simp [mm_c2] at hc
end MMB
end
section
/-! the world of a picture; the steps that read and write cells -/
def mm_lyi : List (List Nat) := [[297, 299, 301, 303, 305, 307, 309], [79, 81], [], [], [], [], [226, 228, 230, 232, 234, 236, 238], [146, 148, 150, 152, 154, 156], [185, 187, 189, 191, 193, 195, 197, 199], [254, 256, 258, 260, 262], [277, 279, 281, 283, 285, 287], [810, 812, 814, 816, 818, 820, 822, 824, 826, 828, 830, 832, 834, 836, 838, 840, 842, 844, 846, 848, 850, 852, 854, 856, 858, 860, 862, 864, 866, 868, 870, 872, 874, 876, 878, 880, 882, 884, 886, 888, 890, 892, 894, 896, 898]]
set_option maxRecDepth 100000 in
theorem mm_ly_ok : (List.range 12).all (fun c => (List.range (mm_N c)).all (fun k => mm_wd ((mm_lyi.getD c []).getD k 0) (u_lay (mm_cN c) (mm_T c) k) && goodWord (u_lay (mm_cN c) (mm_T c) k))) = true := by decide +kernel
theorem mm_lays {c : Nat} (hc : c < 12) : ∀ w ∈ u_ws (mm_cN c) (mm_T c) (mm_N c), w ∈ mm_tb := by
  intro w hw
  obtain ⟨k, hk, rfl⟩ := List.mem_map.mp hw
  have h := List.all_eq_true.mp (List.all_eq_true.mp mm_ly_ok c (List.mem_range.mpr hc)) k hk
  simp only [Bool.and_eq_true] at h
  exact mm_tb_of h.1 h.2
theorem mm_cls_at {c : Nat} (hc : c < 12) : mm_cls[c]? = some (mm_cN c, mm_T c, mm_N c) := by
  unfold mm_cls
  rw [List.getElem?_map, List.getElem?_range hc]
  rfl
theorem mm_fds {c : Nat} (hc : c < 12) : ∀ k, k < mm_N c → parseFieldDescriptor (mm_T c k).2.2.1 = some (mm_dt (mm_T c k).2.2.1) := by
  intro k hk
  have h := List.all_eq_true.mp (List.all_eq_true.mp mm_fd_ok c (List.mem_range.mpr hc)) k (List.mem_range.mpr hk)
  simp only [Bool.and_eq_true] at h
  exact of_decide_eq_true h.1
theorem mm_nms {c : Nat} (hc : c < 12) : ∀ a, a < mm_N c → ∀ b, b < mm_N c → a ≠ b → (mm_T c a).2.1 ≠ (mm_T c b).2.1 := by
  intro k hk j hj hne
  have h := List.all_eq_true.mp (List.all_eq_true.mp mm_fd_ok c (List.mem_range.mpr hc)) k (List.mem_range.mpr hk)
  simp only [Bool.and_eq_true] at h
  have h2 := List.all_eq_true.mp h.2 j (List.mem_range.mpr hj)
  simp only [Bool.or_eq_true, decide_eq_true_eq] at h2
  rcases h2 with h2 | h2
  · exact absurd h2 hne
  · exact h2
theorem mm_lookup_mem {α β : Type} [BEq α] [LawfulBEq α] : ∀ {l : List (α × β)} {k : α} {v : β}, l.lookup k = some v → (k, v) ∈ l
  | [], _, _, h => by cases h
  | (a, b) :: l, k, v, h => by
    unfold List.lookup at h
    split at h
    next e =>
      cases h
      rw [eq_of_beq e]
      exact List.mem_cons_self
    next => exact List.mem_cons_of_mem _ (mm_lookup_mem h)
theorem mm_zip_mem {α β : Type} {l : List α} {r : List β} {x : α} (hl : l.length = r.length) (h : x ∈ l) : ∃ y, (x, y) ∈ l.zip r := by
  obtain ⟨j, hj⟩ := List.getElem?_of_mem h
  have hlt := (List.getElem?_eq_some_iff.mp hj).1
  refine ⟨r[j]'(hl ▸ hlt), List.mem_of_getElem? (i := j) ?_⟩
  rw [List.getElem?_zip_eq_some]
  exact ⟨hj, List.getElem?_eq_getElem _⟩
set_option maxRecDepth 100000 in
theorem mm_cf_w {o k a : Nat} (h : mm_cf.lookup (o, k) = some a) : mm_fw ((o, k), a) ∈ mm_tb := by
  obtain ⟨y, hy⟩ := mm_zip_mem (r := mm_cfi) (by decide +kernel) (mm_lookup_mem h)
  exact mm_tb_of (List.all_eq_true.mp mm_cf_ok _ hy) rfl
set_option maxRecDepth 100000 in
theorem mm_cm_w {o k : Nat} {a : Nat × Nat} (h : mm_cm.lookup (o, k) = some a) : ∀ w ∈ mm_mw ((o, k), a), w ∈ lw_tbl := by
  obtain ⟨y, hy⟩ := mm_zip_mem (r := mm_cmi) (by decide +kernel) (mm_lookup_mem h)
  have hz : mm_mz (((o, k), a), y) = true := by
    rw [← List.take_append_drop 60 (mm_cm.zip mm_cmi)] at hy
    rcases List.mem_append.mp hy with q | q
    · exact List.all_eq_true.mp mm_cm_ok1 _ q
    · exact List.all_eq_true.mp mm_cm_ok2 _ q
  unfold mm_mz at hz
  simp only [Bool.and_eq_true, beq_iff_eq] at hz
  intro w hw
  obtain ⟨z, hz2⟩ := mm_zip_mem hz.1 hw
  exact List.mem_of_getElem? (of_decide_eq_true (List.all_eq_true.mp hz.2 _ hz2))
set_option maxRecDepth 100000 in
theorem mm_s1 : (List.range 47).all (fun r => (mm_fs r).zipIdx.all (fun q => decide (mm_cr q.1.1 = r) && decide (mm_cs q.1.1 = q.2) && decide (mm_cy q.1.1 = q.1.2) && decide (q.1.1 < 86))) = true := by decide +kernel
theorem mm_rk_len : mm_rk.length = 47 := by decide +kernel
theorem mm_fs_ge {r : Nat} (h : 47 ≤ r) : mm_fs r = [] := by
  unfold mm_fs
  rw [List.getD_eq_getElem?_getD, List.getElem?_eq_none (by rw [mm_rk_len]; omega)]
  rfl
theorem mm_fsx {r j c ty : Nat} (h : (mm_fs r)[j]? = some (c, ty)) : mm_cr c = r ∧ mm_cs c = j ∧ mm_cy c = ty ∧ c < 86 := by
  by_cases hr : r < 47
  · have h1 := List.all_eq_true.mp (List.all_eq_true.mp mm_s1 r (List.mem_range.mpr hr)) ((c, ty), j) (by
      rw [List.mem_zipIdx_iff_getElem?]
      simpa using h)
    simp only [Bool.and_eq_true, decide_eq_true_eq] at h1
    exact ⟨h1.1.1.1, h1.1.1.2, h1.1.2, h1.2⟩
  · rw [mm_fs_ge (by omega)] at h
    simp at h
def mm_isr (t : FieldType) : Bool := match t with
  | .object _ => true
  | .array _ => true
  | _ => false
def mm_tyo (y : Nat) (t : FieldType) : Bool := match y with
  | 0 => decide (t = .int)
  | 1 => decide (t = .long)
  | 2 => mm_isr t
  | 3 => decide (t = .boolean)
  | _ => false
set_option maxRecDepth 100000 in
theorem mm_s2 : (List.range 86).all (fun c => decide ((mm_fs (mm_cr c))[mm_cs c]? = some (c, mm_cy c)) && decide (mm_kd (mm_cr c) = 0) && decide (mm_cr c ≠ 3) && decide (mm_cr c ≠ 0) && decide (mm_ax (mm_cr c) < 12) && decide (mm_N (mm_ax (mm_cr c)) = (mm_fs (mm_cr c)).length) && mm_tyo (mm_cy c) (mm_dt (mm_T (mm_ax (mm_cr c)) (mm_cs c)).2.2.1) && decide ((mm_T (mm_ax (mm_cr c)) (mm_cs c)).1 = mm_cN (mm_ax (mm_cr c)))) = true := by decide +kernel
theorem mm_cx {c : Nat} (hc : c < 86) : (mm_fs (mm_cr c))[mm_cs c]? = some (c, mm_cy c) ∧ mm_kd (mm_cr c) = 0 ∧ mm_cr c ≠ 3 ∧ mm_cr c ≠ 0 ∧ mm_ax (mm_cr c) < 12 ∧ mm_N (mm_ax (mm_cr c)) = (mm_fs (mm_cr c)).length ∧ mm_tyo (mm_cy c) (mm_dt (mm_T (mm_ax (mm_cr c)) (mm_cs c)).2.2.1) = true ∧ (mm_T (mm_ax (mm_cr c)) (mm_cs c)).1 = mm_cN (mm_ax (mm_cr c)) := by
  have h := List.all_eq_true.mp mm_s2 c (List.mem_range.mpr hc)
  simp only [Bool.and_eq_true, decide_eq_true_eq] at h
  exact ⟨h.1.1.1.1.1.1.1, h.1.1.1.1.1.1.2, h.1.1.1.1.1.2, h.1.1.1.1.2, h.1.1.1.2, h.1.1.2, h.1.2, h.2⟩
/-! the world -/
def mm_or (φ : Nat → Nat → Nat) (q : Nat × Nat) : Option Nat := if q.1 = 0 then none else some (φ q.1 q.2)
def mm_fv (φ : Nat → Nat → Nat) (h : mm_H) (i : Nat) (q : Nat × Nat) : Value := match q.2 with
  | 0 => .int (h.2.1 q.1 i 0)
  | 1 => .long (h.2.2.1 q.1 i)
  | 2 => va_rf (mm_or φ (h.2.2.2 q.1 i 0))
  | _ => .int (h.2.1 q.1 i 0)
def mm_ce (aC : Nat → ClassId) (φ : Nat → Nat → Nat) (h : mm_H) (q : Nat × Nat) : va_E :=
  if mm_kd q.1 = 0 then .inr (mm_co q.1 q.2, (mm_fs q.1).map (mm_fv φ h q.2))
  else if mm_kd q.1 = 3 then .inl (aC (mm_ax q.1), mm_ln q.1, .inr (.inr (.inr (.inr (fun j => if j < mm_ln q.1 then mm_or φ (h.2.2.2 (100 + q.1) q.2 j) else none)))))
  else .inl (aC (mm_ax q.1), mm_ln q.1, .inl (fun j => h.2.1 (100 + q.1) q.2 j))
def mm_ws (aC : Nat → ClassId) (φ : Nat → Nat → Nat) (h : mm_H) : va_W := h.1.map (fun q => (φ q.1 q.2, mm_ce aC φ h q))
theorem mm_ws_at {aC : Nat → ClassId} {φ : Nat → Nat → Nat} {h : mm_H} {k : Nat} {q : Nat × Nat} (hk : h.1[k]? = some q) : (mm_ws aC φ h)[k]? = some (φ q.1 q.2, mm_ce aC φ h q) := by
  unfold mm_ws
  rw [List.getElem?_map, hk]
  rfl
theorem mm_ws_set {aC : Nat → ClassId} {φ : Nat → Nat → Nat} {h h' : mm_H} {A : Nat → Prop} {k : Nat} {q : Nat × Nat} (hk : h.1[k]? = some q) (hD : va_D A (mm_ws aC φ h)) (hi : h'.1 = h.1) (hn : ∀ q', q' ≠ q → mm_ce aC φ h' q' = mm_ce aC φ h q') :
    (mm_ws aC φ h).set k (φ q.1 q.2, mm_ce aC φ h' q) = mm_ws aC φ h' := by
  apply List.ext_getElem?
  intro j
  have hlt : k < (mm_ws aC φ h).length := (List.getElem?_eq_some_iff.mp (mm_ws_at (aC := aC) (φ := φ) hk)).1
  by_cases e : j = k
  · subst e
    rw [List.getElem?_set_self hlt]
    exact (mm_ws_at (by rw [hi]; exact hk)).symm
  · rw [List.getElem?_set_ne (Ne.symm e)]
    cases hj : h.1[j]? with
    | none =>
      unfold mm_ws
      rw [List.getElem?_map, List.getElem?_map, hi, hj]
      rfl
    | some q' =>
      rw [mm_ws_at hj, mm_ws_at (h := h') (by rw [hi]; exact hj), hn q' (fun z => e ?_)]
      subst z
      exact hD.1 j k _ _ (mm_ws_at hj) (mm_ws_at hk) rfl
def mm_okV (h : mm_H) (v : mm_V) : Prop := ∀ q, v = .inr (.inr q) → q ∈ h.1
theorem mm_or_ne {φ : Nat → Nat → Nat} {q : Nat × Nat} (h : ¬ q.1 = 0) : va_rf (mm_or φ q) = .ref (φ q.1 q.2) := by
  unfold mm_or
  rw [if_neg h]
  rfl
/-- a field written: the cell's list, and no other cell -/
theorem mm_ce_put {aC : Nat → ClassId} {φ : Nat → Nat → Nat} {h h' : mm_H} {c i : Nat} {v : Value} (hc : c < 86)
    (hI : ∀ c' i', (c' ≠ c ∨ i' ≠ i) → h'.2.1 c' i' = h.2.1 c' i') (hL : ∀ c' i', (c' ≠ c ∨ i' ≠ i) → h'.2.2.1 c' i' = h.2.2.1 c' i') (hR : ∀ c' i', (c' ≠ c ∨ i' ≠ i) → h'.2.2.2 c' i' = h.2.2.2 c' i') (hv : mm_fv φ h' i (c, mm_cy c) = v) :
    mm_ce aC φ h' (mm_cr c, i) = .inr (mm_co (mm_cr c) i, ((mm_fs (mm_cr c)).map (mm_fv φ h i)).set (mm_cs c) v) ∧ ∀ q', q' ≠ (mm_cr c, i) → mm_ce aC φ h' q' = mm_ce aC φ h q' := by
  obtain ⟨h1, h2, h3, h4, h5, h6, h7, -⟩ := mm_cx hc
  have key : ∀ (r j : Nat) (f : Nat × Nat), (f.1 ≠ c ∨ j ≠ i) → mm_fv φ h' j f = mm_fv φ h j f := by
    intro r j f hne
    unfold mm_fv
    rw [hI f.1 j hne, hL f.1 j hne, hR f.1 j hne]
  refine ⟨?_, fun q' hq => ?_⟩
  · unfold mm_ce
    rw [if_pos h2]
    refine congrArg _ (congrArg _ (List.ext_getElem? fun j => ?_))
    by_cases e : j = mm_cs c
    · subst e
      rw [List.getElem?_set_self (by rw [List.length_map]; exact (List.getElem?_eq_some_iff.mp h1).1), List.getElem?_map, h1]
      exact congrArg some hv
    · rw [List.getElem?_set_ne (Ne.symm e), List.getElem?_map, List.getElem?_map]
      cases hj : (mm_fs (mm_cr c))[j]? with
      | none => rfl
      | some f =>
        obtain ⟨f1, f2⟩ := f
        refine congrArg some (key (mm_cr c) i _ (Or.inl (fun z => e ?_)))
        have := mm_fsx hj
        simp only at z
        rw [z] at this
        exact this.2.1.symm
  · unfold mm_ce
    split
    next hk =>
      refine congrArg _ (congrArg _ (List.map_congr_left fun f hf => ?_))
      obtain ⟨j, hj⟩ := List.getElem?_of_mem hf
      have hx := mm_fsx hj
      refine key q'.1 q'.2 f ?_
      by_cases e : f.1 = c
      · right
        intro z
        apply hq
        rw [← e, hx.1, ← z]
      · exact Or.inl e
    next hk =>
      have hr : 100 + q'.1 ≠ c := by omega
      rw [hR (100 + q'.1) q'.2 (Or.inl hr), hI (100 + q'.1) q'.2 (Or.inl hr)]
/-- an array's place written -/
theorem mm_ce_arr {aC : Nat → ClassId} {φ : Nat → Nat → Nat} {h h' : mm_H} {r i : Nat} 
    (hI : ∀ c' i', (c' ≠ 100 + r ∨ i' ≠ i) → h'.2.1 c' i' = h.2.1 c' i') (hL : h'.2.2.1 = h.2.2.1) (hR : ∀ c' i', (c' ≠ 100 + r ∨ i' ≠ i) → h'.2.2.2 c' i' = h.2.2.2 c' i') : ∀ q', q' ≠ (r, i) → mm_ce aC φ h' q' = mm_ce aC φ h q' := by
  intro q' hq
  unfold mm_ce
  split
  next hk =>
    refine congrArg _ (congrArg _ (List.map_congr_left fun f hf => ?_))
    obtain ⟨j, hj⟩ := List.getElem?_of_mem hf
    have hx := mm_fsx (c := f.1) (ty := f.2) hj
    have hne : f.1 ≠ 100 + r := by omega
    unfold mm_fv
    rw [hI f.1 q'.2 (Or.inl hne), hL, hR f.1 q'.2 (Or.inl hne)]
  next hk =>
    have hne : 100 + q'.1 ≠ 100 + r ∨ q'.2 ≠ i := by
      by_cases e : q'.1 = r
      · exact Or.inr (fun z => hq (by rw [← e, ← z]))
      · exact Or.inl (by omega)
    rw [hR _ _ hne, hI _ _ hne]
end
section
/-! what holds of the tables all along a method; the steps that read and write cells -/
def mm_nc : List (String × String) := [("SongToBridge$Keeper", "SongToBridge$Deaf"), ("SongToBridge$Echo", "SongToBridge$Deaf"), ("SongToBridge$Keeper", "SongToBridge$Echo"), ("SongToBridge$Deaf", "SongToBridge$Echo"), ("SongToBridge$Worn", "SongToBridge$Echo"), ("SongToBridge$Keeper", "SongToBridge$Worn"), ("SongToBridge$Deaf", "SongToBridge$Worn"), ("SongToBridge$Echo", "SongToBridge$Worn")]
def mm_ca : List (String × String) := [("SongToBridge$Worn", "SongToBridge$Deaf"), ("SongToBridge$Deaf", "SongToBridge$Keeper"), ("SongToBridge$Echo", "SongToBridge$Keeper"), ("SongToBridge$Worn", "SongToBridge$Keeper")]
def mm_ao : List String := ["SongToBridge$Keeper", "SongToBridge$Bridge", "SongToBridge$Singer"]
def mm_K (D : va_G) (aC : Nat → ClassId) (U : State) : Prop := va_K D mm_cls (mm_ty aC) U ∧ (∀ q ∈ mm_nc, va_Nc q.1 q.2 U) ∧ (∀ o k y : Nat, mm_cm.lookup (o, k) = some (2, y) → va_Nw (.methodLinkNest (mm_cN o) k (mm_y y) "SongToBridge") U) ∧ (∀ q ∈ mm_ca, va_Nw (.castable q.1 q.2) U) ∧ (∀ C ∈ mm_ao, va_AO C U) ∧ (Jvm.Cond.arrayOver (.array .int)).before #[] U = true
theorem mm_K.warm {D : va_G} {aC : Nat → ClassId} {s U : State} (hW : s.WarmedH U.vm) (h : mm_K D aC s) : mm_K D aC U :=
  ⟨va_K.moved hW.alike h.1, fun q hq => (h.2.1 q hq).moved hW.alike, fun o k y hl => va_Nw.warmM hW (h.2.2.1 o k y hl), fun q hq => va_Nw.warmC hW (h.2.2.2.1 q hq), fun C hC => (h.2.2.2.2.1 C hC).moved hW.alike, over_moved hW.alike h.2.2.2.2.2⟩
theorem mm_K.same {D : va_G} {aC : Nat → ClassId} {s U : State} (hv : s.vm = U.vm) (h : mm_K D aC s) : mm_K D aC U := by
  have ha : s.vm.Alike U.vm := by rw [hv]; exact Vm.Alike.refl U.vm
  exact ⟨va_K.moved ha h.1, fun q hq => (h.2.1 q hq).moved ha, fun o k y hl => va_Nw.same rfl hv (h.2.2.1 o k y hl), fun q hq => va_Nw.same rfl hv (h.2.2.2.1 q hq), fun C hC => (h.2.2.2.2.1 C hC).moved ha, over_moved ha h.2.2.2.2.2⟩
set_option maxRecDepth 100000 in
theorem mm_s3 : (List.range 47).all (fun r => decide (mm_kd r = 1 → mm_ax r = 0) && decide (mm_kd r = 2 → mm_ax r = 1) && decide (mm_kd r = 3 → 2 ≤ mm_ax r ∧ mm_ax r ≤ 5)) = true := by decide +kernel
theorem mm_kd_ge {r : Nat} (h : 47 ≤ r) : mm_kd r = 9 := by
  unfold mm_kd
  rw [List.getD_eq_getElem?_getD, List.getElem?_eq_none (by rw [mm_rk_len]; omega)]
  rfl
theorem mm_kx (r : Nat) : (mm_kd r = 1 → mm_ax r = 0) ∧ (mm_kd r = 2 → mm_ax r = 1) ∧ (mm_kd r = 3 → 2 ≤ mm_ax r ∧ mm_ax r ≤ 5) := by
  by_cases hr : r < 47
  · have h := List.all_eq_true.mp mm_s3 r (List.mem_range.mpr hr)
    simp only [Bool.and_eq_true, decide_eq_true_eq] at h
    exact ⟨h.1.1, h.1.2, h.2⟩
  · have := mm_kd_ge (r := r) (by omega)
    exact ⟨fun h => by omega, fun h => by omega, fun h => by omega⟩
theorem mm_ty_at (aC : Nat → ClassId) (j : Nat) (hj : j ≤ 5) : ∃ ty, (mm_ty aC)[j]? = some (aC j, ty) ∧ (2 ≤ j → ty.isReference = true) := by
  match j, hj with
  | 0, _ => exact ⟨_, rfl, fun h => by omega⟩
  | 1, _ => exact ⟨_, rfl, fun h => by omega⟩
  | 2, _ => exact ⟨_, rfl, fun h => rfl⟩
  | 3, _ => exact ⟨_, rfl, fun h => rfl⟩
  | 4, _ => exact ⟨_, rfl, fun h => rfl⟩
  | 5, _ => exact ⟨_, rfl, fun h => rfl⟩
  | j + 6, h => omega
theorem mm_in_vp {x : Int32} {n : Nat} (h : mm_in x n = true) : vp_in x n := by
  have h := of_decide_eq_true h
  rintro (q | q)
  · exact h.1 q
  · exact absurd h.2 (Nat.not_lt.mpr q)
section MMH
variable {p : Program} {l : Launch} {e : Env} {R : Room} {s : State} {mi : MethodId} {args : Array Value} {below : List Frame} {meth : Method} {c : Code} {H : Heap} {locs : List Loc} {cells slots : Nat} {Q : State → Prop}
variable {m pc nx op a b : Nat} {k : Int} {zs : List Nat} {st : List mm_V} {rest : List Value} {ls : Array Slot} {φ : Nat → Nat → Nat} {i : Instr} {n : Nat} {D : va_G} {aC : Nat → ClassId} {A : Nat → Prop} {h h' : mm_H} {H0 : Heap}
theorem mm_aald {tys : List (ClassId × FieldType)} {cl : List vw_C} {ws : va_W} {cc : ByteArray} {ad : Nat} (hexec : p.tables.exec = Jvm.exec) (hb : c.code = cc) (hK : va_K D cl tys s) (hP : va_P D cl ws H) (q0 t0 : Nat) {cA : ClassId} {ty : FieldType} {n : Nat} {f : Nat → Option Nat} (ha : ws[q0]? = some (ad, .inl (cA, n, .inr (.inr (.inr (.inr f)))))) (ht : tys[t0]? = some (cA, ty)) (hty : ty.isReference = true) {x : Int32} (hin : vp_in x n) (hdg : decode cc pc = .ok (.aaload, 1))
    (kk : W p l e R s mi args below meth c H locs cells slots Q (F0 mi (pc + 1) ls (va_rf (f x.toNatClampNeg) :: rest))) : W p l e R s mi args below meth c H locs cells slots Q (F0 mi pc ls (.int x :: .ref ad :: rest)) := by
  have hlt : x.toNatClampNeg < n := Nat.not_le.mp fun q => hin (Or.inr q)
  exact W.aald (v := va_rf (f x.toNatClampNeg)) (ty := ty) hexec hb (hP q0 _ ha) ((hK.2 t0 _ ht).1 n (fun j => va_rf (f j))) hty (fun q => by cases q) (by show ¬ (x < 0 ∨ (arrV _ _ _).slots.size ≤ _); rw [arrV_size]; exact hin) (by show (arrV _ _ _).slots[_]? = _; rw [arrV_read _ _ hlt]) rfl rfl hdg kk
theorem mm_putf {z i' : Nat} (hx : p.tables.exec = Jvm.exec) (hb : c.code = mm_bc m) (hown : s.vm.findClass (mm_cN (mm_ow m)) = some mi.cls) (hts : ∀ w ∈ mm_tb, w.before args s = true) (hK : mm_K D aC s) (hnm : (mm_y m).name = "<init>" → meth.name = "<init>") (hd : decode (mm_bc m) pc = .ok (.putfield z, 3)) (hcf : mm_cf.lookup (mm_ow m, z) = some a) (ha : a < 86)
    (hfin : (!(mm_T (mm_ax (mm_cr a)) (mm_cs a)).2.2.2 || (decide ((mm_y m).name = "<init>") && decide (mm_ow m = mm_ax (mm_cr a)))) = true) (hmem : (mm_cr a, i') ∈ h.1) {v : Value} (hn : narrow (mm_dt (mm_T (mm_ax (mm_cr a)) (mm_cs a)).2.2.1) v = v) (hfit : fits (mm_dt (mm_T (mm_ax (mm_cr a)) (mm_cs a)).2.2.1) v = true)
    (hP : va_P D mm_cls (mm_ws aC φ h) H) (hD : va_D A (mm_ws aC φ h)) (hS : va_S A H0 H locs) (hi : h'.1 = h.1)
    (hce : mm_ce aC φ h' (mm_cr a, i') = .inr (mm_co (mm_cr a) i', ((mm_fs (mm_cr a)).map (mm_fv φ h i')).set (mm_cs a) v) ∧ ∀ q', q' ≠ (mm_cr a, i') → mm_ce aC φ h' q' = mm_ce aC φ h q')
    (kk : ∀ H' locs', va_P D mm_cls (mm_ws aC φ h') H' → va_D A (mm_ws aC φ h') → va_S A H0 H' locs' → W p l e R s mi args below meth c H' locs' cells slots Q (F0 mi (pc + 3) ls rest)) : W p l e R s mi args below meth c H locs cells slots Q (F0 mi pc ls (v :: .ref (φ (mm_cr a) i') :: rest)) := by
  obtain ⟨g1, g2, g3, g4, g5, g6, g7, g8⟩ := mm_cx ha
  obtain ⟨kq, hk⟩ := List.getElem?_of_mem hmem
  have hat := mm_ws_at (aC := aC) (φ := φ) hk
  have hco : mm_co (mm_cr a) i' = mm_ax (mm_cr a) := by unfold mm_co; rw [if_neg g3]
  have hce0 : mm_ce aC φ h (mm_cr a, i') = .inr (mm_ax (mm_cr a), (mm_fs (mm_cr a)).map (mm_fv φ h i')) := by
    unfold mm_ce
    rw [if_pos g2, hco]
  rw [hce0] at hat
  have hset := mm_ws_set (h' := h') hk hD hi hce.2
  rw [hce.1, hco] at hset
  have hlt : mm_cs a < (mm_fs (mm_cr a)).length := (List.getElem?_eq_some_iff.mp g1).1
  have kk' : ∀ (H1 : Heap) (locs1 : List Loc), va_P D mm_cls ((mm_ws aC φ h).set kq (φ (mm_cr a) i', .inr (mm_ax (mm_cr a), ((mm_fs (mm_cr a)).map (mm_fv φ h i')).set (mm_cs a) v))) H1 → va_D A ((mm_ws aC φ h).set kq (φ (mm_cr a) i', .inr (mm_ax (mm_cr a), ((mm_fs (mm_cr a)).map (mm_fv φ h i')).set (mm_cs a) v))) → va_S A H0 H1 locs1 → W p l e R s mi args below meth c H1 locs1 cells slots Q (F0 mi (pc + 3) ls rest) := fun H1 locs1 a1 a2 a3 => kk H1 locs1 (by rw [← hset]; exact a1) (by rw [← hset]; exact a2) a3
  by_cases hf : (mm_T (mm_ax (mm_cr a)) (mm_cs a)).2.2.2 = true
  · rw [hf] at hfin
    simp only [Bool.not_true, Bool.false_or, Bool.and_eq_true, decide_eq_true_eq] at hfin
    exact va_putF (D := D) (ci := mm_ax (mm_cr a)) (v := v) (ty := mm_dt (mm_T (mm_ax (mm_cr a)) (mm_cs a)).2.2.1) (C := mm_cN (mm_ax (mm_cr a))) (T := mm_T (mm_ax (mm_cr a))) (N := mm_N (mm_ax (mm_cr a))) hx hb hts (mm_lays g5) (fun j => mm_dt (mm_T (mm_ax (mm_cr a)) j).2.2.1) (mm_fds g5) (mm_nms g5) hown hK.1 hP hD hS kq hat (mm_cls_at g5) (mm_cs a) (by rw [g6]; exact hlt) (hts _ (mm_cf_w hcf)) (fun _ h9 => h9) hf (hnm hfin.1) (by rw [g8, hfin.2]) (mm_fds g5 _ (by rw [g6]; exact hlt)) hn hfit (by rw [List.length_map]; exact hlt) hd kk'
  · exact va_put (D := D) (ci := mm_ax (mm_cr a)) (v := v) (ty := mm_dt (mm_T (mm_ax (mm_cr a)) (mm_cs a)).2.2.1) (C := mm_cN (mm_ax (mm_cr a))) (T := mm_T (mm_ax (mm_cr a))) (N := mm_N (mm_ax (mm_cr a))) hx hb hts (mm_lays g5) (fun j => mm_dt (mm_T (mm_ax (mm_cr a)) j).2.2.1) (mm_fds g5) (mm_nms g5) hown hK.1 hP hD hS kq hat (mm_cls_at g5) (mm_cs a) (by rw [g6]; exact hlt) (hts _ (mm_cf_w hcf)) (fun _ h9 => h9) (by simpa using hf) (mm_fds g5 _ (by rw [g6]; exact hlt)) hn hfit (by rw [List.length_map]; exact hlt) hd kk'
/-- getfield, putfield -/
theorem mm_w3a (hx : p.tables.exec = Jvm.exec) (hb : c.code = mm_bc m) (hown : s.vm.findClass (mm_cN (mm_ow m)) = some mi.cls) (hts : ∀ w ∈ mm_tb, w.before args s = true) (hK : mm_K D aC s) (hnm : (mm_y m).name = "<init>" → meth.name = "<init>") (hd : decode (mm_bc m) pc = .ok (i, n)) (hop : op ≤ 1) (hc0 : mm_c3 m op a b i n = true) {q : List mm_V × mm_H} (hs0 : mm_hp op a b st h = some q) (hst : ∀ v ∈ st, mm_okV h v)
    (hP : va_P D mm_cls (mm_ws aC φ h) H) (hD : va_D A (mm_ws aC φ h)) (hS : va_S A H0 H locs)
    (kk : ∀ H' locs', va_P D mm_cls (mm_ws aC φ q.2) H' → va_D A (mm_ws aC φ q.2) → va_S A H0 H' locs' → W p l e R s mi args below meth c H' locs' cells slots Q (F0 mi (pc + n) ls (q.1.map (mm_cv φ)))) : W p l e R s mi args below meth c H locs cells slots Q (F0 mi pc ls (st.map (mm_cv φ))) := by
  match op, hop, hc0, hs0 with
  | 0, _, hc, hs =>
    simp only [mm_c3] at hc
    simp only [mm_hp] at hs
    split at hc
    next z =>
      simp only [Bool.and_eq_true, beq_iff_eq, decide_eq_true_eq] at hc
      obtain ⟨⟨⟨rfl, hcf⟩, hby⟩, ha⟩ := hc
      split at hs
      next r i' t =>
        split at hs
        next hr =>
          subst hr
          obtain ⟨g1, g2, g3, g4, g5, g6, g7, g8⟩ := mm_cx ha
          have hmem : (mm_cr a, i') ∈ h.1 := hst _ List.mem_cons_self _ rfl
          obtain ⟨kq, hk⟩ := List.getElem?_of_mem hmem
          have hat := mm_ws_at (aC := aC) (φ := φ) hk
          have hce0 : mm_ce aC φ h (mm_cr a, i') = .inr (mm_ax (mm_cr a), (mm_fs (mm_cr a)).map (mm_fv φ h i')) := by
            unfold mm_ce mm_co
            rw [if_pos g2, if_neg g3]
          rw [hce0] at hat
          have hlt : mm_cs a < (mm_fs (mm_cr a)).length := (List.getElem?_eq_some_iff.mp g1).1
          refine va_get (D := D) (ci := mm_ax (mm_cr a)) (v := mm_fv φ h i' (a, mm_cy a)) (C := mm_cN (mm_ax (mm_cr a))) (T := mm_T (mm_ax (mm_cr a))) (N := mm_N (mm_ax (mm_cr a))) hx hb hts (mm_lays g5) hown hK.1 hP kq hat (mm_cls_at g5) (mm_cs a) (by rw [g6]; exact hlt) (hts _ (mm_cf_w hcf)) (fun _ h9 => h9) (by rw [List.getElem?_map, g1]; rfl) hd ?_
          rw [← hby]
          split at hs
          next => cases hs; exact kk H locs hP hD hS
          next => cases hs; exact kk H locs hP hD hS
          next =>
            split at hs
            next => cases hs
            next hne =>
              cases hs
              have := kk H locs hP hD hS
              simp only [mm_fv, mm_or_ne hne]
              exact this
          next => cases hs; exact kk H locs hP hD hS
          next => cases hs
        next => cases hs
      next => cases hs
    next => cases hc
  | 1, _, hc, hs =>
    simp only [mm_c3] at hc
    simp only [mm_hp] at hs
    split at hc
    next z =>
      simp only [Bool.and_eq_true, beq_iff_eq, decide_eq_true_eq] at hc
      obtain ⟨⟨⟨⟨rfl, hcf⟩, hby⟩, ha⟩, hfin⟩ := hc
      obtain ⟨g1, g2, g3, g4, g5, g6, g7, g8⟩ := mm_cx ha
      rw [← hby] at g7
      split at hs
      next x r i' t =>
        split at hs
        next hr =>
          subst hr
          cases hs
          have hty : mm_dt (mm_T (mm_ax (mm_cr a)) (mm_cs a)).2.2.1 = .int := of_decide_eq_true g7
          have hmem : (mm_cr a, i') ∈ h.1 := hst _ (List.mem_cons_of_mem _ List.mem_cons_self) _ rfl
          refine mm_putf (h' := (h.1, mm_uI h.2.1 a i' 0 x, h.2.2.1, h.2.2.2)) hx hb hown hts hK hnm hd hcf ha hfin hmem (by rw [hty]; rfl) (by rw [hty]; rfl) hP hD hS rfl (mm_ce_put ha ?_ (fun _ _ _ => rfl) (fun _ _ _ => rfl) ?_) kk
          · intro c' i2 hne
            funext j
            simp only [mm_uI]
            rw [if_neg (fun z => by rcases hne with q | q; exact q z.1; exact q z.2.1)]
          · rw [← hby]
            simp [mm_fv, mm_uI, mm_cv]
        next => cases hs
      next x r i' t =>
        split at hs
        next hr =>
          subst hr
          cases hs
          have hty : mm_dt (mm_T (mm_ax (mm_cr a)) (mm_cs a)).2.2.1 = .long := of_decide_eq_true g7
          have hmem : (mm_cr a, i') ∈ h.1 := hst _ (List.mem_cons_of_mem _ List.mem_cons_self) _ rfl
          refine mm_putf (h' := (h.1, h.2.1, mm_uL h.2.2.1 a i' x, h.2.2.2)) hx hb hown hts hK hnm hd hcf ha hfin hmem (by rw [hty]; rfl) (by rw [hty]; rfl) hP hD hS rfl (mm_ce_put ha (fun _ _ _ => rfl) ?_ (fun _ _ _ => rfl) ?_) kk
          · intro c' i2 hne
            simp only [mm_uL]
            rw [if_neg (fun z => by rcases hne with q | q; exact q z.1; exact q z.2)]
          · rw [← hby]
            simp [mm_fv, mm_uL, mm_cv]
        next => cases hs
      next q r i' t =>
        split at hs
        next hr =>
          obtain ⟨hr, hq0⟩ := hr
          subst hr
          cases hs
          have hty : mm_isr (mm_dt (mm_T (mm_ax (mm_cr a)) (mm_cs a)).2.2.1) = true := g7
          have hmem : (mm_cr a, i') ∈ h.1 := hst _ (List.mem_cons_of_mem _ List.mem_cons_self) _ rfl
          refine mm_putf (h' := (h.1, h.2.1, h.2.2.1, mm_uR h.2.2.2 a i' 0 q)) hx hb hown hts hK hnm hd hcf ha hfin hmem ?_ ?_ hP hD hS rfl (mm_ce_put ha (fun _ _ _ => rfl) (fun _ _ _ => rfl) ?_ ?_) kk
          · revert hty
            generalize mm_dt (mm_T (mm_ax (mm_cr a)) (mm_cs a)).2.2.1 = ty
            intro hty
            cases ty <;> first | rfl | (cases hty; done)
          · revert hty
            generalize mm_dt (mm_T (mm_ax (mm_cr a)) (mm_cs a)).2.2.1 = ty
            intro hty
            cases ty <;> first | rfl | (cases hty; done)
          · intro c' i2 hne
            funext j
            simp only [mm_uR]
            rw [if_neg (fun z => by rcases hne with q | q; exact q z.1; exact q z.2.1)]
          · rw [← hby]
            simp [mm_fv, mm_uR, mm_cv, mm_or, hq0, va_rf]
        next => cases hs
      next x r i' t =>
        split at hs
        next hr =>
          obtain ⟨hr, hx01⟩ := hr
          subst hr
          cases hs
          have hty : mm_dt (mm_T (mm_ax (mm_cr a)) (mm_cs a)).2.2.1 = .boolean := of_decide_eq_true g7
          have hmem : (mm_cr a, i') ∈ h.1 := hst _ (List.mem_cons_of_mem _ List.mem_cons_self) _ rfl
          refine mm_putf (h' := (h.1, mm_uI h.2.1 a i' 0 x, h.2.2.1, h.2.2.2)) hx hb hown hts hK hnm hd hcf ha hfin hmem (by rw [hty]; rcases hx01 with rfl | rfl <;> rfl) (by rw [hty]; rcases hx01 with rfl | rfl <;> rfl) hP hD hS rfl (mm_ce_put ha ?_ (fun _ _ _ => rfl) (fun _ _ _ => rfl) ?_) kk
          · intro c' i2 hne
            funext j
            simp only [mm_uI]
            rw [if_neg (fun z => by rcases hne with q | q; exact q z.1; exact q z.2.1)]
          · rw [← hby]
            simp [mm_fv, mm_uI, mm_cv]
        next => cases hs
      next => cases hs
    next => cases hc
  | op + 2, hop, hc, hs => omega
end MMH
end
section
/-! arrays, instanceof, the library's own members -/
section MMA
variable {p : Program} {l : Launch} {e : Env} {R : Room} {s : State} {mi : MethodId} {args : Array Value} {below : List Frame} {meth : Method} {c : Code} {H : Heap} {locs : List Loc} {cells slots : Nat} {Q : State → Prop}
variable {m pc nx op a b : Nat} {k : Int} {zs : List Nat} {st : List mm_V} {rest : List Value} {ls : Array Slot} {φ : Nat → Nat → Nat} {i : Instr} {n : Nat} {D : va_G} {aC : Nat → ClassId} {A : Nat → Prop} {h h' : mm_H} {H0 : Heap}
theorem mm_ce_i {r i' : Nat} (hk : mm_kd r = 1 ∨ mm_kd r = 2) : mm_ce aC φ h (r, i') = .inl (aC (mm_ax r), mm_ln r, .inl (fun j => h.2.1 (100 + r) i' j)) := by
  have h0 : ¬ mm_kd r = 0 := by omega
  have h3 : ¬ mm_kd r = 3 := by omega
  unfold mm_ce
  rw [if_neg h0, if_neg h3]
theorem mm_ce_r {r i' : Nat} (hk : mm_kd r = 3) : mm_ce aC φ h (r, i') = .inl (aC (mm_ax r), mm_ln r, .inr (.inr (.inr (.inr (fun j => if j < mm_ln r then mm_or φ (h.2.2.2 (100 + r) i' j) else none))))) := by
  have h0 : ¬ mm_kd r = 0 := by omega
  unfold mm_ce
  rw [if_neg h0, if_pos hk]
/-- an int's store into an array of ints or bytes -/
theorem mm_ce_ui {r i' j : Nat} {y : Int32} (hk : mm_kd r = 1 ∨ mm_kd r = 2) (hi : h' = (h.1, mm_uI h.2.1 (100 + r) i' j y, h.2.2.1, h.2.2.2)) :
    mm_ce aC φ h' (r, i') = .inl (aC (mm_ax r), mm_ln r, .inl (upd (fun j => h.2.1 (100 + r) i' j) j y)) ∧ ∀ q', q' ≠ (r, i') → mm_ce aC φ h' q' = mm_ce aC φ h q' := by
  subst hi
  refine ⟨?_, mm_ce_arr ?_ rfl (fun _ _ _ => rfl)⟩
  · rw [mm_ce_i hk]
    refine congrArg (fun f => Sum.inl (aC (mm_ax r), mm_ln r, Sum.inl f)) (funext fun z => ?_)
    by_cases e : z = j
    · simp [mm_uI, upd, e]
    · simp [mm_uI, upd, e]
  · intro c' i2 hne
    funext z
    simp only [mm_uI]
    rw [if_neg (fun w => by rcases hne with q | q; exact q w.1; exact q w.2.1)]
theorem mm_ce_ur {r i' j : Nat} {q : Nat × Nat} (hj : j < mm_ln r) (hq : q.1 ≠ 0) (hk : mm_kd r = 3) (hi : h' = (h.1, h.2.1, h.2.2.1, mm_uR h.2.2.2 (100 + r) i' j q)) :
    mm_ce aC φ h' (r, i') = .inl (aC (mm_ax r), mm_ln r, .inr (.inr (.inr (.inr (va_up (fun j => if j < mm_ln r then mm_or φ (h.2.2.2 (100 + r) i' j) else none) j (some (φ q.1 q.2))))))) ∧ ∀ q', q' ≠ (r, i') → mm_ce aC φ h' q' = mm_ce aC φ h q' := by
  subst hi
  refine ⟨?_, mm_ce_arr (fun _ _ _ => rfl) rfl ?_⟩
  · rw [mm_ce_r hk]
    refine congrArg (fun f => Sum.inl (aC (mm_ax r), mm_ln r, Sum.inr (Sum.inr (Sum.inr (Sum.inr f))))) (funext fun z => ?_)
    by_cases e : z = j
    · simp [mm_uR, va_up, e, mm_or, hq, hj]
    · simp [mm_uR, va_up, e]
  · intro c' i2 hne
    funext z
    simp only [mm_uR]
    rw [if_neg (fun w => by rcases hne with q | q; exact q w.1; exact q w.2.1)]
/-- the copy of a part of an array -/
theorem mm_ce_cp {r0 i0 r1 i1 sp dp nn : Nat} (hk : mm_kd r1 = 1) (hi : h' = (h.1, mm_cp h.2.1 (100 + r0) i0 (100 + r1) i1 sp dp nn, h.2.2.1, h.2.2.2)) :
    mm_ce aC φ h' (r1, i1) = .inl (aC (mm_ax r1), mm_ln r1, .inl (va_cpy (fun j => h.2.1 (100 + r0) i0 j) (fun j => h.2.1 (100 + r1) i1 j) sp dp nn)) ∧ ∀ q', q' ≠ (r1, i1) → mm_ce aC φ h' q' = mm_ce aC φ h q' := by
  subst hi
  refine ⟨?_, mm_ce_arr ?_ rfl (fun _ _ _ => rfl)⟩
  · rw [mm_ce_i (Or.inl hk)]
    refine congrArg (fun f => Sum.inl (aC (mm_ax r1), mm_ln r1, Sum.inl f)) (funext fun z => ?_)
    by_cases e : dp ≤ z ∧ z < dp + nn
    · simp [mm_cp, va_cpy, e]
    · simp only [mm_cp, va_cpy]
      rw [if_neg (fun w => e w.2.2), if_neg e]
  · intro c' i2 hne
    funext z
    simp only [mm_cp]
    rw [if_neg (fun w => by rcases hne with q | q; exact q w.1; exact q w.2.1)]
/-- array loads and stores, lengths -/
theorem mm_w3b (hx : p.tables.exec = Jvm.exec) (hb : c.code = mm_bc m) (hK : mm_K D aC s) (hd : decode (mm_bc m) pc = .ok (i, n)) (hop : 2 ≤ op ∧ op ≤ 4) (hc0 : mm_c3 m op a b i n = true) {q : List mm_V × mm_H} (hs0 : mm_hp op a b st h = some q) (hst : ∀ v ∈ st, mm_okV h v) (h4 : ∀ z ∈ h.1, z.1 = 3 → z.2 < 4)
    (hP : va_P D mm_cls (mm_ws aC φ h) H) (hD : va_D A (mm_ws aC φ h)) (hS : va_S A H0 H locs)
    (kk : ∀ H' locs', va_P D mm_cls (mm_ws aC φ q.2) H' → va_D A (mm_ws aC φ q.2) → va_S A H0 H' locs' → W p l e R s mi args below meth c H' locs' cells slots Q (F0 mi (pc + n) ls (q.1.map (mm_cv φ)))) : W p l e R s mi args below meth c H locs cells slots Q (F0 mi pc ls (st.map (mm_cv φ))) := by
  match op, hop, hc0, hs0 with
  | 0, hop, hc, hs => omega
  | 1, hop, hc, hs => omega
  | 2, _, hc, hs =>
    simp only [mm_c3] at hc
    simp only [mm_hp] at hs
    simp only [Bool.and_eq_true, beq_iff_eq] at hc
    obtain ⟨rfl, hc⟩ := hc
    split at hs
    next x r i' t =>
      split at hs
      next hr =>
        obtain ⟨hk, hin⟩ := hr
        have hin := mm_in_vp hin
        have hmem : (r, i') ∈ h.1 := hst _ (List.mem_cons_of_mem _ List.mem_cons_self) _ rfl
        obtain ⟨kq, hkq⟩ := List.getElem?_of_mem hmem
        have hat := mm_ws_at (aC := aC) (φ := φ) hkq
        obtain ⟨x1, x2, x3⟩ := mm_kx r
        match b, hc, hs, hk with
        | 0, hc, hs, hk =>
          cases hs
          cases of_decide_eq_true hc
          have hk : mm_kd r = 1 := hk
          rw [mm_ce_i (Or.inl hk), x1 hk] at hat
          exact va_iald hx hb hK.1 hP kq 0 hat rfl hin hd (kk H locs hP hD hS)
        | 1, hc, hs, hk =>
          cases hs
          cases of_decide_eq_true hc
          have hk : mm_kd r = 2 := hk
          rw [mm_ce_i (Or.inr hk), x2 hk] at hat
          exact va_bald hx hb hK.1 hP kq 1 hat rfl hin hd (kk H locs hP hD hS)
        | 2, hc, hs, hk =>
          simp only [mm_hp] at hs
          cases of_decide_eq_true hc
          have hk : mm_kd r = 3 := hk
          split at hs
          next => cases hs
          next hne =>
            cases hs
            rw [mm_ce_r hk] at hat
            obtain ⟨ty, t1, t2⟩ := mm_ty_at aC (mm_ax r) (x3 hk).2
            refine mm_aald hx hb hK.1 hP kq (mm_ax r) hat t1 (t2 (x3 hk).1) hin hd ?_
            have := kk H locs hP hD hS
            simp only [if_pos (Nat.not_le.mp fun q => hin (Or.inr q)), mm_or_ne hne]
            exact this
        | b + 3, hc, hs, hk => cases hc
      next => cases hs
    next => cases hs
  | 3, _, hc, hs =>
    simp only [mm_c3] at hc
    simp only [mm_hp] at hs
    simp only [Bool.and_eq_true, beq_iff_eq] at hc
    obtain ⟨rfl, hc⟩ := hc
    split at hs
    next y x r i' t =>
      split at hs
      next hr =>
        cases hs
        obtain ⟨hk, hin⟩ := hr
        have hin := mm_in_vp hin
        cases of_decide_eq_true hc
        have hmem : (r, i') ∈ h.1 := hst _ (List.mem_cons_of_mem _ (List.mem_cons_of_mem _ List.mem_cons_self)) _ rfl
        obtain ⟨kq, hkq⟩ := List.getElem?_of_mem hmem
        have hat := mm_ws_at (aC := aC) (φ := φ) hkq
        obtain ⟨x1, x2, x3⟩ := mm_kx r
        have hce := mm_ce_ui (aC := aC) (φ := φ) (h := h) (i' := i') (j := x.toNatClampNeg) (y := y) (Or.inl hk) rfl
        have hset := mm_ws_set (h' := (h.1, mm_uI h.2.1 (100 + r) i' x.toNatClampNeg y, h.2.2.1, h.2.2.2)) hkq hD rfl hce.2
        rw [hce.1] at hset
        rw [mm_ce_i (Or.inl hk)] at hat
        rw [x1 hk] at hat hset
        exact va_iast hx hb hK.1 hP hD hS kq 0 hat rfl hin hd (fun H1 locs1 a1 a2 a3 => kk H1 locs1 (by rw [← hset]; exact a1) (by rw [← hset]; exact a2) a3)
      next => cases hs
    next y x r i' t =>
      split at hs
      next hr =>
        cases hs
        obtain ⟨hk, hin⟩ := hr
        have hin := mm_in_vp hin
        cases of_decide_eq_true hc
        have hmem : (r, i') ∈ h.1 := hst _ (List.mem_cons_of_mem _ (List.mem_cons_of_mem _ List.mem_cons_self)) _ rfl
        obtain ⟨kq, hkq⟩ := List.getElem?_of_mem hmem
        have hat := mm_ws_at (aC := aC) (φ := φ) hkq
        obtain ⟨x1, x2, x3⟩ := mm_kx r
        have hce := mm_ce_ui (aC := aC) (φ := φ) (h := h) (i' := i') (j := x.toNatClampNeg) (y := y.toInt8.toInt32) (Or.inr hk) rfl
        have hset := mm_ws_set (h' := (h.1, mm_uI h.2.1 (100 + r) i' x.toNatClampNeg y.toInt8.toInt32, h.2.2.1, h.2.2.2)) hkq hD rfl hce.2
        rw [hce.1] at hset
        rw [mm_ce_i (Or.inr hk)] at hat
        rw [x2 hk] at hat hset
        exact va_bast hx hb hK.1 hP hD hS kq 1 hat rfl hin hd (fun H1 locs1 a1 a2 a3 => kk H1 locs1 (by rw [← hset, ← vp_nar_byte]; exact a1) (by rw [← hset, ← vp_nar_byte]; exact a2) a3)
      next => cases hs
    next qv x r i' t =>
      split at hs
      next hr =>
        cases hs
        obtain ⟨hk, hin, hq0, has⟩ := hr
        have hin := mm_in_vp hin
        cases of_decide_eq_true hc
        have hmem : (r, i') ∈ h.1 := hst _ (List.mem_cons_of_mem _ (List.mem_cons_of_mem _ List.mem_cons_self)) _ rfl
        have hmq : qv ∈ h.1 := hst _ List.mem_cons_self _ rfl
        obtain ⟨kq, hkq⟩ := List.getElem?_of_mem hmem
        obtain ⟨kv, hkv⟩ := List.getElem?_of_mem hmq
        have hat := mm_ws_at (aC := aC) (φ := φ) hkq
        have hav := mm_ws_at (aC := aC) (φ := φ) hkv
        have hce := mm_ce_ur (aC := aC) (φ := φ) (h := h) (i' := i') (j := x.toNatClampNeg) (Nat.not_le.mp fun q => hin (Or.inr q)) hq0 hk rfl
        have hset := mm_ws_set (h' := (h.1, h.2.1, h.2.2.1, mm_uR h.2.2.2 (100 + r) i' x.toNatClampNeg qv)) hkq hD rfl hce.2
        rw [hce.1] at hset
        rw [mm_ce_r hk] at hat
        have kk' := fun H1 locs1 a1 a2 a3 => kk H1 locs1 (by rw [← hset]; exact a1) (by rw [← hset]; exact a2) a3
        obtain ⟨qr, qi⟩ := qv
        simp only [mm_as, Bool.or_eq_true, Bool.and_eq_true, beq_iff_eq] at has
        rcases has with (⟨e1, rfl⟩ | ⟨e1, rfl⟩) | ⟨e1, rfl⟩
        · rw [e1] at hat kk'
          have hqi : qi < 4 := h4 _ hmq rfl
          have hv0 : mm_ce aC φ h (3, qi) = .inr (2 + qi, []) := by
            have k3 : mm_kd 3 = 0 := by decide +kernel
            unfold mm_ce mm_co
            rw [if_pos k3, if_pos rfl]
            rfl
          rw [hv0] at hav
          match qi, hqi, hav, kk' with
          | 0, _, hav, kk' => exact va_astq hx hb hK.1 hP hD hS kq 2 kv 2 hat rfl hav (mm_cls_at (c := 2) (by omega)) hin hd kk'
          | 1, _, hav, kk' => exact va_astqO hx hb hK.1 hP hD hS kq 2 kv 3 hat rfl (hK.2.2.2.1 ("SongToBridge$Deaf", "SongToBridge$Keeper") (by decide)) hav (mm_cls_at (c := 3) (by omega)) hin hd kk'
          | 2, _, hav, kk' => exact va_astqO hx hb hK.1 hP hD hS kq 2 kv 4 hat rfl (hK.2.2.2.1 ("SongToBridge$Echo", "SongToBridge$Keeper") (by decide)) hav (mm_cls_at (c := 4) (by omega)) hin hd kk'
          | 3, _, hav, kk' => exact va_astqO hx hb hK.1 hP hD hS kq 2 kv 5 hat rfl (hK.2.2.2.1 ("SongToBridge$Worn", "SongToBridge$Keeper") (by decide)) hav (mm_cls_at (c := 5) (by omega)) hin hd kk'
          | qi + 4, hq, _, _ => omega
        · rw [e1] at hat kk'
          have hv0 : mm_ce aC φ h (5, qi) = .inr (7, (mm_fs 5).map (mm_fv φ h qi)) := by
            have k3 : mm_kd 5 = 0 := by decide +kernel
            have k4 : ¬ (5 : Nat) = 3 := by decide
            unfold mm_ce mm_co
            rw [if_pos k3, if_neg k4]
            rfl
          rw [hv0] at hav
          exact va_astq hx hb hK.1 hP hD hS kq 3 kv 7 hat rfl hav (mm_cls_at (c := 7) (by omega)) hin hd kk'
        · rw [e1] at hat kk'
          have hv0 : mm_ce aC φ h (6, qi) = .inr (8, (mm_fs 6).map (mm_fv φ h qi)) := by
            have k3 : mm_kd 6 = 0 := by decide +kernel
            have k4 : ¬ (6 : Nat) = 3 := by decide
            unfold mm_ce mm_co
            rw [if_pos k3, if_neg k4]
            rfl
          rw [hv0] at hav
          exact va_astq hx hb hK.1 hP hD hS kq 4 kv 8 hat rfl hav (mm_cls_at (c := 8) (by omega)) hin hd kk'
      next => cases hs
    next => cases hs
  | 4, _, hc, hs =>
    simp only [mm_c3] at hc
    simp only [mm_hp] at hs
    simp only [Bool.and_eq_true, beq_iff_eq] at hc
    obtain ⟨rfl, hc⟩ := hc
    cases of_decide_eq_true hc
    split at hs
    next r i' t =>
      split at hs
      next hr =>
        cases hs
        have hmem : (r, i') ∈ h.1 := hst _ List.mem_cons_self _ rfl
        obtain ⟨kq, hkq⟩ := List.getElem?_of_mem hmem
        have hat := mm_ws_at (aC := aC) (φ := φ) hkq
        obtain ⟨x1, x2, x3⟩ := mm_kx r
        by_cases h3 : mm_kd r = 3
        · rw [mm_ce_r h3] at hat
          obtain ⟨ty, t1, -⟩ := mm_ty_at aC (mm_ax r) (x3 h3).2
          exact va_alen hx hb hK.1 hP kq (mm_ax r) hat t1 rfl hd (kk H locs hP hD hS)
        · have h12 : mm_kd r = 1 ∨ mm_kd r = 2 := by omega
          rw [mm_ce_i h12] at hat
          obtain ⟨ty, t1, -⟩ := mm_ty_at aC (mm_ax r) (by rcases h12 with z | z; rw [x1 z]; omega; rw [x2 z]; omega)
          exact va_alen hx hb hK.1 hP kq (mm_ax r) hat t1 rfl hd (kk H locs hP hD hS)
      next => cases hs
    next => cases hs
  | op + 5, hop, hc, hs => omega
/-- arraycopy, instanceof, Object's constructor, Math.min -/
theorem mm_w3c (hx : p.tables.exec = Jvm.exec) (hb : c.code = mm_bc m) (hown : s.vm.findClass (mm_cN (mm_ow m)) = some mi.cls) (hts : ∀ w ∈ mm_tb, w.before args s = true) (hK : mm_K D aC s) (hRf : R.frames = mm_rf m) (hRl : R.locals = mm_rl m) (hcs : cells ≤ R.cells ∧ slots ≤ R.slots) (hls : c.maxLocals = ls.size) (hd : decode (mm_bc m) pc = .ok (i, n)) (hop : 5 ≤ op) (hc0 : mm_c3 m op a b i n = true) {q : List mm_V × mm_H} (hs0 : mm_hp op a b st h = some q) (hst : ∀ v ∈ st, mm_okV h v) (h4 : ∀ z ∈ h.1, z.1 = 3 → z.2 < 4)
    (hP : va_P D mm_cls (mm_ws aC φ h) H) (hD : va_D A (mm_ws aC φ h)) (hS : va_S A H0 H locs)
    (kk : ∀ H' locs', va_P D mm_cls (mm_ws aC φ q.2) H' → va_D A (mm_ws aC φ q.2) → va_S A H0 H' locs' → W p l e R s mi args below meth c H' locs' cells slots Q (F0 mi (pc + n) ls (q.1.map (mm_cv φ)))) : W p l e R s mi args below meth c H locs cells slots Q (F0 mi pc ls (st.map (mm_cv φ))) := by
  match op, hop, hc0, hs0 with
  | 0, hop, hc, hs => omega
  | 1, hop, hc, hs => omega
  | 2, hop, hc, hs => omega
  | 3, hop, hc, hs => omega
  | 4, hop, hc, hs => omega
  | 5, _, hc, hs =>
    simp only [mm_c3] at hc
    simp only [mm_hp] at hs
    split at hc
    next z =>
      simp only [Bool.and_eq_true, beq_iff_eq, decide_eq_true_eq] at hc
      obtain ⟨⟨⟨rfl, hcm⟩, hf⟩, hl⟩ := hc
      split at hs
      next nn dp r1 i1 sp r0 i0 =>
        split at hs
        next hr =>
          cases hs
          obtain ⟨k0, k1, h1, h2, h3, h5, h6⟩ := hr
          have hm0 : (r0, i0) ∈ h.1 := hst (.inr (.inr (r0, i0))) (by simp) _ rfl
          have hm1 : (r1, i1) ∈ h.1 := hst (.inr (.inr (r1, i1))) (by simp) _ rfl
          obtain ⟨q0, hq0⟩ := List.getElem?_of_mem hm0
          obtain ⟨q1, hq1⟩ := List.getElem?_of_mem hm1
          have ha0 := mm_ws_at (aC := aC) (φ := φ) hq0
          have ha1 := mm_ws_at (aC := aC) (φ := φ) hq1
          have hce := mm_ce_cp (aC := aC) (φ := φ) (h := h) (r0 := r0) (i0 := i0) (i1 := i1) (sp := sp.toNatClampNeg) (dp := dp.toNatClampNeg) (nn := nn.toNatClampNeg) k1 rfl
          have hset := mm_ws_set (h' := (h.1, mm_cp h.2.1 (100 + r0) i0 (100 + r1) i1 sp.toNatClampNeg dp.toNatClampNeg nn.toNatClampNeg, h.2.2.1, h.2.2.2)) hq1 hD rfl hce.2
          rw [hce.1, (mm_kx r1).1 k1] at hset
          rw [mm_ce_i (Or.inl k0), (mm_kx r0).1 k0] at ha0
          rw [mm_ce_i (Or.inl k1), (mm_kx r1).1 k1] at ha1
          have hac := mm_ac_ok
          simp only [Bool.and_eq_true] at hac
          have hlk : Jvm.Cond.methodLink (mm_cN (mm_ow m)) z arraycopyName ∈ mm_tb := List.mem_filter.mpr ⟨mm_cm_w hcm _ List.mem_cons_self, rfl⟩
          exact va_copyi hx hb hls hown (hts _ hlk) (hts _ (mm_tb_of hac.1.1 rfl)) (hts _ (mm_tb_of hac.1.2 rfl)) (hts _ (mm_tb_of hac.2 rfl)) hK.1 hP hD hS q0 q1 0 0 ha0 ha1 rfl rfl rfl h1 h2 h3 h5 h6 (fun _ _ => rfl) (by omega) (by rw [hRl]; refine Nat.le_trans ?_ hl; show 0 + (nativeFrameWords "java/lang/System" "arraycopy" 5 + 11) ≤ 40; decide) hd (fun H1 locs1 a1 a2 a3 => kk H1 locs1 (by rw [← hset]; exact a1) (by rw [← hset]; exact a2) a3)
        next => cases hs
      next => cases hs
    next => cases hc
  | 6, _, hc, hs =>
    simp only [mm_c3] at hc
    simp only [mm_hp] at hs
    split at hc
    next z =>
      simp only [Bool.and_eq_true, beq_iff_eq, decide_eq_true_eq] at hc
      obtain ⟨⟨rfl, hcl⟩, ha3, ha5⟩ := hc
      split at hs
      next r i' t =>
        split at hs
        next hr =>
          subst hr
          cases hs
          have hmem : (3, i') ∈ h.1 := hst _ List.mem_cons_self _ rfl
          have hi4 : i' < 4 := h4 _ hmem rfl
          obtain ⟨kq, hkq⟩ := List.getElem?_of_mem hmem
          have hat := mm_ws_at (aC := aC) (φ := φ) hkq
          have hv0 : mm_ce aC φ h (3, i') = .inr (2 + i', []) := by
            have k3 : mm_kd 3 = 0 := by decide +kernel
            unfold mm_ce mm_co
            rw [if_pos k3, if_pos rfl]
            rfl
          rw [hv0] at hat
          have hcell := va_recv hK.1 hP (mm_cls_at (c := 2 + i') (by omega)) hat
          have hlk := hts _ (mm_tb_of hcl rfl)
          have kk := kk H locs hP hD hS
          have ha : a = 3 ∨ a = 4 ∨ a = 5 := by omega
          match i', hi4, hcell, kk with
          | 0, _, hcell, kk =>
            rcases ha with rfl | rfl | rfl
            · exact va_instNo hx hb hown hlk (hK.2.1 ("SongToBridge$Keeper", "SongToBridge$Deaf") (by decide)) hcell hd kk
            · exact va_instNo hx hb hown hlk (hK.2.1 ("SongToBridge$Keeper", "SongToBridge$Echo") (by decide)) hcell hd kk
            · exact va_instNo hx hb hown hlk (hK.2.1 ("SongToBridge$Keeper", "SongToBridge$Worn") (by decide)) hcell hd kk
          | 1, _, hcell, kk =>
            rcases ha with rfl | rfl | rfl
            · exact va_instS hx hb hown hlk (hK.1.1 3 _ (mm_cls_at (by omega))).2 hcell hd kk
            · exact va_instNo hx hb hown hlk (hK.2.1 ("SongToBridge$Deaf", "SongToBridge$Echo") (by decide)) hcell hd kk
            · exact va_instNo hx hb hown hlk (hK.2.1 ("SongToBridge$Deaf", "SongToBridge$Worn") (by decide)) hcell hd kk
          | 2, _, hcell, kk =>
            rcases ha with rfl | rfl | rfl
            · exact va_instNo hx hb hown hlk (hK.2.1 ("SongToBridge$Echo", "SongToBridge$Deaf") (by decide)) hcell hd kk
            · exact va_instS hx hb hown hlk (hK.1.1 4 _ (mm_cls_at (by omega))).2 hcell hd kk
            · exact va_instNo hx hb hown hlk (hK.2.1 ("SongToBridge$Echo", "SongToBridge$Worn") (by decide)) hcell hd kk
          | 3, _, hcell, kk =>
            rcases ha with rfl | rfl | rfl
            · exact va_instY hx hb hown hlk (hK.2.2.2.1 ("SongToBridge$Worn", "SongToBridge$Deaf") (by decide)) hcell hd kk
            · exact va_instNo hx hb hown hlk (hK.2.1 ("SongToBridge$Worn", "SongToBridge$Echo") (by decide)) hcell hd kk
            · exact va_instS hx hb hown hlk (hK.1.1 5 _ (mm_cls_at (by omega))).2 hcell hd kk
          | i' + 4, hq, _, _ => omega
        next => cases hs
      next => cases hs
    next => cases hc
  | 7, _, hc, hs =>
    simp only [mm_c3] at hc
    simp only [mm_hp] at hs
    split at hc
    next z =>
      simp only [Bool.and_eq_true, beq_iff_eq, decide_eq_true_eq] at hc
      obtain ⟨⟨⟨rfl, hcm⟩, hf⟩, hl⟩ := hc
      split at hs
      next r i' =>
        cases hs
        have hoi := mm_oi_ok
        simp only [Bool.and_eq_true] at hoi
        have hlk : Jvm.Cond.methodLink (mm_cN (mm_ow m)) z objectInit ∈ mm_tb := List.mem_filter.mpr ⟨mm_cm_w hcm _ List.mem_cons_self, rfl⟩
        exact W.objInit hx hb hown (hts _ hlk) (hts _ (mm_tb_of hoi.1 rfl)) (hts _ (mm_tb_of hoi.2 rfl)) rfl hls.symm rfl hd (by omega) (by rw [hRl]; refine Nat.le_trans ?_ hl; show 2 * 0 + 0 + 12 ≤ 20; decide) (kk H locs hP hD hS)
      next => cases hs
    next => cases hc
  | 8, _, hc, hs =>
    simp only [mm_c3] at hc
    simp only [mm_hp] at hs
    split at hc
    next z =>
      simp only [Bool.and_eq_true, beq_iff_eq, decide_eq_true_eq] at hc
      obtain ⟨⟨⟨rfl, hcm⟩, hf⟩, hl⟩ := hc
      split at hs
      next y x t =>
        split at hs
        next ht =>
          cases hs
          have hmn := mm_mn_ok
          simp only [Bool.and_eq_true] at hmn
          have hlk : Jvm.Cond.methodLink (mm_cN (mm_ow m)) z Lib.Math.min.name ∈ mm_tb := List.mem_filter.mpr ⟨mm_cm_w hcm _ List.mem_cons_self, rfl⟩
          have hsum : ((t.map (mm_cv φ)).map (fun v => v.category)).sum = (t.map mm_cat).sum := by
            rw [List.map_map]
            exact congrArg List.sum (List.map_congr_left fun v _ => mm_cv_cat φ v)
          exact va_mmin hx hb hls hown (hts _ hlk) (hts _ (mm_tb_of hmn.1.1 rfl)) (hts _ (mm_tb_of hmn.1.2 rfl)) (hts _ (mm_tb_of hmn.2 rfl)) (by omega) (by rw [hsum, hRl]; omega) hcs.1 hcs.2 hd (kk H locs hP hD hS)
        next => cases hs
      next => cases hs
    next => cases hc
  | op + 9, _, hc, hs => simp [mm_c3] at hc
end MMA
end
section
/-! new cells -/
def va_AOA (ty : FieldType) (U : State) : Prop := (Jvm.Cond.arrayOver (.array ty)).before #[] U = true
theorem va_AOA.use {ty : FieldType} {A : Array Value} {U : State} (h : va_AOA ty U) : (Jvm.Cond.arrayOver (.array ty)).before A U = true := h
/-! ===== BEGIN new T[n][m]: the outer array a place, the inner ones among the pooled ===== -/
/-- f, but v at every address of l -/
def vr_up {α : Type} (f : Nat → α) (l : List Nat) (v : α) : Nat → α := fun a => if a ∈ l then v else f a
theorem vr_up_in {α : Type} {f : Nat → α} {l : List Nat} {v : α} {a : Nat} (h : a ∈ l) : vr_up f l v a = v := if_pos h
theorem vr_up_ne {α : Type} {f : Nat → α} {l : List Nat} {v : α} {a : Nat} (h : a ∉ l) : vr_up f l v a = f a := if_neg h
theorem vr_rows {L l : List Nat} {f : Nat → va_E} {e : va_E} (h : ∀ a, a ∈ l → a ∉ L) : va_pl L f ++ l.map (fun a => (a, e)) = va_pl (L ++ l) (vr_up f l e) := by
  unfold va_pl
  rw [List.map_append]
  congr 1
  · apply List.map_congr_left
    intro a ha
    rw [vr_up_ne (fun q => h a q ha)]
  · apply List.map_congr_left
    intro a ha
    rw [vr_up_in ha]
theorem vr_lay {X rows : va_W} {x : Nat × va_E} {pl : va_W} {D : va_G} {cl : List vw_C} {H : Heap} (hP : va_P D cl (((X ++ pl) ++ [x]) ++ rows) H) : va_P D cl ((X ++ [x]) ++ (pl ++ rows)) H := by
  rw [List.append_assoc (X ++ pl)] at hP
  have h := va_P.swap hP
  rw [← List.append_assoc X] at h
  have h2 := va_P.swap h
  rw [List.append_assoc (X ++ [x])] at h2
  exact h2
theorem vr_layD {X rows : va_W} {x : Nat × va_E} {pl : va_W} {A : Nat → Prop} (hD : va_D A (((X ++ pl) ++ [x]) ++ rows)) : va_D A ((X ++ [x]) ++ (pl ++ rows)) := by
  rw [List.append_assoc (X ++ pl)] at hD
  have h := va_D.swap hD
  rw [← List.append_assoc X] at h
  have h2 := va_D.swap h
  rw [List.append_assoc (X ++ [x])] at h2
  exact h2
theorem vr_outer (c : ClassId) (N h0 : Nat) : ∀ i : Nat, Jvm.Free.Multi.outerC c N h0 i = arrV c N (fun j => va_rf (if j < i then some (h0 + 1 + j) else none))
  | 0 => by
    show ({ cls := c, slots := Array.replicate N .null, vm := .none } : Cell) = _
    rw [arrV_new]
    refine congrArg (arrV c N) (funext fun j => ?_)
    simp [va_rf]
  | i + 1 => by
    show (Jvm.Free.Multi.outerC c N h0 i).setSlot i (.ref (h0 + 1 + i)) = _
    rw [vr_outer c N h0 i, arrV_store]
    refine congrArg (arrV c N) (funext fun j => ?_)
    by_cases e : j = i
    · subst e
      simp [updV, va_rf]
    · by_cases h : j < i
      · simp [updV, e, h, Nat.lt_succ_of_lt h]
      · simp [updV, e, h, show ¬ j < i + 1 by omega]
section VGM
variable {p : Program} {l : Launch} {e : Env} {R : Room} {s : State} {m : MethodId} {args : Array Value} {below : List Frame} {meth : Method} {c : Code} {H : Heap} {locs : List Loc} {cells slots : Nat} {Q : State → Prop}
variable {cc : ByteArray} {pc : Nat} {ls : Array Slot} {rest : List Value} {D : va_G} {cl : List vw_C} {A : Nat → Prop} {a : Nat} {tys : List (ClassId × FieldType)} {ws : va_W} {H0 : Heap}
theorem va_mna {X : va_W} {L : List Nat} {f : Nat → va_E} {cc : ByteArray} (hexec : p.tables.exec = Jvm.exec) (hb : c.code = cc) {own : String} {index : Nat} {ty : FieldType} {cy : ClassId} (hown : s.vm.findClass own = some m.cls) (hclink : (Cond.classLink own index ("[" ++ (FieldType.array ty).toString)).before args s = true) (hover : va_AOA ty s) (harr : (Cond.arrayClass ty).before args s = true) (hcy : s.vm.findClass (FieldType.array ty).toString = some cy)
    (hK : va_K D cl tys s) (hP : va_P D cl (X ++ va_pl L f) H) (hD : va_D A (X ++ va_pl L f)) (hS : va_S A H0 H locs) (hA : ∀ q, H0.size ≤ q → A q) {n k : Int32} {N' K' : Nat} {z : vp_A} (hn : ¬ n < 0) (hk : ¬ k < 0) (hN : n.toNatClampNeg = N') (hM : k.toNatClampNeg = K')
    (hb1 : N' * 4 ≤ 536870912) (hb2 : K' * componentBytes ty ≤ 536870912) (hb3 : K' ≤ 536870912) (hdf : fits ty (defaultValue ty) = true) (hdd : (defaultValue ty).isDefault = true) (hcells : cells + (1 + N') ≤ R.cells) (hslots : slots + (N' + N' * K') ≤ R.slots) (hz : ∀ c : ClassId, Jvm.Free.Multi.innerC c K' (defaultValue ty) = vp_cell c z) (hdg : decode cc pc = .ok (.multianewarray index 2, 4))
    (kk : ∀ (q : Nat) (r : Nat → Nat) (cA : ClassId) (H1 : Heap), (∀ i j : Nat, i < N' → j < N' → r i = r j → i = j) → (∀ i : Nat, i < N' → r i ∉ L) → va_K D cl (tys ++ [(cA, .array ty)]) s →
      va_P D cl ((X ++ [(q, .inl (cA, N', .inr (.inr (.inr (.inr (fun i => if i < N' then some (r i) else none))))))]) ++ va_pl (L ++ (List.range N').map r) (vr_up f ((List.range N').map r) (.inl (cy, z)))) H1 → va_D A ((X ++ [(q, .inl (cA, N', .inr (.inr (.inr (.inr (fun i => if i < N' then some (r i) else none))))))]) ++ va_pl (L ++ (List.range N').map r) (vr_up f ((List.range N').map r) (.inl (cy, z)))) → va_S A H0 H1 locs →
      W p l e R s m args below meth c H1 locs (cells + 1 + N') (slots + N' + N' * K') Q (F0 m (pc + 4) ls (.ref q :: rest))) : W p l e R s m args below meth c H locs cells slots Q (F0 m pc ls (.int k :: .int n :: rest)) := by
  subst hN
  subst hM
  intro T hT Xs
  obtain ⟨vm₁, cA, comp, -, fA, fC, hO, -, X', step⟩ := Xs.multianewarray2F hexec hown hclink (va_AOA.use hover) harr (g := F0 m pc ls (.int k :: .int n :: rest)) rfl (by rw [hb]; exact hdg) rfl hn hk hb1 hb2 hb3 hdf hdd hcells hslots
  have ec : some cy = some comp := hcy.symm.trans fC
  cases ec
  generalize hF : Jvm.Free.Multi.fill (T.setVm vm₁) cA cy n.toNatClampNeg k.toNatClampNeg (defaultValue ty) n.toNatClampNeg = F at X' step
  have hTh : (T.setVm vm₁).heap = H := hT
  obtain ⟨f1, f2, -, -⟩ := Jvm.Free.Multi.fill_facts (T.setVm vm₁) cA cy n.toNatClampNeg k.toNatClampNeg (defaultValue ty) n.toNatClampNeg
  rw [hF, hTh] at f1 f2
  have hold : ∀ x : Nat, x < H.size → F.heap[x]? = H[x]? := fun x hx => by
    have := Jvm.Free.Multi.fill_old (T.setVm vm₁) cA cy n.toNatClampNeg k.toNatClampNeg (defaultValue ty) (a := x) (by rw [hTh]; exact hx) n.toNatClampNeg
    rw [hF, hTh] at this
    exact this
  have hrow : ∀ j : Nat, j < n.toNatClampNeg → F.heap[H.size + 1 + j]? = some (vp_cell cy z) := fun j hj => by
    have := Jvm.Free.Multi.fill_inner (T.setVm vm₁) cA cy n.toNatClampNeg k.toNatClampNeg (defaultValue ty) n.toNatClampNeg j hj
    rw [hF, hTh, hz] at this
    exact this
  have hout : Jvm.Free.Multi.outerC cA n.toNatClampNeg H.size n.toNatClampNeg = vp_cell cA (n.toNatClampNeg, .inr (.inr (.inr (.inr (fun i => if i < n.toNatClampNeg then some (H.size + 1 + i) else none))))) := by
    rw [vp_cell_q]
    exact vr_outer cA n.toNatClampNeg H.size n.toNatClampNeg
  rw [hout] at f2
  have hlt : ∀ a, a ∈ L → a < H.size := fun a ha => by
    obtain ⟨k9, hk9⟩ := va_pl_get (X := X) (f := f) ha
    exact (hP k9 _ hk9).lt
  have hnl : ∀ i : Nat, i < n.toNatClampNeg → H.size + 1 + i ∉ L := fun i _ h => by
    have := hlt _ h
    omega
  have hnm : ∀ a, a ∈ (List.range n.toNatClampNeg).map (fun i => H.size + 1 + i) → a ∉ L := fun a ha h => by
    obtain ⟨i, -, rfl⟩ := List.mem_map.mp ha
    have := hlt _ h
    omega
  have hP0 : va_P D cl (X ++ va_pl L f) F.heap := hP.kept (fun k9 x hx => hold x.1 ((hP k9 x hx).lt))
  have hP1 : va_P D cl ((X ++ va_pl L f) ++ [(H.size, .inl (cA, n.toNatClampNeg, .inr (.inr (.inr (.inr (fun i => if i < n.toNatClampNeg then some (H.size + 1 + i) else none))))))]) F.heap := hP0.app (fun k9 x hx => by
    have h0 : k9 < 1 := (List.getElem?_eq_some_iff.mp hx).1
    rw [show k9 = 0 by omega] at hx
    cases hx
    exact f2)
  have hP2 : va_P D cl (((X ++ va_pl L f) ++ [(H.size, .inl (cA, n.toNatClampNeg, .inr (.inr (.inr (.inr (fun i => if i < n.toNatClampNeg then some (H.size + 1 + i) else none))))))]) ++ ((List.range n.toNatClampNeg).map (fun i => H.size + 1 + i)).map (fun a => (a, .inl (cy, z)))) F.heap := hP1.app (fun k9 x hx => by
    obtain ⟨a, ha, rfl⟩ := List.mem_map.mp (List.mem_of_getElem? hx)
    obtain ⟨i, hi, rfl⟩ := List.mem_map.mp ha
    exact hrow i (List.mem_range.mp hi))
  have hD2 : va_D A (((X ++ va_pl L f) ++ [(H.size, .inl (cA, n.toNatClampNeg, .inr (.inr (.inr (.inr (fun i => if i < n.toNatClampNeg then some (H.size + 1 + i) else none))))))]) ++ ((List.range n.toNatClampNeg).map (fun i => H.size + 1 + i)).map (fun a => (a, .inl (cy, z)))) := by
    have hD1 := hD.push (e := .inl (cA, n.toNatClampNeg, .inr (.inr (.inr (.inr (fun i => if i < n.toNatClampNeg then some (H.size + 1 + i) else none)))))) hP rfl (hA _ hS.1)
    generalize hW1 : (X ++ va_pl L f) ++ [(H.size, .inl (cA, n.toNatClampNeg, .inr (.inr (.inr (.inr (fun i => if i < n.toNatClampNeg then some (H.size + 1 + i) else none))))))] = W1 at hD1 hP1 ⊢
    have hle : ∀ (k9 : Nat) (x : Nat × va_E), W1[k9]? = some x → x.1 ≤ H.size := fun k9 x hx => by
      rw [← hW1] at hx
      by_cases hl : k9 < (X ++ va_pl L f).length
      · rw [List.getElem?_append_left hl] at hx
        exact Nat.le_of_lt ((hP k9 x hx).lt)
      · rw [List.getElem?_append_right (by omega)] at hx
        have h0 : k9 - (X ++ va_pl L f).length < 1 := (List.getElem?_eq_some_iff.mp hx).1
        rw [show k9 - (X ++ va_pl L f).length = 0 by omega] at hx
        cases hx
        exact Nat.le_refl _
    have hr : ∀ (k9 : Nat) (x : Nat × va_E), (((List.range n.toNatClampNeg).map (fun i => H.size + 1 + i)).map (fun a => ((a, .inl (cy, z)) : Nat × va_E)))[k9]? = some x → x.1 = H.size + 1 + k9 := fun k9 x hx => by
      rw [List.getElem?_map, List.getElem?_map] at hx
      by_cases h9 : k9 < n.toNatClampNeg
      · rw [List.getElem?_range h9] at hx
        cases hx
        rfl
      · have hn0 : (List.range n.toNatClampNeg)[k9]? = none := List.getElem?_eq_none (by rw [List.length_range]; omega)
        rw [hn0] at hx
        cases hx
    refine ⟨fun i j x y hi hj hxy => ?_, fun k9 x hx => ?_⟩
    · by_cases h1 : i < W1.length <;> by_cases h2 : j < W1.length
      · rw [List.getElem?_append_left h1] at hi
        rw [List.getElem?_append_left h2] at hj
        exact hD1.1 i j x y hi hj hxy
      · rw [List.getElem?_append_left h1] at hi
        rw [List.getElem?_append_right (by omega)] at hj
        have := hle _ _ hi
        have := hr _ _ hj
        omega
      · rw [List.getElem?_append_right (by omega)] at hi
        rw [List.getElem?_append_left h2] at hj
        have := hle _ _ hj
        have := hr _ _ hi
        omega
      · rw [List.getElem?_append_right (by omega)] at hi hj
        have := hr _ _ hi
        have := hr _ _ hj
        omega
    · by_cases h1 : k9 < W1.length
      · rw [List.getElem?_append_left h1] at hx
        exact hD1.2 k9 x hx
      · rw [List.getElem?_append_right (by omega)] at hx
        have := hr _ _ hx
        exact hA _ (by have := hS.1; omega)
  have hAr : ArrOfT s cA (.array ty) := fun N9 z9 => by
    obtain ⟨-, k9, hk9, cm9, hkk9⟩ := (hO 0 0 0).1
    exact ⟨(fun q hq => by cases hq), k9, hk9, cm9, hkk9⟩
  have hK2 : va_K D cl (tys ++ [(cA, .array ty)]) s := ⟨hK.1, fun k9 x hx => by
    by_cases hl : k9 < tys.length
    · rw [List.getElem?_append_left hl] at hx
      exact hK.2 k9 x hx
    · rw [List.getElem?_append_right (by omega)] at hx
      have h0 : k9 - tys.length < 1 := (List.getElem?_eq_some_iff.mp hx).1
      rw [show k9 - tys.length = 0 by omega] at hx
      cases hx
      exact ⟨hAr, fA⟩⟩
  obtain ⟨t, a1, b1⟩ := kk H.size (fun i => H.size + 1 + i) cA F.heap (fun i j _ _ h => by have h9 : H.size + 1 + i = H.size + 1 + j := h; omega) hnl hK2 (by rw [← vr_rows hnm]; exact vr_lay hP2) (by rw [← vr_rows hnm]; exact vr_layD hD2) ⟨by rw [f1]; have := hS.1; omega, fun x h1 h2 => (hold x (Nat.lt_of_lt_of_le h1 hS.1)).trans (hS.2.1 x h1 h2), hS.2.2⟩ F rfl X'
  refine ⟨t, step t ?_, b1⟩
  have e : T.heap.size = H.size := by rw [hT]
  rw [e]
  exact a1
end VGM

def mm_ini : List (List Nat) := [[60, 43], [68, 44], [87, 45], [94, 46], [101, 47], [108, 48], [115, 49], [126, 50], [159, 51], [242, 53], [266, 54], [760, 55]]
set_option maxRecDepth 100000 in
theorem mm_in_ok : (List.range 12).all (fun c => mm_wd ((mm_ini.getD c []).getD 0 0) (.instantiable (mm_cN c) (mm_N c)) && mm_wd ((mm_ini.getD c []).getD 1 0) (.initialized (mm_cN c))) = true := by decide +kernel
set_option maxRecDepth 100000 in
theorem mm_arc_ok : (mm_wd 84 (.arrayClass .int) && mm_wd 901 (.arrayClass .byte)) = true := by decide +kernel
def mm_df (a : Nat) : List Value := (mm_fs a).map (fun f => match f.2 with
  | 0 => .int 0
  | 1 => .long 0
  | 2 => .null
  | _ => .int 0)
set_option maxRecDepth 100000 in
theorem mm_s4 : (List.range 47).all (fun a => !decide (mm_kd a = 0) || decide (a = 3) || (decide (mm_ax a < 12) && decide (mm_N (mm_ax a) = (mm_fs a).length) && (List.range (mm_N (mm_ax a))).all (fun j => decide (defaultValue (mm_dt (mm_T (mm_ax a) j).2.2.1) = vp_V (mm_df a) j)))) = true := by decide +kernel
set_option maxRecDepth 100000 in
theorem mm_s5 : (List.range 4).all (fun i => decide (mm_N (2 + i) = 0)) = true := by decide +kernel
/-- what a new object's fields hold -/
theorem mm_born {a nr : Nat} (hk : mm_kd a = 0) (hb : mm_co a nr < 12) (h3 : a = 3 → nr < 4) : ∀ j, j < mm_N (mm_co a nr) → defaultValue (mm_dt (mm_T (mm_co a nr) j).2.2.1) = vp_V (mm_df a) j := by
  intro j hj
  by_cases e : a = 3
  · subst e
    have := List.all_eq_true.mp mm_s5 nr (List.mem_range.mpr (h3 rfl))
    have hz : mm_N (2 + nr) = 0 := of_decide_eq_true this
    have : mm_co 3 nr = 2 + nr := by unfold mm_co; rw [if_pos rfl]
    rw [this, hz] at hj
    omega
  · have hr : a < 47 := by
      rcases Nat.lt_or_ge a 47 with q | q
      · exact q
      · have := mm_kd_ge q; omega
    have h := List.all_eq_true.mp mm_s4 a (List.mem_range.mpr hr)
    have hco : mm_co a nr = mm_ax a := by unfold mm_co; rw [if_neg e]
    rw [hco] at hj ⊢
    simp only [Bool.or_eq_true, Bool.not_eq_true', decide_eq_false_iff_not, decide_eq_true_eq, Bool.and_eq_true] at h
    rcases h with (h | h) | h
    · exact absurd hk h
    · exact absurd h e
    · exact of_decide_eq_true (List.all_eq_true.mp h.2 j (List.mem_range.mpr hj))
def mm_ph (φ : Nat → Nat → Nat) (a i q : Nat) : Nat → Nat → Nat := fun r j => if r = a ∧ j = i then q else φ r j
theorem mm_ph_at (φ : Nat → Nat → Nat) (a i q : Nat) : mm_ph φ a i q a i = q := by simp [mm_ph]
theorem mm_ph_ne {φ : Nat → Nat → Nat} {a i q : Nat} {z : Nat × Nat} (h : z ≠ (a, i)) : mm_ph φ a i q z.1 z.2 = φ z.1 z.2 := by
  unfold mm_ph
  rw [if_neg]
  rintro ⟨h1, h2⟩
  exact h (by rw [← h1, ← h2])
/-- the old cells under another naming that agrees on them -/
theorem mm_ce_re {aC : Nat → ClassId} {φ φ' : Nat → Nat → Nat} {h h' : mm_H} {z : Nat × Nat} (hz : z ∈ h.1) (hI : h'.2.1 = h.2.1) (hL : h'.2.2.1 = h.2.2.1) (hR : ∀ c i j, (c, i) ≠ (114, mm_nr h.1 14) ∨ h'.2.2.2 = h.2.2.2 → h'.2.2.2 c i j = h.2.2.2 c i j) (hn : (14, mm_nr h.1 14) ∉ h.1 ∨ h'.2.2.2 = h.2.2.2) (hφ : ∀ z ∈ h.1, φ' z.1 z.2 = φ z.1 z.2)
    (ho1 : ∀ f ∈ mm_fs z.1, f.2 = 2 → (h.2.2.2 f.1 z.2 0).1 = 0 ∨ h.2.2.2 f.1 z.2 0 ∈ h.1) (ho2 : mm_kd z.1 = 3 → ∀ j, j < mm_ln z.1 → (h.2.2.2 (100 + z.1) z.2 j).1 = 0 ∨ h.2.2.2 (100 + z.1) z.2 j ∈ h.1) : mm_ce aC φ' h' z = mm_ce aC φ h z := by
  have hor : ∀ q : Nat × Nat, q.1 = 0 ∨ q ∈ h.1 → mm_or φ' q = mm_or φ q := by
    intro q hq
    unfold mm_or
    rcases hq with e | e
    · rw [if_pos e, if_pos e]
    · rw [hφ q e]
  unfold mm_ce
  split
  next hk =>
    refine congrArg _ (congrArg _ (List.map_congr_left fun f hf => ?_))
    obtain ⟨x, hx⟩ := List.getElem?_of_mem hf
    have hfx := mm_fsx (c := f.1) (ty := f.2) hx
    have hRR : ∀ j, h'.2.2.2 f.1 z.2 j = h.2.2.2 f.1 z.2 j := fun j => hR _ _ _ (Or.inl (fun e => by
      have : f.1 = 114 := congrArg Prod.fst e
      omega))
    obtain ⟨f1, f2⟩ := f
    unfold mm_fv
    rw [hI, hL, hRR]
    match f2, hf with
    | 0, _ => rfl
    | 1, _ => rfl
    | 2, hf => exact congrArg va_rf (hor _ (ho1 _ hf rfl))
    | f2 + 3, _ => rfl
  next hk =>
    rw [hI]
    split
    next h3 =>
      refine congrArg (fun f => Sum.inl (aC (mm_ax z.1), mm_ln z.1, Sum.inr (Sum.inr (Sum.inr (Sum.inr f))))) (funext fun j => ?_)
      split
      next hj =>
        rw [hR _ _ _ ?_]
        · exact hor _ (ho2 h3 j hj)
        · rcases hn with q | q
          · refine Or.inl (fun e => q ?_)
            have e1 : 100 + z.1 = 114 := congrArg Prod.fst e
            have e2 : z.2 = mm_nr h.1 14 := congrArg Prod.snd e
            have e3 : z.1 = 14 := by omega
            rw [← e2, ← e3]
            exact hz
          · exact Or.inr q
      next => rfl
    next => rfl
theorem mm_cv_re {φ φ' : Nat → Nat → Nat} {h : mm_H} {st : List mm_V} (hφ : ∀ z ∈ h.1, φ' z.1 z.2 = φ z.1 z.2) (ho : ∀ v ∈ st, mm_okV h v) : st.map (mm_cv φ') = st.map (mm_cv φ) := by
  refine List.map_congr_left fun v hv => ?_
  rcases v with x | x | q
  · rfl
  · rfl
  · exact congrArg Value.ref (hφ q (ho _ hv q rfl))
theorem mm_ws_new {aC : Nat → ClassId} {φ : Nat → Nat → Nat} {h : mm_H} {a nr qa : Nat} (hnot : (a, nr) ∉ h.1) (ho1 : ∀ z ∈ h.1, ∀ f ∈ mm_fs z.1, f.2 = 2 → (h.2.2.2 f.1 z.2 0).1 = 0 ∨ h.2.2.2 f.1 z.2 0 ∈ h.1) (ho2 : ∀ z ∈ h.1, mm_kd z.1 = 3 → ∀ j, j < mm_ln z.1 → (h.2.2.2 (100 + z.1) z.2 j).1 = 0 ∨ h.2.2.2 (100 + z.1) z.2 j ∈ h.1) {E : va_E} (hE : mm_ce aC (mm_ph φ a nr qa) (h.1 ++ [(a, nr)], h.2) (a, nr) = E) :
    mm_ws aC (mm_ph φ a nr qa) (h.1 ++ [(a, nr)], h.2) = mm_ws aC φ h ++ [(qa, E)] := by
  have hph : ∀ z ∈ h.1, mm_ph φ a nr qa z.1 z.2 = φ z.1 z.2 := fun z hz => mm_ph_ne (fun e => hnot (e ▸ hz))
  unfold mm_ws
  rw [List.map_append]
  congr 1
  · refine List.map_congr_left fun z hz => ?_
    rw [hph z hz, mm_ce_re (h' := (h.1 ++ [(a, nr)], h.2)) hz rfl rfl (fun _ _ _ _ => rfl) (Or.inr rfl) hph (ho1 z hz) (ho2 z hz)]
  · show [(mm_ph φ a nr qa a nr, mm_ce aC (mm_ph φ a nr qa) (h.1 ++ [(a, nr)], h.2) (a, nr))] = [(qa, E)]
    rw [mm_ph_at, hE]
set_option maxRecDepth 100000 in
theorem mm_s6 : (List.range 47).all (fun r => decide (mm_ln r ≤ 64)) = true := by decide +kernel
theorem mm_ln_le (r : Nat) : mm_ln r ≤ 64 := by
  by_cases hr : r < 47
  · exact of_decide_eq_true (List.all_eq_true.mp mm_s6 r (List.mem_range.mpr hr))
  · have : mm_ln r = 0 := by
      unfold mm_ln
      rw [List.getD_eq_getElem?_getD, List.getElem?_eq_none (by rw [mm_rk_len]; omega)]
      rfl
    omega
theorem mm_arr_ext {cA : ClassId} {N : Nat} {f g : Nat → Value} (h : ∀ j, j < N → f j = g j) : arrV cA N f = arrV cA N g := by
  unfold arrV
  congr 1
  congr 1
  funext j
  exact h j.1 j.2
/-- two pictures that agree wherever a cell has a place -/
def mm_agr (h1 h2 : mm_H) : Prop := h2.1 = h1.1 ∧ ∀ q ∈ h1.1, (mm_kd q.1 = 0 → ∀ f ∈ mm_fs q.1, (f.2 ≠ 1 → f.2 ≠ 2 → h2.2.1 f.1 q.2 0 = h1.2.1 f.1 q.2 0) ∧ (f.2 = 1 → h2.2.2.1 f.1 q.2 = h1.2.2.1 f.1 q.2) ∧ (f.2 = 2 → h2.2.2.2 f.1 q.2 0 = h1.2.2.2 f.1 q.2 0)) ∧ (mm_kd q.1 ≠ 0 → mm_kd q.1 ≠ 3 → ∀ j, j < mm_ln q.1 → h2.2.1 (100 + q.1) q.2 j = h1.2.1 (100 + q.1) q.2 j) ∧ (mm_kd q.1 = 3 → ∀ j, j < mm_ln q.1 → h2.2.2.2 (100 + q.1) q.2 j = h1.2.2.2 (100 + q.1) q.2 j)
theorem mm_agr_at {aC : Nat → ClassId} {φ : Nat → Nat → Nat} {h1 h2 : mm_H} {k : Nat} {q : Nat × va_E} (ha : mm_agr h1 h2) (hk : (mm_ws aC φ h2)[k]? = some q) : ∃ z, h1.1[k]? = some z ∧ z ∈ h1.1 ∧ q = (φ z.1 z.2, mm_ce aC φ h2 z) := by
  unfold mm_ws at hk
  rw [List.getElem?_map, ha.1] at hk
  cases hz : h1.1[k]? with
  | none => rw [hz] at hk; cases hk
  | some z =>
    rw [hz] at hk
    cases hk
    exact ⟨z, rfl, List.mem_of_getElem? hz, rfl⟩
theorem mm_P_agr {aC : Nat → ClassId} {φ : Nat → Nat → Nat} {h1 h2 : mm_H} {D : va_G} {H : Heap} (ha : mm_agr h1 h2) (hP : va_P D mm_cls (mm_ws aC φ h1) H) : va_P D mm_cls (mm_ws aC φ h2) H := by
  intro k q hk
  obtain ⟨z, hz, hm, rfl⟩ := mm_agr_at ha hk
  have h0 := hP k _ (mm_ws_at hz)
  obtain ⟨a1, a2, a3⟩ := ha.2 z hm
  by_cases k0 : mm_kd z.1 = 0
  · have e : mm_ce aC φ h2 z = mm_ce aC φ h1 z := by
      unfold mm_ce
      rw [if_pos k0, if_pos k0]
      refine congrArg _ (congrArg _ (List.map_congr_left fun f hf => ?_))
      obtain ⟨b1, b2, b3⟩ := a1 k0 f hf
      obtain ⟨f1, f2⟩ := f
      unfold mm_fv
      match f2, b1, b2, b3 with
      | 0, b1, _, _ => exact congrArg Value.int (b1 (by show (0 : Nat) ≠ 1; decide) (by show (0 : Nat) ≠ 2; decide))
      | 1, _, b2, _ => exact congrArg Value.long (b2 rfl)
      | 2, _, _, b3 => exact congrArg (fun x => va_rf (mm_or φ x)) (b3 rfl)
      | f2 + 3, b1, _, _ => exact congrArg Value.int (b1 (fun e => by have e2 : f2 + 3 = 1 := e; omega) (fun e => by have e2 : f2 + 3 = 2 := e; omega))
    rw [e]
    exact h0
  · by_cases k3 : mm_kd z.1 = 3
    · have e : mm_ce aC φ h2 z = mm_ce aC φ h1 z := by
        unfold mm_ce
        rw [if_neg k0, if_neg k0, if_pos k3, if_pos k3]
        refine congrArg (fun f => Sum.inl (aC (mm_ax z.1), mm_ln z.1, Sum.inr (Sum.inr (Sum.inr (Sum.inr f))))) (funext fun j => ?_)
        split
        next hj => rw [a3 k3 j hj]
        next => rfl
      rw [e]
      exact h0
    · unfold mm_ce at h0 ⊢
      rw [if_neg k0, if_neg k3] at h0 ⊢
      have h0 : H[φ z.1 z.2]? = some (vp_cell (aC (mm_ax z.1)) (mm_ln z.1, .inl (fun j => h1.2.1 (100 + z.1) z.2 j))) := h0
      show H[φ z.1 z.2]? = some (vp_cell (aC (mm_ax z.1)) (mm_ln z.1, .inl (fun j => h2.2.1 (100 + z.1) z.2 j)))
      rw [h0, vp_cell_i, vp_cell_i]
      exact congrArg some (mm_arr_ext fun j hj => congrArg Value.int (a2 k0 k3 j hj).symm)
theorem mm_D_agr {aC : Nat → ClassId} {φ : Nat → Nat → Nat} {h1 h2 : mm_H} {A : Nat → Prop} (ha : mm_agr h1 h2) (hD : va_D A (mm_ws aC φ h1)) : va_D A (mm_ws aC φ h2) := by
  refine ⟨fun i j x y hi hj hxy => ?_, fun k q hk => ?_⟩
  · obtain ⟨z, hz, -, rfl⟩ := mm_agr_at ha hi
    obtain ⟨w, hw, -, rfl⟩ := mm_agr_at ha hj
    exact hD.1 i j _ _ (mm_ws_at hz) (mm_ws_at hw) hxy
  · obtain ⟨z, hz, -, rfl⟩ := mm_agr_at ha hk
    exact hD.2 k (φ z.1 z.2, mm_ce aC φ h1 z) (mm_ws_at hz)
section MMN
variable {p : Program} {l : Launch} {e : Env} {R : Room} {s : State} {mi : MethodId} {args : Array Value} {below : List Frame} {meth : Method} {c : Code} {H : Heap} {locs : List Loc} {cells slots : Nat} {Q : State → Prop}
variable {m pc nx op a b : Nat} {k : Int} {zs : List Nat} {st : List mm_V} {ls : Array Slot} {φ : Nat → Nat → Nat} {i : Instr} {n : Nat} {D : va_G} {aC : Nat → ClassId} {A : Nat → Prop} {h : mm_H} {H0 : Heap}
theorem mm_w4 (hx : p.tables.exec = Jvm.exec) (hb : c.code = mm_bc m) (hown : s.vm.findClass (mm_cN (mm_ow m)) = some mi.cls) (hts : ∀ w ∈ mm_tb, w.before args s = true) (hK : mm_K D aC s) (hd : decode (mm_bc m) pc = .ok (i, n)) (hc0 : mm_c4 m op a b zs i n = true) {q : List mm_V × mm_H × Nat × Nat} (hs0 : mm_al op a b st h = some q) (hst : ∀ v ∈ st, mm_okV h v)
    (ho1 : ∀ z ∈ h.1, ∀ f ∈ mm_fs z.1, f.2 = 2 → (h.2.2.2 f.1 z.2 0).1 = 0 ∨ h.2.2.2 f.1 z.2 0 ∈ h.1) (ho2 : ∀ z ∈ h.1, mm_kd z.1 = 3 → ∀ j, j < mm_ln z.1 → (h.2.2.2 (100 + z.1) z.2 j).1 = 0 ∨ h.2.2.2 (100 + z.1) z.2 j ∈ h.1)
    (hroom : cells + q.2.2.1 ≤ R.cells ∧ slots + q.2.2.2 ≤ R.slots) (hP : va_P D mm_cls (mm_ws aC φ h) H) (hD : va_D A (mm_ws aC φ h)) (hS : va_S A H0 H locs) (hA : ∀ z, H0.size ≤ z → A z)
    (kk : ∀ φ' H', (∀ z ∈ h.1, φ' z.1 z.2 = φ z.1 z.2) → va_P D mm_cls (mm_ws aC φ' q.2.1) H' → va_D A (mm_ws aC φ' q.2.1) → va_S A H0 H' locs → W p l e R s mi args below meth c H' locs (cells + q.2.2.1) (slots + q.2.2.2) Q (F0 mi (pc + n) ls (q.1.map (mm_cv φ')))) : W p l e R s mi args below meth c H locs cells slots Q (F0 mi pc ls (st.map (mm_cv φ))) := by
  have harc := mm_arc_ok
  simp only [Bool.and_eq_true] at harc
  match op, hc0, hs0 with
  | 0, hc, hs =>
    simp only [mm_c4] at hc
    simp only [mm_al] at hs
    split at hc
    next z =>
      simp only [Bool.and_eq_true, beq_iff_eq, decide_eq_true_eq] at hc
      obtain ⟨⟨rfl, hcl⟩, hb12⟩ := hc
      split at hs
      next hh =>
        cases hs
        obtain ⟨hco, hk, h3, hnot, ha0, hall⟩ := hh
        have hin := List.all_eq_true.mp mm_in_ok b (List.mem_range.mpr hb12)
        simp only [Bool.and_eq_true] at hin
        have hborn := mm_born (a := a) (nr := mm_nr h.1 a) hk (by rw [hco]; exact hb12) h3
        rw [hco] at hborn
        refine va_new (ci := b) (fs := mm_df a) (C := mm_cN b) (T := mm_T b) (N := mm_N b) hx hb hts (mm_lays hb12) (fun j => mm_dt (mm_T b j).2.2.1) (mm_fds hb12) hown (hts _ (mm_tb_of hcl rfl)) (hts _ (mm_tb_of hin.1 rfl)) (hts _ (mm_tb_of hin.2 rfl)) hK.1 hP hD hS hA (mm_cls_at hb12) hborn hroom.1 hroom.2 hd (fun qa H1 hP1 hD1 hS1 => ?_)
        have hph : ∀ z ∈ h.1, mm_ph φ a (mm_nr h.1 a) qa z.1 z.2 = φ z.1 z.2 := fun z hz => mm_ph_ne (fun e => hnot (e ▸ hz))
        have hE : mm_ce aC (mm_ph φ a (mm_nr h.1 a) qa) (h.1 ++ [(a, mm_nr h.1 a)], h.2) (a, mm_nr h.1 a) = .inr (b, mm_df a) := by
          unfold mm_ce
          rw [if_pos hk, hco]
          refine congrArg _ (congrArg _ (List.map_congr_left fun f hf => ?_))
          have hz := List.all_eq_true.mp hall f hf
          simp only [Bool.and_eq_true, beq_iff_eq] at hz
          obtain ⟨f1, f2⟩ := f
          unfold mm_fv
          dsimp only at hz ⊢
          rw [hz.1.1, hz.1.2, hz.2]
          match f2 with
          | 0 => rfl
          | 1 => rfl
          | 2 => rfl
          | f2 + 3 => rfl
        have hws := mm_ws_new (aC := aC) (φ := φ) (qa := qa) hnot ho1 ho2 hE
        have := kk (mm_ph φ a (mm_nr h.1 a) qa) H1 hph (by rw [hws]; exact hP1) (by rw [hws]; exact hD1) hS1
        simp only [List.map_cons, mm_cv_re hph hst] at this
        simp only [mm_cv, mm_ph_at] at this
        exact this
      next => cases hs
    next => cases hc
  | 1, hc, hs =>
    simp only [mm_c4] at hc
    simp only [mm_al] at hs
    simp only [Bool.and_eq_true, beq_iff_eq] at hc
    obtain ⟨rfl, hc⟩ := hc
    split at hs
    next x t =>
      split at hs
      next hh =>
        cases hs
        obtain ⟨rfl, hk, hb1, hnot, hall⟩ := hh
        have hln := mm_ln_le a
        have hst' : ∀ v ∈ t, mm_okV h v := fun v hv => hst v (List.mem_cons_of_mem _ hv)
        have hz : ∀ j, j < mm_ln a → h.2.1 (100 + a) (mm_nr h.1 a) j = 0 := fun j hj => by
          have := List.all_eq_true.mp hall j (List.mem_range.mpr hj)
          exact eq_of_beq this
        obtain ⟨x1, x2, x3⟩ := mm_kx a
        match b, hc, hk with
        | 0, hc, hk =>
          cases of_decide_eq_true hc
          have hk : mm_kd a = 1 := hk
          have hwd : (Jvm.Cond.arrayClass .int).before args s = true := hts _ (mm_tb_of harc.1 rfl)
          refine va_newa (atype := .int) (ty := .int) (a0 := (mm_ln a, .inl (fun j => h.2.1 (100 + a) (mm_nr h.1 a) j))) hx hb hwd rfl hK.1 hP hD hS hA (fun cA => ?_) (nI_pos (by omega)) (nI_clamp (by omega)) (by show mm_ln a * 4 ≤ _; omega) hroom.1 hroom.2 hd (fun qa cA H1 hK1 hP1 hD1 hS1 => ?_)
          · rw [vp_cell_i]
            exact mm_arr_ext fun j hj => by rw [hz j hj]; rfl
          · have hcA : cA = aC 0 := by
              have e1 : s.vm.findClass ("[" ++ FieldType.int.toString) = some cA := (hK1.2 6 (cA, .int) rfl).2
              have e2 : s.vm.findClass ("[" ++ FieldType.int.toString) = some (aC 0) := (hK.1.2 0 (aC 0, .int) rfl).2
              exact Option.some.inj (e1.symm.trans e2)
            subst hcA
            have hph : ∀ z ∈ h.1, mm_ph φ a (mm_nr h.1 a) qa z.1 z.2 = φ z.1 z.2 := fun z hz => mm_ph_ne (fun e => hnot (e ▸ hz))
            have hE : mm_ce aC (mm_ph φ a (mm_nr h.1 a) qa) (h.1 ++ [(a, mm_nr h.1 a)], h.2) (a, mm_nr h.1 a) = .inl (aC 0, mm_ln a, .inl (fun j => h.2.1 (100 + a) (mm_nr h.1 a) j)) := by
              have k0 : ¬ mm_kd a = 0 := by omega
              have k3 : ¬ mm_kd a = 3 := by omega
              unfold mm_ce
              rw [if_neg k0, if_neg k3, x1 hk]
            have hws := mm_ws_new (aC := aC) (φ := φ) (qa := qa) hnot ho1 ho2 hE
            have := kk (mm_ph φ a (mm_nr h.1 a) qa) H1 hph (by rw [hws]; exact hP1) (by rw [hws]; exact hD1) hS1
            simp only [List.map_cons, mm_cv_re hph hst'] at this
            simp only [mm_cv, mm_ph_at] at this
            exact this
        | 1, hc, hk =>
          cases of_decide_eq_true hc
          have hk : mm_kd a = 2 := hk
          have hwd : (Jvm.Cond.arrayClass .byte).before args s = true := hts _ (mm_tb_of harc.2 rfl)
          refine va_newa (atype := .byte) (ty := .byte) (a0 := (mm_ln a, .inl (fun j => h.2.1 (100 + a) (mm_nr h.1 a) j))) hx hb hwd rfl hK.1 hP hD hS hA (fun cA => ?_) (nI_pos (by omega)) (nI_clamp (by omega)) (Nat.le_trans (Nat.mul_le_mul hln (show componentBytes .byte ≤ 8 by decide)) (by decide)) hroom.1 hroom.2 hd (fun qa cA H1 hK1 hP1 hD1 hS1 => ?_)
          · rw [vp_cell_i]
            exact mm_arr_ext fun j hj => by rw [hz j hj]; rfl
          · have hcA : cA = aC 1 := by
              have e1 : s.vm.findClass ("[" ++ FieldType.byte.toString) = some cA := (hK1.2 6 (cA, .byte) rfl).2
              have e2 : s.vm.findClass ("[" ++ FieldType.byte.toString) = some (aC 1) := (hK.1.2 1 (aC 1, .byte) rfl).2
              exact Option.some.inj (e1.symm.trans e2)
            subst hcA
            have hph : ∀ z ∈ h.1, mm_ph φ a (mm_nr h.1 a) qa z.1 z.2 = φ z.1 z.2 := fun z hz => mm_ph_ne (fun e => hnot (e ▸ hz))
            have hE : mm_ce aC (mm_ph φ a (mm_nr h.1 a) qa) (h.1 ++ [(a, mm_nr h.1 a)], h.2) (a, mm_nr h.1 a) = .inl (aC 1, mm_ln a, .inl (fun j => h.2.1 (100 + a) (mm_nr h.1 a) j)) := by
              have k0 : ¬ mm_kd a = 0 := by omega
              have k3 : ¬ mm_kd a = 3 := by omega
              unfold mm_ce
              rw [if_neg k0, if_neg k3, x2 hk]
            have hws := mm_ws_new (aC := aC) (φ := φ) (qa := qa) hnot ho1 ho2 hE
            have := kk (mm_ph φ a (mm_nr h.1 a) qa) H1 hph (by rw [hws]; exact hP1) (by rw [hws]; exact hD1) hS1
            simp only [List.map_cons, mm_cv_re hph hst'] at this
            simp only [mm_cv, mm_ph_at] at this
            exact this
        | b + 2, hc, hk => cases hc
      next => cases hs
    next => cases hs
  | 2, hc, hs =>
    simp only [mm_c4] at hc
    simp only [mm_al] at hs
    split at hc
    next z =>
      simp only [Bool.and_eq_true, beq_iff_eq, decide_eq_true_eq] at hc
      obtain ⟨⟨rfl, hcl⟩, hax⟩ := hc
      split at hs
      next x t =>
        split at hs
        next hh =>
          cases hs
          obtain ⟨rfl, hk, hnot, hall⟩ := hh
          have hln := mm_ln_le a
          have hst' : ∀ v ∈ t, mm_okV h v := fun v hv => hst v (List.mem_cons_of_mem _ hv)
          have hz : ∀ j, j < mm_ln a → h.2.2.2 (100 + a) (mm_nr h.1 a) j = (0, 0) := fun j hj => by
            have := List.all_eq_true.mp hall j (List.mem_range.mpr hj)
            exact eq_of_beq this
          have key : ∀ (C : String) (cA : ClassId) (qa : Nat) (H1 : Heap), cA = aC (mm_ax a) → va_P D mm_cls (mm_ws aC φ h ++ [(qa, .inl (cA, mm_ln a, .inr (.inr (.inr (.inr (fun _ => none))))))]) H1 → va_D A (mm_ws aC φ h ++ [(qa, .inl (cA, mm_ln a, .inr (.inr (.inr (.inr (fun _ => none))))))]) → va_S A H0 H1 locs → W p l e R s mi args below meth c H1 locs (cells + 1) (slots + mm_ln a) Q (F0 mi (pc + 3) ls (.ref qa :: t.map (mm_cv φ))) := by
            intro C cA qa H1 hcA hP1 hD1 hS1
            subst hcA
            have hph : ∀ z ∈ h.1, mm_ph φ a (mm_nr h.1 a) qa z.1 z.2 = φ z.1 z.2 := fun z hz => mm_ph_ne (fun e => hnot (e ▸ hz))
            have hE : mm_ce aC (mm_ph φ a (mm_nr h.1 a) qa) (h.1 ++ [(a, mm_nr h.1 a)], h.2) (a, mm_nr h.1 a) = .inl (aC (mm_ax a), mm_ln a, .inr (.inr (.inr (.inr (fun _ => none))))) := by
              have k0 : ¬ mm_kd a = 0 := by omega
              unfold mm_ce
              rw [if_neg k0, if_pos hk]
              refine congrArg (fun f => Sum.inl (aC (mm_ax a), mm_ln a, Sum.inr (Sum.inr (Sum.inr (Sum.inr f))))) (funext fun j => ?_)
              split
              next hj =>
                show mm_or _ (h.2.2.2 (100 + a) (mm_nr h.1 a) j) = none
                rw [hz j hj]
                rfl
              next => rfl
            have hws := mm_ws_new (aC := aC) (φ := φ) (qa := qa) hnot ho1 ho2 hE
            have := kk (mm_ph φ a (mm_nr h.1 a) qa) H1 hph (by rw [hws]; exact hP1) (by rw [hws]; exact hD1) hS1
            simp only [List.map_cons, mm_cv_re hph hst'] at this
            simp only [mm_cv, mm_ph_at] at this
            exact this
          have hcases : mm_ax a = 2 ∨ mm_ax a = 3 ∨ mm_ax a = 4 := by omega
          have e6 : (mm_ty aC).length = 6 := rfl
          rcases hcases with ea | ea | ea
          · rw [ea] at hcl
            refine va_newq (C := "SongToBridge$Keeper") hx hb hown (hts _ (mm_tb_of hcl rfl)) (hK.2.2.2.2.1 _ (by decide)) hK.1 hP hD hS hA (nI_pos (by omega)) (nI_clamp (by omega)) (by omega) hroom.1 hroom.2 hd (fun qa cA H1 hK1 hP1 hD1 hS1 => key "" cA qa H1 ?_ hP1 hD1 hS1)
            obtain ⟨_, _, -, -, -, e1⟩ := (hK1.2 6 (cA, .object "SongToBridge$Keeper") rfl).2
            obtain ⟨_, _, -, -, -, e2⟩ := (hK.1.2 2 (aC 2, .object "SongToBridge$Keeper") rfl).2
            rw [ea]
            exact Option.some.inj (e1.symm.trans e2)
          · rw [ea] at hcl
            refine va_newq (C := "SongToBridge$Bridge") hx hb hown (hts _ (mm_tb_of hcl rfl)) (hK.2.2.2.2.1 _ (by decide)) hK.1 hP hD hS hA (nI_pos (by omega)) (nI_clamp (by omega)) (by omega) hroom.1 hroom.2 hd (fun qa cA H1 hK1 hP1 hD1 hS1 => key "" cA qa H1 ?_ hP1 hD1 hS1)
            obtain ⟨_, _, -, -, -, e1⟩ := (hK1.2 6 (cA, .object "SongToBridge$Bridge") rfl).2
            obtain ⟨_, _, -, -, -, e2⟩ := (hK.1.2 3 (aC 3, .object "SongToBridge$Bridge") rfl).2
            rw [ea]
            exact Option.some.inj (e1.symm.trans e2)
          · rw [ea] at hcl
            refine va_newq (C := "SongToBridge$Singer") hx hb hown (hts _ (mm_tb_of hcl rfl)) (hK.2.2.2.2.1 _ (by decide)) hK.1 hP hD hS hA (nI_pos (by omega)) (nI_clamp (by omega)) (by omega) hroom.1 hroom.2 hd (fun qa cA H1 hK1 hP1 hD1 hS1 => key "" cA qa H1 ?_ hP1 hD1 hS1)
            obtain ⟨_, _, -, -, -, e1⟩ := (hK1.2 6 (cA, .object "SongToBridge$Singer") rfl).2
            obtain ⟨_, _, -, -, -, e2⟩ := (hK.1.2 4 (aC 4, .object "SongToBridge$Singer") rfl).2
            rw [ea]
            exact Option.some.inj (e1.symm.trans e2)
        next => cases hs
      next => cases hs
    next => cases hc
  | 3, hc, hs =>
    simp only [mm_c4] at hc
    simp only [mm_al] at hs
    split at hc
    next z d =>
      simp only [Bool.and_eq_true, beq_iff_eq] at hc
      obtain ⟨⟨rfl, rfl⟩, hcl⟩ := hc
      split at hs
      next x y t =>
        split at hs
        next hh =>
          cases hs
          obtain ⟨rfl, rfl, rfl, rfl, hnot, hnots, hall⟩ := hh
          have hst' : ∀ v ∈ t, mm_okV h v := fun v hv => hst v (by simp [hv])
          have hz : ∀ x, x < 6 → ∀ j, j < 6 → h.2.1 115 (mm_nr h.1 15 + x) j = 0 := fun x hx j hj => by
            have := List.all_eq_true.mp (List.all_eq_true.mp hall x (List.mem_range.mpr hx)) j (List.mem_range.mpr hj)
            exact eq_of_beq this
          have hcy : s.vm.findClass (FieldType.array .int).toString = some (aC 0) := (hK.1.2 0 (aC 0, .int) rfl).2
          have e0 : mm_ws aC φ h ++ va_pl [] (fun _ => .inr (0, [])) = mm_ws aC φ h := List.append_nil _
          refine va_mna (X := mm_ws aC φ h) (L := []) (f := fun _ => .inr (0, [])) (ty := .int) (cy := aC 0) (z := (6, .inl (fun _ => 0))) hx hb hown (hts _ (mm_tb_of hcl rfl)) hK.2.2.2.2.2 (hts _ (mm_tb_of harc.1 rfl)) hcy hK.1 (by rw [e0]; exact hP) (by rw [e0]; exact hD) hS hA (N' := 6) (K' := 6) (by decide) (by decide) rfl rfl (by decide) (by decide) (by decide) rfl rfl hroom.1 hroom.2 (fun c9 => ?_) hd (fun qa r cA H1 hinj hnl hK1 hP1 hD1 hS1 => ?_)
          · rw [vp_cell_i]
            show ({ cls := c9, slots := Array.replicate 6 (.int 0), vm := .none } : Cell) = _
            rfl
          · have hcA : cA = aC 5 := by
              have e1 : s.vm.findClass ("[" ++ (FieldType.array .int).toString) = some cA := (hK1.2 6 (cA, .array .int) rfl).2
              have e2 : s.vm.findClass ("[" ++ (FieldType.array .int).toString) = some (aC 5) := (hK.1.2 5 (aC 5, .array .int) rfl).2
              exact Option.some.inj (e1.symm.trans e2)
            subst hcA
            obtain ⟨φ', hφ'⟩ : ∃ φ' : Nat → Nat → Nat, φ' = fun ρ j => if ρ = 14 ∧ j = mm_nr h.1 14 then qa else if ρ = 15 ∧ mm_nr h.1 15 ≤ j ∧ j < mm_nr h.1 15 + 6 then r (j - mm_nr h.1 15) else φ ρ j := ⟨_, rfl⟩
            have hph : ∀ z ∈ h.1, φ' z.1 z.2 = φ z.1 z.2 := by
              intro z hzm
              rw [hφ']
              dsimp only
              rw [if_neg (fun e => hnot (by rw [← e.2, ← e.1]; exact hzm)), if_neg (fun e => hnots (z.2 - mm_nr h.1 15) (by omega) (by rw [show mm_nr h.1 15 + (z.2 - mm_nr h.1 15) = z.2 by omega, ← e.1]; exact hzm))]
            have h14 : φ' 14 (mm_nr h.1 14) = qa := by rw [hφ']; simp
            have h15 : ∀ j, j < 6 → φ' 15 (mm_nr h.1 15 + j) = r j := by
              intro j hj
              rw [hφ']
              dsimp only
              rw [if_neg (by omega), if_pos ⟨rfl, by omega, by omega⟩, show mm_nr h.1 15 + j - mm_nr h.1 15 = j by omega]
            obtain ⟨R', hR'⟩ : ∃ R' : mm_HR, R' = fun c i j => if c = 114 ∧ i = mm_nr h.1 14 ∧ j < 6 then (15, mm_nr h.1 15 + j) else h.2.2.2 c i j := ⟨_, rfl⟩
            obtain ⟨I', hI'⟩ : ∃ I' : mm_HI, I' = fun c i j => if c = 115 ∧ mm_nr h.1 15 ≤ i ∧ i < mm_nr h.1 15 + 6 then 0 else h.2.1 c i j := ⟨_, rfl⟩
            rw [← hR'] at kk
            have k14 : mm_kd 14 = 3 := by decide +kernel
            have k15 : mm_kd 15 = 1 := by decide +kernel
            have l14 : mm_ln 14 = 6 := by decide +kernel
            have l15 : mm_ln 15 = 6 := by decide +kernel
            have x14 : mm_ax 14 = 5 := by decide +kernel
            have x15 : mm_ax 15 = 0 := by decide +kernel
            have hold : ∀ z ∈ h.1, mm_ce aC φ' (h.1 ++ [(14, mm_nr h.1 14)] ++ (List.range 6).map (fun j => (15, mm_nr h.1 15 + j)), I', h.2.2.1, R') z = mm_ce aC φ h z := by
              intro z hzm
              have e1 : mm_ce aC φ' (h.1 ++ [(14, mm_nr h.1 14)] ++ (List.range 6).map (fun j => (15, mm_nr h.1 15 + j)), I', h.2.2.1, R') z = mm_ce aC φ' (h.1, h.2.1, h.2.2.1, R') z := by
                have key : ∀ c, (c ≠ 115 ∨ z.1 = 15) → I' c z.2 = h.2.1 c z.2 := by
                  intro c hc9
                  funext j
                  rw [hI']
                  dsimp only
                  rw [if_neg]
                  rintro ⟨e1, e2, e3⟩
                  rcases hc9 with q | q
                  · exact q e1
                  · exact hnots (z.2 - mm_nr h.1 15) (by omega) (by rw [show mm_nr h.1 15 + (z.2 - mm_nr h.1 15) = z.2 by omega, ← q]; exact hzm)
                unfold mm_ce
                split
                next hk =>
                  refine congrArg _ (congrArg _ (List.map_congr_left fun f hf => ?_))
                  obtain ⟨x, hx9⟩ := List.getElem?_of_mem hf
                  have hfx := mm_fsx (c := f.1) (ty := f.2) hx9
                  unfold mm_fv
                  dsimp only
                  rw [key f.1 (Or.inl (by omega))]
                next hk =>
                  dsimp only
                  rw [key (100 + z.1) (by omega)]
              rw [e1]
              refine mm_ce_re (h' := (h.1, h.2.1, h.2.2.1, R')) hzm rfl rfl (fun c9 i9 j9 hcond => ?_) (Or.inl hnot) hph (ho1 z hzm) (ho2 z hzm)
              rcases hcond with q | q
              · show R' c9 i9 j9 = _
                rw [hR']
                dsimp only
                rw [if_neg (fun e => q (by rw [e.1, e.2.1]))]
              · exact congrFun (congrFun (congrFun q c9) i9) j9
            have hw : mm_ws aC φ' (h.1 ++ [(14, mm_nr h.1 14)] ++ (List.range 6).map (fun j => (15, mm_nr h.1 15 + j)), I', h.2.2.1, R') = (mm_ws aC φ h ++ [(qa, .inl (aC 5, 6, .inr (.inr (.inr (.inr (fun i => if i < 6 then some (r i) else none))))))]) ++ va_pl ([] ++ (List.range 6).map r) (vr_up (fun _ => .inr (0, [])) ((List.range 6).map r) (.inl (aC 0, 6, .inl (fun _ => 0)))) := by
              unfold mm_ws
              dsimp only
              rw [List.map_append, List.map_append]
              congr 1
              · congr 1
                · refine List.map_congr_left fun z hzm => ?_
                  rw [hph z hzm, hold z hzm]
                · show [(φ' 14 (mm_nr h.1 14), mm_ce aC φ' _ (14, mm_nr h.1 14))] = _
                  rw [h14]
                  unfold mm_ce
                  have n0 : ¬ mm_kd 14 = 0 := by omega
                  rw [if_neg n0, if_pos k14, x14, l14]
                  refine congrArg (fun f => [(qa, Sum.inl (aC 5, 6, Sum.inr (Sum.inr (Sum.inr (Sum.inr f)))))]) (funext fun j => ?_)
                  dsimp only
                  split
                  next hj =>
                    rw [hR']
                    dsimp only
                    rw [if_pos ⟨rfl, rfl, hj⟩]
                    unfold mm_or
                    rw [if_neg (by show ¬ (15 : Nat) = 0; decide)]
                    exact congrArg some (h15 j hj)
                  next => rfl
              · unfold va_pl
                rw [List.nil_append, List.map_map, List.map_map]
                refine List.map_congr_left fun j hj => ?_
                have hj := List.mem_range.mp hj
                show (φ' 15 (mm_nr h.1 15 + j), mm_ce aC φ' _ (15, mm_nr h.1 15 + j)) = (r j, vr_up _ _ _ (r j))
                rw [h15 j hj, vr_up_in (List.mem_map.mpr ⟨j, List.mem_range.mpr hj, rfl⟩)]
                unfold mm_ce
                have n0 : ¬ mm_kd 15 = 0 := by omega
                have n3 : ¬ mm_kd 15 = 3 := by omega
                rw [if_neg n0, if_neg n3, x15, l15]
                refine congrArg (fun f => (r j, Sum.inl (aC 0, 6, Sum.inl f))) (funext fun x => ?_)
                rw [hI']
                dsimp only
                rw [if_pos ⟨rfl, by omega, by omega⟩]
            have hag : mm_agr (h.1 ++ [(14, mm_nr h.1 14)] ++ (List.range 6).map (fun j => (15, mm_nr h.1 15 + j)), I', h.2.2.1, R') (h.1 ++ [(14, mm_nr h.1 14)] ++ (List.range 6).map (fun j => (15, mm_nr h.1 15 + j)), h.2.1, h.2.2.1, R') := by
              refine ⟨rfl, fun z hzm => ⟨fun _ f hf => ⟨fun _ _ => ?_, fun _ => rfl, fun _ => rfl⟩, fun n0 n3 j hj => ?_, fun _ _ _ => rfl⟩⟩
              · obtain ⟨x, hx9⟩ := List.getElem?_of_mem hf
                have hfx := mm_fsx (c := f.1) (ty := f.2) hx9
                show h.2.1 f.1 z.2 0 = I' f.1 z.2 0
                rw [hI']
                dsimp only
                rw [if_neg (by omega)]
              · show h.2.1 (100 + z.1) z.2 j = I' (100 + z.1) z.2 j
                rw [hI']
                dsimp only
                split
                next e =>
                  have e15 : z.1 = 15 := by omega
                  rw [e15, l15] at hj
                  have := hz (z.2 - mm_nr h.1 15) (by omega) j hj
                  rw [show mm_nr h.1 15 + (z.2 - mm_nr h.1 15) = z.2 by omega] at this
                  rw [e15]
                  exact this
                next => rfl
            have hPa : va_P D mm_cls (mm_ws aC φ' (h.1 ++ [(14, mm_nr h.1 14)] ++ (List.range 6).map (fun j => (15, mm_nr h.1 15 + j)), I', h.2.2.1, R')) H1 := by rw [hw]; exact hP1
            have hDa : va_D A (mm_ws aC φ' (h.1 ++ [(14, mm_nr h.1 14)] ++ (List.range 6).map (fun j => (15, mm_nr h.1 15 + j)), I', h.2.2.1, R')) := by rw [hw]; exact hD1
            have := kk φ' H1 hph (mm_P_agr hag hPa) (mm_D_agr hag hDa) hS1
            simp only [List.map_cons, mm_cv_re hph hst'] at this
            simp only [mm_cv, h14] at this
            exact this
        next => cases hs
      next => cases hs
    next => cases hc
  | op + 4, hc, hs => simp [mm_c4] at hc
end MMN
end
section
/-! the machine's invariants; calls, answers; every run of the machine is the bytecode's -/
def mm_okH (h : mm_H) : Prop := (∀ q ∈ h.1, q.1 = 3 → q.2 < 4) ∧ (∀ q ∈ h.1, ∀ f ∈ mm_fs q.1, f.2 = 2 → (h.2.2.2 f.1 q.2 0).1 = 0 ∨ h.2.2.2 f.1 q.2 0 ∈ h.1) ∧ (∀ q ∈ h.1, mm_kd q.1 = 3 → ∀ j, j < mm_ln q.1 → (h.2.2.2 (100 + q.1) q.2 j).1 = 0 ∨ h.2.2.2 (100 + q.1) q.2 j ∈ h.1)
def mm_okS (h : mm_H) (st : List mm_V) : Prop := ∀ v ∈ st, mm_okV h v
def mm_okL (h : mm_H) (la : List (Option mm_V)) : Prop := ∀ v, some v ∈ la → mm_okV h v
theorem mm_okI (h : mm_H) (x : Int32) : mm_okV h (.inl x) := fun q e => by cases e
theorem mm_okJ (h : mm_H) (x : Int64) : mm_okV h (.inr (.inl x)) := fun q e => by cases e
theorem mm_ps_ok {op b : Nat} {c : Int} {st st' : List mm_V} {h : mm_H} (hs0 : mm_ps op b c st = some st') (ho : mm_okS h st) : mm_okS h st' := by
  intro v hv
  match op, hs0 with
  | 0, hs =>
    simp only [mm_ps] at hs
    cases hs; rcases List.mem_cons.mp hv with rfl | hv; exact mm_okI _ _; exact ho v hv
  | 1, hs =>
    simp only [mm_ps] at hs
    cases hs; rcases List.mem_cons.mp hv with rfl | hv; exact mm_okJ _ _; exact ho v hv
  | 2, hs =>
    simp only [mm_ps] at hs
    split at hs
    next => cases hs; rcases List.mem_cons.mp hv with rfl | hv; exact mm_okI _ _; exact ho v (by simp [hv])
    next => cases hs
  | 3, hs =>
    simp only [mm_ps] at hs
    split at hs
    next =>
      split at hs
      next => cases hs
      next => cases hs; rcases List.mem_cons.mp hv with rfl | hv; exact mm_okJ _ _; exact ho v (by simp [hv])
    next => cases hs
  | 4, hs =>
    simp only [mm_ps] at hs
    split at hs
    next => cases hs; rcases List.mem_cons.mp hv with rfl | hv; exact mm_okJ _ _; exact ho v (by simp [hv])
    next => cases hs
  | 5, hs =>
    simp only [mm_ps] at hs
    split at hs
    next => cases hs; rcases List.mem_cons.mp hv with rfl | hv; exact mm_okJ _ _; exact ho v (by simp [hv])
    next => cases hs; rcases List.mem_cons.mp hv with rfl | hv; exact mm_okI _ _; exact ho v (by simp [hv])
    next => cases hs; rcases List.mem_cons.mp hv with rfl | hv; exact mm_okI _ _; exact ho v (by simp [hv])
    next => cases hs
  | 6, hs =>
    simp only [mm_ps] at hs
    split at hs
    next =>
      split at hs
      next => cases hs; exact ho v (by simpa using hv)
      next => cases hs
    next => cases hs
  | 7, hs =>
    simp only [mm_ps] at hs
    split at hs
    next =>
      split at hs
      next =>
        cases hs
        simp only [List.mem_cons] at hv
        exact ho v (by simp only [List.mem_cons]; rcases hv with q | q | q | q | q <;> simp [q])
      next => cases hs
    next => cases hs
  | op + 8, hs => simp [mm_ps] at hs
theorem mm_br_ok {op nx a b : Nat} {c : Int} {l : List Nat} {st : List mm_V} {q : Nat × List mm_V} {h : mm_H} (hs0 : mm_br op nx a b c l st = some q) (ho : mm_okS h st) : mm_okS h q.2 := by
  intro v hv
  match op, hs0 with
  | 0, hs =>
    simp only [mm_br] at hs
    split at hs
    next => cases hs; exact ho v (List.mem_cons_of_mem _ hv)
    next => cases hs
  | 1, hs =>
    simp only [mm_br] at hs
    split at hs
    next => cases hs; exact ho v (List.mem_cons_of_mem _ (List.mem_cons_of_mem _ hv))
    next => cases hs
  | 2, hs =>
    simp only [mm_br] at hs
    cases hs; exact ho v hv
  | 3, hs =>
    simp only [mm_br] at hs
    split at hs
    next => cases hs; exact ho v (List.mem_cons_of_mem _ hv)
    next => cases hs
  | 4, hs =>
    simp only [mm_br] at hs
    split at hs
    next => cases hs; exact ho v (List.mem_cons_of_mem _ hv)
    next => cases hs
  | op + 5, hs => simp [mm_br] at hs
theorem mm_mem_set {α : Type} {l : List α} {i : Nat} {x y : α} (h : x ∈ l.set i y) : x ∈ l ∨ x = y := List.mem_or_eq_of_mem_set h
theorem mm_lo_ok {op a b : Nat} {c : Int} {la : List (Option mm_V)} {st : List mm_V} {q : List (Option mm_V) × List mm_V} {h : mm_H} (hs0 : mm_lo op a b c la st = some q) (hl : mm_okL h la) (ho : mm_okS h st) : mm_okL h q.1 ∧ mm_okS h q.2 := by
  match op, hs0 with
  | 0, hs =>
    simp only [mm_lo] at hs
    split at hs
    next v hv =>
      split at hs
      next =>
        cases hs
        refine ⟨hl, fun w hw => ?_⟩
        rcases List.mem_cons.mp hw with rfl | hw
        · exact hl w (List.mem_of_getElem? hv)
        · exact ho w hw
      next => cases hs
    next => cases hs
  | 1, hs =>
    simp only [mm_lo] at hs
    split at hs
    next v r =>
      have hv := ho v List.mem_cons_self
      have hr : mm_okS h r := fun w hw => ho w (List.mem_cons_of_mem _ hw)
      split at hs
      next =>
        split at hs
        next =>
          split at hs
          next =>
            cases hs
            refine ⟨fun w hw => ?_, hr⟩
            rcases mm_mem_set hw with z | z
            · rcases mm_mem_set z with z | z
              · exact hl w z
              · cases z; exact hv
            · cases z
          next => cases hs
        next =>
          split at hs
          next =>
            cases hs
            refine ⟨fun w hw => ?_, hr⟩
            rcases mm_mem_set hw with z | z
            · exact hl w z
            · cases z; exact hv
          next => cases hs
      next => cases hs
    next => cases hs
  | 2, hs =>
    simp only [mm_lo] at hs
    split at hs
    next x hv =>
      split at hs
      next =>
        cases hs
        refine ⟨fun w hw => ?_, ho⟩
        rcases mm_mem_set hw with z | z
        · exact hl w z
        · cases z; exact mm_okI _ _
      next => cases hs
    next => cases hs
  | op + 3, hs => simp [mm_lo] at hs
theorem mm_okH_same {h h' : mm_H} (h1 : h'.1 = h.1) (h2 : h'.2.2.2 = h.2.2.2) (ho : mm_okH h) : mm_okH h' := by
  unfold mm_okH
  rw [h1, h2]
  exact ho
theorem mm_okS_same {h h' : mm_H} (h1 : h'.1 = h.1) {st : List mm_V} (ho : mm_okS h st) : mm_okS h' st := fun v hv q e => by rw [h1]; exact ho v hv q e
theorem mm_okH_uR {h : mm_H} {c i j : Nat} {q : Nat × Nat} (hq : q ∈ h.1) (ho : mm_okH h) : mm_okH (h.1, h.2.1, h.2.2.1, mm_uR h.2.2.2 c i j q) := by
  refine ⟨ho.1, fun z hz f hf h2 => ?_, fun z hz hk x hx => ?_⟩
  · show (mm_uR h.2.2.2 c i j q f.1 z.2 0).1 = 0 ∨ mm_uR h.2.2.2 c i j q f.1 z.2 0 ∈ h.1
    unfold mm_uR
    split
    next => exact Or.inr hq
    next => exact ho.2.1 z hz f hf h2
  · show (mm_uR h.2.2.2 c i j q (100 + z.1) z.2 x).1 = 0 ∨ mm_uR h.2.2.2 c i j q (100 + z.1) z.2 x ∈ h.1
    unfold mm_uR
    split
    next => exact Or.inr hq
    next => exact ho.2.2 z hz hk x hx
theorem mm_hp_ok {m op a b : Nat} {i : Instr} {n : Nat} {st : List mm_V} {h : mm_H} {q : List mm_V × mm_H} (hc0 : mm_c3 m op a b i n = true) (hs0 : mm_hp op a b st h = some q) (hH : mm_okH h) (ho : mm_okS h st) : q.2.1 = h.1 ∧ mm_okH q.2 ∧ mm_okS q.2 q.1 := by
  match op, hc0, hs0 with
  | 0, hc, hs =>
    simp only [mm_c3] at hc
    simp only [mm_hp] at hs
    split at hs
    next r i' t =>
      have ht : mm_okS h t := fun w hw => ho w (List.mem_cons_of_mem _ hw)
      split at hs
      next hr =>
        split at hs
        next => cases hs; exact ⟨rfl, hH, fun w hw => by rcases List.mem_cons.mp hw with rfl | hw; exact mm_okI _ _; exact ht w hw⟩
        next => cases hs; exact ⟨rfl, hH, fun w hw => by rcases List.mem_cons.mp hw with rfl | hw; exact mm_okJ _ _; exact ht w hw⟩
        next =>
          split at hs
          next => cases hs
          next hne =>
            cases hs
            refine ⟨rfl, hH, fun w hw => ?_⟩
            rcases List.mem_cons.mp hw with rfl | hw
            · intro z hz
              cases hz
              split at hc
              next k =>
                simp only [Bool.and_eq_true, beq_iff_eq, decide_eq_true_eq] at hc
                have hx := mm_cx hc.2
                subst hr
                rcases hH.2.1 _ (ho _ List.mem_cons_self _ rfl) _ (List.mem_of_getElem? hx.1) hc.1.2.symm with z | z
                · exact absurd z hne
                · exact z
              next => cases hc
            · exact ht w hw
        next => cases hs; exact ⟨rfl, hH, fun w hw => by rcases List.mem_cons.mp hw with rfl | hw; exact mm_okI _ _; exact ht w hw⟩
        next => cases hs
      next => cases hs
    next => cases hs
  | 1, hc, hs =>
    simp only [mm_c3] at hc
    simp only [mm_hp] at hs
    split at hs
    next x r i' t =>
      split at hs
      next => cases hs; exact ⟨rfl, mm_okH_same rfl rfl hH, fun w hw => ho w (by simp [hw])⟩
      next => cases hs
    next x r i' t =>
      split at hs
      next => cases hs; exact ⟨rfl, mm_okH_same rfl rfl hH, fun w hw => ho w (by simp [hw])⟩
      next => cases hs
    next qv r i' t =>
      split at hs
      next => cases hs; exact ⟨rfl, mm_okH_uR (ho _ List.mem_cons_self _ rfl) hH, fun w hw => ho w (by simp [hw])⟩
      next => cases hs
    next x r i' t =>
      split at hs
      next => cases hs; exact ⟨rfl, mm_okH_same rfl rfl hH, fun w hw => ho w (by simp [hw])⟩
      next => cases hs
    next => cases hs
  | 2, hc, hs =>
    simp only [mm_c3] at hc
    simp only [mm_hp] at hs
    split at hs
    next x r i' t =>
      have ht : mm_okS h t := fun w hw => ho w (by simp [hw])
      split at hs
      next hr =>
        split at hs
        next => cases hs; exact ⟨rfl, hH, fun w hw => by rcases List.mem_cons.mp hw with rfl | hw; exact mm_okI _ _; exact ht w hw⟩
        next => cases hs; exact ⟨rfl, hH, fun w hw => by rcases List.mem_cons.mp hw with rfl | hw; exact mm_okI _ _; exact ht w hw⟩
        next =>
          split at hs
          next => cases hs
          next hne =>
            cases hs
            refine ⟨rfl, hH, fun w hw => ?_⟩
            rcases List.mem_cons.mp hw with rfl | hw
            · intro z hz
              cases hz
              rcases hH.2.2 (r, i') (ho _ (List.mem_cons_of_mem _ List.mem_cons_self) _ rfl) hr.1 _ (of_decide_eq_true hr.2).2 with z | z
              · exact absurd z hne
              · exact z
            · exact ht w hw
        next => cases hs
      next => cases hs
    next => cases hs
  | 3, hc, hs =>
    simp only [mm_c3] at hc
    simp only [mm_hp] at hs
    split at hs
    next =>
      split at hs
      next => cases hs; exact ⟨rfl, mm_okH_same rfl rfl hH, fun w hw => ho w (by simp [hw])⟩
      next => cases hs
    next =>
      split at hs
      next => cases hs; exact ⟨rfl, mm_okH_same rfl rfl hH, fun w hw => ho w (by simp [hw])⟩
      next => cases hs
    next qv x r i' t =>
      split at hs
      next => cases hs; exact ⟨rfl, mm_okH_uR (ho _ List.mem_cons_self _ rfl) hH, fun w hw => ho w (by simp [hw])⟩
      next => cases hs
    next => cases hs
  | 4, hc, hs =>
    simp only [mm_c3] at hc
    simp only [mm_hp] at hs
    split at hs
    next =>
      split at hs
      next => cases hs; exact ⟨rfl, hH, fun w hw => by rcases List.mem_cons.mp hw with rfl | hw; exact mm_okI _ _; exact ho w (by simp [hw])⟩
      next => cases hs
    next => cases hs
  | 5, hc, hs =>
    simp only [mm_c3] at hc
    simp only [mm_hp] at hs
    split at hs
    next =>
      split at hs
      next => cases hs; exact ⟨rfl, mm_okH_same rfl rfl hH, fun w hw => by cases hw⟩
      next => cases hs
    next => cases hs
  | 6, hc, hs =>
    simp only [mm_c3] at hc
    simp only [mm_hp] at hs
    split at hs
    next =>
      split at hs
      next => cases hs; exact ⟨rfl, hH, fun w hw => by rcases List.mem_cons.mp hw with rfl | hw; exact mm_okI _ _; exact ho w (by simp [hw])⟩
      next => cases hs
    next => cases hs
  | 7, hc, hs =>
    simp only [mm_c3] at hc
    simp only [mm_hp] at hs
    split at hs
    next => cases hs; exact ⟨rfl, hH, fun w hw => by cases hw⟩
    next => cases hs
  | 8, hc, hs =>
    simp only [mm_c3] at hc
    simp only [mm_hp] at hs
    split at hs
    next =>
      split at hs
      next => cases hs; exact ⟨rfl, hH, fun w hw => by rcases List.mem_cons.mp hw with rfl | hw; exact mm_okI _ _; exact ho w (by simp [hw])⟩
      next => cases hs
    next => cases hs
  | op + 9, hc, hs => simp [mm_hp] at hs
/-- the tables of an entry -/
theorem mm_fetch_ck {m pc : Nat} {e : mm_E} (hm : m < 178) (hf : mm_fetch m pc = some e) : ∃ (i : Instr) (n : Nat), decode (mm_bc m) pc = .ok (i, n) ∧ e.2.2.1 = pc + n ∧ mm_ci m pc e i n = true := by
  have h1 := List.all_eq_true.mp (mm_kall m hm) _ (mm_lookup_mem hf)
  simp only [mm_ck] at h1
  split at h1
  next i n hd =>
    simp only [Bool.and_eq_true, decide_eq_true_eq] at h1
    exact ⟨i, n, hd, h1.1, h1.2⟩
  next => cases h1
theorem mm_cl_ok {op a b : Nat} {st : List mm_V} {h : mm_H} {q : Nat × List mm_V × List mm_V} (hs0 : mm_cl op a b st = some q) (ho : mm_okS h st) : mm_okS h q.2.1 ∧ mm_okS h q.2.2 := by
  have h1 : mm_okS h (st.take b).reverse := fun v hv => ho v (List.mem_of_mem_take (List.mem_reverse.mp hv))
  have h2 : mm_okS h (st.drop b) := fun v hv => ho v (List.mem_of_mem_drop hv)
  match op, hs0 with
  | 0, hs =>
    simp only [mm_cl] at hs
    split at hs
    next => cases hs; exact ⟨h1, h2⟩
    next => cases hs
  | 1, hs =>
    simp only [mm_cl] at hs
    split at hs
    next r i t e =>
      rw [e] at h2
      split at hs
      next => cases hs; exact ⟨fun v hv => by rcases List.mem_cons.mp hv with rfl | hv; exact h2 _ List.mem_cons_self; exact h1 v hv, fun v hv => h2 v (List.mem_cons_of_mem _ hv)⟩
      next => cases hs
    next => cases hs
  | 2, hs =>
    simp only [mm_cl] at hs
    split at hs
    next r i t e =>
      rw [e] at h2
      split at hs
      next => cases hs; exact ⟨fun v hv => by rcases List.mem_cons.mp hv with rfl | hv; exact h2 _ List.mem_cons_self; exact h1 v hv, fun v hv => h2 v (List.mem_cons_of_mem _ hv)⟩
      next => cases hs
    next => cases hs
  | 3, hs =>
    simp only [mm_cl] at hs
    split at hs
    next r i t e =>
      rw [e] at h2
      split at hs
      next => cases hs; exact ⟨fun v hv => by rcases List.mem_cons.mp hv with rfl | hv; exact h2 _ List.mem_cons_self; exact h1 v hv, fun v hv => h2 v (List.mem_cons_of_mem _ hv)⟩
      next => cases hs
    next => cases hs
  | op + 4, hs => simp [mm_cl] at hs
theorem mm_il_ok {n : Nat} {as : List mm_V} {h : mm_H} (ho : mm_okS h as) : mm_okL h (mm_il n as) := by
  intro v hv
  unfold mm_il at hv
  rcases List.mem_append.mp hv with hv | hv
  · obtain ⟨w, hw, hv⟩ := List.mem_flatMap.mp hv
    split at hv
    next => rcases List.mem_cons.mp hv with e | e; cases e; exact ho v hw; rcases List.mem_cons.mp e with e | e; cases e; cases e
    next => rcases List.mem_cons.mp hv with e | e; cases e; exact ho v hw; cases e
  · have := List.eq_of_mem_replicate hv
    cases this
theorem mm_re_ok {m op : Nat} {st : List mm_V} {h : mm_H} {v : Option mm_V} (hs0 : mm_re m op st = some v) : ∀ x, v = some x → mm_okV h x := by
  intro x hx
  subst hx
  match op, hs0 with
  | 0, hs =>
    simp only [mm_re] at hs
    split at hs
    next =>
      split at hs
      next => cases hs; exact mm_okI _ _
      next => cases hs
    next => cases hs
  | 1, hs =>
    simp only [mm_re] at hs
    split at hs
    next =>
      split at hs
      next => cases hs; exact mm_okJ _ _
      next => cases hs
    next => cases hs
  | 2, hs =>
    simp only [mm_re] at hs
    split at hs
    next =>
      split at hs
      next => cases hs
      next => cases hs
    next => cases hs
  | op + 3, hs => simp [mm_re] at hs
end
section
/-! a run's first step, by kinds; the invariants of runs -/
theorem mm_run_cases {n m pc : Nat} {la : List (Option mm_V)} {st : List mm_V} {uc us : Nat} {h h' : mm_H} {v : Option mm_V} (hm : m < 178) (hr : mm_run (n + 1) (m, pc, la, st, uc, us) h = some (v, h')) :
    ∃ (op a b : Nat) (c : Int) (l : List Nat) (i : Instr) (k : Nat), decode (mm_bc m) pc = .ok (i, k) ∧
      ((mm_c0 m op a b c i k = true ∧ ∃ st', mm_ps op b c st = some st' ∧ mm_run n (m, pc + k, la, st', uc, us) h = some (v, h')) ∨
       (mm_c1 pc op a b c l i k = true ∧ ∃ q, mm_br op (pc + k) a b c l st = some q ∧ mm_run n (m, q.1, la, q.2, uc, us) h = some (v, h')) ∨
       (mm_c2 op a b c i k = true ∧ ∃ q, mm_lo op a b c la st = some q ∧ mm_run n (m, pc + k, q.1, q.2, uc, us) h = some (v, h')) ∨
       (mm_c3 m op a b i k = true ∧ ∃ q, mm_hp op a b st h = some q ∧ mm_run n (m, pc + k, la, q.1, uc, us) q.2 = some (v, h')) ∨
       (mm_c4 m op a b l i k = true ∧ ∃ q, mm_al op a b st h = some q ∧ uc + q.2.2.1 ≤ mm_mc m ∧ us + q.2.2.2 ≤ mm_ms m ∧ mm_run n (m, pc + k, la, q.1, uc + q.2.2.1, us + q.2.2.2) q.2.1 = some (v, h')) ∨
       (mm_c5 m op a b i k = true ∧ ∃ q w h1, mm_cl op a b st = some q ∧ uc + mm_mc q.1 ≤ mm_mc m ∧ us + mm_ms q.1 ≤ mm_ms m ∧ (q.2.2.map mm_cat).sum ≤ 8 ∧ (mm_sp q.2.1).length ≤ mm_mL q.1 ∧ mm_run n (q.1, 0, mm_il (mm_mL q.1) q.2.1, [], 0, 0) h = some (w, h1) ∧ mm_run n (m, pc + k, la, w.toList ++ q.2.2, uc + mm_mc q.1, us + mm_ms q.1) h1 = some (v, h')) ∨
       (mm_c6 op i k = true ∧ mm_re m op st = some v ∧ h' = h)) := by
  unfold mm_run at hr
  cases hf : mm_fetch m pc with
  | none => simp [hf] at hr
  | some e =>
    obtain ⟨i, k, hd, hnx, hci⟩ := mm_fetch_ck hm hf
    obtain ⟨cat, op, nx, a, b, c, l⟩ := e
    simp only [hf] at hr
    simp only at hnx
    subst hnx
    refine ⟨op, a, b, c, l, i, k, hd, ?_⟩
    match cat, hr, hci with
    | 0, hr, hci =>
      simp only [mm_ci] at hci
      simp only at hr
      split at hr
      next st' hs => exact Or.inl ⟨hci, st', hs, hr⟩
      next => cases hr
    | 1, hr, hci =>
      simp only [mm_ci] at hci
      simp only at hr
      split at hr
      next q hs => exact Or.inr (Or.inl ⟨hci, q, hs, hr⟩)
      next => cases hr
    | 2, hr, hci =>
      simp only [mm_ci] at hci
      simp only at hr
      split at hr
      next q hs => exact Or.inr (Or.inr (Or.inl ⟨hci, q, hs, hr⟩))
      next => cases hr
    | 3, hr, hci =>
      simp only [mm_ci] at hci
      simp only at hr
      split at hr
      next q hs => exact Or.inr (Or.inr (Or.inr (Or.inl ⟨hci, q, hs, hr⟩)))
      next => cases hr
    | 4, hr, hci =>
      simp only [mm_ci] at hci
      simp only at hr
      split at hr
      next q hs =>
        split at hr
        next hle => exact Or.inr (Or.inr (Or.inr (Or.inr (Or.inl ⟨hci, q, hs, hle.1, hle.2, hr⟩))))
        next => cases hr
      next => cases hr
    | 5, hr, hci =>
      simp only [mm_ci] at hci
      simp only at hr
      split at hr
      next q hs =>
        split at hr
        next hle =>
          split at hr
          next w hw => exact Or.inr (Or.inr (Or.inr (Or.inr (Or.inr (Or.inl ⟨hci, q, w.1, w.2, hs, hle.1, hle.2.1, hle.2.2.1, hle.2.2.2, hw, hr⟩)))))
          next => cases hr
        next => cases hr
      next => cases hr
    | 6, hr, hci =>
      simp only [mm_ci] at hci
      simp only at hr
      split at hr
      next w hs =>
        cases hr
        exact Or.inr (Or.inr (Or.inr (Or.inr (Or.inr (Or.inr ⟨hci, hs, rfl⟩)))))
      next => cases hr
    | cat + 7, hr, hci => simp [mm_ci] at hci
theorem mm_cl_cw {m op a b k : Nat} {i : Instr} {st : List mm_V} {q : Nat × List mm_V × List mm_V} (hc0 : mm_c5 m op a b i k = true) (hs0 : mm_cl op a b st = some q) : mm_cw m q.1 = true := by
  match op, hc0, hs0 with
  | 0, hc, hs =>
    simp only [mm_c5] at hc
    simp only [mm_cl] at hs
    split at hs
    next =>
      cases hs
      split at hc
      next => simp only [Bool.and_eq_true] at hc; exact hc.2
      next => cases hc
    next => cases hs
  | 1, hc, hs =>
    simp only [mm_c5] at hc
    simp only [mm_cl] at hs
    split at hs
    next =>
      split at hs
      next =>
        cases hs
        split at hc
        next => simp only [Bool.and_eq_true] at hc; exact hc.2
        next => cases hc
      next => cases hs
    next => cases hs
  | 2, hc, hs =>
    simp only [mm_c5] at hc
    simp only [mm_cl] at hs
    split at hs
    next =>
      split at hs
      next =>
        cases hs
        split at hc
        next => simp only [Bool.and_eq_true] at hc; exact hc.2
        next => cases hc
      next => cases hs
    next => cases hs
  | 3, hc, hs =>
    simp only [mm_c5] at hc
    simp only [mm_cl] at hs
    split at hs
    next r i' t e9 =>
      split at hs
      next hh =>
        cases hs
        split at hc
        next =>
          simp only [Bool.and_eq_true] at hc
          have h4 := hh.2
          match i', h4 with
          | 0, _ => exact hc.1.1.1.2
          | 1, _ => exact hc.1.1.2
          | 2, _ => exact hc.1.2
          | 3, _ => exact hc.2
          | i' + 4, h4 => omega
        next => cases hc
      next => cases hs
    next => cases hs
  | op + 4, hc, hs => simp [mm_cl] at hs
theorem mm_cw_lt {m y : Nat} (h : mm_cw m y = true) : mm_rf y + 1 ≤ mm_rf m ∧ 8 + (mm_mL y + 11) + mm_rl y ≤ mm_rl m ∧ y < 178 := by
  simp only [mm_cw, Bool.and_eq_true, decide_eq_true_eq] at h
  exact ⟨h.1.1, h.1.2, h.2⟩
set_option maxRecDepth 100000 in
theorem mm_s7 : (List.range 47).all (fun r => decide (mm_kd r = 0) || decide (mm_fs r = [])) = true := by decide +kernel
theorem mm_fs_nil {r : Nat} (h : mm_kd r ≠ 0) : mm_fs r = [] := by
  by_cases hr : r < 47
  · have := List.all_eq_true.mp mm_s7 r (List.mem_range.mpr hr)
    simp only [Bool.or_eq_true, decide_eq_true_eq] at this
    rcases this with q | q
    · exact absurd q h
    · exact q
  · exact mm_fs_ge (by omega)
theorem mm_kd3 : mm_kd 3 = 0 := by decide +kernel
theorem mm_okV_mono {h h' : mm_H} (hi : ∀ z ∈ h.1, z ∈ h'.1) {v : mm_V} (hv : mm_okV h v) : mm_okV h' v := fun q e => hi q (hv q e)
theorem mm_al_ok {op a b : Nat} {st : List mm_V} {h : mm_H} {q : List mm_V × mm_H × Nat × Nat} (hs0 : mm_al op a b st h = some q) (hH : mm_okH h) (ho : mm_okS h st) : (∀ z ∈ h.1, z ∈ q.2.1.1) ∧ mm_okH q.2.1 ∧ mm_okS q.2.1 q.1 := by
  have one : ∀ (a : Nat) (t : List mm_V), mm_okS h t → (a = 3 → mm_nr h.1 a < 4) → (mm_kd a = 0 → ∀ f ∈ mm_fs a, h.2.2.2 f.1 (mm_nr h.1 a) 0 = (0, 0)) → (mm_kd a = 3 → ∀ j, j < mm_ln a → h.2.2.2 (100 + a) (mm_nr h.1 a) j = (0, 0)) → (∀ z ∈ h.1, z ∈ h.1 ++ [(a, mm_nr h.1 a)]) ∧ mm_okH (h.1 ++ [(a, mm_nr h.1 a)], h.2) ∧ mm_okS (h.1 ++ [(a, mm_nr h.1 a)], h.2) (.inr (.inr (a, mm_nr h.1 a)) :: t) := by
    intro a t ht h3 hf0 hr0
    have hsub : ∀ z ∈ h.1, z ∈ h.1 ++ [(a, mm_nr h.1 a)] := fun z hz => List.mem_append_left _ hz
    refine ⟨hsub, ⟨fun z hz e => ?_, fun z hz f hf h2 => ?_, fun z hz hk j hj => ?_⟩, fun w hw => ?_⟩
    · rcases List.mem_append.mp hz with q | q
      · exact hH.1 z q e
      · rw [List.mem_singleton.mp q] at e ⊢
        exact h3 e
    · rcases List.mem_append.mp hz with q | q
      · rcases hH.2.1 z q f hf h2 with w | w
        · exact Or.inl w
        · exact Or.inr (hsub _ w)
      · rw [List.mem_singleton.mp q] at hf ⊢
        by_cases k0 : mm_kd a = 0
        · left
          show (h.2.2.2 f.1 (mm_nr h.1 a) 0).1 = 0
          rw [hf0 k0 f hf]
        · rw [mm_fs_nil k0] at hf
          cases hf
    · rcases List.mem_append.mp hz with q | q
      · rcases hH.2.2 z q hk j hj with w | w
        · exact Or.inl w
        · exact Or.inr (hsub _ w)
      · rw [List.mem_singleton.mp q] at hk hj ⊢
        left
        show (h.2.2.2 (100 + a) (mm_nr h.1 a) j).1 = 0
        rw [hr0 hk j hj]
    · rcases List.mem_cons.mp hw with rfl | hw
      · intro z e
        cases e
        exact List.mem_append_right _ (List.mem_singleton.mpr rfl)
      · exact mm_okV_mono (h' := (h.1 ++ [(a, mm_nr h.1 a)], h.2)) hsub (ht w hw)
  match op, hs0 with
  | 0, hs =>
    simp only [mm_al] at hs
    split at hs
    next hh =>
      cases hs
      obtain ⟨hco, hk, h3, hnot, ha0, hall⟩ := hh
      exact one a st ho h3 (fun _ f hf => by
        have := List.all_eq_true.mp hall f hf
        simp only [Bool.and_eq_true, beq_iff_eq] at this
        exact this.2) (fun h9 => by omega)
    next => cases hs
  | 1, hs =>
    simp only [mm_al] at hs
    split at hs
    next x t =>
      split at hs
      next hh =>
        cases hs
        obtain ⟨-, hk, hb, hnot, hall⟩ := hh
        exact one a t (fun w hw => ho w (List.mem_cons_of_mem _ hw)) (fun e => by rw [e, mm_kd3] at hk; omega) (fun h9 => by omega) (fun h9 => by omega)
      next => cases hs
    next => cases hs
  | 2, hs =>
    simp only [mm_al] at hs
    split at hs
    next x t =>
      split at hs
      next hh =>
        cases hs
        obtain ⟨-, hk, hnot, hall⟩ := hh
        exact one a t (fun w hw => ho w (List.mem_cons_of_mem _ hw)) (fun e => by rw [e, mm_kd3] at hk; omega) (fun h9 => by omega) (fun _ j hj => eq_of_beq (List.all_eq_true.mp hall j (List.mem_range.mpr hj)))
      next => cases hs
    next => cases hs
  | 3, hs =>
    simp only [mm_al] at hs
    split at hs
    next x y t =>
      split at hs
      next hh =>
        cases hs
        obtain ⟨-, -, -, -, hnot, hnots, hall⟩ := hh
        have k14 : mm_kd 14 = 3 := by decide +kernel
        have k15 : mm_kd 15 = 1 := by decide +kernel
        have l14 : mm_ln 14 = 6 := by decide +kernel
        have hsub : ∀ z ∈ h.1, z ∈ h.1 ++ [(14, mm_nr h.1 14)] ++ (List.range 6).map (fun j => (15, mm_nr h.1 15 + j)) := fun z hz => List.mem_append_left _ (List.mem_append_left _ hz)
        have hcs : ∀ z, z ∈ h.1 ++ [(14, mm_nr h.1 14)] ++ (List.range 6).map (fun j => (15, mm_nr h.1 15 + j)) → z ∈ h.1 ∨ z = (14, mm_nr h.1 14) ∨ ∃ j, j < 6 ∧ z = (15, mm_nr h.1 15 + j) := by
          intro z hz
          rcases List.mem_append.mp hz with q | q
          · rcases List.mem_append.mp q with q | q
            · exact Or.inl q
            · exact Or.inr (Or.inl (List.mem_singleton.mp q))
          · obtain ⟨j, hj, e⟩ := List.mem_map.mp q
            exact Or.inr (Or.inr ⟨j, List.mem_range.mp hj, e.symm⟩)
        refine ⟨hsub, ⟨fun z hz e => ?_, fun z hz f hf h2 => ?_, fun z hz hk j hj => ?_⟩, fun w hw => ?_⟩
        · rcases hcs z hz with q | q | ⟨j, hj, q⟩
          · exact hH.1 z q e
          · rw [q] at e; cases e
          · rw [q] at e; cases e
        · rcases hcs z hz with q | q | ⟨j, hj, q⟩
          · obtain ⟨x9, hx9⟩ := List.getElem?_of_mem hf
            have hfx := mm_fsx (c := f.1) (ty := f.2) hx9
            dsimp only
            rw [if_neg (by omega)]
            rcases hH.2.1 z q f hf h2 with w | w
            · exact Or.inl w
            · exact Or.inr (hsub _ w)
          · rw [q, mm_fs_nil (by rw [k14]; decide)] at hf; cases hf
          · rw [q, mm_fs_nil (by rw [k15]; decide)] at hf; cases hf
        · dsimp only
          split
          next e =>
            right
            exact List.mem_append_right _ (List.mem_map.mpr ⟨j, List.mem_range.mpr e.2.2, rfl⟩)
          next e =>
            rcases hcs z hz with q | q | ⟨j9, hj9, q⟩
            · rcases hH.2.2 z q hk j hj with w | w
              · exact Or.inl w
              · exact Or.inr (hsub _ w)
            · exfalso
              rw [q] at hj e
              rw [l14] at hj
              exact e ⟨rfl, rfl, hj⟩
            · rw [q, k15] at hk; omega
        · rcases List.mem_cons.mp hw with rfl | hw
          · intro z e
            cases e
            exact List.mem_append_left _ (List.mem_append_right _ (List.mem_singleton.mpr rfl))
          · exact fun z e => hsub z (ho w (by simp [hw]) z e)
      next => cases hs
    next => cases hs
  | op + 4, hs => simp [mm_al] at hs
theorem mm_okL_mono {h h' : mm_H} (hi : ∀ z ∈ h.1, z ∈ h'.1) {la : List (Option mm_V)} (hl : mm_okL h la) : mm_okL h' la := fun v hv => mm_okV_mono hi (hl v hv)
theorem mm_okS_mono {h h' : mm_H} (hi : ∀ z ∈ h.1, z ∈ h'.1) {st : List mm_V} (hl : mm_okS h st) : mm_okS h' st := fun v hv => mm_okV_mono hi (hl v hv)
theorem mm_run_ok : ∀ (n m pc : Nat) (la : List (Option mm_V)) (st : List mm_V) (uc us : Nat) (h h' : mm_H) (v : Option mm_V), m < 178 → mm_run n (m, pc, la, st, uc, us) h = some (v, h') → mm_okH h → mm_okL h la → mm_okS h st → mm_okH h' ∧ (∀ z ∈ h.1, z ∈ h'.1) ∧ ∀ x, v = some x → mm_okV h' x := by
  intro n
  induction n with
  | zero => intro m pc la st uc us h h' v hm hr; simp [mm_run] at hr
  | succ n ih =>
    intro m pc la st uc us h h' v hm hr hH hl ho
    obtain ⟨op, a, b, c, l, i, k, hd, hcs⟩ := mm_run_cases hm hr
    rcases hcs with ⟨-, st', hs, hr⟩ | ⟨-, q, hs, hr⟩ | ⟨-, q, hs, hr⟩ | ⟨hc, q, hs, hr⟩ | ⟨-, q, hs, -, -, hr⟩ | ⟨hc, q, w, h1, hs, -, -, -, -, hr1, hr⟩ | ⟨-, hs, rfl⟩
    · exact ih m _ la st' uc us h h' v hm hr hH hl (mm_ps_ok hs ho)
    · exact ih m _ la q.2 uc us h h' v hm hr hH hl (mm_br_ok hs ho)
    · obtain ⟨o1, o2⟩ := mm_lo_ok hs hl ho
      exact ih m _ q.1 q.2 uc us h h' v hm hr hH o1 o2
    · obtain ⟨o1, o2, o3⟩ := mm_hp_ok hc hs hH ho
      obtain ⟨g1, g2, g3⟩ := ih m _ la q.1 uc us q.2 h' v hm hr o2 (mm_okL_mono (fun z hz => by rw [o1]; exact hz) hl) o3
      exact ⟨g1, fun z hz => g2 z (by rw [o1]; exact hz), g3⟩
    · obtain ⟨o1, o2, o3⟩ := mm_al_ok hs hH ho
      obtain ⟨g1, g2, g3⟩ := ih m _ la q.1 _ _ q.2.1 h' v hm hr o2 (mm_okL_mono o1 hl) o3
      exact ⟨g1, fun z hz => g2 z (o1 z hz), g3⟩
    · obtain ⟨o1, o2⟩ := mm_cl_ok hs ho
      have hy := (mm_cw_lt (mm_cl_cw hc hs)).2.2
      obtain ⟨g1, g2, g3⟩ := ih q.1 0 _ [] 0 0 h h1 w hy hr1 hH (mm_il_ok o1) (fun x hx => by cases hx)
      obtain ⟨f1, f2, f3⟩ := ih m _ la _ _ _ h1 h' v hm hr g1 (mm_okL_mono g2 hl) (fun x hx => by
        rcases List.mem_append.mp hx with z | z
        · exact g3 x (by cases w with
            | none => cases z
            | some y => rw [Option.toList, List.mem_singleton] at z; rw [z])
        · exact mm_okV_mono g2 (o2 x z))
      exact ⟨f1, fun z hz => f2 z (g2 z hz), f3⟩
    · exact ⟨hH, fun z hz => hz, mm_re_ok hs⟩
end
section
/-! EVERY RUN OF THE MACHINE IS THE BYTECODE'S: a contract for every method at every picture -/
def mm_wm (m : Nat) : List Jvm.Cond := .code (mm_y m) (mm_bc m) (mm_mL m) (mm_rt m) :: mm_tb
def mm_rm (m : Nat) : Room := { frames := mm_rf m, cells := mm_mc m, slots := mm_ms m, locals := mm_rl m }
def mm_Pc (D : va_G) (aC : Nat → ClassId) (φ : Nat → Nat → Nat) (h : mm_H) (sz : Nat) (as : List mm_V) : Array Value → State → Prop := va_Pc (as.map (mm_cv φ)) (fun U => U.heap.size = sz ∧ va_P D mm_cls (mm_ws aC φ h) U.heap ∧ mm_K D aC U ∧ va_D (fun _ => True) (mm_ws aC φ h))
def mm_Qc (D : va_G) (aC : Nat → ClassId) (φ : Nat → Nat → Nat) (h : mm_H) (sz : Nat) (v : Option mm_V) (h' : mm_H) : Array Value → State → Outcome → State → Prop := fun _ st oc t =>
  (∃ φ' : Nat → Nat → Nat, (∀ z ∈ h.1, φ' z.1 z.2 = φ z.1 z.2) ∧ oc = .returned (v.map (mm_cv φ')) ∧ va_P D mm_cls (mm_ws aC φ' h') t.heap ∧ va_D (va_A (mm_ws aC φ h) sz) (mm_ws aC φ' h')) ∧ va_F (va_A (mm_ws aC φ h) sz) st t
theorem mm_good {w : Jvm.Cond} (h : w ∈ mm_tb) : (w.onTables && w.keeps) = true ∨ ∃ ty, w = .arrayClass ty := good_of_word (List.mem_filter.mp h).2
theorem mm_m_w {m : Nat} (hm : m < 178) : Jvm.Cond.code (mm_y m) (mm_bc m) (mm_mL m) (mm_rt m) ∈ mm_tb ∧ Jvm.Cond.initialized (mm_y m).cls ∈ mm_tb ∧ (parseMethodDescriptor (mm_y m).desc).map (fun d => d.parameters.length) = some (mm_na m) ∧ (mm_y m).cls ≠ "java/lang/invoke/MethodHandle" ∧ (mm_y m).cls ≠ "java/lang/invoke/VarHandle" ∧ plainName (mm_y m).cls = true := by
  have h := mm_mall m hm
  simp only [mm_mq, Bool.and_eq_true, decide_eq_true_eq] at h
  exact ⟨mm_tb_of h.1.1.1.1.1 rfl, mm_tb_of h.1.1.1.1.2 rfl, h.1.1.1.2, h.1.1.2, h.1.2, h.2⟩
theorem mm_wm_in {m : Nat} (hm : m < 178) : GoodIn mm_tb (mm_wm m) := by
  intro w hw
  rcases List.mem_cons.mp hw with rfl | h
  · exact ⟨(mm_m_w hm).1, mm_good (mm_m_w hm).1⟩
  · exact ⟨h, mm_good h⟩
theorem mm_sp_sl (φ : Nat → Nat → Nat) : ∀ (as : List mm_V), (lg_sl (as.map (mm_cv φ))).length = (mm_sp as).length ∧ ∀ (j : Nat) (v : mm_V), (mm_sp as)[j]? = some (some v) → (lg_sl (as.map (mm_cv φ)))[j]? = some (.val (mm_cv φ v))
  | [] => ⟨rfl, fun j v h => by simp [mm_sp] at h⟩
  | a :: as => by
    obtain ⟨h1, h2⟩ := mm_sp_sl φ as
    by_cases hc : mm_cat a = 2
    · have e1 : mm_sp (a :: as) = some a :: none :: mm_sp as := by simp [mm_sp, hc]
      have e2 : lg_sl ((a :: as).map (mm_cv φ)) = .val (mm_cv φ a) :: .second :: lg_sl (as.map (mm_cv φ)) := by simp [lg_sl, mm_cv_cat, hc]
      rw [e1, e2]
      refine ⟨by simp [h1], fun j v h => ?_⟩
      match j, h with
      | 0, h => simp at h; subst h; rfl
      | 1, h => simp at h
      | j + 2, h => simpa using h2 j v (by simpa using h)
    · have e1 : mm_sp (a :: as) = some a :: mm_sp as := by simp [mm_sp, hc]
      have e2 : lg_sl ((a :: as).map (mm_cv φ)) = .val (mm_cv φ a) :: lg_sl (as.map (mm_cv φ)) := by simp [lg_sl, mm_cv_cat, hc]
      rw [e1, e2]
      refine ⟨by simp [h1], fun j v h => ?_⟩
      match j, h with
      | 0, h => simp at h; subst h; rfl
      | j + 1, h => simpa using h2 j v (by simpa using h)
theorem mm_lr_entry {φ : Nat → Nat → Nat} {as : List mm_V} {n : Nat} (hn : (mm_sp as).length ≤ n) : mm_lr φ (mm_il n as) ((lg_sl (as.map (mm_cv φ)) ++ List.replicate (n - (lg_sl (as.map (mm_cv φ))).length) Slot.unset).toArray) n := by
  obtain ⟨h1, h2⟩ := mm_sp_sl φ as
  have he := lv_entry (as.map (mm_cv φ)) (n := n) (by rw [h1]; exact hn)
  refine ⟨by simp [mm_il]; omega, he.1, he.2.1, fun j v hj => ?_⟩
  unfold mm_il at hj
  have hlt : j < (mm_sp as).length := by
    rcases Nat.lt_or_ge j (mm_sp as).length with q | q
    · exact q
    · rw [List.getElem?_append_right q] at hj
      have := List.eq_of_mem_replicate (List.mem_of_getElem? hj)
      cases this
  rw [List.getElem?_append_left hlt] at hj
  rw [List.getElem?_toArray, List.getElem?_append_left (by rw [h1]; exact hlt)]
  exact h2 j v hj
theorem mm_lr_re {φ φ' : Nat → Nat → Nat} {la : List (Option mm_V)} {ls : Array Slot} {nL : Nat} {h : mm_H} (hφ : ∀ z ∈ h.1, φ' z.1 z.2 = φ z.1 z.2) (hl : mm_okL h la) (hr : mm_lr φ la ls nL) : mm_lr φ' la ls nL := by
  refine ⟨hr.1, hr.2.1, hr.2.2.1, fun j v hj => ?_⟩
  rw [hr.2.2.2 j v hj]
  have hv := hl v (List.mem_of_getElem? hj)
  rcases v with x | x | q
  · rfl
  · rfl
  · exact congrArg (fun z => some (Slot.val (Value.ref z))) (hφ q (hv q rfl)).symm
theorem mm_blind {D : va_G} {aC : Nat → ClassId} {φ : Nat → Nat → Nat} {h : mm_H} {sz : Nat} {as : List mm_V} : FrameBlind (mm_Pc D aC φ h sz as) := fun a U g mk q => ⟨q.1, q.2.1, q.2.2.1, mm_K.same rfl q.2.2.2.1, q.2.2.2.2⟩
def mm_Cx (D : va_G) (aC : Nat → ClassId) (m : Nat) (p : Program) (s : State) (mi : MethodId) (args : Array Value) (meth : Method) (c : Code) : Prop := p.tables.exec = Jvm.exec ∧ c.code = mm_bc m ∧ meth.sig.returnType = mm_rt m ∧ c.maxLocals = mm_mL m ∧ s.vm.findClass (mm_cN (mm_ow m)) = some mi.cls ∧ (∀ w ∈ mm_tb, w.before args s = true) ∧ meth.locks = false ∧ ((mm_y m).name = "<init>" → meth.name = "<init>") ∧ mm_K D aC s
def mm_SndW (l : Launch) (D : va_G) (aC : Nat → ClassId) (n : Nat) : Prop := ∀ (m pc : Nat) (la : List (Option mm_V)) (st : List mm_V) (uc us : Nat) (h h' : mm_H) (v : Option mm_V), m < 178 → mm_run n (m, pc, la, st, uc, us) h = some (v, h') → mm_okH h → mm_okL h la → mm_okS h st → ∀ (p : Program) (e : Env) (s : State) (mi : MethodId) (args : Array Value) (below : List Frame) (meth : Method) (c : Code), mm_Cx D aC m p s mi args meth c →
  ∀ (H : Heap) (locs : List Loc) (ls : Array Slot) (φ φ0 : Nat → Nat → Nat) (h0 : mm_H), (∀ z ∈ h0.1, z ∈ h.1) → (∀ z ∈ h0.1, φ z.1 z.2 = φ0 z.1 z.2) → va_P D mm_cls (mm_ws aC φ h) H → va_D (va_A (mm_ws aC φ0 h0) s.heap.size) (mm_ws aC φ h) → va_S (va_A (mm_ws aC φ0 h0) s.heap.size) s.heap H locs → mm_lr φ la ls (mm_mL m) → uc ≤ mm_mc m → us ≤ mm_ms m →
    W p l e (mm_rm m) s mi args below meth c H locs uc us (MQ below (mm_Qc D aC φ0 h0 s.heap.size v h') args s (mm_mc m) (mm_ms m) (va_A (mm_ws aC φ0 h0) s.heap.size)) (F0 mi pc ls (st.map (mm_cv φ)))
def mm_Snd (l : Launch) (D : va_G) (aC : Nat → ClassId) (n : Nat) : Prop := ∀ (m : Nat) (as : List mm_V) (h h' : mm_H) (v : Option mm_V), m < 178 → mm_run n (m, 0, mm_il (mm_mL m) as, [], 0, 0) h = some (v, h') → (mm_sp as).length ≤ mm_mL m → mm_okH h → mm_okS h as → ∀ (φ : Nat → Nat → Nat) (sz : Nat), Met l (mm_y m) (mm_wm m) (mm_rm m) (mm_Pc D aC φ h sz as) (mm_Qc D aC φ h sz v h') (mm_mc m) (mm_ms m) (va_A (mm_ws aC φ h) sz)
theorem mm_entry {l : Launch} {D : va_G} {aC : Nat → ClassId} {n : Nat} (hW : mm_SndW l D aC n) : mm_Snd l D aC n := by
  intro m as h h' v hm hr hsp hH ho φ sz
  refine Met.ofW (cc := mm_bc m) (maxL := mm_mL m) (ret := mm_rt m) (mm_m_w hm).2.2.2.2.2 rfl ?_
  intro p e s mi args below meth c s₁ B hml hv
  obtain ⟨rfl, hsz, hP, hK, hD0⟩ := hv
  subst hsz
  have hts0 := atoms_spec (ws := mm_wm m) B.pre
  have hD := hD0.self (sz := s.heap.size)
  rw [lg_entry_eq]
  exact hW m 0 (mm_il (mm_mL m) as) [] 0 0 h h' v hm hr hH (mm_il_ok ho) (fun x hx => by cases hx) p e s mi _ below meth c ⟨B.exec, B.bytes, B.returns, hml, findClass_of_methodNamed B.named, fun w hw => hts0 w (List.mem_cons_of_mem _ hw), B.notSynchronized, fun h9 => (name_of_methodNamed B.named B.method).1.trans h9, hK⟩ s.heap [] _ φ φ h (fun z hz => hz) (fun _ _ => rfl) hP hD va_S.rf (mm_lr_entry hsp) (Nat.zero_le _) (Nat.zero_le _)
section MMC
variable {p : Program} {l : Launch} {e : Env} {R : Room} {s : State} {mi : MethodId} {args : Array Value} {below : List Frame} {meth : Method} {c : Code} {H : Heap} {locs : List Loc} {cells slots : Nat} {Q : State → Prop}
/-- behind a call -/
theorem mm_call {pc mc ms : Nat} {ls : Array Slot} {rest st0 : List Value} {a : Array Value} {A0 : Nat → Prop} {H0 : Heap} {D : va_G} {aC : Nat → ClassId} {φ : Nat → Nat → Nat} {h h' : mm_H} {v : Option mm_V} (hr : va_Run p l e R s mi args below meth c H locs cells slots mc ms (F0 mi pc ls st0) rest (mm_Qc D aC φ h H.size v h' a) (va_A (mm_ws aC φ h) H.size)) (hS : va_S A0 H0 H locs) (hA : ∀ q, va_A (mm_ws aC φ h) H.size q → A0 q)
    (kk : ∀ (φ' : Nat → Nat → Nat) (H1 : Heap) (locs1 : List Loc), (∀ z ∈ h.1, φ' z.1 z.2 = φ z.1 z.2) → va_P D mm_cls (mm_ws aC φ' h') H1 → va_D A0 (mm_ws aC φ' h') → va_S A0 H0 H1 locs1 → W p l e R s mi args below meth c H1 locs1 (cells + mc) (slots + ms) Q (F0 mi (pc + 3) ls ((v.map (mm_cv φ')).toList ++ rest))) : W p l e R s mi args below meth c H locs cells slots Q (F0 mi pc ls st0) := by
  intro T hT X
  obtain ⟨v1, st₀, t, T', L, g0, X', hL, e1, e2, ⟨⟨φ', hφ, hv, hP, hD⟩, hz, hk⟩, st⟩ := hr T hT X
  cases hv
  rw [g0] at hz hk
  obtain ⟨t2, a1, b1⟩ := kk φ' T'.heap (locs ++ L) hφ (by rw [e1]; exact hP) (hD.weaken (fun k q _ hq => hA q.1 hq))
    ⟨Nat.le_trans hS.1 (by rw [e1]; exact hz), fun q h1 h2 => by rw [e1, hk q (Nat.lt_of_lt_of_le h1 hS.1) (fun z => h2 (hA q z))]; exact hS.2.1 q h1 h2, fun q hq => by
      rcases List.mem_append.mp hq with h | h
      · exact hS.2.2 q h
      · exact hA _ (hL q h)⟩ T' rfl X'
  exact ⟨t2, st t2 a1, b1⟩
end MMC
end
section
/-! the calls -/
set_option maxRecDepth 100000 in
theorem mm_s8 : mm_cm.all (fun q => !(q.2.1 == 1 || q.2.1 == 2) || (decide ((mm_y q.2.2).name = "<init>") && decide (mm_rt q.2.2 = none))) = true := by decide +kernel
set_option maxRecDepth 100000 in
theorem mm_s9 : (List.range 4).all (fun g => decide (mm_y (mm_vs g 0) = mm_vx g) && decide (mm_vs g 0 < 178) && decide (mm_vx g = ⟨"SongToBridge$Keeper", (mm_vx g).name, (mm_vx g).desc⟩) && (List.range 4).all (fun i => decide (mm_na (mm_vs g i) = mm_na (mm_vs g 0)))) = true := by decide +kernel
theorem mm_co_lt {r i : Nat} (hk : mm_kd r = 0) (h3 : r = 3 → i < 4) : mm_co r i < 12 := by
  unfold mm_co
  split
  next e => have := h3 e; omega
  next e =>
    have hr : r < 47 := by
      rcases Nat.lt_or_ge r 47 with q | q
      · exact q
      · have := mm_kd_ge q; omega
    have h := List.all_eq_true.mp mm_s4 r (List.mem_range.mpr hr)
    simp only [Bool.or_eq_true, Bool.not_eq_true', decide_eq_false_iff_not, decide_eq_true_eq, Bool.and_eq_true] at h
    rcases h with (h | h) | h
    · exact absurd hk h
    · exact absurd h e
    · exact h.1.1
section MMK
variable {p : Program} {l : Launch} {e : Env} {s : State} {mi : MethodId} {args : Array Value} {below : List Frame} {meth : Method} {c : Code} {H : Heap} {locs : List Loc} {uc us : Nat}
variable {m pc op a b : Nat} {st : List mm_V} {ls : Array Slot} {φ : Nat → Nat → Nat} {i : Instr} {n : Nat} {D : va_G} {aC : Nat → ClassId} {A : Nat → Prop} {h h1 : mm_H} {w : Option mm_V}
theorem mm_pre {as : List mm_V} (hK : mm_K D aC s) (hP : va_P D mm_cls (mm_ws aC φ h) H) (hD : va_D A (mm_ws aC φ h)) : PreS s H (mm_Pc D aC φ h H.size as) (as.map (mm_cv φ)) := ⟨mm_blind, fun U hU hW => ⟨rfl, by rw [hU], by rw [hU]; exact hP, hK.warm hW, hD.weaken (fun _ _ _ _ => trivial)⟩⟩
theorem mm_callB {y z : Nat} (hts : ∀ w ∈ mm_tb, w.before args s = true) (hcw : mm_cw m y = true) (hl : (Jvm.Cond.methodLink (mm_cN (mm_ow m)) z (mm_y y)).before args s = true) : CallB (mm_rm m) s args (mm_cN (mm_ow m)) z (mm_y y) (mm_bc y) (mm_mL y) (mm_rt y) (mm_wm y) (mm_rm y) (mm_mc y) (mm_ms y) (mm_na y) := by
  obtain ⟨h1, h2, h3⟩ := mm_cw_lt hcw
  obtain ⟨g1, g2, g3, g4, g5, -⟩ := mm_m_w h3
  exact callB_of (mm_na y) hts (mm_wm_in h3) rfl rfl rfl (hts _ g2) hl ⟨g4, g5, g3⟩ ⟨h1, h2⟩
theorem mm_sum (t : List mm_V) : ((t.map (mm_cv φ)).map (fun v => v.category)).sum = (t.map mm_cat).sum := by
  rw [List.map_map]
  exact congrArg List.sum (List.map_congr_left fun v _ => mm_cv_cat φ v)
theorem mm_runs (hx : p.tables.exec = Jvm.exec) (hb : c.code = mm_bc m) (hml : c.maxLocals = mm_mL m) (hown : s.vm.findClass (mm_cN (mm_ow m)) = some mi.cls) (hts : ∀ w ∈ mm_tb, w.before args s = true) (hK : mm_K D aC s) (hls : ls.size = mm_mL m) (hd : decode (mm_bc m) pc = .ok (i, n)) (hc0 : mm_c5 m op a b i n = true) {q : Nat × List mm_V × List mm_V} (hs0 : mm_cl op a b st = some q) (hst : mm_okS h st) (hH : mm_okH h)
    (hP : va_P D mm_cls (mm_ws aC φ h) H) (hD : va_D A (mm_ws aC φ h)) (hsum : (q.2.2.map mm_cat).sum ≤ 8) (hf : uc + mm_mc q.1 ≤ mm_mc m ∧ us + mm_ms q.1 ≤ mm_ms m) (hM : Met l (mm_y q.1) (mm_wm q.1) (mm_rm q.1) (mm_Pc D aC φ h H.size q.2.1) (mm_Qc D aC φ h H.size w h1) (mm_mc q.1) (mm_ms q.1) (va_A (mm_ws aC φ h) H.size)) :
    n = 3 ∧ va_Run p l e (mm_rm m) s mi args below meth c H locs uc us (mm_mc q.1) (mm_ms q.1) (F0 mi pc ls (st.map (mm_cv φ))) (q.2.2.map (mm_cv φ)) (mm_Qc D aC φ h H.size w h1 #[]) (va_A (mm_ws aC φ h) H.size) := by
  have hcw := mm_cl_cw hc0 hs0
  obtain ⟨w1, w2, hy⟩ := mm_cw_lt hcw
  have hsum' : 2 * (F0 mi pc ls (st.map (mm_cv φ))).monitorRoom + ((q.2.2.map (mm_cv φ)).map fun v => v.category).sum ≤ 8 := by
    rw [mm_sum]
    show 2 * 0 + _ ≤ 8
    omega
  match op, hc0, hs0 with
  | 0, hc, hs =>
    simp only [mm_c5] at hc
    simp only [mm_cl] at hs
    split at hs
    next hle =>
      cases hs
      split at hc
      next z =>
        simp only [Bool.and_eq_true, beq_iff_eq, decide_eq_true_eq] at hc
        obtain ⟨⟨⟨rfl, hcm⟩, hna⟩, -⟩ := hc
        have hw := mm_cm_w hcm
        have hl : Jvm.Cond.methodLink (mm_cN (mm_ow m)) z (mm_y a) ∈ mm_tb := List.mem_filter.mpr ⟨hw _ List.mem_cons_self, rfl⟩
        have hst9 : Jvm.Cond.static (mm_y a) ∈ mm_tb := List.mem_filter.mpr ⟨hw _ (List.mem_cons_of_mem _ List.mem_cons_self), rfl⟩
        refine ⟨rfl, va_runS (As := ((st.take b).reverse).map (mm_cv φ)) ⟨hx, hb, hml, hown, hts⟩ hM ⟨mm_callB hts hcw (hts _ hl), hts _ hst9⟩ (mm_pre hK hP hD) rfl ?_ hls ?_ hsum' hd hf⟩
        · rw [List.length_map, List.length_reverse, List.length_take, ← hna]
          omega
        · show st.map (mm_cv φ) = _
          rw [← List.map_reverse, List.reverse_reverse, ← List.map_append, List.take_append_drop]
      next => cases hc
    next => cases hs
  | 1, hc, hs =>
    simp only [mm_c5] at hc
    simp only [mm_cl] at hs
    split at hs
    next r i' t e9 =>
      split at hs
      next hh =>
        cases hs
        split at hc
        next z =>
          simp only [Bool.and_eq_true, Bool.or_eq_true, beq_iff_eq, decide_eq_true_eq] at hc
          obtain ⟨⟨⟨rfl, hcm⟩, hna⟩, -⟩ := hc
          have hlen : (((st.take b).reverse).map (mm_cv φ)).length = mm_na a := by
            have : b < st.length := by
              rcases Nat.lt_or_ge b st.length with q | q
              · exact q
              · rw [List.drop_eq_nil_of_le q] at e9; cases e9
            rw [List.length_map, List.length_reverse, List.length_take, ← hna]
            omega
          have hstk : st.map (mm_cv φ) = (((st.take b).reverse).map (mm_cv φ)).reverse ++ .ref (φ r i') :: t.map (mm_cv φ) := by
            rw [← List.map_reverse, List.reverse_reverse]
            have : st.map (mm_cv φ) = (st.take b ++ st.drop b).map (mm_cv φ) := by rw [List.take_append_drop]
            rw [this, e9, List.map_append]
            rfl
          have h8 : ∀ kd9, (kd9 = 1 ∨ kd9 = 2) → mm_cm.lookup (mm_ow m, z) = some (kd9, a) → (mm_y a).name = "<init>" ∧ mm_rt a = none := by
            intro kd9 hk9 hcm9
            have := List.all_eq_true.mp mm_s8 _ (mm_lookup_mem hcm9)
            rcases hk9 with rfl | rfl <;> simpa using this
          rcases hcm with hcm | hcm
          · obtain ⟨hn9, hrt⟩ := h8 1 (Or.inl rfl) hcm
            have hw := mm_cm_w hcm
            have hl : Jvm.Cond.methodLink (mm_cN (mm_ow m)) z (mm_y a) ∈ mm_tb := List.mem_filter.mpr ⟨hw _ List.mem_cons_self, rfl⟩
            have hi9 : Jvm.Cond.instanceMethod (mm_y a) ∈ mm_tb := List.mem_filter.mpr ⟨hw _ (List.mem_cons_of_mem _ List.mem_cons_self), rfl⟩
            have hcb := mm_callB (y := a) hts hcw (hts _ hl)
            rw [hrt] at hcb
            exact ⟨rfl, va_runI (As := ((st.take b).reverse).map (mm_cv φ)) ⟨hx, hb, hml, hown, hts⟩ hM ⟨hcb, hn9, hts _ hi9⟩ (mm_pre (as := .inr (.inr (r, i')) :: (st.take b).reverse) hK hP hD) rfl hlen hls hstk hsum' hd hf⟩
          · obtain ⟨hn9, hrt⟩ := h8 2 (Or.inr rfl) hcm
            have hw := mm_cm_w hcm
            have hi9 : Jvm.Cond.instanceMethod (mm_y a) ∈ mm_tb := List.mem_filter.mpr ⟨hw _ (List.mem_cons_of_mem _ List.mem_cons_self), rfl⟩
            obtain ⟨g1, g2, g3, g4, g5, -⟩ := mm_m_w hy
            have hcb := va_cnB (R := mm_rm m) (own := mm_cN (mm_ow m)) (host := "SongToBridge") (index := z) (y := mm_y a) (bytes := mm_bc a) (maxL := mm_mL a) (ret := mm_rt a) (ws := mm_wm a) (rm := mm_rm a) (mm_na a) hts (mm_wm_in hy) rfl rfl rfl (hK.2.2.1 _ _ _ hcm) (hts _ g2) ⟨g4, g5, g3⟩ ⟨w1, w2⟩
            rw [hrt] at hcb
            exact ⟨rfl, va_runIN (As := ((st.take b).reverse).map (mm_cv φ)) ⟨hx, hb, hml, hown, hts⟩ hM ⟨hcb, hn9, hts _ hi9⟩ (mm_pre (as := .inr (.inr (r, i')) :: (st.take b).reverse) hK hP hD) rfl hlen hls hstk hsum' hd hf⟩
        next => cases hc
      next => cases hs
    next => cases hs
  | 2, hc, hs =>
    simp only [mm_c5] at hc
    simp only [mm_cl] at hs
    split at hs
    next r i' t e9 =>
      split at hs
      next hh =>
        cases hs
        split at hc
        next z =>
          simp only [Bool.and_eq_true, beq_iff_eq, decide_eq_true_eq] at hc
          obtain ⟨⟨⟨rfl, hcm⟩, hna⟩, -⟩ := hc
          have hlen : (((st.take b).reverse).map (mm_cv φ)).length = mm_na a := by
            have : b < st.length := by
              rcases Nat.lt_or_ge b st.length with q | q
              · exact q
              · rw [List.drop_eq_nil_of_le q] at e9; cases e9
            rw [List.length_map, List.length_reverse, List.length_take, ← hna]
            omega
          have hstk : st.map (mm_cv φ) = (((st.take b).reverse).map (mm_cv φ)).reverse ++ .ref (φ r i') :: t.map (mm_cv φ) := by
            rw [← List.map_reverse, List.reverse_reverse]
            have : st.map (mm_cv φ) = (st.take b ++ st.drop b).map (mm_cv φ) := by rw [List.take_append_drop]
            rw [this, e9, List.map_append]
            rfl
          have hw := mm_cm_w hcm
          have hl : Jvm.Cond.methodLink (mm_cN (mm_ow m)) z (mm_y a) ∈ mm_tb := List.mem_filter.mpr ⟨hw _ List.mem_cons_self, rfl⟩
          have hi9 : Jvm.Cond.instanceMethod (mm_y a) ∈ mm_tb := List.mem_filter.mpr ⟨hw _ (List.mem_cons_of_mem _ List.mem_cons_self), rfl⟩
          have hs9 : Jvm.Cond.selects (mm_cN (mm_ow a)) (mm_y a) (mm_y a) ∈ mm_tb := List.mem_filter.mpr ⟨hw _ (List.mem_cons_of_mem _ (List.mem_cons_of_mem _ List.mem_cons_self)), rfl⟩
          have hmem : (r, i') ∈ h.1 := hst (.inr (.inr (r, i'))) (List.mem_of_mem_drop (e9 ▸ List.mem_cons_self)) _ rfl
          obtain ⟨kq, hkq⟩ := List.getElem?_of_mem hmem
          have hat := mm_ws_at (aC := aC) (φ := φ) hkq
          have hce : mm_ce aC φ h (r, i') = .inr (mm_co r i', (mm_fs r).map (mm_fv φ h i')) := by
            unfold mm_ce
            rw [if_pos hh.2]
          rw [hce] at hat
          have hrc := va_recv hK.1 hP (mm_cls_at (mm_co_lt hh.2 (fun e3 => hH.1 _ hmem e3))) hat
          rw [hh.1] at hrc
          exact ⟨rfl, va_runV (C := mm_cN (mm_ow a)) (As := ((st.take b).reverse).map (mm_cv φ)) ⟨hx, hb, hml, hown, hts⟩ hM ⟨mm_callB hts hcw (hts _ hl), hts _ hi9, hts _ hs9⟩ ⟨mm_blind, hrc, (mm_pre (as := .inr (.inr (r, i')) :: (st.take b).reverse) hK hP hD).2⟩ rfl hlen hls hstk hsum' hd hf⟩
        next => cases hc
      next => cases hs
    next => cases hs
  | 3, hc, hs =>
    simp only [mm_c5] at hc
    simp only [mm_cl] at hs
    split at hs
    next r i' t e9 =>
      split at hs
      next hh =>
        cases hs
        split at hc
        next z =>
          simp only [Bool.and_eq_true, beq_iff_eq, decide_eq_true_eq] at hc
          obtain ⟨⟨⟨⟨⟨⟨⟨rfl, hcm⟩, ha4⟩, hna⟩, -⟩, -⟩, -⟩, -⟩ := hc
          obtain ⟨rfl, hi4⟩ := hh
          have h9 := List.all_eq_true.mp mm_s9 a (List.mem_range.mpr ha4)
          simp only [Bool.and_eq_true, decide_eq_true_eq] at h9
          obtain ⟨⟨⟨hyx, hv0⟩, hvx⟩, hnas⟩ := h9
          have hnai : mm_na (mm_vs a i') = mm_na (mm_vs a 0) := of_decide_eq_true (List.all_eq_true.mp hnas i' (List.mem_range.mpr hi4))
          have hlen : (((st.take b).reverse).map (mm_cv φ)).length = mm_na (mm_vs a 0) := by
            have : b < st.length := by
              rcases Nat.lt_or_ge b st.length with q | q
              · exact q
              · rw [List.drop_eq_nil_of_le q] at e9; cases e9
            rw [List.length_map, List.length_reverse, List.length_take, ← hna]
            omega
          have hstk : st.map (mm_cv φ) = (((st.take b).reverse).map (mm_cv φ)).reverse ++ .ref (φ 3 i') :: t.map (mm_cv φ) := by
            rw [← List.map_reverse, List.reverse_reverse]
            have : st.map (mm_cv φ) = (st.take b ++ st.drop b).map (mm_cv φ) := by rw [List.take_append_drop]
            rw [this, e9, List.map_append]
            rfl
          have hw := mm_cm_w hcm
          have hvq := List.all_eq_true.mp (List.all_eq_true.mp mm_vt_ok a (List.mem_range.mpr ha4)) i' (List.mem_range.mpr hi4)
          simp only [mm_vq, Bool.and_eq_true] at hvq
          have hmem : (3, i') ∈ h.1 := hst (.inr (.inr (3, i'))) (List.mem_of_mem_drop (e9 ▸ List.mem_cons_self)) _ rfl
          obtain ⟨kq, hkq⟩ := List.getElem?_of_mem hmem
          have hat := mm_ws_at (aC := aC) (φ := φ) hkq
          have hce : mm_ce aC φ h (3, i') = .inr (2 + i', (mm_fs 3).map (mm_fv φ h i')) := by
            unfold mm_ce mm_co
            rw [if_pos mm_kd3, if_pos rfl]
          rw [hce] at hat
          have hrc := va_recv hK.1 hP (mm_cls_at (c := 2 + i') (by omega)) hat
          obtain ⟨g1, g2, g3, g4, g5, -⟩ := mm_m_w hy
          obtain ⟨k1, k2, k3, k4, k5, -⟩ := mm_m_w hv0
          rw [hyx] at k1 k3
          have hG : GoodIn mm_tb (va_wsO (mm_cN (mm_ow m)) z (mm_cN (2 + i')) "SongToBridge$Keeper" (mm_vx a) (mm_y (mm_vs a i')) (mm_wm (mm_vs a i'))) := by
            intro x hx9
            have hall : x ∈ mm_tb := by
              rcases List.mem_append.mp hx9 with q | q
              · simp only [List.mem_cons, List.not_mem_nil, or_false] at q
                rcases q with rfl | rfl | rfl | rfl | rfl | rfl
                · exact List.mem_filter.mpr ⟨hw _ List.mem_cons_self, rfl⟩
                · exact List.mem_filter.mpr ⟨hw _ (List.mem_cons_of_mem _ List.mem_cons_self), rfl⟩
                · rw [← hvx]; exact List.mem_filter.mpr ⟨hw _ (List.mem_cons_of_mem _ (List.mem_cons_of_mem _ List.mem_cons_self)), rfl⟩
                · exact mm_tb_of hvq.1 rfl
                · exact mm_tb_of hvq.2 rfl
                · exact g2
              · exact (mm_wm_in hy x q).1
            exact ⟨hall, mm_good hall⟩
          have hcu := va_cwO (R := mm_rm m) (s := s) (args := args) (own := mm_cN (mm_ow m)) (C := mm_cN (2 + i')) (owner := "SongToBridge$Keeper") (index := z) (x := mm_vx a) (y := mm_y (mm_vs a i')) (bytes := mm_bc (mm_vs a i')) (maxL := mm_mL (mm_vs a i')) (ret := mm_rt (mm_vs a i')) (ws := mm_wm (mm_vs a i')) (rm := mm_rm (mm_vs a i')) (mm_na (mm_vs a 0)) hts hG rfl rfl rfl (b0 := mm_bc (mm_vs a 0)) (m0 := mm_mL (mm_vs a 0)) (r0 := mm_rt (mm_vs a 0)) (by rw [← hvx]; exact k1) ⟨by decide, by decide, k3⟩ ⟨w1, w2⟩
          exact ⟨rfl, va_runU (As := ((st.take b).reverse).map (mm_cv φ)) ⟨hx, hb, hml, hown, hts⟩ hM hcu ⟨mm_blind, hrc, (mm_pre (as := .inr (.inr (3, i')) :: (st.take b).reverse) hK hP hD).2⟩ rfl hlen hls hstk hsum' hd hf⟩
        next => cases hc
      next => cases hs
    next => cases hs
  | op + 4, hc, hs => simp [mm_cl] at hs
end MMK
end
section
/-! the induction over the fuel -/
theorem mm_sndS {l : Launch} {D : va_G} {aC : Nat → ClassId} {n : Nat} (hSn : mm_Snd l D aC n) (hW : mm_SndW l D aC n) : mm_SndW l D aC (n + 1) := by
  intro m pc la st uc us h h' v hm hr hH hl ho p e s mi args below meth c X H locs ls φ φ0 h0 hi0 hφ0 hP hD hSs hlr huc hus
  obtain ⟨hx, hb, hrt, hml, hown, hts, hlk, hnm, hK⟩ := id X
  have hA : ∀ q, s.heap.size ≤ q → va_A (mm_ws aC φ0 h0) s.heap.size q := fun q hq => Or.inr hq
  have hls : ls.size = mm_mL m := hlr.2.1
  obtain ⟨op, a, b, k, zs, i, n', hd, hcs⟩ := mm_run_cases hm hr
  rcases hcs with ⟨hc, st', hs, hr⟩ | ⟨hc, q, hs, hr⟩ | ⟨hc, q, hs, hr⟩ | ⟨hc, q, hs, hr⟩ | ⟨hc, q, hs, hl1, hl2, hr⟩ | ⟨hc, q, w, h1, hs, hl1, hl2, hsum, hsp, hr1, hr⟩ | ⟨hc, hs, rfl⟩
  · exact mm_w0 hx hb hown hts hd hc hs (hW m _ la st' uc us h h' v hm hr hH hl (mm_ps_ok hs ho) p e s mi args below meth c X H locs ls φ φ0 h0 hi0 hφ0 hP hD hSs hlr huc hus)
  · exact mm_w1 hx hb hd rfl hc hs (hW m _ la q.2 uc us h h' v hm hr hH hl (mm_br_ok hs ho) p e s mi args below meth c X H locs ls φ φ0 h0 hi0 hφ0 hP hD hSs hlr huc hus)
  · obtain ⟨o1, o2⟩ := mm_lo_ok hs hl ho
    exact mm_w2 hx hb hd hc hs hlr (fun ls' hlr' => hW m _ q.1 q.2 uc us h h' v hm hr hH o1 o2 p e s mi args below meth c X H locs ls' φ φ0 h0 hi0 hφ0 hP hD hSs hlr' huc hus)
  · obtain ⟨o1, o2, o3⟩ := mm_hp_ok hc hs hH ho
    have kk : ∀ H' locs', va_P D mm_cls (mm_ws aC φ q.2) H' → va_D (va_A (mm_ws aC φ0 h0) s.heap.size) (mm_ws aC φ q.2) → va_S (va_A (mm_ws aC φ0 h0) s.heap.size) s.heap H' locs' → W p l e (mm_rm m) s mi args below meth c H' locs' uc us (MQ below (mm_Qc D aC φ0 h0 s.heap.size v h') args s (mm_mc m) (mm_ms m) (va_A (mm_ws aC φ0 h0) s.heap.size)) (F0 mi (pc + n') ls (q.1.map (mm_cv φ))) := fun H' locs' hP' hD' hS' => hW m _ la q.1 uc us q.2 h' v hm hr o2 (mm_okL_mono (fun z hz => by rw [o1]; exact hz) hl) o3 p e s mi args below meth c X H' locs' ls φ φ0 h0 (fun z hz => by rw [o1]; exact hi0 z hz) hφ0 hP' hD' hS' hlr huc hus
    by_cases h1 : op ≤ 1
    · exact mm_w3a hx hb hown hts hK hnm hd h1 hc hs ho hP hD hSs kk
    · by_cases h4 : op ≤ 4
      · exact mm_w3b hx hb hK hd ⟨by omega, h4⟩ hc hs ho (fun z hz e3 => hH.1 z hz e3) hP hD hSs kk
      · exact mm_w3c hx hb hown hts hK rfl rfl ⟨huc, hus⟩ (by rw [hml, hls]) hd (by omega) hc hs ho (fun z hz e3 => hH.1 z hz e3) hP hD hSs kk
  · obtain ⟨o1, o2, o3⟩ := mm_al_ok hs hH ho
    exact mm_w4 hx hb hown hts hK hd hc hs ho hH.2.1 hH.2.2 ⟨hl1, hl2⟩ hP hD hSs hA (fun φ' H' hφ' hP' hD' hS' => hW m _ la q.1 _ _ q.2.1 h' v hm hr o2 (mm_okL_mono o1 hl) o3 p e s mi args below meth c X H' locs ls φ' φ0 h0 (fun z hz => o1 z (hi0 z hz)) (fun z hz => (hφ' z (hi0 z hz)).trans (hφ0 z hz)) hP' hD' hS' (mm_lr_re hφ' hl hlr) hl1 hl2)
  · obtain ⟨o1, o2⟩ := mm_cl_ok hs ho
    obtain ⟨w1, w2, hy⟩ := mm_cw_lt (mm_cl_cw hc hs)
    obtain ⟨g1, g2, g3⟩ := mm_run_ok n q.1 0 _ [] 0 0 h h1 w hy hr1 hH (mm_il_ok o1) (fun x hx => by cases hx)
    have hM := hSn q.1 q.2.1 h h1 w hy hr1 hsp hH o1 φ H.size
    obtain ⟨rfl, hrun⟩ := mm_runs (p := p) (l := l) (e := e) (mi := mi) (below := below) (meth := meth) (c := c) (locs := locs) (uc := uc) (us := us) (ls := ls) hx hb hml hown hts hK hls hd hc hs ho hH hP hD hsum ⟨hl1, hl2⟩ hM
    refine mm_call hrun hSs (fun z hz => ?_) (fun φ' H1 locs1 hφ' hP' hD' hS' => ?_)
    · rcases hz with ⟨k9, e9, hk9⟩ | hz
      · exact hD.2 k9 _ hk9
      · exact Or.inr (Nat.le_trans hSs.1 hz)
    · have hst : (w.map (mm_cv φ')).toList ++ q.2.2.map (mm_cv φ) = (w.toList ++ q.2.2).map (mm_cv φ') := by
        rw [List.map_append, mm_cv_re hφ' o2]
        cases w <;> rfl
      rw [hst]
      exact hW m _ la _ _ _ h1 h' v hm hr g1 (mm_okL_mono g2 hl) (fun x hx => by
        rcases List.mem_append.mp hx with z | z
        · exact g3 x (by cases w with
            | none => cases z
            | some y => rw [Option.toList, List.mem_singleton] at z; rw [z])
        · exact mm_okV_mono g2 (o2 x z)) p e s mi args below meth c X H1 locs1 ls φ' φ0 h0 (fun z hz => g2 z (hi0 z hz)) (fun z hz => (hφ' z (hi0 z hz)).trans (hφ0 z hz)) hP' hD' hS' (mm_lr_re hφ' hl hlr) hl1 hl2
  · refine W.widen (k := mm_mc m) (n := mm_ms m) huc hus ?_
    simp only [mm_c6, Bool.and_eq_true, beq_iff_eq] at hc
    obtain ⟨rfl, hc⟩ := hc
    match op, hc, hs with
    | 0, hc, hs =>
      cases of_decide_eq_true hc
      simp only [mm_re] at hs
      split at hs
      next x =>
        split at hs
        next hh =>
          cases hs
          rcases hh with hh | ⟨hh, hx01⟩
          · exact W.iret hx hb (hrt.trans hh) (fun t ht hW9 => ⟨⟨φ, hφ0, rfl, by rw [ht]; exact hP, hD⟩, hSs.F ht⟩) hSs.2.2 hd hlk
          · exact W.zret (ty := .boolean) hx hb (hrt.trans hh) (by rcases hx01 with rfl | rfl <;> rfl) (fun t ht hW9 => ⟨⟨φ, hφ0, rfl, by rw [ht]; exact hP, hD⟩, hSs.F ht⟩) hSs.2.2 hd hlk
        next => cases hs
      next => cases hs
    | 1, hc, hs =>
      cases of_decide_eq_true hc
      simp only [mm_re] at hs
      split at hs
      next x =>
        split at hs
        next hh =>
          cases hs
          exact W.lret hx hb (hrt.trans hh) (fun t ht hW9 => ⟨⟨φ, hφ0, rfl, by rw [ht]; exact hP, hD⟩, hSs.F ht⟩) hSs.2.2 hd hlk
        next => cases hs
      next => cases hs
    | 2, hc, hs =>
      cases of_decide_eq_true hc
      simp only [mm_re] at hs
      split at hs
      next =>
        split at hs
        next hh =>
          cases hs
          exact W.vret hx hb (hrt.trans hh) (fun t ht hW9 => ⟨⟨φ, hφ0, rfl, by rw [ht]; exact hP, hD⟩, hSs.F ht⟩) hSs.2.2 hd hlk
        next => cases hs
      next => cases hs
    | op + 3, hc, hs => simp [mm_re] at hs
theorem mm_sndAll (l : Launch) (D : va_G) (aC : Nat → ClassId) : ∀ n, mm_SndW l D aC n := by
  intro n
  induction n with
  | zero => intro m pc la st uc us h h' v hm hr; simp [mm_run] at hr
  | succ n ih => exact mm_sndS (mm_entry ih) ih
/-- the contract of a method out of a run of the machine -/
theorem mm_met (l : Launch) (D : va_G) (aC : Nat → ClassId) (n : Nat) : mm_Snd l D aC n := mm_entry (mm_sndAll l D aC n)
end
