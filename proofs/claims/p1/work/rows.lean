section
-- ===== PART A: goes FIRST, ahead of the names: the tables' words, and 'selects' of the private methods out of them =====
/-- a private method of a class that the tables say can be made, by its rows of tables_1 -/
def lw_okq (q : MethodName × Nat) : Prop := (q.1.cls ≠ "java/lang/invoke/MethodHandle" ∧ q.1.cls ≠ "java/lang/invoke/VarHandle") ∧ Cond.instantiable q.1.cls q.2 ∈ tables_1 ∧ Cond.privateMethod q.1 ∈ tables_1 ∧ Cond.instanceMethod q.1 ∈ tables_1
theorem lw_p0 : lw_okq (⟨"BittenStick", "textOf", "(I)LBittenStick$Text;"⟩, 15) := ⟨⟨by decide +kernel, by decide +kernel⟩, List.mem_of_getElem? (i := 18) (by decide +kernel), List.mem_of_getElem? (i := 324) (by decide +kernel), List.mem_of_getElem? (i := 325) (by decide +kernel)⟩
theorem lw_p1 : lw_okq (⟨"BittenStick", "sheetOf", "(I)LBittenStick$Sheet;"⟩, 15) := ⟨⟨by decide +kernel, by decide +kernel⟩, List.mem_of_getElem? (i := 18) (by decide +kernel), List.mem_of_getElem? (i := 457) (by decide +kernel), List.mem_of_getElem? (i := 458) (by decide +kernel)⟩
theorem lw_p2 : lw_okq (⟨"BittenStick", "found", "(I)I"⟩, 15) := ⟨⟨by decide +kernel, by decide +kernel⟩, List.mem_of_getElem? (i := 18) (by decide +kernel), List.mem_of_getElem? (i := 461) (by decide +kernel), List.mem_of_getElem? (i := 462) (by decide +kernel)⟩
theorem lw_p3 : lw_okq (⟨"BittenStick", "prepare", "(I)V"⟩, 15) := ⟨⟨by decide +kernel, by decide +kernel⟩, List.mem_of_getElem? (i := 18) (by decide +kernel), List.mem_of_getElem? (i := 481) (by decide +kernel), List.mem_of_getElem? (i := 482) (by decide +kernel)⟩
theorem lw_p4 : lw_okq (⟨"BittenStick$Flights", "item", "(II)I"⟩, 2) := ⟨⟨by decide +kernel, by decide +kernel⟩, List.mem_of_getElem? (i := 91) (by decide +kernel), List.mem_of_getElem? (i := 489) (by decide +kernel), List.mem_of_getElem? (i := 490) (by decide +kernel)⟩
theorem lw_p5 : lw_okq (⟨"BittenStick", "moodBehind", "(III)I"⟩, 15) := ⟨⟨by decide +kernel, by decide +kernel⟩, List.mem_of_getElem? (i := 18) (by decide +kernel), List.mem_of_getElem? (i := 561) (by decide +kernel), List.mem_of_getElem? (i := 562) (by decide +kernel)⟩
theorem lw_p6 : lw_okq (⟨"BittenStick", "strengthBehind", "(III)I"⟩, 15) := ⟨⟨by decide +kernel, by decide +kernel⟩, List.mem_of_getElem? (i := 18) (by decide +kernel), List.mem_of_getElem? (i := 567) (by decide +kernel), List.mem_of_getElem? (i := 568) (by decide +kernel)⟩
theorem lw_p7 : lw_okq (⟨"BittenStick$Climb", "trySecond", "(LBittenStick$Trip;III)V"⟩, 4) := ⟨⟨by decide +kernel, by decide +kernel⟩, List.mem_of_getElem? (i := 201) (by decide +kernel), List.mem_of_getElem? (i := 587) (by decide +kernel), List.mem_of_getElem? (i := 588) (by decide +kernel)⟩
theorem lw_p8 : lw_okq (⟨"BittenStick$Climb", "note", "(IIII)V"⟩, 4) := ⟨⟨by decide +kernel, by decide +kernel⟩, List.mem_of_getElem? (i := 201) (by decide +kernel), List.mem_of_getElem? (i := 591) (by decide +kernel), List.mem_of_getElem? (i := 592) (by decide +kernel)⟩
theorem lw_p9 : lw_okq (⟨"BittenStick", "agreesWithSeen", "(IIII)Z"⟩, 15) := ⟨⟨by decide +kernel, by decide +kernel⟩, List.mem_of_getElem? (i := 18) (by decide +kernel), List.mem_of_getElem? (i := 625) (by decide +kernel), List.mem_of_getElem? (i := 626) (by decide +kernel)⟩
theorem lw_p10 : lw_okq (⟨"BittenStick", "mostAlike", "(III)I"⟩, 15) := ⟨⟨by decide +kernel, by decide +kernel⟩, List.mem_of_getElem? (i := 18) (by decide +kernel), List.mem_of_getElem? (i := 638) (by decide +kernel), List.mem_of_getElem? (i := 639) (by decide +kernel)⟩
theorem lw_p11 : lw_okq (⟨"BittenStick$Laughter", "startCalm", "(J)V"⟩, 3) := ⟨⟨by decide +kernel, by decide +kernel⟩, List.mem_of_getElem? (i := 220) (by decide +kernel), List.mem_of_getElem? (i := 657) (by decide +kernel), List.mem_of_getElem? (i := 658) (by decide +kernel)⟩
theorem lw_p12 : lw_okq (⟨"BittenStick$Laughter", "sum", "()J"⟩, 3) := ⟨⟨by decide +kernel, by decide +kernel⟩, List.mem_of_getElem? (i := 220) (by decide +kernel), List.mem_of_getElem? (i := 663) (by decide +kernel), List.mem_of_getElem? (i := 664) (by decide +kernel)⟩
theorem lw_p13 : lw_okq (⟨"BittenStick$Laughter", "hear", "(III)V"⟩, 3) := ⟨⟨by decide +kernel, by decide +kernel⟩, List.mem_of_getElem? (i := 220) (by decide +kernel), List.mem_of_getElem? (i := 668) (by decide +kernel), List.mem_of_getElem? (i := 669) (by decide +kernel)⟩
theorem lw_p14 : lw_okq (⟨"BittenStick$Laughter", "reduce", "()V"⟩, 3) := ⟨⟨by decide +kernel, by decide +kernel⟩, List.mem_of_getElem? (i := 220) (by decide +kernel), List.mem_of_getElem? (i := 674) (by decide +kernel), List.mem_of_getElem? (i := 675) (by decide +kernel)⟩
theorem lw_p15 : lw_okq (⟨"BittenStick", "itemRefusal", "(LBittenStick$Sheet;II)I"⟩, 15) := ⟨⟨by decide +kernel, by decide +kernel⟩, List.mem_of_getElem? (i := 18) (by decide +kernel), List.mem_of_getElem? (i := 709) (by decide +kernel), List.mem_of_getElem? (i := 710) (by decide +kernel)⟩
def lw_privs_1 : List (MethodName × Nat) := [(⟨"BittenStick", "textOf", "(I)LBittenStick$Text;"⟩, 15), (⟨"BittenStick", "sheetOf", "(I)LBittenStick$Sheet;"⟩, 15), (⟨"BittenStick", "found", "(I)I"⟩, 15), (⟨"BittenStick", "prepare", "(I)V"⟩, 15), (⟨"BittenStick$Flights", "item", "(II)I"⟩, 2), (⟨"BittenStick", "moodBehind", "(III)I"⟩, 15), (⟨"BittenStick", "strengthBehind", "(III)I"⟩, 15), (⟨"BittenStick$Climb", "trySecond", "(LBittenStick$Trip;III)V"⟩, 4), (⟨"BittenStick$Climb", "note", "(IIII)V"⟩, 4), (⟨"BittenStick", "agreesWithSeen", "(IIII)Z"⟩, 15), (⟨"BittenStick", "mostAlike", "(III)I"⟩, 15), (⟨"BittenStick$Laughter", "startCalm", "(J)V"⟩, 3), (⟨"BittenStick$Laughter", "sum", "()J"⟩, 3), (⟨"BittenStick$Laughter", "hear", "(III)V"⟩, 3), (⟨"BittenStick$Laughter", "reduce", "()V"⟩, 3), (⟨"BittenStick", "itemRefusal", "(LBittenStick$Sheet;II)I"⟩, 15)]
theorem lw_r1 : ∀ q ∈ lw_privs_1, lw_okq q := List.forall_mem_cons.mpr ⟨lw_p0, List.forall_mem_cons.mpr ⟨lw_p1, List.forall_mem_cons.mpr ⟨lw_p2, List.forall_mem_cons.mpr ⟨lw_p3, List.forall_mem_cons.mpr ⟨lw_p4, List.forall_mem_cons.mpr ⟨lw_p5, List.forall_mem_cons.mpr ⟨lw_p6, List.forall_mem_cons.mpr ⟨lw_p7, List.forall_mem_cons.mpr ⟨lw_p8, List.forall_mem_cons.mpr ⟨lw_p9, List.forall_mem_cons.mpr ⟨lw_p10, List.forall_mem_cons.mpr ⟨lw_p11, List.forall_mem_cons.mpr ⟨lw_p12, List.forall_mem_cons.mpr ⟨lw_p13, List.forall_mem_cons.mpr ⟨lw_p14, List.forall_mem_cons.mpr ⟨lw_p15, fun _ h => absurd h List.not_mem_nil⟩⟩⟩⟩⟩⟩⟩⟩⟩⟩⟩⟩⟩⟩⟩⟩
theorem lw_p16 : lw_okq (⟨"BittenStick", "mixFlight", "(JI)J"⟩, 15) := ⟨⟨by decide +kernel, by decide +kernel⟩, List.mem_of_getElem? (i := 18) (by decide +kernel), List.mem_of_getElem? (i := 754) (by decide +kernel), List.mem_of_getElem? (i := 755) (by decide +kernel)⟩
theorem lw_p17 : lw_okq (⟨"BittenStickModel", "finds", "(I)I"⟩, 30) := ⟨⟨by decide +kernel, by decide +kernel⟩, List.mem_of_getElem? (i := 767) (by decide +kernel), List.mem_of_getElem? (i := 877) (by decide +kernel), List.mem_of_getElem? (i := 878) (by decide +kernel)⟩
theorem lw_p18 : lw_okq (⟨"BittenStickModel", "lacks", "(III)I"⟩, 30) := ⟨⟨by decide +kernel, by decide +kernel⟩, List.mem_of_getElem? (i := 767) (by decide +kernel), List.mem_of_getElem? (i := 889) (by decide +kernel), List.mem_of_getElem? (i := 890) (by decide +kernel)⟩
theorem lw_p19 : lw_okq (⟨"BittenStickModel", "readsText", "(I)I"⟩, 30) := ⟨⟨by decide +kernel, by decide +kernel⟩, List.mem_of_getElem? (i := 767) (by decide +kernel), List.mem_of_getElem? (i := 925) (by decide +kernel), List.mem_of_getElem? (i := 926) (by decide +kernel)⟩
theorem lw_p20 : lw_okq (⟨"BittenStickModel", "readsLand", "()I"⟩, 30) := ⟨⟨by decide +kernel, by decide +kernel⟩, List.mem_of_getElem? (i := 767) (by decide +kernel), List.mem_of_getElem? (i := 929) (by decide +kernel), List.mem_of_getElem? (i := 930) (by decide +kernel)⟩
theorem lw_p21 : lw_okq (⟨"BittenStickModel", "readsPassengers", "()I"⟩, 30) := ⟨⟨by decide +kernel, by decide +kernel⟩, List.mem_of_getElem? (i := 767) (by decide +kernel), List.mem_of_getElem? (i := 941) (by decide +kernel), List.mem_of_getElem? (i := 942) (by decide +kernel)⟩
theorem lw_p22 : lw_okq (⟨"BittenStickModel", "readsGeese", "()I"⟩, 30) := ⟨⟨by decide +kernel, by decide +kernel⟩, List.mem_of_getElem? (i := 767) (by decide +kernel), List.mem_of_getElem? (i := 952) (by decide +kernel), List.mem_of_getElem? (i := 953) (by decide +kernel)⟩
theorem lw_p23 : lw_okq (⟨"BittenStickModel", "reads", "()V"⟩, 30) := ⟨⟨by decide +kernel, by decide +kernel⟩, List.mem_of_getElem? (i := 767) (by decide +kernel), List.mem_of_getElem? (i := 963) (by decide +kernel), List.mem_of_getElem? (i := 964) (by decide +kernel)⟩
theorem lw_p24 : lw_okq (⟨"BittenStickModel", "isPassenger", "(I)Z"⟩, 30) := ⟨⟨by decide +kernel, by decide +kernel⟩, List.mem_of_getElem? (i := 767) (by decide +kernel), List.mem_of_getElem? (i := 972) (by decide +kernel), List.mem_of_getElem? (i := 973) (by decide +kernel)⟩
theorem lw_p25 : lw_okq (⟨"BittenStickModel", "isGoose", "(I)Z"⟩, 30) := ⟨⟨by decide +kernel, by decide +kernel⟩, List.mem_of_getElem? (i := 767) (by decide +kernel), List.mem_of_getElem? (i := 980) (by decide +kernel), List.mem_of_getElem? (i := 981) (by decide +kernel)⟩
theorem lw_p26 : lw_okq (⟨"BittenStickModel", "isFlight", "(I)Z"⟩, 30) := ⟨⟨by decide +kernel, by decide +kernel⟩, List.mem_of_getElem? (i := 767) (by decide +kernel), List.mem_of_getElem? (i := 1011) (by decide +kernel), List.mem_of_getElem? (i := 1012) (by decide +kernel)⟩
theorem lw_p27 : lw_okq (⟨"BittenStickModel", "comesOf", "(II)I"⟩, 30) := ⟨⟨by decide +kernel, by decide +kernel⟩, List.mem_of_getElem? (i := 767) (by decide +kernel), List.mem_of_getElem? (i := 1015) (by decide +kernel), List.mem_of_getElem? (i := 1016) (by decide +kernel)⟩
theorem lw_p28 : lw_okq (⟨"BittenStickModel", "fliesTold", "(I)V"⟩, 30) := ⟨⟨by decide +kernel, by decide +kernel⟩, List.mem_of_getElem? (i := 767) (by decide +kernel), List.mem_of_getElem? (i := 1019) (by decide +kernel), List.mem_of_getElem? (i := 1020) (by decide +kernel)⟩
theorem lw_p29 : lw_okq (⟨"BittenStickModel", "flies", "(IIIIII)V"⟩, 30) := ⟨⟨by decide +kernel, by decide +kernel⟩, List.mem_of_getElem? (i := 767) (by decide +kernel), List.mem_of_getElem? (i := 1023) (by decide +kernel), List.mem_of_getElem? (i := 1024) (by decide +kernel)⟩
theorem lw_p30 : lw_okq (⟨"BittenStickModel", "goes", "(III)I"⟩, 30) := ⟨⟨by decide +kernel, by decide +kernel⟩, List.mem_of_getElem? (i := 767) (by decide +kernel), List.mem_of_getElem? (i := 1027) (by decide +kernel), List.mem_of_getElem? (i := 1028) (by decide +kernel)⟩
theorem lw_p31 : lw_okq (⟨"BittenStickModel", "changes", "()V"⟩, 30) := ⟨⟨by decide +kernel, by decide +kernel⟩, List.mem_of_getElem? (i := 767) (by decide +kernel), List.mem_of_getElem? (i := 1031) (by decide +kernel), List.mem_of_getElem? (i := 1032) (by decide +kernel)⟩
def lw_privs_2 : List (MethodName × Nat) := [(⟨"BittenStick", "mixFlight", "(JI)J"⟩, 15), (⟨"BittenStickModel", "finds", "(I)I"⟩, 30), (⟨"BittenStickModel", "lacks", "(III)I"⟩, 30), (⟨"BittenStickModel", "readsText", "(I)I"⟩, 30), (⟨"BittenStickModel", "readsLand", "()I"⟩, 30), (⟨"BittenStickModel", "readsPassengers", "()I"⟩, 30), (⟨"BittenStickModel", "readsGeese", "()I"⟩, 30), (⟨"BittenStickModel", "reads", "()V"⟩, 30), (⟨"BittenStickModel", "isPassenger", "(I)Z"⟩, 30), (⟨"BittenStickModel", "isGoose", "(I)Z"⟩, 30), (⟨"BittenStickModel", "isFlight", "(I)Z"⟩, 30), (⟨"BittenStickModel", "comesOf", "(II)I"⟩, 30), (⟨"BittenStickModel", "fliesTold", "(I)V"⟩, 30), (⟨"BittenStickModel", "flies", "(IIIIII)V"⟩, 30), (⟨"BittenStickModel", "goes", "(III)I"⟩, 30), (⟨"BittenStickModel", "changes", "()V"⟩, 30)]
theorem lw_r2 : ∀ q ∈ lw_privs_2, lw_okq q := List.forall_mem_cons.mpr ⟨lw_p16, List.forall_mem_cons.mpr ⟨lw_p17, List.forall_mem_cons.mpr ⟨lw_p18, List.forall_mem_cons.mpr ⟨lw_p19, List.forall_mem_cons.mpr ⟨lw_p20, List.forall_mem_cons.mpr ⟨lw_p21, List.forall_mem_cons.mpr ⟨lw_p22, List.forall_mem_cons.mpr ⟨lw_p23, List.forall_mem_cons.mpr ⟨lw_p24, List.forall_mem_cons.mpr ⟨lw_p25, List.forall_mem_cons.mpr ⟨lw_p26, List.forall_mem_cons.mpr ⟨lw_p27, List.forall_mem_cons.mpr ⟨lw_p28, List.forall_mem_cons.mpr ⟨lw_p29, List.forall_mem_cons.mpr ⟨lw_p30, List.forall_mem_cons.mpr ⟨lw_p31, fun _ h => absurd h List.not_mem_nil⟩⟩⟩⟩⟩⟩⟩⟩⟩⟩⟩⟩⟩⟩⟩⟩
theorem lw_p32 : lw_okq (⟨"BittenStickModel", "tires", "(I)V"⟩, 30) := ⟨⟨by decide +kernel, by decide +kernel⟩, List.mem_of_getElem? (i := 767) (by decide +kernel), List.mem_of_getElem? (i := 1035) (by decide +kernel), List.mem_of_getElem? (i := 1036) (by decide +kernel)⟩
theorem lw_p33 : lw_okq (⟨"BittenStickModel", "angerBy", "(III)I"⟩, 30) := ⟨⟨by decide +kernel, by decide +kernel⟩, List.mem_of_getElem? (i := 767) (by decide +kernel), List.mem_of_getElem? (i := 1042) (by decide +kernel), List.mem_of_getElem? (i := 1043) (by decide +kernel)⟩
theorem lw_p34 : lw_okq (⟨"BittenStickModel", "comesNow", "(I)I"⟩, 30) := ⟨⟨by decide +kernel, by decide +kernel⟩, List.mem_of_getElem? (i := 767) (by decide +kernel), List.mem_of_getElem? (i := 1046) (by decide +kernel), List.mem_of_getElem? (i := 1047) (by decide +kernel)⟩
theorem lw_p35 : lw_okq (⟨"BittenStickModel", "behindOf", "(III)I"⟩, 30) := ⟨⟨by decide +kernel, by decide +kernel⟩, List.mem_of_getElem? (i := 767) (by decide +kernel), List.mem_of_getElem? (i := 1054) (by decide +kernel), List.mem_of_getElem? (i := 1055) (by decide +kernel)⟩
theorem lw_p36 : lw_okq (⟨"BittenStickModel", "farthestNow", "()I"⟩, 30) := ⟨⟨by decide +kernel, by decide +kernel⟩, List.mem_of_getElem? (i := 767) (by decide +kernel), List.mem_of_getElem? (i := 1062) (by decide +kernel), List.mem_of_getElem? (i := 1063) (by decide +kernel)⟩
theorem lw_p37 : lw_okq (⟨"BittenStickModel", "climbOf", "(II)I"⟩, 30) := ⟨⟨by decide +kernel, by decide +kernel⟩, List.mem_of_getElem? (i := 767) (by decide +kernel), List.mem_of_getElem? (i := 1071) (by decide +kernel), List.mem_of_getElem? (i := 1072) (by decide +kernel)⟩
theorem lw_p38 : lw_okq (⟨"BittenStickModel", "practiceOf", "(II)I"⟩, 30) := ⟨⟨by decide +kernel, by decide +kernel⟩, List.mem_of_getElem? (i := 767) (by decide +kernel), List.mem_of_getElem? (i := 1079) (by decide +kernel), List.mem_of_getElem? (i := 1080) (by decide +kernel)⟩
theorem lw_p39 : lw_okq (⟨"BittenStickModel", "pairOf", "(II)I"⟩, 30) := ⟨⟨by decide +kernel, by decide +kernel⟩, List.mem_of_getElem? (i := 767) (by decide +kernel), List.mem_of_getElem? (i := 1090) (by decide +kernel), List.mem_of_getElem? (i := 1091) (by decide +kernel)⟩
theorem lw_p40 : lw_okq (⟨"BittenStickModel", "soresOf", "(I)I"⟩, 30) := ⟨⟨by decide +kernel, by decide +kernel⟩, List.mem_of_getElem? (i := 767) (by decide +kernel), List.mem_of_getElem? (i := 1107) (by decide +kernel), List.mem_of_getElem? (i := 1108) (by decide +kernel)⟩
theorem lw_p41 : lw_okq (⟨"BittenStickModel", "isSeen", "()Z"⟩, 30) := ⟨⟨by decide +kernel, by decide +kernel⟩, List.mem_of_getElem? (i := 767) (by decide +kernel), List.mem_of_getElem? (i := 1111) (by decide +kernel), List.mem_of_getElem? (i := 1112) (by decide +kernel)⟩
theorem lw_p42 : lw_okq (⟨"BittenStickModel", "highOf", "(I)I"⟩, 30) := ⟨⟨by decide +kernel, by decide +kernel⟩, List.mem_of_getElem? (i := 767) (by decide +kernel), List.mem_of_getElem? (i := 1119) (by decide +kernel), List.mem_of_getElem? (i := 1120) (by decide +kernel)⟩
theorem lw_p43 : lw_okq (⟨"BittenStickModel", "askOf", "(I)I"⟩, 30) := ⟨⟨by decide +kernel, by decide +kernel⟩, List.mem_of_getElem? (i := 767) (by decide +kernel), List.mem_of_getElem? (i := 1127) (by decide +kernel), List.mem_of_getElem? (i := 1128) (by decide +kernel)⟩
theorem lw_p44 : lw_okq (⟨"BittenStickModel", "mostAlike", "(III)I"⟩, 30) := ⟨⟨by decide +kernel, by decide +kernel⟩, List.mem_of_getElem? (i := 767) (by decide +kernel), List.mem_of_getElem? (i := 1131) (by decide +kernel), List.mem_of_getElem? (i := 1132) (by decide +kernel)⟩
theorem lw_p45 : lw_okq (⟨"BittenStickModel", "towns", "()I"⟩, 30) := ⟨⟨by decide +kernel, by decide +kernel⟩, List.mem_of_getElem? (i := 767) (by decide +kernel), List.mem_of_getElem? (i := 1139) (by decide +kernel), List.mem_of_getElem? (i := 1140) (by decide +kernel)⟩
theorem lw_p46 : lw_okq (⟨"BittenStickModel", "laughOf", "(IIII)J"⟩, 30) := ⟨⟨by decide +kernel, by decide +kernel⟩, List.mem_of_getElem? (i := 767) (by decide +kernel), List.mem_of_getElem? (i := 1144) (by decide +kernel), List.mem_of_getElem? (i := 1145) (by decide +kernel)⟩
theorem lw_p47 : lw_okq (⟨"BittenStickModel", "calls", "(I)I"⟩, 30) := ⟨⟨by decide +kernel, by decide +kernel⟩, List.mem_of_getElem? (i := 767) (by decide +kernel), List.mem_of_getElem? (i := 1148) (by decide +kernel), List.mem_of_getElem? (i := 1149) (by decide +kernel)⟩
def lw_privs_3 : List (MethodName × Nat) := [(⟨"BittenStickModel", "tires", "(I)V"⟩, 30), (⟨"BittenStickModel", "angerBy", "(III)I"⟩, 30), (⟨"BittenStickModel", "comesNow", "(I)I"⟩, 30), (⟨"BittenStickModel", "behindOf", "(III)I"⟩, 30), (⟨"BittenStickModel", "farthestNow", "()I"⟩, 30), (⟨"BittenStickModel", "climbOf", "(II)I"⟩, 30), (⟨"BittenStickModel", "practiceOf", "(II)I"⟩, 30), (⟨"BittenStickModel", "pairOf", "(II)I"⟩, 30), (⟨"BittenStickModel", "soresOf", "(I)I"⟩, 30), (⟨"BittenStickModel", "isSeen", "()Z"⟩, 30), (⟨"BittenStickModel", "highOf", "(I)I"⟩, 30), (⟨"BittenStickModel", "askOf", "(I)I"⟩, 30), (⟨"BittenStickModel", "mostAlike", "(III)I"⟩, 30), (⟨"BittenStickModel", "towns", "()I"⟩, 30), (⟨"BittenStickModel", "laughOf", "(IIII)J"⟩, 30), (⟨"BittenStickModel", "calls", "(I)I"⟩, 30)]
theorem lw_r3 : ∀ q ∈ lw_privs_3, lw_okq q := List.forall_mem_cons.mpr ⟨lw_p32, List.forall_mem_cons.mpr ⟨lw_p33, List.forall_mem_cons.mpr ⟨lw_p34, List.forall_mem_cons.mpr ⟨lw_p35, List.forall_mem_cons.mpr ⟨lw_p36, List.forall_mem_cons.mpr ⟨lw_p37, List.forall_mem_cons.mpr ⟨lw_p38, List.forall_mem_cons.mpr ⟨lw_p39, List.forall_mem_cons.mpr ⟨lw_p40, List.forall_mem_cons.mpr ⟨lw_p41, List.forall_mem_cons.mpr ⟨lw_p42, List.forall_mem_cons.mpr ⟨lw_p43, List.forall_mem_cons.mpr ⟨lw_p44, List.forall_mem_cons.mpr ⟨lw_p45, List.forall_mem_cons.mpr ⟨lw_p46, List.forall_mem_cons.mpr ⟨lw_p47, fun _ h => absurd h List.not_mem_nil⟩⟩⟩⟩⟩⟩⟩⟩⟩⟩⟩⟩⟩⟩⟩⟩
theorem lw_p48 : lw_okq (⟨"BittenStickModel", "lakesOf", "(III)I"⟩, 30) := ⟨⟨by decide +kernel, by decide +kernel⟩, List.mem_of_getElem? (i := 767) (by decide +kernel), List.mem_of_getElem? (i := 1164) (by decide +kernel), List.mem_of_getElem? (i := 1165) (by decide +kernel)⟩
theorem lw_p49 : lw_okq (⟨"BittenStickModel", "lot", "(I)I"⟩, 30) := ⟨⟨by decide +kernel, by decide +kernel⟩, List.mem_of_getElem? (i := 767) (by decide +kernel), List.mem_of_getElem? (i := 1168) (by decide +kernel), List.mem_of_getElem? (i := 1169) (by decide +kernel)⟩
theorem lw_p50 : lw_okq (⟨"BittenStickModel", "tellsFlight", "(JI)J"⟩, 30) := ⟨⟨by decide +kernel, by decide +kernel⟩, List.mem_of_getElem? (i := 767) (by decide +kernel), List.mem_of_getElem? (i := 1191) (by decide +kernel), List.mem_of_getElem? (i := 1192) (by decide +kernel)⟩
def lw_privs_4 : List (MethodName × Nat) := [(⟨"BittenStickModel", "lakesOf", "(III)I"⟩, 30), (⟨"BittenStickModel", "lot", "(I)I"⟩, 30), (⟨"BittenStickModel", "tellsFlight", "(JI)J"⟩, 30)]
theorem lw_r4 : ∀ q ∈ lw_privs_4, lw_okq q := List.forall_mem_cons.mpr ⟨lw_p48, List.forall_mem_cons.mpr ⟨lw_p49, List.forall_mem_cons.mpr ⟨lw_p50, fun _ h => absurd h List.not_mem_nil⟩⟩⟩
def lw_privs : List (MethodName × Nat) := lw_privs_1 ++ (lw_privs_2 ++ (lw_privs_3 ++ (lw_privs_4)))
theorem lw_privs_ok : ∀ q ∈ lw_privs, lw_okq q := by
  show ∀ q ∈ lw_privs_1 ++ (lw_privs_2 ++ (lw_privs_3 ++ (lw_privs_4))), lw_okq q
  exact List.forall_mem_append.mpr ⟨lw_r1, List.forall_mem_append.mpr ⟨lw_r2, List.forall_mem_append.mpr ⟨lw_r3, lw_r4⟩⟩⟩
/-- a private method of a superclass: every subclass selects it -/
theorem lw_selp {C : String} {y x2 y2 : MethodName} {s : State} {args : Array Value} (hy : y.cls ≠ "java/lang/invoke/MethodHandle" ∧ y.cls ≠ "java/lang/invoke/VarHandle") (h2 : (Cond.selects C x2 y2).before args s = true) (hcl : y2.cls = y.cls) (hpriv : (Cond.privateMethod y).before args s = true) (hinst : (Cond.instanceMethod y).before args s = true) : (Cond.selects C y y).before args s = true := by
  obtain ⟨c, r, m2, hc, -, hn2, -, mk2, hk2, hni⟩ := Cond.selects_spec h2
  obtain ⟨mk, methM, hnamed, hmethM, -, -⟩ := Cond.instanceMethod_spec hinst
  have hfound : s.methodFound? y.cls y.name y.desc = some mk := State.methodFound?_of_named hnamed hy
  have e1 := findClass_of_methodNamed hnamed
  have e2 := findClass_of_methodNamed hn2
  rw [hcl] at e2
  have hcls : mk.cls = m2.cls := Option.some.inj (e1.symm.trans e2)
  have hsel : selectMethod {} s.vm c mk = .method mk := selectMethod_private hmethM (Cond.privateMethod_at hpriv mk methM hnamed hmethM)
  simp only [Cond.before, Cond.holds, Cond.value, hc, hfound, hnamed, hsel, hcls, hk2]
  simp; exact hni
def lw_ra : MethodName := ⟨"BittenStick$Text", "readAgain", "()V"⟩
def lw_isf : MethodName := ⟨"BittenStick$Text", "isFull", "()Z"⟩
def lw_extra : List Cond := [.selects "BittenStick$Geese" lw_ra lw_ra, .selects "BittenStick$Land" lw_ra lw_ra, .selects "BittenStick$Passengers" lw_ra lw_ra]
def lw_tbl : List Cond := lw_extra ++ (k2_sels lw_privs ++ tables_1)
theorem lw_m0 : Cond.selects "BittenStick$Land" lw_isf lw_isf ∈ tables_1 := List.mem_of_getElem? (i := 331) (by decide +kernel)
theorem lw_m1 : Cond.selects "BittenStick$Geese" lw_isf lw_isf ∈ tables_1 := List.mem_of_getElem? (i := 330) (by decide +kernel)
theorem lw_m2 : Cond.selects "BittenStick$Passengers" lw_isf lw_isf ∈ tables_1 := List.mem_of_getElem? (i := 332) (by decide +kernel)
theorem lw_m3 : Cond.privateMethod lw_ra ∈ tables_1 := List.mem_of_getElem? (i := 357) (by decide +kernel)
theorem lw_m4 : Cond.instanceMethod lw_ra ∈ tables_1 := List.mem_of_getElem? (i := 358) (by decide +kernel)
theorem lw_hts {args : Array Value} {s : State} (hts : ∀ w ∈ tables_1, w.before args s = true) : ∀ w ∈ lw_tbl, w.before args s = true := by
  intro w hw
  rcases List.mem_append.mp hw with hw | hw
  · have hy : lw_ra.cls ≠ "java/lang/invoke/MethodHandle" ∧ lw_ra.cls ≠ "java/lang/invoke/VarHandle" := ⟨by decide +kernel, by decide +kernel⟩
    rcases List.mem_cons.mp hw with h | hw
    · rw [h]; exact lw_selp hy (hts _ lw_m1) rfl (hts _ lw_m3) (hts _ lw_m4)
    rcases List.mem_cons.mp hw with h | hw
    · rw [h]; exact lw_selp hy (hts _ lw_m0) rfl (hts _ lw_m3) (hts _ lw_m4)
    rcases List.mem_cons.mp hw with h | hw
    · rw [h]; exact lw_selp hy (hts _ lw_m2) rfl (hts _ lw_m3) (hts _ lw_m4)
    · exact absurd hw List.not_mem_nil
  · exact k2_hts_sels lw_privs hts lw_privs_ok w hw
end
section
/-! ===== BEGIN words of one list among another's, by their places ===== -/
theorem goodIn_r {big : List Cond} (ws : List Cond) (ps : List Nat) (hp : ws = ps.filterMap (fun i => big[i]?)) (h : ws.all goodWord = true) : GoodIn big ws := by
  intro w hw
  have h1 := List.all_eq_true.mp h w hw
  rw [hp] at hw
  obtain ⟨i, -, hi⟩ := List.mem_filterMap.mp hw
  have hm : w ∈ big := by first | exact List.mem_of_getElem? hi | exact List.getElem?_mem hi
  exact ⟨hm, good_of_word h1⟩
theorem goodIn_app {big a b : List Cond} (ha : GoodIn big a) (hb : GoodIn big b) : GoodIn big (a ++ b) := fun w h => (List.mem_append.mp h).elim (ha w) (hb w)
theorem goodIn_ca {big a b : List Cond} {c : Cond} (ha : GoodIn big (c :: a)) (hb : GoodIn big b) : GoodIn big (c :: (a ++ b)) := fun w h => (List.mem_cons.mp h).elim (fun e => ha w (List.mem_cons.mpr (Or.inl e))) (fun h => (List.mem_append.mp h).elim (fun h => ha w (List.mem_cons.mpr (Or.inr h))) (hb w))
theorem goodIn_sub {big ws : List Cond} (hm : ∀ w ∈ ws, w ∈ big) (h : ws.all goodWord = true) : GoodIn big ws := fun w hw => ⟨hm w hw, good_of_word (List.all_eq_true.mp h w hw)⟩
/-! ===== END ===== -/

/-! ===== BEGIN printed: names, fields, word lists, decode rows ===== -/
def RX0 : String := "BittenStick$Climb"
def TX0 : u_T := fun k => match k with
  | 0 => ("BittenStick$Climb", "far", "I", false)
  | 1 => ("BittenStick$Climb", "first", "I", false)
  | 2 => ("BittenStick$Climb", "turn", "I", false)
  | _ => ("BittenStick$Climb", "second", "I", false)
def tyX0 : Nat → FieldType := fun k => match k with
  | 0 => .int
  | 1 => .int
  | 2 => .int
  | _ => .int
abbrev wsX00 : List Cond := u_ws RX0 TX0 4
theorem nmX0 : ∀ a, a < 4 → ∀ b, b < 4 → a ≠ b → (TX0 a).2.1 ≠ (TX0 b).2.1 := by decide +kernel
theorem tyX0_ok : ∀ k, k < 4 → parseFieldDescriptor (TX0 k).2.2.1 = some (tyX0 k) := by decide +kernel
abbrev cX0_init : ByteArray := prog_2_method_1_code
def yX0_init : MethodName := ⟨RX0, "<init>", "()V"⟩
abbrev cX0_told : ByteArray := prog_2_method_2_code
def yX0_told : MethodName := ⟨RX0, "told", "(I)I"⟩
abbrev cX0_plan : ByteArray := prog_2_method_3_code
def yX0_plan : MethodName := ⟨RX0, "plan", "(LBittenStick$Trip;I)V"⟩
abbrev cX0_trySecond : ByteArray := prog_2_method_4_code
def yX0_trySecond : MethodName := ⟨RX0, "trySecond", "(LBittenStick$Trip;III)V"⟩
abbrev cX0_note : ByteArray := prog_2_method_5_code
def yX0_note : MethodName := ⟨RX0, "note", "(IIII)V"⟩
def RX1 : String := "BittenStick$Flights"
def TX1 : u_T := fun k => match k with
  | 0 => ("BittenStick$Flights", "items", "[I", true)
  | _ => ("BittenStick$Flights", "number", "I", false)
def tyX1 : Nat → FieldType := fun k => match k with
  | 0 => .array .int
  | _ => .int
abbrev wsX10 : List Cond := u_ws RX1 TX1 2
theorem nmX1 : ∀ a, a < 2 → ∀ b, b < 2 → a ≠ b → (TX1 a).2.1 ≠ (TX1 b).2.1 := by decide +kernel
theorem tyX1_ok : ∀ k, k < 2 → parseFieldDescriptor (TX1 k).2.2.1 = some (tyX1 k) := by decide +kernel
abbrev cX1_init : ByteArray := prog_3_method_1_code
def yX1_init : MethodName := ⟨RX1, "<init>", "()V"⟩
abbrev cX1_append : ByteArray := prog_3_method_2_code
def yX1_append : MethodName := ⟨RX1, "append", "(IIII)I"⟩
abbrev cX1_has : ByteArray := prog_3_method_3_code
def yX1_has : MethodName := ⟨RX1, "has", "(I)Z"⟩
abbrev cX1_passengerOf : ByteArray := prog_3_method_4_code
def yX1_passengerOf : MethodName := ⟨RX1, "passengerOf", "(I)I"⟩
abbrev cX1_leftOf : ByteArray := prog_3_method_5_code
def yX1_leftOf : MethodName := ⟨RX1, "leftOf", "(I)I"⟩
abbrev cX1_rightOf : ByteArray := prog_3_method_6_code
def yX1_rightOf : MethodName := ⟨RX1, "rightOf", "(I)I"⟩
abbrev cX1_heightOf : ByteArray := prog_3_method_7_code
def yX1_heightOf : MethodName := ⟨RX1, "heightOf", "(I)I"⟩
abbrev cX1_item : ByteArray := prog_3_method_8_code
def yX1_item : MethodName := ⟨RX1, "item", "(II)I"⟩
def RX2 : String := "BittenStick$Geese"
def TX2 : u_T := fun k => match k with
  | 0 => ("BittenStick$Text", "values", "[I", true)
  | 1 => ("BittenStick$Text", "length", "I", false)
  | 2 => ("BittenStick$Text", "faultAt", "I", false)
  | _ => ("BittenStick$Text", "number", "I", false)
def tyX2 : Nat → FieldType := fun k => match k with
  | 0 => .array .int
  | 1 => .int
  | 2 => .int
  | _ => .int
abbrev wsX20 : List Cond := u_ws RX2 TX2 4
theorem nmX2 : ∀ a, a < 4 → ∀ b, b < 4 → a ≠ b → (TX2 a).2.1 ≠ (TX2 b).2.1 := by decide +kernel
theorem tyX2_ok : ∀ k, k < 4 → parseFieldDescriptor (TX2 k).2.2.1 = some (tyX2 k) := by decide +kernel
abbrev cX2_init : ByteArray := prog_4_method_1_code
def yX2_init : MethodName := ⟨RX2, "<init>", "()V"⟩
abbrev cX2_worth : ByteArray := prog_4_method_2_code
def yX2_worth : MethodName := ⟨RX2, "worth", "(II)I"⟩
abbrev cX2_thingsIn : ByteArray := prog_4_method_3_code
def yX2_thingsIn : MethodName := ⟨RX2, "thingsIn", "(I)I"⟩
abbrev cX2_told : ByteArray := prog_4_method_4_code
def yX2_told : MethodName := ⟨RX2, "told", "(II)I"⟩
def RX3 : String := "BittenStick$Goose"
def TX3 : u_T := fun k => match k with
  | 0 => ("BittenStick$Goose", "told", "I", false)
  | 1 => ("BittenStick$Goose", "tires", "I", false)
  | 2 => ("BittenStick$Goose", "strong", "I", false)
  | _ => ("BittenStick$Goose", "flown", "I", false)
def tyX3 : Nat → FieldType := fun k => match k with
  | 0 => .int
  | 1 => .int
  | 2 => .int
  | _ => .int
abbrev wsX30 : List Cond := u_ws RX3 TX3 4
theorem nmX3 : ∀ a, a < 4 → ∀ b, b < 4 → a ≠ b → (TX3 a).2.1 ≠ (TX3 b).2.1 := by decide +kernel
theorem tyX3_ok : ∀ k, k < 4 → parseFieldDescriptor (TX3 k).2.2.1 = some (tyX3 k) := by decide +kernel
abbrev cX3_init : ByteArray := prog_5_method_1_code
def yX3_init : MethodName := ⟨RX3, "<init>", "()V"⟩
abbrev cX3_setOut : ByteArray := prog_5_method_2_code
def yX3_setOut : MethodName := ⟨RX3, "setOut", "()V"⟩
abbrev cX3_flyMile : ByteArray := prog_5_method_3_code
def yX3_flyMile : MethodName := ⟨RX3, "flyMile", "()V"⟩
abbrev cX3_rest : ByteArray := prog_5_method_4_code
def yX3_rest : MethodName := ⟨RX3, "rest", "()V"⟩
def RX4 : String := "BittenStick$Land"
def TX4 : u_T := fun k => match k with
  | 0 => ("BittenStick$Text", "values", "[I", true)
  | 1 => ("BittenStick$Text", "length", "I", false)
  | 2 => ("BittenStick$Text", "faultAt", "I", false)
  | _ => ("BittenStick$Text", "number", "I", false)
def tyX4 : Nat → FieldType := fun k => match k with
  | 0 => .array .int
  | 1 => .int
  | 2 => .int
  | _ => .int
abbrev wsX40 : List Cond := u_ws RX4 TX4 4
theorem nmX4 : ∀ a, a < 4 → ∀ b, b < 4 → a ≠ b → (TX4 a).2.1 ≠ (TX4 b).2.1 := by decide +kernel
theorem tyX4_ok : ∀ k, k < 4 → parseFieldDescriptor (TX4 k).2.2.1 = some (tyX4 k) := by decide +kernel
abbrev cX4_init : ByteArray := prog_6_method_1_code
def yX4_init : MethodName := ⟨RX4, "<init>", "()V"⟩
abbrev cX4_worth : ByteArray := prog_6_method_2_code
def yX4_worth : MethodName := ⟨RX4, "worth", "(II)I"⟩
abbrev cX4_thingsIn : ByteArray := prog_6_method_3_code
def yX4_thingsIn : MethodName := ⟨RX4, "thingsIn", "(I)I"⟩
abbrev cX4_isTown : ByteArray := prog_6_method_4_code
def yX4_isTown : MethodName := ⟨RX4, "isTown", "(I)Z"⟩
abbrev cX4_towns : ByteArray := prog_6_method_5_code
def yX4_towns : MethodName := ⟨RX4, "towns", "()I"⟩
def RX5 : String := "BittenStick$Laughter"
def TX5 : u_T := fun k => match k with
  | 0 => ("BittenStick$Laughter", "chances", "[J", true)
  | 1 => ("BittenStick$Laughter", "above", "J", false)
  | _ => ("BittenStick$Laughter", "below", "J", false)
def tyX5 : Nat → FieldType := fun k => match k with
  | 0 => .array .long
  | 1 => .long
  | _ => .long
abbrev wsX50 : List Cond := u_ws RX5 TX5 3
theorem nmX5 : ∀ a, a < 3 → ∀ b, b < 3 → a ≠ b → (TX5 a).2.1 ≠ (TX5 b).2.1 := by decide +kernel
theorem tyX5_ok : ∀ k, k < 3 → parseFieldDescriptor (TX5 k).2.2.1 = some (tyX5 k) := by decide +kernel
abbrev cX5_init : ByteArray := prog_7_method_1_code
def yX5_init : MethodName := ⟨RX5, "<init>", "()V"⟩
abbrev cX5_weigh : ByteArray := prog_7_method_2_code
def yX5_weigh : MethodName := ⟨RX5, "weigh", "(ILBittenStick$Trip;I)V"⟩
abbrev cX5_startCalm : ByteArray := prog_7_method_3_code
def yX5_startCalm : MethodName := ⟨RX5, "startCalm", "(J)V"⟩
abbrev cX5_hear : ByteArray := prog_7_method_4_code
def yX5_hear : MethodName := ⟨RX5, "hear", "(III)V"⟩
abbrev cX5_sum : ByteArray := prog_7_method_5_code
def yX5_sum : MethodName := ⟨RX5, "sum", "()J"⟩
abbrev cX5_reduce : ByteArray := prog_7_method_6_code
def yX5_reduce : MethodName := ⟨RX5, "reduce", "()V"⟩
def RX6 : String := "BittenStick$Lots"
def TX6 : u_T := fun k => match k with
  | _ => ("BittenStick$Lots", "seed", "I", false)
def tyX6 : Nat → FieldType := fun k => match k with
  | _ => .int
abbrev wsX60 : List Cond := u_ws RX6 TX6 1
theorem nmX6 : ∀ a, a < 1 → ∀ b, b < 1 → a ≠ b → (TX6 a).2.1 ≠ (TX6 b).2.1 := by decide +kernel
theorem tyX6_ok : ∀ k, k < 1 → parseFieldDescriptor (TX6 k).2.2.1 = some (tyX6 k) := by decide +kernel
abbrev cX6_init : ByteArray := prog_8_method_1_code
def yX6_init : MethodName := ⟨RX6, "<init>", "()V"⟩
abbrev cX6_draw : ByteArray := prog_8_method_2_code
def yX6_draw : MethodName := ⟨RX6, "draw", "(I)I"⟩
def RX7 : String := "BittenStick$Passengers"
def TX7 : u_T := fun k => match k with
  | 0 => ("BittenStick$Text", "values", "[I", true)
  | 1 => ("BittenStick$Text", "length", "I", false)
  | 2 => ("BittenStick$Text", "faultAt", "I", false)
  | _ => ("BittenStick$Text", "number", "I", false)
def tyX7 : Nat → FieldType := fun k => match k with
  | 0 => .array .int
  | 1 => .int
  | 2 => .int
  | _ => .int
abbrev wsX70 : List Cond := u_ws RX7 TX7 4
theorem nmX7 : ∀ a, a < 4 → ∀ b, b < 4 → a ≠ b → (TX7 a).2.1 ≠ (TX7 b).2.1 := by decide +kernel
theorem tyX7_ok : ∀ k, k < 4 → parseFieldDescriptor (TX7 k).2.2.1 = some (tyX7 k) := by decide +kernel
abbrev cX7_init : ByteArray := prog_9_method_1_code
def yX7_init : MethodName := ⟨RX7, "<init>", "()V"⟩
abbrev cX7_worth : ByteArray := prog_9_method_2_code
def yX7_worth : MethodName := ⟨RX7, "worth", "(II)I"⟩
abbrev cX7_kind : ByteArray := prog_9_method_3_code
def yX7_kind : MethodName := ⟨RX7, "kind", "(I)I"⟩
abbrev cX7_thingsIn : ByteArray := prog_9_method_4_code
def yX7_thingsIn : MethodName := ⟨RX7, "thingsIn", "(I)I"⟩
abbrev cX7_told : ByteArray := prog_9_method_5_code
def yX7_told : MethodName := ⟨RX7, "told", "(II)I"⟩
def RX8 : String := "BittenStick$Sheet"
def TX8 : u_T := fun k => match k with
  | 0 => ("BittenStick$Sheet", "items", "[I", true)
  | 1 => ("BittenStick$Sheet", "isLost", "Z", false)
  | 2 => ("BittenStick$Sheet", "form", "I", false)
  | _ => ("BittenStick$Sheet", "size", "I", false)
def tyX8 : Nat → FieldType := fun k => match k with
  | 0 => .array .int
  | 1 => .boolean
  | 2 => .int
  | _ => .int
abbrev wsX80 : List Cond := u_ws RX8 TX8 4
theorem nmX8 : ∀ a, a < 4 → ∀ b, b < 4 → a ≠ b → (TX8 a).2.1 ≠ (TX8 b).2.1 := by decide +kernel
theorem tyX8_ok : ∀ k, k < 4 → parseFieldDescriptor (TX8 k).2.2.1 = some (tyX8 k) := by decide +kernel
abbrev cX8_init : ByteArray := prog_10_method_1_code
def yX8_init : MethodName := ⟨RX8, "<init>", "()V"⟩
abbrev cX8_renew : ByteArray := prog_10_method_2_code
def yX8_renew : MethodName := ⟨RX8, "renew", "(II)V"⟩
abbrev cX8_hasItems : ByteArray := prog_10_method_3_code
def yX8_hasItems : MethodName := ⟨RX8, "hasItems", "(II)Z"⟩
abbrev cX8_item : ByteArray := prog_10_method_4_code
def yX8_item : MethodName := ⟨RX8, "item", "(I)I"⟩
abbrev cX8_put : ByteArray := prog_10_method_5_code
def yX8_put : MethodName := ⟨RX8, "put", "(II)V"⟩
def RX9 : String := "BittenStick$Text"
def TX9 : u_T := fun k => match k with
  | _ => ("", "", "", false)
def tyX9 : Nat → FieldType := fun k => match k with
  | _ => .int
abbrev wsX90 : List Cond := u_ws RX9 TX9 0
theorem nmX9 : ∀ a, a < 0 → ∀ b, b < 0 → a ≠ b → (TX9 a).2.1 ≠ (TX9 b).2.1 := by decide +kernel
theorem tyX9_ok : ∀ k, k < 0 → parseFieldDescriptor (TX9 k).2.2.1 = some (tyX9 k) := by decide +kernel
abbrev cX9_init : ByteArray := prog_11_method_1_code
def yX9_init : MethodName := ⟨RX9, "<init>", "(I)V"⟩
abbrev cX9_isFull : ByteArray := prog_11_method_4_code
def yX9_isFull : MethodName := ⟨RX9, "isFull", "()Z"⟩
abbrev cX9_append : ByteArray := prog_11_method_5_code
def yX9_append : MethodName := ⟨RX9, "append", "(I)V"⟩
abbrev cX9_shorten : ByteArray := prog_11_method_6_code
def yX9_shorten : MethodName := ⟨RX9, "shorten", "(I)V"⟩
abbrev cX9_valueAt : ByteArray := prog_11_method_7_code
def yX9_valueAt : MethodName := ⟨RX9, "valueAt", "(I)I"⟩
abbrev cX9_has : ByteArray := prog_11_method_8_code
def yX9_has : MethodName := ⟨RX9, "has", "(I)Z"⟩
abbrev cX9_readAgain : ByteArray := prog_11_method_9_code
def yX9_readAgain : MethodName := ⟨RX9, "readAgain", "()V"⟩
def RX10 : String := "BittenStick$Trip"
def TX10 : u_T := fun k => match k with
  | 0 => ("BittenStick$Trip", "land", "LBittenStick$Land;", true)
  | 1 => ("BittenStick$Trip", "passengers", "LBittenStick$Passengers;", true)
  | 2 => ("BittenStick$Trip", "geese", "LBittenStick$Geese;", true)
  | 3 => ("BittenStick$Trip", "toldLeft", "LBittenStick$Goose;", true)
  | 4 => ("BittenStick$Trip", "toldRight", "LBittenStick$Goose;", true)
  | 5 => ("BittenStick$Trip", "left", "LBittenStick$Goose;", false)
  | 6 => ("BittenStick$Trip", "right", "LBittenStick$Goose;", false)
  | 7 => ("BittenStick$Trip", "goes", "Z", false)
  | 8 => ("BittenStick$Trip", "carriedTo", "I", false)
  | 9 => ("BittenStick$Trip", "kind", "I", false)
  | 10 => ("BittenStick$Trip", "sore", "I", false)
  | 11 => ("BittenStick$Trip", "bears", "I", false)
  | 12 => ("BittenStick$Trip", "weight", "I", false)
  | 13 => ("BittenStick$Trip", "learned", "I", false)
  | 14 => ("BittenStick$Trip", "anger", "I", false)
  | 15 => ("BittenStick$Trip", "cold", "I", false)
  | _ => ("BittenStick$Trip", "end", "I", false)
def tyX10 : Nat → FieldType := fun k => match k with
  | 0 => .object "BittenStick$Land"
  | 1 => .object "BittenStick$Passengers"
  | 2 => .object "BittenStick$Geese"
  | 3 => .object "BittenStick$Goose"
  | 4 => .object "BittenStick$Goose"
  | 5 => .object "BittenStick$Goose"
  | 6 => .object "BittenStick$Goose"
  | 7 => .boolean
  | 8 => .int
  | 9 => .int
  | 10 => .int
  | 11 => .int
  | 12 => .int
  | 13 => .int
  | 14 => .int
  | 15 => .int
  | _ => .int
abbrev wsX100 : List Cond := u_ws RX10 TX10 17
theorem nmX10 : ∀ a, a < 17 → ∀ b, b < 17 → a ≠ b → (TX10 a).2.1 ≠ (TX10 b).2.1 := by decide +kernel
theorem tyX10_ok : ∀ k, k < 17 → parseFieldDescriptor (TX10 k).2.2.1 = some (tyX10 k) := by decide +kernel
abbrev cX10_init : ByteArray := prog_12_method_1_code
def yX10_init : MethodName := ⟨RX10, "<init>", "(LBittenStick$Land;LBittenStick$Passengers;LBittenStick$Geese;)V"⟩
abbrev cX10_board : ByteArray := prog_12_method_2_code
def yX10_board : MethodName := ⟨RX10, "board", "(III)V"⟩
abbrev cX10_flyGeese : ByteArray := prog_12_method_3_code
def yX10_flyGeese : MethodName := ⟨RX10, "flyGeese", "(IZ)I"⟩
abbrev cX10_setOut : ByteArray := prog_12_method_4_code
def yX10_setOut : MethodName := ⟨RX10, "setOut", "()V"⟩
abbrev cX10_comesTo : ByteArray := prog_12_method_5_code
def yX10_comesTo : MethodName := ⟨RX10, "comesTo", "(I)I"⟩
abbrev cX10_goOn : ByteArray := prog_12_method_6_code
def yX10_goOn : MethodName := ⟨RX10, "goOn", "(III)I"⟩
abbrev cX10_insult : ByteArray := prog_12_method_7_code
def yX10_insult : MethodName := ⟨RX10, "insult", "(II)I"⟩
def RX11 : String := "BittenStick"
def TX11 : u_T := fun k => match k with
  | 0 => ("BittenStick", "land", "LBittenStick$Land;", true)
  | 1 => ("BittenStick", "passengers", "LBittenStick$Passengers;", true)
  | 2 => ("BittenStick", "geese", "LBittenStick$Geese;", true)
  | 3 => ("BittenStick", "flights", "LBittenStick$Flights;", true)
  | 4 => ("BittenStick", "trip", "LBittenStick$Trip;", true)
  | 5 => ("BittenStick", "best", "LBittenStick$Climb;", true)
  | 6 => ("BittenStick", "laughter", "LBittenStick$Laughter;", true)
  | 7 => ("BittenStick", "lots", "LBittenStick$Lots;", true)
  | 8 => ("BittenStick", "seenFlights", "[I", true)
  | 9 => ("BittenStick", "seenMiles", "[I", true)
  | 10 => ("BittenStick", "comers", "[I", true)
  | 11 => ("BittenStick", "sheets", "[LBittenStick$Sheet;", true)
  | 12 => ("BittenStick", "seenNumber", "I", false)
  | 13 => ("BittenStick", "learned", "I", false)
  | _ => ("BittenStick", "finding", "I", false)
def tyX11 : Nat → FieldType := fun k => match k with
  | 0 => .object "BittenStick$Land"
  | 1 => .object "BittenStick$Passengers"
  | 2 => .object "BittenStick$Geese"
  | 3 => .object "BittenStick$Flights"
  | 4 => .object "BittenStick$Trip"
  | 5 => .object "BittenStick$Climb"
  | 6 => .object "BittenStick$Laughter"
  | 7 => .object "BittenStick$Lots"
  | 8 => .array .int
  | 9 => .array .int
  | 10 => .array .int
  | 11 => .array (.object "BittenStick$Sheet")
  | 12 => .int
  | 13 => .int
  | _ => .int
abbrev wsX110 : List Cond := u_ws RX11 TX11 15
theorem nmX11 : ∀ a, a < 15 → ∀ b, b < 15 → a ≠ b → (TX11 a).2.1 ≠ (TX11 b).2.1 := by decide +kernel
theorem tyX11_ok : ∀ k, k < 15 → parseFieldDescriptor (TX11 k).2.2.1 = some (tyX11 k) := by decide +kernel
abbrev cX11_init : ByteArray := prog_1_method_1_code
def yX11_init : MethodName := ⟨RX11, "<init>", "()V"⟩
abbrev cX11_type : ByteArray := prog_1_method_2_code
def yX11_type : MethodName := ⟨RX11, "type", "(II)I"⟩
abbrev cX11_wipe : ByteArray := prog_1_method_3_code
def yX11_wipe : MethodName := ⟨RX11, "wipe", "(I)I"⟩
abbrev cX11_undo : ByteArray := prog_1_method_4_code
def yX11_undo : MethodName := ⟨RX11, "undo", "(I)I"⟩
abbrev cX11_fault : ByteArray := prog_1_method_5_code
def yX11_fault : MethodName := ⟨RX11, "fault", "(I)I"⟩
abbrev cX11_mile : ByteArray := prog_1_method_6_code
def yX11_mile : MethodName := ⟨RX11, "mile", "(I)I"⟩
abbrev cX11_passenger : ByteArray := prog_1_method_7_code
def yX11_passenger : MethodName := ⟨RX11, "passenger", "(II)I"⟩
abbrev cX11_goose : ByteArray := prog_1_method_8_code
def yX11_goose : MethodName := ⟨RX11, "goose", "(II)I"⟩
abbrev cX11_flight : ByteArray := prog_1_method_9_code
def yX11_flight : MethodName := ⟨RX11, "flight", "(IIII)I"⟩
abbrev cX11_back : ByteArray := prog_1_method_10_code
def yX11_back : MethodName := ⟨RX11, "back", "()I"⟩
abbrev cX11_read : ByteArray := prog_1_method_11_code
def yX11_read : MethodName := ⟨RX11, "read", "(I)I"⟩
abbrev cX11_learn : ByteArray := prog_1_method_12_code
def yX11_learn : MethodName := ⟨RX11, "learn", "(I)I"⟩
abbrev cX11_comes : ByteArray := prog_1_method_13_code
def yX11_comes : MethodName := ⟨RX11, "comes", "(II)I"⟩
abbrev cX11_behind : ByteArray := prog_1_method_14_code
def yX11_behind : MethodName := ⟨RX11, "behind", "(III)I"⟩
abbrev cX11_farthest : ByteArray := prog_1_method_15_code
def yX11_farthest : MethodName := ⟨RX11, "farthest", "()I"⟩
abbrev cX11_climb : ByteArray := prog_1_method_16_code
def yX11_climb : MethodName := ⟨RX11, "climb", "(II)I"⟩
abbrev cX11_practice : ByteArray := prog_1_method_17_code
def yX11_practice : MethodName := ⟨RX11, "practice", "(II)I"⟩
abbrev cX11_pair : ByteArray := prog_1_method_18_code
def yX11_pair : MethodName := ⟨RX11, "pair", "(II)I"⟩
abbrev cX11_seen : ByteArray := prog_1_method_19_code
def yX11_seen : MethodName := ⟨RX11, "seen", "(II)I"⟩
abbrev cX11_forget : ByteArray := prog_1_method_20_code
def yX11_forget : MethodName := ⟨RX11, "forget", "()I"⟩
abbrev cX11_sores : ByteArray := prog_1_method_21_code
def yX11_sores : MethodName := ⟨RX11, "sores", "(I)I"⟩
abbrev cX11_high : ByteArray := prog_1_method_22_code
def yX11_high : MethodName := ⟨RX11, "high", "(I)I"⟩
abbrev cX11_ask : ByteArray := prog_1_method_23_code
def yX11_ask : MethodName := ⟨RX11, "ask", "(I)I"⟩
abbrev cX11_laugh : ByteArray := prog_1_method_24_code
def yX11_laugh : MethodName := ⟨RX11, "laugh", "(III)J"⟩
abbrev cX11_lakes : ByteArray := prog_1_method_25_code
def yX11_lakes : MethodName := ⟨RX11, "lakes", "(III)I"⟩
abbrev cX11_sheet : ByteArray := prog_1_method_26_code
def yX11_sheet : MethodName := ⟨RX11, "sheet", "(III)I"⟩
abbrev cX11_lose : ByteArray := prog_1_method_27_code
def yX11_lose : MethodName := ⟨RX11, "lose", "(I)I"⟩
abbrev cX11_lay : ByteArray := prog_1_method_28_code
def yX11_lay : MethodName := ⟨RX11, "lay", "(IIII)I"⟩
abbrev cX11_get : ByteArray := prog_1_method_29_code
def yX11_get : MethodName := ⟨RX11, "get", "(III)I"⟩
abbrev cX11_copy : ByteArray := prog_1_method_30_code
def yX11_copy : MethodName := ⟨RX11, "copy", "(IIIII)I"⟩
abbrev cX11_write : ByteArray := prog_1_method_31_code
def yX11_write : MethodName := ⟨RX11, "write", "(III)I"⟩
abbrev cX11_count : ByteArray := prog_1_method_32_code
def yX11_count : MethodName := ⟨RX11, "count", "(I)I"⟩
abbrev cX11_digest : ByteArray := prog_1_method_33_code
def yX11_digest : MethodName := ⟨RX11, "digest", "()J"⟩
abbrev cX11_mixFlight : ByteArray := prog_1_method_34_code
def yX11_mixFlight : MethodName := ⟨RX11, "mixFlight", "(JI)J"⟩
abbrev cX11_textOf : ByteArray := prog_1_method_35_code
def yX11_textOf : MethodName := ⟨RX11, "textOf", "(I)LBittenStick$Text;"⟩
abbrev cX11_sheetOf : ByteArray := prog_1_method_36_code
def yX11_sheetOf : MethodName := ⟨RX11, "sheetOf", "(I)LBittenStick$Sheet;"⟩
abbrev cX11_isForm : ByteArray := prog_1_method_37_code
def yX11_isForm : MethodName := ⟨RX11, "isForm", "(I)Z"⟩
abbrev cX11_found : ByteArray := prog_1_method_38_code
def yX11_found : MethodName := ⟨RX11, "found", "(I)I"⟩
abbrev cX11_itemRefusal : ByteArray := prog_1_method_39_code
def yX11_itemRefusal : MethodName := ⟨RX11, "itemRefusal", "(LBittenStick$Sheet;II)I"⟩
abbrev cX11_prepare : ByteArray := prog_1_method_40_code
def yX11_prepare : MethodName := ⟨RX11, "prepare", "(I)V"⟩
abbrev cX11_moodBehind : ByteArray := prog_1_method_41_code
def yX11_moodBehind : MethodName := ⟨RX11, "moodBehind", "(III)I"⟩
abbrev cX11_strengthBehind : ByteArray := prog_1_method_42_code
def yX11_strengthBehind : MethodName := ⟨RX11, "strengthBehind", "(III)I"⟩
abbrev cX11_agreesWithSeen : ByteArray := prog_1_method_43_code
def yX11_agreesWithSeen : MethodName := ⟨RX11, "agreesWithSeen", "(IIII)Z"⟩
abbrev cX11_mostAlike : ByteArray := prog_1_method_44_code
def yX11_mostAlike : MethodName := ⟨RX11, "mostAlike", "(III)I"⟩
def RX12 : String := "BittenStickModel"
def TX12 : u_T := fun k => match k with
  | 0 => ("BittenStickModel", "forms", "[I", true)
  | 1 => ("BittenStickModel", "sizes", "[I", true)
  | 2 => ("BittenStickModel", "items", "[I", true)
  | 3 => ("BittenStickModel", "moved", "[I", true)
  | 4 => ("BittenStickModel", "latest", "I", false)
  | 5 => ("BittenStickModel", "bytes", "[I", true)
  | 6 => ("BittenStickModel", "typed", "[I", true)
  | 7 => ("BittenStickModel", "miles", "I", false)
  | 8 => ("BittenStickModel", "mile", "[I", true)
  | 9 => ("BittenStickModel", "passengers", "I", false)
  | 10 => ("BittenStickModel", "passenger", "[I", true)
  | 11 => ("BittenStickModel", "geese", "I", false)
  | 12 => ("BittenStickModel", "goose", "[I", true)
  | 13 => ("BittenStickModel", "flights", "I", false)
  | 14 => ("BittenStickModel", "flight", "[I", true)
  | 15 => ("BittenStickModel", "learned", "I", false)
  | 16 => ("BittenStickModel", "told", "[I", true)
  | 17 => ("BittenStickModel", "known", "I", false)
  | 18 => ("BittenStickModel", "fell", "I", false)
  | 19 => ("BittenStickModel", "end", "I", false)
  | 20 => ("BittenStickModel", "calling", "I", false)
  | 21 => ("BittenStickModel", "anger", "I", false)
  | 22 => ("BittenStickModel", "cold", "I", false)
  | 23 => ("BittenStickModel", "pair", "[I", true)
  | 24 => ("BittenStickModel", "strong", "[I", true)
  | 25 => ("BittenStickModel", "flown", "[I", true)
  | 26 => ("BittenStickModel", "sights", "I", false)
  | 27 => ("BittenStickModel", "sight", "[I", true)
  | 28 => ("BittenStickModel", "alike", "[I", true)
  | _ => ("BittenStickModel", "drawn", "I", false)
def tyX12 : Nat → FieldType := fun k => match k with
  | 0 => .array .int
  | 1 => .array .int
  | 2 => .array .int
  | 3 => .array .int
  | 4 => .int
  | 5 => .array .int
  | 6 => .array .int
  | 7 => .int
  | 8 => .array .int
  | 9 => .int
  | 10 => .array .int
  | 11 => .int
  | 12 => .array .int
  | 13 => .int
  | 14 => .array .int
  | 15 => .int
  | 16 => .array .int
  | 17 => .int
  | 18 => .int
  | 19 => .int
  | 20 => .int
  | 21 => .int
  | 22 => .int
  | 23 => .array .int
  | 24 => .array .int
  | 25 => .array .int
  | 26 => .int
  | 27 => .array .int
  | 28 => .array .int
  | _ => .int
abbrev wsX120 : List Cond := u_ws RX12 TX12 30
theorem nmX12 : ∀ a, a < 30 → ∀ b, b < 30 → a ≠ b → (TX12 a).2.1 ≠ (TX12 b).2.1 := by decide +kernel
theorem tyX12_ok : ∀ k, k < 30 → parseFieldDescriptor (TX12 k).2.2.1 = some (tyX12 k) := by decide +kernel
abbrev cX12_init : ByteArray := prog_14_method_1_code
def yX12_init : MethodName := ⟨RX12, "<init>", "()V"⟩
abbrev cX12_in : ByteArray := prog_14_method_3_code
def yX12_in : MethodName := ⟨RX12, "in", "(JJJ)Z"⟩
abbrev cX12_no : ByteArray := prog_14_method_4_code
def yX12_no : MethodName := ⟨RX12, "no", "(I)J"⟩
abbrev cX12_isTwo : ByteArray := prog_14_method_5_code
def yX12_isTwo : MethodName := ⟨RX12, "isTwo", "(I)Z"⟩
abbrev cX12_isIn : ByteArray := prog_14_method_6_code
def yX12_isIn : MethodName := ⟨RX12, "isIn", "(II)Z"⟩
abbrev cX12_ones : ByteArray := prog_14_method_7_code
def yX12_ones : MethodName := ⟨RX12, "ones", "(I)I"⟩
abbrev cX12_lesser : ByteArray := prog_14_method_8_code
def yX12_lesser : MethodName := ⟨RX12, "lesser", "(II)I"⟩
abbrev cX12_part : ByteArray := prog_14_method_9_code
def yX12_part : MethodName := ⟨RX12, "part", "(JJI)J"⟩
abbrev cX12_finds : ByteArray := prog_14_method_10_code
def yX12_finds : MethodName := ⟨RX12, "finds", "(I)I"⟩
abbrev cX12_isSheet : ByteArray := prog_14_method_11_code
def yX12_isSheet : MethodName := ⟨RX12, "isSheet", "(I)Z"⟩
abbrev cX12_sheet : ByteArray := prog_14_method_12_code
def yX12_sheet : MethodName := ⟨RX12, "sheet", "(III)I"⟩
abbrev cX12_lose : ByteArray := prog_14_method_13_code
def yX12_lose : MethodName := ⟨RX12, "lose", "(I)I"⟩
abbrev cX12_lacks : ByteArray := prog_14_method_14_code
def yX12_lacks : MethodName := ⟨RX12, "lacks", "(III)I"⟩
abbrev cX12_cut : ByteArray := prog_14_method_15_code
def yX12_cut : MethodName := ⟨RX12, "cut", "(II)I"⟩
abbrev cX12_lay : ByteArray := prog_14_method_16_code
def yX12_lay : MethodName := ⟨RX12, "lay", "(IIII)I"⟩
abbrev cX12_get : ByteArray := prog_14_method_17_code
def yX12_get : MethodName := ⟨RX12, "get", "(III)I"⟩
abbrev cX12_copy : ByteArray := prog_14_method_18_code
def yX12_copy : MethodName := ⟨RX12, "copy", "(IIIII)I"⟩
abbrev cX12_isText : ByteArray := prog_14_method_19_code
def yX12_isText : MethodName := ⟨RX12, "isText", "(I)Z"⟩
abbrev cX12_type : ByteArray := prog_14_method_20_code
def yX12_type : MethodName := ⟨RX12, "type", "(II)I"⟩
abbrev cX12_wipe : ByteArray := prog_14_method_21_code
def yX12_wipe : MethodName := ⟨RX12, "wipe", "(I)I"⟩
abbrev cX12_undo : ByteArray := prog_14_method_22_code
def yX12_undo : MethodName := ⟨RX12, "undo", "(I)I"⟩
abbrev cX12_callOf : ByteArray := prog_14_method_23_code
def yX12_callOf : MethodName := ⟨RX12, "callOf", "(I)I"⟩
abbrev cX12_figureOf : ByteArray := prog_14_method_24_code
def yX12_figureOf : MethodName := ⟨RX12, "figureOf", "(II)I"⟩
abbrev cX12_mileOf : ByteArray := prog_14_method_25_code
def yX12_mileOf : MethodName := ⟨RX12, "mileOf", "(I)I"⟩
abbrev cX12_readsLand : ByteArray := prog_14_method_26_code
def yX12_readsLand : MethodName := ⟨RX12, "readsLand", "()I"⟩
abbrev cX12_passengerOf : ByteArray := prog_14_method_27_code
def yX12_passengerOf : MethodName := ⟨RX12, "passengerOf", "(II)I"⟩
abbrev cX12_readsPassengers : ByteArray := prog_14_method_28_code
def yX12_readsPassengers : MethodName := ⟨RX12, "readsPassengers", "()I"⟩
abbrev cX12_gooseOf : ByteArray := prog_14_method_29_code
def yX12_gooseOf : MethodName := ⟨RX12, "gooseOf", "(II)I"⟩
abbrev cX12_readsGeese : ByteArray := prog_14_method_30_code
def yX12_readsGeese : MethodName := ⟨RX12, "readsGeese", "()I"⟩
abbrev cX12_readsText : ByteArray := prog_14_method_31_code
def yX12_readsText : MethodName := ⟨RX12, "readsText", "(I)I"⟩
abbrev cX12_fault : ByteArray := prog_14_method_32_code
def yX12_fault : MethodName := ⟨RX12, "fault", "(I)I"⟩
abbrev cX12_reads : ByteArray := prog_14_method_33_code
def yX12_reads : MethodName := ⟨RX12, "reads", "()V"⟩
abbrev cX12_isPassenger : ByteArray := prog_14_method_34_code
def yX12_isPassenger : MethodName := ⟨RX12, "isPassenger", "(I)Z"⟩
abbrev cX12_isGoose : ByteArray := prog_14_method_35_code
def yX12_isGoose : MethodName := ⟨RX12, "isGoose", "(I)Z"⟩
abbrev cX12_mile : ByteArray := prog_14_method_36_code
def yX12_mile : MethodName := ⟨RX12, "mile", "(I)I"⟩
abbrev cX12_passenger : ByteArray := prog_14_method_37_code
def yX12_passenger : MethodName := ⟨RX12, "passenger", "(II)I"⟩
abbrev cX12_goose : ByteArray := prog_14_method_38_code
def yX12_goose : MethodName := ⟨RX12, "goose", "(II)I"⟩
abbrev cX12_flight : ByteArray := prog_14_method_39_code
def yX12_flight : MethodName := ⟨RX12, "flight", "(IIII)I"⟩
abbrev cX12_back : ByteArray := prog_14_method_40_code
def yX12_back : MethodName := ⟨RX12, "back", "()I"⟩
abbrev cX12_read : ByteArray := prog_14_method_41_code
def yX12_read : MethodName := ⟨RX12, "read", "(I)I"⟩
abbrev cX12_learn : ByteArray := prog_14_method_42_code
def yX12_learn : MethodName := ⟨RX12, "learn", "(I)I"⟩
abbrev cX12_isFlight : ByteArray := prog_14_method_43_code
def yX12_isFlight : MethodName := ⟨RX12, "isFlight", "(I)Z"⟩
abbrev cX12_changes : ByteArray := prog_14_method_44_code
def yX12_changes : MethodName := ⟨RX12, "changes", "()V"⟩
abbrev cX12_tires : ByteArray := prog_14_method_45_code
def yX12_tires : MethodName := ⟨RX12, "tires", "(I)V"⟩
abbrev cX12_angerBy : ByteArray := prog_14_method_46_code
def yX12_angerBy : MethodName := ⟨RX12, "angerBy", "(III)I"⟩
abbrev cX12_goes : ByteArray := prog_14_method_47_code
def yX12_goes : MethodName := ⟨RX12, "goes", "(III)I"⟩
abbrev cX12_flies : ByteArray := prog_14_method_48_code
def yX12_flies : MethodName := ⟨RX12, "flies", "(IIIIII)V"⟩
abbrev cX12_fliesTold : ByteArray := prog_14_method_49_code
def yX12_fliesTold : MethodName := ⟨RX12, "fliesTold", "(I)V"⟩
abbrev cX12_comesNow : ByteArray := prog_14_method_50_code
def yX12_comesNow : MethodName := ⟨RX12, "comesNow", "(I)I"⟩
abbrev cX12_comesOf : ByteArray := prog_14_method_51_code
def yX12_comesOf : MethodName := ⟨RX12, "comesOf", "(II)I"⟩
abbrev cX12_comes : ByteArray := prog_14_method_52_code
def yX12_comes : MethodName := ⟨RX12, "comes", "(II)I"⟩
abbrev cX12_behindOf : ByteArray := prog_14_method_53_code
def yX12_behindOf : MethodName := ⟨RX12, "behindOf", "(III)I"⟩
abbrev cX12_behind : ByteArray := prog_14_method_54_code
def yX12_behind : MethodName := ⟨RX12, "behind", "(III)I"⟩
abbrev cX12_farthestNow : ByteArray := prog_14_method_55_code
def yX12_farthestNow : MethodName := ⟨RX12, "farthestNow", "()I"⟩
abbrev cX12_farthest : ByteArray := prog_14_method_56_code
def yX12_farthest : MethodName := ⟨RX12, "farthest", "()I"⟩
abbrev cX12_climbOf : ByteArray := prog_14_method_57_code
def yX12_climbOf : MethodName := ⟨RX12, "climbOf", "(II)I"⟩
abbrev cX12_climb : ByteArray := prog_14_method_58_code
def yX12_climb : MethodName := ⟨RX12, "climb", "(II)I"⟩
abbrev cX12_practiceOf : ByteArray := prog_14_method_59_code
def yX12_practiceOf : MethodName := ⟨RX12, "practiceOf", "(II)I"⟩
abbrev cX12_practice : ByteArray := prog_14_method_60_code
def yX12_practice : MethodName := ⟨RX12, "practice", "(II)I"⟩
abbrev cX12_pairOf : ByteArray := prog_14_method_61_code
def yX12_pairOf : MethodName := ⟨RX12, "pairOf", "(II)I"⟩
abbrev cX12_pair : ByteArray := prog_14_method_62_code
def yX12_pair : MethodName := ⟨RX12, "pair", "(II)I"⟩
abbrev cX12_seen : ByteArray := prog_14_method_63_code
def yX12_seen : MethodName := ⟨RX12, "seen", "(II)I"⟩
abbrev cX12_forget : ByteArray := prog_14_method_64_code
def yX12_forget : MethodName := ⟨RX12, "forget", "()I"⟩
abbrev cX12_isSeen : ByteArray := prog_14_method_65_code
def yX12_isSeen : MethodName := ⟨RX12, "isSeen", "()Z"⟩
abbrev cX12_soresOf : ByteArray := prog_14_method_66_code
def yX12_soresOf : MethodName := ⟨RX12, "soresOf", "(I)I"⟩
abbrev cX12_sores : ByteArray := prog_14_method_67_code
def yX12_sores : MethodName := ⟨RX12, "sores", "(I)I"⟩
abbrev cX12_highOf : ByteArray := prog_14_method_68_code
def yX12_highOf : MethodName := ⟨RX12, "highOf", "(I)I"⟩
abbrev cX12_high : ByteArray := prog_14_method_69_code
def yX12_high : MethodName := ⟨RX12, "high", "(I)I"⟩
abbrev cX12_mostAlike : ByteArray := prog_14_method_70_code
def yX12_mostAlike : MethodName := ⟨RX12, "mostAlike", "(III)I"⟩
abbrev cX12_askOf : ByteArray := prog_14_method_71_code
def yX12_askOf : MethodName := ⟨RX12, "askOf", "(I)I"⟩
abbrev cX12_ask : ByteArray := prog_14_method_72_code
def yX12_ask : MethodName := ⟨RX12, "ask", "(I)I"⟩
abbrev cX12_towns : ByteArray := prog_14_method_73_code
def yX12_towns : MethodName := ⟨RX12, "towns", "()I"⟩
abbrev cX12_calls : ByteArray := prog_14_method_74_code
def yX12_calls : MethodName := ⟨RX12, "calls", "(I)I"⟩
abbrev cX12_laughOf : ByteArray := prog_14_method_75_code
def yX12_laughOf : MethodName := ⟨RX12, "laughOf", "(IIII)J"⟩
abbrev cX12_laugh : ByteArray := prog_14_method_76_code
def yX12_laugh : MethodName := ⟨RX12, "laugh", "(III)J"⟩
abbrev cX12_lot : ByteArray := prog_14_method_77_code
def yX12_lot : MethodName := ⟨RX12, "lot", "(I)I"⟩
abbrev cX12_lakesOf : ByteArray := prog_14_method_78_code
def yX12_lakesOf : MethodName := ⟨RX12, "lakesOf", "(III)I"⟩
abbrev cX12_lakes : ByteArray := prog_14_method_79_code
def yX12_lakes : MethodName := ⟨RX12, "lakes", "(III)I"⟩
abbrev cX12_write : ByteArray := prog_14_method_80_code
def yX12_write : MethodName := ⟨RX12, "write", "(III)I"⟩
abbrev cX12_count : ByteArray := prog_14_method_81_code
def yX12_count : MethodName := ⟨RX12, "count", "(I)I"⟩
abbrev cX12_tellsFlight : ByteArray := prog_14_method_82_code
def yX12_tellsFlight : MethodName := ⟨RX12, "tellsFlight", "(JI)J"⟩
abbrev cX12_digest : ByteArray := prog_14_method_83_code
def yX12_digest : MethodName := ⟨RX12, "digest", "()J"⟩
def RJ6 : String := "java/lang/Integer"
def TJ6 : u_T := fun k => match k with
  | _ => ("", "", "", false)
def tyJ6 : Nat → FieldType := fun k => match k with
  | _ => .int
abbrev wsJ60 : List Cond := u_ws RJ6 TJ6 0
theorem nmJ6 : ∀ a, a < 0 → ∀ b, b < 0 → a ≠ b → (TJ6 a).2.1 ≠ (TJ6 b).2.1 := by decide +kernel
theorem tyJ6_ok : ∀ k, k < 0 → parseFieldDescriptor (TJ6 k).2.2.1 = some (tyJ6 k) := by decide +kernel
abbrev cJ6_bitCount_0f7a4 : ByteArray := prog_15_method_49_code
def yJ6_bitCount_0f7a4 : MethodName := ⟨RJ6, "bitCount", "(I)I"⟩
def RJ9 : String := "java/lang/Math"
def TJ9 : u_T := fun k => match k with
  | _ => ("", "", "", false)
def tyJ9 : Nat → FieldType := fun k => match k with
  | _ => .int
abbrev wsJ90 : List Cond := u_ws RJ9 TJ9 0
theorem nmJ9 : ∀ a, a < 0 → ∀ b, b < 0 → a ≠ b → (TJ9 a).2.1 ≠ (TJ9 b).2.1 := by decide +kernel
theorem tyJ9_ok : ∀ k, k < 0 → parseFieldDescriptor (TJ9 k).2.2.1 = some (tyJ9 k) := by decide +kernel
abbrev cJ9_max_7cf53 : ByteArray := prog_16_method_65_code
def yJ9_max_7cf53 : MethodName := ⟨RJ9, "max", "(II)I"⟩
abbrev cJ9_min_7cf53 : ByteArray := prog_16_method_69_code
def yJ9_min_7cf53 : MethodName := ⟨RJ9, "min", "(II)I"⟩
def RJ10 : String := "java/lang/System"
def TJ10 : u_T := fun k => match k with
  | _ => ("", "", "", false)
def tyJ10 : Nat → FieldType := fun k => match k with
  | _ => .int
abbrev wsJ100 : List Cond := u_ws RJ10 TJ10 0
theorem nmJ10 : ∀ a, a < 0 → ∀ b, b < 0 → a ≠ b → (TJ10 a).2.1 ≠ (TJ10 b).2.1 := by decide +kernel
theorem tyJ10_ok : ∀ k, k < 0 → parseFieldDescriptor (TJ10 k).2.2.1 = some (tyJ10 k) := by decide +kernel
def RL : String := "BittenStickLaw"
abbrev cL_law : ByteArray := code
def yL_law : MethodName := ⟨RL, "law", "([I)Z"⟩
abbrev vwCl : List vw_C := [(RX0, TX0, 4), (RX1, TX1, 2), (RX2, TX2, 4), (RX3, TX3, 4), (RX4, TX4, 4), (RX5, TX5, 3), (RX6, TX6, 1), (RX7, TX7, 4), (RX8, TX8, 4), (RX10, TX10, 17), (RX11, TX11, 15), (RX12, TX12, 30)]
def wsL_law_r1 : List Cond := [Cond.classLink RL 7 RX11, Cond.instantiable RX11 15, Cond.initialized RX11, Cond.classLink RL 10 RX12, Cond.instantiable RX12 30, Cond.initialized RX12, Cond.methodLink RL 9 yX11_init, Cond.instanceMethod yX11_init, Cond.code yX11_init cX11_init 2 none, Cond.methodLink RX11 1 objectInit, Cond.instanceMethod objectInit, Cond.code objectInit ⟨#[0xb1]⟩ 1 none, Cond.classLink RX11 7 RX4, Cond.instantiable RX4 4, Cond.initialized RX4, Cond.fieldLink RX11 10 "BittenStick" "land" "LBittenStick$Land;", Cond.classLink RX11 16 RX7, Cond.instantiable RX7 4, Cond.initialized RX7, Cond.fieldLink RX11 19 "BittenStick" "passengers" "LBittenStick$Passengers;", Cond.classLink RX11 23 RX2, Cond.instantiable RX2 4, Cond.initialized RX2, Cond.fieldLink RX11 26 "BittenStick" "geese" "LBittenStick$Geese;"]
def wsL_law_r2 : List Cond := [Cond.classLink RX11 30 RX1, Cond.instantiable RX1 2, Cond.initialized RX1, Cond.fieldLink RX11 33 "BittenStick" "flights" "LBittenStick$Flights;", Cond.classLink RX11 37 RX10, Cond.instantiable RX10 17, Cond.initialized RX10, Cond.fieldLink RX11 42 "BittenStick" "trip" "LBittenStick$Trip;", Cond.classLink RX11 46 RX0, Cond.instantiable RX0 4, Cond.initialized RX0, Cond.fieldLink RX11 49 "BittenStick" "best" "LBittenStick$Climb;", Cond.classLink RX11 53 RX5, Cond.instantiable RX5 3, Cond.initialized RX5, Cond.fieldLink RX11 56 "BittenStick" "laughter" "LBittenStick$Laughter;", Cond.classLink RX11 60 RX6, Cond.instantiable RX6 1, Cond.initialized RX6, Cond.fieldLink RX11 63 "BittenStick" "lots" "LBittenStick$Lots;", Cond.arrayClass .int, Cond.fieldLink RX11 67 "BittenStick" "seenFlights" "[I", Cond.fieldLink RX11 71 "BittenStick" "seenMiles" "[I", Cond.fieldLink RX11 74 "BittenStick" "comers" "[I"]
def wsL_law_r3 : List Cond := [Cond.classLink RX11 77 RX8, Cond.fieldLink RX11 79 "BittenStick" "sheets" "[LBittenStick$Sheet;", Cond.instantiable RX8 4, Cond.initialized RX8, Cond.methodLink RX11 9 yX4_init, Cond.instanceMethod yX4_init, Cond.code yX4_init cX4_init 1 none, Cond.methodLink RX4 3 yX9_init, Cond.instanceMethod yX9_init, Cond.initialized RX9, Cond.code yX9_init cX9_init 2 none, Cond.methodLink RX9 3 objectInit, Cond.fieldLink RX9 9 "BittenStick$Text" "faultAt" "I", Cond.methodLink RX9 15 Lib.Math.max.name, Cond.static Lib.Math.max.name, Cond.initialized "java/lang/Math", Cond.code Lib.Math.max.name Lib.Math.max.code 2 (some .int), Cond.fieldLink RX9 21 "BittenStick$Text" "values" "[I", Cond.methodLink RX11 18 yX7_init, Cond.instanceMethod yX7_init, Cond.code yX7_init cX7_init 1 none, Cond.methodLink RX7 3 yX9_init, Cond.methodLink RX11 25 yX2_init, Cond.instanceMethod yX2_init]
def wsL_law_r4 : List Cond := [Cond.code yX2_init cX2_init 1 none, Cond.methodLink RX2 3 yX9_init, Cond.instanceMethod yX1_init, Cond.code yX1_init cX1_init 1 none, Cond.methodLink RX1 3 objectInit, Cond.fieldLink RX1 9 "BittenStick$Flights" "items" "[I", Cond.methodLink RX11 39 yX10_init, Cond.instanceMethod yX10_init, Cond.code yX10_init cX10_init 4 none, Cond.methodLink RX10 3 objectInit, Cond.classLink RX10 9 RX3, Cond.instantiable RX3 4, Cond.initialized RX3, Cond.fieldLink RX10 12 "BittenStick$Trip" "toldLeft" "LBittenStick$Goose;", Cond.fieldLink RX10 18 "BittenStick$Trip" "toldRight" "LBittenStick$Goose;", Cond.fieldLink RX10 21 "BittenStick$Trip" "left" "LBittenStick$Goose;", Cond.fieldLink RX10 24 "BittenStick$Trip" "right" "LBittenStick$Goose;", Cond.fieldLink RX10 27 "BittenStick$Trip" "land" "LBittenStick$Land;", Cond.fieldLink RX10 31 "BittenStick$Trip" "passengers" "LBittenStick$Passengers;", Cond.fieldLink RX10 35 "BittenStick$Trip" "geese" "LBittenStick$Geese;", Cond.instanceMethod yX3_init, Cond.code yX3_init cX3_init 1 none, Cond.methodLink RX3 1 objectInit, Cond.instanceMethod yX0_init]
def wsL_law_r5 : List Cond := [Cond.code yX0_init cX0_init 1 none, Cond.methodLink RX0 3 objectInit, Cond.instanceMethod yX5_init, Cond.code yX5_init cX5_init 1 none, Cond.methodLink RX5 3 objectInit, Cond.arrayClass .long, Cond.fieldLink RX5 9 "BittenStick$Laughter" "chances" "[J", Cond.instanceMethod yX6_init, Cond.code yX6_init cX6_init 1 none, Cond.methodLink RX6 1 objectInit, Cond.instanceMethod yX8_init, Cond.code yX8_init cX8_init 1 none, Cond.methodLink RX8 3 objectInit, Cond.fieldLink RX8 9 "BittenStick$Sheet" "items" "[I", Cond.fieldLink RX8 15 "BittenStick$Sheet" "isLost" "Z", Cond.methodLink RL 12 yX12_init, Cond.instanceMethod yX12_init, Cond.code yX12_init cX12_init 2 none, Cond.methodLink RX12 1 objectInit, Cond.fieldLink RX12 7 "BittenStickModel" "forms" "[I", Cond.fieldLink RX12 13 "BittenStickModel" "sizes" "[I", Cond.fieldLink RX12 16 "BittenStickModel" "items" "[I", Cond.fieldLink RX12 19 "BittenStickModel" "moved" "[I", Cond.fieldLink RX12 22 "BittenStickModel" "bytes" "[I"]
def wsL_law_r6 : List Cond := [Cond.fieldLink RX12 25 "BittenStickModel" "typed" "[I", Cond.fieldLink RX12 28 "BittenStickModel" "mile" "[I", Cond.fieldLink RX12 31 "BittenStickModel" "passenger" "[I", Cond.fieldLink RX12 34 "BittenStickModel" "goose" "[I", Cond.fieldLink RX12 37 "BittenStickModel" "flight" "[I", Cond.fieldLink RX12 40 "BittenStickModel" "told" "[I", Cond.fieldLink RX12 43 "BittenStickModel" "pair" "[I", Cond.fieldLink RX12 46 "BittenStickModel" "strong" "[I", Cond.fieldLink RX12 49 "BittenStickModel" "flown" "[I", Cond.fieldLink RX12 52 "BittenStickModel" "sight" "[I", Cond.fieldLink RX12 55 "BittenStickModel" "alike" "[I", Cond.constant RX12 58 (16777215), Cond.fieldLink RX12 59 "BittenStickModel" "calling" "I", Cond.methodLink RL 13 yX11_type, Cond.instanceMethod yX11_type, Cond.selects RX11 yX11_type yX11_type, Cond.code yX11_type cX11_type 4 (some .int), Cond.fieldLink RX11 98 "BittenStick$Text" "length" "I", Cond.methodLink RX11 84 yX11_textOf, Cond.instanceMethod yX11_textOf, Cond.selects RX11 yX11_textOf yX11_textOf, Cond.code yX11_textOf cX11_textOf 2 (some (.object "BittenStick$Text")), Cond.methodLink RX11 88 ⟨"BittenStick$Text", "isFull", "()Z"⟩, Cond.sameMethod "BittenStick$Text" "BittenStick$Text" "isFull" "()Z"]
def wsL_law_r7 : List Cond := [Cond.selects RX2 ⟨"BittenStick$Text", "isFull", "()Z"⟩ yX9_isFull, Cond.instanceMethod yX9_isFull, Cond.code yX9_isFull cX9_isFull 1 (some .boolean), Cond.fieldLink RX9 25 "BittenStick$Text" "length" "I", Cond.selects RX4 ⟨"BittenStick$Text", "isFull", "()Z"⟩ yX9_isFull, Cond.selects RX7 ⟨"BittenStick$Text", "isFull", "()Z"⟩ yX9_isFull, Cond.methodLink RX11 94 ⟨"BittenStick$Text", "append", "(I)V"⟩, Cond.sameMethod "BittenStick$Text" "BittenStick$Text" "append" "(I)V", Cond.selects RX2 ⟨"BittenStick$Text", "append", "(I)V"⟩ yX9_append, Cond.instanceMethod yX9_append, Cond.code yX9_append cX9_append 2 none, Cond.methodLink RX9 28 ⟨"BittenStick$Text", "worth", "(II)I"⟩, Cond.sameMethod "BittenStick$Text" "BittenStick$Text" "worth" "(II)I", Cond.selects RX2 ⟨"BittenStick$Text", "worth", "(II)I"⟩ yX2_worth, Cond.instanceMethod yX2_worth, Cond.code yX2_worth cX2_worth 3 (some .int), Cond.selects RX4 ⟨"BittenStick$Text", "worth", "(II)I"⟩ yX4_worth, Cond.instanceMethod yX4_worth, Cond.code yX4_worth cX4_worth 3 (some .int), Cond.selects RX7 ⟨"BittenStick$Text", "worth", "(II)I"⟩ yX7_worth, Cond.instanceMethod yX7_worth, Cond.code yX7_worth cX7_worth 3 (some .int), Cond.methodLink RX7 9 yX7_kind, Cond.static yX7_kind]
def wsL_law_r8 : List Cond := [Cond.code yX7_kind cX7_kind 1 (some .int), Cond.methodLink RX9 31 ⟨"BittenStick$Text", "readAgain", "()V"⟩, Cond.sameMethod "BittenStick$Text" "BittenStick$Text" "readAgain" "()V", Cond.selects RX2 ⟨"BittenStick$Text", "readAgain", "()V"⟩ yX9_readAgain, Cond.instanceMethod yX9_readAgain, Cond.code yX9_readAgain cX9_readAgain 2 none, Cond.fieldLink RX9 37 "BittenStick$Text" "number" "I", Cond.methodLink RX9 40 ⟨"BittenStick$Text", "valueAt", "(I)I"⟩, Cond.sameMethod "BittenStick$Text" "BittenStick$Text" "valueAt" "(I)I", Cond.selects RX2 ⟨"BittenStick$Text", "valueAt", "(I)I"⟩ yX9_valueAt, Cond.instanceMethod yX9_valueAt, Cond.code yX9_valueAt cX9_valueAt 2 (some .int), Cond.selects RX4 ⟨"BittenStick$Text", "valueAt", "(I)I"⟩ yX9_valueAt, Cond.selects RX7 ⟨"BittenStick$Text", "valueAt", "(I)I"⟩ yX9_valueAt, Cond.methodLink RX9 44 ⟨"BittenStick$Text", "thingsIn", "(I)I"⟩, Cond.sameMethod "BittenStick$Text" "BittenStick$Text" "thingsIn" "(I)I", Cond.selects RX2 ⟨"BittenStick$Text", "thingsIn", "(I)I"⟩ yX2_thingsIn, Cond.instanceMethod yX2_thingsIn, Cond.code yX2_thingsIn cX2_thingsIn 2 (some .int), Cond.selects RX4 ⟨"BittenStick$Text", "thingsIn", "(I)I"⟩ yX4_thingsIn, Cond.instanceMethod yX4_thingsIn, Cond.code yX4_thingsIn cX4_thingsIn 2 (some .int), Cond.selects RX7 ⟨"BittenStick$Text", "thingsIn", "(I)I"⟩ yX7_thingsIn, Cond.instanceMethod yX7_thingsIn]
def wsL_law_r9 : List Cond := [Cond.code yX7_thingsIn cX7_thingsIn 2 (some .int), Cond.selects RX4 ⟨"BittenStick$Text", "readAgain", "()V"⟩ yX9_readAgain, Cond.selects RX7 ⟨"BittenStick$Text", "readAgain", "()V"⟩ yX9_readAgain, Cond.selects RX4 ⟨"BittenStick$Text", "append", "(I)V"⟩ yX9_append, Cond.selects RX7 ⟨"BittenStick$Text", "append", "(I)V"⟩ yX9_append, Cond.methodLink RL 17 yX12_type, Cond.instanceMethod yX12_type, Cond.selects RX12 yX12_type yX12_type, Cond.code yX12_type cX12_type 3 (some .int), Cond.constantLong RX12 96 (255), Cond.methodLink RX12 93 yX12_isText, Cond.static yX12_isText, Cond.code yX12_isText cX12_isText 1 (some .boolean), Cond.constantLong RX12 78 (2), Cond.methodLink RX12 65 yX12_in, Cond.static yX12_in, Cond.code yX12_in cX12_in 6 (some .boolean), Cond.methodLink RL 18 yX11_wipe, Cond.instanceMethod yX11_wipe, Cond.selects RX11 yX11_wipe yX11_wipe, Cond.code yX11_wipe cX11_wipe 4 (some .int), Cond.methodLink RX11 102 ⟨"BittenStick$Text", "shorten", "(I)V"⟩, Cond.sameMethod "BittenStick$Text" "BittenStick$Text" "shorten" "(I)V", Cond.selects RX2 ⟨"BittenStick$Text", "shorten", "(I)V"⟩ yX9_shorten]
def wsL_law_r10 : List Cond := [Cond.instanceMethod yX9_shorten, Cond.code yX9_shorten cX9_shorten 2 none, Cond.methodLink RX9 34 Lib.Math.min.name, Cond.static Lib.Math.min.name, Cond.code Lib.Math.min.name Lib.Math.min.code 2 (some .int), Cond.selects RX4 ⟨"BittenStick$Text", "shorten", "(I)V"⟩ yX9_shorten, Cond.selects RX7 ⟨"BittenStick$Text", "shorten", "(I)V"⟩ yX9_shorten, Cond.methodLink RL 22 yX12_wipe, Cond.instanceMethod yX12_wipe, Cond.selects RX12 yX12_wipe yX12_wipe, Cond.code yX12_wipe cX12_wipe 3 (some .int), Cond.methodLink RL 23 yX11_undo, Cond.instanceMethod yX11_undo, Cond.selects RX11 yX11_undo yX11_undo, Cond.code yX11_undo cX11_undo 3 (some .int), Cond.methodLink RL 26 yX12_undo, Cond.instanceMethod yX12_undo, Cond.selects RX12 yX12_undo yX12_undo, Cond.code yX12_undo cX12_undo 2 (some .int), Cond.methodLink RL 27 yX11_fault, Cond.instanceMethod yX11_fault, Cond.selects RX11 yX11_fault yX11_fault, Cond.code yX11_fault cX11_fault 3 (some .int), Cond.fieldLink RX11 105 "BittenStick$Text" "faultAt" "I"]
def wsL_law_r11 : List Cond := [Cond.methodLink RL 30 yX12_fault, Cond.instanceMethod yX12_fault, Cond.selects RX12 yX12_fault yX12_fault, Cond.code yX12_fault cX12_fault 2 (some .int), Cond.methodLink RX12 138 yX12_readsText, Cond.instanceMethod yX12_readsText, Cond.selects RX12 yX12_readsText yX12_readsText, Cond.code yX12_readsText cX12_readsText 2 (some .int), Cond.methodLink RX12 128 yX12_readsLand, Cond.instanceMethod yX12_readsLand, Cond.selects RX12 yX12_readsLand yX12_readsLand, Cond.code yX12_readsLand cX12_readsLand 3 (some .int), Cond.fieldLink RX12 107 "BittenStickModel" "miles" "I", Cond.methodLink RX12 110 yX12_mileOf, Cond.static yX12_mileOf, Cond.code yX12_mileOf cX12_mileOf 1 (some .int), Cond.methodLink RX12 104 yX12_callOf, Cond.static yX12_callOf, Cond.code yX12_callOf cX12_callOf 1 (some .int), Cond.constantLong RX12 98 (97), Cond.constantLong RX12 100 (102), Cond.methodLink RX12 132 yX12_readsPassengers, Cond.instanceMethod yX12_readsPassengers, Cond.selects RX12 yX12_readsPassengers yX12_readsPassengers]
def wsL_law_r12 : List Cond := [Cond.code yX12_readsPassengers cX12_readsPassengers 5 (some .int), Cond.fieldLink RX12 116 "BittenStickModel" "passengers" "I", Cond.methodLink RX12 119 yX12_passengerOf, Cond.static yX12_passengerOf, Cond.code yX12_passengerOf cX12_passengerOf 2 (some .int), Cond.methodLink RX12 113 yX12_figureOf, Cond.static yX12_figureOf, Cond.code yX12_figureOf cX12_figureOf 2 (some .int), Cond.constantLong RX12 102 (57), Cond.methodLink RX12 135 yX12_readsGeese, Cond.instanceMethod yX12_readsGeese, Cond.selects RX12 yX12_readsGeese yX12_readsGeese, Cond.code yX12_readsGeese cX12_readsGeese 5 (some .int), Cond.fieldLink RX12 122 "BittenStickModel" "geese" "I", Cond.methodLink RX12 125 yX12_gooseOf, Cond.static yX12_gooseOf, Cond.code yX12_gooseOf cX12_gooseOf 2 (some .int), Cond.methodLink RL 31 yX11_mile, Cond.instanceMethod yX11_mile, Cond.selects RX11 yX11_mile yX11_mile, Cond.code yX11_mile cX11_mile 2 (some .int), Cond.fieldLink RX11 108 "BittenStick$Land" "number" "I", Cond.sameField "BittenStick$Land" "BittenStick$Text" "number" "I", Cond.methodLink RX11 111 ⟨"BittenStick$Land", "valueAt", "(I)I"⟩]
def wsL_law_r13 : List Cond := [Cond.sameMethod "BittenStick$Land" "BittenStick$Text" "valueAt" "(I)I", Cond.selects RX4 ⟨"BittenStick$Land", "valueAt", "(I)I"⟩ yX9_valueAt, Cond.methodLink RL 34 yX12_mile, Cond.instanceMethod yX12_mile, Cond.selects RX12 yX12_mile yX12_mile, Cond.code yX12_mile cX12_mile 2 (some .int), Cond.constantLong RX12 144 (23), Cond.methodLink RX12 141 yX12_reads, Cond.instanceMethod yX12_reads, Cond.selects RX12 yX12_reads yX12_reads, Cond.code yX12_reads cX12_reads 1 none, Cond.methodLink RL 35 yX11_passenger, Cond.instanceMethod yX11_passenger, Cond.selects RX11 yX11_passenger yX11_passenger, Cond.code yX11_passenger cX11_passenger 3 (some .int), Cond.methodLink RX11 115 ⟨"BittenStick$Passengers", "has", "(I)Z"⟩, Cond.sameMethod "BittenStick$Passengers" "BittenStick$Text" "has" "(I)Z", Cond.selects RX7 ⟨"BittenStick$Passengers", "has", "(I)Z"⟩ yX9_has, Cond.instanceMethod yX9_has, Cond.code yX9_has cX9_has 2 (some .boolean), Cond.methodLink RX11 119 yX7_told, Cond.instanceMethod yX7_told, Cond.selects RX7 yX7_told yX7_told, Cond.code yX7_told cX7_told 3 (some .int)]
def wsL_law_r14 : List Cond := [Cond.methodLink RX7 15 ⟨"BittenStick$Passengers", "valueAt", "(I)I"⟩, Cond.sameMethod "BittenStick$Passengers" "BittenStick$Text" "valueAt" "(I)I", Cond.selects RX7 ⟨"BittenStick$Passengers", "valueAt", "(I)I"⟩ yX9_valueAt, Cond.methodLink RL 38 yX12_passenger, Cond.instanceMethod yX12_passenger, Cond.selects RX12 yX12_passenger yX12_passenger, Cond.code yX12_passenger cX12_passenger 3 (some .int), Cond.constantLong RX12 72 (3), Cond.methodLink RX12 146 yX12_isPassenger, Cond.instanceMethod yX12_isPassenger, Cond.selects RX12 yX12_isPassenger yX12_isPassenger, Cond.code yX12_isPassenger cX12_isPassenger 2 (some .boolean), Cond.methodLink RL 39 yX11_goose, Cond.instanceMethod yX11_goose, Cond.selects RX11 yX11_goose yX11_goose, Cond.code yX11_goose cX11_goose 3 (some .int), Cond.methodLink RX11 123 ⟨"BittenStick$Geese", "has", "(I)Z"⟩, Cond.sameMethod "BittenStick$Geese" "BittenStick$Text" "has" "(I)Z", Cond.selects RX2 ⟨"BittenStick$Geese", "has", "(I)Z"⟩ yX9_has, Cond.methodLink RX11 124 yX2_told, Cond.instanceMethod yX2_told, Cond.selects RX2 yX2_told yX2_told, Cond.code yX2_told cX2_told 3 (some .int), Cond.methodLink RX2 9 ⟨"BittenStick$Geese", "valueAt", "(I)I"⟩]
def wsL_law_r15 : List Cond := [Cond.sameMethod "BittenStick$Geese" "BittenStick$Text" "valueAt" "(I)I", Cond.selects RX2 ⟨"BittenStick$Geese", "valueAt", "(I)I"⟩ yX9_valueAt, Cond.methodLink RL 42 yX12_goose, Cond.instanceMethod yX12_goose, Cond.selects RX12 yX12_goose yX12_goose, Cond.code yX12_goose cX12_goose 3 (some .int), Cond.methodLink RX12 149 yX12_isGoose, Cond.instanceMethod yX12_isGoose, Cond.selects RX12 yX12_isGoose yX12_isGoose, Cond.code yX12_isGoose cX12_isGoose 2 (some .boolean), Cond.methodLink RX12 152 yX12_isTwo, Cond.static yX12_isTwo, Cond.code yX12_isTwo cX12_isTwo 1 (some .boolean), Cond.methodLink RL 43 yX11_flight, Cond.instanceMethod yX11_flight, Cond.selects RX11 yX11_flight yX11_flight, Cond.code yX11_flight cX11_flight 5 (some .int), Cond.methodLink RX11 125 yX1_append, Cond.instanceMethod yX1_append, Cond.selects RX1 yX1_append yX1_append, Cond.code yX1_append cX1_append 5 (some .int), Cond.fieldLink RX1 15 "BittenStick$Flights" "number" "I", Cond.methodLink RL 47 yX12_flight, Cond.instanceMethod yX12_flight]
def wsL_law_r16 : List Cond := [Cond.selects RX12 yX12_flight yX12_flight, Cond.code yX12_flight cX12_flight 5 (some .int), Cond.constantLong RX12 155 (7), Cond.constantLong RX12 157 (9), Cond.fieldLink RX12 159 "BittenStickModel" "flights" "I", Cond.methodLink RL 48 yX11_back, Cond.instanceMethod yX11_back, Cond.selects RX11 yX11_back yX11_back, Cond.code yX11_back cX11_back 1 (some .int), Cond.fieldLink RX11 128 "BittenStick$Flights" "number" "I", Cond.methodLink RL 52 yX12_back, Cond.instanceMethod yX12_back, Cond.selects RX12 yX12_back yX12_back, Cond.code yX12_back cX12_back 1 (some .int), Cond.methodLink RL 53 yX11_read, Cond.instanceMethod yX11_read, Cond.selects RX11 yX11_read yX11_read, Cond.code yX11_read cX11_read 6 (some .int), Cond.fieldLink RX11 133 "BittenStick$Sheet" "isLost" "Z", Cond.fieldLink RX11 140 "BittenStick$Sheet" "size" "I", Cond.methodLink RX11 129 yX11_sheetOf, Cond.instanceMethod yX11_sheetOf, Cond.selects RX11 yX11_sheetOf yX11_sheetOf, Cond.code yX11_sheetOf cX11_sheetOf 2 (some (.object "BittenStick$Sheet"))]
def wsL_law_r17 : List Cond := [Cond.methodLink RX11 137 yX11_found, Cond.instanceMethod yX11_found, Cond.selects RX11 yX11_found yX11_found, Cond.code yX11_found cX11_found 2 (some .int), Cond.fieldLink RX11 269 "BittenStick" "finding" "I", Cond.methodLink RX11 143 yX8_item, Cond.instanceMethod yX8_item, Cond.selects RX8 yX8_item yX8_item, Cond.code yX8_item cX8_item 2 (some .int), Cond.fieldLink RX8 32 "BittenStick$Sheet" "size" "I", Cond.methodLink RL 56 yX12_read, Cond.instanceMethod yX12_read, Cond.selects RX12 yX12_read yX12_read, Cond.code yX12_read cX12_read 5 (some .int), Cond.methodLink RX12 74 yX12_isSheet, Cond.static yX12_isSheet, Cond.code yX12_isSheet cX12_isSheet 1 (some .boolean), Cond.methodLink RX12 80 yX12_finds, Cond.instanceMethod yX12_finds, Cond.selects RX12 yX12_finds yX12_finds, Cond.code yX12_finds cX12_finds 2 (some .int), Cond.fieldLink RX12 69 "BittenStickModel" "latest" "I", Cond.methodLink RX12 162 yX12_flight, Cond.methodLink RL 57 yX11_learn]
def wsL_law_r18 : List Cond := [Cond.instanceMethod yX11_learn, Cond.selects RX11 yX11_learn yX11_learn, Cond.code yX11_learn cX11_learn 3 (some .int), Cond.fieldLink RX11 146 "BittenStick" "learned" "I", Cond.methodLink RL 60 yX12_learn, Cond.instanceMethod yX12_learn, Cond.selects RX12 yX12_learn yX12_learn, Cond.code yX12_learn cX12_learn 3 (some .int), Cond.constantLong RX12 165 (63), Cond.fieldLink RX12 167 "BittenStickModel" "learned" "I", Cond.methodLink RL 61 yX11_comes, Cond.instanceMethod yX11_comes, Cond.selects RX11 yX11_comes yX11_comes, Cond.code yX11_comes cX11_comes 5 (some .int), Cond.fieldLink RX11 159 "BittenStick$Trip" "end" "I", Cond.methodLink RX11 149 yX1_has, Cond.instanceMethod yX1_has, Cond.selects RX1 yX1_has yX1_has, Cond.code yX1_has cX1_has 2 (some .boolean), Cond.methodLink RX11 150 yX11_prepare, Cond.instanceMethod yX11_prepare, Cond.selects RX11 yX11_prepare yX11_prepare, Cond.code yX11_prepare cX11_prepare 2 none, Cond.fieldLink RX11 184 "BittenStick$Trip" "learned" "I"]
def wsL_law_r19 : List Cond := [Cond.methodLink RX11 186 yX1_passengerOf, Cond.instanceMethod yX1_passengerOf, Cond.selects RX1 yX1_passengerOf yX1_passengerOf, Cond.code yX1_passengerOf cX1_passengerOf 2 (some .int), Cond.methodLink RX1 19 yX1_item, Cond.instanceMethod yX1_item, Cond.selects RX1 yX1_item yX1_item, Cond.code yX1_item cX1_item 3 (some .int), Cond.methodLink RX1 23 yX1_has, Cond.methodLink RX11 326 yX1_leftOf, Cond.instanceMethod yX1_leftOf, Cond.selects RX1 yX1_leftOf yX1_leftOf, Cond.code yX1_leftOf cX1_leftOf 2 (some .int), Cond.methodLink RX11 329 yX1_rightOf, Cond.instanceMethod yX1_rightOf, Cond.selects RX1 yX1_rightOf yX1_rightOf, Cond.code yX1_rightOf cX1_rightOf 2 (some .int), Cond.methodLink RX11 189 yX10_board, Cond.instanceMethod yX10_board, Cond.selects RX10 yX10_board yX10_board, Cond.code yX10_board cX10_board 4 none, Cond.fieldLink RX10 48 "BittenStick$Trip" "goes" "Z", Cond.fieldLink RX10 52 "BittenStick$Trip" "carriedTo" "I", Cond.fieldLink RX10 60 "BittenStick$Trip" "kind" "I"]
def wsL_law_r20 : List Cond := [Cond.fieldLink RX10 63 "BittenStick$Trip" "sore" "I", Cond.fieldLink RX10 66 "BittenStick$Trip" "bears" "I", Cond.fieldLink RX10 69 "BittenStick$Trip" "weight" "I", Cond.fieldLink RX10 73 "BittenStick$Goose" "told" "I", Cond.fieldLink RX10 75 "BittenStick$Goose" "tires" "I", Cond.fieldLink RX10 78 "BittenStick$Land" "number" "I", Cond.methodLink RX10 39 ⟨"BittenStick$Passengers", "has", "(I)Z"⟩, Cond.methodLink RX10 45 ⟨"BittenStick$Geese", "has", "(I)Z"⟩, Cond.methodLink RX10 56 yX7_told, Cond.methodLink RX10 72 yX2_told, Cond.methodLink RX10 83 yX10_flyGeese, Cond.instanceMethod yX10_flyGeese, Cond.selects RX10 yX10_flyGeese yX10_flyGeese, Cond.code yX10_flyGeese cX10_flyGeese 6 (some .int), Cond.fieldLink RX10 97 "BittenStick$Goose" "strong" "I", Cond.methodLink RX10 87 yX3_setOut, Cond.instanceMethod yX3_setOut, Cond.selects RX3 yX3_setOut yX3_setOut, Cond.code yX3_setOut cX3_setOut 1 none, Cond.fieldLink RX3 7 "BittenStick$Goose" "told" "I", Cond.fieldLink RX3 13 "BittenStick$Goose" "strong" "I", Cond.fieldLink RX3 16 "BittenStick$Goose" "flown" "I", Cond.methodLink RX10 90 ⟨"BittenStick$Land", "valueAt", "(I)I"⟩, Cond.methodLink RX10 94 yX3_flyMile]
def wsL_law_r21 : List Cond := [Cond.instanceMethod yX3_flyMile, Cond.selects RX3 yX3_flyMile yX3_flyMile, Cond.code yX3_flyMile cX3_flyMile 1 none, Cond.fieldLink RX3 19 "BittenStick$Goose" "tires" "I", Cond.methodLink RX10 100 yX3_rest, Cond.instanceMethod yX3_rest, Cond.selects RX3 yX3_rest yX3_rest, Cond.code yX3_rest cX3_rest 1 none, Cond.methodLink RX11 153 yX1_heightOf, Cond.instanceMethod yX1_heightOf, Cond.selects RX1 yX1_heightOf yX1_heightOf, Cond.code yX1_heightOf cX1_heightOf 2 (some .int), Cond.methodLink RX11 156 yX10_comesTo, Cond.instanceMethod yX10_comesTo, Cond.selects RX10 yX10_comesTo yX10_comesTo, Cond.code yX10_comesTo cX10_comesTo 2 (some .int), Cond.methodLink RX10 112 yX10_setOut, Cond.instanceMethod yX10_setOut, Cond.selects RX10 yX10_setOut yX10_setOut, Cond.code yX10_setOut cX10_setOut 1 none, Cond.fieldLink RX10 103 "BittenStick$Trip" "anger" "I", Cond.fieldLink RX10 106 "BittenStick$Trip" "cold" "I", Cond.fieldLink RX10 109 "BittenStick$Trip" "end" "I", Cond.methodLink RX10 113 yX10_goOn]
def wsL_law_r22 : List Cond := [Cond.instanceMethod yX10_goOn, Cond.selects RX10 yX10_goOn yX10_goOn, Cond.code yX10_goOn cX10_goOn 7 (some .int), Cond.methodLink RX10 117 Lib.Math.max.name, Cond.methodLink RX10 122 yX10_insult, Cond.instanceMethod yX10_insult, Cond.selects RX10 yX10_insult yX10_insult, Cond.code yX10_insult cX10_insult 4 (some .int), Cond.fieldLink RX10 125 "BittenStick$Trip" "learned" "I", Cond.methodLink RX11 162 yX4_isTown, Cond.instanceMethod yX4_isTown, Cond.selects RX4 yX4_isTown yX4_isTown, Cond.code yX4_isTown cX4_isTown 2 (some .boolean), Cond.methodLink RX4 9 ⟨"BittenStick$Land", "has", "(I)Z"⟩, Cond.sameMethod "BittenStick$Land" "BittenStick$Text" "has" "(I)Z", Cond.selects RX4 ⟨"BittenStick$Land", "has", "(I)Z"⟩ yX9_has, Cond.methodLink RX4 15 ⟨"BittenStick$Land", "valueAt", "(I)I"⟩, Cond.methodLink RL 64 yX12_comes, Cond.instanceMethod yX12_comes, Cond.selects RX12 yX12_comes yX12_comes, Cond.code yX12_comes cX12_comes 3 (some .int), Cond.methodLink RX12 212 yX12_isFlight, Cond.instanceMethod yX12_isFlight, Cond.selects RX12 yX12_isFlight yX12_isFlight]
def wsL_law_r23 : List Cond := [Cond.code yX12_isFlight cX12_isFlight 2 (some .boolean), Cond.methodLink RX12 215 yX12_comesOf, Cond.instanceMethod yX12_comesOf, Cond.selects RX12 yX12_comesOf yX12_comesOf, Cond.code yX12_comesOf cX12_comesOf 3 (some .int), Cond.methodLink RX12 206 yX12_fliesTold, Cond.instanceMethod yX12_fliesTold, Cond.selects RX12 yX12_fliesTold yX12_fliesTold, Cond.code yX12_fliesTold cX12_fliesTold 2 none, Cond.methodLink RX12 202 yX12_flies, Cond.instanceMethod yX12_flies, Cond.selects RX12 yX12_flies yX12_flies, Cond.code yX12_flies cX12_flies 8 none, Cond.fieldLink RX12 190 "BittenStickModel" "known" "I", Cond.fieldLink RX12 193 "BittenStickModel" "fell" "I", Cond.fieldLink RX12 196 "BittenStickModel" "end" "I", Cond.fieldLink RX12 184 "BittenStickModel" "anger" "I", Cond.fieldLink RX12 177 "BittenStickModel" "cold" "I", Cond.methodLink RX12 199 yX12_goes, Cond.instanceMethod yX12_goes, Cond.selects RX12 yX12_goes yX12_goes, Cond.code yX12_goes cX12_goes 7 (some .int), Cond.methodLink RX12 170 yX12_changes, Cond.instanceMethod yX12_changes]
def wsL_law_r24 : List Cond := [Cond.selects RX12 yX12_changes yX12_changes, Cond.code yX12_changes cX12_changes 4 none, Cond.methodLink RX12 173 yX12_tires, Cond.instanceMethod yX12_tires, Cond.selects RX12 yX12_tires yX12_tires, Cond.code yX12_tires cX12_tires 2 none, Cond.methodLink RX12 180 yX12_isIn, Cond.static yX12_isIn, Cond.code yX12_isIn cX12_isIn 2 (some .boolean), Cond.methodLink RX12 187 yX12_angerBy, Cond.instanceMethod yX12_angerBy, Cond.selects RX12 yX12_angerBy yX12_angerBy, Cond.code yX12_angerBy cX12_angerBy 6 (some .int), Cond.methodLink RX12 209 yX12_comesNow, Cond.instanceMethod yX12_comesNow, Cond.selects RX12 yX12_comesNow yX12_comesNow, Cond.code yX12_comesNow cX12_comesNow 3 (some .int), Cond.methodLink RL 65 yX11_behind, Cond.instanceMethod yX11_behind, Cond.selects RX11 yX11_behind yX11_behind, Cond.code yX11_behind cX11_behind 4 (some .int), Cond.methodLink RX11 165 ⟨"BittenStick$Land", "has", "(I)Z"⟩, Cond.methodLink RX11 166 yX11_moodBehind, Cond.instanceMethod yX11_moodBehind]
def wsL_law_r25 : List Cond := [Cond.selects RX11 yX11_moodBehind yX11_moodBehind, Cond.code yX11_moodBehind cX11_moodBehind 5 (some .int), Cond.fieldLink RX11 338 "BittenStick$Trip" "goes" "Z", Cond.fieldLink RX11 341 "BittenStick$Trip" "anger" "I", Cond.fieldLink RX11 344 "BittenStick$Trip" "cold" "I", Cond.methodLink RX11 332 yX10_setOut, Cond.methodLink RX11 335 yX10_goOn, Cond.methodLink RX11 170 yX11_strengthBehind, Cond.instanceMethod yX11_strengthBehind, Cond.selects RX11 yX11_strengthBehind yX11_strengthBehind, Cond.code yX11_strengthBehind cX11_strengthBehind 5 (some .int), Cond.fieldLink RX11 351 "BittenStick$Trip" "left" "LBittenStick$Goose;", Cond.fieldLink RX11 355 "BittenStick$Goose" "strong" "I", Cond.fieldLink RX11 360 "BittenStick$Trip" "right" "LBittenStick$Goose;", Cond.methodLink RX11 347 yX10_flyGeese, Cond.methodLink RL 69 yX12_behind, Cond.instanceMethod yX12_behind, Cond.selects RX12 yX12_behind yX12_behind, Cond.code yX12_behind cX12_behind 4 (some .int), Cond.methodLink RX12 218 yX12_behindOf, Cond.instanceMethod yX12_behindOf, Cond.selects RX12 yX12_behindOf yX12_behindOf, Cond.code yX12_behindOf cX12_behindOf 4 (some .int), Cond.methodLink RL 70 yX11_farthest]
def wsL_law_r26 : List Cond := [Cond.instanceMethod yX11_farthest, Cond.selects RX11 yX11_farthest yX11_farthest, Cond.code yX11_farthest cX11_farthest 6 (some .int), Cond.methodLink RL 73 yX12_farthest, Cond.instanceMethod yX12_farthest, Cond.selects RX12 yX12_farthest yX12_farthest, Cond.code yX12_farthest cX12_farthest 1 (some .int), Cond.methodLink RX12 221 yX12_farthestNow, Cond.instanceMethod yX12_farthestNow, Cond.selects RX12 yX12_farthestNow yX12_farthestNow, Cond.code yX12_farthestNow cX12_farthestNow 6 (some .int), Cond.methodLink RL 74 yX11_climb, Cond.instanceMethod yX11_climb, Cond.selects RX11 yX11_climb yX11_climb, Cond.code yX11_climb cX11_climb 3 (some .int), Cond.methodLink RX11 173 yX0_plan, Cond.instanceMethod yX0_plan, Cond.selects RX0 yX0_plan yX0_plan, Cond.code yX0_plan cX0_plan 7 none, Cond.fieldLink RX0 21 "BittenStick$Climb" "far" "I", Cond.fieldLink RX0 24 "BittenStick$Trip" "carriedTo" "I", Cond.methodLink RX0 32 Lib.Math.min.name, Cond.methodLink RX0 29 yX10_setOut, Cond.methodLink RX0 38 yX10_goOn]
def wsL_law_r27 : List Cond := [Cond.methodLink RX0 42 yX0_trySecond, Cond.instanceMethod yX0_trySecond, Cond.selects RX0 yX0_trySecond yX0_trySecond, Cond.code yX0_trySecond cX0_trySecond 8 none, Cond.fieldLink RX0 50 "BittenStick$Trip" "anger" "I", Cond.fieldLink RX0 53 "BittenStick$Trip" "cold" "I", Cond.methodLink RX0 46 yX0_note, Cond.instanceMethod yX0_note, Cond.selects RX0 yX0_note yX0_note, Cond.code yX0_note cX0_note 5 none, Cond.fieldLink RX0 9 "BittenStick$Climb" "first" "I", Cond.fieldLink RX0 15 "BittenStick$Climb" "turn" "I", Cond.fieldLink RX0 18 "BittenStick$Climb" "second" "I", Cond.methodLink RX11 177 yX0_told, Cond.instanceMethod yX0_told, Cond.selects RX0 yX0_told yX0_told, Cond.code yX0_told cX0_told 2 (some .int), Cond.methodLink RL 77 yX12_climb, Cond.instanceMethod yX12_climb, Cond.selects RX12 yX12_climb yX12_climb, Cond.code yX12_climb cX12_climb 3 (some .int), Cond.constantLong RX12 224 (-1), Cond.methodLink RX12 226 yX12_climbOf, Cond.instanceMethod yX12_climbOf]
def wsL_law_r28 : List Cond := [Cond.selects RX12 yX12_climbOf yX12_climbOf, Cond.code yX12_climbOf cX12_climbOf 8 (some .int), Cond.methodLink RL 78 yX11_practice, Cond.instanceMethod yX11_practice, Cond.selects RX11 yX11_practice yX11_practice, Cond.code yX11_practice cX11_practice 7 (some .int), Cond.methodLink RX11 179 yJ6_bitCount_0f7a4, Cond.static yJ6_bitCount_0f7a4, Cond.initialized RJ6, Cond.code yJ6_bitCount_0f7a4 cJ6_bitCount_0f7a4 1 (some .int), Cond.constant RJ6 265 (1431655765), Cond.constant RJ6 266 (858993459), Cond.constant RJ6 267 (252645135), Cond.methodLink RL 81 yX12_practice, Cond.instanceMethod yX12_practice, Cond.selects RX12 yX12_practice yX12_practice, Cond.code yX12_practice cX12_practice 3 (some .int), Cond.methodLink RX12 232 yX12_practiceOf, Cond.instanceMethod yX12_practiceOf, Cond.selects RX12 yX12_practiceOf yX12_practiceOf, Cond.code yX12_practiceOf cX12_practiceOf 6 (some .int), Cond.methodLink RX12 229 yX12_ones, Cond.static yX12_ones, Cond.code yX12_ones cX12_ones 3 (some .int)]
def wsL_law_r29 : List Cond := [Cond.methodLink RL 82 yX11_pair, Cond.instanceMethod yX11_pair, Cond.selects RX11 yX11_pair yX11_pair, Cond.code yX11_pair cX11_pair 8 (some .int), Cond.fieldLink RX11 185 "BittenStick$Geese" "number" "I", Cond.sameField "BittenStick$Geese" "BittenStick$Text" "number" "I", Cond.methodLink RL 85 yX12_pair, Cond.instanceMethod yX12_pair, Cond.selects RX12 yX12_pair yX12_pair, Cond.code yX12_pair cX12_pair 3 (some .int), Cond.methodLink RX12 235 yX12_pairOf, Cond.instanceMethod yX12_pairOf, Cond.selects RX12 yX12_pairOf yX12_pairOf, Cond.code yX12_pairOf cX12_pairOf 8 (some .int), Cond.methodLink RL 86 yX11_seen, Cond.instanceMethod yX11_seen, Cond.selects RX11 yX11_seen yX11_seen, Cond.code yX11_seen cX11_seen 3 (some .int), Cond.fieldLink RX11 193 "BittenStick" "seenNumber" "I", Cond.methodLink RL 89 yX12_seen, Cond.instanceMethod yX12_seen, Cond.selects RX12 yX12_seen yX12_seen, Cond.code yX12_seen cX12_seen 3 (some .int), Cond.constantLong RX12 238 (24)]
def wsL_law_r30 : List Cond := [Cond.fieldLink RX12 240 "BittenStickModel" "sights" "I", Cond.methodLink RL 90 yX11_forget, Cond.instanceMethod yX11_forget, Cond.selects RX11 yX11_forget yX11_forget, Cond.code yX11_forget cX11_forget 2 (some .int), Cond.methodLink RL 93 yX12_forget, Cond.instanceMethod yX12_forget, Cond.selects RX12 yX12_forget yX12_forget, Cond.code yX12_forget cX12_forget 2 (some .int), Cond.methodLink RL 94 yX11_sores, Cond.instanceMethod yX11_sores, Cond.selects RX11 yX11_sores yX11_sores, Cond.code yX11_sores cX11_sores 4 (some .int), Cond.methodLink RX11 196 yX11_agreesWithSeen, Cond.instanceMethod yX11_agreesWithSeen, Cond.selects RX11 yX11_agreesWithSeen yX11_agreesWithSeen, Cond.code yX11_agreesWithSeen cX11_agreesWithSeen 9 (some .boolean), Cond.fieldLink RX11 363 "BittenStick$Trip" "sore" "I", Cond.methodLink RL 97 yX12_sores, Cond.instanceMethod yX12_sores, Cond.selects RX12 yX12_sores yX12_sores, Cond.code yX12_sores cX12_sores 2 (some .int), Cond.methodLink RX12 247 yX12_soresOf, Cond.instanceMethod yX12_soresOf]
def wsL_law_r31 : List Cond := [Cond.selects RX12 yX12_soresOf yX12_soresOf, Cond.code yX12_soresOf cX12_soresOf 5 (some .int), Cond.methodLink RX12 243 yX12_isSeen, Cond.instanceMethod yX12_isSeen, Cond.selects RX12 yX12_isSeen yX12_isSeen, Cond.code yX12_isSeen cX12_isSeen 3 (some .boolean), Cond.methodLink RL 98 yX11_high, Cond.instanceMethod yX11_high, Cond.selects RX11 yX11_high yX11_high, Cond.code yX11_high cX11_high 4 (some .int), Cond.methodLink RL 101 yX12_high, Cond.instanceMethod yX12_high, Cond.selects RX12 yX12_high yX12_high, Cond.code yX12_high cX12_high 2 (some .int), Cond.methodLink RX12 250 yX12_highOf, Cond.instanceMethod yX12_highOf, Cond.selects RX12 yX12_highOf yX12_highOf, Cond.code yX12_highOf cX12_highOf 5 (some .int), Cond.methodLink RL 102 yX11_ask, Cond.instanceMethod yX11_ask, Cond.selects RX11 yX11_ask yX11_ask, Cond.code yX11_ask cX11_ask 7 (some .int), Cond.methodLink RX11 200 yX11_sores, Cond.methodLink RX11 203 yX11_mostAlike]
def wsL_law_r32 : List Cond := [Cond.instanceMethod yX11_mostAlike, Cond.selects RX11 yX11_mostAlike yX11_mostAlike, Cond.code yX11_mostAlike cX11_mostAlike 7 (some .int), Cond.methodLink RX11 366 Lib.Math.max.name, Cond.methodLink RL 105 yX12_ask, Cond.instanceMethod yX12_ask, Cond.selects RX12 yX12_ask yX12_ask, Cond.code yX12_ask cX12_ask 2 (some .int), Cond.methodLink RX12 256 yX12_askOf, Cond.instanceMethod yX12_askOf, Cond.selects RX12 yX12_askOf yX12_askOf, Cond.code yX12_askOf cX12_askOf 8 (some .int), Cond.methodLink RX12 253 yX12_mostAlike, Cond.instanceMethod yX12_mostAlike, Cond.selects RX12 yX12_mostAlike yX12_mostAlike, Cond.code yX12_mostAlike cX12_mostAlike 7 (some .int), Cond.methodLink RL 106 yX11_laugh, Cond.instanceMethod yX11_laugh, Cond.selects RX11 yX11_laugh yX11_laugh, Cond.code yX11_laugh cX11_laugh 4 (some .long), Cond.constantLong RX11 210 (-9223372036854775806), Cond.fieldLink RX11 216 "BittenStick$Laughter" "above" "J", Cond.fieldLink RX11 220 "BittenStick$Laughter" "below" "J", Cond.methodLink RX11 206 yX4_towns]
def wsL_law_r33 : List Cond := [Cond.instanceMethod yX4_towns, Cond.selects RX4 yX4_towns yX4_towns, Cond.code yX4_towns cX4_towns 3 (some .int), Cond.fieldLink RX4 19 "BittenStick$Land" "number" "I", Cond.methodLink RX4 23 yX4_isTown, Cond.methodLink RX11 212 yX5_weigh, Cond.instanceMethod yX5_weigh, Cond.selects RX5 yX5_weigh yX5_weigh, Cond.code yX5_weigh cX5_weigh 7 none, Cond.fieldLink RX5 15 "BittenStick$Laughter" "above" "J", Cond.fieldLink RX5 19 "BittenStick$Laughter" "below" "J", Cond.fieldLink RX5 22 "BittenStick$Trip" "goes" "Z", Cond.fieldLink RX5 28 "BittenStick$Trip" "carriedTo" "I", Cond.fieldLink RX5 32 "BittenStick$Trip" "land" "LBittenStick$Land;", Cond.fieldLink RX5 36 "BittenStick$Land" "number" "I", Cond.methodLink RX5 45 Lib.Math.max.name, Cond.fieldLink RX5 62 "BittenStick$Trip" "bears" "I", Cond.methodLink RX5 41 yX5_startCalm, Cond.instanceMethod yX5_startCalm, Cond.selects RX5 yX5_startCalm yX5_startCalm, Cond.code yX5_startCalm cX5_startCalm 4 none, Cond.methodLink RX5 51 ⟨"BittenStick$Land", "valueAt", "(I)I"⟩, Cond.methodLink RX5 55 yX5_sum, Cond.instanceMethod yX5_sum]
def wsL_law_r34 : List Cond := [Cond.selects RX5 yX5_sum yX5_sum, Cond.code yX5_sum cX5_sum 4 (some .long), Cond.methodLink RX5 59 yX10_insult, Cond.methodLink RX5 65 yX5_hear, Cond.instanceMethod yX5_hear, Cond.selects RX5 yX5_hear yX5_hear, Cond.code yX5_hear cX5_hear 7 none, Cond.constantLong RX5 72 (16), Cond.methodLink RX5 74 Lib.Math.min.name, Cond.methodLink RX5 69 yX5_reduce, Cond.instanceMethod yX5_reduce, Cond.selects RX5 yX5_reduce yX5_reduce, Cond.code yX5_reduce cX5_reduce 2 none, Cond.constantLong RX5 77 (2), Cond.methodLink RL 110 yX12_laugh, Cond.instanceMethod yX12_laugh, Cond.selects RX12 yX12_laugh yX12_laugh, Cond.code yX12_laugh cX12_laugh 5 (some .long), Cond.constantLong RX12 269 (16), Cond.methodLink RX12 266 yX12_towns, Cond.instanceMethod yX12_towns, Cond.selects RX12 yX12_towns yX12_towns, Cond.code yX12_towns cX12_towns 3 (some .int), Cond.methodLink RX12 271 yX12_laughOf]
def wsL_law_r35 : List Cond := [Cond.instanceMethod yX12_laughOf, Cond.selects RX12 yX12_laughOf yX12_laughOf, Cond.code yX12_laughOf cX12_laughOf 11 (some .long), Cond.methodLink RX12 259 yX12_calls, Cond.instanceMethod yX12_calls, Cond.selects RX12 yX12_calls yX12_calls, Cond.code yX12_calls cX12_calls 5 (some .int), Cond.methodLink RX12 262 yX12_part, Cond.static yX12_part, Cond.code yX12_part cX12_part 11 (some .long), Cond.methodLink RX12 275 yX12_no, Cond.static yX12_no, Cond.code yX12_no cX12_no 1 (some .long), Cond.constantLong RX12 63 (-9223372036854775808), Cond.methodLink RL 111 yX11_lakes, Cond.instanceMethod yX11_lakes, Cond.selects RX11 yX11_lakes yX11_lakes, Cond.code yX11_lakes cX11_lakes 10 (some .int), Cond.fieldLink RX11 223 "BittenStick$Passengers" "number" "I", Cond.sameField "BittenStick$Passengers" "BittenStick$Text" "number" "I", Cond.fieldLink RX11 224 "BittenStick$Lots" "seed" "I", Cond.methodLink RX11 227 yX6_draw, Cond.instanceMethod yX6_draw, Cond.selects RX6 yX6_draw yX6_draw]
def wsL_law_r36 : List Cond := [Cond.code yX6_draw cX6_draw 2 (some .int), Cond.constant RX6 7 (1103515245), Cond.fieldLink RX6 8 "BittenStick$Lots" "seed" "I", Cond.methodLink RL 114 yX12_lakes, Cond.instanceMethod yX12_lakes, Cond.selects RX12 yX12_lakes yX12_lakes, Cond.code yX12_lakes cX12_lakes 4 (some .int), Cond.constantLong RX12 286 (99), Cond.methodLink RX12 288 yX12_lakesOf, Cond.instanceMethod yX12_lakesOf, Cond.selects RX12 yX12_lakesOf yX12_lakesOf, Cond.code yX12_lakesOf cX12_lakesOf 9 (some .int), Cond.fieldLink RX12 280 "BittenStickModel" "drawn" "I", Cond.methodLink RX12 283 yX12_lot, Cond.instanceMethod yX12_lot, Cond.selects RX12 yX12_lot yX12_lot, Cond.code yX12_lot cX12_lot 2 (some .int), Cond.constant RX12 279 (1103515245), Cond.methodLink RL 115 yX11_sheet, Cond.instanceMethod yX11_sheet, Cond.selects RX11 yX11_sheet yX11_sheet, Cond.code yX11_sheet cX11_sheet 5 (some .int), Cond.methodLink RX11 230 yX11_isForm, Cond.static yX11_isForm]
def wsL_law_r37 : List Cond := [Cond.code yX11_isForm cX11_isForm 1 (some .boolean), Cond.methodLink RX11 233 yX8_renew, Cond.instanceMethod yX8_renew, Cond.selects RX8 yX8_renew yX8_renew, Cond.code yX8_renew cX8_renew 4 none, Cond.fieldLink RX8 19 "BittenStick$Sheet" "form" "I", Cond.methodLink RX8 23 Lib.Math.min.name, Cond.methodLink RX8 29 Lib.Math.max.name, Cond.methodLink RL 118 yX12_sheet, Cond.instanceMethod yX12_sheet, Cond.selects RX12 yX12_sheet yX12_sheet, Cond.code yX12_sheet cX12_sheet 5 (some .int), Cond.methodLink RL 119 yX11_lose, Cond.instanceMethod yX11_lose, Cond.selects RX11 yX11_lose yX11_lose, Cond.code yX11_lose cX11_lose 3 (some .int), Cond.methodLink RL 122 yX12_lose, Cond.instanceMethod yX12_lose, Cond.selects RX12 yX12_lose yX12_lose, Cond.code yX12_lose cX12_lose 2 (some .int), Cond.methodLink RL 123 yX11_lay, Cond.instanceMethod yX11_lay, Cond.selects RX11 yX11_lay yX11_lay, Cond.code yX11_lay cX11_lay 7 (some .int)]
def wsL_law_r38 : List Cond := [Cond.methodLink RX11 237 yX11_itemRefusal, Cond.instanceMethod yX11_itemRefusal, Cond.selects RX11 yX11_itemRefusal yX11_itemRefusal, Cond.code yX11_itemRefusal cX11_itemRefusal 4 (some .int), Cond.fieldLink RX11 245 "BittenStick$Sheet" "form" "I", Cond.methodLink RX11 248 yX8_hasItems, Cond.instanceMethod yX8_hasItems, Cond.selects RX8 yX8_hasItems yX8_hasItems, Cond.code yX8_hasItems cX8_hasItems 3 (some .boolean), Cond.methodLink RX11 241 yX8_put, Cond.instanceMethod yX8_put, Cond.selects RX8 yX8_put yX8_put, Cond.code yX8_put cX8_put 3 none, Cond.methodLink RL 126 yX12_lay, Cond.instanceMethod yX12_lay, Cond.selects RX12 yX12_lay yX12_lay, Cond.code yX12_lay cX12_lay 6 (some .int), Cond.methodLink RX12 84 yX12_lacks, Cond.instanceMethod yX12_lacks, Cond.selects RX12 yX12_lacks yX12_lacks, Cond.code yX12_lacks cX12_lacks 4 (some .int), Cond.methodLink RX12 88 yX12_cut, Cond.static yX12_cut, Cond.code yX12_cut cX12_cut 2 (some .int)]
def wsL_law_r39 : List Cond := [Cond.methodLink RL 127 yX11_get, Cond.instanceMethod yX11_get, Cond.selects RX11 yX11_get yX11_get, Cond.code yX11_get cX11_get 5 (some .int), Cond.constant RX11 244 (-2147483648), Cond.methodLink RL 130 yX12_get, Cond.instanceMethod yX12_get, Cond.selects RX12 yX12_get yX12_get, Cond.code yX12_get cX12_get 4 (some .int), Cond.constant RX12 92 (-2147483648), Cond.methodLink RL 131 yX11_copy, Cond.instanceMethod yX11_copy, Cond.selects RX11 yX11_copy yX11_copy, Cond.code yX11_copy cX11_copy 8 (some .int), Cond.fieldLink RX11 252 "BittenStick$Sheet" "items" "[I", Cond.methodLink RX11 255 arraycopyName, Cond.native arraycopyName, Cond.static arraycopyName, Cond.initialized "java/lang/System", Cond.methodLink RL 135 yX12_copy, Cond.instanceMethod yX12_copy, Cond.selects RX12 yX12_copy yX12_copy, Cond.code yX12_copy cX12_copy 7 (some .int), Cond.methodLink RL 136 yX11_write]
def wsL_law_r40 : List Cond := [Cond.instanceMethod yX11_write, Cond.selects RX11 yX11_write yX11_write, Cond.code yX11_write cX11_write 7 (some .int), Cond.methodLink RX11 261 Lib.Math.min.name, Cond.methodLink RL 139 yX12_write, Cond.instanceMethod yX12_write, Cond.selects RX12 yX12_write yX12_write, Cond.code yX12_write cX12_write 6 (some .int), Cond.methodLink RX12 291 yX12_lesser, Cond.static yX12_lesser, Cond.code yX12_lesser cX12_lesser 2 (some .int), Cond.methodLink RL 140 yX11_count, Cond.instanceMethod yX11_count, Cond.selects RX11 yX11_count yX11_count, Cond.code yX11_count cX11_count 2 (some .int), Cond.fieldLink RX11 266 "BittenStick$Land" "length" "I", Cond.sameField "BittenStick$Land" "BittenStick$Text" "length" "I", Cond.fieldLink RX11 267 "BittenStick$Passengers" "length" "I", Cond.sameField "BittenStick$Passengers" "BittenStick$Text" "length" "I", Cond.fieldLink RX11 268 "BittenStick$Geese" "length" "I", Cond.sameField "BittenStick$Geese" "BittenStick$Text" "length" "I", Cond.methodLink RL 143 yX12_count, Cond.instanceMethod yX12_count, Cond.selects RX12 yX12_count yX12_count]
def wsL_law_r41 : List Cond := [Cond.code yX12_count cX12_count 2 (some .int), Cond.methodLink RL 144 yX11_digest, Cond.instanceMethod yX11_digest, Cond.selects RX11 yX11_digest yX11_digest, Cond.code yX11_digest cX11_digest 5 (some .long), Cond.constantLong RX11 272 (17), Cond.constantLong RX11 274 (31), Cond.methodLink RX11 276 yX11_count, Cond.methodLink RX11 279 yX11_fault, Cond.methodLink RX11 282 yX11_mile, Cond.methodLink RX11 285 yX11_passenger, Cond.methodLink RX11 288 yX11_ask, Cond.methodLink RX11 291 yX11_goose, Cond.methodLink RX11 294 yX11_mixFlight, Cond.instanceMethod yX11_mixFlight, Cond.selects RX11 yX11_mixFlight yX11_mixFlight, Cond.code yX11_mixFlight cX11_mixFlight 7 (some .long), Cond.methodLink RX11 304 yX11_comes, Cond.methodLink RX11 307 yX11_behind, Cond.methodLink RX11 310 yX11_climb, Cond.methodLink RX11 313 yX11_practice, Cond.methodLink RX11 316 yX11_pair, Cond.methodLink RX11 319 yX11_high, Cond.methodLink RX11 322 yX11_laugh]
def wsL_law_r42 : List Cond := [Cond.methodLink RX11 298 yX11_farthest, Cond.methodLink RX11 301 yX11_lakes, Cond.methodLink RL 148 yX12_digest, Cond.instanceMethod yX12_digest, Cond.selects RX12 yX12_digest yX12_digest, Cond.code yX12_digest cX12_digest 5 (some .long), Cond.constantLong RX12 303 (17), Cond.constantLong RX12 294 (31), Cond.methodLink RX12 305 yX12_count, Cond.methodLink RX12 308 yX12_tellsFlight, Cond.instanceMethod yX12_tellsFlight, Cond.selects RX12 yX12_tellsFlight yX12_tellsFlight, Cond.code yX12_tellsFlight cX12_tellsFlight 7 (some .long), Cond.methodLink RX12 296 yX12_behind, Cond.methodLink RX12 299 yX12_laugh]
def wsL_law : List Cond := (wsL_law_r1 ++ (wsL_law_r2 ++ (wsL_law_r3 ++ (wsL_law_r4 ++ (wsL_law_r5 ++ (wsL_law_r6 ++ (wsL_law_r7 ++ (wsL_law_r8 ++ (wsL_law_r9 ++ (wsL_law_r10 ++ (wsL_law_r11 ++ (wsL_law_r12 ++ (wsL_law_r13 ++ (wsL_law_r14 ++ (wsL_law_r15 ++ (wsL_law_r16 ++ (wsL_law_r17 ++ (wsL_law_r18 ++ (wsL_law_r19 ++ (wsL_law_r20 ++ (wsL_law_r21 ++ (wsL_law_r22 ++ (wsL_law_r23 ++ (wsL_law_r24 ++ (wsL_law_r25 ++ (wsL_law_r26 ++ (wsL_law_r27 ++ (wsL_law_r28 ++ (wsL_law_r29 ++ (wsL_law_r30 ++ (wsL_law_r31 ++ (wsL_law_r32 ++ (wsL_law_r33 ++ (wsL_law_r34 ++ (wsL_law_r35 ++ (wsL_law_r36 ++ (wsL_law_r37 ++ (wsL_law_r38 ++ (wsL_law_r39 ++ (wsL_law_r40 ++ (wsL_law_r41 ++ wsL_law_r42))))))))))))))))))))))))))))))))))))))))) ++ wsX110 ++ wsX120 ++ wsX40 ++ wsX70 ++ wsX20 ++ wsX10 ++ wsX100 ++ wsX00 ++ wsX50 ++ wsX60 ++ wsX80 ++ wsX30 ++ ([] : List Cond)
theorem inlX0 : ∀ w ∈ wsX00, w ∈ wsL_law := fun _ h => List.mem_append_left _ (List.mem_append_left _ (List.mem_append_left _ (List.mem_append_left _ (List.mem_append_left _ (List.mem_append_right _ h)))))
theorem inlX1 : ∀ w ∈ wsX10, w ∈ wsL_law := fun _ h => List.mem_append_left _ (List.mem_append_left _ (List.mem_append_left _ (List.mem_append_left _ (List.mem_append_left _ (List.mem_append_left _ (List.mem_append_left _ (List.mem_append_right _ h)))))))
theorem inlX2 : ∀ w ∈ wsX20, w ∈ wsL_law := fun _ h => List.mem_append_left _ (List.mem_append_left _ (List.mem_append_left _ (List.mem_append_left _ (List.mem_append_left _ (List.mem_append_left _ (List.mem_append_left _ (List.mem_append_left _ (List.mem_append_right _ h))))))))
theorem inlX3 : ∀ w ∈ wsX30, w ∈ wsL_law := fun _ h => List.mem_append_left _ (List.mem_append_right _ h)
theorem inlX4 : ∀ w ∈ wsX40, w ∈ wsL_law := fun _ h => List.mem_append_left _ (List.mem_append_left _ (List.mem_append_left _ (List.mem_append_left _ (List.mem_append_left _ (List.mem_append_left _ (List.mem_append_left _ (List.mem_append_left _ (List.mem_append_left _ (List.mem_append_left _ (List.mem_append_right _ h))))))))))
theorem inlX5 : ∀ w ∈ wsX50, w ∈ wsL_law := fun _ h => List.mem_append_left _ (List.mem_append_left _ (List.mem_append_left _ (List.mem_append_left _ (List.mem_append_right _ h))))
theorem inlX6 : ∀ w ∈ wsX60, w ∈ wsL_law := fun _ h => List.mem_append_left _ (List.mem_append_left _ (List.mem_append_left _ (List.mem_append_right _ h)))
theorem inlX7 : ∀ w ∈ wsX70, w ∈ wsL_law := fun _ h => List.mem_append_left _ (List.mem_append_left _ (List.mem_append_left _ (List.mem_append_left _ (List.mem_append_left _ (List.mem_append_left _ (List.mem_append_left _ (List.mem_append_left _ (List.mem_append_left _ (List.mem_append_right _ h)))))))))
theorem inlX8 : ∀ w ∈ wsX80, w ∈ wsL_law := fun _ h => List.mem_append_left _ (List.mem_append_left _ (List.mem_append_right _ h))
theorem inlX10 : ∀ w ∈ wsX100, w ∈ wsL_law := fun _ h => List.mem_append_left _ (List.mem_append_left _ (List.mem_append_left _ (List.mem_append_left _ (List.mem_append_left _ (List.mem_append_left _ (List.mem_append_right _ h))))))
theorem inlX11 : ∀ w ∈ wsX110, w ∈ wsL_law := fun _ h => List.mem_append_left _ (List.mem_append_left _ (List.mem_append_left _ (List.mem_append_left _ (List.mem_append_left _ (List.mem_append_left _ (List.mem_append_left _ (List.mem_append_left _ (List.mem_append_left _ (List.mem_append_left _ (List.mem_append_left _ (List.mem_append_left _ (List.mem_append_right _ h))))))))))))
theorem inlX12 : ∀ w ∈ wsX120, w ∈ wsL_law := fun _ h => List.mem_append_left _ (List.mem_append_left _ (List.mem_append_left _ (List.mem_append_left _ (List.mem_append_left _ (List.mem_append_left _ (List.mem_append_left _ (List.mem_append_left _ (List.mem_append_left _ (List.mem_append_left _ (List.mem_append_left _ (List.mem_append_right _ h)))))))))))
end
section
theorem gwAll : GoodIn wsL_law wsL_law := goodIn_sub (fun _ h => h) (by decide +kernel)
/-- a method's words: its code, and all words of the law -/
def kW (y : MethodName) (c : ByteArray) (n : Nat) (r : Option FieldType) : List Cond := .code y c n r :: wsL_law
theorem kG {y : MethodName} {c : ByteArray} {n : Nat} {r : Option FieldType} (h : Cond.code y c n r ∈ wsL_law) : GoodIn wsL_law (kW y c n r) := fun w hw => (List.mem_cons.mp hw).elim (fun e => e ▸ gwAll _ h) (gwAll w)
theorem kGs {ws : List Cond} (h : ∀ w ∈ ws, w ∈ wsL_law) : GoodIn wsL_law ws := fun w hw => gwAll w (h w hw)
theorem kGV {own C : String} {idx : Nat} {y : MethodName} {c : ByteArray} {n : Nat} {r : Option FieldType} (h0 : Cond.code y c n r ∈ wsL_law) (h1 : Cond.methodLink own idx y ∈ wsL_law) (h2 : Cond.instanceMethod y ∈ wsL_law) (h3 : Cond.selects C y y ∈ wsL_law) (h4 : Cond.initialized C ∈ wsL_law) : GoodIn wsL_law (wsV own idx C y (kW y c n r)) :=
  goodIn_app (kGs (List.forall_mem_cons.mpr ⟨h1, List.forall_mem_cons.mpr ⟨h2, List.forall_mem_cons.mpr ⟨h3, List.forall_mem_cons.mpr ⟨h4, fun _ h => absurd h List.not_mem_nil⟩⟩⟩⟩)) (kG h0)
theorem kGU {own C owner : String} {idx : Nat} {x y : MethodName} {c : ByteArray} {n : Nat} {r : Option FieldType} (h0 : Cond.code y c n r ∈ wsL_law) (h1 : Cond.methodLink own idx x ∈ wsL_law) (h2 : Cond.sameMethod x.cls owner x.name x.desc ∈ wsL_law) (h3 : Cond.selects C x y ∈ wsL_law) (h4 : Cond.instanceMethod y ∈ wsL_law) (h5 : Cond.initialized y.cls ∈ wsL_law) : GoodIn wsL_law (va_wsU own idx C owner x y (kW y c n r)) :=
  goodIn_app (kGs (List.forall_mem_cons.mpr ⟨h1, List.forall_mem_cons.mpr ⟨h2, List.forall_mem_cons.mpr ⟨h3, List.forall_mem_cons.mpr ⟨h4, List.forall_mem_cons.mpr ⟨h5, fun _ h => absurd h List.not_mem_nil⟩⟩⟩⟩⟩)) (kG h0)
theorem kGS {own : String} {idx : Nat} {y : MethodName} {c : ByteArray} {n : Nat} {r : Option FieldType} (h0 : Cond.code y c n r ∈ wsL_law) (h1 : Cond.methodLink own idx y ∈ wsL_law) (h2 : Cond.static y ∈ wsL_law) (h3 : Cond.initialized y.cls ∈ wsL_law) : GoodIn wsL_law (va_wsS own idx y (kW y c n r)) :=
  goodIn_app (kGs (List.forall_mem_cons.mpr ⟨h1, List.forall_mem_cons.mpr ⟨h2, List.forall_mem_cons.mpr ⟨h3, fun _ h => absurd h List.not_mem_nil⟩⟩⟩)) (kG h0)
theorem wlm_0 : ∀ w ∈ wsL_law_r1, w ∈ wsL_law := fun _ h => List.mem_append_left _ (List.mem_append_left _ (List.mem_append_left _ (List.mem_append_left _ (List.mem_append_left _ (List.mem_append_left _ (List.mem_append_left _ (List.mem_append_left _ (List.mem_append_left _ (List.mem_append_left _ (List.mem_append_left _ (List.mem_append_left _ (List.mem_append_left _ (List.mem_append_left _ h)))))))))))))
theorem wd_0 : Cond.classLink RL 7 RX11 ∈ wsL_law := wlm_0 _ (List.mem_of_getElem? (i := 0) rfl)
theorem wd_1 : Cond.instantiable RX11 15 ∈ wsL_law := wlm_0 _ (List.mem_of_getElem? (i := 1) rfl)
theorem wd_2 : Cond.initialized RX11 ∈ wsL_law := wlm_0 _ (List.mem_of_getElem? (i := 2) rfl)
theorem wd_3 : Cond.classLink RL 10 RX12 ∈ wsL_law := wlm_0 _ (List.mem_of_getElem? (i := 3) rfl)
theorem wd_4 : Cond.instantiable RX12 30 ∈ wsL_law := wlm_0 _ (List.mem_of_getElem? (i := 4) rfl)
theorem wd_5 : Cond.initialized RX12 ∈ wsL_law := wlm_0 _ (List.mem_of_getElem? (i := 5) rfl)
theorem wd_6 : Cond.methodLink RL 9 yX11_init ∈ wsL_law := wlm_0 _ (List.mem_of_getElem? (i := 6) rfl)
theorem wd_7 : Cond.instanceMethod yX11_init ∈ wsL_law := wlm_0 _ (List.mem_of_getElem? (i := 7) rfl)
theorem wd_8 : Cond.code yX11_init cX11_init 2 none ∈ wsL_law := wlm_0 _ (List.mem_of_getElem? (i := 8) rfl)
theorem wd_9 : Cond.methodLink RX11 1 objectInit ∈ wsL_law := wlm_0 _ (List.mem_of_getElem? (i := 9) rfl)
theorem wd_10 : Cond.instanceMethod objectInit ∈ wsL_law := wlm_0 _ (List.mem_of_getElem? (i := 10) rfl)
theorem wd_11 : Cond.code objectInit ⟨#[0xb1]⟩ 1 none ∈ wsL_law := wlm_0 _ (List.mem_of_getElem? (i := 11) rfl)
theorem wd_12 : Cond.classLink RX11 7 RX4 ∈ wsL_law := wlm_0 _ (List.mem_of_getElem? (i := 12) rfl)
theorem wd_13 : Cond.instantiable RX4 4 ∈ wsL_law := wlm_0 _ (List.mem_of_getElem? (i := 13) rfl)
theorem wd_14 : Cond.initialized RX4 ∈ wsL_law := wlm_0 _ (List.mem_of_getElem? (i := 14) rfl)
theorem wd_15 : Cond.fieldLink RX11 10 "BittenStick" "land" "LBittenStick$Land;" ∈ wsL_law := wlm_0 _ (List.mem_of_getElem? (i := 15) rfl)
theorem wd_16 : Cond.classLink RX11 16 RX7 ∈ wsL_law := wlm_0 _ (List.mem_of_getElem? (i := 16) rfl)
theorem wd_17 : Cond.instantiable RX7 4 ∈ wsL_law := wlm_0 _ (List.mem_of_getElem? (i := 17) rfl)
theorem wd_18 : Cond.initialized RX7 ∈ wsL_law := wlm_0 _ (List.mem_of_getElem? (i := 18) rfl)
theorem wd_19 : Cond.fieldLink RX11 19 "BittenStick" "passengers" "LBittenStick$Passengers;" ∈ wsL_law := wlm_0 _ (List.mem_of_getElem? (i := 19) rfl)
theorem wd_20 : Cond.classLink RX11 23 RX2 ∈ wsL_law := wlm_0 _ (List.mem_of_getElem? (i := 20) rfl)
theorem wd_21 : Cond.instantiable RX2 4 ∈ wsL_law := wlm_0 _ (List.mem_of_getElem? (i := 21) rfl)
theorem wd_22 : Cond.initialized RX2 ∈ wsL_law := wlm_0 _ (List.mem_of_getElem? (i := 22) rfl)
theorem wd_23 : Cond.fieldLink RX11 26 "BittenStick" "geese" "LBittenStick$Geese;" ∈ wsL_law := wlm_0 _ (List.mem_of_getElem? (i := 23) rfl)
theorem wlm_1 : ∀ w ∈ wsL_law_r2, w ∈ wsL_law := fun _ h => List.mem_append_left _ (List.mem_append_left _ (List.mem_append_left _ (List.mem_append_left _ (List.mem_append_left _ (List.mem_append_left _ (List.mem_append_left _ (List.mem_append_left _ (List.mem_append_left _ (List.mem_append_left _ (List.mem_append_left _ (List.mem_append_left _ (List.mem_append_left _ (List.mem_append_right _ (List.mem_append_left _ h))))))))))))))
theorem wd_24 : Cond.classLink RX11 30 RX1 ∈ wsL_law := wlm_1 _ (List.mem_of_getElem? (i := 0) rfl)
theorem wd_25 : Cond.instantiable RX1 2 ∈ wsL_law := wlm_1 _ (List.mem_of_getElem? (i := 1) rfl)
theorem wd_26 : Cond.initialized RX1 ∈ wsL_law := wlm_1 _ (List.mem_of_getElem? (i := 2) rfl)
theorem wd_27 : Cond.fieldLink RX11 33 "BittenStick" "flights" "LBittenStick$Flights;" ∈ wsL_law := wlm_1 _ (List.mem_of_getElem? (i := 3) rfl)
theorem wd_28 : Cond.classLink RX11 37 RX10 ∈ wsL_law := wlm_1 _ (List.mem_of_getElem? (i := 4) rfl)
theorem wd_29 : Cond.instantiable RX10 17 ∈ wsL_law := wlm_1 _ (List.mem_of_getElem? (i := 5) rfl)
theorem wd_30 : Cond.initialized RX10 ∈ wsL_law := wlm_1 _ (List.mem_of_getElem? (i := 6) rfl)
theorem wd_31 : Cond.fieldLink RX11 42 "BittenStick" "trip" "LBittenStick$Trip;" ∈ wsL_law := wlm_1 _ (List.mem_of_getElem? (i := 7) rfl)
theorem wd_32 : Cond.classLink RX11 46 RX0 ∈ wsL_law := wlm_1 _ (List.mem_of_getElem? (i := 8) rfl)
theorem wd_33 : Cond.instantiable RX0 4 ∈ wsL_law := wlm_1 _ (List.mem_of_getElem? (i := 9) rfl)
theorem wd_34 : Cond.initialized RX0 ∈ wsL_law := wlm_1 _ (List.mem_of_getElem? (i := 10) rfl)
theorem wd_35 : Cond.fieldLink RX11 49 "BittenStick" "best" "LBittenStick$Climb;" ∈ wsL_law := wlm_1 _ (List.mem_of_getElem? (i := 11) rfl)
theorem wd_36 : Cond.classLink RX11 53 RX5 ∈ wsL_law := wlm_1 _ (List.mem_of_getElem? (i := 12) rfl)
theorem wd_37 : Cond.instantiable RX5 3 ∈ wsL_law := wlm_1 _ (List.mem_of_getElem? (i := 13) rfl)
theorem wd_38 : Cond.initialized RX5 ∈ wsL_law := wlm_1 _ (List.mem_of_getElem? (i := 14) rfl)
theorem wd_39 : Cond.fieldLink RX11 56 "BittenStick" "laughter" "LBittenStick$Laughter;" ∈ wsL_law := wlm_1 _ (List.mem_of_getElem? (i := 15) rfl)
theorem wd_40 : Cond.classLink RX11 60 RX6 ∈ wsL_law := wlm_1 _ (List.mem_of_getElem? (i := 16) rfl)
theorem wd_41 : Cond.instantiable RX6 1 ∈ wsL_law := wlm_1 _ (List.mem_of_getElem? (i := 17) rfl)
theorem wd_42 : Cond.initialized RX6 ∈ wsL_law := wlm_1 _ (List.mem_of_getElem? (i := 18) rfl)
theorem wd_43 : Cond.fieldLink RX11 63 "BittenStick" "lots" "LBittenStick$Lots;" ∈ wsL_law := wlm_1 _ (List.mem_of_getElem? (i := 19) rfl)
theorem wd_44 : Cond.arrayClass .int ∈ wsL_law := wlm_1 _ (List.mem_of_getElem? (i := 20) rfl)
theorem wd_45 : Cond.fieldLink RX11 67 "BittenStick" "seenFlights" "[I" ∈ wsL_law := wlm_1 _ (List.mem_of_getElem? (i := 21) rfl)
theorem wd_46 : Cond.fieldLink RX11 71 "BittenStick" "seenMiles" "[I" ∈ wsL_law := wlm_1 _ (List.mem_of_getElem? (i := 22) rfl)
theorem wd_47 : Cond.fieldLink RX11 74 "BittenStick" "comers" "[I" ∈ wsL_law := wlm_1 _ (List.mem_of_getElem? (i := 23) rfl)
theorem wlm_2 : ∀ w ∈ wsL_law_r3, w ∈ wsL_law := fun _ h => List.mem_append_left _ (List.mem_append_left _ (List.mem_append_left _ (List.mem_append_left _ (List.mem_append_left _ (List.mem_append_left _ (List.mem_append_left _ (List.mem_append_left _ (List.mem_append_left _ (List.mem_append_left _ (List.mem_append_left _ (List.mem_append_left _ (List.mem_append_left _ (List.mem_append_right _ (List.mem_append_right _ (List.mem_append_left _ h)))))))))))))))
theorem wd_48 : Cond.classLink RX11 77 RX8 ∈ wsL_law := wlm_2 _ (List.mem_of_getElem? (i := 0) rfl)
theorem wd_49 : Cond.fieldLink RX11 79 "BittenStick" "sheets" "[LBittenStick$Sheet;" ∈ wsL_law := wlm_2 _ (List.mem_of_getElem? (i := 1) rfl)
theorem wd_50 : Cond.instantiable RX8 4 ∈ wsL_law := wlm_2 _ (List.mem_of_getElem? (i := 2) rfl)
theorem wd_51 : Cond.initialized RX8 ∈ wsL_law := wlm_2 _ (List.mem_of_getElem? (i := 3) rfl)
theorem wd_52 : Cond.methodLink RX11 9 yX4_init ∈ wsL_law := wlm_2 _ (List.mem_of_getElem? (i := 4) rfl)
theorem wd_53 : Cond.instanceMethod yX4_init ∈ wsL_law := wlm_2 _ (List.mem_of_getElem? (i := 5) rfl)
theorem wd_54 : Cond.code yX4_init cX4_init 1 none ∈ wsL_law := wlm_2 _ (List.mem_of_getElem? (i := 6) rfl)
theorem wd_55 : Cond.methodLink RX4 3 yX9_init ∈ wsL_law := wlm_2 _ (List.mem_of_getElem? (i := 7) rfl)
theorem wd_56 : Cond.instanceMethod yX9_init ∈ wsL_law := wlm_2 _ (List.mem_of_getElem? (i := 8) rfl)
theorem wd_57 : Cond.initialized RX9 ∈ wsL_law := wlm_2 _ (List.mem_of_getElem? (i := 9) rfl)
theorem wd_58 : Cond.code yX9_init cX9_init 2 none ∈ wsL_law := wlm_2 _ (List.mem_of_getElem? (i := 10) rfl)
theorem wd_59 : Cond.methodLink RX9 3 objectInit ∈ wsL_law := wlm_2 _ (List.mem_of_getElem? (i := 11) rfl)
theorem wd_60 : Cond.fieldLink RX9 9 "BittenStick$Text" "faultAt" "I" ∈ wsL_law := wlm_2 _ (List.mem_of_getElem? (i := 12) rfl)
theorem wd_61 : Cond.methodLink RX9 15 Lib.Math.max.name ∈ wsL_law := wlm_2 _ (List.mem_of_getElem? (i := 13) rfl)
theorem wd_62 : Cond.static Lib.Math.max.name ∈ wsL_law := wlm_2 _ (List.mem_of_getElem? (i := 14) rfl)
theorem wd_63 : Cond.initialized "java/lang/Math" ∈ wsL_law := wlm_2 _ (List.mem_of_getElem? (i := 15) rfl)
theorem wd_64 : Cond.code Lib.Math.max.name Lib.Math.max.code 2 (some .int) ∈ wsL_law := wlm_2 _ (List.mem_of_getElem? (i := 16) rfl)
theorem wd_65 : Cond.fieldLink RX9 21 "BittenStick$Text" "values" "[I" ∈ wsL_law := wlm_2 _ (List.mem_of_getElem? (i := 17) rfl)
theorem wd_66 : Cond.methodLink RX11 18 yX7_init ∈ wsL_law := wlm_2 _ (List.mem_of_getElem? (i := 18) rfl)
theorem wd_67 : Cond.instanceMethod yX7_init ∈ wsL_law := wlm_2 _ (List.mem_of_getElem? (i := 19) rfl)
theorem wd_68 : Cond.code yX7_init cX7_init 1 none ∈ wsL_law := wlm_2 _ (List.mem_of_getElem? (i := 20) rfl)
theorem wd_69 : Cond.methodLink RX7 3 yX9_init ∈ wsL_law := wlm_2 _ (List.mem_of_getElem? (i := 21) rfl)
theorem wd_70 : Cond.methodLink RX11 25 yX2_init ∈ wsL_law := wlm_2 _ (List.mem_of_getElem? (i := 22) rfl)
theorem wd_71 : Cond.instanceMethod yX2_init ∈ wsL_law := wlm_2 _ (List.mem_of_getElem? (i := 23) rfl)
theorem wlm_3 : ∀ w ∈ wsL_law_r4, w ∈ wsL_law := fun _ h => List.mem_append_left _ (List.mem_append_left _ (List.mem_append_left _ (List.mem_append_left _ (List.mem_append_left _ (List.mem_append_left _ (List.mem_append_left _ (List.mem_append_left _ (List.mem_append_left _ (List.mem_append_left _ (List.mem_append_left _ (List.mem_append_left _ (List.mem_append_left _ (List.mem_append_right _ (List.mem_append_right _ (List.mem_append_right _ (List.mem_append_left _ h))))))))))))))))
theorem wd_72 : Cond.code yX2_init cX2_init 1 none ∈ wsL_law := wlm_3 _ (List.mem_of_getElem? (i := 0) rfl)
theorem wd_73 : Cond.methodLink RX2 3 yX9_init ∈ wsL_law := wlm_3 _ (List.mem_of_getElem? (i := 1) rfl)
theorem wd_74 : Cond.instanceMethod yX1_init ∈ wsL_law := wlm_3 _ (List.mem_of_getElem? (i := 2) rfl)
theorem wd_75 : Cond.code yX1_init cX1_init 1 none ∈ wsL_law := wlm_3 _ (List.mem_of_getElem? (i := 3) rfl)
theorem wd_76 : Cond.methodLink RX1 3 objectInit ∈ wsL_law := wlm_3 _ (List.mem_of_getElem? (i := 4) rfl)
theorem wd_77 : Cond.fieldLink RX1 9 "BittenStick$Flights" "items" "[I" ∈ wsL_law := wlm_3 _ (List.mem_of_getElem? (i := 5) rfl)
theorem wd_78 : Cond.methodLink RX11 39 yX10_init ∈ wsL_law := wlm_3 _ (List.mem_of_getElem? (i := 6) rfl)
theorem wd_79 : Cond.instanceMethod yX10_init ∈ wsL_law := wlm_3 _ (List.mem_of_getElem? (i := 7) rfl)
theorem wd_80 : Cond.code yX10_init cX10_init 4 none ∈ wsL_law := wlm_3 _ (List.mem_of_getElem? (i := 8) rfl)
theorem wd_81 : Cond.methodLink RX10 3 objectInit ∈ wsL_law := wlm_3 _ (List.mem_of_getElem? (i := 9) rfl)
theorem wd_82 : Cond.classLink RX10 9 RX3 ∈ wsL_law := wlm_3 _ (List.mem_of_getElem? (i := 10) rfl)
theorem wd_83 : Cond.instantiable RX3 4 ∈ wsL_law := wlm_3 _ (List.mem_of_getElem? (i := 11) rfl)
theorem wd_84 : Cond.initialized RX3 ∈ wsL_law := wlm_3 _ (List.mem_of_getElem? (i := 12) rfl)
theorem wd_85 : Cond.fieldLink RX10 12 "BittenStick$Trip" "toldLeft" "LBittenStick$Goose;" ∈ wsL_law := wlm_3 _ (List.mem_of_getElem? (i := 13) rfl)
theorem wd_86 : Cond.fieldLink RX10 18 "BittenStick$Trip" "toldRight" "LBittenStick$Goose;" ∈ wsL_law := wlm_3 _ (List.mem_of_getElem? (i := 14) rfl)
theorem wd_87 : Cond.fieldLink RX10 21 "BittenStick$Trip" "left" "LBittenStick$Goose;" ∈ wsL_law := wlm_3 _ (List.mem_of_getElem? (i := 15) rfl)
theorem wd_88 : Cond.fieldLink RX10 24 "BittenStick$Trip" "right" "LBittenStick$Goose;" ∈ wsL_law := wlm_3 _ (List.mem_of_getElem? (i := 16) rfl)
theorem wd_89 : Cond.fieldLink RX10 27 "BittenStick$Trip" "land" "LBittenStick$Land;" ∈ wsL_law := wlm_3 _ (List.mem_of_getElem? (i := 17) rfl)
theorem wd_90 : Cond.fieldLink RX10 31 "BittenStick$Trip" "passengers" "LBittenStick$Passengers;" ∈ wsL_law := wlm_3 _ (List.mem_of_getElem? (i := 18) rfl)
theorem wd_91 : Cond.fieldLink RX10 35 "BittenStick$Trip" "geese" "LBittenStick$Geese;" ∈ wsL_law := wlm_3 _ (List.mem_of_getElem? (i := 19) rfl)
theorem wd_92 : Cond.instanceMethod yX3_init ∈ wsL_law := wlm_3 _ (List.mem_of_getElem? (i := 20) rfl)
theorem wd_93 : Cond.code yX3_init cX3_init 1 none ∈ wsL_law := wlm_3 _ (List.mem_of_getElem? (i := 21) rfl)
theorem wd_94 : Cond.methodLink RX3 1 objectInit ∈ wsL_law := wlm_3 _ (List.mem_of_getElem? (i := 22) rfl)
theorem wd_95 : Cond.instanceMethod yX0_init ∈ wsL_law := wlm_3 _ (List.mem_of_getElem? (i := 23) rfl)
theorem wlm_4 : ∀ w ∈ wsL_law_r5, w ∈ wsL_law := fun _ h => List.mem_append_left _ (List.mem_append_left _ (List.mem_append_left _ (List.mem_append_left _ (List.mem_append_left _ (List.mem_append_left _ (List.mem_append_left _ (List.mem_append_left _ (List.mem_append_left _ (List.mem_append_left _ (List.mem_append_left _ (List.mem_append_left _ (List.mem_append_left _ (List.mem_append_right _ (List.mem_append_right _ (List.mem_append_right _ (List.mem_append_right _ (List.mem_append_left _ h)))))))))))))))))
theorem wd_96 : Cond.code yX0_init cX0_init 1 none ∈ wsL_law := wlm_4 _ (List.mem_of_getElem? (i := 0) rfl)
theorem wd_97 : Cond.methodLink RX0 3 objectInit ∈ wsL_law := wlm_4 _ (List.mem_of_getElem? (i := 1) rfl)
theorem wd_98 : Cond.instanceMethod yX5_init ∈ wsL_law := wlm_4 _ (List.mem_of_getElem? (i := 2) rfl)
theorem wd_99 : Cond.code yX5_init cX5_init 1 none ∈ wsL_law := wlm_4 _ (List.mem_of_getElem? (i := 3) rfl)
theorem wd_100 : Cond.methodLink RX5 3 objectInit ∈ wsL_law := wlm_4 _ (List.mem_of_getElem? (i := 4) rfl)
theorem wd_101 : Cond.arrayClass .long ∈ wsL_law := wlm_4 _ (List.mem_of_getElem? (i := 5) rfl)
theorem wd_102 : Cond.fieldLink RX5 9 "BittenStick$Laughter" "chances" "[J" ∈ wsL_law := wlm_4 _ (List.mem_of_getElem? (i := 6) rfl)
theorem wd_103 : Cond.instanceMethod yX6_init ∈ wsL_law := wlm_4 _ (List.mem_of_getElem? (i := 7) rfl)
theorem wd_104 : Cond.code yX6_init cX6_init 1 none ∈ wsL_law := wlm_4 _ (List.mem_of_getElem? (i := 8) rfl)
theorem wd_105 : Cond.methodLink RX6 1 objectInit ∈ wsL_law := wlm_4 _ (List.mem_of_getElem? (i := 9) rfl)
theorem wd_106 : Cond.instanceMethod yX8_init ∈ wsL_law := wlm_4 _ (List.mem_of_getElem? (i := 10) rfl)
theorem wd_107 : Cond.code yX8_init cX8_init 1 none ∈ wsL_law := wlm_4 _ (List.mem_of_getElem? (i := 11) rfl)
theorem wd_108 : Cond.methodLink RX8 3 objectInit ∈ wsL_law := wlm_4 _ (List.mem_of_getElem? (i := 12) rfl)
theorem wd_109 : Cond.fieldLink RX8 9 "BittenStick$Sheet" "items" "[I" ∈ wsL_law := wlm_4 _ (List.mem_of_getElem? (i := 13) rfl)
theorem wd_110 : Cond.fieldLink RX8 15 "BittenStick$Sheet" "isLost" "Z" ∈ wsL_law := wlm_4 _ (List.mem_of_getElem? (i := 14) rfl)
theorem wd_111 : Cond.methodLink RL 12 yX12_init ∈ wsL_law := wlm_4 _ (List.mem_of_getElem? (i := 15) rfl)
theorem wd_112 : Cond.instanceMethod yX12_init ∈ wsL_law := wlm_4 _ (List.mem_of_getElem? (i := 16) rfl)
theorem wd_113 : Cond.code yX12_init cX12_init 2 none ∈ wsL_law := wlm_4 _ (List.mem_of_getElem? (i := 17) rfl)
theorem wd_114 : Cond.methodLink RX12 1 objectInit ∈ wsL_law := wlm_4 _ (List.mem_of_getElem? (i := 18) rfl)
theorem wd_115 : Cond.fieldLink RX12 7 "BittenStickModel" "forms" "[I" ∈ wsL_law := wlm_4 _ (List.mem_of_getElem? (i := 19) rfl)
theorem wd_116 : Cond.fieldLink RX12 13 "BittenStickModel" "sizes" "[I" ∈ wsL_law := wlm_4 _ (List.mem_of_getElem? (i := 20) rfl)
theorem wd_117 : Cond.fieldLink RX12 16 "BittenStickModel" "items" "[I" ∈ wsL_law := wlm_4 _ (List.mem_of_getElem? (i := 21) rfl)
theorem wd_118 : Cond.fieldLink RX12 19 "BittenStickModel" "moved" "[I" ∈ wsL_law := wlm_4 _ (List.mem_of_getElem? (i := 22) rfl)
theorem wd_119 : Cond.fieldLink RX12 22 "BittenStickModel" "bytes" "[I" ∈ wsL_law := wlm_4 _ (List.mem_of_getElem? (i := 23) rfl)
theorem wlm_5 : ∀ w ∈ wsL_law_r6, w ∈ wsL_law := fun _ h => List.mem_append_left _ (List.mem_append_left _ (List.mem_append_left _ (List.mem_append_left _ (List.mem_append_left _ (List.mem_append_left _ (List.mem_append_left _ (List.mem_append_left _ (List.mem_append_left _ (List.mem_append_left _ (List.mem_append_left _ (List.mem_append_left _ (List.mem_append_left _ (List.mem_append_right _ (List.mem_append_right _ (List.mem_append_right _ (List.mem_append_right _ (List.mem_append_right _ (List.mem_append_left _ h))))))))))))))))))
theorem wd_120 : Cond.fieldLink RX12 25 "BittenStickModel" "typed" "[I" ∈ wsL_law := wlm_5 _ (List.mem_of_getElem? (i := 0) rfl)
theorem wd_121 : Cond.fieldLink RX12 28 "BittenStickModel" "mile" "[I" ∈ wsL_law := wlm_5 _ (List.mem_of_getElem? (i := 1) rfl)
theorem wd_122 : Cond.fieldLink RX12 31 "BittenStickModel" "passenger" "[I" ∈ wsL_law := wlm_5 _ (List.mem_of_getElem? (i := 2) rfl)
theorem wd_123 : Cond.fieldLink RX12 34 "BittenStickModel" "goose" "[I" ∈ wsL_law := wlm_5 _ (List.mem_of_getElem? (i := 3) rfl)
theorem wd_124 : Cond.fieldLink RX12 37 "BittenStickModel" "flight" "[I" ∈ wsL_law := wlm_5 _ (List.mem_of_getElem? (i := 4) rfl)
theorem wd_125 : Cond.fieldLink RX12 40 "BittenStickModel" "told" "[I" ∈ wsL_law := wlm_5 _ (List.mem_of_getElem? (i := 5) rfl)
theorem wd_126 : Cond.fieldLink RX12 43 "BittenStickModel" "pair" "[I" ∈ wsL_law := wlm_5 _ (List.mem_of_getElem? (i := 6) rfl)
theorem wd_127 : Cond.fieldLink RX12 46 "BittenStickModel" "strong" "[I" ∈ wsL_law := wlm_5 _ (List.mem_of_getElem? (i := 7) rfl)
theorem wd_128 : Cond.fieldLink RX12 49 "BittenStickModel" "flown" "[I" ∈ wsL_law := wlm_5 _ (List.mem_of_getElem? (i := 8) rfl)
theorem wd_129 : Cond.fieldLink RX12 52 "BittenStickModel" "sight" "[I" ∈ wsL_law := wlm_5 _ (List.mem_of_getElem? (i := 9) rfl)
theorem wd_130 : Cond.fieldLink RX12 55 "BittenStickModel" "alike" "[I" ∈ wsL_law := wlm_5 _ (List.mem_of_getElem? (i := 10) rfl)
theorem wd_131 : Cond.constant RX12 58 (16777215) ∈ wsL_law := wlm_5 _ (List.mem_of_getElem? (i := 11) rfl)
theorem wd_132 : Cond.fieldLink RX12 59 "BittenStickModel" "calling" "I" ∈ wsL_law := wlm_5 _ (List.mem_of_getElem? (i := 12) rfl)
theorem wd_133 : Cond.methodLink RL 13 yX11_type ∈ wsL_law := wlm_5 _ (List.mem_of_getElem? (i := 13) rfl)
theorem wd_134 : Cond.instanceMethod yX11_type ∈ wsL_law := wlm_5 _ (List.mem_of_getElem? (i := 14) rfl)
theorem wd_135 : Cond.selects RX11 yX11_type yX11_type ∈ wsL_law := wlm_5 _ (List.mem_of_getElem? (i := 15) rfl)
theorem wd_136 : Cond.code yX11_type cX11_type 4 (some .int) ∈ wsL_law := wlm_5 _ (List.mem_of_getElem? (i := 16) rfl)
theorem wd_137 : Cond.fieldLink RX11 98 "BittenStick$Text" "length" "I" ∈ wsL_law := wlm_5 _ (List.mem_of_getElem? (i := 17) rfl)
theorem wd_138 : Cond.methodLink RX11 84 yX11_textOf ∈ wsL_law := wlm_5 _ (List.mem_of_getElem? (i := 18) rfl)
theorem wd_139 : Cond.instanceMethod yX11_textOf ∈ wsL_law := wlm_5 _ (List.mem_of_getElem? (i := 19) rfl)
theorem wd_140 : Cond.selects RX11 yX11_textOf yX11_textOf ∈ wsL_law := wlm_5 _ (List.mem_of_getElem? (i := 20) rfl)
theorem wd_141 : Cond.code yX11_textOf cX11_textOf 2 (some (.object "BittenStick$Text")) ∈ wsL_law := wlm_5 _ (List.mem_of_getElem? (i := 21) rfl)
theorem wd_142 : Cond.methodLink RX11 88 ⟨"BittenStick$Text", "isFull", "()Z"⟩ ∈ wsL_law := wlm_5 _ (List.mem_of_getElem? (i := 22) rfl)
theorem wd_143 : Cond.sameMethod "BittenStick$Text" "BittenStick$Text" "isFull" "()Z" ∈ wsL_law := wlm_5 _ (List.mem_of_getElem? (i := 23) rfl)
theorem wlm_6 : ∀ w ∈ wsL_law_r7, w ∈ wsL_law := fun _ h => List.mem_append_left _ (List.mem_append_left _ (List.mem_append_left _ (List.mem_append_left _ (List.mem_append_left _ (List.mem_append_left _ (List.mem_append_left _ (List.mem_append_left _ (List.mem_append_left _ (List.mem_append_left _ (List.mem_append_left _ (List.mem_append_left _ (List.mem_append_left _ (List.mem_append_right _ (List.mem_append_right _ (List.mem_append_right _ (List.mem_append_right _ (List.mem_append_right _ (List.mem_append_right _ (List.mem_append_left _ h)))))))))))))))))))
theorem wd_144 : Cond.selects RX2 ⟨"BittenStick$Text", "isFull", "()Z"⟩ yX9_isFull ∈ wsL_law := wlm_6 _ (List.mem_of_getElem? (i := 0) rfl)
theorem wd_145 : Cond.instanceMethod yX9_isFull ∈ wsL_law := wlm_6 _ (List.mem_of_getElem? (i := 1) rfl)
theorem wd_146 : Cond.code yX9_isFull cX9_isFull 1 (some .boolean) ∈ wsL_law := wlm_6 _ (List.mem_of_getElem? (i := 2) rfl)
theorem wd_147 : Cond.fieldLink RX9 25 "BittenStick$Text" "length" "I" ∈ wsL_law := wlm_6 _ (List.mem_of_getElem? (i := 3) rfl)
theorem wd_148 : Cond.selects RX4 ⟨"BittenStick$Text", "isFull", "()Z"⟩ yX9_isFull ∈ wsL_law := wlm_6 _ (List.mem_of_getElem? (i := 4) rfl)
theorem wd_149 : Cond.selects RX7 ⟨"BittenStick$Text", "isFull", "()Z"⟩ yX9_isFull ∈ wsL_law := wlm_6 _ (List.mem_of_getElem? (i := 5) rfl)
theorem wd_150 : Cond.methodLink RX11 94 ⟨"BittenStick$Text", "append", "(I)V"⟩ ∈ wsL_law := wlm_6 _ (List.mem_of_getElem? (i := 6) rfl)
theorem wd_151 : Cond.sameMethod "BittenStick$Text" "BittenStick$Text" "append" "(I)V" ∈ wsL_law := wlm_6 _ (List.mem_of_getElem? (i := 7) rfl)
theorem wd_152 : Cond.selects RX2 ⟨"BittenStick$Text", "append", "(I)V"⟩ yX9_append ∈ wsL_law := wlm_6 _ (List.mem_of_getElem? (i := 8) rfl)
theorem wd_153 : Cond.instanceMethod yX9_append ∈ wsL_law := wlm_6 _ (List.mem_of_getElem? (i := 9) rfl)
theorem wd_154 : Cond.code yX9_append cX9_append 2 none ∈ wsL_law := wlm_6 _ (List.mem_of_getElem? (i := 10) rfl)
theorem wd_155 : Cond.methodLink RX9 28 ⟨"BittenStick$Text", "worth", "(II)I"⟩ ∈ wsL_law := wlm_6 _ (List.mem_of_getElem? (i := 11) rfl)
theorem wd_156 : Cond.sameMethod "BittenStick$Text" "BittenStick$Text" "worth" "(II)I" ∈ wsL_law := wlm_6 _ (List.mem_of_getElem? (i := 12) rfl)
theorem wd_157 : Cond.selects RX2 ⟨"BittenStick$Text", "worth", "(II)I"⟩ yX2_worth ∈ wsL_law := wlm_6 _ (List.mem_of_getElem? (i := 13) rfl)
theorem wd_158 : Cond.instanceMethod yX2_worth ∈ wsL_law := wlm_6 _ (List.mem_of_getElem? (i := 14) rfl)
theorem wd_159 : Cond.code yX2_worth cX2_worth 3 (some .int) ∈ wsL_law := wlm_6 _ (List.mem_of_getElem? (i := 15) rfl)
theorem wd_160 : Cond.selects RX4 ⟨"BittenStick$Text", "worth", "(II)I"⟩ yX4_worth ∈ wsL_law := wlm_6 _ (List.mem_of_getElem? (i := 16) rfl)
theorem wd_161 : Cond.instanceMethod yX4_worth ∈ wsL_law := wlm_6 _ (List.mem_of_getElem? (i := 17) rfl)
theorem wd_162 : Cond.code yX4_worth cX4_worth 3 (some .int) ∈ wsL_law := wlm_6 _ (List.mem_of_getElem? (i := 18) rfl)
theorem wd_163 : Cond.selects RX7 ⟨"BittenStick$Text", "worth", "(II)I"⟩ yX7_worth ∈ wsL_law := wlm_6 _ (List.mem_of_getElem? (i := 19) rfl)
theorem wd_164 : Cond.instanceMethod yX7_worth ∈ wsL_law := wlm_6 _ (List.mem_of_getElem? (i := 20) rfl)
theorem wd_165 : Cond.code yX7_worth cX7_worth 3 (some .int) ∈ wsL_law := wlm_6 _ (List.mem_of_getElem? (i := 21) rfl)
theorem wd_166 : Cond.methodLink RX7 9 yX7_kind ∈ wsL_law := wlm_6 _ (List.mem_of_getElem? (i := 22) rfl)
theorem wd_167 : Cond.static yX7_kind ∈ wsL_law := wlm_6 _ (List.mem_of_getElem? (i := 23) rfl)
theorem wlm_7 : ∀ w ∈ wsL_law_r8, w ∈ wsL_law := fun _ h => List.mem_append_left _ (List.mem_append_left _ (List.mem_append_left _ (List.mem_append_left _ (List.mem_append_left _ (List.mem_append_left _ (List.mem_append_left _ (List.mem_append_left _ (List.mem_append_left _ (List.mem_append_left _ (List.mem_append_left _ (List.mem_append_left _ (List.mem_append_left _ (List.mem_append_right _ (List.mem_append_right _ (List.mem_append_right _ (List.mem_append_right _ (List.mem_append_right _ (List.mem_append_right _ (List.mem_append_right _ (List.mem_append_left _ h))))))))))))))))))))
theorem wd_168 : Cond.code yX7_kind cX7_kind 1 (some .int) ∈ wsL_law := wlm_7 _ (List.mem_of_getElem? (i := 0) rfl)
theorem wd_169 : Cond.methodLink RX9 31 ⟨"BittenStick$Text", "readAgain", "()V"⟩ ∈ wsL_law := wlm_7 _ (List.mem_of_getElem? (i := 1) rfl)
theorem wd_170 : Cond.sameMethod "BittenStick$Text" "BittenStick$Text" "readAgain" "()V" ∈ wsL_law := wlm_7 _ (List.mem_of_getElem? (i := 2) rfl)
theorem wd_171 : Cond.selects RX2 ⟨"BittenStick$Text", "readAgain", "()V"⟩ yX9_readAgain ∈ wsL_law := wlm_7 _ (List.mem_of_getElem? (i := 3) rfl)
theorem wd_172 : Cond.instanceMethod yX9_readAgain ∈ wsL_law := wlm_7 _ (List.mem_of_getElem? (i := 4) rfl)
theorem wd_173 : Cond.code yX9_readAgain cX9_readAgain 2 none ∈ wsL_law := wlm_7 _ (List.mem_of_getElem? (i := 5) rfl)
theorem wd_174 : Cond.fieldLink RX9 37 "BittenStick$Text" "number" "I" ∈ wsL_law := wlm_7 _ (List.mem_of_getElem? (i := 6) rfl)
theorem wd_175 : Cond.methodLink RX9 40 ⟨"BittenStick$Text", "valueAt", "(I)I"⟩ ∈ wsL_law := wlm_7 _ (List.mem_of_getElem? (i := 7) rfl)
theorem wd_176 : Cond.sameMethod "BittenStick$Text" "BittenStick$Text" "valueAt" "(I)I" ∈ wsL_law := wlm_7 _ (List.mem_of_getElem? (i := 8) rfl)
theorem wd_177 : Cond.selects RX2 ⟨"BittenStick$Text", "valueAt", "(I)I"⟩ yX9_valueAt ∈ wsL_law := wlm_7 _ (List.mem_of_getElem? (i := 9) rfl)
theorem wd_178 : Cond.instanceMethod yX9_valueAt ∈ wsL_law := wlm_7 _ (List.mem_of_getElem? (i := 10) rfl)
theorem wd_179 : Cond.code yX9_valueAt cX9_valueAt 2 (some .int) ∈ wsL_law := wlm_7 _ (List.mem_of_getElem? (i := 11) rfl)
theorem wd_180 : Cond.selects RX4 ⟨"BittenStick$Text", "valueAt", "(I)I"⟩ yX9_valueAt ∈ wsL_law := wlm_7 _ (List.mem_of_getElem? (i := 12) rfl)
theorem wd_181 : Cond.selects RX7 ⟨"BittenStick$Text", "valueAt", "(I)I"⟩ yX9_valueAt ∈ wsL_law := wlm_7 _ (List.mem_of_getElem? (i := 13) rfl)
theorem wd_182 : Cond.methodLink RX9 44 ⟨"BittenStick$Text", "thingsIn", "(I)I"⟩ ∈ wsL_law := wlm_7 _ (List.mem_of_getElem? (i := 14) rfl)
theorem wd_183 : Cond.sameMethod "BittenStick$Text" "BittenStick$Text" "thingsIn" "(I)I" ∈ wsL_law := wlm_7 _ (List.mem_of_getElem? (i := 15) rfl)
theorem wd_184 : Cond.selects RX2 ⟨"BittenStick$Text", "thingsIn", "(I)I"⟩ yX2_thingsIn ∈ wsL_law := wlm_7 _ (List.mem_of_getElem? (i := 16) rfl)
theorem wd_185 : Cond.instanceMethod yX2_thingsIn ∈ wsL_law := wlm_7 _ (List.mem_of_getElem? (i := 17) rfl)
theorem wd_186 : Cond.code yX2_thingsIn cX2_thingsIn 2 (some .int) ∈ wsL_law := wlm_7 _ (List.mem_of_getElem? (i := 18) rfl)
theorem wd_187 : Cond.selects RX4 ⟨"BittenStick$Text", "thingsIn", "(I)I"⟩ yX4_thingsIn ∈ wsL_law := wlm_7 _ (List.mem_of_getElem? (i := 19) rfl)
theorem wd_188 : Cond.instanceMethod yX4_thingsIn ∈ wsL_law := wlm_7 _ (List.mem_of_getElem? (i := 20) rfl)
theorem wd_189 : Cond.code yX4_thingsIn cX4_thingsIn 2 (some .int) ∈ wsL_law := wlm_7 _ (List.mem_of_getElem? (i := 21) rfl)
theorem wd_190 : Cond.selects RX7 ⟨"BittenStick$Text", "thingsIn", "(I)I"⟩ yX7_thingsIn ∈ wsL_law := wlm_7 _ (List.mem_of_getElem? (i := 22) rfl)
theorem wd_191 : Cond.instanceMethod yX7_thingsIn ∈ wsL_law := wlm_7 _ (List.mem_of_getElem? (i := 23) rfl)
theorem wlm_8 : ∀ w ∈ wsL_law_r9, w ∈ wsL_law := fun _ h => List.mem_append_left _ (List.mem_append_left _ (List.mem_append_left _ (List.mem_append_left _ (List.mem_append_left _ (List.mem_append_left _ (List.mem_append_left _ (List.mem_append_left _ (List.mem_append_left _ (List.mem_append_left _ (List.mem_append_left _ (List.mem_append_left _ (List.mem_append_left _ (List.mem_append_right _ (List.mem_append_right _ (List.mem_append_right _ (List.mem_append_right _ (List.mem_append_right _ (List.mem_append_right _ (List.mem_append_right _ (List.mem_append_right _ (List.mem_append_left _ h)))))))))))))))))))))
theorem wd_192 : Cond.code yX7_thingsIn cX7_thingsIn 2 (some .int) ∈ wsL_law := wlm_8 _ (List.mem_of_getElem? (i := 0) rfl)
theorem wd_193 : Cond.selects RX4 ⟨"BittenStick$Text", "readAgain", "()V"⟩ yX9_readAgain ∈ wsL_law := wlm_8 _ (List.mem_of_getElem? (i := 1) rfl)
theorem wd_194 : Cond.selects RX7 ⟨"BittenStick$Text", "readAgain", "()V"⟩ yX9_readAgain ∈ wsL_law := wlm_8 _ (List.mem_of_getElem? (i := 2) rfl)
theorem wd_195 : Cond.selects RX4 ⟨"BittenStick$Text", "append", "(I)V"⟩ yX9_append ∈ wsL_law := wlm_8 _ (List.mem_of_getElem? (i := 3) rfl)
theorem wd_196 : Cond.selects RX7 ⟨"BittenStick$Text", "append", "(I)V"⟩ yX9_append ∈ wsL_law := wlm_8 _ (List.mem_of_getElem? (i := 4) rfl)
theorem wd_197 : Cond.methodLink RL 17 yX12_type ∈ wsL_law := wlm_8 _ (List.mem_of_getElem? (i := 5) rfl)
theorem wd_198 : Cond.instanceMethod yX12_type ∈ wsL_law := wlm_8 _ (List.mem_of_getElem? (i := 6) rfl)
theorem wd_199 : Cond.selects RX12 yX12_type yX12_type ∈ wsL_law := wlm_8 _ (List.mem_of_getElem? (i := 7) rfl)
theorem wd_200 : Cond.code yX12_type cX12_type 3 (some .int) ∈ wsL_law := wlm_8 _ (List.mem_of_getElem? (i := 8) rfl)
theorem wd_201 : Cond.constantLong RX12 96 (255) ∈ wsL_law := wlm_8 _ (List.mem_of_getElem? (i := 9) rfl)
theorem wd_202 : Cond.methodLink RX12 93 yX12_isText ∈ wsL_law := wlm_8 _ (List.mem_of_getElem? (i := 10) rfl)
theorem wd_203 : Cond.static yX12_isText ∈ wsL_law := wlm_8 _ (List.mem_of_getElem? (i := 11) rfl)
theorem wd_204 : Cond.code yX12_isText cX12_isText 1 (some .boolean) ∈ wsL_law := wlm_8 _ (List.mem_of_getElem? (i := 12) rfl)
theorem wd_205 : Cond.constantLong RX12 78 (2) ∈ wsL_law := wlm_8 _ (List.mem_of_getElem? (i := 13) rfl)
theorem wd_206 : Cond.methodLink RX12 65 yX12_in ∈ wsL_law := wlm_8 _ (List.mem_of_getElem? (i := 14) rfl)
theorem wd_207 : Cond.static yX12_in ∈ wsL_law := wlm_8 _ (List.mem_of_getElem? (i := 15) rfl)
theorem wd_208 : Cond.code yX12_in cX12_in 6 (some .boolean) ∈ wsL_law := wlm_8 _ (List.mem_of_getElem? (i := 16) rfl)
theorem wd_209 : Cond.methodLink RL 18 yX11_wipe ∈ wsL_law := wlm_8 _ (List.mem_of_getElem? (i := 17) rfl)
theorem wd_210 : Cond.instanceMethod yX11_wipe ∈ wsL_law := wlm_8 _ (List.mem_of_getElem? (i := 18) rfl)
theorem wd_211 : Cond.selects RX11 yX11_wipe yX11_wipe ∈ wsL_law := wlm_8 _ (List.mem_of_getElem? (i := 19) rfl)
theorem wd_212 : Cond.code yX11_wipe cX11_wipe 4 (some .int) ∈ wsL_law := wlm_8 _ (List.mem_of_getElem? (i := 20) rfl)
theorem wd_213 : Cond.methodLink RX11 102 ⟨"BittenStick$Text", "shorten", "(I)V"⟩ ∈ wsL_law := wlm_8 _ (List.mem_of_getElem? (i := 21) rfl)
theorem wd_214 : Cond.sameMethod "BittenStick$Text" "BittenStick$Text" "shorten" "(I)V" ∈ wsL_law := wlm_8 _ (List.mem_of_getElem? (i := 22) rfl)
theorem wd_215 : Cond.selects RX2 ⟨"BittenStick$Text", "shorten", "(I)V"⟩ yX9_shorten ∈ wsL_law := wlm_8 _ (List.mem_of_getElem? (i := 23) rfl)
theorem wlm_9 : ∀ w ∈ wsL_law_r10, w ∈ wsL_law := fun _ h => List.mem_append_left _ (List.mem_append_left _ (List.mem_append_left _ (List.mem_append_left _ (List.mem_append_left _ (List.mem_append_left _ (List.mem_append_left _ (List.mem_append_left _ (List.mem_append_left _ (List.mem_append_left _ (List.mem_append_left _ (List.mem_append_left _ (List.mem_append_left _ (List.mem_append_right _ (List.mem_append_right _ (List.mem_append_right _ (List.mem_append_right _ (List.mem_append_right _ (List.mem_append_right _ (List.mem_append_right _ (List.mem_append_right _ (List.mem_append_right _ (List.mem_append_left _ h))))))))))))))))))))))
theorem wd_216 : Cond.instanceMethod yX9_shorten ∈ wsL_law := wlm_9 _ (List.mem_of_getElem? (i := 0) rfl)
theorem wd_217 : Cond.code yX9_shorten cX9_shorten 2 none ∈ wsL_law := wlm_9 _ (List.mem_of_getElem? (i := 1) rfl)
theorem wd_218 : Cond.methodLink RX9 34 Lib.Math.min.name ∈ wsL_law := wlm_9 _ (List.mem_of_getElem? (i := 2) rfl)
theorem wd_219 : Cond.static Lib.Math.min.name ∈ wsL_law := wlm_9 _ (List.mem_of_getElem? (i := 3) rfl)
theorem wd_220 : Cond.code Lib.Math.min.name Lib.Math.min.code 2 (some .int) ∈ wsL_law := wlm_9 _ (List.mem_of_getElem? (i := 4) rfl)
theorem wd_221 : Cond.selects RX4 ⟨"BittenStick$Text", "shorten", "(I)V"⟩ yX9_shorten ∈ wsL_law := wlm_9 _ (List.mem_of_getElem? (i := 5) rfl)
theorem wd_222 : Cond.selects RX7 ⟨"BittenStick$Text", "shorten", "(I)V"⟩ yX9_shorten ∈ wsL_law := wlm_9 _ (List.mem_of_getElem? (i := 6) rfl)
theorem wd_223 : Cond.methodLink RL 22 yX12_wipe ∈ wsL_law := wlm_9 _ (List.mem_of_getElem? (i := 7) rfl)
theorem wd_224 : Cond.instanceMethod yX12_wipe ∈ wsL_law := wlm_9 _ (List.mem_of_getElem? (i := 8) rfl)
theorem wd_225 : Cond.selects RX12 yX12_wipe yX12_wipe ∈ wsL_law := wlm_9 _ (List.mem_of_getElem? (i := 9) rfl)
theorem wd_226 : Cond.code yX12_wipe cX12_wipe 3 (some .int) ∈ wsL_law := wlm_9 _ (List.mem_of_getElem? (i := 10) rfl)
theorem wd_227 : Cond.methodLink RL 23 yX11_undo ∈ wsL_law := wlm_9 _ (List.mem_of_getElem? (i := 11) rfl)
theorem wd_228 : Cond.instanceMethod yX11_undo ∈ wsL_law := wlm_9 _ (List.mem_of_getElem? (i := 12) rfl)
theorem wd_229 : Cond.selects RX11 yX11_undo yX11_undo ∈ wsL_law := wlm_9 _ (List.mem_of_getElem? (i := 13) rfl)
theorem wd_230 : Cond.code yX11_undo cX11_undo 3 (some .int) ∈ wsL_law := wlm_9 _ (List.mem_of_getElem? (i := 14) rfl)
theorem wd_231 : Cond.methodLink RL 26 yX12_undo ∈ wsL_law := wlm_9 _ (List.mem_of_getElem? (i := 15) rfl)
theorem wd_232 : Cond.instanceMethod yX12_undo ∈ wsL_law := wlm_9 _ (List.mem_of_getElem? (i := 16) rfl)
theorem wd_233 : Cond.selects RX12 yX12_undo yX12_undo ∈ wsL_law := wlm_9 _ (List.mem_of_getElem? (i := 17) rfl)
theorem wd_234 : Cond.code yX12_undo cX12_undo 2 (some .int) ∈ wsL_law := wlm_9 _ (List.mem_of_getElem? (i := 18) rfl)
theorem wd_235 : Cond.methodLink RL 27 yX11_fault ∈ wsL_law := wlm_9 _ (List.mem_of_getElem? (i := 19) rfl)
theorem wd_236 : Cond.instanceMethod yX11_fault ∈ wsL_law := wlm_9 _ (List.mem_of_getElem? (i := 20) rfl)
theorem wd_237 : Cond.selects RX11 yX11_fault yX11_fault ∈ wsL_law := wlm_9 _ (List.mem_of_getElem? (i := 21) rfl)
theorem wd_238 : Cond.code yX11_fault cX11_fault 3 (some .int) ∈ wsL_law := wlm_9 _ (List.mem_of_getElem? (i := 22) rfl)
theorem wd_239 : Cond.fieldLink RX11 105 "BittenStick$Text" "faultAt" "I" ∈ wsL_law := wlm_9 _ (List.mem_of_getElem? (i := 23) rfl)
theorem wlm_10 : ∀ w ∈ wsL_law_r11, w ∈ wsL_law := fun _ h => List.mem_append_left _ (List.mem_append_left _ (List.mem_append_left _ (List.mem_append_left _ (List.mem_append_left _ (List.mem_append_left _ (List.mem_append_left _ (List.mem_append_left _ (List.mem_append_left _ (List.mem_append_left _ (List.mem_append_left _ (List.mem_append_left _ (List.mem_append_left _ (List.mem_append_right _ (List.mem_append_right _ (List.mem_append_right _ (List.mem_append_right _ (List.mem_append_right _ (List.mem_append_right _ (List.mem_append_right _ (List.mem_append_right _ (List.mem_append_right _ (List.mem_append_right _ (List.mem_append_left _ h)))))))))))))))))))))))
theorem wd_240 : Cond.methodLink RL 30 yX12_fault ∈ wsL_law := wlm_10 _ (List.mem_of_getElem? (i := 0) rfl)
theorem wd_241 : Cond.instanceMethod yX12_fault ∈ wsL_law := wlm_10 _ (List.mem_of_getElem? (i := 1) rfl)
theorem wd_242 : Cond.selects RX12 yX12_fault yX12_fault ∈ wsL_law := wlm_10 _ (List.mem_of_getElem? (i := 2) rfl)
theorem wd_243 : Cond.code yX12_fault cX12_fault 2 (some .int) ∈ wsL_law := wlm_10 _ (List.mem_of_getElem? (i := 3) rfl)
theorem wd_244 : Cond.methodLink RX12 138 yX12_readsText ∈ wsL_law := wlm_10 _ (List.mem_of_getElem? (i := 4) rfl)
theorem wd_245 : Cond.instanceMethod yX12_readsText ∈ wsL_law := wlm_10 _ (List.mem_of_getElem? (i := 5) rfl)
theorem wd_246 : Cond.selects RX12 yX12_readsText yX12_readsText ∈ wsL_law := wlm_10 _ (List.mem_of_getElem? (i := 6) rfl)
theorem wd_247 : Cond.code yX12_readsText cX12_readsText 2 (some .int) ∈ wsL_law := wlm_10 _ (List.mem_of_getElem? (i := 7) rfl)
theorem wd_248 : Cond.methodLink RX12 128 yX12_readsLand ∈ wsL_law := wlm_10 _ (List.mem_of_getElem? (i := 8) rfl)
theorem wd_249 : Cond.instanceMethod yX12_readsLand ∈ wsL_law := wlm_10 _ (List.mem_of_getElem? (i := 9) rfl)
theorem wd_250 : Cond.selects RX12 yX12_readsLand yX12_readsLand ∈ wsL_law := wlm_10 _ (List.mem_of_getElem? (i := 10) rfl)
theorem wd_251 : Cond.code yX12_readsLand cX12_readsLand 3 (some .int) ∈ wsL_law := wlm_10 _ (List.mem_of_getElem? (i := 11) rfl)
theorem wd_252 : Cond.fieldLink RX12 107 "BittenStickModel" "miles" "I" ∈ wsL_law := wlm_10 _ (List.mem_of_getElem? (i := 12) rfl)
theorem wd_261 : Cond.methodLink RX12 132 yX12_readsPassengers ∈ wsL_law := wlm_10 _ (List.mem_of_getElem? (i := 21) rfl)
theorem wd_262 : Cond.instanceMethod yX12_readsPassengers ∈ wsL_law := wlm_10 _ (List.mem_of_getElem? (i := 22) rfl)
theorem wd_263 : Cond.selects RX12 yX12_readsPassengers yX12_readsPassengers ∈ wsL_law := wlm_10 _ (List.mem_of_getElem? (i := 23) rfl)
theorem wlm_11 : ∀ w ∈ wsL_law_r12, w ∈ wsL_law := fun _ h => List.mem_append_left _ (List.mem_append_left _ (List.mem_append_left _ (List.mem_append_left _ (List.mem_append_left _ (List.mem_append_left _ (List.mem_append_left _ (List.mem_append_left _ (List.mem_append_left _ (List.mem_append_left _ (List.mem_append_left _ (List.mem_append_left _ (List.mem_append_left _ (List.mem_append_right _ (List.mem_append_right _ (List.mem_append_right _ (List.mem_append_right _ (List.mem_append_right _ (List.mem_append_right _ (List.mem_append_right _ (List.mem_append_right _ (List.mem_append_right _ (List.mem_append_right _ (List.mem_append_right _ (List.mem_append_left _ h))))))))))))))))))))))))
theorem wd_264 : Cond.code yX12_readsPassengers cX12_readsPassengers 5 (some .int) ∈ wsL_law := wlm_11 _ (List.mem_of_getElem? (i := 0) rfl)
theorem wd_265 : Cond.fieldLink RX12 116 "BittenStickModel" "passengers" "I" ∈ wsL_law := wlm_11 _ (List.mem_of_getElem? (i := 1) rfl)
theorem wd_273 : Cond.methodLink RX12 135 yX12_readsGeese ∈ wsL_law := wlm_11 _ (List.mem_of_getElem? (i := 9) rfl)
theorem wd_274 : Cond.instanceMethod yX12_readsGeese ∈ wsL_law := wlm_11 _ (List.mem_of_getElem? (i := 10) rfl)
theorem wd_275 : Cond.selects RX12 yX12_readsGeese yX12_readsGeese ∈ wsL_law := wlm_11 _ (List.mem_of_getElem? (i := 11) rfl)
theorem wd_276 : Cond.code yX12_readsGeese cX12_readsGeese 5 (some .int) ∈ wsL_law := wlm_11 _ (List.mem_of_getElem? (i := 12) rfl)
theorem wd_277 : Cond.fieldLink RX12 122 "BittenStickModel" "geese" "I" ∈ wsL_law := wlm_11 _ (List.mem_of_getElem? (i := 13) rfl)
theorem wd_281 : Cond.methodLink RL 31 yX11_mile ∈ wsL_law := wlm_11 _ (List.mem_of_getElem? (i := 17) rfl)
theorem wd_282 : Cond.instanceMethod yX11_mile ∈ wsL_law := wlm_11 _ (List.mem_of_getElem? (i := 18) rfl)
theorem wd_283 : Cond.selects RX11 yX11_mile yX11_mile ∈ wsL_law := wlm_11 _ (List.mem_of_getElem? (i := 19) rfl)
theorem wd_284 : Cond.code yX11_mile cX11_mile 2 (some .int) ∈ wsL_law := wlm_11 _ (List.mem_of_getElem? (i := 20) rfl)
theorem wd_285 : Cond.fieldLink RX11 108 "BittenStick$Land" "number" "I" ∈ wsL_law := wlm_11 _ (List.mem_of_getElem? (i := 21) rfl)
theorem wd_286 : Cond.sameField "BittenStick$Land" "BittenStick$Text" "number" "I" ∈ wsL_law := wlm_11 _ (List.mem_of_getElem? (i := 22) rfl)
theorem wlm_12 : ∀ w ∈ wsL_law_r13, w ∈ wsL_law := fun _ h => List.mem_append_left _ (List.mem_append_left _ (List.mem_append_left _ (List.mem_append_left _ (List.mem_append_left _ (List.mem_append_left _ (List.mem_append_left _ (List.mem_append_left _ (List.mem_append_left _ (List.mem_append_left _ (List.mem_append_left _ (List.mem_append_left _ (List.mem_append_left _ (List.mem_append_right _ (List.mem_append_right _ (List.mem_append_right _ (List.mem_append_right _ (List.mem_append_right _ (List.mem_append_right _ (List.mem_append_right _ (List.mem_append_right _ (List.mem_append_right _ (List.mem_append_right _ (List.mem_append_right _ (List.mem_append_right _ (List.mem_append_left _ h)))))))))))))))))))))))))
theorem wd_290 : Cond.methodLink RL 34 yX12_mile ∈ wsL_law := wlm_12 _ (List.mem_of_getElem? (i := 2) rfl)
theorem wd_291 : Cond.instanceMethod yX12_mile ∈ wsL_law := wlm_12 _ (List.mem_of_getElem? (i := 3) rfl)
theorem wd_292 : Cond.selects RX12 yX12_mile yX12_mile ∈ wsL_law := wlm_12 _ (List.mem_of_getElem? (i := 4) rfl)
theorem wd_293 : Cond.code yX12_mile cX12_mile 2 (some .int) ∈ wsL_law := wlm_12 _ (List.mem_of_getElem? (i := 5) rfl)
theorem wd_294 : Cond.constantLong RX12 144 (23) ∈ wsL_law := wlm_12 _ (List.mem_of_getElem? (i := 6) rfl)
theorem wd_295 : Cond.methodLink RX12 141 yX12_reads ∈ wsL_law := wlm_12 _ (List.mem_of_getElem? (i := 7) rfl)
theorem wd_296 : Cond.instanceMethod yX12_reads ∈ wsL_law := wlm_12 _ (List.mem_of_getElem? (i := 8) rfl)
theorem wd_297 : Cond.selects RX12 yX12_reads yX12_reads ∈ wsL_law := wlm_12 _ (List.mem_of_getElem? (i := 9) rfl)
theorem wd_298 : Cond.code yX12_reads cX12_reads 1 none ∈ wsL_law := wlm_12 _ (List.mem_of_getElem? (i := 10) rfl)
theorem wd_299 : Cond.methodLink RL 35 yX11_passenger ∈ wsL_law := wlm_12 _ (List.mem_of_getElem? (i := 11) rfl)
theorem wd_300 : Cond.instanceMethod yX11_passenger ∈ wsL_law := wlm_12 _ (List.mem_of_getElem? (i := 12) rfl)
theorem wd_301 : Cond.selects RX11 yX11_passenger yX11_passenger ∈ wsL_law := wlm_12 _ (List.mem_of_getElem? (i := 13) rfl)
theorem wd_302 : Cond.code yX11_passenger cX11_passenger 3 (some .int) ∈ wsL_law := wlm_12 _ (List.mem_of_getElem? (i := 14) rfl)
theorem wd_303 : Cond.methodLink RX11 115 ⟨"BittenStick$Passengers", "has", "(I)Z"⟩ ∈ wsL_law := wlm_12 _ (List.mem_of_getElem? (i := 15) rfl)
theorem wd_304 : Cond.sameMethod "BittenStick$Passengers" "BittenStick$Text" "has" "(I)Z" ∈ wsL_law := wlm_12 _ (List.mem_of_getElem? (i := 16) rfl)
theorem wd_305 : Cond.selects RX7 ⟨"BittenStick$Passengers", "has", "(I)Z"⟩ yX9_has ∈ wsL_law := wlm_12 _ (List.mem_of_getElem? (i := 17) rfl)
theorem wd_306 : Cond.instanceMethod yX9_has ∈ wsL_law := wlm_12 _ (List.mem_of_getElem? (i := 18) rfl)
theorem wd_307 : Cond.code yX9_has cX9_has 2 (some .boolean) ∈ wsL_law := wlm_12 _ (List.mem_of_getElem? (i := 19) rfl)
theorem wlm_13 : ∀ w ∈ wsL_law_r14, w ∈ wsL_law := fun _ h => List.mem_append_left _ (List.mem_append_left _ (List.mem_append_left _ (List.mem_append_left _ (List.mem_append_left _ (List.mem_append_left _ (List.mem_append_left _ (List.mem_append_left _ (List.mem_append_left _ (List.mem_append_left _ (List.mem_append_left _ (List.mem_append_left _ (List.mem_append_left _ (List.mem_append_right _ (List.mem_append_right _ (List.mem_append_right _ (List.mem_append_right _ (List.mem_append_right _ (List.mem_append_right _ (List.mem_append_right _ (List.mem_append_right _ (List.mem_append_right _ (List.mem_append_right _ (List.mem_append_right _ (List.mem_append_right _ (List.mem_append_right _ (List.mem_append_left _ h))))))))))))))))))))))))))
theorem wd_315 : Cond.methodLink RL 38 yX12_passenger ∈ wsL_law := wlm_13 _ (List.mem_of_getElem? (i := 3) rfl)
theorem wd_316 : Cond.instanceMethod yX12_passenger ∈ wsL_law := wlm_13 _ (List.mem_of_getElem? (i := 4) rfl)
theorem wd_317 : Cond.selects RX12 yX12_passenger yX12_passenger ∈ wsL_law := wlm_13 _ (List.mem_of_getElem? (i := 5) rfl)
theorem wd_318 : Cond.code yX12_passenger cX12_passenger 3 (some .int) ∈ wsL_law := wlm_13 _ (List.mem_of_getElem? (i := 6) rfl)
theorem wd_319 : Cond.constantLong RX12 72 (3) ∈ wsL_law := wlm_13 _ (List.mem_of_getElem? (i := 7) rfl)
theorem wd_320 : Cond.methodLink RX12 146 yX12_isPassenger ∈ wsL_law := wlm_13 _ (List.mem_of_getElem? (i := 8) rfl)
theorem wd_321 : Cond.instanceMethod yX12_isPassenger ∈ wsL_law := wlm_13 _ (List.mem_of_getElem? (i := 9) rfl)
theorem wd_322 : Cond.selects RX12 yX12_isPassenger yX12_isPassenger ∈ wsL_law := wlm_13 _ (List.mem_of_getElem? (i := 10) rfl)
theorem wd_323 : Cond.code yX12_isPassenger cX12_isPassenger 2 (some .boolean) ∈ wsL_law := wlm_13 _ (List.mem_of_getElem? (i := 11) rfl)
theorem wd_324 : Cond.methodLink RL 39 yX11_goose ∈ wsL_law := wlm_13 _ (List.mem_of_getElem? (i := 12) rfl)
theorem wd_325 : Cond.instanceMethod yX11_goose ∈ wsL_law := wlm_13 _ (List.mem_of_getElem? (i := 13) rfl)
theorem wd_326 : Cond.selects RX11 yX11_goose yX11_goose ∈ wsL_law := wlm_13 _ (List.mem_of_getElem? (i := 14) rfl)
theorem wd_327 : Cond.code yX11_goose cX11_goose 3 (some .int) ∈ wsL_law := wlm_13 _ (List.mem_of_getElem? (i := 15) rfl)
theorem wd_328 : Cond.methodLink RX11 123 ⟨"BittenStick$Geese", "has", "(I)Z"⟩ ∈ wsL_law := wlm_13 _ (List.mem_of_getElem? (i := 16) rfl)
theorem wd_329 : Cond.sameMethod "BittenStick$Geese" "BittenStick$Text" "has" "(I)Z" ∈ wsL_law := wlm_13 _ (List.mem_of_getElem? (i := 17) rfl)
theorem wd_330 : Cond.selects RX2 ⟨"BittenStick$Geese", "has", "(I)Z"⟩ yX9_has ∈ wsL_law := wlm_13 _ (List.mem_of_getElem? (i := 18) rfl)
theorem wlm_14 : ∀ w ∈ wsL_law_r15, w ∈ wsL_law := fun _ h => List.mem_append_left _ (List.mem_append_left _ (List.mem_append_left _ (List.mem_append_left _ (List.mem_append_left _ (List.mem_append_left _ (List.mem_append_left _ (List.mem_append_left _ (List.mem_append_left _ (List.mem_append_left _ (List.mem_append_left _ (List.mem_append_left _ (List.mem_append_left _ (List.mem_append_right _ (List.mem_append_right _ (List.mem_append_right _ (List.mem_append_right _ (List.mem_append_right _ (List.mem_append_right _ (List.mem_append_right _ (List.mem_append_right _ (List.mem_append_right _ (List.mem_append_right _ (List.mem_append_right _ (List.mem_append_right _ (List.mem_append_right _ (List.mem_append_right _ (List.mem_append_left _ h)))))))))))))))))))))))))))
theorem wd_338 : Cond.methodLink RL 42 yX12_goose ∈ wsL_law := wlm_14 _ (List.mem_of_getElem? (i := 2) rfl)
theorem wd_339 : Cond.instanceMethod yX12_goose ∈ wsL_law := wlm_14 _ (List.mem_of_getElem? (i := 3) rfl)
theorem wd_340 : Cond.selects RX12 yX12_goose yX12_goose ∈ wsL_law := wlm_14 _ (List.mem_of_getElem? (i := 4) rfl)
theorem wd_341 : Cond.code yX12_goose cX12_goose 3 (some .int) ∈ wsL_law := wlm_14 _ (List.mem_of_getElem? (i := 5) rfl)
theorem wd_342 : Cond.methodLink RX12 149 yX12_isGoose ∈ wsL_law := wlm_14 _ (List.mem_of_getElem? (i := 6) rfl)
theorem wd_343 : Cond.instanceMethod yX12_isGoose ∈ wsL_law := wlm_14 _ (List.mem_of_getElem? (i := 7) rfl)
theorem wd_344 : Cond.selects RX12 yX12_isGoose yX12_isGoose ∈ wsL_law := wlm_14 _ (List.mem_of_getElem? (i := 8) rfl)
theorem wd_345 : Cond.code yX12_isGoose cX12_isGoose 2 (some .boolean) ∈ wsL_law := wlm_14 _ (List.mem_of_getElem? (i := 9) rfl)
theorem wd_346 : Cond.methodLink RX12 152 yX12_isTwo ∈ wsL_law := wlm_14 _ (List.mem_of_getElem? (i := 10) rfl)
theorem wd_347 : Cond.static yX12_isTwo ∈ wsL_law := wlm_14 _ (List.mem_of_getElem? (i := 11) rfl)
theorem wd_348 : Cond.code yX12_isTwo cX12_isTwo 1 (some .boolean) ∈ wsL_law := wlm_14 _ (List.mem_of_getElem? (i := 12) rfl)
theorem wd_349 : Cond.methodLink RL 43 yX11_flight ∈ wsL_law := wlm_14 _ (List.mem_of_getElem? (i := 13) rfl)
theorem wd_350 : Cond.instanceMethod yX11_flight ∈ wsL_law := wlm_14 _ (List.mem_of_getElem? (i := 14) rfl)
theorem wd_351 : Cond.selects RX11 yX11_flight yX11_flight ∈ wsL_law := wlm_14 _ (List.mem_of_getElem? (i := 15) rfl)
theorem wd_352 : Cond.code yX11_flight cX11_flight 5 (some .int) ∈ wsL_law := wlm_14 _ (List.mem_of_getElem? (i := 16) rfl)
theorem wd_353 : Cond.methodLink RX11 125 yX1_append ∈ wsL_law := wlm_14 _ (List.mem_of_getElem? (i := 17) rfl)
theorem wd_354 : Cond.instanceMethod yX1_append ∈ wsL_law := wlm_14 _ (List.mem_of_getElem? (i := 18) rfl)
theorem wd_355 : Cond.selects RX1 yX1_append yX1_append ∈ wsL_law := wlm_14 _ (List.mem_of_getElem? (i := 19) rfl)
theorem wd_356 : Cond.code yX1_append cX1_append 5 (some .int) ∈ wsL_law := wlm_14 _ (List.mem_of_getElem? (i := 20) rfl)
theorem wd_357 : Cond.fieldLink RX1 15 "BittenStick$Flights" "number" "I" ∈ wsL_law := wlm_14 _ (List.mem_of_getElem? (i := 21) rfl)
theorem wd_358 : Cond.methodLink RL 47 yX12_flight ∈ wsL_law := wlm_14 _ (List.mem_of_getElem? (i := 22) rfl)
theorem wd_359 : Cond.instanceMethod yX12_flight ∈ wsL_law := wlm_14 _ (List.mem_of_getElem? (i := 23) rfl)
theorem wlm_15 : ∀ w ∈ wsL_law_r16, w ∈ wsL_law := fun _ h => List.mem_append_left _ (List.mem_append_left _ (List.mem_append_left _ (List.mem_append_left _ (List.mem_append_left _ (List.mem_append_left _ (List.mem_append_left _ (List.mem_append_left _ (List.mem_append_left _ (List.mem_append_left _ (List.mem_append_left _ (List.mem_append_left _ (List.mem_append_left _ (List.mem_append_right _ (List.mem_append_right _ (List.mem_append_right _ (List.mem_append_right _ (List.mem_append_right _ (List.mem_append_right _ (List.mem_append_right _ (List.mem_append_right _ (List.mem_append_right _ (List.mem_append_right _ (List.mem_append_right _ (List.mem_append_right _ (List.mem_append_right _ (List.mem_append_right _ (List.mem_append_right _ (List.mem_append_left _ h))))))))))))))))))))))))))))
theorem wd_360 : Cond.selects RX12 yX12_flight yX12_flight ∈ wsL_law := wlm_15 _ (List.mem_of_getElem? (i := 0) rfl)
theorem wd_361 : Cond.code yX12_flight cX12_flight 5 (some .int) ∈ wsL_law := wlm_15 _ (List.mem_of_getElem? (i := 1) rfl)
theorem wd_362 : Cond.constantLong RX12 155 (7) ∈ wsL_law := wlm_15 _ (List.mem_of_getElem? (i := 2) rfl)
theorem wd_363 : Cond.constantLong RX12 157 (9) ∈ wsL_law := wlm_15 _ (List.mem_of_getElem? (i := 3) rfl)
theorem wd_364 : Cond.fieldLink RX12 159 "BittenStickModel" "flights" "I" ∈ wsL_law := wlm_15 _ (List.mem_of_getElem? (i := 4) rfl)
theorem wd_365 : Cond.methodLink RL 48 yX11_back ∈ wsL_law := wlm_15 _ (List.mem_of_getElem? (i := 5) rfl)
theorem wd_366 : Cond.instanceMethod yX11_back ∈ wsL_law := wlm_15 _ (List.mem_of_getElem? (i := 6) rfl)
theorem wd_367 : Cond.selects RX11 yX11_back yX11_back ∈ wsL_law := wlm_15 _ (List.mem_of_getElem? (i := 7) rfl)
theorem wd_368 : Cond.code yX11_back cX11_back 1 (some .int) ∈ wsL_law := wlm_15 _ (List.mem_of_getElem? (i := 8) rfl)
theorem wd_369 : Cond.fieldLink RX11 128 "BittenStick$Flights" "number" "I" ∈ wsL_law := wlm_15 _ (List.mem_of_getElem? (i := 9) rfl)
theorem wd_370 : Cond.methodLink RL 52 yX12_back ∈ wsL_law := wlm_15 _ (List.mem_of_getElem? (i := 10) rfl)
theorem wd_371 : Cond.instanceMethod yX12_back ∈ wsL_law := wlm_15 _ (List.mem_of_getElem? (i := 11) rfl)
theorem wd_372 : Cond.selects RX12 yX12_back yX12_back ∈ wsL_law := wlm_15 _ (List.mem_of_getElem? (i := 12) rfl)
theorem wd_373 : Cond.code yX12_back cX12_back 1 (some .int) ∈ wsL_law := wlm_15 _ (List.mem_of_getElem? (i := 13) rfl)
theorem wd_374 : Cond.methodLink RL 53 yX11_read ∈ wsL_law := wlm_15 _ (List.mem_of_getElem? (i := 14) rfl)
theorem wd_375 : Cond.instanceMethod yX11_read ∈ wsL_law := wlm_15 _ (List.mem_of_getElem? (i := 15) rfl)
theorem wd_376 : Cond.selects RX11 yX11_read yX11_read ∈ wsL_law := wlm_15 _ (List.mem_of_getElem? (i := 16) rfl)
theorem wd_377 : Cond.code yX11_read cX11_read 6 (some .int) ∈ wsL_law := wlm_15 _ (List.mem_of_getElem? (i := 17) rfl)
theorem wd_378 : Cond.fieldLink RX11 133 "BittenStick$Sheet" "isLost" "Z" ∈ wsL_law := wlm_15 _ (List.mem_of_getElem? (i := 18) rfl)
theorem wd_380 : Cond.methodLink RX11 129 yX11_sheetOf ∈ wsL_law := wlm_15 _ (List.mem_of_getElem? (i := 20) rfl)
theorem wd_381 : Cond.instanceMethod yX11_sheetOf ∈ wsL_law := wlm_15 _ (List.mem_of_getElem? (i := 21) rfl)
theorem wd_382 : Cond.selects RX11 yX11_sheetOf yX11_sheetOf ∈ wsL_law := wlm_15 _ (List.mem_of_getElem? (i := 22) rfl)
theorem wd_383 : Cond.code yX11_sheetOf cX11_sheetOf 2 (some (.object "BittenStick$Sheet")) ∈ wsL_law := wlm_15 _ (List.mem_of_getElem? (i := 23) rfl)
theorem wlm_16 : ∀ w ∈ wsL_law_r17, w ∈ wsL_law := fun _ h => List.mem_append_left _ (List.mem_append_left _ (List.mem_append_left _ (List.mem_append_left _ (List.mem_append_left _ (List.mem_append_left _ (List.mem_append_left _ (List.mem_append_left _ (List.mem_append_left _ (List.mem_append_left _ (List.mem_append_left _ (List.mem_append_left _ (List.mem_append_left _ (List.mem_append_right _ (List.mem_append_right _ (List.mem_append_right _ (List.mem_append_right _ (List.mem_append_right _ (List.mem_append_right _ (List.mem_append_right _ (List.mem_append_right _ (List.mem_append_right _ (List.mem_append_right _ (List.mem_append_right _ (List.mem_append_right _ (List.mem_append_right _ (List.mem_append_right _ (List.mem_append_right _ (List.mem_append_right _ (List.mem_append_left _ h)))))))))))))))))))))))))))))
theorem wd_384 : Cond.methodLink RX11 137 yX11_found ∈ wsL_law := wlm_16 _ (List.mem_of_getElem? (i := 0) rfl)
theorem wd_385 : Cond.instanceMethod yX11_found ∈ wsL_law := wlm_16 _ (List.mem_of_getElem? (i := 1) rfl)
theorem wd_386 : Cond.selects RX11 yX11_found yX11_found ∈ wsL_law := wlm_16 _ (List.mem_of_getElem? (i := 2) rfl)
theorem wd_387 : Cond.code yX11_found cX11_found 2 (some .int) ∈ wsL_law := wlm_16 _ (List.mem_of_getElem? (i := 3) rfl)
theorem wd_388 : Cond.fieldLink RX11 269 "BittenStick" "finding" "I" ∈ wsL_law := wlm_16 _ (List.mem_of_getElem? (i := 4) rfl)
theorem wd_393 : Cond.fieldLink RX8 32 "BittenStick$Sheet" "size" "I" ∈ wsL_law := wlm_16 _ (List.mem_of_getElem? (i := 9) rfl)
theorem wd_394 : Cond.methodLink RL 56 yX12_read ∈ wsL_law := wlm_16 _ (List.mem_of_getElem? (i := 10) rfl)
theorem wd_395 : Cond.instanceMethod yX12_read ∈ wsL_law := wlm_16 _ (List.mem_of_getElem? (i := 11) rfl)
theorem wd_396 : Cond.selects RX12 yX12_read yX12_read ∈ wsL_law := wlm_16 _ (List.mem_of_getElem? (i := 12) rfl)
theorem wd_397 : Cond.code yX12_read cX12_read 5 (some .int) ∈ wsL_law := wlm_16 _ (List.mem_of_getElem? (i := 13) rfl)
theorem wd_398 : Cond.methodLink RX12 74 yX12_isSheet ∈ wsL_law := wlm_16 _ (List.mem_of_getElem? (i := 14) rfl)
theorem wd_399 : Cond.static yX12_isSheet ∈ wsL_law := wlm_16 _ (List.mem_of_getElem? (i := 15) rfl)
theorem wd_400 : Cond.code yX12_isSheet cX12_isSheet 1 (some .boolean) ∈ wsL_law := wlm_16 _ (List.mem_of_getElem? (i := 16) rfl)
theorem wd_401 : Cond.methodLink RX12 80 yX12_finds ∈ wsL_law := wlm_16 _ (List.mem_of_getElem? (i := 17) rfl)
theorem wd_402 : Cond.instanceMethod yX12_finds ∈ wsL_law := wlm_16 _ (List.mem_of_getElem? (i := 18) rfl)
theorem wd_403 : Cond.selects RX12 yX12_finds yX12_finds ∈ wsL_law := wlm_16 _ (List.mem_of_getElem? (i := 19) rfl)
theorem wd_404 : Cond.code yX12_finds cX12_finds 2 (some .int) ∈ wsL_law := wlm_16 _ (List.mem_of_getElem? (i := 20) rfl)
theorem wd_405 : Cond.fieldLink RX12 69 "BittenStickModel" "latest" "I" ∈ wsL_law := wlm_16 _ (List.mem_of_getElem? (i := 21) rfl)
theorem wd_407 : Cond.methodLink RL 57 yX11_learn ∈ wsL_law := wlm_16 _ (List.mem_of_getElem? (i := 23) rfl)
theorem wlm_17 : ∀ w ∈ wsL_law_r18, w ∈ wsL_law := fun _ h => List.mem_append_left _ (List.mem_append_left _ (List.mem_append_left _ (List.mem_append_left _ (List.mem_append_left _ (List.mem_append_left _ (List.mem_append_left _ (List.mem_append_left _ (List.mem_append_left _ (List.mem_append_left _ (List.mem_append_left _ (List.mem_append_left _ (List.mem_append_left _ (List.mem_append_right _ (List.mem_append_right _ (List.mem_append_right _ (List.mem_append_right _ (List.mem_append_right _ (List.mem_append_right _ (List.mem_append_right _ (List.mem_append_right _ (List.mem_append_right _ (List.mem_append_right _ (List.mem_append_right _ (List.mem_append_right _ (List.mem_append_right _ (List.mem_append_right _ (List.mem_append_right _ (List.mem_append_right _ (List.mem_append_right _ (List.mem_append_left _ h))))))))))))))))))))))))))))))
theorem wd_408 : Cond.instanceMethod yX11_learn ∈ wsL_law := wlm_17 _ (List.mem_of_getElem? (i := 0) rfl)
theorem wd_409 : Cond.selects RX11 yX11_learn yX11_learn ∈ wsL_law := wlm_17 _ (List.mem_of_getElem? (i := 1) rfl)
theorem wd_410 : Cond.code yX11_learn cX11_learn 3 (some .int) ∈ wsL_law := wlm_17 _ (List.mem_of_getElem? (i := 2) rfl)
theorem wd_411 : Cond.fieldLink RX11 146 "BittenStick" "learned" "I" ∈ wsL_law := wlm_17 _ (List.mem_of_getElem? (i := 3) rfl)
theorem wd_412 : Cond.methodLink RL 60 yX12_learn ∈ wsL_law := wlm_17 _ (List.mem_of_getElem? (i := 4) rfl)
theorem wd_413 : Cond.instanceMethod yX12_learn ∈ wsL_law := wlm_17 _ (List.mem_of_getElem? (i := 5) rfl)
theorem wd_414 : Cond.selects RX12 yX12_learn yX12_learn ∈ wsL_law := wlm_17 _ (List.mem_of_getElem? (i := 6) rfl)
theorem wd_415 : Cond.code yX12_learn cX12_learn 3 (some .int) ∈ wsL_law := wlm_17 _ (List.mem_of_getElem? (i := 7) rfl)
theorem wd_416 : Cond.constantLong RX12 165 (63) ∈ wsL_law := wlm_17 _ (List.mem_of_getElem? (i := 8) rfl)
theorem wd_417 : Cond.fieldLink RX12 167 "BittenStickModel" "learned" "I" ∈ wsL_law := wlm_17 _ (List.mem_of_getElem? (i := 9) rfl)
theorem wd_418 : Cond.methodLink RL 61 yX11_comes ∈ wsL_law := wlm_17 _ (List.mem_of_getElem? (i := 10) rfl)
theorem wd_419 : Cond.instanceMethod yX11_comes ∈ wsL_law := wlm_17 _ (List.mem_of_getElem? (i := 11) rfl)
theorem wd_420 : Cond.selects RX11 yX11_comes yX11_comes ∈ wsL_law := wlm_17 _ (List.mem_of_getElem? (i := 12) rfl)
theorem wd_421 : Cond.code yX11_comes cX11_comes 5 (some .int) ∈ wsL_law := wlm_17 _ (List.mem_of_getElem? (i := 13) rfl)
theorem wd_423 : Cond.methodLink RX11 149 yX1_has ∈ wsL_law := wlm_17 _ (List.mem_of_getElem? (i := 15) rfl)
theorem wd_424 : Cond.instanceMethod yX1_has ∈ wsL_law := wlm_17 _ (List.mem_of_getElem? (i := 16) rfl)
theorem wd_425 : Cond.selects RX1 yX1_has yX1_has ∈ wsL_law := wlm_17 _ (List.mem_of_getElem? (i := 17) rfl)
theorem wd_426 : Cond.code yX1_has cX1_has 2 (some .boolean) ∈ wsL_law := wlm_17 _ (List.mem_of_getElem? (i := 18) rfl)
theorem wlm_18 : ∀ w ∈ wsL_law_r19, w ∈ wsL_law := fun _ h => List.mem_append_left _ (List.mem_append_left _ (List.mem_append_left _ (List.mem_append_left _ (List.mem_append_left _ (List.mem_append_left _ (List.mem_append_left _ (List.mem_append_left _ (List.mem_append_left _ (List.mem_append_left _ (List.mem_append_left _ (List.mem_append_left _ (List.mem_append_left _ (List.mem_append_right _ (List.mem_append_right _ (List.mem_append_right _ (List.mem_append_right _ (List.mem_append_right _ (List.mem_append_right _ (List.mem_append_right _ (List.mem_append_right _ (List.mem_append_right _ (List.mem_append_right _ (List.mem_append_right _ (List.mem_append_right _ (List.mem_append_right _ (List.mem_append_right _ (List.mem_append_right _ (List.mem_append_right _ (List.mem_append_right _ (List.mem_append_right _ (List.mem_append_left _ h)))))))))))))))))))))))))))))))
theorem wlm_19 : ∀ w ∈ wsL_law_r20, w ∈ wsL_law := fun _ h => List.mem_append_left _ (List.mem_append_left _ (List.mem_append_left _ (List.mem_append_left _ (List.mem_append_left _ (List.mem_append_left _ (List.mem_append_left _ (List.mem_append_left _ (List.mem_append_left _ (List.mem_append_left _ (List.mem_append_left _ (List.mem_append_left _ (List.mem_append_left _ (List.mem_append_right _ (List.mem_append_right _ (List.mem_append_right _ (List.mem_append_right _ (List.mem_append_right _ (List.mem_append_right _ (List.mem_append_right _ (List.mem_append_right _ (List.mem_append_right _ (List.mem_append_right _ (List.mem_append_right _ (List.mem_append_right _ (List.mem_append_right _ (List.mem_append_right _ (List.mem_append_right _ (List.mem_append_right _ (List.mem_append_right _ (List.mem_append_right _ (List.mem_append_right _ (List.mem_append_left _ h))))))))))))))))))))))))))))))))
theorem wlm_20 : ∀ w ∈ wsL_law_r21, w ∈ wsL_law := fun _ h => List.mem_append_left _ (List.mem_append_left _ (List.mem_append_left _ (List.mem_append_left _ (List.mem_append_left _ (List.mem_append_left _ (List.mem_append_left _ (List.mem_append_left _ (List.mem_append_left _ (List.mem_append_left _ (List.mem_append_left _ (List.mem_append_left _ (List.mem_append_left _ (List.mem_append_right _ (List.mem_append_right _ (List.mem_append_right _ (List.mem_append_right _ (List.mem_append_right _ (List.mem_append_right _ (List.mem_append_right _ (List.mem_append_right _ (List.mem_append_right _ (List.mem_append_right _ (List.mem_append_right _ (List.mem_append_right _ (List.mem_append_right _ (List.mem_append_right _ (List.mem_append_right _ (List.mem_append_right _ (List.mem_append_right _ (List.mem_append_right _ (List.mem_append_right _ (List.mem_append_right _ (List.mem_append_left _ h)))))))))))))))))))))))))))))))))
theorem wlm_21 : ∀ w ∈ wsL_law_r22, w ∈ wsL_law := fun _ h => List.mem_append_left _ (List.mem_append_left _ (List.mem_append_left _ (List.mem_append_left _ (List.mem_append_left _ (List.mem_append_left _ (List.mem_append_left _ (List.mem_append_left _ (List.mem_append_left _ (List.mem_append_left _ (List.mem_append_left _ (List.mem_append_left _ (List.mem_append_left _ (List.mem_append_right _ (List.mem_append_right _ (List.mem_append_right _ (List.mem_append_right _ (List.mem_append_right _ (List.mem_append_right _ (List.mem_append_right _ (List.mem_append_right _ (List.mem_append_right _ (List.mem_append_right _ (List.mem_append_right _ (List.mem_append_right _ (List.mem_append_right _ (List.mem_append_right _ (List.mem_append_right _ (List.mem_append_right _ (List.mem_append_right _ (List.mem_append_right _ (List.mem_append_right _ (List.mem_append_right _ (List.mem_append_right _ (List.mem_append_left _ h))))))))))))))))))))))))))))))))))
theorem wd_521 : Cond.methodLink RL 64 yX12_comes ∈ wsL_law := wlm_21 _ (List.mem_of_getElem? (i := 17) rfl)
theorem wd_522 : Cond.instanceMethod yX12_comes ∈ wsL_law := wlm_21 _ (List.mem_of_getElem? (i := 18) rfl)
theorem wd_523 : Cond.selects RX12 yX12_comes yX12_comes ∈ wsL_law := wlm_21 _ (List.mem_of_getElem? (i := 19) rfl)
theorem wd_524 : Cond.code yX12_comes cX12_comes 3 (some .int) ∈ wsL_law := wlm_21 _ (List.mem_of_getElem? (i := 20) rfl)
theorem wd_525 : Cond.methodLink RX12 212 yX12_isFlight ∈ wsL_law := wlm_21 _ (List.mem_of_getElem? (i := 21) rfl)
theorem wd_526 : Cond.instanceMethod yX12_isFlight ∈ wsL_law := wlm_21 _ (List.mem_of_getElem? (i := 22) rfl)
theorem wd_527 : Cond.selects RX12 yX12_isFlight yX12_isFlight ∈ wsL_law := wlm_21 _ (List.mem_of_getElem? (i := 23) rfl)
theorem wlm_22 : ∀ w ∈ wsL_law_r23, w ∈ wsL_law := fun _ h => List.mem_append_left _ (List.mem_append_left _ (List.mem_append_left _ (List.mem_append_left _ (List.mem_append_left _ (List.mem_append_left _ (List.mem_append_left _ (List.mem_append_left _ (List.mem_append_left _ (List.mem_append_left _ (List.mem_append_left _ (List.mem_append_left _ (List.mem_append_left _ (List.mem_append_right _ (List.mem_append_right _ (List.mem_append_right _ (List.mem_append_right _ (List.mem_append_right _ (List.mem_append_right _ (List.mem_append_right _ (List.mem_append_right _ (List.mem_append_right _ (List.mem_append_right _ (List.mem_append_right _ (List.mem_append_right _ (List.mem_append_right _ (List.mem_append_right _ (List.mem_append_right _ (List.mem_append_right _ (List.mem_append_right _ (List.mem_append_right _ (List.mem_append_right _ (List.mem_append_right _ (List.mem_append_right _ (List.mem_append_right _ (List.mem_append_left _ h)))))))))))))))))))))))))))))))))))
theorem wd_528 : Cond.code yX12_isFlight cX12_isFlight 2 (some .boolean) ∈ wsL_law := wlm_22 _ (List.mem_of_getElem? (i := 0) rfl)
theorem wlm_23 : ∀ w ∈ wsL_law_r24, w ∈ wsL_law := fun _ h => List.mem_append_left _ (List.mem_append_left _ (List.mem_append_left _ (List.mem_append_left _ (List.mem_append_left _ (List.mem_append_left _ (List.mem_append_left _ (List.mem_append_left _ (List.mem_append_left _ (List.mem_append_left _ (List.mem_append_left _ (List.mem_append_left _ (List.mem_append_left _ (List.mem_append_right _ (List.mem_append_right _ (List.mem_append_right _ (List.mem_append_right _ (List.mem_append_right _ (List.mem_append_right _ (List.mem_append_right _ (List.mem_append_right _ (List.mem_append_right _ (List.mem_append_right _ (List.mem_append_right _ (List.mem_append_right _ (List.mem_append_right _ (List.mem_append_right _ (List.mem_append_right _ (List.mem_append_right _ (List.mem_append_right _ (List.mem_append_right _ (List.mem_append_right _ (List.mem_append_right _ (List.mem_append_right _ (List.mem_append_right _ (List.mem_append_right _ (List.mem_append_left _ h))))))))))))))))))))))))))))))))))))
theorem wd_569 : Cond.methodLink RL 65 yX11_behind ∈ wsL_law := wlm_23 _ (List.mem_of_getElem? (i := 17) rfl)
theorem wd_570 : Cond.instanceMethod yX11_behind ∈ wsL_law := wlm_23 _ (List.mem_of_getElem? (i := 18) rfl)
theorem wd_571 : Cond.selects RX11 yX11_behind yX11_behind ∈ wsL_law := wlm_23 _ (List.mem_of_getElem? (i := 19) rfl)
theorem wd_572 : Cond.code yX11_behind cX11_behind 4 (some .int) ∈ wsL_law := wlm_23 _ (List.mem_of_getElem? (i := 20) rfl)
theorem wlm_24 : ∀ w ∈ wsL_law_r25, w ∈ wsL_law := fun _ h => List.mem_append_left _ (List.mem_append_left _ (List.mem_append_left _ (List.mem_append_left _ (List.mem_append_left _ (List.mem_append_left _ (List.mem_append_left _ (List.mem_append_left _ (List.mem_append_left _ (List.mem_append_left _ (List.mem_append_left _ (List.mem_append_left _ (List.mem_append_left _ (List.mem_append_right _ (List.mem_append_right _ (List.mem_append_right _ (List.mem_append_right _ (List.mem_append_right _ (List.mem_append_right _ (List.mem_append_right _ (List.mem_append_right _ (List.mem_append_right _ (List.mem_append_right _ (List.mem_append_right _ (List.mem_append_right _ (List.mem_append_right _ (List.mem_append_right _ (List.mem_append_right _ (List.mem_append_right _ (List.mem_append_right _ (List.mem_append_right _ (List.mem_append_right _ (List.mem_append_right _ (List.mem_append_right _ (List.mem_append_right _ (List.mem_append_right _ (List.mem_append_right _ (List.mem_append_left _ h)))))))))))))))))))))))))))))))))))))
theorem wd_591 : Cond.methodLink RL 69 yX12_behind ∈ wsL_law := wlm_24 _ (List.mem_of_getElem? (i := 15) rfl)
theorem wd_592 : Cond.instanceMethod yX12_behind ∈ wsL_law := wlm_24 _ (List.mem_of_getElem? (i := 16) rfl)
theorem wd_593 : Cond.selects RX12 yX12_behind yX12_behind ∈ wsL_law := wlm_24 _ (List.mem_of_getElem? (i := 17) rfl)
theorem wd_594 : Cond.code yX12_behind cX12_behind 4 (some .int) ∈ wsL_law := wlm_24 _ (List.mem_of_getElem? (i := 18) rfl)
theorem wd_599 : Cond.methodLink RL 70 yX11_farthest ∈ wsL_law := wlm_24 _ (List.mem_of_getElem? (i := 23) rfl)
theorem wlm_25 : ∀ w ∈ wsL_law_r26, w ∈ wsL_law := fun _ h => List.mem_append_left _ (List.mem_append_left _ (List.mem_append_left _ (List.mem_append_left _ (List.mem_append_left _ (List.mem_append_left _ (List.mem_append_left _ (List.mem_append_left _ (List.mem_append_left _ (List.mem_append_left _ (List.mem_append_left _ (List.mem_append_left _ (List.mem_append_left _ (List.mem_append_right _ (List.mem_append_right _ (List.mem_append_right _ (List.mem_append_right _ (List.mem_append_right _ (List.mem_append_right _ (List.mem_append_right _ (List.mem_append_right _ (List.mem_append_right _ (List.mem_append_right _ (List.mem_append_right _ (List.mem_append_right _ (List.mem_append_right _ (List.mem_append_right _ (List.mem_append_right _ (List.mem_append_right _ (List.mem_append_right _ (List.mem_append_right _ (List.mem_append_right _ (List.mem_append_right _ (List.mem_append_right _ (List.mem_append_right _ (List.mem_append_right _ (List.mem_append_right _ (List.mem_append_right _ (List.mem_append_left _ h))))))))))))))))))))))))))))))))))))))
theorem wd_600 : Cond.instanceMethod yX11_farthest ∈ wsL_law := wlm_25 _ (List.mem_of_getElem? (i := 0) rfl)
theorem wd_601 : Cond.selects RX11 yX11_farthest yX11_farthest ∈ wsL_law := wlm_25 _ (List.mem_of_getElem? (i := 1) rfl)
theorem wd_602 : Cond.code yX11_farthest cX11_farthest 6 (some .int) ∈ wsL_law := wlm_25 _ (List.mem_of_getElem? (i := 2) rfl)
theorem wd_603 : Cond.methodLink RL 73 yX12_farthest ∈ wsL_law := wlm_25 _ (List.mem_of_getElem? (i := 3) rfl)
theorem wd_604 : Cond.instanceMethod yX12_farthest ∈ wsL_law := wlm_25 _ (List.mem_of_getElem? (i := 4) rfl)
theorem wd_605 : Cond.selects RX12 yX12_farthest yX12_farthest ∈ wsL_law := wlm_25 _ (List.mem_of_getElem? (i := 5) rfl)
theorem wd_606 : Cond.code yX12_farthest cX12_farthest 1 (some .int) ∈ wsL_law := wlm_25 _ (List.mem_of_getElem? (i := 6) rfl)
theorem wd_607 : Cond.methodLink RX12 221 yX12_farthestNow ∈ wsL_law := wlm_25 _ (List.mem_of_getElem? (i := 7) rfl)
theorem wd_608 : Cond.instanceMethod yX12_farthestNow ∈ wsL_law := wlm_25 _ (List.mem_of_getElem? (i := 8) rfl)
theorem wd_609 : Cond.selects RX12 yX12_farthestNow yX12_farthestNow ∈ wsL_law := wlm_25 _ (List.mem_of_getElem? (i := 9) rfl)
theorem wd_610 : Cond.code yX12_farthestNow cX12_farthestNow 6 (some .int) ∈ wsL_law := wlm_25 _ (List.mem_of_getElem? (i := 10) rfl)
theorem wd_611 : Cond.methodLink RL 74 yX11_climb ∈ wsL_law := wlm_25 _ (List.mem_of_getElem? (i := 11) rfl)
theorem wd_612 : Cond.instanceMethod yX11_climb ∈ wsL_law := wlm_25 _ (List.mem_of_getElem? (i := 12) rfl)
theorem wd_613 : Cond.selects RX11 yX11_climb yX11_climb ∈ wsL_law := wlm_25 _ (List.mem_of_getElem? (i := 13) rfl)
theorem wd_614 : Cond.code yX11_climb cX11_climb 3 (some .int) ∈ wsL_law := wlm_25 _ (List.mem_of_getElem? (i := 14) rfl)
theorem wlm_26 : ∀ w ∈ wsL_law_r27, w ∈ wsL_law := fun _ h => List.mem_append_left _ (List.mem_append_left _ (List.mem_append_left _ (List.mem_append_left _ (List.mem_append_left _ (List.mem_append_left _ (List.mem_append_left _ (List.mem_append_left _ (List.mem_append_left _ (List.mem_append_left _ (List.mem_append_left _ (List.mem_append_left _ (List.mem_append_left _ (List.mem_append_right _ (List.mem_append_right _ (List.mem_append_right _ (List.mem_append_right _ (List.mem_append_right _ (List.mem_append_right _ (List.mem_append_right _ (List.mem_append_right _ (List.mem_append_right _ (List.mem_append_right _ (List.mem_append_right _ (List.mem_append_right _ (List.mem_append_right _ (List.mem_append_right _ (List.mem_append_right _ (List.mem_append_right _ (List.mem_append_right _ (List.mem_append_right _ (List.mem_append_right _ (List.mem_append_right _ (List.mem_append_right _ (List.mem_append_right _ (List.mem_append_right _ (List.mem_append_right _ (List.mem_append_right _ (List.mem_append_right _ (List.mem_append_left _ h)))))))))))))))))))))))))))))))))))))))
theorem wd_641 : Cond.methodLink RL 77 yX12_climb ∈ wsL_law := wlm_26 _ (List.mem_of_getElem? (i := 17) rfl)
theorem wd_642 : Cond.instanceMethod yX12_climb ∈ wsL_law := wlm_26 _ (List.mem_of_getElem? (i := 18) rfl)
theorem wd_643 : Cond.selects RX12 yX12_climb yX12_climb ∈ wsL_law := wlm_26 _ (List.mem_of_getElem? (i := 19) rfl)
theorem wd_644 : Cond.code yX12_climb cX12_climb 3 (some .int) ∈ wsL_law := wlm_26 _ (List.mem_of_getElem? (i := 20) rfl)
theorem wlm_27 : ∀ w ∈ wsL_law_r28, w ∈ wsL_law := fun _ h => List.mem_append_left _ (List.mem_append_left _ (List.mem_append_left _ (List.mem_append_left _ (List.mem_append_left _ (List.mem_append_left _ (List.mem_append_left _ (List.mem_append_left _ (List.mem_append_left _ (List.mem_append_left _ (List.mem_append_left _ (List.mem_append_left _ (List.mem_append_left _ (List.mem_append_right _ (List.mem_append_right _ (List.mem_append_right _ (List.mem_append_right _ (List.mem_append_right _ (List.mem_append_right _ (List.mem_append_right _ (List.mem_append_right _ (List.mem_append_right _ (List.mem_append_right _ (List.mem_append_right _ (List.mem_append_right _ (List.mem_append_right _ (List.mem_append_right _ (List.mem_append_right _ (List.mem_append_right _ (List.mem_append_right _ (List.mem_append_right _ (List.mem_append_right _ (List.mem_append_right _ (List.mem_append_right _ (List.mem_append_right _ (List.mem_append_right _ (List.mem_append_right _ (List.mem_append_right _ (List.mem_append_right _ (List.mem_append_right _ (List.mem_append_left _ h))))))))))))))))))))))))))))))))))))))))
theorem wd_650 : Cond.methodLink RL 78 yX11_practice ∈ wsL_law := wlm_27 _ (List.mem_of_getElem? (i := 2) rfl)
theorem wd_651 : Cond.instanceMethod yX11_practice ∈ wsL_law := wlm_27 _ (List.mem_of_getElem? (i := 3) rfl)
theorem wd_652 : Cond.selects RX11 yX11_practice yX11_practice ∈ wsL_law := wlm_27 _ (List.mem_of_getElem? (i := 4) rfl)
theorem wd_653 : Cond.code yX11_practice cX11_practice 7 (some .int) ∈ wsL_law := wlm_27 _ (List.mem_of_getElem? (i := 5) rfl)
theorem wd_661 : Cond.methodLink RL 81 yX12_practice ∈ wsL_law := wlm_27 _ (List.mem_of_getElem? (i := 13) rfl)
theorem wd_662 : Cond.instanceMethod yX12_practice ∈ wsL_law := wlm_27 _ (List.mem_of_getElem? (i := 14) rfl)
theorem wd_663 : Cond.selects RX12 yX12_practice yX12_practice ∈ wsL_law := wlm_27 _ (List.mem_of_getElem? (i := 15) rfl)
theorem wd_664 : Cond.code yX12_practice cX12_practice 3 (some .int) ∈ wsL_law := wlm_27 _ (List.mem_of_getElem? (i := 16) rfl)
theorem wlm_28 : ∀ w ∈ wsL_law_r29, w ∈ wsL_law := fun _ h => List.mem_append_left _ (List.mem_append_left _ (List.mem_append_left _ (List.mem_append_left _ (List.mem_append_left _ (List.mem_append_left _ (List.mem_append_left _ (List.mem_append_left _ (List.mem_append_left _ (List.mem_append_left _ (List.mem_append_left _ (List.mem_append_left _ (List.mem_append_left _ (List.mem_append_right _ (List.mem_append_right _ (List.mem_append_right _ (List.mem_append_right _ (List.mem_append_right _ (List.mem_append_right _ (List.mem_append_right _ (List.mem_append_right _ (List.mem_append_right _ (List.mem_append_right _ (List.mem_append_right _ (List.mem_append_right _ (List.mem_append_right _ (List.mem_append_right _ (List.mem_append_right _ (List.mem_append_right _ (List.mem_append_right _ (List.mem_append_right _ (List.mem_append_right _ (List.mem_append_right _ (List.mem_append_right _ (List.mem_append_right _ (List.mem_append_right _ (List.mem_append_right _ (List.mem_append_right _ (List.mem_append_right _ (List.mem_append_right _ (List.mem_append_right _ (List.mem_append_left _ h)))))))))))))))))))))))))))))))))))))))))
theorem wd_672 : Cond.methodLink RL 82 yX11_pair ∈ wsL_law := wlm_28 _ (List.mem_of_getElem? (i := 0) rfl)
theorem wd_673 : Cond.instanceMethod yX11_pair ∈ wsL_law := wlm_28 _ (List.mem_of_getElem? (i := 1) rfl)
theorem wd_674 : Cond.selects RX11 yX11_pair yX11_pair ∈ wsL_law := wlm_28 _ (List.mem_of_getElem? (i := 2) rfl)
theorem wd_675 : Cond.code yX11_pair cX11_pair 8 (some .int) ∈ wsL_law := wlm_28 _ (List.mem_of_getElem? (i := 3) rfl)
theorem wd_676 : Cond.fieldLink RX11 185 "BittenStick$Geese" "number" "I" ∈ wsL_law := wlm_28 _ (List.mem_of_getElem? (i := 4) rfl)
theorem wd_677 : Cond.sameField "BittenStick$Geese" "BittenStick$Text" "number" "I" ∈ wsL_law := wlm_28 _ (List.mem_of_getElem? (i := 5) rfl)
theorem wd_678 : Cond.methodLink RL 85 yX12_pair ∈ wsL_law := wlm_28 _ (List.mem_of_getElem? (i := 6) rfl)
theorem wd_679 : Cond.instanceMethod yX12_pair ∈ wsL_law := wlm_28 _ (List.mem_of_getElem? (i := 7) rfl)
theorem wd_680 : Cond.selects RX12 yX12_pair yX12_pair ∈ wsL_law := wlm_28 _ (List.mem_of_getElem? (i := 8) rfl)
theorem wd_681 : Cond.code yX12_pair cX12_pair 3 (some .int) ∈ wsL_law := wlm_28 _ (List.mem_of_getElem? (i := 9) rfl)
theorem wd_686 : Cond.methodLink RL 86 yX11_seen ∈ wsL_law := wlm_28 _ (List.mem_of_getElem? (i := 14) rfl)
theorem wd_687 : Cond.instanceMethod yX11_seen ∈ wsL_law := wlm_28 _ (List.mem_of_getElem? (i := 15) rfl)
theorem wd_688 : Cond.selects RX11 yX11_seen yX11_seen ∈ wsL_law := wlm_28 _ (List.mem_of_getElem? (i := 16) rfl)
theorem wd_689 : Cond.code yX11_seen cX11_seen 3 (some .int) ∈ wsL_law := wlm_28 _ (List.mem_of_getElem? (i := 17) rfl)
theorem wd_690 : Cond.fieldLink RX11 193 "BittenStick" "seenNumber" "I" ∈ wsL_law := wlm_28 _ (List.mem_of_getElem? (i := 18) rfl)
theorem wd_691 : Cond.methodLink RL 89 yX12_seen ∈ wsL_law := wlm_28 _ (List.mem_of_getElem? (i := 19) rfl)
theorem wd_692 : Cond.instanceMethod yX12_seen ∈ wsL_law := wlm_28 _ (List.mem_of_getElem? (i := 20) rfl)
theorem wd_693 : Cond.selects RX12 yX12_seen yX12_seen ∈ wsL_law := wlm_28 _ (List.mem_of_getElem? (i := 21) rfl)
theorem wd_694 : Cond.code yX12_seen cX12_seen 3 (some .int) ∈ wsL_law := wlm_28 _ (List.mem_of_getElem? (i := 22) rfl)
theorem wd_695 : Cond.constantLong RX12 238 (24) ∈ wsL_law := wlm_28 _ (List.mem_of_getElem? (i := 23) rfl)
theorem wlm_29 : ∀ w ∈ wsL_law_r30, w ∈ wsL_law := fun _ h => List.mem_append_left _ (List.mem_append_left _ (List.mem_append_left _ (List.mem_append_left _ (List.mem_append_left _ (List.mem_append_left _ (List.mem_append_left _ (List.mem_append_left _ (List.mem_append_left _ (List.mem_append_left _ (List.mem_append_left _ (List.mem_append_left _ (List.mem_append_left _ (List.mem_append_right _ (List.mem_append_right _ (List.mem_append_right _ (List.mem_append_right _ (List.mem_append_right _ (List.mem_append_right _ (List.mem_append_right _ (List.mem_append_right _ (List.mem_append_right _ (List.mem_append_right _ (List.mem_append_right _ (List.mem_append_right _ (List.mem_append_right _ (List.mem_append_right _ (List.mem_append_right _ (List.mem_append_right _ (List.mem_append_right _ (List.mem_append_right _ (List.mem_append_right _ (List.mem_append_right _ (List.mem_append_right _ (List.mem_append_right _ (List.mem_append_right _ (List.mem_append_right _ (List.mem_append_right _ (List.mem_append_right _ (List.mem_append_right _ (List.mem_append_right _ (List.mem_append_right _ (List.mem_append_left _ h))))))))))))))))))))))))))))))))))))))))))
theorem wd_696 : Cond.fieldLink RX12 240 "BittenStickModel" "sights" "I" ∈ wsL_law := wlm_29 _ (List.mem_of_getElem? (i := 0) rfl)
theorem wd_697 : Cond.methodLink RL 90 yX11_forget ∈ wsL_law := wlm_29 _ (List.mem_of_getElem? (i := 1) rfl)
theorem wd_698 : Cond.instanceMethod yX11_forget ∈ wsL_law := wlm_29 _ (List.mem_of_getElem? (i := 2) rfl)
theorem wd_699 : Cond.selects RX11 yX11_forget yX11_forget ∈ wsL_law := wlm_29 _ (List.mem_of_getElem? (i := 3) rfl)
theorem wd_700 : Cond.code yX11_forget cX11_forget 2 (some .int) ∈ wsL_law := wlm_29 _ (List.mem_of_getElem? (i := 4) rfl)
theorem wd_701 : Cond.methodLink RL 93 yX12_forget ∈ wsL_law := wlm_29 _ (List.mem_of_getElem? (i := 5) rfl)
theorem wd_702 : Cond.instanceMethod yX12_forget ∈ wsL_law := wlm_29 _ (List.mem_of_getElem? (i := 6) rfl)
theorem wd_703 : Cond.selects RX12 yX12_forget yX12_forget ∈ wsL_law := wlm_29 _ (List.mem_of_getElem? (i := 7) rfl)
theorem wd_704 : Cond.code yX12_forget cX12_forget 2 (some .int) ∈ wsL_law := wlm_29 _ (List.mem_of_getElem? (i := 8) rfl)
theorem wd_705 : Cond.methodLink RL 94 yX11_sores ∈ wsL_law := wlm_29 _ (List.mem_of_getElem? (i := 9) rfl)
theorem wd_706 : Cond.instanceMethod yX11_sores ∈ wsL_law := wlm_29 _ (List.mem_of_getElem? (i := 10) rfl)
theorem wd_707 : Cond.selects RX11 yX11_sores yX11_sores ∈ wsL_law := wlm_29 _ (List.mem_of_getElem? (i := 11) rfl)
theorem wd_708 : Cond.code yX11_sores cX11_sores 4 (some .int) ∈ wsL_law := wlm_29 _ (List.mem_of_getElem? (i := 12) rfl)
theorem wd_714 : Cond.methodLink RL 97 yX12_sores ∈ wsL_law := wlm_29 _ (List.mem_of_getElem? (i := 18) rfl)
theorem wd_715 : Cond.instanceMethod yX12_sores ∈ wsL_law := wlm_29 _ (List.mem_of_getElem? (i := 19) rfl)
theorem wd_716 : Cond.selects RX12 yX12_sores yX12_sores ∈ wsL_law := wlm_29 _ (List.mem_of_getElem? (i := 20) rfl)
theorem wd_717 : Cond.code yX12_sores cX12_sores 2 (some .int) ∈ wsL_law := wlm_29 _ (List.mem_of_getElem? (i := 21) rfl)
theorem wlm_30 : ∀ w ∈ wsL_law_r31, w ∈ wsL_law := fun _ h => List.mem_append_left _ (List.mem_append_left _ (List.mem_append_left _ (List.mem_append_left _ (List.mem_append_left _ (List.mem_append_left _ (List.mem_append_left _ (List.mem_append_left _ (List.mem_append_left _ (List.mem_append_left _ (List.mem_append_left _ (List.mem_append_left _ (List.mem_append_left _ (List.mem_append_right _ (List.mem_append_right _ (List.mem_append_right _ (List.mem_append_right _ (List.mem_append_right _ (List.mem_append_right _ (List.mem_append_right _ (List.mem_append_right _ (List.mem_append_right _ (List.mem_append_right _ (List.mem_append_right _ (List.mem_append_right _ (List.mem_append_right _ (List.mem_append_right _ (List.mem_append_right _ (List.mem_append_right _ (List.mem_append_right _ (List.mem_append_right _ (List.mem_append_right _ (List.mem_append_right _ (List.mem_append_right _ (List.mem_append_right _ (List.mem_append_right _ (List.mem_append_right _ (List.mem_append_right _ (List.mem_append_right _ (List.mem_append_right _ (List.mem_append_right _ (List.mem_append_right _ (List.mem_append_right _ (List.mem_append_left _ h)))))))))))))))))))))))))))))))))))))))))))
theorem wd_726 : Cond.methodLink RL 98 yX11_high ∈ wsL_law := wlm_30 _ (List.mem_of_getElem? (i := 6) rfl)
theorem wd_727 : Cond.instanceMethod yX11_high ∈ wsL_law := wlm_30 _ (List.mem_of_getElem? (i := 7) rfl)
theorem wd_728 : Cond.selects RX11 yX11_high yX11_high ∈ wsL_law := wlm_30 _ (List.mem_of_getElem? (i := 8) rfl)
theorem wd_729 : Cond.code yX11_high cX11_high 4 (some .int) ∈ wsL_law := wlm_30 _ (List.mem_of_getElem? (i := 9) rfl)
theorem wd_730 : Cond.methodLink RL 101 yX12_high ∈ wsL_law := wlm_30 _ (List.mem_of_getElem? (i := 10) rfl)
theorem wd_731 : Cond.instanceMethod yX12_high ∈ wsL_law := wlm_30 _ (List.mem_of_getElem? (i := 11) rfl)
theorem wd_732 : Cond.selects RX12 yX12_high yX12_high ∈ wsL_law := wlm_30 _ (List.mem_of_getElem? (i := 12) rfl)
theorem wd_733 : Cond.code yX12_high cX12_high 2 (some .int) ∈ wsL_law := wlm_30 _ (List.mem_of_getElem? (i := 13) rfl)
theorem wd_738 : Cond.methodLink RL 102 yX11_ask ∈ wsL_law := wlm_30 _ (List.mem_of_getElem? (i := 18) rfl)
theorem wd_739 : Cond.instanceMethod yX11_ask ∈ wsL_law := wlm_30 _ (List.mem_of_getElem? (i := 19) rfl)
theorem wd_740 : Cond.selects RX11 yX11_ask yX11_ask ∈ wsL_law := wlm_30 _ (List.mem_of_getElem? (i := 20) rfl)
theorem wd_741 : Cond.code yX11_ask cX11_ask 7 (some .int) ∈ wsL_law := wlm_30 _ (List.mem_of_getElem? (i := 21) rfl)
theorem wlm_31 : ∀ w ∈ wsL_law_r32, w ∈ wsL_law := fun _ h => List.mem_append_left _ (List.mem_append_left _ (List.mem_append_left _ (List.mem_append_left _ (List.mem_append_left _ (List.mem_append_left _ (List.mem_append_left _ (List.mem_append_left _ (List.mem_append_left _ (List.mem_append_left _ (List.mem_append_left _ (List.mem_append_left _ (List.mem_append_left _ (List.mem_append_right _ (List.mem_append_right _ (List.mem_append_right _ (List.mem_append_right _ (List.mem_append_right _ (List.mem_append_right _ (List.mem_append_right _ (List.mem_append_right _ (List.mem_append_right _ (List.mem_append_right _ (List.mem_append_right _ (List.mem_append_right _ (List.mem_append_right _ (List.mem_append_right _ (List.mem_append_right _ (List.mem_append_right _ (List.mem_append_right _ (List.mem_append_right _ (List.mem_append_right _ (List.mem_append_right _ (List.mem_append_right _ (List.mem_append_right _ (List.mem_append_right _ (List.mem_append_right _ (List.mem_append_right _ (List.mem_append_right _ (List.mem_append_right _ (List.mem_append_right _ (List.mem_append_right _ (List.mem_append_right _ (List.mem_append_right _ (List.mem_append_left _ h))))))))))))))))))))))))))))))))))))))))))))
theorem wd_748 : Cond.methodLink RL 105 yX12_ask ∈ wsL_law := wlm_31 _ (List.mem_of_getElem? (i := 4) rfl)
theorem wd_749 : Cond.instanceMethod yX12_ask ∈ wsL_law := wlm_31 _ (List.mem_of_getElem? (i := 5) rfl)
theorem wd_750 : Cond.selects RX12 yX12_ask yX12_ask ∈ wsL_law := wlm_31 _ (List.mem_of_getElem? (i := 6) rfl)
theorem wd_751 : Cond.code yX12_ask cX12_ask 2 (some .int) ∈ wsL_law := wlm_31 _ (List.mem_of_getElem? (i := 7) rfl)
theorem wd_760 : Cond.methodLink RL 106 yX11_laugh ∈ wsL_law := wlm_31 _ (List.mem_of_getElem? (i := 16) rfl)
theorem wd_761 : Cond.instanceMethod yX11_laugh ∈ wsL_law := wlm_31 _ (List.mem_of_getElem? (i := 17) rfl)
theorem wd_762 : Cond.selects RX11 yX11_laugh yX11_laugh ∈ wsL_law := wlm_31 _ (List.mem_of_getElem? (i := 18) rfl)
theorem wd_763 : Cond.code yX11_laugh cX11_laugh 4 (some .long) ∈ wsL_law := wlm_31 _ (List.mem_of_getElem? (i := 19) rfl)
theorem wd_764 : Cond.constantLong RX11 210 (-9223372036854775806) ∈ wsL_law := wlm_31 _ (List.mem_of_getElem? (i := 20) rfl)
theorem wlm_32 : ∀ w ∈ wsL_law_r33, w ∈ wsL_law := fun _ h => List.mem_append_left _ (List.mem_append_left _ (List.mem_append_left _ (List.mem_append_left _ (List.mem_append_left _ (List.mem_append_left _ (List.mem_append_left _ (List.mem_append_left _ (List.mem_append_left _ (List.mem_append_left _ (List.mem_append_left _ (List.mem_append_left _ (List.mem_append_left _ (List.mem_append_right _ (List.mem_append_right _ (List.mem_append_right _ (List.mem_append_right _ (List.mem_append_right _ (List.mem_append_right _ (List.mem_append_right _ (List.mem_append_right _ (List.mem_append_right _ (List.mem_append_right _ (List.mem_append_right _ (List.mem_append_right _ (List.mem_append_right _ (List.mem_append_right _ (List.mem_append_right _ (List.mem_append_right _ (List.mem_append_right _ (List.mem_append_right _ (List.mem_append_right _ (List.mem_append_right _ (List.mem_append_right _ (List.mem_append_right _ (List.mem_append_right _ (List.mem_append_right _ (List.mem_append_right _ (List.mem_append_right _ (List.mem_append_right _ (List.mem_append_right _ (List.mem_append_right _ (List.mem_append_right _ (List.mem_append_right _ (List.mem_append_right _ (List.mem_append_left _ h)))))))))))))))))))))))))))))))))))))))))))))
theorem wd_771 : Cond.fieldLink RX4 19 "BittenStick$Land" "number" "I" ∈ wsL_law := wlm_32 _ (List.mem_of_getElem? (i := 3) rfl)
theorem wlm_33 : ∀ w ∈ wsL_law_r34, w ∈ wsL_law := fun _ h => List.mem_append_left _ (List.mem_append_left _ (List.mem_append_left _ (List.mem_append_left _ (List.mem_append_left _ (List.mem_append_left _ (List.mem_append_left _ (List.mem_append_left _ (List.mem_append_left _ (List.mem_append_left _ (List.mem_append_left _ (List.mem_append_left _ (List.mem_append_left _ (List.mem_append_right _ (List.mem_append_right _ (List.mem_append_right _ (List.mem_append_right _ (List.mem_append_right _ (List.mem_append_right _ (List.mem_append_right _ (List.mem_append_right _ (List.mem_append_right _ (List.mem_append_right _ (List.mem_append_right _ (List.mem_append_right _ (List.mem_append_right _ (List.mem_append_right _ (List.mem_append_right _ (List.mem_append_right _ (List.mem_append_right _ (List.mem_append_right _ (List.mem_append_right _ (List.mem_append_right _ (List.mem_append_right _ (List.mem_append_right _ (List.mem_append_right _ (List.mem_append_right _ (List.mem_append_right _ (List.mem_append_right _ (List.mem_append_right _ (List.mem_append_right _ (List.mem_append_right _ (List.mem_append_right _ (List.mem_append_right _ (List.mem_append_right _ (List.mem_append_right _ (List.mem_append_left _ h))))))))))))))))))))))))))))))))))))))))))))))
theorem wd_806 : Cond.methodLink RL 110 yX12_laugh ∈ wsL_law := wlm_33 _ (List.mem_of_getElem? (i := 14) rfl)
theorem wd_807 : Cond.instanceMethod yX12_laugh ∈ wsL_law := wlm_33 _ (List.mem_of_getElem? (i := 15) rfl)
theorem wd_808 : Cond.selects RX12 yX12_laugh yX12_laugh ∈ wsL_law := wlm_33 _ (List.mem_of_getElem? (i := 16) rfl)
theorem wd_809 : Cond.code yX12_laugh cX12_laugh 5 (some .long) ∈ wsL_law := wlm_33 _ (List.mem_of_getElem? (i := 17) rfl)
theorem wd_810 : Cond.constantLong RX12 269 (16) ∈ wsL_law := wlm_33 _ (List.mem_of_getElem? (i := 18) rfl)
theorem wd_811 : Cond.methodLink RX12 266 yX12_towns ∈ wsL_law := wlm_33 _ (List.mem_of_getElem? (i := 19) rfl)
theorem wd_812 : Cond.instanceMethod yX12_towns ∈ wsL_law := wlm_33 _ (List.mem_of_getElem? (i := 20) rfl)
theorem wd_813 : Cond.selects RX12 yX12_towns yX12_towns ∈ wsL_law := wlm_33 _ (List.mem_of_getElem? (i := 21) rfl)
theorem wd_814 : Cond.code yX12_towns cX12_towns 3 (some .int) ∈ wsL_law := wlm_33 _ (List.mem_of_getElem? (i := 22) rfl)
theorem wlm_34 : ∀ w ∈ wsL_law_r35, w ∈ wsL_law := fun _ h => List.mem_append_left _ (List.mem_append_left _ (List.mem_append_left _ (List.mem_append_left _ (List.mem_append_left _ (List.mem_append_left _ (List.mem_append_left _ (List.mem_append_left _ (List.mem_append_left _ (List.mem_append_left _ (List.mem_append_left _ (List.mem_append_left _ (List.mem_append_left _ (List.mem_append_right _ (List.mem_append_right _ (List.mem_append_right _ (List.mem_append_right _ (List.mem_append_right _ (List.mem_append_right _ (List.mem_append_right _ (List.mem_append_right _ (List.mem_append_right _ (List.mem_append_right _ (List.mem_append_right _ (List.mem_append_right _ (List.mem_append_right _ (List.mem_append_right _ (List.mem_append_right _ (List.mem_append_right _ (List.mem_append_right _ (List.mem_append_right _ (List.mem_append_right _ (List.mem_append_right _ (List.mem_append_right _ (List.mem_append_right _ (List.mem_append_right _ (List.mem_append_right _ (List.mem_append_right _ (List.mem_append_right _ (List.mem_append_right _ (List.mem_append_right _ (List.mem_append_right _ (List.mem_append_right _ (List.mem_append_right _ (List.mem_append_right _ (List.mem_append_right _ (List.mem_append_right _ (List.mem_append_left _ h)))))))))))))))))))))))))))))))))))))))))))))))
theorem wd_826 : Cond.methodLink RX12 275 yX12_no ∈ wsL_law := wlm_34 _ (List.mem_of_getElem? (i := 10) rfl)
theorem wd_827 : Cond.static yX12_no ∈ wsL_law := wlm_34 _ (List.mem_of_getElem? (i := 11) rfl)
theorem wd_828 : Cond.code yX12_no cX12_no 1 (some .long) ∈ wsL_law := wlm_34 _ (List.mem_of_getElem? (i := 12) rfl)
theorem wd_829 : Cond.constantLong RX12 63 (-9223372036854775808) ∈ wsL_law := wlm_34 _ (List.mem_of_getElem? (i := 13) rfl)
theorem wd_830 : Cond.methodLink RL 111 yX11_lakes ∈ wsL_law := wlm_34 _ (List.mem_of_getElem? (i := 14) rfl)
theorem wd_831 : Cond.instanceMethod yX11_lakes ∈ wsL_law := wlm_34 _ (List.mem_of_getElem? (i := 15) rfl)
theorem wd_832 : Cond.selects RX11 yX11_lakes yX11_lakes ∈ wsL_law := wlm_34 _ (List.mem_of_getElem? (i := 16) rfl)
theorem wd_833 : Cond.code yX11_lakes cX11_lakes 10 (some .int) ∈ wsL_law := wlm_34 _ (List.mem_of_getElem? (i := 17) rfl)
theorem wd_834 : Cond.fieldLink RX11 223 "BittenStick$Passengers" "number" "I" ∈ wsL_law := wlm_34 _ (List.mem_of_getElem? (i := 18) rfl)
theorem wd_835 : Cond.sameField "BittenStick$Passengers" "BittenStick$Text" "number" "I" ∈ wsL_law := wlm_34 _ (List.mem_of_getElem? (i := 19) rfl)
theorem wlm_35 : ∀ w ∈ wsL_law_r36, w ∈ wsL_law := fun _ h => List.mem_append_left _ (List.mem_append_left _ (List.mem_append_left _ (List.mem_append_left _ (List.mem_append_left _ (List.mem_append_left _ (List.mem_append_left _ (List.mem_append_left _ (List.mem_append_left _ (List.mem_append_left _ (List.mem_append_left _ (List.mem_append_left _ (List.mem_append_left _ (List.mem_append_right _ (List.mem_append_right _ (List.mem_append_right _ (List.mem_append_right _ (List.mem_append_right _ (List.mem_append_right _ (List.mem_append_right _ (List.mem_append_right _ (List.mem_append_right _ (List.mem_append_right _ (List.mem_append_right _ (List.mem_append_right _ (List.mem_append_right _ (List.mem_append_right _ (List.mem_append_right _ (List.mem_append_right _ (List.mem_append_right _ (List.mem_append_right _ (List.mem_append_right _ (List.mem_append_right _ (List.mem_append_right _ (List.mem_append_right _ (List.mem_append_right _ (List.mem_append_right _ (List.mem_append_right _ (List.mem_append_right _ (List.mem_append_right _ (List.mem_append_right _ (List.mem_append_right _ (List.mem_append_right _ (List.mem_append_right _ (List.mem_append_right _ (List.mem_append_right _ (List.mem_append_right _ (List.mem_append_right _ (List.mem_append_left _ h))))))))))))))))))))))))))))))))))))))))))))))))
theorem wd_843 : Cond.methodLink RL 114 yX12_lakes ∈ wsL_law := wlm_35 _ (List.mem_of_getElem? (i := 3) rfl)
theorem wd_844 : Cond.instanceMethod yX12_lakes ∈ wsL_law := wlm_35 _ (List.mem_of_getElem? (i := 4) rfl)
theorem wd_845 : Cond.selects RX12 yX12_lakes yX12_lakes ∈ wsL_law := wlm_35 _ (List.mem_of_getElem? (i := 5) rfl)
theorem wd_846 : Cond.code yX12_lakes cX12_lakes 4 (some .int) ∈ wsL_law := wlm_35 _ (List.mem_of_getElem? (i := 6) rfl)
theorem wd_847 : Cond.constantLong RX12 286 (99) ∈ wsL_law := wlm_35 _ (List.mem_of_getElem? (i := 7) rfl)
theorem wd_848 : Cond.methodLink RX12 288 yX12_lakesOf ∈ wsL_law := wlm_35 _ (List.mem_of_getElem? (i := 8) rfl)
theorem wd_849 : Cond.instanceMethod yX12_lakesOf ∈ wsL_law := wlm_35 _ (List.mem_of_getElem? (i := 9) rfl)
theorem wd_850 : Cond.selects RX12 yX12_lakesOf yX12_lakesOf ∈ wsL_law := wlm_35 _ (List.mem_of_getElem? (i := 10) rfl)
theorem wd_851 : Cond.code yX12_lakesOf cX12_lakesOf 9 (some .int) ∈ wsL_law := wlm_35 _ (List.mem_of_getElem? (i := 11) rfl)
theorem wd_852 : Cond.fieldLink RX12 280 "BittenStickModel" "drawn" "I" ∈ wsL_law := wlm_35 _ (List.mem_of_getElem? (i := 12) rfl)
theorem wd_858 : Cond.methodLink RL 115 yX11_sheet ∈ wsL_law := wlm_35 _ (List.mem_of_getElem? (i := 18) rfl)
theorem wd_859 : Cond.instanceMethod yX11_sheet ∈ wsL_law := wlm_35 _ (List.mem_of_getElem? (i := 19) rfl)
theorem wd_860 : Cond.selects RX11 yX11_sheet yX11_sheet ∈ wsL_law := wlm_35 _ (List.mem_of_getElem? (i := 20) rfl)
theorem wd_861 : Cond.code yX11_sheet cX11_sheet 5 (some .int) ∈ wsL_law := wlm_35 _ (List.mem_of_getElem? (i := 21) rfl)
theorem wd_862 : Cond.methodLink RX11 230 yX11_isForm ∈ wsL_law := wlm_35 _ (List.mem_of_getElem? (i := 22) rfl)
theorem wd_863 : Cond.static yX11_isForm ∈ wsL_law := wlm_35 _ (List.mem_of_getElem? (i := 23) rfl)
theorem wlm_36 : ∀ w ∈ wsL_law_r37, w ∈ wsL_law := fun _ h => List.mem_append_left _ (List.mem_append_left _ (List.mem_append_left _ (List.mem_append_left _ (List.mem_append_left _ (List.mem_append_left _ (List.mem_append_left _ (List.mem_append_left _ (List.mem_append_left _ (List.mem_append_left _ (List.mem_append_left _ (List.mem_append_left _ (List.mem_append_left _ (List.mem_append_right _ (List.mem_append_right _ (List.mem_append_right _ (List.mem_append_right _ (List.mem_append_right _ (List.mem_append_right _ (List.mem_append_right _ (List.mem_append_right _ (List.mem_append_right _ (List.mem_append_right _ (List.mem_append_right _ (List.mem_append_right _ (List.mem_append_right _ (List.mem_append_right _ (List.mem_append_right _ (List.mem_append_right _ (List.mem_append_right _ (List.mem_append_right _ (List.mem_append_right _ (List.mem_append_right _ (List.mem_append_right _ (List.mem_append_right _ (List.mem_append_right _ (List.mem_append_right _ (List.mem_append_right _ (List.mem_append_right _ (List.mem_append_right _ (List.mem_append_right _ (List.mem_append_right _ (List.mem_append_right _ (List.mem_append_right _ (List.mem_append_right _ (List.mem_append_right _ (List.mem_append_right _ (List.mem_append_right _ (List.mem_append_right _ (List.mem_append_left _ h)))))))))))))))))))))))))))))))))))))))))))))))))
theorem wd_864 : Cond.code yX11_isForm cX11_isForm 1 (some .boolean) ∈ wsL_law := wlm_36 _ (List.mem_of_getElem? (i := 0) rfl)
theorem wd_865 : Cond.methodLink RX11 233 yX8_renew ∈ wsL_law := wlm_36 _ (List.mem_of_getElem? (i := 1) rfl)
theorem wd_866 : Cond.instanceMethod yX8_renew ∈ wsL_law := wlm_36 _ (List.mem_of_getElem? (i := 2) rfl)
theorem wd_867 : Cond.selects RX8 yX8_renew yX8_renew ∈ wsL_law := wlm_36 _ (List.mem_of_getElem? (i := 3) rfl)
theorem wd_868 : Cond.code yX8_renew cX8_renew 4 none ∈ wsL_law := wlm_36 _ (List.mem_of_getElem? (i := 4) rfl)
theorem wd_869 : Cond.fieldLink RX8 19 "BittenStick$Sheet" "form" "I" ∈ wsL_law := wlm_36 _ (List.mem_of_getElem? (i := 5) rfl)
theorem wd_870 : Cond.methodLink RX8 23 Lib.Math.min.name ∈ wsL_law := wlm_36 _ (List.mem_of_getElem? (i := 6) rfl)
theorem wd_871 : Cond.methodLink RX8 29 Lib.Math.max.name ∈ wsL_law := wlm_36 _ (List.mem_of_getElem? (i := 7) rfl)
theorem wd_872 : Cond.methodLink RL 118 yX12_sheet ∈ wsL_law := wlm_36 _ (List.mem_of_getElem? (i := 8) rfl)
theorem wd_873 : Cond.instanceMethod yX12_sheet ∈ wsL_law := wlm_36 _ (List.mem_of_getElem? (i := 9) rfl)
theorem wd_874 : Cond.selects RX12 yX12_sheet yX12_sheet ∈ wsL_law := wlm_36 _ (List.mem_of_getElem? (i := 10) rfl)
theorem wd_875 : Cond.code yX12_sheet cX12_sheet 5 (some .int) ∈ wsL_law := wlm_36 _ (List.mem_of_getElem? (i := 11) rfl)
theorem wd_876 : Cond.methodLink RL 119 yX11_lose ∈ wsL_law := wlm_36 _ (List.mem_of_getElem? (i := 12) rfl)
theorem wd_877 : Cond.instanceMethod yX11_lose ∈ wsL_law := wlm_36 _ (List.mem_of_getElem? (i := 13) rfl)
theorem wd_878 : Cond.selects RX11 yX11_lose yX11_lose ∈ wsL_law := wlm_36 _ (List.mem_of_getElem? (i := 14) rfl)
theorem wd_879 : Cond.code yX11_lose cX11_lose 3 (some .int) ∈ wsL_law := wlm_36 _ (List.mem_of_getElem? (i := 15) rfl)
theorem wd_880 : Cond.methodLink RL 122 yX12_lose ∈ wsL_law := wlm_36 _ (List.mem_of_getElem? (i := 16) rfl)
theorem wd_881 : Cond.instanceMethod yX12_lose ∈ wsL_law := wlm_36 _ (List.mem_of_getElem? (i := 17) rfl)
theorem wd_882 : Cond.selects RX12 yX12_lose yX12_lose ∈ wsL_law := wlm_36 _ (List.mem_of_getElem? (i := 18) rfl)
theorem wd_883 : Cond.code yX12_lose cX12_lose 2 (some .int) ∈ wsL_law := wlm_36 _ (List.mem_of_getElem? (i := 19) rfl)
theorem wd_884 : Cond.methodLink RL 123 yX11_lay ∈ wsL_law := wlm_36 _ (List.mem_of_getElem? (i := 20) rfl)
theorem wd_885 : Cond.instanceMethod yX11_lay ∈ wsL_law := wlm_36 _ (List.mem_of_getElem? (i := 21) rfl)
theorem wd_886 : Cond.selects RX11 yX11_lay yX11_lay ∈ wsL_law := wlm_36 _ (List.mem_of_getElem? (i := 22) rfl)
theorem wd_887 : Cond.code yX11_lay cX11_lay 7 (some .int) ∈ wsL_law := wlm_36 _ (List.mem_of_getElem? (i := 23) rfl)
theorem wlm_37 : ∀ w ∈ wsL_law_r38, w ∈ wsL_law := fun _ h => List.mem_append_left _ (List.mem_append_left _ (List.mem_append_left _ (List.mem_append_left _ (List.mem_append_left _ (List.mem_append_left _ (List.mem_append_left _ (List.mem_append_left _ (List.mem_append_left _ (List.mem_append_left _ (List.mem_append_left _ (List.mem_append_left _ (List.mem_append_left _ (List.mem_append_right _ (List.mem_append_right _ (List.mem_append_right _ (List.mem_append_right _ (List.mem_append_right _ (List.mem_append_right _ (List.mem_append_right _ (List.mem_append_right _ (List.mem_append_right _ (List.mem_append_right _ (List.mem_append_right _ (List.mem_append_right _ (List.mem_append_right _ (List.mem_append_right _ (List.mem_append_right _ (List.mem_append_right _ (List.mem_append_right _ (List.mem_append_right _ (List.mem_append_right _ (List.mem_append_right _ (List.mem_append_right _ (List.mem_append_right _ (List.mem_append_right _ (List.mem_append_right _ (List.mem_append_right _ (List.mem_append_right _ (List.mem_append_right _ (List.mem_append_right _ (List.mem_append_right _ (List.mem_append_right _ (List.mem_append_right _ (List.mem_append_right _ (List.mem_append_right _ (List.mem_append_right _ (List.mem_append_right _ (List.mem_append_right _ (List.mem_append_right _ (List.mem_append_left _ h))))))))))))))))))))))))))))))))))))))))))))))))))
theorem wd_888 : Cond.methodLink RX11 237 yX11_itemRefusal ∈ wsL_law := wlm_37 _ (List.mem_of_getElem? (i := 0) rfl)
theorem wd_889 : Cond.instanceMethod yX11_itemRefusal ∈ wsL_law := wlm_37 _ (List.mem_of_getElem? (i := 1) rfl)
theorem wd_890 : Cond.selects RX11 yX11_itemRefusal yX11_itemRefusal ∈ wsL_law := wlm_37 _ (List.mem_of_getElem? (i := 2) rfl)
theorem wd_891 : Cond.code yX11_itemRefusal cX11_itemRefusal 4 (some .int) ∈ wsL_law := wlm_37 _ (List.mem_of_getElem? (i := 3) rfl)
theorem wd_901 : Cond.methodLink RL 126 yX12_lay ∈ wsL_law := wlm_37 _ (List.mem_of_getElem? (i := 13) rfl)
theorem wd_902 : Cond.instanceMethod yX12_lay ∈ wsL_law := wlm_37 _ (List.mem_of_getElem? (i := 14) rfl)
theorem wd_903 : Cond.selects RX12 yX12_lay yX12_lay ∈ wsL_law := wlm_37 _ (List.mem_of_getElem? (i := 15) rfl)
theorem wd_904 : Cond.code yX12_lay cX12_lay 6 (some .int) ∈ wsL_law := wlm_37 _ (List.mem_of_getElem? (i := 16) rfl)
theorem wd_905 : Cond.methodLink RX12 84 yX12_lacks ∈ wsL_law := wlm_37 _ (List.mem_of_getElem? (i := 17) rfl)
theorem wd_906 : Cond.instanceMethod yX12_lacks ∈ wsL_law := wlm_37 _ (List.mem_of_getElem? (i := 18) rfl)
theorem wd_907 : Cond.selects RX12 yX12_lacks yX12_lacks ∈ wsL_law := wlm_37 _ (List.mem_of_getElem? (i := 19) rfl)
theorem wd_908 : Cond.code yX12_lacks cX12_lacks 4 (some .int) ∈ wsL_law := wlm_37 _ (List.mem_of_getElem? (i := 20) rfl)
theorem wlm_38 : ∀ w ∈ wsL_law_r39, w ∈ wsL_law := fun _ h => List.mem_append_left _ (List.mem_append_left _ (List.mem_append_left _ (List.mem_append_left _ (List.mem_append_left _ (List.mem_append_left _ (List.mem_append_left _ (List.mem_append_left _ (List.mem_append_left _ (List.mem_append_left _ (List.mem_append_left _ (List.mem_append_left _ (List.mem_append_left _ (List.mem_append_right _ (List.mem_append_right _ (List.mem_append_right _ (List.mem_append_right _ (List.mem_append_right _ (List.mem_append_right _ (List.mem_append_right _ (List.mem_append_right _ (List.mem_append_right _ (List.mem_append_right _ (List.mem_append_right _ (List.mem_append_right _ (List.mem_append_right _ (List.mem_append_right _ (List.mem_append_right _ (List.mem_append_right _ (List.mem_append_right _ (List.mem_append_right _ (List.mem_append_right _ (List.mem_append_right _ (List.mem_append_right _ (List.mem_append_right _ (List.mem_append_right _ (List.mem_append_right _ (List.mem_append_right _ (List.mem_append_right _ (List.mem_append_right _ (List.mem_append_right _ (List.mem_append_right _ (List.mem_append_right _ (List.mem_append_right _ (List.mem_append_right _ (List.mem_append_right _ (List.mem_append_right _ (List.mem_append_right _ (List.mem_append_right _ (List.mem_append_right _ (List.mem_append_right _ (List.mem_append_left _ h)))))))))))))))))))))))))))))))))))))))))))))))))))
theorem wd_912 : Cond.methodLink RL 127 yX11_get ∈ wsL_law := wlm_38 _ (List.mem_of_getElem? (i := 0) rfl)
theorem wd_913 : Cond.instanceMethod yX11_get ∈ wsL_law := wlm_38 _ (List.mem_of_getElem? (i := 1) rfl)
theorem wd_914 : Cond.selects RX11 yX11_get yX11_get ∈ wsL_law := wlm_38 _ (List.mem_of_getElem? (i := 2) rfl)
theorem wd_915 : Cond.code yX11_get cX11_get 5 (some .int) ∈ wsL_law := wlm_38 _ (List.mem_of_getElem? (i := 3) rfl)
theorem wd_916 : Cond.constant RX11 244 (-2147483648) ∈ wsL_law := wlm_38 _ (List.mem_of_getElem? (i := 4) rfl)
theorem wd_917 : Cond.methodLink RL 130 yX12_get ∈ wsL_law := wlm_38 _ (List.mem_of_getElem? (i := 5) rfl)
theorem wd_918 : Cond.instanceMethod yX12_get ∈ wsL_law := wlm_38 _ (List.mem_of_getElem? (i := 6) rfl)
theorem wd_919 : Cond.selects RX12 yX12_get yX12_get ∈ wsL_law := wlm_38 _ (List.mem_of_getElem? (i := 7) rfl)
theorem wd_920 : Cond.code yX12_get cX12_get 4 (some .int) ∈ wsL_law := wlm_38 _ (List.mem_of_getElem? (i := 8) rfl)
theorem wd_921 : Cond.constant RX12 92 (-2147483648) ∈ wsL_law := wlm_38 _ (List.mem_of_getElem? (i := 9) rfl)
theorem wd_922 : Cond.methodLink RL 131 yX11_copy ∈ wsL_law := wlm_38 _ (List.mem_of_getElem? (i := 10) rfl)
theorem wd_923 : Cond.instanceMethod yX11_copy ∈ wsL_law := wlm_38 _ (List.mem_of_getElem? (i := 11) rfl)
theorem wd_924 : Cond.selects RX11 yX11_copy yX11_copy ∈ wsL_law := wlm_38 _ (List.mem_of_getElem? (i := 12) rfl)
theorem wd_925 : Cond.code yX11_copy cX11_copy 8 (some .int) ∈ wsL_law := wlm_38 _ (List.mem_of_getElem? (i := 13) rfl)
theorem wd_931 : Cond.methodLink RL 135 yX12_copy ∈ wsL_law := wlm_38 _ (List.mem_of_getElem? (i := 19) rfl)
theorem wd_932 : Cond.instanceMethod yX12_copy ∈ wsL_law := wlm_38 _ (List.mem_of_getElem? (i := 20) rfl)
theorem wd_933 : Cond.selects RX12 yX12_copy yX12_copy ∈ wsL_law := wlm_38 _ (List.mem_of_getElem? (i := 21) rfl)
theorem wd_934 : Cond.code yX12_copy cX12_copy 7 (some .int) ∈ wsL_law := wlm_38 _ (List.mem_of_getElem? (i := 22) rfl)
theorem wd_935 : Cond.methodLink RL 136 yX11_write ∈ wsL_law := wlm_38 _ (List.mem_of_getElem? (i := 23) rfl)
theorem wlm_39 : ∀ w ∈ wsL_law_r40, w ∈ wsL_law := fun _ h => List.mem_append_left _ (List.mem_append_left _ (List.mem_append_left _ (List.mem_append_left _ (List.mem_append_left _ (List.mem_append_left _ (List.mem_append_left _ (List.mem_append_left _ (List.mem_append_left _ (List.mem_append_left _ (List.mem_append_left _ (List.mem_append_left _ (List.mem_append_left _ (List.mem_append_right _ (List.mem_append_right _ (List.mem_append_right _ (List.mem_append_right _ (List.mem_append_right _ (List.mem_append_right _ (List.mem_append_right _ (List.mem_append_right _ (List.mem_append_right _ (List.mem_append_right _ (List.mem_append_right _ (List.mem_append_right _ (List.mem_append_right _ (List.mem_append_right _ (List.mem_append_right _ (List.mem_append_right _ (List.mem_append_right _ (List.mem_append_right _ (List.mem_append_right _ (List.mem_append_right _ (List.mem_append_right _ (List.mem_append_right _ (List.mem_append_right _ (List.mem_append_right _ (List.mem_append_right _ (List.mem_append_right _ (List.mem_append_right _ (List.mem_append_right _ (List.mem_append_right _ (List.mem_append_right _ (List.mem_append_right _ (List.mem_append_right _ (List.mem_append_right _ (List.mem_append_right _ (List.mem_append_right _ (List.mem_append_right _ (List.mem_append_right _ (List.mem_append_right _ (List.mem_append_right _ (List.mem_append_left _ h))))))))))))))))))))))))))))))))))))))))))))))))))))
theorem wd_936 : Cond.instanceMethod yX11_write ∈ wsL_law := wlm_39 _ (List.mem_of_getElem? (i := 0) rfl)
theorem wd_937 : Cond.selects RX11 yX11_write yX11_write ∈ wsL_law := wlm_39 _ (List.mem_of_getElem? (i := 1) rfl)
theorem wd_938 : Cond.code yX11_write cX11_write 7 (some .int) ∈ wsL_law := wlm_39 _ (List.mem_of_getElem? (i := 2) rfl)
theorem wd_940 : Cond.methodLink RL 139 yX12_write ∈ wsL_law := wlm_39 _ (List.mem_of_getElem? (i := 4) rfl)
theorem wd_941 : Cond.instanceMethod yX12_write ∈ wsL_law := wlm_39 _ (List.mem_of_getElem? (i := 5) rfl)
theorem wd_942 : Cond.selects RX12 yX12_write yX12_write ∈ wsL_law := wlm_39 _ (List.mem_of_getElem? (i := 6) rfl)
theorem wd_943 : Cond.code yX12_write cX12_write 6 (some .int) ∈ wsL_law := wlm_39 _ (List.mem_of_getElem? (i := 7) rfl)
theorem wd_947 : Cond.methodLink RL 140 yX11_count ∈ wsL_law := wlm_39 _ (List.mem_of_getElem? (i := 11) rfl)
theorem wd_948 : Cond.instanceMethod yX11_count ∈ wsL_law := wlm_39 _ (List.mem_of_getElem? (i := 12) rfl)
theorem wd_949 : Cond.selects RX11 yX11_count yX11_count ∈ wsL_law := wlm_39 _ (List.mem_of_getElem? (i := 13) rfl)
theorem wd_950 : Cond.code yX11_count cX11_count 2 (some .int) ∈ wsL_law := wlm_39 _ (List.mem_of_getElem? (i := 14) rfl)
theorem wd_951 : Cond.fieldLink RX11 266 "BittenStick$Land" "length" "I" ∈ wsL_law := wlm_39 _ (List.mem_of_getElem? (i := 15) rfl)
theorem wd_952 : Cond.sameField "BittenStick$Land" "BittenStick$Text" "length" "I" ∈ wsL_law := wlm_39 _ (List.mem_of_getElem? (i := 16) rfl)
theorem wd_953 : Cond.fieldLink RX11 267 "BittenStick$Passengers" "length" "I" ∈ wsL_law := wlm_39 _ (List.mem_of_getElem? (i := 17) rfl)
theorem wd_954 : Cond.sameField "BittenStick$Passengers" "BittenStick$Text" "length" "I" ∈ wsL_law := wlm_39 _ (List.mem_of_getElem? (i := 18) rfl)
theorem wd_955 : Cond.fieldLink RX11 268 "BittenStick$Geese" "length" "I" ∈ wsL_law := wlm_39 _ (List.mem_of_getElem? (i := 19) rfl)
theorem wd_956 : Cond.sameField "BittenStick$Geese" "BittenStick$Text" "length" "I" ∈ wsL_law := wlm_39 _ (List.mem_of_getElem? (i := 20) rfl)
theorem wd_957 : Cond.methodLink RL 143 yX12_count ∈ wsL_law := wlm_39 _ (List.mem_of_getElem? (i := 21) rfl)
theorem wd_958 : Cond.instanceMethod yX12_count ∈ wsL_law := wlm_39 _ (List.mem_of_getElem? (i := 22) rfl)
theorem wd_959 : Cond.selects RX12 yX12_count yX12_count ∈ wsL_law := wlm_39 _ (List.mem_of_getElem? (i := 23) rfl)
theorem wlm_40 : ∀ w ∈ wsL_law_r41, w ∈ wsL_law := fun _ h => List.mem_append_left _ (List.mem_append_left _ (List.mem_append_left _ (List.mem_append_left _ (List.mem_append_left _ (List.mem_append_left _ (List.mem_append_left _ (List.mem_append_left _ (List.mem_append_left _ (List.mem_append_left _ (List.mem_append_left _ (List.mem_append_left _ (List.mem_append_left _ (List.mem_append_right _ (List.mem_append_right _ (List.mem_append_right _ (List.mem_append_right _ (List.mem_append_right _ (List.mem_append_right _ (List.mem_append_right _ (List.mem_append_right _ (List.mem_append_right _ (List.mem_append_right _ (List.mem_append_right _ (List.mem_append_right _ (List.mem_append_right _ (List.mem_append_right _ (List.mem_append_right _ (List.mem_append_right _ (List.mem_append_right _ (List.mem_append_right _ (List.mem_append_right _ (List.mem_append_right _ (List.mem_append_right _ (List.mem_append_right _ (List.mem_append_right _ (List.mem_append_right _ (List.mem_append_right _ (List.mem_append_right _ (List.mem_append_right _ (List.mem_append_right _ (List.mem_append_right _ (List.mem_append_right _ (List.mem_append_right _ (List.mem_append_right _ (List.mem_append_right _ (List.mem_append_right _ (List.mem_append_right _ (List.mem_append_right _ (List.mem_append_right _ (List.mem_append_right _ (List.mem_append_right _ (List.mem_append_right _ (List.mem_append_left _ h)))))))))))))))))))))))))))))))))))))))))))))))))))))
theorem wd_960 : Cond.code yX12_count cX12_count 2 (some .int) ∈ wsL_law := wlm_40 _ (List.mem_of_getElem? (i := 0) rfl)
theorem wd_961 : Cond.methodLink RL 144 yX11_digest ∈ wsL_law := wlm_40 _ (List.mem_of_getElem? (i := 1) rfl)
theorem wd_962 : Cond.instanceMethod yX11_digest ∈ wsL_law := wlm_40 _ (List.mem_of_getElem? (i := 2) rfl)
theorem wd_963 : Cond.selects RX11 yX11_digest yX11_digest ∈ wsL_law := wlm_40 _ (List.mem_of_getElem? (i := 3) rfl)
theorem wd_964 : Cond.code yX11_digest cX11_digest 5 (some .long) ∈ wsL_law := wlm_40 _ (List.mem_of_getElem? (i := 4) rfl)
theorem wd_965 : Cond.constantLong RX11 272 (17) ∈ wsL_law := wlm_40 _ (List.mem_of_getElem? (i := 5) rfl)
theorem wd_966 : Cond.constantLong RX11 274 (31) ∈ wsL_law := wlm_40 _ (List.mem_of_getElem? (i := 6) rfl)
theorem wd_967 : Cond.methodLink RX11 276 yX11_count ∈ wsL_law := wlm_40 _ (List.mem_of_getElem? (i := 7) rfl)
theorem wd_968 : Cond.methodLink RX11 279 yX11_fault ∈ wsL_law := wlm_40 _ (List.mem_of_getElem? (i := 8) rfl)
theorem wlm_41 : ∀ w ∈ wsL_law_r42, w ∈ wsL_law := fun _ h => List.mem_append_left _ (List.mem_append_left _ (List.mem_append_left _ (List.mem_append_left _ (List.mem_append_left _ (List.mem_append_left _ (List.mem_append_left _ (List.mem_append_left _ (List.mem_append_left _ (List.mem_append_left _ (List.mem_append_left _ (List.mem_append_left _ (List.mem_append_left _ (List.mem_append_right _ (List.mem_append_right _ (List.mem_append_right _ (List.mem_append_right _ (List.mem_append_right _ (List.mem_append_right _ (List.mem_append_right _ (List.mem_append_right _ (List.mem_append_right _ (List.mem_append_right _ (List.mem_append_right _ (List.mem_append_right _ (List.mem_append_right _ (List.mem_append_right _ (List.mem_append_right _ (List.mem_append_right _ (List.mem_append_right _ (List.mem_append_right _ (List.mem_append_right _ (List.mem_append_right _ (List.mem_append_right _ (List.mem_append_right _ (List.mem_append_right _ (List.mem_append_right _ (List.mem_append_right _ (List.mem_append_right _ (List.mem_append_right _ (List.mem_append_right _ (List.mem_append_right _ (List.mem_append_right _ (List.mem_append_right _ (List.mem_append_right _ (List.mem_append_right _ (List.mem_append_right _ (List.mem_append_right _ (List.mem_append_right _ (List.mem_append_right _ (List.mem_append_right _ (List.mem_append_right _ (List.mem_append_right _ (List.mem_append_right _ (h))))))))))))))))))))))))))))))))))))))))))))))))))))))
theorem wd_984 : Cond.methodLink RX11 298 yX11_farthest ∈ wsL_law := wlm_41 _ (List.mem_of_getElem? (i := 0) rfl)
theorem wd_985 : Cond.methodLink RX11 301 yX11_lakes ∈ wsL_law := wlm_41 _ (List.mem_of_getElem? (i := 1) rfl)
theorem wd_986 : Cond.methodLink RL 148 yX12_digest ∈ wsL_law := wlm_41 _ (List.mem_of_getElem? (i := 2) rfl)
theorem wd_987 : Cond.instanceMethod yX12_digest ∈ wsL_law := wlm_41 _ (List.mem_of_getElem? (i := 3) rfl)
theorem wd_988 : Cond.selects RX12 yX12_digest yX12_digest ∈ wsL_law := wlm_41 _ (List.mem_of_getElem? (i := 4) rfl)
theorem wd_989 : Cond.code yX12_digest cX12_digest 5 (some .long) ∈ wsL_law := wlm_41 _ (List.mem_of_getElem? (i := 5) rfl)
theorem wd_990 : Cond.constantLong RX12 303 (17) ∈ wsL_law := wlm_41 _ (List.mem_of_getElem? (i := 6) rfl)
theorem wd_991 : Cond.constantLong RX12 294 (31) ∈ wsL_law := wlm_41 _ (List.mem_of_getElem? (i := 7) rfl)
theorem wd_992 : Cond.methodLink RX12 305 yX12_count ∈ wsL_law := wlm_41 _ (List.mem_of_getElem? (i := 8) rfl)
end
section
theorem lw_ps {big ws : List Cond} (ps : List Nat) (hp : ws = ps.filterMap (fun i => big[i]?)) : ∀ w ∈ ws, w ∈ big := by
  intro w hw
  rw [hp] at hw
  obtain ⟨i, -, hi⟩ := List.mem_filterMap.mp hw
  exact List.mem_of_getElem? hi
set_option maxRecDepth 20000 in
theorem lwi_wsL_law_r1 : ∀ w ∈ wsL_law_r1, w ∈ lw_tbl := lw_ps [71, 72, 55, 820, 821, 68, 73, 74, 75, 76, 77, 78, 79, 80, 57, 327, 122, 123, 59, 328, 133, 134, 60, 329] rfl
set_option maxRecDepth 20000 in
theorem lwi_wsL_law_r2 : ∀ w ∈ wsL_law_r2, w ∈ lw_tbl := lw_ps [144, 145, 61, 330, 158, 159, 62, 331, 254, 255, 64, 332, 273, 274, 65, 333, 292, 293, 66, 334, 121, 335, 336, 337] rfl
set_option maxRecDepth 20000 in
theorem lwi_wsL_law_r3 : ∀ w ∈ wsL_law_r3, w ∈ lw_tbl := lw_ps [303, 338, 305, 67, 81, 82, 83, 84, 85, 56, 86, 87, 100, 88, 89, 58, 90, 91, 124, 125, 126, 127, 135, 136] rfl
set_option maxRecDepth 20000 in
theorem lwi_wsL_law_r4 : ∀ w ∈ wsL_law_r4, w ∈ lw_tbl := lw_ps [137, 138, 147, 148, 149, 150, 160, 161, 162, 163, 164, 165, 63, 191, 192, 193, 195, 187, 189, 190, 167, 168, 169, 257] rfl
set_option maxRecDepth 20000 in
theorem lwi_wsL_law_r5 : ∀ w ∈ wsL_law_r5, w ∈ lw_tbl := lw_ps [258, 259, 276, 277, 278, 291, 279, 295, 296, 297, 307, 308, 309, 310, 312, 822, 823, 824, 825, 827, 828, 829, 830, 832] rfl
set_option maxRecDepth 20000 in
theorem lwi_wsL_law_r6 : ∀ w ∈ wsL_law_r6, w ∈ lw_tbl := lw_ps [833, 835, 837, 839, 841, 843, 850, 851, 852, 854, 855, 826, 847, 373, 374, 375, 376, 92, 377, 379, 3, 380, 381, 383] rfl
set_option maxRecDepth 20000 in
theorem lwi_wsL_law_r7 : ∀ w ∈ wsL_law_r7, w ∈ lw_tbl := lw_ps [384, 382, 387, 93, 385, 386, 388, 390, 391, 389, 394, 395, 397, 398, 399, 400, 401, 402, 403, 404, 405, 406, 407, 408] rfl
set_option maxRecDepth 20000 in
theorem lwi_wsL_law_r8 : ∀ w ∈ wsL_law_r8, w ∈ lw_tbl := lw_ps [409, 410, 1250, 0, 412, 413, 107, 414, 416, 417, 415, 420, 418, 419, 421, 423, 424, 425, 426, 427, 428, 429, 430, 431] rfl
set_option maxRecDepth 20000 in
theorem lwi_wsL_law_r9 : ∀ w ∈ wsL_law_r9, w ∈ lw_tbl := lw_ps [432, 1, 2, 392, 393, 958, 959, 960, 961, 965, 962, 963, 964, 929, 926, 927, 928, 433, 434, 435, 436, 437, 439, 440] rfl
set_option maxRecDepth 20000 in
theorem lwi_wsL_law_r10 : ∀ w ∈ wsL_law_r10, w ∈ lw_tbl := lw_ps [438, 443, 444, 445, 446, 441, 442, 966, 967, 968, 969, 447, 448, 449, 450, 970, 971, 972, 973, 451, 452, 453, 454, 101] rfl
set_option maxRecDepth 20000 in
theorem lwi_wsL_law_r11 : ∀ w ∈ wsL_law_r11, w ∈ lw_tbl := lw_ps [974, 975, 976, 977, 978, 980, 22, 981, 982, 984, 23, 985, 834, 986, 987, 988, 989, 990, 991, 992, 993, 994, 996, 24] rfl
set_option maxRecDepth 20000 in
theorem lwi_wsL_law_r12 : ∀ w ∈ wsL_law_r12, w ∈ lw_tbl := lw_ps [997, 836, 998, 999, 1000, 1001, 1002, 1003, 1004, 1005, 1007, 25, 1008, 838, 1009, 1010, 1011, 455, 456, 457, 458, 106, 103, 459] rfl
set_option maxRecDepth 20000 in
theorem lwi_wsL_law_r13 : ∀ w ∈ wsL_law_r13, w ∈ lw_tbl := lw_ps [460, 462, 1012, 1013, 1014, 1015, 1020, 1016, 1018, 26, 1019, 463, 464, 465, 466, 467, 468, 470, 471, 472, 473, 474, 475, 476] rfl
set_option maxRecDepth 20000 in
theorem lwi_wsL_law_r14 : ∀ w ∈ wsL_law_r14, w ∈ lw_tbl := lw_ps [477, 478, 479, 1021, 1022, 1023, 1024, 925, 1025, 1027, 27, 1028, 480, 481, 482, 483, 484, 485, 486, 487, 488, 489, 490, 491] rfl
set_option maxRecDepth 20000 in
theorem lwi_wsL_law_r15 : ∀ w ∈ wsL_law_r15, w ∈ lw_tbl := lw_ps [492, 493, 1029, 1030, 1031, 1032, 1033, 1035, 28, 1036, 1037, 1038, 1039, 494, 495, 496, 497, 498, 499, 500, 501, 151, 1040, 1041] rfl
set_option maxRecDepth 20000 in
theorem lwi_wsL_law_r16 : ∀ w ∈ wsL_law_r16, w ∈ lw_tbl := lw_ps [1042, 1043, 1044, 1045, 840, 502, 503, 504, 505, 152, 1046, 1047, 1048, 1049, 506, 507, 508, 509, 313, 317, 510, 512, 4, 513] rfl
set_option maxRecDepth 20000 in
theorem lwi_wsL_law_r17 : ∀ w ∈ wsL_law_r17, w ∈ lw_tbl := lw_ps [514, 516, 5, 517, 341, 518, 519, 520, 521, 316, 1050, 1051, 1052, 1053, 922, 923, 924, 930, 932, 20, 933, 831, 1054, 522] rfl
set_option maxRecDepth 20000 in
theorem lwi_wsL_law_r18 : ∀ w ∈ wsL_law_r18, w ∈ lw_tbl := lw_ps [523, 524, 525, 340, 1055, 1056, 1057, 1058, 1059, 842, 526, 527, 528, 529, 218, 530, 531, 532, 533, 534, 536, 6, 537, 210] rfl
set_option maxRecDepth 20000 in
theorem lwi_wsL_law_r19 : ∀ w ∈ wsL_law_r19, w ∈ lw_tbl := lw_ps [538, 539, 540, 541, 542, 544, 7, 545, 546, 547, 548, 549, 550, 551, 552, 553, 554, 555, 556, 557, 558, 198, 201, 203] rfl
set_option maxRecDepth 20000 in
theorem lwi_wsL_law_r20 : ∀ w ∈ wsL_law_r20, w ∈ lw_tbl := lw_ps [204, 206, 208, 171, 172, 104, 559, 560, 561, 562, 563, 564, 565, 566, 175, 567, 568, 569, 570, 170, 174, 177, 571, 572] rfl
set_option maxRecDepth 20000 in
theorem lwi_wsL_law_r21 : ∀ w ∈ wsL_law_r21, w ∈ lw_tbl := lw_ps [573, 574, 575, 173, 576, 577, 578, 579, 580, 581, 582, 583, 584, 585, 586, 587, 588, 589, 590, 591, 212, 214, 217, 592] rfl
set_option maxRecDepth 20000 in
theorem lwi_wsL_law_r22 : ∀ w ∈ wsL_law_r22, w ∈ lw_tbl := lw_ps [593, 594, 595, 596, 597, 598, 599, 600, 209, 601, 602, 603, 604, 605, 606, 607, 608, 1060, 1061, 1062, 1063, 1064, 1066, 29] rfl
set_option maxRecDepth 20000 in
theorem lwi_wsL_law_r23 : ∀ w ∈ wsL_law_r23, w ∈ lw_tbl := lw_ps [1067, 1068, 1070, 30, 1071, 1072, 1074, 31, 1075, 1076, 1078, 32, 1079, 844, 845, 846, 848, 849, 1080, 1082, 33, 1083, 1084, 1086] rfl
set_option maxRecDepth 20000 in
theorem lwi_wsL_law_r24 : ∀ w ∈ wsL_law_r24, w ∈ lw_tbl := lw_ps [34, 1087, 1088, 1090, 35, 1091, 1092, 1093, 1094, 1095, 1097, 36, 1098, 1099, 1101, 37, 1102, 609, 610, 611, 612, 613, 614, 616] rfl
set_option maxRecDepth 20000 in
theorem lwi_wsL_law_r25 : ∀ w ∈ wsL_law_r25, w ∈ lw_tbl := lw_ps [8, 617, 199, 213, 216, 618, 619, 620, 622, 9, 623, 194, 176, 196, 624, 1103, 1104, 1105, 1106, 1107, 1109, 38, 1110, 625] rfl
set_option maxRecDepth 20000 in
theorem lwi_wsL_law_r26 : ∀ w ∈ wsL_law_r26, w ∈ lw_tbl := lw_ps [626, 627, 628, 1111, 1112, 1113, 1114, 1115, 1117, 39, 1118, 629, 630, 631, 632, 633, 634, 635, 636, 260, 202, 638, 637, 639] rfl
set_option maxRecDepth 20000 in
theorem lwi_wsL_law_r27 : ∀ w ∈ wsL_law_r27, w ∈ lw_tbl := lw_ps [640, 642, 10, 643, 211, 215, 644, 646, 11, 647, 261, 262, 263, 648, 649, 650, 651, 1119, 1120, 1121, 1122, 1123, 1124, 1126] rfl
set_option maxRecDepth 20000 in
theorem lwi_wsL_law_r28 : ∀ w ∈ wsL_law_r28, w ∈ lw_tbl := lw_ps [40, 1127, 652, 653, 654, 655, 656, 657, 69, 658, 659, 660, 661, 1128, 1129, 1130, 1131, 1132, 1134, 41, 1135, 1136, 1137, 1138] rfl
set_option maxRecDepth 20000 in
theorem lwi_wsL_law_r29 : ∀ w ∈ wsL_law_r29, w ∈ lw_tbl := lw_ps [662, 663, 664, 665, 108, 109, 1139, 1140, 1141, 1142, 1143, 1145, 42, 1146, 666, 667, 668, 669, 339, 1147, 1148, 1149, 1150, 1151] rfl
set_option maxRecDepth 20000 in
theorem lwi_wsL_law_r30 : ∀ w ∈ wsL_law_r30, w ∈ lw_tbl := lw_ps [853, 670, 671, 672, 673, 1152, 1153, 1154, 1155, 674, 675, 676, 677, 678, 680, 12, 681, 205, 1156, 1157, 1158, 1159, 1160, 1162] rfl
set_option maxRecDepth 20000 in
theorem lwi_wsL_law_r31 : ∀ w ∈ wsL_law_r31, w ∈ lw_tbl := lw_ps [43, 1163, 1164, 1166, 44, 1167, 682, 683, 684, 685, 1168, 1169, 1170, 1171, 1172, 1174, 45, 1175, 686, 687, 688, 689, 690, 691] rfl
set_option maxRecDepth 20000 in
theorem lwi_wsL_law_r32 : ∀ w ∈ wsL_law_r32, w ∈ lw_tbl := lw_ps [693, 13, 694, 695, 1176, 1177, 1178, 1179, 1180, 1182, 46, 1183, 1184, 1186, 47, 1187, 696, 697, 698, 699, 705, 281, 283, 700] rfl
set_option maxRecDepth 20000 in
theorem lwi_wsL_law_r33 : ∀ w ∈ wsL_law_r33, w ∈ lw_tbl := lw_ps [701, 702, 703, 105, 704, 706, 707, 708, 709, 280, 282, 197, 200, 188, 102, 714, 207, 710, 712, 14, 713, 715, 716, 718] rfl
set_option maxRecDepth 20000 in
theorem lwi_wsL_law_r34 : ∀ w ∈ wsL_law_r34, w ∈ lw_tbl := lw_ps [15, 719, 720, 721, 723, 16, 724, 725, 726, 727, 729, 17, 730, 731, 1188, 1189, 1190, 1191, 1196, 1192, 1194, 48, 1195, 1197] rfl
set_option maxRecDepth 20000 in
theorem lwi_wsL_law_r35 : ∀ w ∈ wsL_law_r35, w ∈ lw_tbl := lw_ps [1199, 49, 1200, 1201, 1203, 50, 1204, 1205, 1206, 1207, 1208, 1209, 1210, 1211, 732, 733, 734, 735, 110, 111, 299, 736, 737, 738] rfl
set_option maxRecDepth 20000 in
theorem lwi_wsL_law_r36 : ∀ w ∈ wsL_law_r36, w ∈ lw_tbl := lw_ps [739, 740, 298, 1212, 1213, 1214, 1215, 1216, 1217, 1219, 51, 1220, 856, 1221, 1223, 52, 1224, 1225, 741, 742, 743, 744, 745, 746] rfl
set_option maxRecDepth 20000 in
theorem lwi_wsL_law_r37 : ∀ w ∈ wsL_law_r37, w ∈ lw_tbl := lw_ps [747, 748, 749, 750, 751, 314, 752, 753, 918, 919, 920, 921, 754, 755, 756, 757, 934, 935, 936, 937, 758, 759, 760, 761] rfl
set_option maxRecDepth 20000 in
theorem lwi_wsL_law_r38 : ∀ w ∈ wsL_law_r38, w ∈ lw_tbl := lw_ps [762, 764, 18, 765, 315, 766, 767, 768, 769, 770, 771, 772, 773, 938, 939, 940, 941, 942, 944, 21, 945, 946, 947, 948] rfl
set_option maxRecDepth 20000 in
theorem lwi_wsL_law_r39 : ∀ w ∈ wsL_law_r39, w ∈ lw_tbl := lw_ps [774, 775, 776, 777, 778, 949, 950, 951, 952, 953, 779, 780, 781, 782, 311, 783, 785, 784, 70, 954, 955, 956, 957, 786] rfl
set_option maxRecDepth 20000 in
theorem lwi_wsL_law_r40 : ∀ w ∈ wsL_law_r40, w ∈ lw_tbl := lw_ps [787, 788, 789, 790, 1226, 1227, 1228, 1229, 1230, 1231, 1232, 791, 792, 793, 794, 94, 95, 96, 97, 98, 99, 1233, 1234, 1235] rfl
set_option maxRecDepth 20000 in
theorem lwi_wsL_law_r41 : ∀ w ∈ wsL_law_r41, w ∈ lw_tbl := lw_ps [1236, 795, 796, 797, 798, 799, 800, 801, 802, 803, 804, 805, 806, 807, 809, 19, 810, 811, 812, 813, 814, 815, 816, 817] rfl
set_option maxRecDepth 20000 in
theorem lwi_wsL_law_r42 : ∀ w ∈ wsL_law_r42, w ∈ lw_tbl := lw_ps [818, 819, 1237, 1238, 1239, 1240, 1241, 1242, 1243, 1244, 1246, 53, 1247, 1248, 1249] rfl
set_option maxRecDepth 20000 in
theorem lwi_wsX110 : ∀ w ∈ wsX110, w ∈ lw_tbl := lw_ps [342, 344, 346, 348, 350, 352, 354, 356, 358, 360, 362, 364, 366, 368, 370] rfl
set_option maxRecDepth 20000 in
theorem lwi_wsX120 : ∀ w ∈ wsX120, w ∈ lw_tbl := lw_ps [857, 859, 861, 863, 865, 867, 869, 871, 873, 875, 877, 879, 881, 883, 885, 887, 889, 891, 893, 895, 897, 899, 901, 903, 905, 907, 909, 911, 913, 915] rfl
set_option maxRecDepth 20000 in
theorem lwi_wsX40 : ∀ w ∈ wsX40, w ∈ lw_tbl := lw_ps [112, 114, 116, 118] rfl
set_option maxRecDepth 20000 in
theorem lwi_wsX70 : ∀ w ∈ wsX70, w ∈ lw_tbl := lw_ps [128, 129, 130, 131] rfl
set_option maxRecDepth 20000 in
theorem lwi_wsX20 : ∀ w ∈ wsX20, w ∈ lw_tbl := lw_ps [139, 140, 141, 142] rfl
set_option maxRecDepth 20000 in
theorem lwi_wsX10 : ∀ w ∈ wsX10, w ∈ lw_tbl := lw_ps [153, 155] rfl
set_option maxRecDepth 20000 in
theorem lwi_wsX100 : ∀ w ∈ wsX100, w ∈ lw_tbl := lw_ps [219, 221, 223, 225, 227, 229, 231, 233, 235, 237, 239, 241, 243, 245, 247, 249, 251] rfl
set_option maxRecDepth 20000 in
theorem lwi_wsX00 : ∀ w ∈ wsX00, w ∈ lw_tbl := lw_ps [264, 266, 268, 270] rfl
set_option maxRecDepth 20000 in
theorem lwi_wsX50 : ∀ w ∈ wsX50, w ∈ lw_tbl := lw_ps [284, 286, 288] rfl
set_option maxRecDepth 20000 in
theorem lwi_wsX60 : ∀ w ∈ wsX60, w ∈ lw_tbl := lw_ps [300] rfl
set_option maxRecDepth 20000 in
theorem lwi_wsX80 : ∀ w ∈ wsX80, w ∈ lw_tbl := lw_ps [318, 320, 322, 324] rfl
set_option maxRecDepth 20000 in
theorem lwi_wsX30 : ∀ w ∈ wsX30, w ∈ lw_tbl := lw_ps [178, 180, 182, 184] rfl
theorem wsL_law_in : ∀ w ∈ wsL_law, w ∈ lw_tbl := by
  intro w h
  rcases List.mem_append.mp h with h | h
  case inr => exact absurd h List.not_mem_nil
  rcases List.mem_append.mp h with h | h
  case inr => exact lwi_wsX30 w h
  rcases List.mem_append.mp h with h | h
  case inr => exact lwi_wsX80 w h
  rcases List.mem_append.mp h with h | h
  case inr => exact lwi_wsX60 w h
  rcases List.mem_append.mp h with h | h
  case inr => exact lwi_wsX50 w h
  rcases List.mem_append.mp h with h | h
  case inr => exact lwi_wsX00 w h
  rcases List.mem_append.mp h with h | h
  case inr => exact lwi_wsX100 w h
  rcases List.mem_append.mp h with h | h
  case inr => exact lwi_wsX10 w h
  rcases List.mem_append.mp h with h | h
  case inr => exact lwi_wsX20 w h
  rcases List.mem_append.mp h with h | h
  case inr => exact lwi_wsX70 w h
  rcases List.mem_append.mp h with h | h
  case inr => exact lwi_wsX40 w h
  rcases List.mem_append.mp h with h | h
  case inr => exact lwi_wsX120 w h
  rcases List.mem_append.mp h with h | h
  case inr => exact lwi_wsX110 w h
  rcases List.mem_append.mp h with h | h
  case inl => exact lwi_wsL_law_r1 w h
  rcases List.mem_append.mp h with h | h
  case inl => exact lwi_wsL_law_r2 w h
  rcases List.mem_append.mp h with h | h
  case inl => exact lwi_wsL_law_r3 w h
  rcases List.mem_append.mp h with h | h
  case inl => exact lwi_wsL_law_r4 w h
  rcases List.mem_append.mp h with h | h
  case inl => exact lwi_wsL_law_r5 w h
  rcases List.mem_append.mp h with h | h
  case inl => exact lwi_wsL_law_r6 w h
  rcases List.mem_append.mp h with h | h
  case inl => exact lwi_wsL_law_r7 w h
  rcases List.mem_append.mp h with h | h
  case inl => exact lwi_wsL_law_r8 w h
  rcases List.mem_append.mp h with h | h
  case inl => exact lwi_wsL_law_r9 w h
  rcases List.mem_append.mp h with h | h
  case inl => exact lwi_wsL_law_r10 w h
  rcases List.mem_append.mp h with h | h
  case inl => exact lwi_wsL_law_r11 w h
  rcases List.mem_append.mp h with h | h
  case inl => exact lwi_wsL_law_r12 w h
  rcases List.mem_append.mp h with h | h
  case inl => exact lwi_wsL_law_r13 w h
  rcases List.mem_append.mp h with h | h
  case inl => exact lwi_wsL_law_r14 w h
  rcases List.mem_append.mp h with h | h
  case inl => exact lwi_wsL_law_r15 w h
  rcases List.mem_append.mp h with h | h
  case inl => exact lwi_wsL_law_r16 w h
  rcases List.mem_append.mp h with h | h
  case inl => exact lwi_wsL_law_r17 w h
  rcases List.mem_append.mp h with h | h
  case inl => exact lwi_wsL_law_r18 w h
  rcases List.mem_append.mp h with h | h
  case inl => exact lwi_wsL_law_r19 w h
  rcases List.mem_append.mp h with h | h
  case inl => exact lwi_wsL_law_r20 w h
  rcases List.mem_append.mp h with h | h
  case inl => exact lwi_wsL_law_r21 w h
  rcases List.mem_append.mp h with h | h
  case inl => exact lwi_wsL_law_r22 w h
  rcases List.mem_append.mp h with h | h
  case inl => exact lwi_wsL_law_r23 w h
  rcases List.mem_append.mp h with h | h
  case inl => exact lwi_wsL_law_r24 w h
  rcases List.mem_append.mp h with h | h
  case inl => exact lwi_wsL_law_r25 w h
  rcases List.mem_append.mp h with h | h
  case inl => exact lwi_wsL_law_r26 w h
  rcases List.mem_append.mp h with h | h
  case inl => exact lwi_wsL_law_r27 w h
  rcases List.mem_append.mp h with h | h
  case inl => exact lwi_wsL_law_r28 w h
  rcases List.mem_append.mp h with h | h
  case inl => exact lwi_wsL_law_r29 w h
  rcases List.mem_append.mp h with h | h
  case inl => exact lwi_wsL_law_r30 w h
  rcases List.mem_append.mp h with h | h
  case inl => exact lwi_wsL_law_r31 w h
  rcases List.mem_append.mp h with h | h
  case inl => exact lwi_wsL_law_r32 w h
  rcases List.mem_append.mp h with h | h
  case inl => exact lwi_wsL_law_r33 w h
  rcases List.mem_append.mp h with h | h
  case inl => exact lwi_wsL_law_r34 w h
  rcases List.mem_append.mp h with h | h
  case inl => exact lwi_wsL_law_r35 w h
  rcases List.mem_append.mp h with h | h
  case inl => exact lwi_wsL_law_r36 w h
  rcases List.mem_append.mp h with h | h
  case inl => exact lwi_wsL_law_r37 w h
  rcases List.mem_append.mp h with h | h
  case inl => exact lwi_wsL_law_r38 w h
  rcases List.mem_append.mp h with h | h
  case inl => exact lwi_wsL_law_r39 w h
  rcases List.mem_append.mp h with h | h
  case inl => exact lwi_wsL_law_r40 w h
  rcases List.mem_append.mp h with h | h
  case inl => exact lwi_wsL_law_r41 w h
  exact lwi_wsL_law_r42 w h
end
section
theorem dX0_init_0 : decode cX0_init 0 = .ok (.aload_n 0, 1) := by decide +kernel
theorem dX0_init_1 : decode cX0_init 1 = .ok (.invokespecial 3, 3) := by decide +kernel
theorem dX0_init_4 : decode cX0_init 4 = .ok (.return_, 1) := by decide +kernel
theorem dX1_init_0 : decode cX1_init 0 = .ok (.aload_n 0, 1) := by decide +kernel
theorem dX1_init_1 : decode cX1_init 1 = .ok (.invokespecial 3, 3) := by decide +kernel
theorem dX1_init_4 : decode cX1_init 4 = .ok (.aload_n 0, 1) := by decide +kernel
theorem dX1_init_5 : decode cX1_init 5 = .ok (.bipush 32, 2) := by decide +kernel
theorem dX1_init_7 : decode cX1_init 7 = .ok (.newarray .int, 2) := by decide +kernel
theorem dX1_init_9 : decode cX1_init 9 = .ok (.putfield 9, 3) := by decide +kernel
theorem dX1_init_12 : decode cX1_init 12 = .ok (.return_, 1) := by decide +kernel
theorem dX1_append_0 : decode cX1_append 0 = .ok (.iload_n 1, 1) := by decide +kernel
theorem dX1_append_1 : decode cX1_append 1 = .ok (.ifCond .lt 47, 3) := by decide +kernel
theorem dX1_append_4 : decode cX1_append 4 = .ok (.iload_n 1, 1) := by decide +kernel
theorem dX1_append_5 : decode cX1_append 5 = .ok (.bipush 7, 2) := by decide +kernel
theorem dX1_append_7 : decode cX1_append 7 = .ok (.if_icmp .gt 41, 3) := by decide +kernel
theorem dX1_append_10 : decode cX1_append 10 = .ok (.iload_n 2, 1) := by decide +kernel
theorem dX1_append_11 : decode cX1_append 11 = .ok (.ifCond .lt 37, 3) := by decide +kernel
theorem dX1_append_14 : decode cX1_append 14 = .ok (.iload_n 2, 1) := by decide +kernel
theorem dX1_append_15 : decode cX1_append 15 = .ok (.bipush 7, 2) := by decide +kernel
theorem dX1_append_17 : decode cX1_append 17 = .ok (.if_icmp .gt 31, 3) := by decide +kernel
theorem dX1_append_20 : decode cX1_append 20 = .ok (.iload_n 3, 1) := by decide +kernel
theorem dX1_append_21 : decode cX1_append 21 = .ok (.ifCond .lt 27, 3) := by decide +kernel
theorem dX1_append_24 : decode cX1_append 24 = .ok (.iload_n 3, 1) := by decide +kernel
theorem dX1_append_25 : decode cX1_append 25 = .ok (.bipush 7, 2) := by decide +kernel
theorem dX1_append_27 : decode cX1_append 27 = .ok (.if_icmp .gt 21, 3) := by decide +kernel
theorem dX1_append_30 : decode cX1_append 30 = .ok (.iload_n 2, 1) := by decide +kernel
theorem dX1_append_31 : decode cX1_append 31 = .ok (.iload_n 3, 1) := by decide +kernel
theorem dX1_append_32 : decode cX1_append 32 = .ok (.if_icmp .eq 16, 3) := by decide +kernel
theorem dX1_append_35 : decode cX1_append 35 = .ok (.iload 4, 2) := by decide +kernel
theorem dX1_append_37 : decode cX1_append 37 = .ok (.iconst 1, 1) := by decide +kernel
theorem dX1_append_38 : decode cX1_append 38 = .ok (.if_icmp .lt 10, 3) := by decide +kernel
theorem dX1_append_41 : decode cX1_append 41 = .ok (.iload 4, 2) := by decide +kernel
theorem dX1_append_43 : decode cX1_append 43 = .ok (.bipush 9, 2) := by decide +kernel
theorem dX1_append_45 : decode cX1_append 45 = .ok (.if_icmp .le 6, 3) := by decide +kernel
theorem dX1_append_48 : decode cX1_append 48 = .ok (.bipush (-2), 2) := by decide +kernel
theorem dX1_append_50 : decode cX1_append 50 = .ok (.ireturn, 1) := by decide +kernel
theorem dX1_append_51 : decode cX1_append 51 = .ok (.aload_n 0, 1) := by decide +kernel
theorem dX1_append_52 : decode cX1_append 52 = .ok (.getfield 15, 3) := by decide +kernel
theorem dX1_append_55 : decode cX1_append 55 = .ok (.ifCond .lt 12, 3) := by decide +kernel
theorem dX1_append_58 : decode cX1_append 58 = .ok (.aload_n 0, 1) := by decide +kernel
theorem dX1_append_59 : decode cX1_append 59 = .ok (.getfield 15, 3) := by decide +kernel
theorem dX1_append_62 : decode cX1_append 62 = .ok (.bipush 8, 2) := by decide +kernel
theorem dX1_append_64 : decode cX1_append 64 = .ok (.if_icmp .lt 6, 3) := by decide +kernel
theorem dX1_append_70 : decode cX1_append 70 = .ok (.aload_n 0, 1) := by decide +kernel
theorem dX1_append_71 : decode cX1_append 71 = .ok (.getfield 9, 3) := by decide +kernel
theorem dX1_append_74 : decode cX1_append 74 = .ok (.iconst 4, 1) := by decide +kernel
theorem dX1_append_75 : decode cX1_append 75 = .ok (.aload_n 0, 1) := by decide +kernel
theorem dX1_append_76 : decode cX1_append 76 = .ok (.getfield 15, 3) := by decide +kernel
theorem dX1_append_79 : decode cX1_append 79 = .ok (.imul, 1) := by decide +kernel
theorem dX1_append_80 : decode cX1_append 80 = .ok (.iload_n 1, 1) := by decide +kernel
theorem dX1_append_81 : decode cX1_append 81 = .ok (.iastore, 1) := by decide +kernel
theorem dX1_append_82 : decode cX1_append 82 = .ok (.aload_n 0, 1) := by decide +kernel
theorem dX1_append_83 : decode cX1_append 83 = .ok (.getfield 9, 3) := by decide +kernel
theorem dX1_append_86 : decode cX1_append 86 = .ok (.iconst 4, 1) := by decide +kernel
theorem dX1_append_87 : decode cX1_append 87 = .ok (.aload_n 0, 1) := by decide +kernel
theorem dX1_append_88 : decode cX1_append 88 = .ok (.getfield 15, 3) := by decide +kernel
theorem dX1_append_91 : decode cX1_append 91 = .ok (.imul, 1) := by decide +kernel
theorem dX1_append_92 : decode cX1_append 92 = .ok (.iconst 1, 1) := by decide +kernel
theorem dX1_append_93 : decode cX1_append 93 = .ok (.iadd, 1) := by decide +kernel
theorem dX1_append_94 : decode cX1_append 94 = .ok (.iload_n 2, 1) := by decide +kernel
theorem dX1_append_95 : decode cX1_append 95 = .ok (.iastore, 1) := by decide +kernel
theorem dX1_append_96 : decode cX1_append 96 = .ok (.aload_n 0, 1) := by decide +kernel
theorem dX1_append_97 : decode cX1_append 97 = .ok (.getfield 9, 3) := by decide +kernel
theorem dX1_append_100 : decode cX1_append 100 = .ok (.iconst 4, 1) := by decide +kernel
theorem dX1_append_101 : decode cX1_append 101 = .ok (.aload_n 0, 1) := by decide +kernel
theorem dX1_append_102 : decode cX1_append 102 = .ok (.getfield 15, 3) := by decide +kernel
theorem dX1_append_105 : decode cX1_append 105 = .ok (.imul, 1) := by decide +kernel
theorem dX1_append_106 : decode cX1_append 106 = .ok (.iconst 2, 1) := by decide +kernel
theorem dX1_append_107 : decode cX1_append 107 = .ok (.iadd, 1) := by decide +kernel
theorem dX1_append_108 : decode cX1_append 108 = .ok (.iload_n 3, 1) := by decide +kernel
theorem dX1_append_109 : decode cX1_append 109 = .ok (.iastore, 1) := by decide +kernel
theorem dX1_append_110 : decode cX1_append 110 = .ok (.aload_n 0, 1) := by decide +kernel
theorem dX1_append_111 : decode cX1_append 111 = .ok (.getfield 9, 3) := by decide +kernel
theorem dX1_append_114 : decode cX1_append 114 = .ok (.iconst 4, 1) := by decide +kernel
theorem dX1_append_115 : decode cX1_append 115 = .ok (.aload_n 0, 1) := by decide +kernel
theorem dX1_append_116 : decode cX1_append 116 = .ok (.getfield 15, 3) := by decide +kernel
theorem dX1_append_119 : decode cX1_append 119 = .ok (.imul, 1) := by decide +kernel
theorem dX1_append_120 : decode cX1_append 120 = .ok (.iconst 3, 1) := by decide +kernel
theorem dX1_append_121 : decode cX1_append 121 = .ok (.iadd, 1) := by decide +kernel
theorem dX1_append_122 : decode cX1_append 122 = .ok (.iload 4, 2) := by decide +kernel
theorem dX1_append_124 : decode cX1_append 124 = .ok (.iastore, 1) := by decide +kernel
theorem dX1_append_125 : decode cX1_append 125 = .ok (.aload_n 0, 1) := by decide +kernel
theorem dX1_append_126 : decode cX1_append 126 = .ok (.dup, 1) := by decide +kernel
theorem dX1_append_127 : decode cX1_append 127 = .ok (.getfield 15, 3) := by decide +kernel
theorem dX1_append_130 : decode cX1_append 130 = .ok (.iconst 1, 1) := by decide +kernel
theorem dX1_append_131 : decode cX1_append 131 = .ok (.iadd, 1) := by decide +kernel
theorem dX1_append_132 : decode cX1_append 132 = .ok (.putfield 15, 3) := by decide +kernel
theorem dX1_append_135 : decode cX1_append 135 = .ok (.aload_n 0, 1) := by decide +kernel
theorem dX1_append_136 : decode cX1_append 136 = .ok (.getfield 15, 3) := by decide +kernel
theorem dX1_append_139 : decode cX1_append 139 = .ok (.ireturn, 1) := by decide +kernel
theorem dX1_has_0 : decode cX1_has 0 = .ok (.iload_n 1, 1) := by decide +kernel
theorem dX1_has_1 : decode cX1_has 1 = .ok (.ifCond .lt 15, 3) := by decide +kernel
theorem dX1_has_4 : decode cX1_has 4 = .ok (.iload_n 1, 1) := by decide +kernel
theorem dX1_has_5 : decode cX1_has 5 = .ok (.aload_n 0, 1) := by decide +kernel
theorem dX1_has_6 : decode cX1_has 6 = .ok (.getfield 15, 3) := by decide +kernel
theorem dX1_has_9 : decode cX1_has 9 = .ok (.if_icmp .ge 7, 3) := by decide +kernel
theorem dX1_has_16 : decode cX1_has 16 = .ok (.iconst 0, 1) := by decide +kernel
theorem dX1_has_17 : decode cX1_has 17 = .ok (.ireturn, 1) := by decide +kernel
theorem dX2_init_0 : decode cX2_init 0 = .ok (.aload_n 0, 1) := by decide +kernel
theorem dX2_init_1 : decode cX2_init 1 = .ok (.bipush 23, 2) := by decide +kernel
theorem dX2_init_3 : decode cX2_init 3 = .ok (.invokespecial 3, 3) := by decide +kernel
theorem dX2_init_6 : decode cX2_init 6 = .ok (.return_, 1) := by decide +kernel
theorem dX2_worth_0 : decode cX2_worth 0 = .ok (.iload_n 1, 1) := by decide +kernel
theorem dX2_worth_1 : decode cX2_worth 1 = .ok (.iconst 3, 1) := by decide +kernel
theorem dX2_worth_2 : decode cX2_worth 2 = .ok (.irem, 1) := by decide +kernel
theorem dX2_worth_3 : decode cX2_worth 3 = .ok (.lookupswitch 67 #[(0, 25), (1, 46)], 25) := by decide +kernel
theorem dX2_worth_28 : decode cX2_worth 28 = .ok (.iload_n 2, 1) := by decide +kernel
theorem dX2_worth_29 : decode cX2_worth 29 = .ok (.bipush 49, 2) := by decide +kernel
theorem dX2_worth_31 : decode cX2_worth 31 = .ok (.if_icmp .lt 16, 3) := by decide +kernel
theorem dX2_worth_34 : decode cX2_worth 34 = .ok (.iload_n 2, 1) := by decide +kernel
theorem dX2_worth_35 : decode cX2_worth 35 = .ok (.bipush 57, 2) := by decide +kernel
theorem dX2_worth_37 : decode cX2_worth 37 = .ok (.if_icmp .gt 10, 3) := by decide +kernel
theorem dX2_worth_40 : decode cX2_worth 40 = .ok (.iload_n 2, 1) := by decide +kernel
theorem dX2_worth_41 : decode cX2_worth 41 = .ok (.bipush 48, 2) := by decide +kernel
theorem dX2_worth_43 : decode cX2_worth 43 = .ok (.isub, 1) := by decide +kernel
theorem dX2_worth_44 : decode cX2_worth 44 = .ok (.goto 4, 3) := by decide +kernel
theorem dX2_worth_47 : decode cX2_worth 47 = .ok (.iconst (-1), 1) := by decide +kernel
theorem dX2_worth_48 : decode cX2_worth 48 = .ok (.ireturn, 1) := by decide +kernel
theorem dX2_thingsIn_0 : decode cX2_thingsIn 0 = .ok (.iload_n 1, 1) := by decide +kernel
theorem dX2_thingsIn_1 : decode cX2_thingsIn 1 = .ok (.ifCond .ne 5, 3) := by decide +kernel
theorem dX2_thingsIn_4 : decode cX2_thingsIn 4 = .ok (.iconst 0, 1) := by decide +kernel
theorem dX2_thingsIn_5 : decode cX2_thingsIn 5 = .ok (.ireturn, 1) := by decide +kernel
theorem dX2_thingsIn_6 : decode cX2_thingsIn 6 = .ok (.iload_n 1, 1) := by decide +kernel
theorem dX2_thingsIn_7 : decode cX2_thingsIn 7 = .ok (.iconst 3, 1) := by decide +kernel
theorem dX2_thingsIn_8 : decode cX2_thingsIn 8 = .ok (.irem, 1) := by decide +kernel
theorem dX2_thingsIn_9 : decode cX2_thingsIn 9 = .ok (.iconst 2, 1) := by decide +kernel
theorem dX2_thingsIn_10 : decode cX2_thingsIn 10 = .ok (.if_icmp .ne 11, 3) := by decide +kernel
theorem dX2_thingsIn_21 : decode cX2_thingsIn 21 = .ok (.iconst (-1), 1) := by decide +kernel
theorem dX2_thingsIn_22 : decode cX2_thingsIn 22 = .ok (.ireturn, 1) := by decide +kernel
theorem dX3_init_0 : decode cX3_init 0 = .ok (.aload_n 0, 1) := by decide +kernel
theorem dX3_init_1 : decode cX3_init 1 = .ok (.invokespecial 1, 3) := by decide +kernel
theorem dX3_init_4 : decode cX3_init 4 = .ok (.return_, 1) := by decide +kernel
theorem dX4_init_0 : decode cX4_init 0 = .ok (.aload_n 0, 1) := by decide +kernel
theorem dX4_init_1 : decode cX4_init 1 = .ok (.bipush 24, 2) := by decide +kernel
theorem dX4_init_3 : decode cX4_init 3 = .ok (.invokespecial 3, 3) := by decide +kernel
theorem dX4_init_6 : decode cX4_init 6 = .ok (.return_, 1) := by decide +kernel
theorem dX4_worth_0 : decode cX4_worth 0 = .ok (.iload_n 2, 1) := by decide +kernel
theorem dX4_worth_1 : decode cX4_worth 1 = .ok (.bipush 97, 2) := by decide +kernel
theorem dX4_worth_3 : decode cX4_worth 3 = .ok (.if_icmp .lt 14, 3) := by decide +kernel
theorem dX4_worth_6 : decode cX4_worth 6 = .ok (.iload_n 2, 1) := by decide +kernel
theorem dX4_worth_7 : decode cX4_worth 7 = .ok (.bipush 102, 2) := by decide +kernel
theorem dX4_worth_9 : decode cX4_worth 9 = .ok (.if_icmp .gt 8, 3) := by decide +kernel
theorem dX4_worth_12 : decode cX4_worth 12 = .ok (.iload_n 2, 1) := by decide +kernel
theorem dX4_worth_13 : decode cX4_worth 13 = .ok (.bipush 97, 2) := by decide +kernel
theorem dX4_worth_15 : decode cX4_worth 15 = .ok (.isub, 1) := by decide +kernel
theorem dX4_worth_16 : decode cX4_worth 16 = .ok (.ireturn, 1) := by decide +kernel
theorem dX4_worth_17 : decode cX4_worth 17 = .ok (.iload_n 2, 1) := by decide +kernel
theorem dX4_worth_18 : decode cX4_worth 18 = .ok (.lookupswitch 43 #[(105, 37), (111, 34), (119, 40)], 34) := by decide +kernel
theorem dX4_worth_52 : decode cX4_worth 52 = .ok (.bipush 6, 2) := by decide +kernel
theorem dX4_worth_54 : decode cX4_worth 54 = .ok (.ireturn, 1) := by decide +kernel
theorem dX4_worth_55 : decode cX4_worth 55 = .ok (.bipush 7, 2) := by decide +kernel
theorem dX4_worth_57 : decode cX4_worth 57 = .ok (.ireturn, 1) := by decide +kernel
theorem dX4_worth_58 : decode cX4_worth 58 = .ok (.bipush 8, 2) := by decide +kernel
theorem dX4_worth_60 : decode cX4_worth 60 = .ok (.ireturn, 1) := by decide +kernel
theorem dX4_worth_61 : decode cX4_worth 61 = .ok (.iconst (-1), 1) := by decide +kernel
theorem dX4_worth_62 : decode cX4_worth 62 = .ok (.ireturn, 1) := by decide +kernel
theorem dX4_thingsIn_0 : decode cX4_thingsIn 0 = .ok (.iload_n 1, 1) := by decide +kernel
theorem dX4_thingsIn_1 : decode cX4_thingsIn 1 = .ok (.ireturn, 1) := by decide +kernel
theorem dX4_towns_0 : decode cX4_towns 0 = .ok (.iconst 0, 1) := by decide +kernel
theorem dX4_towns_1 : decode cX4_towns 1 = .ok (.istore_n 1, 1) := by decide +kernel
theorem dX4_towns_2 : decode cX4_towns 2 = .ok (.iconst 0, 1) := by decide +kernel
theorem dX4_towns_3 : decode cX4_towns 3 = .ok (.istore_n 2, 1) := by decide +kernel
theorem dX4_towns_4 : decode cX4_towns 4 = .ok (.iload_n 2, 1) := by decide +kernel
theorem dX4_towns_5 : decode cX4_towns 5 = .ok (.aload_n 0, 1) := by decide +kernel
theorem dX4_towns_6 : decode cX4_towns 6 = .ok (.getfield 19, 3) := by decide +kernel
theorem dX4_towns_9 : decode cX4_towns 9 = .ok (.if_icmp .ge 20, 3) := by decide +kernel
theorem dX4_towns_29 : decode cX4_towns 29 = .ok (.iload_n 1, 1) := by decide +kernel
theorem dX4_towns_30 : decode cX4_towns 30 = .ok (.ireturn, 1) := by decide +kernel
theorem dX5_init_0 : decode cX5_init 0 = .ok (.aload_n 0, 1) := by decide +kernel
theorem dX5_init_1 : decode cX5_init 1 = .ok (.invokespecial 3, 3) := by decide +kernel
theorem dX5_init_4 : decode cX5_init 4 = .ok (.aload_n 0, 1) := by decide +kernel
theorem dX5_init_5 : decode cX5_init 5 = .ok (.bipush 46, 2) := by decide +kernel
theorem dX5_init_7 : decode cX5_init 7 = .ok (.newarray .long, 2) := by decide +kernel
theorem dX5_init_9 : decode cX5_init 9 = .ok (.putfield 9, 3) := by decide +kernel
theorem dX5_init_12 : decode cX5_init 12 = .ok (.return_, 1) := by decide +kernel
theorem dX6_init_0 : decode cX6_init 0 = .ok (.aload_n 0, 1) := by decide +kernel
theorem dX6_init_1 : decode cX6_init 1 = .ok (.invokespecial 1, 3) := by decide +kernel
theorem dX6_init_4 : decode cX6_init 4 = .ok (.return_, 1) := by decide +kernel
theorem dX7_init_0 : decode cX7_init 0 = .ok (.aload_n 0, 1) := by decide +kernel
theorem dX7_init_1 : decode cX7_init 1 = .ok (.bipush 39, 2) := by decide +kernel
theorem dX7_init_3 : decode cX7_init 3 = .ok (.invokespecial 3, 3) := by decide +kernel
theorem dX7_init_6 : decode cX7_init 6 = .ok (.return_, 1) := by decide +kernel
theorem dX7_worth_0 : decode cX7_worth 0 = .ok (.iload_n 1, 1) := by decide +kernel
theorem dX7_worth_1 : decode cX7_worth 1 = .ok (.iconst 5, 1) := by decide +kernel
theorem dX7_worth_2 : decode cX7_worth 2 = .ok (.irem, 1) := by decide +kernel
theorem dX7_worth_3 : decode cX7_worth 3 = .ok (.tableswitch 71 0 4 #[33, 38, 71, 71, 59], 33) := by decide +kernel
theorem dX7_worth_36 : decode cX7_worth 36 = .ok (.iload_n 2, 1) := by decide +kernel
theorem dX7_worth_37 : decode cX7_worth 37 = .ok (.invokestatic 9, 3) := by decide +kernel
theorem dX7_worth_40 : decode cX7_worth 40 = .ok (.ireturn, 1) := by decide +kernel
theorem dX7_kind_0 : decode cX7_kind 0 = .ok (.iload_n 0, 1) := by decide +kernel
theorem dX7_kind_1 : decode cX7_kind 1 = .ok (.lookupswitch 51 #[(100, 45), (112, 47), (115, 49), (116, 43)], 43) := by decide +kernel
theorem dX7_kind_44 : decode cX7_kind 44 = .ok (.iconst 0, 1) := by decide +kernel
theorem dX7_kind_45 : decode cX7_kind 45 = .ok (.ireturn, 1) := by decide +kernel
theorem dX7_kind_46 : decode cX7_kind 46 = .ok (.iconst 1, 1) := by decide +kernel
theorem dX7_kind_47 : decode cX7_kind 47 = .ok (.ireturn, 1) := by decide +kernel
theorem dX7_kind_48 : decode cX7_kind 48 = .ok (.iconst 2, 1) := by decide +kernel
theorem dX7_kind_49 : decode cX7_kind 49 = .ok (.ireturn, 1) := by decide +kernel
theorem dX7_kind_50 : decode cX7_kind 50 = .ok (.iconst 3, 1) := by decide +kernel
theorem dX7_kind_51 : decode cX7_kind 51 = .ok (.ireturn, 1) := by decide +kernel
theorem dX7_kind_52 : decode cX7_kind 52 = .ok (.iconst (-1), 1) := by decide +kernel
theorem dX7_kind_53 : decode cX7_kind 53 = .ok (.ireturn, 1) := by decide +kernel
theorem dX7_thingsIn_0 : decode cX7_thingsIn 0 = .ok (.iload_n 1, 1) := by decide +kernel
theorem dX7_thingsIn_1 : decode cX7_thingsIn 1 = .ok (.ifCond .ne 5, 3) := by decide +kernel
theorem dX7_thingsIn_4 : decode cX7_thingsIn 4 = .ok (.iconst 0, 1) := by decide +kernel
theorem dX7_thingsIn_5 : decode cX7_thingsIn 5 = .ok (.ireturn, 1) := by decide +kernel
theorem dX7_thingsIn_6 : decode cX7_thingsIn 6 = .ok (.iload_n 1, 1) := by decide +kernel
theorem dX7_thingsIn_7 : decode cX7_thingsIn 7 = .ok (.iconst 5, 1) := by decide +kernel
theorem dX7_thingsIn_8 : decode cX7_thingsIn 8 = .ok (.irem, 1) := by decide +kernel
theorem dX7_thingsIn_9 : decode cX7_thingsIn 9 = .ok (.iconst 4, 1) := by decide +kernel
theorem dX7_thingsIn_10 : decode cX7_thingsIn 10 = .ok (.if_icmp .ne 11, 3) := by decide +kernel
theorem dX7_thingsIn_21 : decode cX7_thingsIn 21 = .ok (.iconst (-1), 1) := by decide +kernel
theorem dX7_thingsIn_22 : decode cX7_thingsIn 22 = .ok (.ireturn, 1) := by decide +kernel
theorem dX8_init_0 : decode cX8_init 0 = .ok (.aload_n 0, 1) := by decide +kernel
theorem dX8_init_1 : decode cX8_init 1 = .ok (.invokespecial 3, 3) := by decide +kernel
theorem dX8_init_4 : decode cX8_init 4 = .ok (.aload_n 0, 1) := by decide +kernel
theorem dX8_init_5 : decode cX8_init 5 = .ok (.bipush 60, 2) := by decide +kernel
theorem dX8_init_7 : decode cX8_init 7 = .ok (.newarray .int, 2) := by decide +kernel
theorem dX8_init_9 : decode cX8_init 9 = .ok (.putfield 9, 3) := by decide +kernel
theorem dX8_init_12 : decode cX8_init 12 = .ok (.aload_n 0, 1) := by decide +kernel
theorem dX8_init_13 : decode cX8_init 13 = .ok (.iconst 1, 1) := by decide +kernel
theorem dX8_init_14 : decode cX8_init 14 = .ok (.putfield 15, 3) := by decide +kernel
theorem dX8_init_17 : decode cX8_init 17 = .ok (.return_, 1) := by decide +kernel
theorem dX8_renew_0 : decode cX8_renew 0 = .ok (.aload_n 0, 1) := by decide +kernel
theorem dX8_renew_1 : decode cX8_renew 1 = .ok (.iconst 0, 1) := by decide +kernel
theorem dX8_renew_2 : decode cX8_renew 2 = .ok (.putfield 15, 3) := by decide +kernel
theorem dX8_renew_5 : decode cX8_renew 5 = .ok (.aload_n 0, 1) := by decide +kernel
theorem dX8_renew_6 : decode cX8_renew 6 = .ok (.iload_n 1, 1) := by decide +kernel
theorem dX8_renew_7 : decode cX8_renew 7 = .ok (.putfield 19, 3) := by decide +kernel
theorem dX8_renew_10 : decode cX8_renew 10 = .ok (.aload_n 0, 1) := by decide +kernel
theorem dX8_renew_11 : decode cX8_renew 11 = .ok (.iconst 0, 1) := by decide +kernel
theorem dX8_renew_12 : decode cX8_renew 12 = .ok (.iload_n 2, 1) := by decide +kernel
theorem dX8_renew_13 : decode cX8_renew 13 = .ok (.bipush 60, 2) := by decide +kernel
theorem dX8_renew_15 : decode cX8_renew 15 = .ok (.invokestatic 23, 3) := by decide +kernel
theorem dX8_renew_18 : decode cX8_renew 18 = .ok (.invokestatic 29, 3) := by decide +kernel
theorem dX8_renew_21 : decode cX8_renew 21 = .ok (.putfield 32, 3) := by decide +kernel
theorem dX8_renew_24 : decode cX8_renew 24 = .ok (.iconst 0, 1) := by decide +kernel
theorem dX8_renew_25 : decode cX8_renew 25 = .ok (.istore_n 3, 1) := by decide +kernel
theorem dX8_renew_26 : decode cX8_renew 26 = .ok (.iload_n 3, 1) := by decide +kernel
theorem dX8_renew_27 : decode cX8_renew 27 = .ok (.bipush 60, 2) := by decide +kernel
theorem dX8_renew_29 : decode cX8_renew 29 = .ok (.if_icmp .ge 16, 3) := by decide +kernel
theorem dX8_renew_32 : decode cX8_renew 32 = .ok (.aload_n 0, 1) := by decide +kernel
theorem dX8_renew_33 : decode cX8_renew 33 = .ok (.getfield 9, 3) := by decide +kernel
theorem dX8_renew_36 : decode cX8_renew 36 = .ok (.iload_n 3, 1) := by decide +kernel
theorem dX8_renew_37 : decode cX8_renew 37 = .ok (.iconst 0, 1) := by decide +kernel
theorem dX8_renew_38 : decode cX8_renew 38 = .ok (.iastore, 1) := by decide +kernel
theorem dX8_renew_39 : decode cX8_renew 39 = .ok (.iinc 3 1, 3) := by decide +kernel
theorem dX8_renew_42 : decode cX8_renew 42 = .ok (.goto (-16), 3) := by decide +kernel
theorem dX8_renew_45 : decode cX8_renew 45 = .ok (.return_, 1) := by decide +kernel
theorem dX9_init_0 : decode cX9_init 0 = .ok (.aload_n 0, 1) := by decide +kernel
theorem dX9_init_1 : decode cX9_init 1 = .ok (.invokespecial 3, 3) := by decide +kernel
theorem dX9_init_4 : decode cX9_init 4 = .ok (.aload_n 0, 1) := by decide +kernel
theorem dX9_init_5 : decode cX9_init 5 = .ok (.iconst (-1), 1) := by decide +kernel
theorem dX9_init_6 : decode cX9_init 6 = .ok (.putfield 9, 3) := by decide +kernel
theorem dX9_init_9 : decode cX9_init 9 = .ok (.aload_n 0, 1) := by decide +kernel
theorem dX9_init_10 : decode cX9_init 10 = .ok (.iconst 0, 1) := by decide +kernel
theorem dX9_init_11 : decode cX9_init 11 = .ok (.iload_n 1, 1) := by decide +kernel
theorem dX9_init_12 : decode cX9_init 12 = .ok (.invokestatic 15, 3) := by decide +kernel
theorem dX9_init_15 : decode cX9_init 15 = .ok (.newarray .int, 2) := by decide +kernel
theorem dX9_init_17 : decode cX9_init 17 = .ok (.putfield 21, 3) := by decide +kernel
theorem dX9_init_20 : decode cX9_init 20 = .ok (.return_, 1) := by decide +kernel
theorem dX9_isFull_0 : decode cX9_isFull 0 = .ok (.aload_n 0, 1) := by decide +kernel
theorem dX9_isFull_1 : decode cX9_isFull 1 = .ok (.getfield 25, 3) := by decide +kernel
theorem dX9_isFull_4 : decode cX9_isFull 4 = .ok (.aload_n 0, 1) := by decide +kernel
theorem dX9_isFull_5 : decode cX9_isFull 5 = .ok (.getfield 21, 3) := by decide +kernel
theorem dX9_isFull_8 : decode cX9_isFull 8 = .ok (.arraylength, 1) := by decide +kernel
theorem dX9_isFull_9 : decode cX9_isFull 9 = .ok (.if_icmp .lt 7, 3) := by decide +kernel
theorem dX9_isFull_12 : decode cX9_isFull 12 = .ok (.iconst 1, 1) := by decide +kernel
theorem dX9_isFull_13 : decode cX9_isFull 13 = .ok (.goto 4, 3) := by decide +kernel
theorem dX9_isFull_16 : decode cX9_isFull 16 = .ok (.iconst 0, 1) := by decide +kernel
theorem dX9_isFull_17 : decode cX9_isFull 17 = .ok (.ireturn, 1) := by decide +kernel
theorem dX9_append_0 : decode cX9_append 0 = .ok (.aload_n 0, 1) := by decide +kernel
theorem dX9_append_1 : decode cX9_append 1 = .ok (.getfield 25, 3) := by decide +kernel
theorem dX9_append_4 : decode cX9_append 4 = .ok (.ifCond .lt 47, 3) := by decide +kernel
theorem dX9_append_7 : decode cX9_append 7 = .ok (.aload_n 0, 1) := by decide +kernel
theorem dX9_append_8 : decode cX9_append 8 = .ok (.getfield 25, 3) := by decide +kernel
theorem dX9_append_11 : decode cX9_append 11 = .ok (.aload_n 0, 1) := by decide +kernel
theorem dX9_append_12 : decode cX9_append 12 = .ok (.getfield 21, 3) := by decide +kernel
theorem dX9_append_15 : decode cX9_append 15 = .ok (.arraylength, 1) := by decide +kernel
theorem dX9_append_16 : decode cX9_append 16 = .ok (.if_icmp .ge 35, 3) := by decide +kernel
theorem dX9_append_19 : decode cX9_append 19 = .ok (.aload_n 0, 1) := by decide +kernel
theorem dX9_append_20 : decode cX9_append 20 = .ok (.getfield 21, 3) := by decide +kernel
theorem dX9_append_23 : decode cX9_append 23 = .ok (.aload_n 0, 1) := by decide +kernel
theorem dX9_append_24 : decode cX9_append 24 = .ok (.getfield 25, 3) := by decide +kernel
theorem dX9_append_27 : decode cX9_append 27 = .ok (.aload_n 0, 1) := by decide +kernel
theorem dX9_append_28 : decode cX9_append 28 = .ok (.aload_n 0, 1) := by decide +kernel
theorem dX9_append_29 : decode cX9_append 29 = .ok (.getfield 25, 3) := by decide +kernel
theorem dX9_append_32 : decode cX9_append 32 = .ok (.iload_n 1, 1) := by decide +kernel
theorem dX9_append_33 : decode cX9_append 33 = .ok (.invokevirtual 28, 3) := by decide +kernel
theorem dX9_append_36 : decode cX9_append 36 = .ok (.iastore, 1) := by decide +kernel
theorem dX9_append_37 : decode cX9_append 37 = .ok (.aload_n 0, 1) := by decide +kernel
theorem dX9_append_38 : decode cX9_append 38 = .ok (.dup, 1) := by decide +kernel
theorem dX9_append_39 : decode cX9_append 39 = .ok (.getfield 25, 3) := by decide +kernel
theorem dX9_append_42 : decode cX9_append 42 = .ok (.iconst 1, 1) := by decide +kernel
theorem dX9_append_43 : decode cX9_append 43 = .ok (.iadd, 1) := by decide +kernel
theorem dX9_append_44 : decode cX9_append 44 = .ok (.putfield 25, 3) := by decide +kernel
theorem dX9_append_47 : decode cX9_append 47 = .ok (.aload_n 0, 1) := by decide +kernel
theorem dX9_append_48 : decode cX9_append 48 = .ok (.invokevirtual 31, 3) := by decide +kernel
theorem dX9_append_51 : decode cX9_append 51 = .ok (.return_, 1) := by decide +kernel
theorem dX9_shorten_0 : decode cX9_shorten 0 = .ok (.aload_n 0, 1) := by decide +kernel
theorem dX9_shorten_1 : decode cX9_shorten 1 = .ok (.iconst 0, 1) := by decide +kernel
theorem dX9_shorten_2 : decode cX9_shorten 2 = .ok (.iload_n 1, 1) := by decide +kernel
theorem dX9_shorten_3 : decode cX9_shorten 3 = .ok (.aload_n 0, 1) := by decide +kernel
theorem dX9_shorten_4 : decode cX9_shorten 4 = .ok (.getfield 25, 3) := by decide +kernel
theorem dX9_shorten_7 : decode cX9_shorten 7 = .ok (.invokestatic 34, 3) := by decide +kernel
theorem dX9_shorten_10 : decode cX9_shorten 10 = .ok (.invokestatic 15, 3) := by decide +kernel
theorem dX9_shorten_13 : decode cX9_shorten 13 = .ok (.putfield 25, 3) := by decide +kernel
theorem dX9_shorten_16 : decode cX9_shorten 16 = .ok (.aload_n 0, 1) := by decide +kernel
theorem dX9_shorten_17 : decode cX9_shorten 17 = .ok (.invokevirtual 31, 3) := by decide +kernel
theorem dX9_shorten_20 : decode cX9_shorten 20 = .ok (.return_, 1) := by decide +kernel
theorem dX9_valueAt_0 : decode cX9_valueAt 0 = .ok (.iload_n 1, 1) := by decide +kernel
theorem dX9_valueAt_1 : decode cX9_valueAt 1 = .ok (.ifCond .lt 21, 3) := by decide +kernel
theorem dX9_valueAt_4 : decode cX9_valueAt 4 = .ok (.iload_n 1, 1) := by decide +kernel
theorem dX9_valueAt_5 : decode cX9_valueAt 5 = .ok (.aload_n 0, 1) := by decide +kernel
theorem dX9_valueAt_6 : decode cX9_valueAt 6 = .ok (.getfield 21, 3) := by decide +kernel
theorem dX9_valueAt_9 : decode cX9_valueAt 9 = .ok (.arraylength, 1) := by decide +kernel
theorem dX9_valueAt_10 : decode cX9_valueAt 10 = .ok (.if_icmp .ge 12, 3) := by decide +kernel
theorem dX9_valueAt_13 : decode cX9_valueAt 13 = .ok (.aload_n 0, 1) := by decide +kernel
theorem dX9_valueAt_14 : decode cX9_valueAt 14 = .ok (.getfield 21, 3) := by decide +kernel
theorem dX9_valueAt_17 : decode cX9_valueAt 17 = .ok (.iload_n 1, 1) := by decide +kernel
theorem dX9_valueAt_18 : decode cX9_valueAt 18 = .ok (.iaload, 1) := by decide +kernel
theorem dX9_valueAt_19 : decode cX9_valueAt 19 = .ok (.goto 4, 3) := by decide +kernel
theorem dX9_valueAt_22 : decode cX9_valueAt 22 = .ok (.iconst (-1), 1) := by decide +kernel
theorem dX9_valueAt_23 : decode cX9_valueAt 23 = .ok (.ireturn, 1) := by decide +kernel
theorem dX9_has_0 : decode cX9_has 0 = .ok (.iload_n 1, 1) := by decide +kernel
theorem dX9_has_1 : decode cX9_has 1 = .ok (.ifCond .lt 15, 3) := by decide +kernel
theorem dX9_has_4 : decode cX9_has 4 = .ok (.iload_n 1, 1) := by decide +kernel
theorem dX9_has_5 : decode cX9_has 5 = .ok (.aload_n 0, 1) := by decide +kernel
theorem dX9_has_6 : decode cX9_has 6 = .ok (.getfield 37, 3) := by decide +kernel
theorem dX9_has_9 : decode cX9_has 9 = .ok (.if_icmp .ge 7, 3) := by decide +kernel
theorem dX9_has_12 : decode cX9_has 12 = .ok (.iconst 1, 1) := by decide +kernel
theorem dX9_has_13 : decode cX9_has 13 = .ok (.goto 4, 3) := by decide +kernel
theorem dX9_has_16 : decode cX9_has 16 = .ok (.iconst 0, 1) := by decide +kernel
theorem dX9_has_17 : decode cX9_has 17 = .ok (.ireturn, 1) := by decide +kernel
theorem dX9_readAgain_0 : decode cX9_readAgain 0 = .ok (.aload_n 0, 1) := by decide +kernel
theorem dX9_readAgain_1 : decode cX9_readAgain 1 = .ok (.iconst (-1), 1) := by decide +kernel
theorem dX9_readAgain_2 : decode cX9_readAgain 2 = .ok (.putfield 9, 3) := by decide +kernel
theorem dX9_readAgain_5 : decode cX9_readAgain 5 = .ok (.iconst 0, 1) := by decide +kernel
theorem dX9_readAgain_6 : decode cX9_readAgain 6 = .ok (.istore_n 1, 1) := by decide +kernel
theorem dX9_readAgain_7 : decode cX9_readAgain 7 = .ok (.iload_n 1, 1) := by decide +kernel
theorem dX9_readAgain_8 : decode cX9_readAgain 8 = .ok (.aload_n 0, 1) := by decide +kernel
theorem dX9_readAgain_9 : decode cX9_readAgain 9 = .ok (.getfield 25, 3) := by decide +kernel
theorem dX9_readAgain_12 : decode cX9_readAgain 12 = .ok (.if_icmp .ge 31, 3) := by decide +kernel
theorem dX9_readAgain_15 : decode cX9_readAgain 15 = .ok (.aload_n 0, 1) := by decide +kernel
theorem dX9_readAgain_16 : decode cX9_readAgain 16 = .ok (.getfield 9, 3) := by decide +kernel
theorem dX9_readAgain_19 : decode cX9_readAgain 19 = .ok (.iconst (-1), 1) := by decide +kernel
theorem dX9_readAgain_20 : decode cX9_readAgain 20 = .ok (.if_icmp .ne 23, 3) := by decide +kernel
theorem dX9_readAgain_23 : decode cX9_readAgain 23 = .ok (.aload_n 0, 1) := by decide +kernel
theorem dX9_readAgain_24 : decode cX9_readAgain 24 = .ok (.iload_n 1, 1) := by decide +kernel
theorem dX9_readAgain_25 : decode cX9_readAgain 25 = .ok (.invokevirtual 40, 3) := by decide +kernel
theorem dX9_readAgain_28 : decode cX9_readAgain 28 = .ok (.iconst (-1), 1) := by decide +kernel
theorem dX9_readAgain_29 : decode cX9_readAgain 29 = .ok (.if_icmp .ne 8, 3) := by decide +kernel
theorem dX9_readAgain_32 : decode cX9_readAgain 32 = .ok (.aload_n 0, 1) := by decide +kernel
theorem dX9_readAgain_33 : decode cX9_readAgain 33 = .ok (.iload_n 1, 1) := by decide +kernel
theorem dX9_readAgain_34 : decode cX9_readAgain 34 = .ok (.putfield 9, 3) := by decide +kernel
theorem dX9_readAgain_37 : decode cX9_readAgain 37 = .ok (.iinc 1 1, 3) := by decide +kernel
theorem dX9_readAgain_40 : decode cX9_readAgain 40 = .ok (.goto (-33), 3) := by decide +kernel
theorem dX9_readAgain_43 : decode cX9_readAgain 43 = .ok (.aload_n 0, 1) := by decide +kernel
theorem dX9_readAgain_44 : decode cX9_readAgain 44 = .ok (.aload_n 0, 1) := by decide +kernel
theorem dX9_readAgain_45 : decode cX9_readAgain 45 = .ok (.getfield 25, 3) := by decide +kernel
theorem dX9_readAgain_48 : decode cX9_readAgain 48 = .ok (.invokevirtual 44, 3) := by decide +kernel
theorem dX9_readAgain_51 : decode cX9_readAgain 51 = .ok (.istore_n 1, 1) := by decide +kernel
theorem dX9_readAgain_52 : decode cX9_readAgain 52 = .ok (.aload_n 0, 1) := by decide +kernel
theorem dX9_readAgain_53 : decode cX9_readAgain 53 = .ok (.getfield 9, 3) := by decide +kernel
theorem dX9_readAgain_56 : decode cX9_readAgain 56 = .ok (.iconst (-1), 1) := by decide +kernel
theorem dX9_readAgain_57 : decode cX9_readAgain 57 = .ok (.if_icmp .ne 16, 3) := by decide +kernel
theorem dX9_readAgain_60 : decode cX9_readAgain 60 = .ok (.iload_n 1, 1) := by decide +kernel
theorem dX9_readAgain_61 : decode cX9_readAgain 61 = .ok (.iconst (-1), 1) := by decide +kernel
theorem dX9_readAgain_62 : decode cX9_readAgain 62 = .ok (.if_icmp .ne 11, 3) := by decide +kernel
theorem dX9_readAgain_65 : decode cX9_readAgain 65 = .ok (.aload_n 0, 1) := by decide +kernel
theorem dX9_readAgain_66 : decode cX9_readAgain 66 = .ok (.aload_n 0, 1) := by decide +kernel
theorem dX9_readAgain_67 : decode cX9_readAgain 67 = .ok (.getfield 25, 3) := by decide +kernel
theorem dX9_readAgain_70 : decode cX9_readAgain 70 = .ok (.putfield 9, 3) := by decide +kernel
theorem dX9_readAgain_73 : decode cX9_readAgain 73 = .ok (.aload_n 0, 1) := by decide +kernel
theorem dX9_readAgain_74 : decode cX9_readAgain 74 = .ok (.aload_n 0, 1) := by decide +kernel
theorem dX9_readAgain_75 : decode cX9_readAgain 75 = .ok (.getfield 9, 3) := by decide +kernel
theorem dX9_readAgain_78 : decode cX9_readAgain 78 = .ok (.iconst (-1), 1) := by decide +kernel
theorem dX9_readAgain_79 : decode cX9_readAgain 79 = .ok (.if_icmp .ne 7, 3) := by decide +kernel
theorem dX9_readAgain_82 : decode cX9_readAgain 82 = .ok (.iload_n 1, 1) := by decide +kernel
theorem dX9_readAgain_83 : decode cX9_readAgain 83 = .ok (.goto 4, 3) := by decide +kernel
theorem dX9_readAgain_86 : decode cX9_readAgain 86 = .ok (.iconst 0, 1) := by decide +kernel
theorem dX9_readAgain_87 : decode cX9_readAgain 87 = .ok (.putfield 37, 3) := by decide +kernel
theorem dX9_readAgain_90 : decode cX9_readAgain 90 = .ok (.return_, 1) := by decide +kernel
theorem dX10_init_0 : decode cX10_init 0 = .ok (.aload_n 0, 1) := by decide +kernel
theorem dX10_init_1 : decode cX10_init 1 = .ok (.invokespecial 3, 3) := by decide +kernel
theorem dX10_init_4 : decode cX10_init 4 = .ok (.aload_n 0, 1) := by decide +kernel
theorem dX10_init_5 : decode cX10_init 5 = .ok (.new 9, 3) := by decide +kernel
theorem dX10_init_8 : decode cX10_init 8 = .ok (.dup, 1) := by decide +kernel
theorem dX10_init_9 : decode cX10_init 9 = .ok (.invokespecial 11, 3) := by decide +kernel
theorem dX10_init_12 : decode cX10_init 12 = .ok (.putfield 12, 3) := by decide +kernel
theorem dX10_init_15 : decode cX10_init 15 = .ok (.aload_n 0, 1) := by decide +kernel
theorem dX10_init_16 : decode cX10_init 16 = .ok (.new 9, 3) := by decide +kernel
theorem dX10_init_19 : decode cX10_init 19 = .ok (.dup, 1) := by decide +kernel
theorem dX10_init_20 : decode cX10_init 20 = .ok (.invokespecial 11, 3) := by decide +kernel
theorem dX10_init_23 : decode cX10_init 23 = .ok (.putfield 18, 3) := by decide +kernel
theorem dX10_init_26 : decode cX10_init 26 = .ok (.aload_n 0, 1) := by decide +kernel
theorem dX10_init_27 : decode cX10_init 27 = .ok (.aload_n 0, 1) := by decide +kernel
theorem dX10_init_28 : decode cX10_init 28 = .ok (.getfield 12, 3) := by decide +kernel
theorem dX10_init_31 : decode cX10_init 31 = .ok (.putfield 21, 3) := by decide +kernel
theorem dX10_init_34 : decode cX10_init 34 = .ok (.aload_n 0, 1) := by decide +kernel
theorem dX10_init_35 : decode cX10_init 35 = .ok (.aload_n 0, 1) := by decide +kernel
theorem dX10_init_36 : decode cX10_init 36 = .ok (.getfield 18, 3) := by decide +kernel
theorem dX10_init_39 : decode cX10_init 39 = .ok (.putfield 24, 3) := by decide +kernel
theorem dX10_init_42 : decode cX10_init 42 = .ok (.aload_n 0, 1) := by decide +kernel
theorem dX10_init_43 : decode cX10_init 43 = .ok (.aload_n 1, 1) := by decide +kernel
theorem dX10_init_44 : decode cX10_init 44 = .ok (.putfield 27, 3) := by decide +kernel
theorem dX10_init_47 : decode cX10_init 47 = .ok (.aload_n 0, 1) := by decide +kernel
theorem dX10_init_48 : decode cX10_init 48 = .ok (.aload_n 2, 1) := by decide +kernel
theorem dX10_init_49 : decode cX10_init 49 = .ok (.putfield 31, 3) := by decide +kernel
theorem dX10_init_52 : decode cX10_init 52 = .ok (.aload_n 0, 1) := by decide +kernel
theorem dX10_init_53 : decode cX10_init 53 = .ok (.aload_n 3, 1) := by decide +kernel
theorem dX10_init_54 : decode cX10_init 54 = .ok (.putfield 35, 3) := by decide +kernel
theorem dX10_init_57 : decode cX10_init 57 = .ok (.return_, 1) := by decide +kernel
theorem dX11_init_0 : decode cX11_init 0 = .ok (.aload_n 0, 1) := by decide +kernel
theorem dX11_init_1 : decode cX11_init 1 = .ok (.invokespecial 1, 3) := by decide +kernel
theorem dX11_init_4 : decode cX11_init 4 = .ok (.aload_n 0, 1) := by decide +kernel
theorem dX11_init_5 : decode cX11_init 5 = .ok (.new 7, 3) := by decide +kernel
theorem dX11_init_8 : decode cX11_init 8 = .ok (.dup, 1) := by decide +kernel
theorem dX11_init_9 : decode cX11_init 9 = .ok (.invokespecial 9, 3) := by decide +kernel
theorem dX11_init_12 : decode cX11_init 12 = .ok (.putfield 10, 3) := by decide +kernel
theorem dX11_init_15 : decode cX11_init 15 = .ok (.aload_n 0, 1) := by decide +kernel
theorem dX11_init_16 : decode cX11_init 16 = .ok (.new 16, 3) := by decide +kernel
theorem dX11_init_19 : decode cX11_init 19 = .ok (.dup, 1) := by decide +kernel
theorem dX11_init_20 : decode cX11_init 20 = .ok (.invokespecial 18, 3) := by decide +kernel
theorem dX11_init_23 : decode cX11_init 23 = .ok (.putfield 19, 3) := by decide +kernel
theorem dX11_init_26 : decode cX11_init 26 = .ok (.aload_n 0, 1) := by decide +kernel
theorem dX11_init_27 : decode cX11_init 27 = .ok (.new 23, 3) := by decide +kernel
theorem dX11_init_30 : decode cX11_init 30 = .ok (.dup, 1) := by decide +kernel
theorem dX11_init_31 : decode cX11_init 31 = .ok (.invokespecial 25, 3) := by decide +kernel
theorem dX11_init_34 : decode cX11_init 34 = .ok (.putfield 26, 3) := by decide +kernel
theorem dX11_init_37 : decode cX11_init 37 = .ok (.aload_n 0, 1) := by decide +kernel
theorem dX11_init_38 : decode cX11_init 38 = .ok (.new 30, 3) := by decide +kernel
theorem dX11_init_41 : decode cX11_init 41 = .ok (.dup, 1) := by decide +kernel
theorem dX11_init_42 : decode cX11_init 42 = .ok (.invokespecial 32, 3) := by decide +kernel
theorem dX11_init_45 : decode cX11_init 45 = .ok (.putfield 33, 3) := by decide +kernel
theorem dX11_init_48 : decode cX11_init 48 = .ok (.aload_n 0, 1) := by decide +kernel
theorem dX11_init_49 : decode cX11_init 49 = .ok (.new 37, 3) := by decide +kernel
theorem dX11_init_52 : decode cX11_init 52 = .ok (.dup, 1) := by decide +kernel
theorem dX11_init_53 : decode cX11_init 53 = .ok (.aload_n 0, 1) := by decide +kernel
theorem dX11_init_54 : decode cX11_init 54 = .ok (.getfield 10, 3) := by decide +kernel
theorem dX11_init_57 : decode cX11_init 57 = .ok (.aload_n 0, 1) := by decide +kernel
theorem dX11_init_58 : decode cX11_init 58 = .ok (.getfield 19, 3) := by decide +kernel
theorem dX11_init_61 : decode cX11_init 61 = .ok (.aload_n 0, 1) := by decide +kernel
theorem dX11_init_62 : decode cX11_init 62 = .ok (.getfield 26, 3) := by decide +kernel
theorem dX11_init_65 : decode cX11_init 65 = .ok (.invokespecial 39, 3) := by decide +kernel
theorem dX11_init_68 : decode cX11_init 68 = .ok (.putfield 42, 3) := by decide +kernel
theorem dX11_init_71 : decode cX11_init 71 = .ok (.aload_n 0, 1) := by decide +kernel
theorem dX11_init_72 : decode cX11_init 72 = .ok (.new 46, 3) := by decide +kernel
theorem dX11_init_75 : decode cX11_init 75 = .ok (.dup, 1) := by decide +kernel
theorem dX11_init_76 : decode cX11_init 76 = .ok (.invokespecial 48, 3) := by decide +kernel
theorem dX11_init_79 : decode cX11_init 79 = .ok (.putfield 49, 3) := by decide +kernel
theorem dX11_init_82 : decode cX11_init 82 = .ok (.aload_n 0, 1) := by decide +kernel
theorem dX11_init_83 : decode cX11_init 83 = .ok (.new 53, 3) := by decide +kernel
theorem dX11_init_86 : decode cX11_init 86 = .ok (.dup, 1) := by decide +kernel
theorem dX11_init_87 : decode cX11_init 87 = .ok (.invokespecial 55, 3) := by decide +kernel
theorem dX11_init_90 : decode cX11_init 90 = .ok (.putfield 56, 3) := by decide +kernel
theorem dX11_init_93 : decode cX11_init 93 = .ok (.aload_n 0, 1) := by decide +kernel
theorem dX11_init_94 : decode cX11_init 94 = .ok (.new 60, 3) := by decide +kernel
theorem dX11_init_97 : decode cX11_init 97 = .ok (.dup, 1) := by decide +kernel
theorem dX11_init_98 : decode cX11_init 98 = .ok (.invokespecial 62, 3) := by decide +kernel
theorem dX11_init_101 : decode cX11_init 101 = .ok (.putfield 63, 3) := by decide +kernel
theorem dX11_init_104 : decode cX11_init 104 = .ok (.aload_n 0, 1) := by decide +kernel
theorem dX11_init_105 : decode cX11_init 105 = .ok (.bipush 8, 2) := by decide +kernel
theorem dX11_init_107 : decode cX11_init 107 = .ok (.newarray .int, 2) := by decide +kernel
theorem dX11_init_109 : decode cX11_init 109 = .ok (.putfield 67, 3) := by decide +kernel
theorem dX11_init_112 : decode cX11_init 112 = .ok (.aload_n 0, 1) := by decide +kernel
theorem dX11_init_113 : decode cX11_init 113 = .ok (.bipush 8, 2) := by decide +kernel
theorem dX11_init_115 : decode cX11_init 115 = .ok (.newarray .int, 2) := by decide +kernel
theorem dX11_init_117 : decode cX11_init 117 = .ok (.putfield 71, 3) := by decide +kernel
theorem dX11_init_120 : decode cX11_init 120 = .ok (.aload_n 0, 1) := by decide +kernel
theorem dX11_init_121 : decode cX11_init 121 = .ok (.bipush 25, 2) := by decide +kernel
theorem dX11_init_123 : decode cX11_init 123 = .ok (.newarray .int, 2) := by decide +kernel
theorem dX11_init_125 : decode cX11_init 125 = .ok (.putfield 74, 3) := by decide +kernel
theorem dX11_init_128 : decode cX11_init 128 = .ok (.aload_n 0, 1) := by decide +kernel
theorem dX11_init_129 : decode cX11_init 129 = .ok (.iconst 4, 1) := by decide +kernel
theorem dX11_init_130 : decode cX11_init 130 = .ok (.anewarray 77, 3) := by decide +kernel
theorem dX11_init_133 : decode cX11_init 133 = .ok (.putfield 79, 3) := by decide +kernel
theorem dX11_init_136 : decode cX11_init 136 = .ok (.iconst 0, 1) := by decide +kernel
theorem dX11_init_137 : decode cX11_init 137 = .ok (.istore_n 1, 1) := by decide +kernel
theorem dX11_init_138 : decode cX11_init 138 = .ok (.iload_n 1, 1) := by decide +kernel
theorem dX11_init_139 : decode cX11_init 139 = .ok (.iconst 4, 1) := by decide +kernel
theorem dX11_init_140 : decode cX11_init 140 = .ok (.if_icmp .ge 22, 3) := by decide +kernel
theorem dX11_init_143 : decode cX11_init 143 = .ok (.aload_n 0, 1) := by decide +kernel
theorem dX11_init_144 : decode cX11_init 144 = .ok (.getfield 79, 3) := by decide +kernel
theorem dX11_init_147 : decode cX11_init 147 = .ok (.iload_n 1, 1) := by decide +kernel
theorem dX11_init_148 : decode cX11_init 148 = .ok (.new 77, 3) := by decide +kernel
theorem dX11_init_151 : decode cX11_init 151 = .ok (.dup, 1) := by decide +kernel
theorem dX11_init_152 : decode cX11_init 152 = .ok (.invokespecial 83, 3) := by decide +kernel
theorem dX11_init_155 : decode cX11_init 155 = .ok (.aastore, 1) := by decide +kernel
theorem dX11_init_156 : decode cX11_init 156 = .ok (.iinc 1 1, 3) := by decide +kernel
theorem dX11_init_159 : decode cX11_init 159 = .ok (.goto (-21), 3) := by decide +kernel
theorem dX11_init_162 : decode cX11_init 162 = .ok (.return_, 1) := by decide +kernel
theorem dX11_type_0 : decode cX11_type 0 = .ok (.aload_n 0, 1) := by decide +kernel
theorem dX11_type_1 : decode cX11_type 1 = .ok (.iload_n 1, 1) := by decide +kernel
theorem dX11_type_2 : decode cX11_type 2 = .ok (.invokevirtual 84, 3) := by decide +kernel
theorem dX11_type_5 : decode cX11_type 5 = .ok (.astore_n 3, 1) := by decide +kernel
theorem dX11_type_6 : decode cX11_type 6 = .ok (.aload_n 3, 1) := by decide +kernel
theorem dX11_type_7 : decode cX11_type 7 = .ok (.ifnull 14, 3) := by decide +kernel
theorem dX11_type_10 : decode cX11_type 10 = .ok (.iload_n 2, 1) := by decide +kernel
theorem dX11_type_11 : decode cX11_type 11 = .ok (.ifCond .lt 10, 3) := by decide +kernel
theorem dX11_type_14 : decode cX11_type 14 = .ok (.iload_n 2, 1) := by decide +kernel
end
section
theorem dX11_type_15 : decode cX11_type 15 = .ok (.sipush 255, 3) := by decide +kernel
theorem dX11_type_18 : decode cX11_type 18 = .ok (.if_icmp .le 6, 3) := by decide +kernel
theorem dX11_type_21 : decode cX11_type 21 = .ok (.bipush (-2), 2) := by decide +kernel
theorem dX11_type_23 : decode cX11_type 23 = .ok (.ireturn, 1) := by decide +kernel
theorem dX11_type_24 : decode cX11_type 24 = .ok (.aload_n 3, 1) := by decide +kernel
theorem dX11_type_25 : decode cX11_type 25 = .ok (.invokevirtual 88, 3) := by decide +kernel
theorem dX11_type_28 : decode cX11_type 28 = .ok (.ifCond .eq 6, 3) := by decide +kernel
theorem dX11_type_34 : decode cX11_type 34 = .ok (.aload_n 3, 1) := by decide +kernel
theorem dX11_type_35 : decode cX11_type 35 = .ok (.iload_n 2, 1) := by decide +kernel
theorem dX11_type_36 : decode cX11_type 36 = .ok (.invokevirtual 94, 3) := by decide +kernel
theorem dX11_type_39 : decode cX11_type 39 = .ok (.aload_n 3, 1) := by decide +kernel
theorem dX11_type_40 : decode cX11_type 40 = .ok (.getfield 98, 3) := by decide +kernel
theorem dX11_type_43 : decode cX11_type 43 = .ok (.ireturn, 1) := by decide +kernel
theorem dX11_wipe_0 : decode cX11_wipe 0 = .ok (.aload_n 0, 1) := by decide +kernel
theorem dX11_wipe_1 : decode cX11_wipe 1 = .ok (.iload_n 1, 1) := by decide +kernel
theorem dX11_wipe_2 : decode cX11_wipe 2 = .ok (.invokevirtual 84, 3) := by decide +kernel
theorem dX11_wipe_5 : decode cX11_wipe 5 = .ok (.astore_n 2, 1) := by decide +kernel
theorem dX11_wipe_6 : decode cX11_wipe 6 = .ok (.aload_n 2, 1) := by decide +kernel
theorem dX11_wipe_7 : decode cX11_wipe 7 = .ok (.ifnonnull 6, 3) := by decide +kernel
theorem dX11_wipe_10 : decode cX11_wipe 10 = .ok (.bipush (-2), 2) := by decide +kernel
theorem dX11_wipe_12 : decode cX11_wipe 12 = .ok (.ireturn, 1) := by decide +kernel
theorem dX11_wipe_13 : decode cX11_wipe 13 = .ok (.aload_n 2, 1) := by decide +kernel
theorem dX11_wipe_14 : decode cX11_wipe 14 = .ok (.getfield 98, 3) := by decide +kernel
theorem dX11_wipe_17 : decode cX11_wipe 17 = .ok (.istore_n 3, 1) := by decide +kernel
theorem dX11_wipe_18 : decode cX11_wipe 18 = .ok (.aload_n 2, 1) := by decide +kernel
theorem dX11_wipe_19 : decode cX11_wipe 19 = .ok (.iconst 0, 1) := by decide +kernel
theorem dX11_wipe_20 : decode cX11_wipe 20 = .ok (.invokevirtual 102, 3) := by decide +kernel
theorem dX11_wipe_23 : decode cX11_wipe 23 = .ok (.iload_n 3, 1) := by decide +kernel
theorem dX11_wipe_24 : decode cX11_wipe 24 = .ok (.ireturn, 1) := by decide +kernel
theorem dX11_undo_0 : decode cX11_undo 0 = .ok (.aload_n 0, 1) := by decide +kernel
theorem dX11_undo_1 : decode cX11_undo 1 = .ok (.iload_n 1, 1) := by decide +kernel
theorem dX11_undo_2 : decode cX11_undo 2 = .ok (.invokevirtual 84, 3) := by decide +kernel
theorem dX11_undo_5 : decode cX11_undo 5 = .ok (.astore_n 2, 1) := by decide +kernel
theorem dX11_undo_6 : decode cX11_undo 6 = .ok (.aload_n 2, 1) := by decide +kernel
theorem dX11_undo_7 : decode cX11_undo 7 = .ok (.ifnonnull 6, 3) := by decide +kernel
theorem dX11_undo_10 : decode cX11_undo 10 = .ok (.bipush (-2), 2) := by decide +kernel
theorem dX11_undo_12 : decode cX11_undo 12 = .ok (.ireturn, 1) := by decide +kernel
theorem dX11_undo_13 : decode cX11_undo 13 = .ok (.aload_n 2, 1) := by decide +kernel
theorem dX11_undo_14 : decode cX11_undo 14 = .ok (.getfield 98, 3) := by decide +kernel
theorem dX11_undo_17 : decode cX11_undo 17 = .ok (.ifCond .ne 6, 3) := by decide +kernel
theorem dX11_undo_20 : decode cX11_undo 20 = .ok (.bipush (-3), 2) := by decide +kernel
theorem dX11_undo_22 : decode cX11_undo 22 = .ok (.ireturn, 1) := by decide +kernel
theorem dX11_fault_0 : decode cX11_fault 0 = .ok (.aload_n 0, 1) := by decide +kernel
theorem dX11_fault_1 : decode cX11_fault 1 = .ok (.iload_n 1, 1) := by decide +kernel
theorem dX11_fault_2 : decode cX11_fault 2 = .ok (.invokevirtual 84, 3) := by decide +kernel
theorem dX11_fault_5 : decode cX11_fault 5 = .ok (.astore_n 2, 1) := by decide +kernel
theorem dX11_fault_6 : decode cX11_fault 6 = .ok (.aload_n 2, 1) := by decide +kernel
theorem dX11_fault_7 : decode cX11_fault 7 = .ok (.ifnonnull 8, 3) := by decide +kernel
theorem dX11_fault_10 : decode cX11_fault 10 = .ok (.bipush (-2), 2) := by decide +kernel
theorem dX11_fault_12 : decode cX11_fault 12 = .ok (.goto 7, 3) := by decide +kernel
theorem dX11_fault_15 : decode cX11_fault 15 = .ok (.aload_n 2, 1) := by decide +kernel
theorem dX11_fault_16 : decode cX11_fault 16 = .ok (.getfield 105, 3) := by decide +kernel
theorem dX11_fault_19 : decode cX11_fault 19 = .ok (.ireturn, 1) := by decide +kernel
theorem dX11_mile_0 : decode cX11_mile 0 = .ok (.iload_n 1, 1) := by decide +kernel
theorem dX11_mile_1 : decode cX11_mile 1 = .ok (.ifCond .lt 9, 3) := by decide +kernel
theorem dX11_mile_4 : decode cX11_mile 4 = .ok (.iload_n 1, 1) := by decide +kernel
theorem dX11_mile_5 : decode cX11_mile 5 = .ok (.bipush 24, 2) := by decide +kernel
theorem dX11_mile_7 : decode cX11_mile 7 = .ok (.if_icmp .lt 6, 3) := by decide +kernel
theorem dX11_mile_10 : decode cX11_mile 10 = .ok (.bipush (-2), 2) := by decide +kernel
theorem dX11_mile_12 : decode cX11_mile 12 = .ok (.ireturn, 1) := by decide +kernel
theorem dX11_mile_13 : decode cX11_mile 13 = .ok (.iload_n 1, 1) := by decide +kernel
theorem dX11_mile_14 : decode cX11_mile 14 = .ok (.aload_n 0, 1) := by decide +kernel
theorem dX11_mile_15 : decode cX11_mile 15 = .ok (.getfield 10, 3) := by decide +kernel
theorem dX11_mile_18 : decode cX11_mile 18 = .ok (.getfield 108, 3) := by decide +kernel
theorem dX11_mile_21 : decode cX11_mile 21 = .ok (.if_icmp .ge 14, 3) := by decide +kernel
theorem dX11_mile_35 : decode cX11_mile 35 = .ok (.iconst (-1), 1) := by decide +kernel
theorem dX11_mile_36 : decode cX11_mile 36 = .ok (.ireturn, 1) := by decide +kernel
theorem dX11_passenger_0 : decode cX11_passenger 0 = .ok (.aload_n 0, 1) := by decide +kernel
theorem dX11_passenger_1 : decode cX11_passenger 1 = .ok (.getfield 19, 3) := by decide +kernel
theorem dX11_passenger_4 : decode cX11_passenger 4 = .ok (.iload_n 1, 1) := by decide +kernel
theorem dX11_passenger_5 : decode cX11_passenger 5 = .ok (.invokevirtual 115, 3) := by decide +kernel
theorem dX11_passenger_8 : decode cX11_passenger 8 = .ok (.ifCond .eq 12, 3) := by decide +kernel
theorem dX11_passenger_20 : decode cX11_passenger 20 = .ok (.bipush (-2), 2) := by decide +kernel
theorem dX11_passenger_22 : decode cX11_passenger 22 = .ok (.ireturn, 1) := by decide +kernel
theorem dX11_goose_0 : decode cX11_goose 0 = .ok (.aload_n 0, 1) := by decide +kernel
theorem dX11_goose_1 : decode cX11_goose 1 = .ok (.getfield 26, 3) := by decide +kernel
theorem dX11_goose_4 : decode cX11_goose 4 = .ok (.iload_n 1, 1) := by decide +kernel
theorem dX11_goose_5 : decode cX11_goose 5 = .ok (.invokevirtual 123, 3) := by decide +kernel
theorem dX11_goose_8 : decode cX11_goose 8 = .ok (.ifCond .eq 12, 3) := by decide +kernel
theorem dX11_goose_20 : decode cX11_goose 20 = .ok (.bipush (-2), 2) := by decide +kernel
theorem dX11_goose_22 : decode cX11_goose 22 = .ok (.ireturn, 1) := by decide +kernel
theorem dX11_flight_0 : decode cX11_flight 0 = .ok (.aload_n 0, 1) := by decide +kernel
theorem dX11_flight_1 : decode cX11_flight 1 = .ok (.getfield 33, 3) := by decide +kernel
theorem dX11_flight_4 : decode cX11_flight 4 = .ok (.iload_n 1, 1) := by decide +kernel
theorem dX11_flight_5 : decode cX11_flight 5 = .ok (.iload_n 2, 1) := by decide +kernel
theorem dX11_flight_6 : decode cX11_flight 6 = .ok (.iload_n 3, 1) := by decide +kernel
theorem dX11_flight_7 : decode cX11_flight 7 = .ok (.iload 4, 2) := by decide +kernel
theorem dX11_flight_9 : decode cX11_flight 9 = .ok (.invokevirtual 125, 3) := by decide +kernel
theorem dX11_flight_12 : decode cX11_flight 12 = .ok (.ireturn, 1) := by decide +kernel
theorem dX11_back_0 : decode cX11_back 0 = .ok (.aload_n 0, 1) := by decide +kernel
theorem dX11_back_1 : decode cX11_back 1 = .ok (.getfield 33, 3) := by decide +kernel
theorem dX11_back_4 : decode cX11_back 4 = .ok (.getfield 128, 3) := by decide +kernel
theorem dX11_back_7 : decode cX11_back 7 = .ok (.ifCond .ne 6, 3) := by decide +kernel
theorem dX11_back_10 : decode cX11_back 10 = .ok (.bipush (-3), 2) := by decide +kernel
theorem dX11_back_12 : decode cX11_back 12 = .ok (.ireturn, 1) := by decide +kernel
theorem dX11_read_0 : decode cX11_read 0 = .ok (.aload_n 0, 1) := by decide +kernel
theorem dX11_read_1 : decode cX11_read 1 = .ok (.iload_n 1, 1) := by decide +kernel
theorem dX11_read_2 : decode cX11_read 2 = .ok (.invokevirtual 129, 3) := by decide +kernel
theorem dX11_read_5 : decode cX11_read 5 = .ok (.astore_n 2, 1) := by decide +kernel
theorem dX11_read_6 : decode cX11_read 6 = .ok (.aload_n 2, 1) := by decide +kernel
theorem dX11_read_7 : decode cX11_read 7 = .ok (.ifnonnull 6, 3) := by decide +kernel
theorem dX11_read_10 : decode cX11_read 10 = .ok (.bipush (-2), 2) := by decide +kernel
theorem dX11_read_12 : decode cX11_read 12 = .ok (.ireturn, 1) := by decide +kernel
theorem dX11_read_13 : decode cX11_read 13 = .ok (.aload_n 2, 1) := by decide +kernel
theorem dX11_read_14 : decode cX11_read 14 = .ok (.getfield 133, 3) := by decide +kernel
theorem dX11_read_17 : decode cX11_read 17 = .ok (.ifCond .eq 9, 3) := by decide +kernel
theorem dX11_read_20 : decode cX11_read 20 = .ok (.aload_n 0, 1) := by decide +kernel
theorem dX11_read_21 : decode cX11_read 21 = .ok (.iconst 1, 1) := by decide +kernel
theorem dX11_read_22 : decode cX11_read 22 = .ok (.invokevirtual 137, 3) := by decide +kernel
theorem dX11_read_25 : decode cX11_read 25 = .ok (.ireturn, 1) := by decide +kernel
theorem dX11_learn_0 : decode cX11_learn 0 = .ok (.iload_n 1, 1) := by decide +kernel
theorem dX11_learn_1 : decode cX11_learn 1 = .ok (.ifCond .lt 9, 3) := by decide +kernel
theorem dX11_learn_4 : decode cX11_learn 4 = .ok (.iload_n 1, 1) := by decide +kernel
theorem dX11_learn_5 : decode cX11_learn 5 = .ok (.bipush 64, 2) := by decide +kernel
theorem dX11_learn_7 : decode cX11_learn 7 = .ok (.if_icmp .lt 6, 3) := by decide +kernel
theorem dX11_learn_10 : decode cX11_learn 10 = .ok (.bipush (-2), 2) := by decide +kernel
theorem dX11_learn_12 : decode cX11_learn 12 = .ok (.ireturn, 1) := by decide +kernel
theorem dX11_learn_13 : decode cX11_learn 13 = .ok (.aload_n 0, 1) := by decide +kernel
theorem dX11_learn_14 : decode cX11_learn 14 = .ok (.getfield 146, 3) := by decide +kernel
theorem dX11_learn_17 : decode cX11_learn 17 = .ok (.istore_n 2, 1) := by decide +kernel
theorem dX11_learn_18 : decode cX11_learn 18 = .ok (.aload_n 0, 1) := by decide +kernel
theorem dX11_learn_19 : decode cX11_learn 19 = .ok (.iload_n 1, 1) := by decide +kernel
theorem dX11_learn_20 : decode cX11_learn 20 = .ok (.putfield 146, 3) := by decide +kernel
theorem dX11_learn_23 : decode cX11_learn 23 = .ok (.iload_n 2, 1) := by decide +kernel
theorem dX11_learn_24 : decode cX11_learn 24 = .ok (.ireturn, 1) := by decide +kernel
theorem dX11_comes_0 : decode cX11_comes 0 = .ok (.aload_n 0, 1) := by decide +kernel
theorem dX11_comes_1 : decode cX11_comes 1 = .ok (.getfield 33, 3) := by decide +kernel
theorem dX11_comes_4 : decode cX11_comes 4 = .ok (.iload_n 1, 1) := by decide +kernel
theorem dX11_comes_5 : decode cX11_comes 5 = .ok (.invokevirtual 149, 3) := by decide +kernel
theorem dX11_comes_8 : decode cX11_comes 8 = .ok (.ifCond .eq 12, 3) := by decide +kernel
theorem dX11_comes_20 : decode cX11_comes 20 = .ok (.bipush (-2), 2) := by decide +kernel
theorem dX11_comes_22 : decode cX11_comes 22 = .ok (.ireturn, 1) := by decide +kernel
theorem dX11_behind_0 : decode cX11_behind 0 = .ok (.aload_n 0, 1) := by decide +kernel
theorem dX11_behind_1 : decode cX11_behind 1 = .ok (.getfield 33, 3) := by decide +kernel
theorem dX11_behind_4 : decode cX11_behind 4 = .ok (.iload_n 1, 1) := by decide +kernel
theorem dX11_behind_5 : decode cX11_behind 5 = .ok (.invokevirtual 149, 3) := by decide +kernel
theorem dX11_behind_8 : decode cX11_behind 8 = .ok (.ifCond .eq 23, 3) := by decide +kernel
theorem dX11_behind_31 : decode cX11_behind 31 = .ok (.bipush (-2), 2) := by decide +kernel
theorem dX11_behind_33 : decode cX11_behind 33 = .ok (.ireturn, 1) := by decide +kernel
theorem dX11_farthest_0 : decode cX11_farthest 0 = .ok (.iconst (-1), 1) := by decide +kernel
theorem dX11_farthest_1 : decode cX11_farthest 1 = .ok (.istore_n 1, 1) := by decide +kernel
theorem dX11_farthest_2 : decode cX11_farthest 2 = .ok (.iconst (-1), 1) := by decide +kernel
theorem dX11_farthest_3 : decode cX11_farthest 3 = .ok (.istore_n 2, 1) := by decide +kernel
theorem dX11_farthest_4 : decode cX11_farthest 4 = .ok (.iconst 0, 1) := by decide +kernel
theorem dX11_farthest_5 : decode cX11_farthest 5 = .ok (.istore_n 3, 1) := by decide +kernel
theorem dX11_farthest_6 : decode cX11_farthest 6 = .ok (.iload_n 3, 1) := by decide +kernel
theorem dX11_farthest_7 : decode cX11_farthest 7 = .ok (.aload_n 0, 1) := by decide +kernel
theorem dX11_farthest_8 : decode cX11_farthest 8 = .ok (.getfield 33, 3) := by decide +kernel
theorem dX11_farthest_11 : decode cX11_farthest 11 = .ok (.getfield 128, 3) := by decide +kernel
theorem dX11_farthest_14 : decode cX11_farthest 14 = .ok (.if_icmp .ge 64, 3) := by decide +kernel
theorem dX11_farthest_78 : decode cX11_farthest 78 = .ok (.iload_n 1, 1) := by decide +kernel
theorem dX11_farthest_79 : decode cX11_farthest 79 = .ok (.ireturn, 1) := by decide +kernel
theorem dX11_climb_0 : decode cX11_climb 0 = .ok (.aload_n 0, 1) := by decide +kernel
theorem dX11_climb_1 : decode cX11_climb 1 = .ok (.getfield 33, 3) := by decide +kernel
theorem dX11_climb_4 : decode cX11_climb 4 = .ok (.iload_n 1, 1) := by decide +kernel
theorem dX11_climb_5 : decode cX11_climb 5 = .ok (.invokevirtual 149, 3) := by decide +kernel
theorem dX11_climb_8 : decode cX11_climb 8 = .ok (.ifCond .eq 13, 3) := by decide +kernel
theorem dX11_climb_21 : decode cX11_climb 21 = .ok (.bipush (-2), 2) := by decide +kernel
theorem dX11_climb_23 : decode cX11_climb 23 = .ok (.ireturn, 1) := by decide +kernel
theorem dX11_practice_0 : decode cX11_practice 0 = .ok (.aload_n 0, 1) := by decide +kernel
theorem dX11_practice_1 : decode cX11_practice 1 = .ok (.getfield 33, 3) := by decide +kernel
theorem dX11_practice_4 : decode cX11_practice 4 = .ok (.iload_n 1, 1) := by decide +kernel
theorem dX11_practice_5 : decode cX11_practice 5 = .ok (.invokevirtual 149, 3) := by decide +kernel
theorem dX11_practice_8 : decode cX11_practice 8 = .ok (.ifCond .eq 12, 3) := by decide +kernel
theorem dX11_practice_20 : decode cX11_practice 20 = .ok (.bipush (-2), 2) := by decide +kernel
theorem dX11_practice_22 : decode cX11_practice 22 = .ok (.ireturn, 1) := by decide +kernel
theorem dX11_pair_0 : decode cX11_pair 0 = .ok (.aload_n 0, 1) := by decide +kernel
theorem dX11_pair_1 : decode cX11_pair 1 = .ok (.getfield 33, 3) := by decide +kernel
theorem dX11_pair_4 : decode cX11_pair 4 = .ok (.iload_n 1, 1) := by decide +kernel
theorem dX11_pair_5 : decode cX11_pair 5 = .ok (.invokevirtual 149, 3) := by decide +kernel
theorem dX11_pair_8 : decode cX11_pair 8 = .ok (.ifCond .eq 12, 3) := by decide +kernel
theorem dX11_pair_20 : decode cX11_pair 20 = .ok (.bipush (-2), 2) := by decide +kernel
theorem dX11_pair_22 : decode cX11_pair 22 = .ok (.ireturn, 1) := by decide +kernel
theorem dX11_seen_0 : decode cX11_seen 0 = .ok (.iload_n 1, 1) := by decide +kernel
theorem dX11_seen_1 : decode cX11_seen 1 = .ok (.ifCond .lt 19, 3) := by decide +kernel
theorem dX11_seen_4 : decode cX11_seen 4 = .ok (.iload_n 1, 1) := by decide +kernel
theorem dX11_seen_5 : decode cX11_seen 5 = .ok (.bipush 8, 2) := by decide +kernel
theorem dX11_seen_7 : decode cX11_seen 7 = .ok (.if_icmp .ge 13, 3) := by decide +kernel
theorem dX11_seen_10 : decode cX11_seen 10 = .ok (.iload_n 2, 1) := by decide +kernel
theorem dX11_seen_11 : decode cX11_seen 11 = .ok (.ifCond .lt 9, 3) := by decide +kernel
theorem dX11_seen_14 : decode cX11_seen 14 = .ok (.iload_n 2, 1) := by decide +kernel
theorem dX11_seen_15 : decode cX11_seen 15 = .ok (.bipush 24, 2) := by decide +kernel
theorem dX11_seen_17 : decode cX11_seen 17 = .ok (.if_icmp .le 6, 3) := by decide +kernel
theorem dX11_seen_20 : decode cX11_seen 20 = .ok (.bipush (-2), 2) := by decide +kernel
theorem dX11_seen_22 : decode cX11_seen 22 = .ok (.ireturn, 1) := by decide +kernel
theorem dX11_seen_23 : decode cX11_seen 23 = .ok (.aload_n 0, 1) := by decide +kernel
theorem dX11_seen_24 : decode cX11_seen 24 = .ok (.getfield 193, 3) := by decide +kernel
theorem dX11_seen_27 : decode cX11_seen 27 = .ok (.ifCond .lt 12, 3) := by decide +kernel
theorem dX11_seen_30 : decode cX11_seen 30 = .ok (.aload_n 0, 1) := by decide +kernel
theorem dX11_seen_31 : decode cX11_seen 31 = .ok (.getfield 193, 3) := by decide +kernel
theorem dX11_seen_34 : decode cX11_seen 34 = .ok (.bipush 8, 2) := by decide +kernel
theorem dX11_seen_36 : decode cX11_seen 36 = .ok (.if_icmp .lt 6, 3) := by decide +kernel
theorem dX11_seen_42 : decode cX11_seen 42 = .ok (.aload_n 0, 1) := by decide +kernel
theorem dX11_seen_43 : decode cX11_seen 43 = .ok (.getfield 67, 3) := by decide +kernel
theorem dX11_seen_46 : decode cX11_seen 46 = .ok (.aload_n 0, 1) := by decide +kernel
theorem dX11_seen_47 : decode cX11_seen 47 = .ok (.getfield 193, 3) := by decide +kernel
theorem dX11_seen_50 : decode cX11_seen 50 = .ok (.iload_n 1, 1) := by decide +kernel
theorem dX11_seen_51 : decode cX11_seen 51 = .ok (.iastore, 1) := by decide +kernel
theorem dX11_seen_52 : decode cX11_seen 52 = .ok (.aload_n 0, 1) := by decide +kernel
theorem dX11_seen_53 : decode cX11_seen 53 = .ok (.getfield 71, 3) := by decide +kernel
theorem dX11_seen_56 : decode cX11_seen 56 = .ok (.aload_n 0, 1) := by decide +kernel
theorem dX11_seen_57 : decode cX11_seen 57 = .ok (.getfield 193, 3) := by decide +kernel
theorem dX11_seen_60 : decode cX11_seen 60 = .ok (.iload_n 2, 1) := by decide +kernel
theorem dX11_seen_61 : decode cX11_seen 61 = .ok (.iastore, 1) := by decide +kernel
theorem dX11_seen_62 : decode cX11_seen 62 = .ok (.aload_n 0, 1) := by decide +kernel
theorem dX11_seen_63 : decode cX11_seen 63 = .ok (.dup, 1) := by decide +kernel
theorem dX11_seen_64 : decode cX11_seen 64 = .ok (.getfield 193, 3) := by decide +kernel
theorem dX11_seen_67 : decode cX11_seen 67 = .ok (.iconst 1, 1) := by decide +kernel
theorem dX11_seen_68 : decode cX11_seen 68 = .ok (.iadd, 1) := by decide +kernel
theorem dX11_seen_69 : decode cX11_seen 69 = .ok (.putfield 193, 3) := by decide +kernel
theorem dX11_seen_72 : decode cX11_seen 72 = .ok (.aload_n 0, 1) := by decide +kernel
theorem dX11_seen_73 : decode cX11_seen 73 = .ok (.getfield 193, 3) := by decide +kernel
theorem dX11_seen_76 : decode cX11_seen 76 = .ok (.ireturn, 1) := by decide +kernel
theorem dX11_forget_0 : decode cX11_forget 0 = .ok (.aload_n 0, 1) := by decide +kernel
theorem dX11_forget_1 : decode cX11_forget 1 = .ok (.getfield 193, 3) := by decide +kernel
theorem dX11_forget_4 : decode cX11_forget 4 = .ok (.istore_n 1, 1) := by decide +kernel
theorem dX11_forget_5 : decode cX11_forget 5 = .ok (.aload_n 0, 1) := by decide +kernel
theorem dX11_forget_6 : decode cX11_forget 6 = .ok (.iconst 0, 1) := by decide +kernel
theorem dX11_forget_7 : decode cX11_forget 7 = .ok (.putfield 193, 3) := by decide +kernel
theorem dX11_forget_10 : decode cX11_forget 10 = .ok (.iload_n 1, 1) := by decide +kernel
theorem dX11_forget_11 : decode cX11_forget 11 = .ok (.ireturn, 1) := by decide +kernel
theorem dX11_sores_0 : decode cX11_sores 0 = .ok (.aload_n 0, 1) := by decide +kernel
theorem dX11_sores_1 : decode cX11_sores 1 = .ok (.getfield 19, 3) := by decide +kernel
theorem dX11_sores_4 : decode cX11_sores 4 = .ok (.iload_n 1, 1) := by decide +kernel
theorem dX11_sores_5 : decode cX11_sores 5 = .ok (.invokevirtual 115, 3) := by decide +kernel
theorem dX11_sores_8 : decode cX11_sores 8 = .ok (.ifCond .ne 6, 3) := by decide +kernel
theorem dX11_sores_11 : decode cX11_sores 11 = .ok (.bipush (-2), 2) := by decide +kernel
theorem dX11_sores_13 : decode cX11_sores 13 = .ok (.ireturn, 1) := by decide +kernel
theorem dX11_high_0 : decode cX11_high 0 = .ok (.aload_n 0, 1) := by decide +kernel
theorem dX11_high_1 : decode cX11_high 1 = .ok (.getfield 33, 3) := by decide +kernel
theorem dX11_high_4 : decode cX11_high 4 = .ok (.iload_n 1, 1) := by decide +kernel
theorem dX11_high_5 : decode cX11_high 5 = .ok (.invokevirtual 149, 3) := by decide +kernel
theorem dX11_high_8 : decode cX11_high 8 = .ok (.ifCond .ne 6, 3) := by decide +kernel
theorem dX11_high_11 : decode cX11_high 11 = .ok (.bipush (-2), 2) := by decide +kernel
theorem dX11_high_13 : decode cX11_high 13 = .ok (.ireturn, 1) := by decide +kernel
theorem dX11_ask_0 : decode cX11_ask 0 = .ok (.aload_n 0, 1) := by decide +kernel
theorem dX11_ask_1 : decode cX11_ask 1 = .ok (.getfield 19, 3) := by decide +kernel
theorem dX11_ask_4 : decode cX11_ask 4 = .ok (.iload_n 1, 1) := by decide +kernel
theorem dX11_ask_5 : decode cX11_ask 5 = .ok (.invokevirtual 115, 3) := by decide +kernel
theorem dX11_ask_8 : decode cX11_ask 8 = .ok (.ifCond .ne 6, 3) := by decide +kernel
theorem dX11_ask_11 : decode cX11_ask 11 = .ok (.bipush (-2), 2) := by decide +kernel
theorem dX11_ask_13 : decode cX11_ask 13 = .ok (.ireturn, 1) := by decide +kernel
theorem dX11_laugh_0 : decode cX11_laugh 0 = .ok (.iload_n 1, 1) := by decide +kernel
theorem dX11_laugh_1 : decode cX11_laugh 1 = .ok (.ifCond .lt 41, 3) := by decide +kernel
theorem dX11_laugh_4 : decode cX11_laugh 4 = .ok (.iload_n 1, 1) := by decide +kernel
theorem dX11_laugh_5 : decode cX11_laugh 5 = .ok (.bipush 16, 2) := by decide +kernel
theorem dX11_laugh_7 : decode cX11_laugh 7 = .ok (.if_icmp .gt 35, 3) := by decide +kernel
theorem dX11_laugh_10 : decode cX11_laugh 10 = .ok (.aload_n 0, 1) := by decide +kernel
theorem dX11_laugh_11 : decode cX11_laugh 11 = .ok (.getfield 33, 3) := by decide +kernel
theorem dX11_laugh_14 : decode cX11_laugh 14 = .ok (.iload_n 2, 1) := by decide +kernel
theorem dX11_laugh_15 : decode cX11_laugh 15 = .ok (.invokevirtual 149, 3) := by decide +kernel
theorem dX11_laugh_18 : decode cX11_laugh 18 = .ok (.ifCond .eq 24, 3) := by decide +kernel
theorem dX11_laugh_42 : decode cX11_laugh 42 = .ok (.ldc2_w 210, 3) := by decide +kernel
theorem dX11_laugh_45 : decode cX11_laugh 45 = .ok (.lreturn, 1) := by decide +kernel
theorem dX11_lakes_0 : decode cX11_lakes 0 = .ok (.iload_n 2, 1) := by decide +kernel
theorem dX11_lakes_1 : decode cX11_lakes 1 = .ok (.iconst 1, 1) := by decide +kernel
theorem dX11_lakes_2 : decode cX11_lakes 2 = .ok (.if_icmp .lt 18, 3) := by decide +kernel
theorem dX11_lakes_5 : decode cX11_lakes 5 = .ok (.iload_n 2, 1) := by decide +kernel
theorem dX11_lakes_6 : decode cX11_lakes 6 = .ok (.bipush 99, 2) := by decide +kernel
theorem dX11_lakes_8 : decode cX11_lakes 8 = .ok (.if_icmp .gt 12, 3) := by decide +kernel
theorem dX11_lakes_11 : decode cX11_lakes 11 = .ok (.iload_n 3, 1) := by decide +kernel
theorem dX11_lakes_12 : decode cX11_lakes 12 = .ok (.ifCond .lt 8, 3) := by decide +kernel
theorem dX11_lakes_15 : decode cX11_lakes 15 = .ok (.iload_n 3, 1) := by decide +kernel
theorem dX11_lakes_16 : decode cX11_lakes 16 = .ok (.iconst 1, 1) := by decide +kernel
theorem dX11_lakes_17 : decode cX11_lakes 17 = .ok (.if_icmp .le 6, 3) := by decide +kernel
theorem dX11_lakes_20 : decode cX11_lakes 20 = .ok (.bipush (-2), 2) := by decide +kernel
theorem dX11_lakes_22 : decode cX11_lakes 22 = .ok (.ireturn, 1) := by decide +kernel
theorem dX11_lakes_23 : decode cX11_lakes 23 = .ok (.aload_n 0, 1) := by decide +kernel
theorem dX11_lakes_24 : decode cX11_lakes 24 = .ok (.getfield 19, 3) := by decide +kernel
theorem dX11_lakes_27 : decode cX11_lakes 27 = .ok (.getfield 223, 3) := by decide +kernel
theorem dX11_lakes_30 : decode cX11_lakes 30 = .ok (.iconst 1, 1) := by decide +kernel
theorem dX11_lakes_31 : decode cX11_lakes 31 = .ok (.if_icmp .lt 14, 3) := by decide +kernel
theorem dX11_lakes_45 : decode cX11_lakes 45 = .ok (.iconst 0, 1) := by decide +kernel
theorem dX11_lakes_46 : decode cX11_lakes 46 = .ok (.ireturn, 1) := by decide +kernel
theorem dX11_sheet_0 : decode cX11_sheet 0 = .ok (.aload_n 0, 1) := by decide +kernel
theorem dX11_sheet_1 : decode cX11_sheet 1 = .ok (.iload_n 1, 1) := by decide +kernel
theorem dX11_sheet_2 : decode cX11_sheet 2 = .ok (.invokevirtual 129, 3) := by decide +kernel
theorem dX11_sheet_5 : decode cX11_sheet 5 = .ok (.astore 4, 2) := by decide +kernel
theorem dX11_sheet_7 : decode cX11_sheet 7 = .ok (.aload 4, 2) := by decide +kernel
theorem dX11_sheet_9 : decode cX11_sheet 9 = .ok (.ifnull 16, 3) := by decide +kernel
theorem dX11_sheet_12 : decode cX11_sheet 12 = .ok (.iload_n 2, 1) := by decide +kernel
theorem dX11_sheet_13 : decode cX11_sheet 13 = .ok (.invokestatic 230, 3) := by decide +kernel
theorem dX11_sheet_16 : decode cX11_sheet 16 = .ok (.ifCond .eq 9, 3) := by decide +kernel
theorem dX11_sheet_19 : decode cX11_sheet 19 = .ok (.iload_n 3, 1) := by decide +kernel
theorem dX11_sheet_20 : decode cX11_sheet 20 = .ok (.bipush 60, 2) := by decide +kernel
theorem dX11_sheet_22 : decode cX11_sheet 22 = .ok (.if_icmp .le 6, 3) := by decide +kernel
theorem dX11_sheet_25 : decode cX11_sheet 25 = .ok (.bipush (-2), 2) := by decide +kernel
theorem dX11_sheet_27 : decode cX11_sheet 27 = .ok (.ireturn, 1) := by decide +kernel
theorem dX11_sheet_28 : decode cX11_sheet 28 = .ok (.iload_n 3, 1) := by decide +kernel
theorem dX11_sheet_29 : decode cX11_sheet 29 = .ok (.ifCond .ge 9, 3) := by decide +kernel
theorem dX11_sheet_32 : decode cX11_sheet 32 = .ok (.aload_n 0, 1) := by decide +kernel
theorem dX11_sheet_33 : decode cX11_sheet 33 = .ok (.iconst 5, 1) := by decide +kernel
theorem dX11_sheet_34 : decode cX11_sheet 34 = .ok (.invokevirtual 137, 3) := by decide +kernel
theorem dX11_sheet_37 : decode cX11_sheet 37 = .ok (.ireturn, 1) := by decide +kernel
theorem dX11_sheet_38 : decode cX11_sheet 38 = .ok (.aload 4, 2) := by decide +kernel
theorem dX11_sheet_40 : decode cX11_sheet 40 = .ok (.iload_n 2, 1) := by decide +kernel
theorem dX11_sheet_41 : decode cX11_sheet 41 = .ok (.iload_n 3, 1) := by decide +kernel
theorem dX11_sheet_42 : decode cX11_sheet 42 = .ok (.invokevirtual 233, 3) := by decide +kernel
theorem dX11_sheet_45 : decode cX11_sheet 45 = .ok (.iload_n 3, 1) := by decide +kernel
theorem dX11_sheet_46 : decode cX11_sheet 46 = .ok (.ireturn, 1) := by decide +kernel
theorem dX11_lose_0 : decode cX11_lose 0 = .ok (.aload_n 0, 1) := by decide +kernel
theorem dX11_lose_1 : decode cX11_lose 1 = .ok (.iload_n 1, 1) := by decide +kernel
theorem dX11_lose_2 : decode cX11_lose 2 = .ok (.invokevirtual 129, 3) := by decide +kernel
theorem dX11_lose_5 : decode cX11_lose 5 = .ok (.astore_n 2, 1) := by decide +kernel
theorem dX11_lose_6 : decode cX11_lose 6 = .ok (.aload_n 2, 1) := by decide +kernel
theorem dX11_lose_7 : decode cX11_lose 7 = .ok (.ifnonnull 6, 3) := by decide +kernel
theorem dX11_lose_10 : decode cX11_lose 10 = .ok (.bipush (-2), 2) := by decide +kernel
theorem dX11_lose_12 : decode cX11_lose 12 = .ok (.ireturn, 1) := by decide +kernel
theorem dX11_lose_13 : decode cX11_lose 13 = .ok (.aload_n 2, 1) := by decide +kernel
theorem dX11_lose_14 : decode cX11_lose 14 = .ok (.getfield 133, 3) := by decide +kernel
theorem dX11_lose_17 : decode cX11_lose 17 = .ok (.ifCond .eq 9, 3) := by decide +kernel
theorem dX11_lose_20 : decode cX11_lose 20 = .ok (.aload_n 0, 1) := by decide +kernel
theorem dX11_lose_21 : decode cX11_lose 21 = .ok (.iconst 1, 1) := by decide +kernel
theorem dX11_lose_22 : decode cX11_lose 22 = .ok (.invokevirtual 137, 3) := by decide +kernel
theorem dX11_lose_25 : decode cX11_lose 25 = .ok (.ireturn, 1) := by decide +kernel
theorem dX11_lay_0 : decode cX11_lay 0 = .ok (.aload_n 0, 1) := by decide +kernel
theorem dX11_lay_1 : decode cX11_lay 1 = .ok (.iload_n 1, 1) := by decide +kernel
theorem dX11_lay_2 : decode cX11_lay 2 = .ok (.invokevirtual 129, 3) := by decide +kernel
theorem dX11_lay_5 : decode cX11_lay 5 = .ok (.astore 5, 2) := by decide +kernel
theorem dX11_lay_7 : decode cX11_lay 7 = .ok (.aload 5, 2) := by decide +kernel
theorem dX11_lay_9 : decode cX11_lay 9 = .ok (.ifnull 10, 3) := by decide +kernel
theorem dX11_lay_12 : decode cX11_lay 12 = .ok (.iload_n 2, 1) := by decide +kernel
theorem dX11_lay_13 : decode cX11_lay 13 = .ok (.invokestatic 230, 3) := by decide +kernel
theorem dX11_lay_16 : decode cX11_lay 16 = .ok (.ifCond .ne 6, 3) := by decide +kernel
theorem dX11_lay_19 : decode cX11_lay 19 = .ok (.bipush (-2), 2) := by decide +kernel
theorem dX11_lay_21 : decode cX11_lay 21 = .ok (.ireturn, 1) := by decide +kernel
theorem dX11_lay_22 : decode cX11_lay 22 = .ok (.aload_n 0, 1) := by decide +kernel
theorem dX11_lay_23 : decode cX11_lay 23 = .ok (.aload 5, 2) := by decide +kernel
theorem dX11_lay_25 : decode cX11_lay 25 = .ok (.iload_n 2, 1) := by decide +kernel
theorem dX11_lay_26 : decode cX11_lay 26 = .ok (.iload_n 3, 1) := by decide +kernel
theorem dX11_lay_27 : decode cX11_lay 27 = .ok (.invokevirtual 237, 3) := by decide +kernel
theorem dX11_lay_30 : decode cX11_lay 30 = .ok (.istore 6, 2) := by decide +kernel
theorem dX11_lay_32 : decode cX11_lay 32 = .ok (.iload 6, 2) := by decide +kernel
theorem dX11_lay_34 : decode cX11_lay 34 = .ok (.ifCond .eq 6, 3) := by decide +kernel
theorem dX11_lay_37 : decode cX11_lay 37 = .ok (.iload 6, 2) := by decide +kernel
theorem dX11_lay_39 : decode cX11_lay 39 = .ok (.ireturn, 1) := by decide +kernel
theorem dX11_get_0 : decode cX11_get 0 = .ok (.aload_n 0, 1) := by decide +kernel
theorem dX11_get_1 : decode cX11_get 1 = .ok (.iload_n 1, 1) := by decide +kernel
theorem dX11_get_2 : decode cX11_get 2 = .ok (.invokevirtual 129, 3) := by decide +kernel
theorem dX11_get_5 : decode cX11_get 5 = .ok (.astore 4, 2) := by decide +kernel
theorem dX11_get_7 : decode cX11_get 7 = .ok (.aload 4, 2) := by decide +kernel
theorem dX11_get_9 : decode cX11_get 9 = .ok (.ifnull 21, 3) := by decide +kernel
theorem dX11_get_12 : decode cX11_get 12 = .ok (.iload_n 2, 1) := by decide +kernel
theorem dX11_get_13 : decode cX11_get 13 = .ok (.invokestatic 230, 3) := by decide +kernel
theorem dX11_get_16 : decode cX11_get 16 = .ok (.ifCond .eq 14, 3) := by decide +kernel
theorem dX11_get_19 : decode cX11_get 19 = .ok (.aload_n 0, 1) := by decide +kernel
theorem dX11_get_20 : decode cX11_get 20 = .ok (.aload 4, 2) := by decide +kernel
theorem dX11_get_22 : decode cX11_get 22 = .ok (.iload_n 2, 1) := by decide +kernel
theorem dX11_get_23 : decode cX11_get 23 = .ok (.iload_n 3, 1) := by decide +kernel
theorem dX11_get_24 : decode cX11_get 24 = .ok (.invokevirtual 237, 3) := by decide +kernel
theorem dX11_get_27 : decode cX11_get 27 = .ok (.ifCond .eq 6, 3) := by decide +kernel
theorem dX11_get_30 : decode cX11_get 30 = .ok (.ldc 244, 2) := by decide +kernel
theorem dX11_get_32 : decode cX11_get 32 = .ok (.ireturn, 1) := by decide +kernel
theorem dX11_copy_0 : decode cX11_copy 0 = .ok (.aload_n 0, 1) := by decide +kernel
theorem dX11_copy_1 : decode cX11_copy 1 = .ok (.iload_n 1, 1) := by decide +kernel
theorem dX11_copy_2 : decode cX11_copy 2 = .ok (.invokevirtual 129, 3) := by decide +kernel
theorem dX11_copy_5 : decode cX11_copy 5 = .ok (.astore 6, 2) := by decide +kernel
theorem dX11_copy_7 : decode cX11_copy 7 = .ok (.aload_n 0, 1) := by decide +kernel
theorem dX11_copy_8 : decode cX11_copy 8 = .ok (.iload_n 3, 1) := by decide +kernel
theorem dX11_copy_9 : decode cX11_copy 9 = .ok (.invokevirtual 129, 3) := by decide +kernel
theorem dX11_copy_12 : decode cX11_copy 12 = .ok (.astore 7, 2) := by decide +kernel
theorem dX11_copy_14 : decode cX11_copy 14 = .ok (.aload 6, 2) := by decide +kernel
theorem dX11_copy_16 : decode cX11_copy 16 = .ok (.ifnull 8, 3) := by decide +kernel
theorem dX11_copy_19 : decode cX11_copy 19 = .ok (.aload 7, 2) := by decide +kernel
theorem dX11_copy_21 : decode cX11_copy 21 = .ok (.ifnonnull 6, 3) := by decide +kernel
theorem dX11_copy_24 : decode cX11_copy 24 = .ok (.bipush (-2), 2) := by decide +kernel
theorem dX11_copy_26 : decode cX11_copy 26 = .ok (.ireturn, 1) := by decide +kernel
theorem dX11_copy_27 : decode cX11_copy 27 = .ok (.aload 6, 2) := by decide +kernel
theorem dX11_copy_29 : decode cX11_copy 29 = .ok (.getfield 133, 3) := by decide +kernel
theorem dX11_copy_32 : decode cX11_copy 32 = .ok (.ifCond .ne 11, 3) := by decide +kernel
theorem dX11_copy_43 : decode cX11_copy 43 = .ok (.aload_n 0, 1) := by decide +kernel
theorem dX11_copy_44 : decode cX11_copy 44 = .ok (.iconst 1, 1) := by decide +kernel
theorem dX11_copy_45 : decode cX11_copy 45 = .ok (.invokevirtual 137, 3) := by decide +kernel
theorem dX11_copy_48 : decode cX11_copy 48 = .ok (.ireturn, 1) := by decide +kernel
theorem dX11_write_0 : decode cX11_write 0 = .ok (.aload_n 0, 1) := by decide +kernel
theorem dX11_write_1 : decode cX11_write 1 = .ok (.iload_n 3, 1) := by decide +kernel
theorem dX11_write_2 : decode cX11_write 2 = .ok (.invokevirtual 129, 3) := by decide +kernel
theorem dX11_write_5 : decode cX11_write 5 = .ok (.astore 4, 2) := by decide +kernel
theorem dX11_write_7 : decode cX11_write 7 = .ok (.aload_n 0, 1) := by decide +kernel
theorem dX11_write_8 : decode cX11_write 8 = .ok (.getfield 33, 3) := by decide +kernel
theorem dX11_write_11 : decode cX11_write 11 = .ok (.iload_n 1, 1) := by decide +kernel
theorem dX11_write_12 : decode cX11_write 12 = .ok (.invokevirtual 149, 3) := by decide +kernel
theorem dX11_write_15 : decode cX11_write 15 = .ok (.ifCond .eq 17, 3) := by decide +kernel
theorem dX11_write_32 : decode cX11_write 32 = .ok (.bipush (-2), 2) := by decide +kernel
theorem dX11_write_34 : decode cX11_write 34 = .ok (.ireturn, 1) := by decide +kernel
theorem dX11_count_0 : decode cX11_count 0 = .ok (.iload_n 1, 1) := by decide +kernel
theorem dX11_count_1 : decode cX11_count 1 = .ok (.tableswitch 117 0 8 #[51, 59, 67, 75, 83, 91, 99, 107, 112], 51) := by decide +kernel
theorem dX11_count_52 : decode cX11_count 52 = .ok (.aload_n 0, 1) := by decide +kernel
theorem dX11_count_53 : decode cX11_count 53 = .ok (.getfield 10, 3) := by decide +kernel
theorem dX11_count_56 : decode cX11_count 56 = .ok (.getfield 108, 3) := by decide +kernel
theorem dX11_count_59 : decode cX11_count 59 = .ok (.ireturn, 1) := by decide +kernel
theorem dX11_count_60 : decode cX11_count 60 = .ok (.aload_n 0, 1) := by decide +kernel
theorem dX11_count_61 : decode cX11_count 61 = .ok (.getfield 19, 3) := by decide +kernel
theorem dX11_count_64 : decode cX11_count 64 = .ok (.getfield 223, 3) := by decide +kernel
theorem dX11_count_67 : decode cX11_count 67 = .ok (.ireturn, 1) := by decide +kernel
theorem dX11_count_68 : decode cX11_count 68 = .ok (.aload_n 0, 1) := by decide +kernel
theorem dX11_count_69 : decode cX11_count 69 = .ok (.getfield 26, 3) := by decide +kernel
theorem dX11_count_72 : decode cX11_count 72 = .ok (.getfield 185, 3) := by decide +kernel
theorem dX11_count_75 : decode cX11_count 75 = .ok (.ireturn, 1) := by decide +kernel
theorem dX11_count_76 : decode cX11_count 76 = .ok (.aload_n 0, 1) := by decide +kernel
theorem dX11_count_77 : decode cX11_count 77 = .ok (.getfield 10, 3) := by decide +kernel
theorem dX11_count_80 : decode cX11_count 80 = .ok (.getfield 266, 3) := by decide +kernel
theorem dX11_count_83 : decode cX11_count 83 = .ok (.ireturn, 1) := by decide +kernel
theorem dX11_count_84 : decode cX11_count 84 = .ok (.aload_n 0, 1) := by decide +kernel
theorem dX11_count_85 : decode cX11_count 85 = .ok (.getfield 19, 3) := by decide +kernel
theorem dX11_count_88 : decode cX11_count 88 = .ok (.getfield 267, 3) := by decide +kernel
theorem dX11_count_91 : decode cX11_count 91 = .ok (.ireturn, 1) := by decide +kernel
theorem dX11_count_92 : decode cX11_count 92 = .ok (.aload_n 0, 1) := by decide +kernel
theorem dX11_count_93 : decode cX11_count 93 = .ok (.getfield 26, 3) := by decide +kernel
theorem dX11_count_96 : decode cX11_count 96 = .ok (.getfield 268, 3) := by decide +kernel
theorem dX11_count_99 : decode cX11_count 99 = .ok (.ireturn, 1) := by decide +kernel
theorem dX11_count_100 : decode cX11_count 100 = .ok (.aload_n 0, 1) := by decide +kernel
theorem dX11_count_101 : decode cX11_count 101 = .ok (.getfield 33, 3) := by decide +kernel
theorem dX11_count_104 : decode cX11_count 104 = .ok (.getfield 128, 3) := by decide +kernel
theorem dX11_count_107 : decode cX11_count 107 = .ok (.ireturn, 1) := by decide +kernel
theorem dX11_count_108 : decode cX11_count 108 = .ok (.aload_n 0, 1) := by decide +kernel
theorem dX11_count_109 : decode cX11_count 109 = .ok (.getfield 193, 3) := by decide +kernel
theorem dX11_count_112 : decode cX11_count 112 = .ok (.ireturn, 1) := by decide +kernel
theorem dX11_count_113 : decode cX11_count 113 = .ok (.aload_n 0, 1) := by decide +kernel
theorem dX11_count_114 : decode cX11_count 114 = .ok (.getfield 269, 3) := by decide +kernel
theorem dX11_count_117 : decode cX11_count 117 = .ok (.ireturn, 1) := by decide +kernel
theorem dX11_count_118 : decode cX11_count 118 = .ok (.bipush (-2), 2) := by decide +kernel
theorem dX11_count_120 : decode cX11_count 120 = .ok (.ireturn, 1) := by decide +kernel
theorem dX11_digest_0 : decode cX11_digest 0 = .ok (.ldc2_w 272, 3) := by decide +kernel
theorem dX11_digest_3 : decode cX11_digest 3 = .ok (.lstore_n 1, 1) := by decide +kernel
theorem dX11_digest_4 : decode cX11_digest 4 = .ok (.iconst 0, 1) := by decide +kernel
theorem dX11_digest_5 : decode cX11_digest 5 = .ok (.istore_n 3, 1) := by decide +kernel
theorem dX11_digest_6 : decode cX11_digest 6 = .ok (.iload_n 3, 1) := by decide +kernel
theorem dX11_digest_7 : decode cX11_digest 7 = .ok (.bipush 7, 2) := by decide +kernel
theorem dX11_digest_9 : decode cX11_digest 9 = .ok (.if_icmp .gt 22, 3) := by decide +kernel
theorem dX11_digest_12 : decode cX11_digest 12 = .ok (.ldc2_w 274, 3) := by decide +kernel
theorem dX11_digest_15 : decode cX11_digest 15 = .ok (.lload_n 1, 1) := by decide +kernel
theorem dX11_digest_16 : decode cX11_digest 16 = .ok (.lmul, 1) := by decide +kernel
theorem dX11_digest_17 : decode cX11_digest 17 = .ok (.aload_n 0, 1) := by decide +kernel
theorem dX11_digest_18 : decode cX11_digest 18 = .ok (.iload_n 3, 1) := by decide +kernel
theorem dX11_digest_19 : decode cX11_digest 19 = .ok (.invokevirtual 276, 3) := by decide +kernel
theorem dX11_digest_22 : decode cX11_digest 22 = .ok (.i2l, 1) := by decide +kernel
theorem dX11_digest_23 : decode cX11_digest 23 = .ok (.ladd, 1) := by decide +kernel
theorem dX11_digest_24 : decode cX11_digest 24 = .ok (.lstore_n 1, 1) := by decide +kernel
theorem dX11_digest_25 : decode cX11_digest 25 = .ok (.iinc 3 1, 3) := by decide +kernel
theorem dX11_digest_28 : decode cX11_digest 28 = .ok (.goto (-22), 3) := by decide +kernel
theorem dX11_digest_31 : decode cX11_digest 31 = .ok (.iconst 0, 1) := by decide +kernel
theorem dX11_digest_32 : decode cX11_digest 32 = .ok (.istore_n 3, 1) := by decide +kernel
theorem dX11_digest_33 : decode cX11_digest 33 = .ok (.iload_n 3, 1) := by decide +kernel
theorem dX11_digest_34 : decode cX11_digest 34 = .ok (.iconst 3, 1) := by decide +kernel
theorem dX11_digest_35 : decode cX11_digest 35 = .ok (.if_icmp .ge 22, 3) := by decide +kernel
theorem dX11_digest_38 : decode cX11_digest 38 = .ok (.ldc2_w 274, 3) := by decide +kernel
theorem dX11_digest_41 : decode cX11_digest 41 = .ok (.lload_n 1, 1) := by decide +kernel
theorem dX11_digest_42 : decode cX11_digest 42 = .ok (.lmul, 1) := by decide +kernel
theorem dX11_digest_43 : decode cX11_digest 43 = .ok (.aload_n 0, 1) := by decide +kernel
theorem dX11_digest_44 : decode cX11_digest 44 = .ok (.iload_n 3, 1) := by decide +kernel
theorem dX11_digest_45 : decode cX11_digest 45 = .ok (.invokevirtual 279, 3) := by decide +kernel
theorem dX11_digest_48 : decode cX11_digest 48 = .ok (.i2l, 1) := by decide +kernel
theorem dX11_digest_49 : decode cX11_digest 49 = .ok (.ladd, 1) := by decide +kernel
theorem dX11_digest_50 : decode cX11_digest 50 = .ok (.lstore_n 1, 1) := by decide +kernel
theorem dX11_digest_51 : decode cX11_digest 51 = .ok (.iinc 3 1, 3) := by decide +kernel
theorem dX11_digest_54 : decode cX11_digest 54 = .ok (.goto (-21), 3) := by decide +kernel
theorem dX11_digest_57 : decode cX11_digest 57 = .ok (.iconst 0, 1) := by decide +kernel
theorem dX11_digest_58 : decode cX11_digest 58 = .ok (.istore_n 3, 1) := by decide +kernel
theorem dX11_digest_59 : decode cX11_digest 59 = .ok (.iload_n 3, 1) := by decide +kernel
theorem dX11_digest_60 : decode cX11_digest 60 = .ok (.aload_n 0, 1) := by decide +kernel
theorem dX11_digest_61 : decode cX11_digest 61 = .ok (.getfield 10, 3) := by decide +kernel
theorem dX11_digest_64 : decode cX11_digest 64 = .ok (.getfield 108, 3) := by decide +kernel
theorem dX11_digest_67 : decode cX11_digest 67 = .ok (.if_icmp .ge 22, 3) := by decide +kernel
theorem dX11_digest_89 : decode cX11_digest 89 = .ok (.iconst 0, 1) := by decide +kernel
theorem dX11_digest_90 : decode cX11_digest 90 = .ok (.istore_n 3, 1) := by decide +kernel
theorem dX11_digest_91 : decode cX11_digest 91 = .ok (.iload_n 3, 1) := by decide +kernel
theorem dX11_digest_92 : decode cX11_digest 92 = .ok (.aload_n 0, 1) := by decide +kernel
theorem dX11_digest_93 : decode cX11_digest 93 = .ok (.getfield 19, 3) := by decide +kernel
theorem dX11_digest_96 : decode cX11_digest 96 = .ok (.getfield 223, 3) := by decide +kernel
theorem dX11_digest_99 : decode cX11_digest 99 = .ok (.if_icmp .ge 65, 3) := by decide +kernel
theorem dX11_digest_164 : decode cX11_digest 164 = .ok (.iconst 0, 1) := by decide +kernel
theorem dX11_digest_165 : decode cX11_digest 165 = .ok (.istore_n 3, 1) := by decide +kernel
theorem dX11_digest_166 : decode cX11_digest 166 = .ok (.iload_n 3, 1) := by decide +kernel
theorem dX11_digest_167 : decode cX11_digest 167 = .ok (.aload_n 0, 1) := by decide +kernel
theorem dX11_digest_168 : decode cX11_digest 168 = .ok (.getfield 26, 3) := by decide +kernel
theorem dX11_digest_171 : decode cX11_digest 171 = .ok (.getfield 185, 3) := by decide +kernel
theorem dX11_digest_174 : decode cX11_digest 174 = .ok (.if_icmp .ge 37, 3) := by decide +kernel
theorem dX11_digest_211 : decode cX11_digest 211 = .ok (.iconst 0, 1) := by decide +kernel
theorem dX11_digest_212 : decode cX11_digest 212 = .ok (.istore_n 3, 1) := by decide +kernel
theorem dX11_digest_213 : decode cX11_digest 213 = .ok (.iload_n 3, 1) := by decide +kernel
theorem dX11_digest_214 : decode cX11_digest 214 = .ok (.aload_n 0, 1) := by decide +kernel
theorem dX11_digest_215 : decode cX11_digest 215 = .ok (.getfield 33, 3) := by decide +kernel
theorem dX11_digest_218 : decode cX11_digest 218 = .ok (.getfield 128, 3) := by decide +kernel
theorem dX11_digest_221 : decode cX11_digest 221 = .ok (.if_icmp .ge 16, 3) := by decide +kernel
theorem dX11_digest_237 : decode cX11_digest 237 = .ok (.ldc2_w 274, 3) := by decide +kernel
theorem dX11_digest_240 : decode cX11_digest 240 = .ok (.lload_n 1, 1) := by decide +kernel
theorem dX11_digest_241 : decode cX11_digest 241 = .ok (.lmul, 1) := by decide +kernel
theorem dX11_digest_242 : decode cX11_digest 242 = .ok (.aload_n 0, 1) := by decide +kernel
theorem dX11_digest_243 : decode cX11_digest 243 = .ok (.invokevirtual 298, 3) := by decide +kernel
theorem dX11_digest_246 : decode cX11_digest 246 = .ok (.i2l, 1) := by decide +kernel
theorem dX11_digest_247 : decode cX11_digest 247 = .ok (.ladd, 1) := by decide +kernel
theorem dX11_digest_248 : decode cX11_digest 248 = .ok (.lstore_n 1, 1) := by decide +kernel
theorem dX11_digest_249 : decode cX11_digest 249 = .ok (.ldc2_w 274, 3) := by decide +kernel
theorem dX11_digest_252 : decode cX11_digest 252 = .ok (.lload_n 1, 1) := by decide +kernel
theorem dX11_digest_253 : decode cX11_digest 253 = .ok (.lmul, 1) := by decide +kernel
theorem dX11_digest_254 : decode cX11_digest 254 = .ok (.aload_n 0, 1) := by decide +kernel
theorem dX11_digest_255 : decode cX11_digest 255 = .ok (.bipush 7, 2) := by decide +kernel
theorem dX11_digest_257 : decode cX11_digest 257 = .ok (.bipush 30, 2) := by decide +kernel
theorem dX11_digest_259 : decode cX11_digest 259 = .ok (.iconst 0, 1) := by decide +kernel
end
section
theorem dX11_digest_260 : decode cX11_digest 260 = .ok (.invokevirtual 301, 3) := by decide +kernel
theorem dX11_digest_263 : decode cX11_digest 263 = .ok (.i2l, 1) := by decide +kernel
theorem dX11_digest_264 : decode cX11_digest 264 = .ok (.ladd, 1) := by decide +kernel
theorem dX11_digest_265 : decode cX11_digest 265 = .ok (.lstore_n 1, 1) := by decide +kernel
theorem dX11_digest_266 : decode cX11_digest 266 = .ok (.ldc2_w 274, 3) := by decide +kernel
theorem dX11_digest_269 : decode cX11_digest 269 = .ok (.lload_n 1, 1) := by decide +kernel
theorem dX11_digest_270 : decode cX11_digest 270 = .ok (.lmul, 1) := by decide +kernel
theorem dX11_digest_271 : decode cX11_digest 271 = .ok (.aload_n 0, 1) := by decide +kernel
theorem dX11_digest_272 : decode cX11_digest 272 = .ok (.bipush 7, 2) := by decide +kernel
theorem dX11_digest_274 : decode cX11_digest 274 = .ok (.bipush 30, 2) := by decide +kernel
theorem dX11_digest_276 : decode cX11_digest 276 = .ok (.iconst 1, 1) := by decide +kernel
theorem dX11_digest_277 : decode cX11_digest 277 = .ok (.invokevirtual 301, 3) := by decide +kernel
theorem dX11_digest_280 : decode cX11_digest 280 = .ok (.i2l, 1) := by decide +kernel
theorem dX11_digest_281 : decode cX11_digest 281 = .ok (.ladd, 1) := by decide +kernel
theorem dX11_digest_282 : decode cX11_digest 282 = .ok (.lreturn, 1) := by decide +kernel
theorem dX11_textOf_0 : decode cX11_textOf 0 = .ok (.iload_n 1, 1) := by decide +kernel
theorem dX11_textOf_1 : decode cX11_textOf 1 = .ok (.tableswitch 42 0 2 #[27, 32, 37], 27) := by decide +kernel
theorem dX11_textOf_28 : decode cX11_textOf 28 = .ok (.aload_n 0, 1) := by decide +kernel
theorem dX11_textOf_29 : decode cX11_textOf 29 = .ok (.getfield 10, 3) := by decide +kernel
theorem dX11_textOf_32 : decode cX11_textOf 32 = .ok (.areturn, 1) := by decide +kernel
theorem dX11_textOf_33 : decode cX11_textOf 33 = .ok (.aload_n 0, 1) := by decide +kernel
theorem dX11_textOf_34 : decode cX11_textOf 34 = .ok (.getfield 19, 3) := by decide +kernel
theorem dX11_textOf_37 : decode cX11_textOf 37 = .ok (.areturn, 1) := by decide +kernel
theorem dX11_textOf_38 : decode cX11_textOf 38 = .ok (.aload_n 0, 1) := by decide +kernel
theorem dX11_textOf_39 : decode cX11_textOf 39 = .ok (.getfield 26, 3) := by decide +kernel
theorem dX11_textOf_42 : decode cX11_textOf 42 = .ok (.areturn, 1) := by decide +kernel
theorem dX11_textOf_43 : decode cX11_textOf 43 = .ok (.aconst_null, 1) := by decide +kernel
theorem dX11_textOf_44 : decode cX11_textOf 44 = .ok (.areturn, 1) := by decide +kernel
theorem dX11_sheetOf_0 : decode cX11_sheetOf 0 = .ok (.iload_n 1, 1) := by decide +kernel
theorem dX11_sheetOf_1 : decode cX11_sheetOf 1 = .ok (.ifCond .lt 21, 3) := by decide +kernel
theorem dX11_sheetOf_4 : decode cX11_sheetOf 4 = .ok (.iload_n 1, 1) := by decide +kernel
theorem dX11_sheetOf_5 : decode cX11_sheetOf 5 = .ok (.aload_n 0, 1) := by decide +kernel
theorem dX11_sheetOf_6 : decode cX11_sheetOf 6 = .ok (.getfield 79, 3) := by decide +kernel
theorem dX11_sheetOf_9 : decode cX11_sheetOf 9 = .ok (.arraylength, 1) := by decide +kernel
theorem dX11_sheetOf_10 : decode cX11_sheetOf 10 = .ok (.if_icmp .ge 12, 3) := by decide +kernel
theorem dX11_sheetOf_13 : decode cX11_sheetOf 13 = .ok (.aload_n 0, 1) := by decide +kernel
theorem dX11_sheetOf_14 : decode cX11_sheetOf 14 = .ok (.getfield 79, 3) := by decide +kernel
theorem dX11_sheetOf_17 : decode cX11_sheetOf 17 = .ok (.iload_n 1, 1) := by decide +kernel
theorem dX11_sheetOf_18 : decode cX11_sheetOf 18 = .ok (.aaload, 1) := by decide +kernel
theorem dX11_sheetOf_19 : decode cX11_sheetOf 19 = .ok (.goto 4, 3) := by decide +kernel
theorem dX11_sheetOf_22 : decode cX11_sheetOf 22 = .ok (.aconst_null, 1) := by decide +kernel
theorem dX11_sheetOf_23 : decode cX11_sheetOf 23 = .ok (.areturn, 1) := by decide +kernel
theorem dX11_isForm_0 : decode cX11_isForm 0 = .ok (.iload_n 0, 1) := by decide +kernel
theorem dX11_isForm_1 : decode cX11_isForm 1 = .ok (.ifCond .lt 12, 3) := by decide +kernel
theorem dX11_isForm_4 : decode cX11_isForm 4 = .ok (.iload_n 0, 1) := by decide +kernel
theorem dX11_isForm_5 : decode cX11_isForm 5 = .ok (.iconst 2, 1) := by decide +kernel
theorem dX11_isForm_6 : decode cX11_isForm 6 = .ok (.if_icmp .gt 7, 3) := by decide +kernel
theorem dX11_isForm_9 : decode cX11_isForm 9 = .ok (.iconst 1, 1) := by decide +kernel
theorem dX11_isForm_10 : decode cX11_isForm 10 = .ok (.goto 4, 3) := by decide +kernel
theorem dX11_isForm_13 : decode cX11_isForm 13 = .ok (.iconst 0, 1) := by decide +kernel
theorem dX11_isForm_14 : decode cX11_isForm 14 = .ok (.ireturn, 1) := by decide +kernel
theorem dX11_found_0 : decode cX11_found 0 = .ok (.aload_n 0, 1) := by decide +kernel
theorem dX11_found_1 : decode cX11_found 1 = .ok (.iload_n 1, 1) := by decide +kernel
theorem dX11_found_2 : decode cX11_found 2 = .ok (.putfield 269, 3) := by decide +kernel
theorem dX11_found_5 : decode cX11_found 5 = .ok (.bipush (-10), 2) := by decide +kernel
theorem dX11_found_7 : decode cX11_found 7 = .ok (.iload_n 1, 1) := by decide +kernel
theorem dX11_found_8 : decode cX11_found 8 = .ok (.isub, 1) := by decide +kernel
theorem dX11_found_9 : decode cX11_found 9 = .ok (.ireturn, 1) := by decide +kernel
theorem dX11_itemRefusal_0 : decode cX11_itemRefusal 0 = .ok (.aload_n 1, 1) := by decide +kernel
theorem dX11_itemRefusal_1 : decode cX11_itemRefusal 1 = .ok (.getfield 133, 3) := by decide +kernel
theorem dX11_itemRefusal_4 : decode cX11_itemRefusal 4 = .ok (.ifCond .eq 9, 3) := by decide +kernel
theorem dX11_itemRefusal_7 : decode cX11_itemRefusal 7 = .ok (.aload_n 0, 1) := by decide +kernel
theorem dX11_itemRefusal_8 : decode cX11_itemRefusal 8 = .ok (.iconst 1, 1) := by decide +kernel
theorem dX11_itemRefusal_9 : decode cX11_itemRefusal 9 = .ok (.invokevirtual 137, 3) := by decide +kernel
theorem dX11_itemRefusal_12 : decode cX11_itemRefusal 12 = .ok (.ireturn, 1) := by decide +kernel
theorem dX12_init_0 : decode cX12_init 0 = .ok (.aload_n 0, 1) := by decide +kernel
theorem dX12_init_1 : decode cX12_init 1 = .ok (.invokespecial 1, 3) := by decide +kernel
theorem dX12_init_4 : decode cX12_init 4 = .ok (.aload_n 0, 1) := by decide +kernel
theorem dX12_init_5 : decode cX12_init 5 = .ok (.iconst 4, 1) := by decide +kernel
theorem dX12_init_6 : decode cX12_init 6 = .ok (.newarray .int, 2) := by decide +kernel
theorem dX12_init_8 : decode cX12_init 8 = .ok (.putfield 7, 3) := by decide +kernel
theorem dX12_init_11 : decode cX12_init 11 = .ok (.aload_n 0, 1) := by decide +kernel
theorem dX12_init_12 : decode cX12_init 12 = .ok (.iconst 4, 1) := by decide +kernel
theorem dX12_init_13 : decode cX12_init 13 = .ok (.newarray .int, 2) := by decide +kernel
theorem dX12_init_15 : decode cX12_init 15 = .ok (.putfield 13, 3) := by decide +kernel
theorem dX12_init_18 : decode cX12_init 18 = .ok (.aload_n 0, 1) := by decide +kernel
theorem dX12_init_19 : decode cX12_init 19 = .ok (.sipush 240, 3) := by decide +kernel
theorem dX12_init_22 : decode cX12_init 22 = .ok (.newarray .int, 2) := by decide +kernel
theorem dX12_init_24 : decode cX12_init 24 = .ok (.putfield 16, 3) := by decide +kernel
theorem dX12_init_27 : decode cX12_init 27 = .ok (.aload_n 0, 1) := by decide +kernel
theorem dX12_init_28 : decode cX12_init 28 = .ok (.bipush 60, 2) := by decide +kernel
theorem dX12_init_30 : decode cX12_init 30 = .ok (.newarray .int, 2) := by decide +kernel
theorem dX12_init_32 : decode cX12_init 32 = .ok (.putfield 19, 3) := by decide +kernel
theorem dX12_init_35 : decode cX12_init 35 = .ok (.aload_n 0, 1) := by decide +kernel
theorem dX12_init_36 : decode cX12_init 36 = .ok (.bipush 120, 2) := by decide +kernel
theorem dX12_init_38 : decode cX12_init 38 = .ok (.newarray .int, 2) := by decide +kernel
theorem dX12_init_40 : decode cX12_init 40 = .ok (.putfield 22, 3) := by decide +kernel
theorem dX12_init_43 : decode cX12_init 43 = .ok (.aload_n 0, 1) := by decide +kernel
theorem dX12_init_44 : decode cX12_init 44 = .ok (.iconst 3, 1) := by decide +kernel
theorem dX12_init_45 : decode cX12_init 45 = .ok (.newarray .int, 2) := by decide +kernel
theorem dX12_init_47 : decode cX12_init 47 = .ok (.putfield 25, 3) := by decide +kernel
theorem dX12_init_50 : decode cX12_init 50 = .ok (.aload_n 0, 1) := by decide +kernel
theorem dX12_init_51 : decode cX12_init 51 = .ok (.bipush 24, 2) := by decide +kernel
theorem dX12_init_53 : decode cX12_init 53 = .ok (.newarray .int, 2) := by decide +kernel
theorem dX12_init_55 : decode cX12_init 55 = .ok (.putfield 28, 3) := by decide +kernel
theorem dX12_init_58 : decode cX12_init 58 = .ok (.aload_n 0, 1) := by decide +kernel
theorem dX12_init_59 : decode cX12_init 59 = .ok (.bipush 32, 2) := by decide +kernel
theorem dX12_init_61 : decode cX12_init 61 = .ok (.newarray .int, 2) := by decide +kernel
theorem dX12_init_63 : decode cX12_init 63 = .ok (.putfield 31, 3) := by decide +kernel
theorem dX12_init_66 : decode cX12_init 66 = .ok (.aload_n 0, 1) := by decide +kernel
theorem dX12_init_67 : decode cX12_init 67 = .ok (.bipush 16, 2) := by decide +kernel
theorem dX12_init_69 : decode cX12_init 69 = .ok (.newarray .int, 2) := by decide +kernel
theorem dX12_init_71 : decode cX12_init 71 = .ok (.putfield 34, 3) := by decide +kernel
theorem dX12_init_74 : decode cX12_init 74 = .ok (.aload_n 0, 1) := by decide +kernel
theorem dX12_init_75 : decode cX12_init 75 = .ok (.bipush 32, 2) := by decide +kernel
theorem dX12_init_77 : decode cX12_init 77 = .ok (.newarray .int, 2) := by decide +kernel
theorem dX12_init_79 : decode cX12_init 79 = .ok (.putfield 37, 3) := by decide +kernel
theorem dX12_init_82 : decode cX12_init 82 = .ok (.aload_n 0, 1) := by decide +kernel
theorem dX12_init_83 : decode cX12_init 83 = .ok (.bipush 96, 2) := by decide +kernel
theorem dX12_init_85 : decode cX12_init 85 = .ok (.newarray .int, 2) := by decide +kernel
theorem dX12_init_87 : decode cX12_init 87 = .ok (.putfield 40, 3) := by decide +kernel
theorem dX12_init_90 : decode cX12_init 90 = .ok (.aload_n 0, 1) := by decide +kernel
theorem dX12_init_91 : decode cX12_init 91 = .ok (.iconst 2, 1) := by decide +kernel
theorem dX12_init_92 : decode cX12_init 92 = .ok (.newarray .int, 2) := by decide +kernel
theorem dX12_init_94 : decode cX12_init 94 = .ok (.putfield 43, 3) := by decide +kernel
theorem dX12_init_97 : decode cX12_init 97 = .ok (.aload_n 0, 1) := by decide +kernel
theorem dX12_init_98 : decode cX12_init 98 = .ok (.iconst 2, 1) := by decide +kernel
theorem dX12_init_99 : decode cX12_init 99 = .ok (.newarray .int, 2) := by decide +kernel
theorem dX12_init_101 : decode cX12_init 101 = .ok (.putfield 46, 3) := by decide +kernel
theorem dX12_init_104 : decode cX12_init 104 = .ok (.aload_n 0, 1) := by decide +kernel
theorem dX12_init_105 : decode cX12_init 105 = .ok (.iconst 2, 1) := by decide +kernel
theorem dX12_init_106 : decode cX12_init 106 = .ok (.newarray .int, 2) := by decide +kernel
theorem dX12_init_108 : decode cX12_init 108 = .ok (.putfield 49, 3) := by decide +kernel
theorem dX12_init_111 : decode cX12_init 111 = .ok (.aload_n 0, 1) := by decide +kernel
theorem dX12_init_112 : decode cX12_init 112 = .ok (.bipush 16, 2) := by decide +kernel
theorem dX12_init_114 : decode cX12_init 114 = .ok (.newarray .int, 2) := by decide +kernel
theorem dX12_init_116 : decode cX12_init 116 = .ok (.putfield 52, 3) := by decide +kernel
theorem dX12_init_119 : decode cX12_init 119 = .ok (.aload_n 0, 1) := by decide +kernel
theorem dX12_init_120 : decode cX12_init 120 = .ok (.bipush 25, 2) := by decide +kernel
theorem dX12_init_122 : decode cX12_init 122 = .ok (.newarray .int, 2) := by decide +kernel
theorem dX12_init_124 : decode cX12_init 124 = .ok (.putfield 55, 3) := by decide +kernel
theorem dX12_init_127 : decode cX12_init 127 = .ok (.iconst 0, 1) := by decide +kernel
theorem dX12_init_128 : decode cX12_init 128 = .ok (.istore_n 1, 1) := by decide +kernel
theorem dX12_init_129 : decode cX12_init 129 = .ok (.iload_n 1, 1) := by decide +kernel
theorem dX12_init_130 : decode cX12_init 130 = .ok (.iconst 4, 1) := by decide +kernel
theorem dX12_init_131 : decode cX12_init 131 = .ok (.if_icmp .ge 16, 3) := by decide +kernel
theorem dX12_init_134 : decode cX12_init 134 = .ok (.aload_n 0, 1) := by decide +kernel
theorem dX12_init_135 : decode cX12_init 135 = .ok (.getfield 7, 3) := by decide +kernel
theorem dX12_init_138 : decode cX12_init 138 = .ok (.iload_n 1, 1) := by decide +kernel
theorem dX12_init_139 : decode cX12_init 139 = .ok (.iconst (-1), 1) := by decide +kernel
theorem dX12_init_140 : decode cX12_init 140 = .ok (.iastore, 1) := by decide +kernel
theorem dX12_init_141 : decode cX12_init 141 = .ok (.iinc 1 1, 3) := by decide +kernel
theorem dX12_init_144 : decode cX12_init 144 = .ok (.goto (-15), 3) := by decide +kernel
theorem dX12_init_147 : decode cX12_init 147 = .ok (.aload_n 0, 1) := by decide +kernel
theorem dX12_init_148 : decode cX12_init 148 = .ok (.ldc 58, 2) := by decide +kernel
theorem dX12_init_150 : decode cX12_init 150 = .ok (.putfield 59, 3) := by decide +kernel
theorem dX12_init_153 : decode cX12_init 153 = .ok (.return_, 1) := by decide +kernel
theorem dX12_in_0 : decode cX12_in 0 = .ok (.lload_n 0, 1) := by decide +kernel
theorem dX12_in_1 : decode cX12_in 1 = .ok (.lload_n 2, 1) := by decide +kernel
theorem dX12_in_2 : decode cX12_in 2 = .ok (.lcmp, 1) := by decide +kernel
theorem dX12_in_3 : decode cX12_in 3 = .ok (.ifCond .lt 14, 3) := by decide +kernel
theorem dX12_in_6 : decode cX12_in 6 = .ok (.lload_n 0, 1) := by decide +kernel
theorem dX12_in_7 : decode cX12_in 7 = .ok (.lload 4, 2) := by decide +kernel
theorem dX12_in_9 : decode cX12_in 9 = .ok (.lcmp, 1) := by decide +kernel
theorem dX12_in_10 : decode cX12_in 10 = .ok (.ifCond .gt 7, 3) := by decide +kernel
theorem dX12_in_13 : decode cX12_in 13 = .ok (.iconst 1, 1) := by decide +kernel
theorem dX12_in_14 : decode cX12_in 14 = .ok (.goto 4, 3) := by decide +kernel
theorem dX12_in_17 : decode cX12_in 17 = .ok (.iconst 0, 1) := by decide +kernel
theorem dX12_in_18 : decode cX12_in 18 = .ok (.ireturn, 1) := by decide +kernel
theorem dX12_no_0 : decode cX12_no 0 = .ok (.ldc2_w 63, 3) := by decide +kernel
theorem dX12_no_3 : decode cX12_no 3 = .ok (.iload_n 0, 1) := by decide +kernel
theorem dX12_no_4 : decode cX12_no 4 = .ok (.i2l, 1) := by decide +kernel
theorem dX12_no_5 : decode cX12_no 5 = .ok (.lsub, 1) := by decide +kernel
theorem dX12_no_6 : decode cX12_no 6 = .ok (.lreturn, 1) := by decide +kernel
theorem dX12_isTwo_0 : decode cX12_isTwo 0 = .ok (.iload_n 0, 1) := by decide +kernel
theorem dX12_isTwo_1 : decode cX12_isTwo 1 = .ok (.i2l, 1) := by decide +kernel
theorem dX12_isTwo_2 : decode cX12_isTwo 2 = .ok (.lconst 0, 1) := by decide +kernel
theorem dX12_isTwo_3 : decode cX12_isTwo 3 = .ok (.lconst 1, 1) := by decide +kernel
theorem dX12_isTwo_4 : decode cX12_isTwo 4 = .ok (.invokestatic 65, 3) := by decide +kernel
theorem dX12_isTwo_7 : decode cX12_isTwo 7 = .ok (.ireturn, 1) := by decide +kernel
theorem dX12_finds_0 : decode cX12_finds 0 = .ok (.aload_n 0, 1) := by decide +kernel
theorem dX12_finds_1 : decode cX12_finds 1 = .ok (.iload_n 1, 1) := by decide +kernel
theorem dX12_finds_2 : decode cX12_finds 2 = .ok (.putfield 69, 3) := by decide +kernel
theorem dX12_finds_5 : decode cX12_finds 5 = .ok (.bipush (-10), 2) := by decide +kernel
theorem dX12_finds_7 : decode cX12_finds 7 = .ok (.iload_n 1, 1) := by decide +kernel
theorem dX12_finds_8 : decode cX12_finds 8 = .ok (.isub, 1) := by decide +kernel
theorem dX12_finds_9 : decode cX12_finds 9 = .ok (.ireturn, 1) := by decide +kernel
theorem dX12_isSheet_0 : decode cX12_isSheet 0 = .ok (.iload_n 0, 1) := by decide +kernel
theorem dX12_isSheet_1 : decode cX12_isSheet 1 = .ok (.i2l, 1) := by decide +kernel
theorem dX12_isSheet_2 : decode cX12_isSheet 2 = .ok (.lconst 0, 1) := by decide +kernel
theorem dX12_isSheet_3 : decode cX12_isSheet 3 = .ok (.ldc2_w 72, 3) := by decide +kernel
theorem dX12_isSheet_6 : decode cX12_isSheet 6 = .ok (.invokestatic 65, 3) := by decide +kernel
theorem dX12_isSheet_9 : decode cX12_isSheet 9 = .ok (.ireturn, 1) := by decide +kernel
theorem dX12_sheet_0 : decode cX12_sheet 0 = .ok (.iload_n 1, 1) := by decide +kernel
theorem dX12_sheet_1 : decode cX12_sheet 1 = .ok (.invokestatic 74, 3) := by decide +kernel
theorem dX12_sheet_4 : decode cX12_sheet 4 = .ok (.ifCond .eq 21, 3) := by decide +kernel
theorem dX12_sheet_7 : decode cX12_sheet 7 = .ok (.iload_n 2, 1) := by decide +kernel
theorem dX12_sheet_8 : decode cX12_sheet 8 = .ok (.i2l, 1) := by decide +kernel
theorem dX12_sheet_9 : decode cX12_sheet 9 = .ok (.lconst 0, 1) := by decide +kernel
theorem dX12_sheet_10 : decode cX12_sheet 10 = .ok (.ldc2_w 78, 3) := by decide +kernel
theorem dX12_sheet_13 : decode cX12_sheet 13 = .ok (.invokestatic 65, 3) := by decide +kernel
theorem dX12_sheet_16 : decode cX12_sheet 16 = .ok (.ifCond .eq 9, 3) := by decide +kernel
theorem dX12_sheet_19 : decode cX12_sheet 19 = .ok (.iload_n 3, 1) := by decide +kernel
theorem dX12_sheet_20 : decode cX12_sheet 20 = .ok (.bipush 60, 2) := by decide +kernel
theorem dX12_sheet_22 : decode cX12_sheet 22 = .ok (.if_icmp .le 6, 3) := by decide +kernel
theorem dX12_sheet_25 : decode cX12_sheet 25 = .ok (.bipush (-2), 2) := by decide +kernel
theorem dX12_sheet_27 : decode cX12_sheet 27 = .ok (.ireturn, 1) := by decide +kernel
theorem dX12_sheet_28 : decode cX12_sheet 28 = .ok (.iload_n 3, 1) := by decide +kernel
theorem dX12_sheet_29 : decode cX12_sheet 29 = .ok (.ifCond .ge 9, 3) := by decide +kernel
theorem dX12_sheet_32 : decode cX12_sheet 32 = .ok (.aload_n 0, 1) := by decide +kernel
theorem dX12_sheet_33 : decode cX12_sheet 33 = .ok (.iconst 5, 1) := by decide +kernel
theorem dX12_sheet_34 : decode cX12_sheet 34 = .ok (.invokevirtual 80, 3) := by decide +kernel
theorem dX12_sheet_37 : decode cX12_sheet 37 = .ok (.ireturn, 1) := by decide +kernel
theorem dX12_sheet_38 : decode cX12_sheet 38 = .ok (.aload_n 0, 1) := by decide +kernel
theorem dX12_sheet_39 : decode cX12_sheet 39 = .ok (.getfield 7, 3) := by decide +kernel
theorem dX12_sheet_42 : decode cX12_sheet 42 = .ok (.iload_n 1, 1) := by decide +kernel
theorem dX12_sheet_43 : decode cX12_sheet 43 = .ok (.iload_n 2, 1) := by decide +kernel
theorem dX12_sheet_44 : decode cX12_sheet 44 = .ok (.iastore, 1) := by decide +kernel
theorem dX12_sheet_45 : decode cX12_sheet 45 = .ok (.aload_n 0, 1) := by decide +kernel
theorem dX12_sheet_46 : decode cX12_sheet 46 = .ok (.getfield 13, 3) := by decide +kernel
theorem dX12_sheet_49 : decode cX12_sheet 49 = .ok (.iload_n 1, 1) := by decide +kernel
theorem dX12_sheet_50 : decode cX12_sheet 50 = .ok (.iload_n 3, 1) := by decide +kernel
theorem dX12_sheet_51 : decode cX12_sheet 51 = .ok (.iastore, 1) := by decide +kernel
theorem dX12_sheet_52 : decode cX12_sheet 52 = .ok (.iconst 0, 1) := by decide +kernel
theorem dX12_sheet_53 : decode cX12_sheet 53 = .ok (.istore 4, 2) := by decide +kernel
theorem dX12_sheet_55 : decode cX12_sheet 55 = .ok (.iload 4, 2) := by decide +kernel
theorem dX12_sheet_57 : decode cX12_sheet 57 = .ok (.iload_n 3, 1) := by decide +kernel
theorem dX12_sheet_58 : decode cX12_sheet 58 = .ok (.if_icmp .ge 22, 3) := by decide +kernel
theorem dX12_sheet_61 : decode cX12_sheet 61 = .ok (.aload_n 0, 1) := by decide +kernel
theorem dX12_sheet_62 : decode cX12_sheet 62 = .ok (.getfield 16, 3) := by decide +kernel
theorem dX12_sheet_65 : decode cX12_sheet 65 = .ok (.bipush 60, 2) := by decide +kernel
theorem dX12_sheet_67 : decode cX12_sheet 67 = .ok (.iload_n 1, 1) := by decide +kernel
theorem dX12_sheet_68 : decode cX12_sheet 68 = .ok (.imul, 1) := by decide +kernel
theorem dX12_sheet_69 : decode cX12_sheet 69 = .ok (.iload 4, 2) := by decide +kernel
theorem dX12_sheet_71 : decode cX12_sheet 71 = .ok (.iadd, 1) := by decide +kernel
theorem dX12_sheet_72 : decode cX12_sheet 72 = .ok (.iconst 0, 1) := by decide +kernel
theorem dX12_sheet_73 : decode cX12_sheet 73 = .ok (.iastore, 1) := by decide +kernel
theorem dX12_sheet_74 : decode cX12_sheet 74 = .ok (.iinc 4 1, 3) := by decide +kernel
theorem dX12_sheet_77 : decode cX12_sheet 77 = .ok (.goto (-22), 3) := by decide +kernel
theorem dX12_sheet_80 : decode cX12_sheet 80 = .ok (.iload_n 3, 1) := by decide +kernel
theorem dX12_sheet_81 : decode cX12_sheet 81 = .ok (.ireturn, 1) := by decide +kernel
theorem dX12_lose_0 : decode cX12_lose 0 = .ok (.iload_n 1, 1) := by decide +kernel
theorem dX12_lose_1 : decode cX12_lose 1 = .ok (.invokestatic 74, 3) := by decide +kernel
theorem dX12_lose_4 : decode cX12_lose 4 = .ok (.ifCond .ne 6, 3) := by decide +kernel
theorem dX12_lose_7 : decode cX12_lose 7 = .ok (.bipush (-2), 2) := by decide +kernel
theorem dX12_lose_9 : decode cX12_lose 9 = .ok (.ireturn, 1) := by decide +kernel
theorem dX12_lose_10 : decode cX12_lose 10 = .ok (.aload_n 0, 1) := by decide +kernel
theorem dX12_lose_11 : decode cX12_lose 11 = .ok (.getfield 7, 3) := by decide +kernel
theorem dX12_lose_14 : decode cX12_lose 14 = .ok (.iload_n 1, 1) := by decide +kernel
theorem dX12_lose_15 : decode cX12_lose 15 = .ok (.iaload, 1) := by decide +kernel
theorem dX12_lose_16 : decode cX12_lose 16 = .ok (.ifCond .ge 9, 3) := by decide +kernel
theorem dX12_lose_19 : decode cX12_lose 19 = .ok (.aload_n 0, 1) := by decide +kernel
theorem dX12_lose_20 : decode cX12_lose 20 = .ok (.iconst 1, 1) := by decide +kernel
theorem dX12_lose_21 : decode cX12_lose 21 = .ok (.invokevirtual 80, 3) := by decide +kernel
theorem dX12_lose_24 : decode cX12_lose 24 = .ok (.ireturn, 1) := by decide +kernel
theorem dX12_lacks_0 : decode cX12_lacks 0 = .ok (.aload_n 0, 1) := by decide +kernel
theorem dX12_lacks_1 : decode cX12_lacks 1 = .ok (.getfield 7, 3) := by decide +kernel
theorem dX12_lacks_4 : decode cX12_lacks 4 = .ok (.iload_n 1, 1) := by decide +kernel
theorem dX12_lacks_5 : decode cX12_lacks 5 = .ok (.iaload, 1) := by decide +kernel
theorem dX12_lacks_6 : decode cX12_lacks 6 = .ok (.ifCond .ge 9, 3) := by decide +kernel
theorem dX12_lacks_9 : decode cX12_lacks 9 = .ok (.aload_n 0, 1) := by decide +kernel
theorem dX12_lacks_10 : decode cX12_lacks 10 = .ok (.iconst 1, 1) := by decide +kernel
theorem dX12_lacks_11 : decode cX12_lacks 11 = .ok (.invokevirtual 80, 3) := by decide +kernel
theorem dX12_lacks_14 : decode cX12_lacks 14 = .ok (.ireturn, 1) := by decide +kernel
theorem dX12_lay_0 : decode cX12_lay 0 = .ok (.iload_n 1, 1) := by decide +kernel
theorem dX12_lay_1 : decode cX12_lay 1 = .ok (.invokestatic 74, 3) := by decide +kernel
theorem dX12_lay_4 : decode cX12_lay 4 = .ok (.ifCond .eq 15, 3) := by decide +kernel
theorem dX12_lay_7 : decode cX12_lay 7 = .ok (.iload_n 2, 1) := by decide +kernel
theorem dX12_lay_8 : decode cX12_lay 8 = .ok (.i2l, 1) := by decide +kernel
theorem dX12_lay_9 : decode cX12_lay 9 = .ok (.lconst 0, 1) := by decide +kernel
theorem dX12_lay_10 : decode cX12_lay 10 = .ok (.ldc2_w 78, 3) := by decide +kernel
theorem dX12_lay_13 : decode cX12_lay 13 = .ok (.invokestatic 65, 3) := by decide +kernel
theorem dX12_lay_16 : decode cX12_lay 16 = .ok (.ifCond .ne 6, 3) := by decide +kernel
theorem dX12_lay_19 : decode cX12_lay 19 = .ok (.bipush (-2), 2) := by decide +kernel
theorem dX12_lay_21 : decode cX12_lay 21 = .ok (.ireturn, 1) := by decide +kernel
theorem dX12_lay_22 : decode cX12_lay 22 = .ok (.aload_n 0, 1) := by decide +kernel
theorem dX12_lay_23 : decode cX12_lay 23 = .ok (.iload_n 1, 1) := by decide +kernel
theorem dX12_lay_24 : decode cX12_lay 24 = .ok (.iload_n 2, 1) := by decide +kernel
theorem dX12_lay_25 : decode cX12_lay 25 = .ok (.iload_n 3, 1) := by decide +kernel
theorem dX12_lay_26 : decode cX12_lay 26 = .ok (.invokevirtual 84, 3) := by decide +kernel
theorem dX12_lay_29 : decode cX12_lay 29 = .ok (.istore 5, 2) := by decide +kernel
theorem dX12_lay_31 : decode cX12_lay 31 = .ok (.iload 5, 2) := by decide +kernel
theorem dX12_lay_33 : decode cX12_lay 33 = .ok (.ifCond .eq 6, 3) := by decide +kernel
theorem dX12_lay_36 : decode cX12_lay 36 = .ok (.iload 5, 2) := by decide +kernel
theorem dX12_lay_38 : decode cX12_lay 38 = .ok (.ireturn, 1) := by decide +kernel
theorem dX12_get_0 : decode cX12_get 0 = .ok (.iload_n 1, 1) := by decide +kernel
theorem dX12_get_1 : decode cX12_get 1 = .ok (.invokestatic 74, 3) := by decide +kernel
theorem dX12_get_4 : decode cX12_get 4 = .ok (.ifCond .eq 25, 3) := by decide +kernel
theorem dX12_get_7 : decode cX12_get 7 = .ok (.iload_n 2, 1) := by decide +kernel
theorem dX12_get_8 : decode cX12_get 8 = .ok (.i2l, 1) := by decide +kernel
theorem dX12_get_9 : decode cX12_get 9 = .ok (.lconst 0, 1) := by decide +kernel
theorem dX12_get_10 : decode cX12_get 10 = .ok (.ldc2_w 78, 3) := by decide +kernel
theorem dX12_get_13 : decode cX12_get 13 = .ok (.invokestatic 65, 3) := by decide +kernel
theorem dX12_get_16 : decode cX12_get 16 = .ok (.ifCond .eq 13, 3) := by decide +kernel
theorem dX12_get_19 : decode cX12_get 19 = .ok (.aload_n 0, 1) := by decide +kernel
theorem dX12_get_20 : decode cX12_get 20 = .ok (.iload_n 1, 1) := by decide +kernel
theorem dX12_get_21 : decode cX12_get 21 = .ok (.iload_n 2, 1) := by decide +kernel
theorem dX12_get_22 : decode cX12_get 22 = .ok (.iload_n 3, 1) := by decide +kernel
theorem dX12_get_23 : decode cX12_get 23 = .ok (.invokevirtual 84, 3) := by decide +kernel
theorem dX12_get_26 : decode cX12_get 26 = .ok (.ifCond .eq 6, 3) := by decide +kernel
theorem dX12_get_29 : decode cX12_get 29 = .ok (.ldc 92, 2) := by decide +kernel
theorem dX12_get_31 : decode cX12_get 31 = .ok (.ireturn, 1) := by decide +kernel
theorem dX12_copy_0 : decode cX12_copy 0 = .ok (.iload_n 1, 1) := by decide +kernel
theorem dX12_copy_1 : decode cX12_copy 1 = .ok (.invokestatic 74, 3) := by decide +kernel
theorem dX12_copy_4 : decode cX12_copy 4 = .ok (.ifCond .eq 10, 3) := by decide +kernel
theorem dX12_copy_7 : decode cX12_copy 7 = .ok (.iload_n 3, 1) := by decide +kernel
theorem dX12_copy_8 : decode cX12_copy 8 = .ok (.invokestatic 74, 3) := by decide +kernel
theorem dX12_copy_11 : decode cX12_copy 11 = .ok (.ifCond .ne 6, 3) := by decide +kernel
theorem dX12_copy_14 : decode cX12_copy 14 = .ok (.bipush (-2), 2) := by decide +kernel
theorem dX12_copy_16 : decode cX12_copy 16 = .ok (.ireturn, 1) := by decide +kernel
theorem dX12_copy_17 : decode cX12_copy 17 = .ok (.aload_n 0, 1) := by decide +kernel
theorem dX12_copy_18 : decode cX12_copy 18 = .ok (.getfield 7, 3) := by decide +kernel
theorem dX12_copy_21 : decode cX12_copy 21 = .ok (.iload_n 1, 1) := by decide +kernel
theorem dX12_copy_22 : decode cX12_copy 22 = .ok (.iaload, 1) := by decide +kernel
theorem dX12_copy_23 : decode cX12_copy 23 = .ok (.ifCond .lt 12, 3) := by decide +kernel
theorem dX12_copy_35 : decode cX12_copy 35 = .ok (.aload_n 0, 1) := by decide +kernel
theorem dX12_copy_36 : decode cX12_copy 36 = .ok (.iconst 1, 1) := by decide +kernel
theorem dX12_copy_37 : decode cX12_copy 37 = .ok (.invokevirtual 80, 3) := by decide +kernel
theorem dX12_copy_40 : decode cX12_copy 40 = .ok (.ireturn, 1) := by decide +kernel
theorem dX12_isText_0 : decode cX12_isText 0 = .ok (.iload_n 0, 1) := by decide +kernel
theorem dX12_isText_1 : decode cX12_isText 1 = .ok (.i2l, 1) := by decide +kernel
theorem dX12_isText_2 : decode cX12_isText 2 = .ok (.lconst 0, 1) := by decide +kernel
theorem dX12_isText_3 : decode cX12_isText 3 = .ok (.ldc2_w 78, 3) := by decide +kernel
theorem dX12_isText_6 : decode cX12_isText 6 = .ok (.invokestatic 65, 3) := by decide +kernel
theorem dX12_isText_9 : decode cX12_isText 9 = .ok (.ireturn, 1) := by decide +kernel
theorem dX12_type_0 : decode cX12_type 0 = .ok (.iload_n 1, 1) := by decide +kernel
theorem dX12_type_1 : decode cX12_type 1 = .ok (.invokestatic 93, 3) := by decide +kernel
theorem dX12_type_4 : decode cX12_type 4 = .ok (.ifCond .eq 15, 3) := by decide +kernel
theorem dX12_type_7 : decode cX12_type 7 = .ok (.iload_n 2, 1) := by decide +kernel
theorem dX12_type_8 : decode cX12_type 8 = .ok (.i2l, 1) := by decide +kernel
theorem dX12_type_9 : decode cX12_type 9 = .ok (.lconst 0, 1) := by decide +kernel
theorem dX12_type_10 : decode cX12_type 10 = .ok (.ldc2_w 96, 3) := by decide +kernel
theorem dX12_type_13 : decode cX12_type 13 = .ok (.invokestatic 65, 3) := by decide +kernel
theorem dX12_type_16 : decode cX12_type 16 = .ok (.ifCond .ne 6, 3) := by decide +kernel
theorem dX12_type_19 : decode cX12_type 19 = .ok (.bipush (-2), 2) := by decide +kernel
theorem dX12_type_21 : decode cX12_type 21 = .ok (.ireturn, 1) := by decide +kernel
theorem dX12_type_22 : decode cX12_type 22 = .ok (.aload_n 0, 1) := by decide +kernel
theorem dX12_type_23 : decode cX12_type 23 = .ok (.getfield 25, 3) := by decide +kernel
theorem dX12_type_26 : decode cX12_type 26 = .ok (.iload_n 1, 1) := by decide +kernel
theorem dX12_type_27 : decode cX12_type 27 = .ok (.iaload, 1) := by decide +kernel
theorem dX12_type_28 : decode cX12_type 28 = .ok (.iload_n 1, 1) := by decide +kernel
theorem dX12_type_29 : decode cX12_type 29 = .ok (.ifCond .ne 8, 3) := by decide +kernel
theorem dX12_type_32 : decode cX12_type 32 = .ok (.bipush 24, 2) := by decide +kernel
theorem dX12_type_34 : decode cX12_type 34 = .ok (.goto 15, 3) := by decide +kernel
theorem dX12_type_37 : decode cX12_type 37 = .ok (.iload_n 1, 1) := by decide +kernel
theorem dX12_type_38 : decode cX12_type 38 = .ok (.iconst 1, 1) := by decide +kernel
theorem dX12_type_39 : decode cX12_type 39 = .ok (.if_icmp .ne 8, 3) := by decide +kernel
theorem dX12_type_42 : decode cX12_type 42 = .ok (.bipush 39, 2) := by decide +kernel
theorem dX12_type_44 : decode cX12_type 44 = .ok (.goto 5, 3) := by decide +kernel
theorem dX12_type_47 : decode cX12_type 47 = .ok (.bipush 23, 2) := by decide +kernel
theorem dX12_type_49 : decode cX12_type 49 = .ok (.if_icmp .ne 6, 3) := by decide +kernel
theorem dX12_type_55 : decode cX12_type 55 = .ok (.aload_n 0, 1) := by decide +kernel
theorem dX12_type_56 : decode cX12_type 56 = .ok (.getfield 22, 3) := by decide +kernel
theorem dX12_type_59 : decode cX12_type 59 = .ok (.bipush 40, 2) := by decide +kernel
theorem dX12_type_61 : decode cX12_type 61 = .ok (.iload_n 1, 1) := by decide +kernel
theorem dX12_type_62 : decode cX12_type 62 = .ok (.imul, 1) := by decide +kernel
theorem dX12_type_63 : decode cX12_type 63 = .ok (.aload_n 0, 1) := by decide +kernel
theorem dX12_type_64 : decode cX12_type 64 = .ok (.getfield 25, 3) := by decide +kernel
theorem dX12_type_67 : decode cX12_type 67 = .ok (.iload_n 1, 1) := by decide +kernel
theorem dX12_type_68 : decode cX12_type 68 = .ok (.iaload, 1) := by decide +kernel
theorem dX12_type_69 : decode cX12_type 69 = .ok (.iadd, 1) := by decide +kernel
theorem dX12_type_70 : decode cX12_type 70 = .ok (.iload_n 2, 1) := by decide +kernel
theorem dX12_type_71 : decode cX12_type 71 = .ok (.iastore, 1) := by decide +kernel
theorem dX12_type_72 : decode cX12_type 72 = .ok (.aload_n 0, 1) := by decide +kernel
theorem dX12_type_73 : decode cX12_type 73 = .ok (.getfield 25, 3) := by decide +kernel
theorem dX12_type_76 : decode cX12_type 76 = .ok (.iload_n 1, 1) := by decide +kernel
theorem dX12_type_77 : decode cX12_type 77 = .ok (.dup2, 1) := by decide +kernel
theorem dX12_type_78 : decode cX12_type 78 = .ok (.iaload, 1) := by decide +kernel
theorem dX12_type_79 : decode cX12_type 79 = .ok (.iconst 1, 1) := by decide +kernel
theorem dX12_type_80 : decode cX12_type 80 = .ok (.iadd, 1) := by decide +kernel
theorem dX12_type_81 : decode cX12_type 81 = .ok (.iastore, 1) := by decide +kernel
theorem dX12_type_82 : decode cX12_type 82 = .ok (.aload_n 0, 1) := by decide +kernel
theorem dX12_type_83 : decode cX12_type 83 = .ok (.getfield 25, 3) := by decide +kernel
theorem dX12_type_86 : decode cX12_type 86 = .ok (.iload_n 1, 1) := by decide +kernel
theorem dX12_type_87 : decode cX12_type 87 = .ok (.iaload, 1) := by decide +kernel
theorem dX12_type_88 : decode cX12_type 88 = .ok (.ireturn, 1) := by decide +kernel
theorem dX12_wipe_0 : decode cX12_wipe 0 = .ok (.iload_n 1, 1) := by decide +kernel
theorem dX12_wipe_1 : decode cX12_wipe 1 = .ok (.invokestatic 93, 3) := by decide +kernel
theorem dX12_wipe_4 : decode cX12_wipe 4 = .ok (.ifCond .ne 6, 3) := by decide +kernel
theorem dX12_wipe_7 : decode cX12_wipe 7 = .ok (.bipush (-2), 2) := by decide +kernel
theorem dX12_wipe_9 : decode cX12_wipe 9 = .ok (.ireturn, 1) := by decide +kernel
theorem dX12_wipe_10 : decode cX12_wipe 10 = .ok (.aload_n 0, 1) := by decide +kernel
theorem dX12_wipe_11 : decode cX12_wipe 11 = .ok (.getfield 25, 3) := by decide +kernel
theorem dX12_wipe_14 : decode cX12_wipe 14 = .ok (.iload_n 1, 1) := by decide +kernel
theorem dX12_wipe_15 : decode cX12_wipe 15 = .ok (.iaload, 1) := by decide +kernel
theorem dX12_wipe_16 : decode cX12_wipe 16 = .ok (.istore_n 2, 1) := by decide +kernel
theorem dX12_wipe_17 : decode cX12_wipe 17 = .ok (.aload_n 0, 1) := by decide +kernel
theorem dX12_wipe_18 : decode cX12_wipe 18 = .ok (.getfield 25, 3) := by decide +kernel
theorem dX12_wipe_21 : decode cX12_wipe 21 = .ok (.iload_n 1, 1) := by decide +kernel
theorem dX12_wipe_22 : decode cX12_wipe 22 = .ok (.iconst 0, 1) := by decide +kernel
theorem dX12_wipe_23 : decode cX12_wipe 23 = .ok (.iastore, 1) := by decide +kernel
theorem dX12_wipe_24 : decode cX12_wipe 24 = .ok (.iload_n 2, 1) := by decide +kernel
theorem dX12_wipe_25 : decode cX12_wipe 25 = .ok (.ireturn, 1) := by decide +kernel
theorem dX12_undo_0 : decode cX12_undo 0 = .ok (.iload_n 1, 1) := by decide +kernel
theorem dX12_undo_1 : decode cX12_undo 1 = .ok (.invokestatic 93, 3) := by decide +kernel
theorem dX12_undo_4 : decode cX12_undo 4 = .ok (.ifCond .ne 6, 3) := by decide +kernel
theorem dX12_undo_7 : decode cX12_undo 7 = .ok (.bipush (-2), 2) := by decide +kernel
theorem dX12_undo_9 : decode cX12_undo 9 = .ok (.ireturn, 1) := by decide +kernel
theorem dX12_undo_10 : decode cX12_undo 10 = .ok (.aload_n 0, 1) := by decide +kernel
theorem dX12_undo_11 : decode cX12_undo 11 = .ok (.getfield 25, 3) := by decide +kernel
theorem dX12_undo_14 : decode cX12_undo 14 = .ok (.iload_n 1, 1) := by decide +kernel
theorem dX12_undo_15 : decode cX12_undo 15 = .ok (.iaload, 1) := by decide +kernel
theorem dX12_undo_16 : decode cX12_undo 16 = .ok (.ifCond .ne 6, 3) := by decide +kernel
theorem dX12_undo_19 : decode cX12_undo 19 = .ok (.bipush (-3), 2) := by decide +kernel
theorem dX12_undo_21 : decode cX12_undo 21 = .ok (.ireturn, 1) := by decide +kernel
theorem dX12_readsLand_0 : decode cX12_readsLand 0 = .ok (.aload_n 0, 1) := by decide +kernel
theorem dX12_readsLand_1 : decode cX12_readsLand 1 = .ok (.iconst 0, 1) := by decide +kernel
theorem dX12_readsLand_2 : decode cX12_readsLand 2 = .ok (.putfield 107, 3) := by decide +kernel
theorem dX12_readsLand_5 : decode cX12_readsLand 5 = .ok (.iconst 0, 1) := by decide +kernel
theorem dX12_readsLand_6 : decode cX12_readsLand 6 = .ok (.istore_n 1, 1) := by decide +kernel
theorem dX12_readsLand_7 : decode cX12_readsLand 7 = .ok (.iload_n 1, 1) := by decide +kernel
theorem dX12_readsLand_8 : decode cX12_readsLand 8 = .ok (.aload_n 0, 1) := by decide +kernel
theorem dX12_readsLand_9 : decode cX12_readsLand 9 = .ok (.getfield 25, 3) := by decide +kernel
theorem dX12_readsLand_12 : decode cX12_readsLand 12 = .ok (.iconst 0, 1) := by decide +kernel
theorem dX12_readsLand_13 : decode cX12_readsLand 13 = .ok (.iaload, 1) := by decide +kernel
theorem dX12_readsLand_14 : decode cX12_readsLand 14 = .ok (.if_icmp .ge 49, 3) := by decide +kernel
theorem dX12_readsLand_63 : decode cX12_readsLand 63 = .ok (.iconst (-1), 1) := by decide +kernel
theorem dX12_readsLand_64 : decode cX12_readsLand 64 = .ok (.ireturn, 1) := by decide +kernel
theorem dX12_readsPassengers_0 : decode cX12_readsPassengers 0 = .ok (.aload_n 0, 1) := by decide +kernel
theorem dX12_readsPassengers_1 : decode cX12_readsPassengers 1 = .ok (.iconst 0, 1) := by decide +kernel
theorem dX12_readsPassengers_2 : decode cX12_readsPassengers 2 = .ok (.putfield 116, 3) := by decide +kernel
theorem dX12_readsPassengers_5 : decode cX12_readsPassengers 5 = .ok (.aload_n 0, 1) := by decide +kernel
theorem dX12_readsPassengers_6 : decode cX12_readsPassengers 6 = .ok (.getfield 25, 3) := by decide +kernel
theorem dX12_readsPassengers_9 : decode cX12_readsPassengers 9 = .ok (.iconst 1, 1) := by decide +kernel
theorem dX12_readsPassengers_10 : decode cX12_readsPassengers 10 = .ok (.iaload, 1) := by decide +kernel
theorem dX12_readsPassengers_11 : decode cX12_readsPassengers 11 = .ok (.istore_n 1, 1) := by decide +kernel
theorem dX12_readsPassengers_12 : decode cX12_readsPassengers 12 = .ok (.iconst 0, 1) := by decide +kernel
theorem dX12_readsPassengers_13 : decode cX12_readsPassengers 13 = .ok (.istore_n 2, 1) := by decide +kernel
theorem dX12_readsPassengers_14 : decode cX12_readsPassengers 14 = .ok (.iload_n 2, 1) := by decide +kernel
theorem dX12_readsPassengers_15 : decode cX12_readsPassengers 15 = .ok (.iload_n 1, 1) := by decide +kernel
theorem dX12_readsPassengers_16 : decode cX12_readsPassengers 16 = .ok (.if_icmp .ge 80, 3) := by decide +kernel
theorem dX12_readsPassengers_96 : decode cX12_readsPassengers 96 = .ok (.iload_n 1, 1) := by decide +kernel
theorem dX12_readsPassengers_97 : decode cX12_readsPassengers 97 = .ok (.ifCond .le 17, 3) := by decide +kernel
theorem dX12_readsPassengers_114 : decode cX12_readsPassengers 114 = .ok (.iconst (-1), 1) := by decide +kernel
theorem dX12_readsPassengers_115 : decode cX12_readsPassengers 115 = .ok (.ireturn, 1) := by decide +kernel
theorem dX12_readsGeese_0 : decode cX12_readsGeese 0 = .ok (.aload_n 0, 1) := by decide +kernel
theorem dX12_readsGeese_1 : decode cX12_readsGeese 1 = .ok (.iconst 0, 1) := by decide +kernel
theorem dX12_readsGeese_2 : decode cX12_readsGeese 2 = .ok (.putfield 122, 3) := by decide +kernel
theorem dX12_readsGeese_5 : decode cX12_readsGeese 5 = .ok (.aload_n 0, 1) := by decide +kernel
theorem dX12_readsGeese_6 : decode cX12_readsGeese 6 = .ok (.getfield 25, 3) := by decide +kernel
theorem dX12_readsGeese_9 : decode cX12_readsGeese 9 = .ok (.iconst 2, 1) := by decide +kernel
theorem dX12_readsGeese_10 : decode cX12_readsGeese 10 = .ok (.iaload, 1) := by decide +kernel
theorem dX12_readsGeese_11 : decode cX12_readsGeese 11 = .ok (.istore_n 1, 1) := by decide +kernel
theorem dX12_readsGeese_12 : decode cX12_readsGeese 12 = .ok (.iconst 0, 1) := by decide +kernel
theorem dX12_readsGeese_13 : decode cX12_readsGeese 13 = .ok (.istore_n 2, 1) := by decide +kernel
theorem dX12_readsGeese_14 : decode cX12_readsGeese 14 = .ok (.iload_n 2, 1) := by decide +kernel
theorem dX12_readsGeese_15 : decode cX12_readsGeese 15 = .ok (.iload_n 1, 1) := by decide +kernel
theorem dX12_readsGeese_16 : decode cX12_readsGeese 16 = .ok (.if_icmp .ge 80, 3) := by decide +kernel
theorem dX12_readsGeese_96 : decode cX12_readsGeese 96 = .ok (.iload_n 1, 1) := by decide +kernel
theorem dX12_readsGeese_97 : decode cX12_readsGeese 97 = .ok (.ifCond .le 17, 3) := by decide +kernel
theorem dX12_readsGeese_114 : decode cX12_readsGeese 114 = .ok (.iconst (-1), 1) := by decide +kernel
theorem dX12_readsGeese_115 : decode cX12_readsGeese 115 = .ok (.ireturn, 1) := by decide +kernel
theorem dX12_readsText_0 : decode cX12_readsText 0 = .ok (.iload_n 1, 1) := by decide +kernel
theorem dX12_readsText_1 : decode cX12_readsText 1 = .ok (.ifCond .ne 10, 3) := by decide +kernel
theorem dX12_readsText_4 : decode cX12_readsText 4 = .ok (.aload_n 0, 1) := by decide +kernel
theorem dX12_readsText_5 : decode cX12_readsText 5 = .ok (.invokevirtual 128, 3) := by decide +kernel
theorem dX12_readsText_8 : decode cX12_readsText 8 = .ok (.goto 19, 3) := by decide +kernel
theorem dX12_readsText_11 : decode cX12_readsText 11 = .ok (.iload_n 1, 1) := by decide +kernel
theorem dX12_readsText_12 : decode cX12_readsText 12 = .ok (.iconst 1, 1) := by decide +kernel
theorem dX12_readsText_13 : decode cX12_readsText 13 = .ok (.if_icmp .ne 10, 3) := by decide +kernel
theorem dX12_readsText_16 : decode cX12_readsText 16 = .ok (.aload_n 0, 1) := by decide +kernel
theorem dX12_readsText_17 : decode cX12_readsText 17 = .ok (.invokevirtual 132, 3) := by decide +kernel
theorem dX12_readsText_20 : decode cX12_readsText 20 = .ok (.goto 7, 3) := by decide +kernel
theorem dX12_readsText_23 : decode cX12_readsText 23 = .ok (.aload_n 0, 1) := by decide +kernel
theorem dX12_readsText_24 : decode cX12_readsText 24 = .ok (.invokevirtual 135, 3) := by decide +kernel
theorem dX12_readsText_27 : decode cX12_readsText 27 = .ok (.ireturn, 1) := by decide +kernel
theorem dX12_fault_0 : decode cX12_fault 0 = .ok (.iload_n 1, 1) := by decide +kernel
theorem dX12_fault_1 : decode cX12_fault 1 = .ok (.invokestatic 93, 3) := by decide +kernel
theorem dX12_fault_4 : decode cX12_fault 4 = .ok (.ifCond .eq 11, 3) := by decide +kernel
theorem dX12_fault_7 : decode cX12_fault 7 = .ok (.aload_n 0, 1) := by decide +kernel
theorem dX12_fault_8 : decode cX12_fault 8 = .ok (.iload_n 1, 1) := by decide +kernel
theorem dX12_fault_9 : decode cX12_fault 9 = .ok (.invokevirtual 138, 3) := by decide +kernel
theorem dX12_fault_12 : decode cX12_fault 12 = .ok (.goto 5, 3) := by decide +kernel
theorem dX12_fault_15 : decode cX12_fault 15 = .ok (.bipush (-2), 2) := by decide +kernel
theorem dX12_fault_17 : decode cX12_fault 17 = .ok (.ireturn, 1) := by decide +kernel
theorem dX12_reads_0 : decode cX12_reads 0 = .ok (.aload_n 0, 1) := by decide +kernel
theorem dX12_reads_1 : decode cX12_reads 1 = .ok (.invokevirtual 128, 3) := by decide +kernel
theorem dX12_reads_4 : decode cX12_reads 4 = .ok (.pop, 1) := by decide +kernel
theorem dX12_reads_5 : decode cX12_reads 5 = .ok (.aload_n 0, 1) := by decide +kernel
theorem dX12_reads_6 : decode cX12_reads 6 = .ok (.invokevirtual 132, 3) := by decide +kernel
theorem dX12_reads_9 : decode cX12_reads 9 = .ok (.pop, 1) := by decide +kernel
theorem dX12_reads_10 : decode cX12_reads 10 = .ok (.aload_n 0, 1) := by decide +kernel
theorem dX12_reads_11 : decode cX12_reads 11 = .ok (.invokevirtual 135, 3) := by decide +kernel
theorem dX12_reads_14 : decode cX12_reads 14 = .ok (.pop, 1) := by decide +kernel
theorem dX12_reads_15 : decode cX12_reads 15 = .ok (.return_, 1) := by decide +kernel
theorem dX12_isPassenger_0 : decode cX12_isPassenger 0 = .ok (.iload_n 1, 1) := by decide +kernel
theorem dX12_isPassenger_1 : decode cX12_isPassenger 1 = .ok (.i2l, 1) := by decide +kernel
theorem dX12_isPassenger_2 : decode cX12_isPassenger 2 = .ok (.lconst 0, 1) := by decide +kernel
theorem dX12_isPassenger_3 : decode cX12_isPassenger 3 = .ok (.aload_n 0, 1) := by decide +kernel
theorem dX12_isPassenger_4 : decode cX12_isPassenger 4 = .ok (.getfield 116, 3) := by decide +kernel
theorem dX12_isPassenger_7 : decode cX12_isPassenger 7 = .ok (.iconst 1, 1) := by decide +kernel
theorem dX12_isPassenger_8 : decode cX12_isPassenger 8 = .ok (.isub, 1) := by decide +kernel
theorem dX12_isPassenger_9 : decode cX12_isPassenger 9 = .ok (.i2l, 1) := by decide +kernel
theorem dX12_isPassenger_10 : decode cX12_isPassenger 10 = .ok (.invokestatic 65, 3) := by decide +kernel
theorem dX12_isPassenger_13 : decode cX12_isPassenger 13 = .ok (.ireturn, 1) := by decide +kernel
theorem dX12_isGoose_0 : decode cX12_isGoose 0 = .ok (.iload_n 1, 1) := by decide +kernel
theorem dX12_isGoose_1 : decode cX12_isGoose 1 = .ok (.i2l, 1) := by decide +kernel
theorem dX12_isGoose_2 : decode cX12_isGoose 2 = .ok (.lconst 0, 1) := by decide +kernel
theorem dX12_isGoose_3 : decode cX12_isGoose 3 = .ok (.aload_n 0, 1) := by decide +kernel
theorem dX12_isGoose_4 : decode cX12_isGoose 4 = .ok (.getfield 122, 3) := by decide +kernel
theorem dX12_isGoose_7 : decode cX12_isGoose 7 = .ok (.iconst 1, 1) := by decide +kernel
theorem dX12_isGoose_8 : decode cX12_isGoose 8 = .ok (.isub, 1) := by decide +kernel
theorem dX12_isGoose_9 : decode cX12_isGoose 9 = .ok (.i2l, 1) := by decide +kernel
theorem dX12_isGoose_10 : decode cX12_isGoose 10 = .ok (.invokestatic 65, 3) := by decide +kernel
theorem dX12_isGoose_13 : decode cX12_isGoose 13 = .ok (.ireturn, 1) := by decide +kernel
theorem dX12_mile_0 : decode cX12_mile 0 = .ok (.aload_n 0, 1) := by decide +kernel
theorem dX12_mile_1 : decode cX12_mile 1 = .ok (.invokevirtual 141, 3) := by decide +kernel
theorem dX12_mile_4 : decode cX12_mile 4 = .ok (.iload_n 1, 1) := by decide +kernel
theorem dX12_mile_5 : decode cX12_mile 5 = .ok (.i2l, 1) := by decide +kernel
theorem dX12_mile_6 : decode cX12_mile 6 = .ok (.lconst 0, 1) := by decide +kernel
end
section
theorem dX12_mile_7 : decode cX12_mile 7 = .ok (.ldc2_w 144, 3) := by decide +kernel
theorem dX12_mile_10 : decode cX12_mile 10 = .ok (.invokestatic 65, 3) := by decide +kernel
theorem dX12_mile_13 : decode cX12_mile 13 = .ok (.ifCond .ne 8, 3) := by decide +kernel
theorem dX12_mile_16 : decode cX12_mile 16 = .ok (.bipush (-2), 2) := by decide +kernel
theorem dX12_mile_18 : decode cX12_mile 18 = .ok (.goto 21, 3) := by decide +kernel
theorem dX12_mile_21 : decode cX12_mile 21 = .ok (.iload_n 1, 1) := by decide +kernel
theorem dX12_mile_22 : decode cX12_mile 22 = .ok (.aload_n 0, 1) := by decide +kernel
theorem dX12_mile_23 : decode cX12_mile 23 = .ok (.getfield 107, 3) := by decide +kernel
theorem dX12_mile_26 : decode cX12_mile 26 = .ok (.if_icmp .ge 12, 3) := by decide +kernel
theorem dX12_mile_38 : decode cX12_mile 38 = .ok (.iconst (-1), 1) := by decide +kernel
theorem dX12_mile_39 : decode cX12_mile 39 = .ok (.ireturn, 1) := by decide +kernel
theorem dX12_passenger_0 : decode cX12_passenger 0 = .ok (.aload_n 0, 1) := by decide +kernel
theorem dX12_passenger_1 : decode cX12_passenger 1 = .ok (.invokevirtual 141, 3) := by decide +kernel
theorem dX12_passenger_4 : decode cX12_passenger 4 = .ok (.aload_n 0, 1) := by decide +kernel
theorem dX12_passenger_5 : decode cX12_passenger 5 = .ok (.iload_n 1, 1) := by decide +kernel
theorem dX12_passenger_6 : decode cX12_passenger 6 = .ok (.invokevirtual 146, 3) := by decide +kernel
theorem dX12_passenger_9 : decode cX12_passenger 9 = .ok (.ifCond .eq 28, 3) := by decide +kernel
theorem dX12_passenger_37 : decode cX12_passenger 37 = .ok (.bipush (-2), 2) := by decide +kernel
theorem dX12_passenger_39 : decode cX12_passenger 39 = .ok (.ireturn, 1) := by decide +kernel
theorem dX12_goose_0 : decode cX12_goose 0 = .ok (.aload_n 0, 1) := by decide +kernel
theorem dX12_goose_1 : decode cX12_goose 1 = .ok (.invokevirtual 141, 3) := by decide +kernel
theorem dX12_goose_4 : decode cX12_goose 4 = .ok (.aload_n 0, 1) := by decide +kernel
theorem dX12_goose_5 : decode cX12_goose 5 = .ok (.iload_n 1, 1) := by decide +kernel
theorem dX12_goose_6 : decode cX12_goose 6 = .ok (.invokevirtual 149, 3) := by decide +kernel
theorem dX12_goose_9 : decode cX12_goose 9 = .ok (.ifCond .eq 23, 3) := by decide +kernel
theorem dX12_goose_32 : decode cX12_goose 32 = .ok (.bipush (-2), 2) := by decide +kernel
theorem dX12_goose_34 : decode cX12_goose 34 = .ok (.ireturn, 1) := by decide +kernel
theorem dX12_flight_0 : decode cX12_flight 0 = .ok (.iload_n 1, 1) := by decide +kernel
theorem dX12_flight_1 : decode cX12_flight 1 = .ok (.i2l, 1) := by decide +kernel
theorem dX12_flight_2 : decode cX12_flight 2 = .ok (.lconst 0, 1) := by decide +kernel
theorem dX12_flight_3 : decode cX12_flight 3 = .ok (.ldc2_w 155, 3) := by decide +kernel
theorem dX12_flight_6 : decode cX12_flight 6 = .ok (.invokestatic 65, 3) := by decide +kernel
theorem dX12_flight_9 : decode cX12_flight 9 = .ok (.ifCond .eq 45, 3) := by decide +kernel
theorem dX12_flight_12 : decode cX12_flight 12 = .ok (.iload_n 2, 1) := by decide +kernel
theorem dX12_flight_13 : decode cX12_flight 13 = .ok (.i2l, 1) := by decide +kernel
theorem dX12_flight_14 : decode cX12_flight 14 = .ok (.lconst 0, 1) := by decide +kernel
theorem dX12_flight_15 : decode cX12_flight 15 = .ok (.ldc2_w 155, 3) := by decide +kernel
theorem dX12_flight_18 : decode cX12_flight 18 = .ok (.invokestatic 65, 3) := by decide +kernel
theorem dX12_flight_21 : decode cX12_flight 21 = .ok (.ifCond .eq 33, 3) := by decide +kernel
theorem dX12_flight_24 : decode cX12_flight 24 = .ok (.iload_n 3, 1) := by decide +kernel
theorem dX12_flight_25 : decode cX12_flight 25 = .ok (.i2l, 1) := by decide +kernel
theorem dX12_flight_26 : decode cX12_flight 26 = .ok (.lconst 0, 1) := by decide +kernel
theorem dX12_flight_27 : decode cX12_flight 27 = .ok (.ldc2_w 155, 3) := by decide +kernel
theorem dX12_flight_30 : decode cX12_flight 30 = .ok (.invokestatic 65, 3) := by decide +kernel
theorem dX12_flight_33 : decode cX12_flight 33 = .ok (.ifCond .eq 21, 3) := by decide +kernel
theorem dX12_flight_36 : decode cX12_flight 36 = .ok (.iload_n 2, 1) := by decide +kernel
theorem dX12_flight_37 : decode cX12_flight 37 = .ok (.iload_n 3, 1) := by decide +kernel
theorem dX12_flight_38 : decode cX12_flight 38 = .ok (.if_icmp .eq 16, 3) := by decide +kernel
theorem dX12_flight_41 : decode cX12_flight 41 = .ok (.iload 4, 2) := by decide +kernel
theorem dX12_flight_43 : decode cX12_flight 43 = .ok (.i2l, 1) := by decide +kernel
theorem dX12_flight_44 : decode cX12_flight 44 = .ok (.lconst 1, 1) := by decide +kernel
theorem dX12_flight_45 : decode cX12_flight 45 = .ok (.ldc2_w 157, 3) := by decide +kernel
theorem dX12_flight_48 : decode cX12_flight 48 = .ok (.invokestatic 65, 3) := by decide +kernel
theorem dX12_flight_51 : decode cX12_flight 51 = .ok (.ifCond .ne 6, 3) := by decide +kernel
theorem dX12_flight_54 : decode cX12_flight 54 = .ok (.bipush (-2), 2) := by decide +kernel
theorem dX12_flight_56 : decode cX12_flight 56 = .ok (.ireturn, 1) := by decide +kernel
theorem dX12_flight_57 : decode cX12_flight 57 = .ok (.aload_n 0, 1) := by decide +kernel
theorem dX12_flight_58 : decode cX12_flight 58 = .ok (.getfield 159, 3) := by decide +kernel
theorem dX12_flight_61 : decode cX12_flight 61 = .ok (.bipush 8, 2) := by decide +kernel
theorem dX12_flight_63 : decode cX12_flight 63 = .ok (.if_icmp .ne 6, 3) := by decide +kernel
theorem dX12_flight_69 : decode cX12_flight 69 = .ok (.aload_n 0, 1) := by decide +kernel
theorem dX12_flight_70 : decode cX12_flight 70 = .ok (.getfield 37, 3) := by decide +kernel
theorem dX12_flight_73 : decode cX12_flight 73 = .ok (.iconst 4, 1) := by decide +kernel
theorem dX12_flight_74 : decode cX12_flight 74 = .ok (.aload_n 0, 1) := by decide +kernel
theorem dX12_flight_75 : decode cX12_flight 75 = .ok (.getfield 159, 3) := by decide +kernel
theorem dX12_flight_78 : decode cX12_flight 78 = .ok (.imul, 1) := by decide +kernel
theorem dX12_flight_79 : decode cX12_flight 79 = .ok (.iload_n 1, 1) := by decide +kernel
theorem dX12_flight_80 : decode cX12_flight 80 = .ok (.iastore, 1) := by decide +kernel
theorem dX12_flight_81 : decode cX12_flight 81 = .ok (.aload_n 0, 1) := by decide +kernel
theorem dX12_flight_82 : decode cX12_flight 82 = .ok (.getfield 37, 3) := by decide +kernel
theorem dX12_flight_85 : decode cX12_flight 85 = .ok (.iconst 4, 1) := by decide +kernel
theorem dX12_flight_86 : decode cX12_flight 86 = .ok (.aload_n 0, 1) := by decide +kernel
theorem dX12_flight_87 : decode cX12_flight 87 = .ok (.getfield 159, 3) := by decide +kernel
theorem dX12_flight_90 : decode cX12_flight 90 = .ok (.imul, 1) := by decide +kernel
theorem dX12_flight_91 : decode cX12_flight 91 = .ok (.iconst 1, 1) := by decide +kernel
theorem dX12_flight_92 : decode cX12_flight 92 = .ok (.iadd, 1) := by decide +kernel
theorem dX12_flight_93 : decode cX12_flight 93 = .ok (.iload_n 2, 1) := by decide +kernel
theorem dX12_flight_94 : decode cX12_flight 94 = .ok (.iastore, 1) := by decide +kernel
theorem dX12_flight_95 : decode cX12_flight 95 = .ok (.aload_n 0, 1) := by decide +kernel
theorem dX12_flight_96 : decode cX12_flight 96 = .ok (.getfield 37, 3) := by decide +kernel
theorem dX12_flight_99 : decode cX12_flight 99 = .ok (.iconst 4, 1) := by decide +kernel
theorem dX12_flight_100 : decode cX12_flight 100 = .ok (.aload_n 0, 1) := by decide +kernel
theorem dX12_flight_101 : decode cX12_flight 101 = .ok (.getfield 159, 3) := by decide +kernel
theorem dX12_flight_104 : decode cX12_flight 104 = .ok (.imul, 1) := by decide +kernel
theorem dX12_flight_105 : decode cX12_flight 105 = .ok (.iconst 2, 1) := by decide +kernel
theorem dX12_flight_106 : decode cX12_flight 106 = .ok (.iadd, 1) := by decide +kernel
theorem dX12_flight_107 : decode cX12_flight 107 = .ok (.iload_n 3, 1) := by decide +kernel
theorem dX12_flight_108 : decode cX12_flight 108 = .ok (.iastore, 1) := by decide +kernel
theorem dX12_flight_109 : decode cX12_flight 109 = .ok (.aload_n 0, 1) := by decide +kernel
theorem dX12_flight_110 : decode cX12_flight 110 = .ok (.getfield 37, 3) := by decide +kernel
theorem dX12_flight_113 : decode cX12_flight 113 = .ok (.iconst 4, 1) := by decide +kernel
theorem dX12_flight_114 : decode cX12_flight 114 = .ok (.aload_n 0, 1) := by decide +kernel
theorem dX12_flight_115 : decode cX12_flight 115 = .ok (.getfield 159, 3) := by decide +kernel
theorem dX12_flight_118 : decode cX12_flight 118 = .ok (.imul, 1) := by decide +kernel
theorem dX12_flight_119 : decode cX12_flight 119 = .ok (.iconst 3, 1) := by decide +kernel
theorem dX12_flight_120 : decode cX12_flight 120 = .ok (.iadd, 1) := by decide +kernel
theorem dX12_flight_121 : decode cX12_flight 121 = .ok (.iload 4, 2) := by decide +kernel
theorem dX12_flight_123 : decode cX12_flight 123 = .ok (.iastore, 1) := by decide +kernel
theorem dX12_flight_124 : decode cX12_flight 124 = .ok (.aload_n 0, 1) := by decide +kernel
theorem dX12_flight_125 : decode cX12_flight 125 = .ok (.dup, 1) := by decide +kernel
theorem dX12_flight_126 : decode cX12_flight 126 = .ok (.getfield 159, 3) := by decide +kernel
theorem dX12_flight_129 : decode cX12_flight 129 = .ok (.iconst 1, 1) := by decide +kernel
theorem dX12_flight_130 : decode cX12_flight 130 = .ok (.iadd, 1) := by decide +kernel
theorem dX12_flight_131 : decode cX12_flight 131 = .ok (.putfield 159, 3) := by decide +kernel
theorem dX12_flight_134 : decode cX12_flight 134 = .ok (.aload_n 0, 1) := by decide +kernel
theorem dX12_flight_135 : decode cX12_flight 135 = .ok (.getfield 159, 3) := by decide +kernel
theorem dX12_flight_138 : decode cX12_flight 138 = .ok (.ireturn, 1) := by decide +kernel
theorem dX12_back_0 : decode cX12_back 0 = .ok (.aload_n 0, 1) := by decide +kernel
theorem dX12_back_1 : decode cX12_back 1 = .ok (.getfield 159, 3) := by decide +kernel
theorem dX12_back_4 : decode cX12_back 4 = .ok (.ifCond .ne 6, 3) := by decide +kernel
theorem dX12_back_7 : decode cX12_back 7 = .ok (.bipush (-3), 2) := by decide +kernel
theorem dX12_back_9 : decode cX12_back 9 = .ok (.ireturn, 1) := by decide +kernel
theorem dX12_read_0 : decode cX12_read 0 = .ok (.iload_n 1, 1) := by decide +kernel
theorem dX12_read_1 : decode cX12_read 1 = .ok (.invokestatic 74, 3) := by decide +kernel
theorem dX12_read_4 : decode cX12_read 4 = .ok (.ifCond .ne 6, 3) := by decide +kernel
theorem dX12_read_7 : decode cX12_read 7 = .ok (.bipush (-2), 2) := by decide +kernel
theorem dX12_read_9 : decode cX12_read 9 = .ok (.ireturn, 1) := by decide +kernel
theorem dX12_read_10 : decode cX12_read 10 = .ok (.aload_n 0, 1) := by decide +kernel
theorem dX12_read_11 : decode cX12_read 11 = .ok (.getfield 7, 3) := by decide +kernel
theorem dX12_read_14 : decode cX12_read 14 = .ok (.iload_n 1, 1) := by decide +kernel
theorem dX12_read_15 : decode cX12_read 15 = .ok (.iaload, 1) := by decide +kernel
theorem dX12_read_16 : decode cX12_read 16 = .ok (.ifCond .ge 9, 3) := by decide +kernel
theorem dX12_read_19 : decode cX12_read 19 = .ok (.aload_n 0, 1) := by decide +kernel
theorem dX12_read_20 : decode cX12_read 20 = .ok (.iconst 1, 1) := by decide +kernel
theorem dX12_read_21 : decode cX12_read 21 = .ok (.invokevirtual 80, 3) := by decide +kernel
theorem dX12_read_24 : decode cX12_read 24 = .ok (.ireturn, 1) := by decide +kernel
theorem dX12_learn_0 : decode cX12_learn 0 = .ok (.iload_n 1, 1) := by decide +kernel
theorem dX12_learn_1 : decode cX12_learn 1 = .ok (.i2l, 1) := by decide +kernel
theorem dX12_learn_2 : decode cX12_learn 2 = .ok (.lconst 0, 1) := by decide +kernel
theorem dX12_learn_3 : decode cX12_learn 3 = .ok (.ldc2_w 165, 3) := by decide +kernel
theorem dX12_learn_6 : decode cX12_learn 6 = .ok (.invokestatic 65, 3) := by decide +kernel
theorem dX12_learn_9 : decode cX12_learn 9 = .ok (.ifCond .ne 6, 3) := by decide +kernel
theorem dX12_learn_12 : decode cX12_learn 12 = .ok (.bipush (-2), 2) := by decide +kernel
theorem dX12_learn_14 : decode cX12_learn 14 = .ok (.ireturn, 1) := by decide +kernel
theorem dX12_learn_15 : decode cX12_learn 15 = .ok (.aload_n 0, 1) := by decide +kernel
theorem dX12_learn_16 : decode cX12_learn 16 = .ok (.getfield 167, 3) := by decide +kernel
theorem dX12_learn_19 : decode cX12_learn 19 = .ok (.istore_n 2, 1) := by decide +kernel
theorem dX12_learn_20 : decode cX12_learn 20 = .ok (.aload_n 0, 1) := by decide +kernel
theorem dX12_learn_21 : decode cX12_learn 21 = .ok (.iload_n 1, 1) := by decide +kernel
theorem dX12_learn_22 : decode cX12_learn 22 = .ok (.putfield 167, 3) := by decide +kernel
theorem dX12_learn_25 : decode cX12_learn 25 = .ok (.iload_n 2, 1) := by decide +kernel
theorem dX12_learn_26 : decode cX12_learn 26 = .ok (.ireturn, 1) := by decide +kernel
theorem dX12_isFlight_0 : decode cX12_isFlight 0 = .ok (.iload_n 1, 1) := by decide +kernel
theorem dX12_isFlight_1 : decode cX12_isFlight 1 = .ok (.i2l, 1) := by decide +kernel
theorem dX12_isFlight_2 : decode cX12_isFlight 2 = .ok (.lconst 0, 1) := by decide +kernel
theorem dX12_isFlight_3 : decode cX12_isFlight 3 = .ok (.aload_n 0, 1) := by decide +kernel
theorem dX12_isFlight_4 : decode cX12_isFlight 4 = .ok (.getfield 159, 3) := by decide +kernel
theorem dX12_isFlight_7 : decode cX12_isFlight 7 = .ok (.iconst 1, 1) := by decide +kernel
theorem dX12_isFlight_8 : decode cX12_isFlight 8 = .ok (.isub, 1) := by decide +kernel
theorem dX12_isFlight_9 : decode cX12_isFlight 9 = .ok (.i2l, 1) := by decide +kernel
theorem dX12_isFlight_10 : decode cX12_isFlight 10 = .ok (.invokestatic 65, 3) := by decide +kernel
theorem dX12_isFlight_13 : decode cX12_isFlight 13 = .ok (.ireturn, 1) := by decide +kernel
theorem dX12_comes_0 : decode cX12_comes 0 = .ok (.aload_n 0, 1) := by decide +kernel
theorem dX12_comes_1 : decode cX12_comes 1 = .ok (.invokevirtual 141, 3) := by decide +kernel
theorem dX12_comes_4 : decode cX12_comes 4 = .ok (.aload_n 0, 1) := by decide +kernel
theorem dX12_comes_5 : decode cX12_comes 5 = .ok (.iload_n 1, 1) := by decide +kernel
theorem dX12_comes_6 : decode cX12_comes 6 = .ok (.invokevirtual 212, 3) := by decide +kernel
theorem dX12_comes_9 : decode cX12_comes 9 = .ok (.ifCond .eq 24, 3) := by decide +kernel
theorem dX12_comes_33 : decode cX12_comes 33 = .ok (.bipush (-2), 2) := by decide +kernel
theorem dX12_comes_35 : decode cX12_comes 35 = .ok (.ireturn, 1) := by decide +kernel
theorem dX12_behind_0 : decode cX12_behind 0 = .ok (.aload_n 0, 1) := by decide +kernel
theorem dX12_behind_1 : decode cX12_behind 1 = .ok (.invokevirtual 141, 3) := by decide +kernel
theorem dX12_behind_4 : decode cX12_behind 4 = .ok (.aload_n 0, 1) := by decide +kernel
theorem dX12_behind_5 : decode cX12_behind 5 = .ok (.iload_n 1, 1) := by decide +kernel
theorem dX12_behind_6 : decode cX12_behind 6 = .ok (.invokevirtual 212, 3) := by decide +kernel
theorem dX12_behind_9 : decode cX12_behind 9 = .ok (.ifCond .eq 41, 3) := by decide +kernel
theorem dX12_behind_50 : decode cX12_behind 50 = .ok (.bipush (-2), 2) := by decide +kernel
theorem dX12_behind_52 : decode cX12_behind 52 = .ok (.ireturn, 1) := by decide +kernel
theorem dX12_farthestNow_0 : decode cX12_farthestNow 0 = .ok (.iconst (-1), 1) := by decide +kernel
theorem dX12_farthestNow_1 : decode cX12_farthestNow 1 = .ok (.istore_n 1, 1) := by decide +kernel
theorem dX12_farthestNow_2 : decode cX12_farthestNow 2 = .ok (.iconst 0, 1) := by decide +kernel
theorem dX12_farthestNow_3 : decode cX12_farthestNow 3 = .ok (.istore_n 2, 1) := by decide +kernel
theorem dX12_farthestNow_4 : decode cX12_farthestNow 4 = .ok (.iconst 0, 1) := by decide +kernel
theorem dX12_farthestNow_5 : decode cX12_farthestNow 5 = .ok (.istore_n 3, 1) := by decide +kernel
theorem dX12_farthestNow_6 : decode cX12_farthestNow 6 = .ok (.iload_n 3, 1) := by decide +kernel
theorem dX12_farthestNow_7 : decode cX12_farthestNow 7 = .ok (.aload_n 0, 1) := by decide +kernel
theorem dX12_farthestNow_8 : decode cX12_farthestNow 8 = .ok (.getfield 159, 3) := by decide +kernel
theorem dX12_farthestNow_11 : decode cX12_farthestNow 11 = .ok (.if_icmp .ge 76, 3) := by decide +kernel
theorem dX12_farthestNow_87 : decode cX12_farthestNow 87 = .ok (.iload_n 1, 1) := by decide +kernel
theorem dX12_farthestNow_88 : decode cX12_farthestNow 88 = .ok (.ireturn, 1) := by decide +kernel
theorem dX12_farthest_0 : decode cX12_farthest 0 = .ok (.aload_n 0, 1) := by decide +kernel
theorem dX12_farthest_1 : decode cX12_farthest 1 = .ok (.invokevirtual 141, 3) := by decide +kernel
theorem dX12_farthest_4 : decode cX12_farthest 4 = .ok (.aload_n 0, 1) := by decide +kernel
theorem dX12_farthest_5 : decode cX12_farthest 5 = .ok (.invokevirtual 221, 3) := by decide +kernel
theorem dX12_farthest_8 : decode cX12_farthest 8 = .ok (.ireturn, 1) := by decide +kernel
theorem dX12_climb_0 : decode cX12_climb 0 = .ok (.aload_n 0, 1) := by decide +kernel
theorem dX12_climb_1 : decode cX12_climb 1 = .ok (.invokevirtual 141, 3) := by decide +kernel
theorem dX12_climb_4 : decode cX12_climb 4 = .ok (.aload_n 0, 1) := by decide +kernel
theorem dX12_climb_5 : decode cX12_climb 5 = .ok (.iload_n 1, 1) := by decide +kernel
theorem dX12_climb_6 : decode cX12_climb 6 = .ok (.invokevirtual 212, 3) := by decide +kernel
theorem dX12_climb_9 : decode cX12_climb 9 = .ok (.ifCond .eq 26, 3) := by decide +kernel
theorem dX12_climb_35 : decode cX12_climb 35 = .ok (.bipush (-2), 2) := by decide +kernel
theorem dX12_climb_37 : decode cX12_climb 37 = .ok (.ireturn, 1) := by decide +kernel
theorem dX12_practice_0 : decode cX12_practice 0 = .ok (.aload_n 0, 1) := by decide +kernel
theorem dX12_practice_1 : decode cX12_practice 1 = .ok (.invokevirtual 141, 3) := by decide +kernel
theorem dX12_practice_4 : decode cX12_practice 4 = .ok (.aload_n 0, 1) := by decide +kernel
theorem dX12_practice_5 : decode cX12_practice 5 = .ok (.iload_n 1, 1) := by decide +kernel
theorem dX12_practice_6 : decode cX12_practice 6 = .ok (.invokevirtual 212, 3) := by decide +kernel
theorem dX12_practice_9 : decode cX12_practice 9 = .ok (.ifCond .eq 19, 3) := by decide +kernel
theorem dX12_practice_28 : decode cX12_practice 28 = .ok (.bipush (-2), 2) := by decide +kernel
theorem dX12_practice_30 : decode cX12_practice 30 = .ok (.ireturn, 1) := by decide +kernel
theorem dX12_pair_0 : decode cX12_pair 0 = .ok (.aload_n 0, 1) := by decide +kernel
theorem dX12_pair_1 : decode cX12_pair 1 = .ok (.invokevirtual 141, 3) := by decide +kernel
theorem dX12_pair_4 : decode cX12_pair 4 = .ok (.aload_n 0, 1) := by decide +kernel
theorem dX12_pair_5 : decode cX12_pair 5 = .ok (.iload_n 1, 1) := by decide +kernel
theorem dX12_pair_6 : decode cX12_pair 6 = .ok (.invokevirtual 212, 3) := by decide +kernel
theorem dX12_pair_9 : decode cX12_pair 9 = .ok (.ifCond .eq 19, 3) := by decide +kernel
theorem dX12_pair_28 : decode cX12_pair 28 = .ok (.bipush (-2), 2) := by decide +kernel
theorem dX12_pair_30 : decode cX12_pair 30 = .ok (.ireturn, 1) := by decide +kernel
theorem dX12_seen_0 : decode cX12_seen 0 = .ok (.iload_n 1, 1) := by decide +kernel
theorem dX12_seen_1 : decode cX12_seen 1 = .ok (.i2l, 1) := by decide +kernel
theorem dX12_seen_2 : decode cX12_seen 2 = .ok (.lconst 0, 1) := by decide +kernel
theorem dX12_seen_3 : decode cX12_seen 3 = .ok (.ldc2_w 155, 3) := by decide +kernel
theorem dX12_seen_6 : decode cX12_seen 6 = .ok (.invokestatic 65, 3) := by decide +kernel
theorem dX12_seen_9 : decode cX12_seen 9 = .ok (.ifCond .eq 15, 3) := by decide +kernel
theorem dX12_seen_12 : decode cX12_seen 12 = .ok (.iload_n 2, 1) := by decide +kernel
theorem dX12_seen_13 : decode cX12_seen 13 = .ok (.i2l, 1) := by decide +kernel
theorem dX12_seen_14 : decode cX12_seen 14 = .ok (.lconst 0, 1) := by decide +kernel
theorem dX12_seen_15 : decode cX12_seen 15 = .ok (.ldc2_w 238, 3) := by decide +kernel
theorem dX12_seen_18 : decode cX12_seen 18 = .ok (.invokestatic 65, 3) := by decide +kernel
theorem dX12_seen_21 : decode cX12_seen 21 = .ok (.ifCond .ne 6, 3) := by decide +kernel
theorem dX12_seen_24 : decode cX12_seen 24 = .ok (.bipush (-2), 2) := by decide +kernel
theorem dX12_seen_26 : decode cX12_seen 26 = .ok (.ireturn, 1) := by decide +kernel
theorem dX12_seen_27 : decode cX12_seen 27 = .ok (.aload_n 0, 1) := by decide +kernel
theorem dX12_seen_28 : decode cX12_seen 28 = .ok (.getfield 240, 3) := by decide +kernel
theorem dX12_seen_31 : decode cX12_seen 31 = .ok (.bipush 8, 2) := by decide +kernel
theorem dX12_seen_33 : decode cX12_seen 33 = .ok (.if_icmp .ne 6, 3) := by decide +kernel
theorem dX12_seen_39 : decode cX12_seen 39 = .ok (.aload_n 0, 1) := by decide +kernel
theorem dX12_seen_40 : decode cX12_seen 40 = .ok (.getfield 52, 3) := by decide +kernel
theorem dX12_seen_43 : decode cX12_seen 43 = .ok (.iconst 2, 1) := by decide +kernel
theorem dX12_seen_44 : decode cX12_seen 44 = .ok (.aload_n 0, 1) := by decide +kernel
theorem dX12_seen_45 : decode cX12_seen 45 = .ok (.getfield 240, 3) := by decide +kernel
theorem dX12_seen_48 : decode cX12_seen 48 = .ok (.imul, 1) := by decide +kernel
theorem dX12_seen_49 : decode cX12_seen 49 = .ok (.iload_n 1, 1) := by decide +kernel
theorem dX12_seen_50 : decode cX12_seen 50 = .ok (.iastore, 1) := by decide +kernel
theorem dX12_seen_51 : decode cX12_seen 51 = .ok (.aload_n 0, 1) := by decide +kernel
theorem dX12_seen_52 : decode cX12_seen 52 = .ok (.getfield 52, 3) := by decide +kernel
theorem dX12_seen_55 : decode cX12_seen 55 = .ok (.iconst 2, 1) := by decide +kernel
theorem dX12_seen_56 : decode cX12_seen 56 = .ok (.aload_n 0, 1) := by decide +kernel
theorem dX12_seen_57 : decode cX12_seen 57 = .ok (.getfield 240, 3) := by decide +kernel
theorem dX12_seen_60 : decode cX12_seen 60 = .ok (.imul, 1) := by decide +kernel
theorem dX12_seen_61 : decode cX12_seen 61 = .ok (.iconst 1, 1) := by decide +kernel
theorem dX12_seen_62 : decode cX12_seen 62 = .ok (.iadd, 1) := by decide +kernel
theorem dX12_seen_63 : decode cX12_seen 63 = .ok (.iload_n 2, 1) := by decide +kernel
theorem dX12_seen_64 : decode cX12_seen 64 = .ok (.iastore, 1) := by decide +kernel
theorem dX12_seen_65 : decode cX12_seen 65 = .ok (.aload_n 0, 1) := by decide +kernel
theorem dX12_seen_66 : decode cX12_seen 66 = .ok (.dup, 1) := by decide +kernel
theorem dX12_seen_67 : decode cX12_seen 67 = .ok (.getfield 240, 3) := by decide +kernel
theorem dX12_seen_70 : decode cX12_seen 70 = .ok (.iconst 1, 1) := by decide +kernel
theorem dX12_seen_71 : decode cX12_seen 71 = .ok (.iadd, 1) := by decide +kernel
theorem dX12_seen_72 : decode cX12_seen 72 = .ok (.putfield 240, 3) := by decide +kernel
theorem dX12_seen_75 : decode cX12_seen 75 = .ok (.aload_n 0, 1) := by decide +kernel
theorem dX12_seen_76 : decode cX12_seen 76 = .ok (.getfield 240, 3) := by decide +kernel
theorem dX12_seen_79 : decode cX12_seen 79 = .ok (.ireturn, 1) := by decide +kernel
theorem dX12_forget_0 : decode cX12_forget 0 = .ok (.aload_n 0, 1) := by decide +kernel
theorem dX12_forget_1 : decode cX12_forget 1 = .ok (.getfield 240, 3) := by decide +kernel
theorem dX12_forget_4 : decode cX12_forget 4 = .ok (.istore_n 1, 1) := by decide +kernel
theorem dX12_forget_5 : decode cX12_forget 5 = .ok (.aload_n 0, 1) := by decide +kernel
theorem dX12_forget_6 : decode cX12_forget 6 = .ok (.iconst 0, 1) := by decide +kernel
theorem dX12_forget_7 : decode cX12_forget 7 = .ok (.putfield 240, 3) := by decide +kernel
theorem dX12_forget_10 : decode cX12_forget 10 = .ok (.iload_n 1, 1) := by decide +kernel
theorem dX12_forget_11 : decode cX12_forget 11 = .ok (.ireturn, 1) := by decide +kernel
theorem dX12_sores_0 : decode cX12_sores 0 = .ok (.aload_n 0, 1) := by decide +kernel
theorem dX12_sores_1 : decode cX12_sores 1 = .ok (.invokevirtual 141, 3) := by decide +kernel
theorem dX12_sores_4 : decode cX12_sores 4 = .ok (.aload_n 0, 1) := by decide +kernel
theorem dX12_sores_5 : decode cX12_sores 5 = .ok (.iload_n 1, 1) := by decide +kernel
theorem dX12_sores_6 : decode cX12_sores 6 = .ok (.invokevirtual 146, 3) := by decide +kernel
theorem dX12_sores_9 : decode cX12_sores 9 = .ok (.ifCond .eq 11, 3) := by decide +kernel
theorem dX12_sores_20 : decode cX12_sores 20 = .ok (.bipush (-2), 2) := by decide +kernel
theorem dX12_sores_22 : decode cX12_sores 22 = .ok (.ireturn, 1) := by decide +kernel
theorem dX12_high_0 : decode cX12_high 0 = .ok (.aload_n 0, 1) := by decide +kernel
theorem dX12_high_1 : decode cX12_high 1 = .ok (.invokevirtual 141, 3) := by decide +kernel
theorem dX12_high_4 : decode cX12_high 4 = .ok (.aload_n 0, 1) := by decide +kernel
theorem dX12_high_5 : decode cX12_high 5 = .ok (.iload_n 1, 1) := by decide +kernel
theorem dX12_high_6 : decode cX12_high 6 = .ok (.invokevirtual 212, 3) := by decide +kernel
theorem dX12_high_9 : decode cX12_high 9 = .ok (.ifCond .eq 11, 3) := by decide +kernel
theorem dX12_high_20 : decode cX12_high 20 = .ok (.bipush (-2), 2) := by decide +kernel
theorem dX12_high_22 : decode cX12_high 22 = .ok (.ireturn, 1) := by decide +kernel
theorem dX12_ask_0 : decode cX12_ask 0 = .ok (.aload_n 0, 1) := by decide +kernel
theorem dX12_ask_1 : decode cX12_ask 1 = .ok (.invokevirtual 141, 3) := by decide +kernel
theorem dX12_ask_4 : decode cX12_ask 4 = .ok (.aload_n 0, 1) := by decide +kernel
theorem dX12_ask_5 : decode cX12_ask 5 = .ok (.iload_n 1, 1) := by decide +kernel
theorem dX12_ask_6 : decode cX12_ask 6 = .ok (.invokevirtual 146, 3) := by decide +kernel
theorem dX12_ask_9 : decode cX12_ask 9 = .ok (.ifCond .eq 11, 3) := by decide +kernel
theorem dX12_ask_20 : decode cX12_ask 20 = .ok (.bipush (-2), 2) := by decide +kernel
theorem dX12_ask_22 : decode cX12_ask 22 = .ok (.ireturn, 1) := by decide +kernel
theorem dX12_towns_0 : decode cX12_towns 0 = .ok (.iconst 0, 1) := by decide +kernel
theorem dX12_towns_1 : decode cX12_towns 1 = .ok (.istore_n 1, 1) := by decide +kernel
theorem dX12_towns_2 : decode cX12_towns 2 = .ok (.iconst 0, 1) := by decide +kernel
theorem dX12_towns_3 : decode cX12_towns 3 = .ok (.istore_n 2, 1) := by decide +kernel
theorem dX12_towns_4 : decode cX12_towns 4 = .ok (.iload_n 2, 1) := by decide +kernel
theorem dX12_towns_5 : decode cX12_towns 5 = .ok (.aload_n 0, 1) := by decide +kernel
theorem dX12_towns_6 : decode cX12_towns 6 = .ok (.getfield 107, 3) := by decide +kernel
theorem dX12_towns_9 : decode cX12_towns 9 = .ok (.if_icmp .ge 28, 3) := by decide +kernel
theorem dX12_towns_37 : decode cX12_towns 37 = .ok (.iload_n 1, 1) := by decide +kernel
theorem dX12_towns_38 : decode cX12_towns 38 = .ok (.ireturn, 1) := by decide +kernel
theorem dX12_laugh_0 : decode cX12_laugh 0 = .ok (.aload_n 0, 1) := by decide +kernel
theorem dX12_laugh_1 : decode cX12_laugh 1 = .ok (.invokevirtual 141, 3) := by decide +kernel
theorem dX12_laugh_4 : decode cX12_laugh 4 = .ok (.aload_n 0, 1) := by decide +kernel
theorem dX12_laugh_5 : decode cX12_laugh 5 = .ok (.invokevirtual 266, 3) := by decide +kernel
theorem dX12_laugh_8 : decode cX12_laugh 8 = .ok (.istore 4, 2) := by decide +kernel
theorem dX12_laugh_10 : decode cX12_laugh 10 = .ok (.iload_n 1, 1) := by decide +kernel
theorem dX12_laugh_11 : decode cX12_laugh 11 = .ok (.i2l, 1) := by decide +kernel
theorem dX12_laugh_12 : decode cX12_laugh 12 = .ok (.lconst 0, 1) := by decide +kernel
theorem dX12_laugh_13 : decode cX12_laugh 13 = .ok (.ldc2_w 269, 3) := by decide +kernel
theorem dX12_laugh_16 : decode cX12_laugh 16 = .ok (.invokestatic 65, 3) := by decide +kernel
theorem dX12_laugh_19 : decode cX12_laugh 19 = .ok (.ifCond .eq 37, 3) := by decide +kernel
theorem dX12_laugh_22 : decode cX12_laugh 22 = .ok (.aload_n 0, 1) := by decide +kernel
theorem dX12_laugh_23 : decode cX12_laugh 23 = .ok (.iload_n 2, 1) := by decide +kernel
theorem dX12_laugh_24 : decode cX12_laugh 24 = .ok (.invokevirtual 212, 3) := by decide +kernel
theorem dX12_laugh_27 : decode cX12_laugh 27 = .ok (.ifCond .eq 29, 3) := by decide +kernel
theorem dX12_laugh_56 : decode cX12_laugh 56 = .ok (.bipush (-2), 2) := by decide +kernel
theorem dX12_laugh_58 : decode cX12_laugh 58 = .ok (.invokestatic 275, 3) := by decide +kernel
theorem dX12_laugh_61 : decode cX12_laugh 61 = .ok (.lreturn, 1) := by decide +kernel
theorem dX12_lakesOf_0 : decode cX12_lakesOf 0 = .ok (.aload_n 0, 1) := by decide +kernel
theorem dX12_lakesOf_1 : decode cX12_lakesOf 1 = .ok (.iload_n 1, 1) := by decide +kernel
theorem dX12_lakesOf_2 : decode cX12_lakesOf 2 = .ok (.putfield 280, 3) := by decide +kernel
theorem dX12_lakesOf_5 : decode cX12_lakesOf 5 = .ok (.iconst 0, 1) := by decide +kernel
theorem dX12_lakesOf_6 : decode cX12_lakesOf 6 = .ok (.istore 4, 2) := by decide +kernel
theorem dX12_lakesOf_8 : decode cX12_lakesOf 8 = .ok (.iconst 0, 1) := by decide +kernel
theorem dX12_lakesOf_9 : decode cX12_lakesOf 9 = .ok (.istore 5, 2) := by decide +kernel
theorem dX12_lakesOf_11 : decode cX12_lakesOf 11 = .ok (.iload 5, 2) := by decide +kernel
theorem dX12_lakesOf_13 : decode cX12_lakesOf 13 = .ok (.iload_n 2, 1) := by decide +kernel
theorem dX12_lakesOf_14 : decode cX12_lakesOf 14 = .ok (.if_icmp .ge 120, 3) := by decide +kernel
theorem dX12_lakesOf_17 : decode cX12_lakesOf 17 = .ok (.aload_n 0, 1) := by decide +kernel
theorem dX12_lakesOf_18 : decode cX12_lakesOf 18 = .ok (.getfield 116, 3) := by decide +kernel
theorem dX12_lakesOf_21 : decode cX12_lakesOf 21 = .ok (.ifCond .le 113, 3) := by decide +kernel
theorem dX12_lakesOf_134 : decode cX12_lakesOf 134 = .ok (.iload 4, 2) := by decide +kernel
theorem dX12_lakesOf_136 : decode cX12_lakesOf 136 = .ok (.ireturn, 1) := by decide +kernel
theorem dX12_lakes_0 : decode cX12_lakes 0 = .ok (.aload_n 0, 1) := by decide +kernel
theorem dX12_lakes_1 : decode cX12_lakes 1 = .ok (.invokevirtual 141, 3) := by decide +kernel
theorem dX12_lakes_4 : decode cX12_lakes 4 = .ok (.iload_n 2, 1) := by decide +kernel
theorem dX12_lakes_5 : decode cX12_lakes 5 = .ok (.i2l, 1) := by decide +kernel
theorem dX12_lakes_6 : decode cX12_lakes 6 = .ok (.lconst 1, 1) := by decide +kernel
theorem dX12_lakes_7 : decode cX12_lakes 7 = .ok (.ldc2_w 286, 3) := by decide +kernel
theorem dX12_lakes_10 : decode cX12_lakes 10 = .ok (.invokestatic 65, 3) := by decide +kernel
theorem dX12_lakes_13 : decode cX12_lakes 13 = .ok (.ifCond .eq 20, 3) := by decide +kernel
theorem dX12_lakes_16 : decode cX12_lakes 16 = .ok (.iload_n 3, 1) := by decide +kernel
theorem dX12_lakes_17 : decode cX12_lakes 17 = .ok (.invokestatic 152, 3) := by decide +kernel
theorem dX12_lakes_20 : decode cX12_lakes 20 = .ok (.ifCond .eq 13, 3) := by decide +kernel
theorem dX12_lakes_23 : decode cX12_lakes 23 = .ok (.aload_n 0, 1) := by decide +kernel
theorem dX12_lakes_24 : decode cX12_lakes 24 = .ok (.iload_n 1, 1) := by decide +kernel
theorem dX12_lakes_25 : decode cX12_lakes 25 = .ok (.iload_n 2, 1) := by decide +kernel
theorem dX12_lakes_26 : decode cX12_lakes 26 = .ok (.iload_n 3, 1) := by decide +kernel
theorem dX12_lakes_27 : decode cX12_lakes 27 = .ok (.invokevirtual 288, 3) := by decide +kernel
theorem dX12_lakes_30 : decode cX12_lakes 30 = .ok (.goto 5, 3) := by decide +kernel
theorem dX12_lakes_33 : decode cX12_lakes 33 = .ok (.bipush (-2), 2) := by decide +kernel
theorem dX12_lakes_35 : decode cX12_lakes 35 = .ok (.ireturn, 1) := by decide +kernel
theorem dX12_write_0 : decode cX12_write 0 = .ok (.aload_n 0, 1) := by decide +kernel
theorem dX12_write_1 : decode cX12_write 1 = .ok (.iload_n 1, 1) := by decide +kernel
theorem dX12_write_2 : decode cX12_write 2 = .ok (.invokevirtual 212, 3) := by decide +kernel
theorem dX12_write_5 : decode cX12_write 5 = .ok (.ifCond .eq 17, 3) := by decide +kernel
theorem dX12_write_22 : decode cX12_write 22 = .ok (.bipush (-2), 2) := by decide +kernel
theorem dX12_write_24 : decode cX12_write 24 = .ok (.ireturn, 1) := by decide +kernel
theorem dX12_count_0 : decode cX12_count 0 = .ok (.aload_n 0, 1) := by decide +kernel
theorem dX12_count_1 : decode cX12_count 1 = .ok (.invokevirtual 141, 3) := by decide +kernel
theorem dX12_count_4 : decode cX12_count 4 = .ok (.iload_n 1, 1) := by decide +kernel
theorem dX12_count_5 : decode cX12_count 5 = .ok (.tableswitch 90 0 8 #[51, 56, 61, 66, 66, 66, 75, 80, 85], 51) := by decide +kernel
theorem dX12_count_56 : decode cX12_count 56 = .ok (.aload_n 0, 1) := by decide +kernel
theorem dX12_count_57 : decode cX12_count 57 = .ok (.getfield 107, 3) := by decide +kernel
theorem dX12_count_60 : decode cX12_count 60 = .ok (.ireturn, 1) := by decide +kernel
theorem dX12_count_61 : decode cX12_count 61 = .ok (.aload_n 0, 1) := by decide +kernel
theorem dX12_count_62 : decode cX12_count 62 = .ok (.getfield 116, 3) := by decide +kernel
theorem dX12_count_65 : decode cX12_count 65 = .ok (.ireturn, 1) := by decide +kernel
theorem dX12_count_66 : decode cX12_count 66 = .ok (.aload_n 0, 1) := by decide +kernel
theorem dX12_count_67 : decode cX12_count 67 = .ok (.getfield 122, 3) := by decide +kernel
theorem dX12_count_70 : decode cX12_count 70 = .ok (.ireturn, 1) := by decide +kernel
theorem dX12_count_71 : decode cX12_count 71 = .ok (.aload_n 0, 1) := by decide +kernel
theorem dX12_count_72 : decode cX12_count 72 = .ok (.getfield 25, 3) := by decide +kernel
theorem dX12_count_75 : decode cX12_count 75 = .ok (.iload_n 1, 1) := by decide +kernel
theorem dX12_count_76 : decode cX12_count 76 = .ok (.iconst 3, 1) := by decide +kernel
theorem dX12_count_77 : decode cX12_count 77 = .ok (.isub, 1) := by decide +kernel
theorem dX12_count_78 : decode cX12_count 78 = .ok (.iaload, 1) := by decide +kernel
theorem dX12_count_79 : decode cX12_count 79 = .ok (.ireturn, 1) := by decide +kernel
theorem dX12_count_80 : decode cX12_count 80 = .ok (.aload_n 0, 1) := by decide +kernel
theorem dX12_count_81 : decode cX12_count 81 = .ok (.getfield 159, 3) := by decide +kernel
theorem dX12_count_84 : decode cX12_count 84 = .ok (.ireturn, 1) := by decide +kernel
theorem dX12_count_85 : decode cX12_count 85 = .ok (.aload_n 0, 1) := by decide +kernel
theorem dX12_count_86 : decode cX12_count 86 = .ok (.getfield 240, 3) := by decide +kernel
theorem dX12_count_89 : decode cX12_count 89 = .ok (.ireturn, 1) := by decide +kernel
theorem dX12_count_90 : decode cX12_count 90 = .ok (.aload_n 0, 1) := by decide +kernel
theorem dX12_count_91 : decode cX12_count 91 = .ok (.getfield 69, 3) := by decide +kernel
theorem dX12_count_94 : decode cX12_count 94 = .ok (.ireturn, 1) := by decide +kernel
theorem dX12_count_95 : decode cX12_count 95 = .ok (.bipush (-2), 2) := by decide +kernel
theorem dX12_count_97 : decode cX12_count 97 = .ok (.ireturn, 1) := by decide +kernel
theorem dX12_digest_0 : decode cX12_digest 0 = .ok (.ldc2_w 303, 3) := by decide +kernel
theorem dX12_digest_3 : decode cX12_digest 3 = .ok (.lstore_n 1, 1) := by decide +kernel
theorem dX12_digest_4 : decode cX12_digest 4 = .ok (.iconst 0, 1) := by decide +kernel
theorem dX12_digest_5 : decode cX12_digest 5 = .ok (.istore_n 3, 1) := by decide +kernel
theorem dX12_digest_6 : decode cX12_digest 6 = .ok (.iload_n 3, 1) := by decide +kernel
theorem dX12_digest_7 : decode cX12_digest 7 = .ok (.bipush 8, 2) := by decide +kernel
theorem dX12_digest_9 : decode cX12_digest 9 = .ok (.if_icmp .ge 22, 3) := by decide +kernel
theorem dX12_digest_12 : decode cX12_digest 12 = .ok (.ldc2_w 294, 3) := by decide +kernel
theorem dX12_digest_15 : decode cX12_digest 15 = .ok (.lload_n 1, 1) := by decide +kernel
theorem dX12_digest_16 : decode cX12_digest 16 = .ok (.lmul, 1) := by decide +kernel
theorem dX12_digest_17 : decode cX12_digest 17 = .ok (.aload_n 0, 1) := by decide +kernel
theorem dX12_digest_18 : decode cX12_digest 18 = .ok (.iload_n 3, 1) := by decide +kernel
theorem dX12_digest_19 : decode cX12_digest 19 = .ok (.invokevirtual 305, 3) := by decide +kernel
theorem dX12_digest_22 : decode cX12_digest 22 = .ok (.i2l, 1) := by decide +kernel
theorem dX12_digest_23 : decode cX12_digest 23 = .ok (.ladd, 1) := by decide +kernel
theorem dX12_digest_24 : decode cX12_digest 24 = .ok (.lstore_n 1, 1) := by decide +kernel
theorem dX12_digest_25 : decode cX12_digest 25 = .ok (.iinc 3 1, 3) := by decide +kernel
theorem dX12_digest_28 : decode cX12_digest 28 = .ok (.goto (-22), 3) := by decide +kernel
theorem dX12_digest_31 : decode cX12_digest 31 = .ok (.iconst 0, 1) := by decide +kernel
theorem dX12_digest_32 : decode cX12_digest 32 = .ok (.istore_n 3, 1) := by decide +kernel
theorem dX12_digest_33 : decode cX12_digest 33 = .ok (.iload_n 3, 1) := by decide +kernel
theorem dX12_digest_34 : decode cX12_digest 34 = .ok (.iconst 3, 1) := by decide +kernel
theorem dX12_digest_35 : decode cX12_digest 35 = .ok (.if_icmp .ge 22, 3) := by decide +kernel
theorem dX12_digest_38 : decode cX12_digest 38 = .ok (.ldc2_w 294, 3) := by decide +kernel
theorem dX12_digest_41 : decode cX12_digest 41 = .ok (.lload_n 1, 1) := by decide +kernel
theorem dX12_digest_42 : decode cX12_digest 42 = .ok (.lmul, 1) := by decide +kernel
theorem dX12_digest_43 : decode cX12_digest 43 = .ok (.aload_n 0, 1) := by decide +kernel
theorem dX12_digest_44 : decode cX12_digest 44 = .ok (.iload_n 3, 1) := by decide +kernel
theorem dX12_digest_45 : decode cX12_digest 45 = .ok (.invokevirtual 138, 3) := by decide +kernel
theorem dX12_digest_48 : decode cX12_digest 48 = .ok (.i2l, 1) := by decide +kernel
theorem dX12_digest_49 : decode cX12_digest 49 = .ok (.ladd, 1) := by decide +kernel
theorem dX12_digest_50 : decode cX12_digest 50 = .ok (.lstore_n 1, 1) := by decide +kernel
theorem dX12_digest_51 : decode cX12_digest 51 = .ok (.iinc 3 1, 3) := by decide +kernel
theorem dX12_digest_54 : decode cX12_digest 54 = .ok (.goto (-21), 3) := by decide +kernel
theorem dX12_digest_57 : decode cX12_digest 57 = .ok (.iconst 0, 1) := by decide +kernel
theorem dX12_digest_58 : decode cX12_digest 58 = .ok (.istore_n 3, 1) := by decide +kernel
theorem dX12_digest_59 : decode cX12_digest 59 = .ok (.iload_n 3, 1) := by decide +kernel
theorem dX12_digest_60 : decode cX12_digest 60 = .ok (.aload_n 0, 1) := by decide +kernel
theorem dX12_digest_61 : decode cX12_digest 61 = .ok (.getfield 107, 3) := by decide +kernel
theorem dX12_digest_64 : decode cX12_digest 64 = .ok (.if_icmp .ge 23, 3) := by decide +kernel
theorem dX12_digest_87 : decode cX12_digest 87 = .ok (.iconst 0, 1) := by decide +kernel
theorem dX12_digest_88 : decode cX12_digest 88 = .ok (.istore_n 3, 1) := by decide +kernel
theorem dX12_digest_89 : decode cX12_digest 89 = .ok (.iload_n 3, 1) := by decide +kernel
theorem dX12_digest_90 : decode cX12_digest 90 = .ok (.aload_n 0, 1) := by decide +kernel
theorem dX12_digest_91 : decode cX12_digest 91 = .ok (.getfield 116, 3) := by decide +kernel
theorem dX12_digest_94 : decode cX12_digest 94 = .ok (.if_icmp .ge 69, 3) := by decide +kernel
theorem dX12_digest_163 : decode cX12_digest 163 = .ok (.iconst 0, 1) := by decide +kernel
theorem dX12_digest_164 : decode cX12_digest 164 = .ok (.istore_n 3, 1) := by decide +kernel
theorem dX12_digest_165 : decode cX12_digest 165 = .ok (.iload_n 3, 1) := by decide +kernel
theorem dX12_digest_166 : decode cX12_digest 166 = .ok (.aload_n 0, 1) := by decide +kernel
theorem dX12_digest_167 : decode cX12_digest 167 = .ok (.getfield 122, 3) := by decide +kernel
theorem dX12_digest_170 : decode cX12_digest 170 = .ok (.if_icmp .ge 43, 3) := by decide +kernel
theorem dX12_digest_213 : decode cX12_digest 213 = .ok (.iconst 0, 1) := by decide +kernel
theorem dX12_digest_214 : decode cX12_digest 214 = .ok (.istore_n 3, 1) := by decide +kernel
theorem dX12_digest_215 : decode cX12_digest 215 = .ok (.iload_n 3, 1) := by decide +kernel
theorem dX12_digest_216 : decode cX12_digest 216 = .ok (.aload_n 0, 1) := by decide +kernel
theorem dX12_digest_217 : decode cX12_digest 217 = .ok (.getfield 159, 3) := by decide +kernel
theorem dX12_digest_220 : decode cX12_digest 220 = .ok (.if_icmp .ge 16, 3) := by decide +kernel
theorem dX12_digest_236 : decode cX12_digest 236 = .ok (.ldc2_w 294, 3) := by decide +kernel
theorem dX12_digest_239 : decode cX12_digest 239 = .ok (.lload_n 1, 1) := by decide +kernel
theorem dX12_digest_240 : decode cX12_digest 240 = .ok (.lmul, 1) := by decide +kernel
theorem dX12_digest_241 : decode cX12_digest 241 = .ok (.aload_n 0, 1) := by decide +kernel
theorem dX12_digest_242 : decode cX12_digest 242 = .ok (.invokevirtual 221, 3) := by decide +kernel
theorem dX12_digest_245 : decode cX12_digest 245 = .ok (.i2l, 1) := by decide +kernel
theorem dX12_digest_246 : decode cX12_digest 246 = .ok (.ladd, 1) := by decide +kernel
theorem dX12_digest_247 : decode cX12_digest 247 = .ok (.lstore_n 1, 1) := by decide +kernel
theorem dX12_digest_248 : decode cX12_digest 248 = .ok (.ldc2_w 294, 3) := by decide +kernel
theorem dX12_digest_251 : decode cX12_digest 251 = .ok (.lload_n 1, 1) := by decide +kernel
theorem dX12_digest_252 : decode cX12_digest 252 = .ok (.lmul, 1) := by decide +kernel
theorem dX12_digest_253 : decode cX12_digest 253 = .ok (.aload_n 0, 1) := by decide +kernel
theorem dX12_digest_254 : decode cX12_digest 254 = .ok (.bipush 7, 2) := by decide +kernel
theorem dX12_digest_256 : decode cX12_digest 256 = .ok (.bipush 30, 2) := by decide +kernel
theorem dX12_digest_258 : decode cX12_digest 258 = .ok (.iconst 0, 1) := by decide +kernel
theorem dX12_digest_259 : decode cX12_digest 259 = .ok (.invokevirtual 288, 3) := by decide +kernel
theorem dX12_digest_262 : decode cX12_digest 262 = .ok (.i2l, 1) := by decide +kernel
theorem dX12_digest_263 : decode cX12_digest 263 = .ok (.ladd, 1) := by decide +kernel
theorem dX12_digest_264 : decode cX12_digest 264 = .ok (.lstore_n 1, 1) := by decide +kernel
theorem dX12_digest_265 : decode cX12_digest 265 = .ok (.ldc2_w 294, 3) := by decide +kernel
theorem dX12_digest_268 : decode cX12_digest 268 = .ok (.lload_n 1, 1) := by decide +kernel
theorem dX12_digest_269 : decode cX12_digest 269 = .ok (.lmul, 1) := by decide +kernel
theorem dX12_digest_270 : decode cX12_digest 270 = .ok (.aload_n 0, 1) := by decide +kernel
theorem dX12_digest_271 : decode cX12_digest 271 = .ok (.bipush 7, 2) := by decide +kernel
theorem dX12_digest_273 : decode cX12_digest 273 = .ok (.bipush 30, 2) := by decide +kernel
theorem dX12_digest_275 : decode cX12_digest 275 = .ok (.iconst 1, 1) := by decide +kernel
theorem dX12_digest_276 : decode cX12_digest 276 = .ok (.invokevirtual 288, 3) := by decide +kernel
theorem dX12_digest_279 : decode cX12_digest 279 = .ok (.i2l, 1) := by decide +kernel
theorem dX12_digest_280 : decode cX12_digest 280 = .ok (.ladd, 1) := by decide +kernel
theorem dX12_digest_281 : decode cX12_digest 281 = .ok (.lreturn, 1) := by decide +kernel
theorem dL_law_0 : decode cL_law 0 = .ok (.new 7, 3) := by decide +kernel
theorem dL_law_3 : decode cL_law 3 = .ok (.dup, 1) := by decide +kernel
theorem dL_law_4 : decode cL_law 4 = .ok (.invokespecial 9, 3) := by decide +kernel
theorem dL_law_7 : decode cL_law 7 = .ok (.astore_n 1, 1) := by decide +kernel
theorem dL_law_8 : decode cL_law 8 = .ok (.new 10, 3) := by decide +kernel
theorem dL_law_11 : decode cL_law 11 = .ok (.dup, 1) := by decide +kernel
theorem dL_law_12 : decode cL_law 12 = .ok (.invokespecial 12, 3) := by decide +kernel
theorem dL_law_15 : decode cL_law 15 = .ok (.astore_n 2, 1) := by decide +kernel
theorem dL_law_16 : decode cL_law 16 = .ok (.iconst 0, 1) := by decide +kernel
theorem dL_law_17 : decode cL_law 17 = .ok (.istore_n 3, 1) := by decide +kernel
theorem dL_law_18 : decode cL_law 18 = .ok (.iload_n 3, 1) := by decide +kernel
theorem dL_law_19 : decode cL_law 19 = .ok (.aload_n 0, 1) := by decide +kernel
theorem dL_law_20 : decode cL_law 20 = .ok (.arraylength, 1) := by decide +kernel
theorem dL_law_21 : decode cL_law 21 = .ok (.bipush 6, 2) := by decide +kernel
theorem dL_law_23 : decode cL_law 23 = .ok (.isub, 1) := by decide +kernel
theorem dL_law_24 : decode cL_law 24 = .ok (.if_icmp .gt 1156, 3) := by decide +kernel
theorem dL_law_27 : decode cL_law 27 = .ok (.aload_n 0, 1) := by decide +kernel
theorem dL_law_28 : decode cL_law 28 = .ok (.iload_n 3, 1) := by decide +kernel
theorem dL_law_29 : decode cL_law 29 = .ok (.iaload, 1) := by decide +kernel
theorem dL_law_30 : decode cL_law 30 = .ok (.bipush 31, 2) := by decide +kernel
theorem dL_law_32 : decode cL_law 32 = .ok (.iand, 1) := by decide +kernel
theorem dL_law_33 : decode cL_law 33 = .ok (.tableswitch 1141 0 31 #[143, 176, 199, 222, 245, 268, 301, 334, 387, 400, 423, 446, 479, 522, 535, 568, 601, 634, 667, 680, 703, 726, 749, 793, 836, 879, 902, 955, 998, 1061, 1104, 1127], 143) := by decide +kernel
theorem dL_law_176 : decode cL_law 176 = .ok (.aload_n 1, 1) := by decide +kernel
theorem dL_law_177 : decode cL_law 177 = .ok (.aload_n 0, 1) := by decide +kernel
theorem dL_law_178 : decode cL_law 178 = .ok (.iload_n 3, 1) := by decide +kernel
theorem dL_law_179 : decode cL_law 179 = .ok (.iconst 1, 1) := by decide +kernel
theorem dL_law_180 : decode cL_law 180 = .ok (.iadd, 1) := by decide +kernel
end
section
theorem dL_law_181 : decode cL_law 181 = .ok (.iaload, 1) := by decide +kernel
theorem dL_law_182 : decode cL_law 182 = .ok (.aload_n 0, 1) := by decide +kernel
theorem dL_law_183 : decode cL_law 183 = .ok (.iload_n 3, 1) := by decide +kernel
theorem dL_law_184 : decode cL_law 184 = .ok (.iconst 2, 1) := by decide +kernel
theorem dL_law_185 : decode cL_law 185 = .ok (.iadd, 1) := by decide +kernel
theorem dL_law_186 : decode cL_law 186 = .ok (.iaload, 1) := by decide +kernel
theorem dL_law_187 : decode cL_law 187 = .ok (.invokevirtual 13, 3) := by decide +kernel
theorem dL_law_190 : decode cL_law 190 = .ok (.aload_n 2, 1) := by decide +kernel
theorem dL_law_191 : decode cL_law 191 = .ok (.aload_n 0, 1) := by decide +kernel
theorem dL_law_192 : decode cL_law 192 = .ok (.iload_n 3, 1) := by decide +kernel
theorem dL_law_193 : decode cL_law 193 = .ok (.iconst 1, 1) := by decide +kernel
theorem dL_law_194 : decode cL_law 194 = .ok (.iadd, 1) := by decide +kernel
theorem dL_law_195 : decode cL_law 195 = .ok (.iaload, 1) := by decide +kernel
theorem dL_law_196 : decode cL_law 196 = .ok (.aload_n 0, 1) := by decide +kernel
theorem dL_law_197 : decode cL_law 197 = .ok (.iload_n 3, 1) := by decide +kernel
theorem dL_law_198 : decode cL_law 198 = .ok (.iconst 2, 1) := by decide +kernel
theorem dL_law_199 : decode cL_law 199 = .ok (.iadd, 1) := by decide +kernel
theorem dL_law_200 : decode cL_law 200 = .ok (.iaload, 1) := by decide +kernel
theorem dL_law_201 : decode cL_law 201 = .ok (.invokevirtual 17, 3) := by decide +kernel
theorem dL_law_204 : decode cL_law 204 = .ok (.if_icmp .eq 970, 3) := by decide +kernel
theorem dL_law_209 : decode cL_law 209 = .ok (.aload_n 1, 1) := by decide +kernel
theorem dL_law_210 : decode cL_law 210 = .ok (.aload_n 0, 1) := by decide +kernel
theorem dL_law_211 : decode cL_law 211 = .ok (.iload_n 3, 1) := by decide +kernel
theorem dL_law_212 : decode cL_law 212 = .ok (.iconst 1, 1) := by decide +kernel
theorem dL_law_213 : decode cL_law 213 = .ok (.iadd, 1) := by decide +kernel
theorem dL_law_214 : decode cL_law 214 = .ok (.iaload, 1) := by decide +kernel
theorem dL_law_215 : decode cL_law 215 = .ok (.invokevirtual 18, 3) := by decide +kernel
theorem dL_law_218 : decode cL_law 218 = .ok (.aload_n 2, 1) := by decide +kernel
theorem dL_law_219 : decode cL_law 219 = .ok (.aload_n 0, 1) := by decide +kernel
theorem dL_law_220 : decode cL_law 220 = .ok (.iload_n 3, 1) := by decide +kernel
theorem dL_law_221 : decode cL_law 221 = .ok (.iconst 1, 1) := by decide +kernel
theorem dL_law_222 : decode cL_law 222 = .ok (.iadd, 1) := by decide +kernel
theorem dL_law_223 : decode cL_law 223 = .ok (.iaload, 1) := by decide +kernel
theorem dL_law_224 : decode cL_law 224 = .ok (.invokevirtual 22, 3) := by decide +kernel
theorem dL_law_227 : decode cL_law 227 = .ok (.if_icmp .eq 947, 3) := by decide +kernel
theorem dL_law_232 : decode cL_law 232 = .ok (.aload_n 1, 1) := by decide +kernel
theorem dL_law_233 : decode cL_law 233 = .ok (.aload_n 0, 1) := by decide +kernel
theorem dL_law_234 : decode cL_law 234 = .ok (.iload_n 3, 1) := by decide +kernel
theorem dL_law_235 : decode cL_law 235 = .ok (.iconst 1, 1) := by decide +kernel
theorem dL_law_236 : decode cL_law 236 = .ok (.iadd, 1) := by decide +kernel
theorem dL_law_237 : decode cL_law 237 = .ok (.iaload, 1) := by decide +kernel
theorem dL_law_238 : decode cL_law 238 = .ok (.invokevirtual 23, 3) := by decide +kernel
theorem dL_law_241 : decode cL_law 241 = .ok (.aload_n 2, 1) := by decide +kernel
theorem dL_law_242 : decode cL_law 242 = .ok (.aload_n 0, 1) := by decide +kernel
theorem dL_law_243 : decode cL_law 243 = .ok (.iload_n 3, 1) := by decide +kernel
theorem dL_law_244 : decode cL_law 244 = .ok (.iconst 1, 1) := by decide +kernel
theorem dL_law_245 : decode cL_law 245 = .ok (.iadd, 1) := by decide +kernel
theorem dL_law_246 : decode cL_law 246 = .ok (.iaload, 1) := by decide +kernel
theorem dL_law_247 : decode cL_law 247 = .ok (.invokevirtual 26, 3) := by decide +kernel
theorem dL_law_250 : decode cL_law 250 = .ok (.if_icmp .eq 924, 3) := by decide +kernel
theorem dL_law_255 : decode cL_law 255 = .ok (.aload_n 1, 1) := by decide +kernel
theorem dL_law_256 : decode cL_law 256 = .ok (.aload_n 0, 1) := by decide +kernel
theorem dL_law_257 : decode cL_law 257 = .ok (.iload_n 3, 1) := by decide +kernel
theorem dL_law_258 : decode cL_law 258 = .ok (.iconst 1, 1) := by decide +kernel
theorem dL_law_259 : decode cL_law 259 = .ok (.iadd, 1) := by decide +kernel
theorem dL_law_260 : decode cL_law 260 = .ok (.iaload, 1) := by decide +kernel
theorem dL_law_261 : decode cL_law 261 = .ok (.invokevirtual 27, 3) := by decide +kernel
theorem dL_law_264 : decode cL_law 264 = .ok (.aload_n 2, 1) := by decide +kernel
theorem dL_law_265 : decode cL_law 265 = .ok (.aload_n 0, 1) := by decide +kernel
theorem dL_law_266 : decode cL_law 266 = .ok (.iload_n 3, 1) := by decide +kernel
theorem dL_law_267 : decode cL_law 267 = .ok (.iconst 1, 1) := by decide +kernel
theorem dL_law_268 : decode cL_law 268 = .ok (.iadd, 1) := by decide +kernel
theorem dL_law_269 : decode cL_law 269 = .ok (.iaload, 1) := by decide +kernel
theorem dL_law_270 : decode cL_law 270 = .ok (.invokevirtual 30, 3) := by decide +kernel
theorem dL_law_273 : decode cL_law 273 = .ok (.if_icmp .eq 901, 3) := by decide +kernel
theorem dL_law_278 : decode cL_law 278 = .ok (.aload_n 1, 1) := by decide +kernel
theorem dL_law_279 : decode cL_law 279 = .ok (.aload_n 0, 1) := by decide +kernel
theorem dL_law_280 : decode cL_law 280 = .ok (.iload_n 3, 1) := by decide +kernel
theorem dL_law_281 : decode cL_law 281 = .ok (.iconst 1, 1) := by decide +kernel
theorem dL_law_282 : decode cL_law 282 = .ok (.iadd, 1) := by decide +kernel
theorem dL_law_283 : decode cL_law 283 = .ok (.iaload, 1) := by decide +kernel
theorem dL_law_284 : decode cL_law 284 = .ok (.invokevirtual 31, 3) := by decide +kernel
theorem dL_law_287 : decode cL_law 287 = .ok (.aload_n 2, 1) := by decide +kernel
theorem dL_law_288 : decode cL_law 288 = .ok (.aload_n 0, 1) := by decide +kernel
theorem dL_law_289 : decode cL_law 289 = .ok (.iload_n 3, 1) := by decide +kernel
theorem dL_law_290 : decode cL_law 290 = .ok (.iconst 1, 1) := by decide +kernel
theorem dL_law_291 : decode cL_law 291 = .ok (.iadd, 1) := by decide +kernel
theorem dL_law_292 : decode cL_law 292 = .ok (.iaload, 1) := by decide +kernel
theorem dL_law_293 : decode cL_law 293 = .ok (.invokevirtual 34, 3) := by decide +kernel
theorem dL_law_296 : decode cL_law 296 = .ok (.if_icmp .eq 878, 3) := by decide +kernel
theorem dL_law_301 : decode cL_law 301 = .ok (.aload_n 1, 1) := by decide +kernel
theorem dL_law_302 : decode cL_law 302 = .ok (.aload_n 0, 1) := by decide +kernel
theorem dL_law_303 : decode cL_law 303 = .ok (.iload_n 3, 1) := by decide +kernel
theorem dL_law_304 : decode cL_law 304 = .ok (.iconst 1, 1) := by decide +kernel
theorem dL_law_305 : decode cL_law 305 = .ok (.iadd, 1) := by decide +kernel
theorem dL_law_306 : decode cL_law 306 = .ok (.iaload, 1) := by decide +kernel
theorem dL_law_307 : decode cL_law 307 = .ok (.aload_n 0, 1) := by decide +kernel
theorem dL_law_308 : decode cL_law 308 = .ok (.iload_n 3, 1) := by decide +kernel
theorem dL_law_309 : decode cL_law 309 = .ok (.iconst 2, 1) := by decide +kernel
theorem dL_law_310 : decode cL_law 310 = .ok (.iadd, 1) := by decide +kernel
theorem dL_law_311 : decode cL_law 311 = .ok (.iaload, 1) := by decide +kernel
theorem dL_law_312 : decode cL_law 312 = .ok (.invokevirtual 35, 3) := by decide +kernel
theorem dL_law_315 : decode cL_law 315 = .ok (.aload_n 2, 1) := by decide +kernel
theorem dL_law_316 : decode cL_law 316 = .ok (.aload_n 0, 1) := by decide +kernel
theorem dL_law_317 : decode cL_law 317 = .ok (.iload_n 3, 1) := by decide +kernel
theorem dL_law_318 : decode cL_law 318 = .ok (.iconst 1, 1) := by decide +kernel
theorem dL_law_319 : decode cL_law 319 = .ok (.iadd, 1) := by decide +kernel
theorem dL_law_320 : decode cL_law 320 = .ok (.iaload, 1) := by decide +kernel
theorem dL_law_321 : decode cL_law 321 = .ok (.aload_n 0, 1) := by decide +kernel
theorem dL_law_322 : decode cL_law 322 = .ok (.iload_n 3, 1) := by decide +kernel
theorem dL_law_323 : decode cL_law 323 = .ok (.iconst 2, 1) := by decide +kernel
theorem dL_law_324 : decode cL_law 324 = .ok (.iadd, 1) := by decide +kernel
theorem dL_law_325 : decode cL_law 325 = .ok (.iaload, 1) := by decide +kernel
theorem dL_law_326 : decode cL_law 326 = .ok (.invokevirtual 38, 3) := by decide +kernel
theorem dL_law_329 : decode cL_law 329 = .ok (.if_icmp .eq 845, 3) := by decide +kernel
theorem dL_law_334 : decode cL_law 334 = .ok (.aload_n 1, 1) := by decide +kernel
theorem dL_law_335 : decode cL_law 335 = .ok (.aload_n 0, 1) := by decide +kernel
theorem dL_law_336 : decode cL_law 336 = .ok (.iload_n 3, 1) := by decide +kernel
theorem dL_law_337 : decode cL_law 337 = .ok (.iconst 1, 1) := by decide +kernel
theorem dL_law_338 : decode cL_law 338 = .ok (.iadd, 1) := by decide +kernel
theorem dL_law_339 : decode cL_law 339 = .ok (.iaload, 1) := by decide +kernel
theorem dL_law_340 : decode cL_law 340 = .ok (.aload_n 0, 1) := by decide +kernel
theorem dL_law_341 : decode cL_law 341 = .ok (.iload_n 3, 1) := by decide +kernel
theorem dL_law_342 : decode cL_law 342 = .ok (.iconst 2, 1) := by decide +kernel
theorem dL_law_343 : decode cL_law 343 = .ok (.iadd, 1) := by decide +kernel
theorem dL_law_344 : decode cL_law 344 = .ok (.iaload, 1) := by decide +kernel
theorem dL_law_345 : decode cL_law 345 = .ok (.invokevirtual 39, 3) := by decide +kernel
theorem dL_law_348 : decode cL_law 348 = .ok (.aload_n 2, 1) := by decide +kernel
theorem dL_law_349 : decode cL_law 349 = .ok (.aload_n 0, 1) := by decide +kernel
theorem dL_law_350 : decode cL_law 350 = .ok (.iload_n 3, 1) := by decide +kernel
theorem dL_law_351 : decode cL_law 351 = .ok (.iconst 1, 1) := by decide +kernel
theorem dL_law_352 : decode cL_law 352 = .ok (.iadd, 1) := by decide +kernel
theorem dL_law_353 : decode cL_law 353 = .ok (.iaload, 1) := by decide +kernel
theorem dL_law_354 : decode cL_law 354 = .ok (.aload_n 0, 1) := by decide +kernel
theorem dL_law_355 : decode cL_law 355 = .ok (.iload_n 3, 1) := by decide +kernel
theorem dL_law_356 : decode cL_law 356 = .ok (.iconst 2, 1) := by decide +kernel
theorem dL_law_357 : decode cL_law 357 = .ok (.iadd, 1) := by decide +kernel
theorem dL_law_358 : decode cL_law 358 = .ok (.iaload, 1) := by decide +kernel
theorem dL_law_359 : decode cL_law 359 = .ok (.invokevirtual 42, 3) := by decide +kernel
theorem dL_law_362 : decode cL_law 362 = .ok (.if_icmp .eq 812, 3) := by decide +kernel
theorem dL_law_367 : decode cL_law 367 = .ok (.aload_n 1, 1) := by decide +kernel
theorem dL_law_368 : decode cL_law 368 = .ok (.aload_n 0, 1) := by decide +kernel
theorem dL_law_369 : decode cL_law 369 = .ok (.iload_n 3, 1) := by decide +kernel
theorem dL_law_370 : decode cL_law 370 = .ok (.iconst 1, 1) := by decide +kernel
theorem dL_law_371 : decode cL_law 371 = .ok (.iadd, 1) := by decide +kernel
theorem dL_law_372 : decode cL_law 372 = .ok (.iaload, 1) := by decide +kernel
theorem dL_law_373 : decode cL_law 373 = .ok (.aload_n 0, 1) := by decide +kernel
theorem dL_law_374 : decode cL_law 374 = .ok (.iload_n 3, 1) := by decide +kernel
theorem dL_law_375 : decode cL_law 375 = .ok (.iconst 2, 1) := by decide +kernel
theorem dL_law_376 : decode cL_law 376 = .ok (.iadd, 1) := by decide +kernel
theorem dL_law_377 : decode cL_law 377 = .ok (.iaload, 1) := by decide +kernel
theorem dL_law_378 : decode cL_law 378 = .ok (.aload_n 0, 1) := by decide +kernel
theorem dL_law_379 : decode cL_law 379 = .ok (.iload_n 3, 1) := by decide +kernel
theorem dL_law_380 : decode cL_law 380 = .ok (.iconst 3, 1) := by decide +kernel
theorem dL_law_381 : decode cL_law 381 = .ok (.iadd, 1) := by decide +kernel
theorem dL_law_382 : decode cL_law 382 = .ok (.iaload, 1) := by decide +kernel
theorem dL_law_383 : decode cL_law 383 = .ok (.aload_n 0, 1) := by decide +kernel
theorem dL_law_384 : decode cL_law 384 = .ok (.iload_n 3, 1) := by decide +kernel
theorem dL_law_385 : decode cL_law 385 = .ok (.iconst 4, 1) := by decide +kernel
theorem dL_law_386 : decode cL_law 386 = .ok (.iadd, 1) := by decide +kernel
theorem dL_law_387 : decode cL_law 387 = .ok (.iaload, 1) := by decide +kernel
theorem dL_law_388 : decode cL_law 388 = .ok (.invokevirtual 43, 3) := by decide +kernel
theorem dL_law_391 : decode cL_law 391 = .ok (.aload_n 2, 1) := by decide +kernel
theorem dL_law_392 : decode cL_law 392 = .ok (.aload_n 0, 1) := by decide +kernel
theorem dL_law_393 : decode cL_law 393 = .ok (.iload_n 3, 1) := by decide +kernel
theorem dL_law_394 : decode cL_law 394 = .ok (.iconst 1, 1) := by decide +kernel
theorem dL_law_395 : decode cL_law 395 = .ok (.iadd, 1) := by decide +kernel
theorem dL_law_396 : decode cL_law 396 = .ok (.iaload, 1) := by decide +kernel
theorem dL_law_397 : decode cL_law 397 = .ok (.aload_n 0, 1) := by decide +kernel
theorem dL_law_398 : decode cL_law 398 = .ok (.iload_n 3, 1) := by decide +kernel
theorem dL_law_399 : decode cL_law 399 = .ok (.iconst 2, 1) := by decide +kernel
theorem dL_law_400 : decode cL_law 400 = .ok (.iadd, 1) := by decide +kernel
theorem dL_law_401 : decode cL_law 401 = .ok (.iaload, 1) := by decide +kernel
theorem dL_law_402 : decode cL_law 402 = .ok (.aload_n 0, 1) := by decide +kernel
theorem dL_law_403 : decode cL_law 403 = .ok (.iload_n 3, 1) := by decide +kernel
theorem dL_law_404 : decode cL_law 404 = .ok (.iconst 3, 1) := by decide +kernel
theorem dL_law_405 : decode cL_law 405 = .ok (.iadd, 1) := by decide +kernel
theorem dL_law_406 : decode cL_law 406 = .ok (.iaload, 1) := by decide +kernel
theorem dL_law_407 : decode cL_law 407 = .ok (.aload_n 0, 1) := by decide +kernel
theorem dL_law_408 : decode cL_law 408 = .ok (.iload_n 3, 1) := by decide +kernel
theorem dL_law_409 : decode cL_law 409 = .ok (.iconst 4, 1) := by decide +kernel
theorem dL_law_410 : decode cL_law 410 = .ok (.iadd, 1) := by decide +kernel
theorem dL_law_411 : decode cL_law 411 = .ok (.iaload, 1) := by decide +kernel
theorem dL_law_412 : decode cL_law 412 = .ok (.invokevirtual 47, 3) := by decide +kernel
theorem dL_law_415 : decode cL_law 415 = .ok (.if_icmp .eq 759, 3) := by decide +kernel
theorem dL_law_420 : decode cL_law 420 = .ok (.aload_n 1, 1) := by decide +kernel
theorem dL_law_421 : decode cL_law 421 = .ok (.invokevirtual 48, 3) := by decide +kernel
theorem dL_law_424 : decode cL_law 424 = .ok (.aload_n 2, 1) := by decide +kernel
theorem dL_law_425 : decode cL_law 425 = .ok (.invokevirtual 52, 3) := by decide +kernel
theorem dL_law_428 : decode cL_law 428 = .ok (.if_icmp .eq 746, 3) := by decide +kernel
theorem dL_law_433 : decode cL_law 433 = .ok (.aload_n 1, 1) := by decide +kernel
theorem dL_law_434 : decode cL_law 434 = .ok (.aload_n 0, 1) := by decide +kernel
theorem dL_law_435 : decode cL_law 435 = .ok (.iload_n 3, 1) := by decide +kernel
theorem dL_law_436 : decode cL_law 436 = .ok (.iconst 1, 1) := by decide +kernel
theorem dL_law_437 : decode cL_law 437 = .ok (.iadd, 1) := by decide +kernel
theorem dL_law_438 : decode cL_law 438 = .ok (.iaload, 1) := by decide +kernel
theorem dL_law_439 : decode cL_law 439 = .ok (.invokevirtual 53, 3) := by decide +kernel
theorem dL_law_442 : decode cL_law 442 = .ok (.aload_n 2, 1) := by decide +kernel
theorem dL_law_443 : decode cL_law 443 = .ok (.aload_n 0, 1) := by decide +kernel
theorem dL_law_444 : decode cL_law 444 = .ok (.iload_n 3, 1) := by decide +kernel
theorem dL_law_445 : decode cL_law 445 = .ok (.iconst 1, 1) := by decide +kernel
theorem dL_law_446 : decode cL_law 446 = .ok (.iadd, 1) := by decide +kernel
theorem dL_law_447 : decode cL_law 447 = .ok (.iaload, 1) := by decide +kernel
theorem dL_law_448 : decode cL_law 448 = .ok (.invokevirtual 56, 3) := by decide +kernel
theorem dL_law_451 : decode cL_law 451 = .ok (.if_icmp .eq 723, 3) := by decide +kernel
theorem dL_law_456 : decode cL_law 456 = .ok (.aload_n 1, 1) := by decide +kernel
theorem dL_law_457 : decode cL_law 457 = .ok (.aload_n 0, 1) := by decide +kernel
theorem dL_law_458 : decode cL_law 458 = .ok (.iload_n 3, 1) := by decide +kernel
theorem dL_law_459 : decode cL_law 459 = .ok (.iconst 1, 1) := by decide +kernel
theorem dL_law_460 : decode cL_law 460 = .ok (.iadd, 1) := by decide +kernel
theorem dL_law_461 : decode cL_law 461 = .ok (.iaload, 1) := by decide +kernel
theorem dL_law_462 : decode cL_law 462 = .ok (.invokevirtual 57, 3) := by decide +kernel
theorem dL_law_465 : decode cL_law 465 = .ok (.aload_n 2, 1) := by decide +kernel
theorem dL_law_466 : decode cL_law 466 = .ok (.aload_n 0, 1) := by decide +kernel
theorem dL_law_467 : decode cL_law 467 = .ok (.iload_n 3, 1) := by decide +kernel
theorem dL_law_468 : decode cL_law 468 = .ok (.iconst 1, 1) := by decide +kernel
theorem dL_law_469 : decode cL_law 469 = .ok (.iadd, 1) := by decide +kernel
theorem dL_law_470 : decode cL_law 470 = .ok (.iaload, 1) := by decide +kernel
theorem dL_law_471 : decode cL_law 471 = .ok (.invokevirtual 60, 3) := by decide +kernel
theorem dL_law_474 : decode cL_law 474 = .ok (.if_icmp .eq 700, 3) := by decide +kernel
theorem dL_law_479 : decode cL_law 479 = .ok (.aload_n 1, 1) := by decide +kernel
theorem dL_law_480 : decode cL_law 480 = .ok (.aload_n 0, 1) := by decide +kernel
theorem dL_law_481 : decode cL_law 481 = .ok (.iload_n 3, 1) := by decide +kernel
theorem dL_law_482 : decode cL_law 482 = .ok (.iconst 1, 1) := by decide +kernel
theorem dL_law_483 : decode cL_law 483 = .ok (.iadd, 1) := by decide +kernel
theorem dL_law_484 : decode cL_law 484 = .ok (.iaload, 1) := by decide +kernel
theorem dL_law_485 : decode cL_law 485 = .ok (.aload_n 0, 1) := by decide +kernel
theorem dL_law_486 : decode cL_law 486 = .ok (.iload_n 3, 1) := by decide +kernel
theorem dL_law_487 : decode cL_law 487 = .ok (.iconst 2, 1) := by decide +kernel
theorem dL_law_488 : decode cL_law 488 = .ok (.iadd, 1) := by decide +kernel
theorem dL_law_489 : decode cL_law 489 = .ok (.iaload, 1) := by decide +kernel
theorem dL_law_490 : decode cL_law 490 = .ok (.invokevirtual 61, 3) := by decide +kernel
theorem dL_law_493 : decode cL_law 493 = .ok (.aload_n 2, 1) := by decide +kernel
theorem dL_law_494 : decode cL_law 494 = .ok (.aload_n 0, 1) := by decide +kernel
theorem dL_law_495 : decode cL_law 495 = .ok (.iload_n 3, 1) := by decide +kernel
theorem dL_law_496 : decode cL_law 496 = .ok (.iconst 1, 1) := by decide +kernel
theorem dL_law_497 : decode cL_law 497 = .ok (.iadd, 1) := by decide +kernel
theorem dL_law_498 : decode cL_law 498 = .ok (.iaload, 1) := by decide +kernel
theorem dL_law_499 : decode cL_law 499 = .ok (.aload_n 0, 1) := by decide +kernel
theorem dL_law_500 : decode cL_law 500 = .ok (.iload_n 3, 1) := by decide +kernel
theorem dL_law_501 : decode cL_law 501 = .ok (.iconst 2, 1) := by decide +kernel
theorem dL_law_502 : decode cL_law 502 = .ok (.iadd, 1) := by decide +kernel
theorem dL_law_503 : decode cL_law 503 = .ok (.iaload, 1) := by decide +kernel
theorem dL_law_504 : decode cL_law 504 = .ok (.invokevirtual 64, 3) := by decide +kernel
theorem dL_law_507 : decode cL_law 507 = .ok (.if_icmp .eq 667, 3) := by decide +kernel
theorem dL_law_512 : decode cL_law 512 = .ok (.aload_n 1, 1) := by decide +kernel
theorem dL_law_513 : decode cL_law 513 = .ok (.aload_n 0, 1) := by decide +kernel
theorem dL_law_514 : decode cL_law 514 = .ok (.iload_n 3, 1) := by decide +kernel
theorem dL_law_515 : decode cL_law 515 = .ok (.iconst 1, 1) := by decide +kernel
theorem dL_law_516 : decode cL_law 516 = .ok (.iadd, 1) := by decide +kernel
theorem dL_law_517 : decode cL_law 517 = .ok (.iaload, 1) := by decide +kernel
theorem dL_law_518 : decode cL_law 518 = .ok (.aload_n 0, 1) := by decide +kernel
theorem dL_law_519 : decode cL_law 519 = .ok (.iload_n 3, 1) := by decide +kernel
theorem dL_law_520 : decode cL_law 520 = .ok (.iconst 2, 1) := by decide +kernel
theorem dL_law_521 : decode cL_law 521 = .ok (.iadd, 1) := by decide +kernel
theorem dL_law_522 : decode cL_law 522 = .ok (.iaload, 1) := by decide +kernel
theorem dL_law_523 : decode cL_law 523 = .ok (.aload_n 0, 1) := by decide +kernel
theorem dL_law_524 : decode cL_law 524 = .ok (.iload_n 3, 1) := by decide +kernel
theorem dL_law_525 : decode cL_law 525 = .ok (.iconst 3, 1) := by decide +kernel
theorem dL_law_526 : decode cL_law 526 = .ok (.iadd, 1) := by decide +kernel
theorem dL_law_527 : decode cL_law 527 = .ok (.iaload, 1) := by decide +kernel
theorem dL_law_528 : decode cL_law 528 = .ok (.invokevirtual 65, 3) := by decide +kernel
theorem dL_law_531 : decode cL_law 531 = .ok (.aload_n 2, 1) := by decide +kernel
theorem dL_law_532 : decode cL_law 532 = .ok (.aload_n 0, 1) := by decide +kernel
theorem dL_law_533 : decode cL_law 533 = .ok (.iload_n 3, 1) := by decide +kernel
theorem dL_law_534 : decode cL_law 534 = .ok (.iconst 1, 1) := by decide +kernel
theorem dL_law_535 : decode cL_law 535 = .ok (.iadd, 1) := by decide +kernel
theorem dL_law_536 : decode cL_law 536 = .ok (.iaload, 1) := by decide +kernel
theorem dL_law_537 : decode cL_law 537 = .ok (.aload_n 0, 1) := by decide +kernel
theorem dL_law_538 : decode cL_law 538 = .ok (.iload_n 3, 1) := by decide +kernel
theorem dL_law_539 : decode cL_law 539 = .ok (.iconst 2, 1) := by decide +kernel
theorem dL_law_540 : decode cL_law 540 = .ok (.iadd, 1) := by decide +kernel
theorem dL_law_541 : decode cL_law 541 = .ok (.iaload, 1) := by decide +kernel
theorem dL_law_542 : decode cL_law 542 = .ok (.aload_n 0, 1) := by decide +kernel
theorem dL_law_543 : decode cL_law 543 = .ok (.iload_n 3, 1) := by decide +kernel
theorem dL_law_544 : decode cL_law 544 = .ok (.iconst 3, 1) := by decide +kernel
theorem dL_law_545 : decode cL_law 545 = .ok (.iadd, 1) := by decide +kernel
theorem dL_law_546 : decode cL_law 546 = .ok (.iaload, 1) := by decide +kernel
theorem dL_law_547 : decode cL_law 547 = .ok (.invokevirtual 69, 3) := by decide +kernel
theorem dL_law_550 : decode cL_law 550 = .ok (.if_icmp .eq 624, 3) := by decide +kernel
theorem dL_law_555 : decode cL_law 555 = .ok (.aload_n 1, 1) := by decide +kernel
theorem dL_law_556 : decode cL_law 556 = .ok (.invokevirtual 70, 3) := by decide +kernel
theorem dL_law_559 : decode cL_law 559 = .ok (.aload_n 2, 1) := by decide +kernel
theorem dL_law_560 : decode cL_law 560 = .ok (.invokevirtual 73, 3) := by decide +kernel
theorem dL_law_563 : decode cL_law 563 = .ok (.if_icmp .eq 611, 3) := by decide +kernel
theorem dL_law_568 : decode cL_law 568 = .ok (.aload_n 1, 1) := by decide +kernel
theorem dL_law_569 : decode cL_law 569 = .ok (.aload_n 0, 1) := by decide +kernel
theorem dL_law_570 : decode cL_law 570 = .ok (.iload_n 3, 1) := by decide +kernel
theorem dL_law_571 : decode cL_law 571 = .ok (.iconst 1, 1) := by decide +kernel
theorem dL_law_572 : decode cL_law 572 = .ok (.iadd, 1) := by decide +kernel
theorem dL_law_573 : decode cL_law 573 = .ok (.iaload, 1) := by decide +kernel
theorem dL_law_574 : decode cL_law 574 = .ok (.aload_n 0, 1) := by decide +kernel
theorem dL_law_575 : decode cL_law 575 = .ok (.iload_n 3, 1) := by decide +kernel
theorem dL_law_576 : decode cL_law 576 = .ok (.iconst 2, 1) := by decide +kernel
theorem dL_law_577 : decode cL_law 577 = .ok (.iadd, 1) := by decide +kernel
theorem dL_law_578 : decode cL_law 578 = .ok (.iaload, 1) := by decide +kernel
theorem dL_law_579 : decode cL_law 579 = .ok (.invokevirtual 74, 3) := by decide +kernel
theorem dL_law_582 : decode cL_law 582 = .ok (.aload_n 2, 1) := by decide +kernel
theorem dL_law_583 : decode cL_law 583 = .ok (.aload_n 0, 1) := by decide +kernel
theorem dL_law_584 : decode cL_law 584 = .ok (.iload_n 3, 1) := by decide +kernel
theorem dL_law_585 : decode cL_law 585 = .ok (.iconst 1, 1) := by decide +kernel
theorem dL_law_586 : decode cL_law 586 = .ok (.iadd, 1) := by decide +kernel
theorem dL_law_587 : decode cL_law 587 = .ok (.iaload, 1) := by decide +kernel
theorem dL_law_588 : decode cL_law 588 = .ok (.aload_n 0, 1) := by decide +kernel
theorem dL_law_589 : decode cL_law 589 = .ok (.iload_n 3, 1) := by decide +kernel
theorem dL_law_590 : decode cL_law 590 = .ok (.iconst 2, 1) := by decide +kernel
theorem dL_law_591 : decode cL_law 591 = .ok (.iadd, 1) := by decide +kernel
theorem dL_law_592 : decode cL_law 592 = .ok (.iaload, 1) := by decide +kernel
theorem dL_law_593 : decode cL_law 593 = .ok (.invokevirtual 77, 3) := by decide +kernel
theorem dL_law_596 : decode cL_law 596 = .ok (.if_icmp .eq 578, 3) := by decide +kernel
theorem dL_law_601 : decode cL_law 601 = .ok (.aload_n 1, 1) := by decide +kernel
theorem dL_law_602 : decode cL_law 602 = .ok (.aload_n 0, 1) := by decide +kernel
theorem dL_law_603 : decode cL_law 603 = .ok (.iload_n 3, 1) := by decide +kernel
theorem dL_law_604 : decode cL_law 604 = .ok (.iconst 1, 1) := by decide +kernel
theorem dL_law_605 : decode cL_law 605 = .ok (.iadd, 1) := by decide +kernel
theorem dL_law_606 : decode cL_law 606 = .ok (.iaload, 1) := by decide +kernel
theorem dL_law_607 : decode cL_law 607 = .ok (.aload_n 0, 1) := by decide +kernel
theorem dL_law_608 : decode cL_law 608 = .ok (.iload_n 3, 1) := by decide +kernel
theorem dL_law_609 : decode cL_law 609 = .ok (.iconst 2, 1) := by decide +kernel
theorem dL_law_610 : decode cL_law 610 = .ok (.iadd, 1) := by decide +kernel
theorem dL_law_611 : decode cL_law 611 = .ok (.iaload, 1) := by decide +kernel
theorem dL_law_612 : decode cL_law 612 = .ok (.invokevirtual 78, 3) := by decide +kernel
theorem dL_law_615 : decode cL_law 615 = .ok (.aload_n 2, 1) := by decide +kernel
theorem dL_law_616 : decode cL_law 616 = .ok (.aload_n 0, 1) := by decide +kernel
theorem dL_law_617 : decode cL_law 617 = .ok (.iload_n 3, 1) := by decide +kernel
theorem dL_law_618 : decode cL_law 618 = .ok (.iconst 1, 1) := by decide +kernel
theorem dL_law_619 : decode cL_law 619 = .ok (.iadd, 1) := by decide +kernel
theorem dL_law_620 : decode cL_law 620 = .ok (.iaload, 1) := by decide +kernel
theorem dL_law_621 : decode cL_law 621 = .ok (.aload_n 0, 1) := by decide +kernel
theorem dL_law_622 : decode cL_law 622 = .ok (.iload_n 3, 1) := by decide +kernel
theorem dL_law_623 : decode cL_law 623 = .ok (.iconst 2, 1) := by decide +kernel
theorem dL_law_624 : decode cL_law 624 = .ok (.iadd, 1) := by decide +kernel
theorem dL_law_625 : decode cL_law 625 = .ok (.iaload, 1) := by decide +kernel
theorem dL_law_626 : decode cL_law 626 = .ok (.invokevirtual 81, 3) := by decide +kernel
theorem dL_law_629 : decode cL_law 629 = .ok (.if_icmp .eq 545, 3) := by decide +kernel
theorem dL_law_634 : decode cL_law 634 = .ok (.aload_n 1, 1) := by decide +kernel
theorem dL_law_635 : decode cL_law 635 = .ok (.aload_n 0, 1) := by decide +kernel
theorem dL_law_636 : decode cL_law 636 = .ok (.iload_n 3, 1) := by decide +kernel
theorem dL_law_637 : decode cL_law 637 = .ok (.iconst 1, 1) := by decide +kernel
theorem dL_law_638 : decode cL_law 638 = .ok (.iadd, 1) := by decide +kernel
theorem dL_law_639 : decode cL_law 639 = .ok (.iaload, 1) := by decide +kernel
theorem dL_law_640 : decode cL_law 640 = .ok (.aload_n 0, 1) := by decide +kernel
theorem dL_law_641 : decode cL_law 641 = .ok (.iload_n 3, 1) := by decide +kernel
theorem dL_law_642 : decode cL_law 642 = .ok (.iconst 2, 1) := by decide +kernel
theorem dL_law_643 : decode cL_law 643 = .ok (.iadd, 1) := by decide +kernel
theorem dL_law_644 : decode cL_law 644 = .ok (.iaload, 1) := by decide +kernel
theorem dL_law_645 : decode cL_law 645 = .ok (.invokevirtual 82, 3) := by decide +kernel
theorem dL_law_648 : decode cL_law 648 = .ok (.aload_n 2, 1) := by decide +kernel
theorem dL_law_649 : decode cL_law 649 = .ok (.aload_n 0, 1) := by decide +kernel
theorem dL_law_650 : decode cL_law 650 = .ok (.iload_n 3, 1) := by decide +kernel
theorem dL_law_651 : decode cL_law 651 = .ok (.iconst 1, 1) := by decide +kernel
theorem dL_law_652 : decode cL_law 652 = .ok (.iadd, 1) := by decide +kernel
theorem dL_law_653 : decode cL_law 653 = .ok (.iaload, 1) := by decide +kernel
theorem dL_law_654 : decode cL_law 654 = .ok (.aload_n 0, 1) := by decide +kernel
theorem dL_law_655 : decode cL_law 655 = .ok (.iload_n 3, 1) := by decide +kernel
theorem dL_law_656 : decode cL_law 656 = .ok (.iconst 2, 1) := by decide +kernel
theorem dL_law_657 : decode cL_law 657 = .ok (.iadd, 1) := by decide +kernel
theorem dL_law_658 : decode cL_law 658 = .ok (.iaload, 1) := by decide +kernel
theorem dL_law_659 : decode cL_law 659 = .ok (.invokevirtual 85, 3) := by decide +kernel
theorem dL_law_662 : decode cL_law 662 = .ok (.if_icmp .eq 512, 3) := by decide +kernel
theorem dL_law_667 : decode cL_law 667 = .ok (.aload_n 1, 1) := by decide +kernel
theorem dL_law_668 : decode cL_law 668 = .ok (.aload_n 0, 1) := by decide +kernel
theorem dL_law_669 : decode cL_law 669 = .ok (.iload_n 3, 1) := by decide +kernel
theorem dL_law_670 : decode cL_law 670 = .ok (.iconst 1, 1) := by decide +kernel
theorem dL_law_671 : decode cL_law 671 = .ok (.iadd, 1) := by decide +kernel
theorem dL_law_672 : decode cL_law 672 = .ok (.iaload, 1) := by decide +kernel
theorem dL_law_673 : decode cL_law 673 = .ok (.aload_n 0, 1) := by decide +kernel
theorem dL_law_674 : decode cL_law 674 = .ok (.iload_n 3, 1) := by decide +kernel
theorem dL_law_675 : decode cL_law 675 = .ok (.iconst 2, 1) := by decide +kernel
theorem dL_law_676 : decode cL_law 676 = .ok (.iadd, 1) := by decide +kernel
theorem dL_law_677 : decode cL_law 677 = .ok (.iaload, 1) := by decide +kernel
theorem dL_law_678 : decode cL_law 678 = .ok (.invokevirtual 86, 3) := by decide +kernel
theorem dL_law_681 : decode cL_law 681 = .ok (.aload_n 2, 1) := by decide +kernel
theorem dL_law_682 : decode cL_law 682 = .ok (.aload_n 0, 1) := by decide +kernel
theorem dL_law_683 : decode cL_law 683 = .ok (.iload_n 3, 1) := by decide +kernel
theorem dL_law_684 : decode cL_law 684 = .ok (.iconst 1, 1) := by decide +kernel
theorem dL_law_685 : decode cL_law 685 = .ok (.iadd, 1) := by decide +kernel
theorem dL_law_686 : decode cL_law 686 = .ok (.iaload, 1) := by decide +kernel
theorem dL_law_687 : decode cL_law 687 = .ok (.aload_n 0, 1) := by decide +kernel
theorem dL_law_688 : decode cL_law 688 = .ok (.iload_n 3, 1) := by decide +kernel
theorem dL_law_689 : decode cL_law 689 = .ok (.iconst 2, 1) := by decide +kernel
theorem dL_law_690 : decode cL_law 690 = .ok (.iadd, 1) := by decide +kernel
theorem dL_law_691 : decode cL_law 691 = .ok (.iaload, 1) := by decide +kernel
theorem dL_law_692 : decode cL_law 692 = .ok (.invokevirtual 89, 3) := by decide +kernel
theorem dL_law_695 : decode cL_law 695 = .ok (.if_icmp .eq 479, 3) := by decide +kernel
theorem dL_law_700 : decode cL_law 700 = .ok (.aload_n 1, 1) := by decide +kernel
theorem dL_law_701 : decode cL_law 701 = .ok (.invokevirtual 90, 3) := by decide +kernel
theorem dL_law_704 : decode cL_law 704 = .ok (.aload_n 2, 1) := by decide +kernel
theorem dL_law_705 : decode cL_law 705 = .ok (.invokevirtual 93, 3) := by decide +kernel
theorem dL_law_708 : decode cL_law 708 = .ok (.if_icmp .eq 466, 3) := by decide +kernel
theorem dL_law_713 : decode cL_law 713 = .ok (.aload_n 1, 1) := by decide +kernel
theorem dL_law_714 : decode cL_law 714 = .ok (.aload_n 0, 1) := by decide +kernel
theorem dL_law_715 : decode cL_law 715 = .ok (.iload_n 3, 1) := by decide +kernel
theorem dL_law_716 : decode cL_law 716 = .ok (.iconst 1, 1) := by decide +kernel
theorem dL_law_717 : decode cL_law 717 = .ok (.iadd, 1) := by decide +kernel
theorem dL_law_718 : decode cL_law 718 = .ok (.iaload, 1) := by decide +kernel
theorem dL_law_719 : decode cL_law 719 = .ok (.invokevirtual 94, 3) := by decide +kernel
theorem dL_law_722 : decode cL_law 722 = .ok (.aload_n 2, 1) := by decide +kernel
theorem dL_law_723 : decode cL_law 723 = .ok (.aload_n 0, 1) := by decide +kernel
theorem dL_law_724 : decode cL_law 724 = .ok (.iload_n 3, 1) := by decide +kernel
theorem dL_law_725 : decode cL_law 725 = .ok (.iconst 1, 1) := by decide +kernel
theorem dL_law_726 : decode cL_law 726 = .ok (.iadd, 1) := by decide +kernel
theorem dL_law_727 : decode cL_law 727 = .ok (.iaload, 1) := by decide +kernel
theorem dL_law_728 : decode cL_law 728 = .ok (.invokevirtual 97, 3) := by decide +kernel
theorem dL_law_731 : decode cL_law 731 = .ok (.if_icmp .eq 443, 3) := by decide +kernel
theorem dL_law_736 : decode cL_law 736 = .ok (.aload_n 1, 1) := by decide +kernel
theorem dL_law_737 : decode cL_law 737 = .ok (.aload_n 0, 1) := by decide +kernel
theorem dL_law_738 : decode cL_law 738 = .ok (.iload_n 3, 1) := by decide +kernel
theorem dL_law_739 : decode cL_law 739 = .ok (.iconst 1, 1) := by decide +kernel
theorem dL_law_740 : decode cL_law 740 = .ok (.iadd, 1) := by decide +kernel
theorem dL_law_741 : decode cL_law 741 = .ok (.iaload, 1) := by decide +kernel
theorem dL_law_742 : decode cL_law 742 = .ok (.invokevirtual 98, 3) := by decide +kernel
theorem dL_law_745 : decode cL_law 745 = .ok (.aload_n 2, 1) := by decide +kernel
theorem dL_law_746 : decode cL_law 746 = .ok (.aload_n 0, 1) := by decide +kernel
theorem dL_law_747 : decode cL_law 747 = .ok (.iload_n 3, 1) := by decide +kernel
theorem dL_law_748 : decode cL_law 748 = .ok (.iconst 1, 1) := by decide +kernel
theorem dL_law_749 : decode cL_law 749 = .ok (.iadd, 1) := by decide +kernel
theorem dL_law_750 : decode cL_law 750 = .ok (.iaload, 1) := by decide +kernel
theorem dL_law_751 : decode cL_law 751 = .ok (.invokevirtual 101, 3) := by decide +kernel
theorem dL_law_754 : decode cL_law 754 = .ok (.if_icmp .eq 420, 3) := by decide +kernel
theorem dL_law_759 : decode cL_law 759 = .ok (.aload_n 1, 1) := by decide +kernel
theorem dL_law_760 : decode cL_law 760 = .ok (.aload_n 0, 1) := by decide +kernel
theorem dL_law_761 : decode cL_law 761 = .ok (.iload_n 3, 1) := by decide +kernel
theorem dL_law_762 : decode cL_law 762 = .ok (.iconst 1, 1) := by decide +kernel
theorem dL_law_763 : decode cL_law 763 = .ok (.iadd, 1) := by decide +kernel
theorem dL_law_764 : decode cL_law 764 = .ok (.iaload, 1) := by decide +kernel
theorem dL_law_765 : decode cL_law 765 = .ok (.invokevirtual 102, 3) := by decide +kernel
theorem dL_law_768 : decode cL_law 768 = .ok (.aload_n 2, 1) := by decide +kernel
theorem dL_law_769 : decode cL_law 769 = .ok (.aload_n 0, 1) := by decide +kernel
theorem dL_law_770 : decode cL_law 770 = .ok (.iload_n 3, 1) := by decide +kernel
theorem dL_law_771 : decode cL_law 771 = .ok (.iconst 1, 1) := by decide +kernel
theorem dL_law_772 : decode cL_law 772 = .ok (.iadd, 1) := by decide +kernel
theorem dL_law_773 : decode cL_law 773 = .ok (.iaload, 1) := by decide +kernel
theorem dL_law_774 : decode cL_law 774 = .ok (.invokevirtual 105, 3) := by decide +kernel
theorem dL_law_777 : decode cL_law 777 = .ok (.if_icmp .eq 397, 3) := by decide +kernel
theorem dL_law_782 : decode cL_law 782 = .ok (.aload_n 1, 1) := by decide +kernel
theorem dL_law_783 : decode cL_law 783 = .ok (.aload_n 0, 1) := by decide +kernel
theorem dL_law_784 : decode cL_law 784 = .ok (.iload_n 3, 1) := by decide +kernel
theorem dL_law_785 : decode cL_law 785 = .ok (.iconst 1, 1) := by decide +kernel
theorem dL_law_786 : decode cL_law 786 = .ok (.iadd, 1) := by decide +kernel
theorem dL_law_787 : decode cL_law 787 = .ok (.iaload, 1) := by decide +kernel
theorem dL_law_788 : decode cL_law 788 = .ok (.aload_n 0, 1) := by decide +kernel
theorem dL_law_789 : decode cL_law 789 = .ok (.iload_n 3, 1) := by decide +kernel
theorem dL_law_790 : decode cL_law 790 = .ok (.iconst 2, 1) := by decide +kernel
theorem dL_law_791 : decode cL_law 791 = .ok (.iadd, 1) := by decide +kernel
theorem dL_law_792 : decode cL_law 792 = .ok (.iaload, 1) := by decide +kernel
theorem dL_law_793 : decode cL_law 793 = .ok (.aload_n 0, 1) := by decide +kernel
theorem dL_law_794 : decode cL_law 794 = .ok (.iload_n 3, 1) := by decide +kernel
theorem dL_law_795 : decode cL_law 795 = .ok (.iconst 3, 1) := by decide +kernel
theorem dL_law_796 : decode cL_law 796 = .ok (.iadd, 1) := by decide +kernel
theorem dL_law_797 : decode cL_law 797 = .ok (.iaload, 1) := by decide +kernel
theorem dL_law_798 : decode cL_law 798 = .ok (.invokevirtual 106, 3) := by decide +kernel
theorem dL_law_801 : decode cL_law 801 = .ok (.aload_n 2, 1) := by decide +kernel
theorem dL_law_802 : decode cL_law 802 = .ok (.aload_n 0, 1) := by decide +kernel
theorem dL_law_803 : decode cL_law 803 = .ok (.iload_n 3, 1) := by decide +kernel
theorem dL_law_804 : decode cL_law 804 = .ok (.iconst 1, 1) := by decide +kernel
theorem dL_law_805 : decode cL_law 805 = .ok (.iadd, 1) := by decide +kernel
theorem dL_law_806 : decode cL_law 806 = .ok (.iaload, 1) := by decide +kernel
theorem dL_law_807 : decode cL_law 807 = .ok (.aload_n 0, 1) := by decide +kernel
theorem dL_law_808 : decode cL_law 808 = .ok (.iload_n 3, 1) := by decide +kernel
theorem dL_law_809 : decode cL_law 809 = .ok (.iconst 2, 1) := by decide +kernel
theorem dL_law_810 : decode cL_law 810 = .ok (.iadd, 1) := by decide +kernel
theorem dL_law_811 : decode cL_law 811 = .ok (.iaload, 1) := by decide +kernel
theorem dL_law_812 : decode cL_law 812 = .ok (.aload_n 0, 1) := by decide +kernel
theorem dL_law_813 : decode cL_law 813 = .ok (.iload_n 3, 1) := by decide +kernel
theorem dL_law_814 : decode cL_law 814 = .ok (.iconst 3, 1) := by decide +kernel
theorem dL_law_815 : decode cL_law 815 = .ok (.iadd, 1) := by decide +kernel
theorem dL_law_816 : decode cL_law 816 = .ok (.iaload, 1) := by decide +kernel
theorem dL_law_817 : decode cL_law 817 = .ok (.invokevirtual 110, 3) := by decide +kernel
theorem dL_law_820 : decode cL_law 820 = .ok (.lcmp, 1) := by decide +kernel
theorem dL_law_821 : decode cL_law 821 = .ok (.ifCond .eq 353, 3) := by decide +kernel
theorem dL_law_826 : decode cL_law 826 = .ok (.aload_n 1, 1) := by decide +kernel
theorem dL_law_827 : decode cL_law 827 = .ok (.aload_n 0, 1) := by decide +kernel
theorem dL_law_828 : decode cL_law 828 = .ok (.iload_n 3, 1) := by decide +kernel
theorem dL_law_829 : decode cL_law 829 = .ok (.iconst 1, 1) := by decide +kernel
theorem dL_law_830 : decode cL_law 830 = .ok (.iadd, 1) := by decide +kernel
theorem dL_law_831 : decode cL_law 831 = .ok (.iaload, 1) := by decide +kernel
theorem dL_law_832 : decode cL_law 832 = .ok (.aload_n 0, 1) := by decide +kernel
theorem dL_law_833 : decode cL_law 833 = .ok (.iload_n 3, 1) := by decide +kernel
theorem dL_law_834 : decode cL_law 834 = .ok (.iconst 2, 1) := by decide +kernel
theorem dL_law_835 : decode cL_law 835 = .ok (.iadd, 1) := by decide +kernel
theorem dL_law_836 : decode cL_law 836 = .ok (.iaload, 1) := by decide +kernel
theorem dL_law_837 : decode cL_law 837 = .ok (.aload_n 0, 1) := by decide +kernel
theorem dL_law_838 : decode cL_law 838 = .ok (.iload_n 3, 1) := by decide +kernel
theorem dL_law_839 : decode cL_law 839 = .ok (.iconst 3, 1) := by decide +kernel
theorem dL_law_840 : decode cL_law 840 = .ok (.iadd, 1) := by decide +kernel
theorem dL_law_841 : decode cL_law 841 = .ok (.iaload, 1) := by decide +kernel
theorem dL_law_842 : decode cL_law 842 = .ok (.invokevirtual 111, 3) := by decide +kernel
theorem dL_law_845 : decode cL_law 845 = .ok (.aload_n 2, 1) := by decide +kernel
theorem dL_law_846 : decode cL_law 846 = .ok (.aload_n 0, 1) := by decide +kernel
theorem dL_law_847 : decode cL_law 847 = .ok (.iload_n 3, 1) := by decide +kernel
theorem dL_law_848 : decode cL_law 848 = .ok (.iconst 1, 1) := by decide +kernel
theorem dL_law_849 : decode cL_law 849 = .ok (.iadd, 1) := by decide +kernel
theorem dL_law_850 : decode cL_law 850 = .ok (.iaload, 1) := by decide +kernel
theorem dL_law_851 : decode cL_law 851 = .ok (.aload_n 0, 1) := by decide +kernel
theorem dL_law_852 : decode cL_law 852 = .ok (.iload_n 3, 1) := by decide +kernel
theorem dL_law_853 : decode cL_law 853 = .ok (.iconst 2, 1) := by decide +kernel
theorem dL_law_854 : decode cL_law 854 = .ok (.iadd, 1) := by decide +kernel
theorem dL_law_855 : decode cL_law 855 = .ok (.iaload, 1) := by decide +kernel
theorem dL_law_856 : decode cL_law 856 = .ok (.aload_n 0, 1) := by decide +kernel
theorem dL_law_857 : decode cL_law 857 = .ok (.iload_n 3, 1) := by decide +kernel
theorem dL_law_858 : decode cL_law 858 = .ok (.iconst 3, 1) := by decide +kernel
theorem dL_law_859 : decode cL_law 859 = .ok (.iadd, 1) := by decide +kernel
theorem dL_law_860 : decode cL_law 860 = .ok (.iaload, 1) := by decide +kernel
theorem dL_law_861 : decode cL_law 861 = .ok (.invokevirtual 114, 3) := by decide +kernel
theorem dL_law_864 : decode cL_law 864 = .ok (.if_icmp .eq 310, 3) := by decide +kernel
theorem dL_law_869 : decode cL_law 869 = .ok (.aload_n 1, 1) := by decide +kernel
theorem dL_law_870 : decode cL_law 870 = .ok (.aload_n 0, 1) := by decide +kernel
theorem dL_law_871 : decode cL_law 871 = .ok (.iload_n 3, 1) := by decide +kernel
theorem dL_law_872 : decode cL_law 872 = .ok (.iconst 1, 1) := by decide +kernel
end
section
theorem dL_law_873 : decode cL_law 873 = .ok (.iadd, 1) := by decide +kernel
theorem dL_law_874 : decode cL_law 874 = .ok (.iaload, 1) := by decide +kernel
theorem dL_law_875 : decode cL_law 875 = .ok (.aload_n 0, 1) := by decide +kernel
theorem dL_law_876 : decode cL_law 876 = .ok (.iload_n 3, 1) := by decide +kernel
theorem dL_law_877 : decode cL_law 877 = .ok (.iconst 2, 1) := by decide +kernel
theorem dL_law_878 : decode cL_law 878 = .ok (.iadd, 1) := by decide +kernel
theorem dL_law_879 : decode cL_law 879 = .ok (.iaload, 1) := by decide +kernel
theorem dL_law_880 : decode cL_law 880 = .ok (.aload_n 0, 1) := by decide +kernel
theorem dL_law_881 : decode cL_law 881 = .ok (.iload_n 3, 1) := by decide +kernel
theorem dL_law_882 : decode cL_law 882 = .ok (.iconst 3, 1) := by decide +kernel
theorem dL_law_883 : decode cL_law 883 = .ok (.iadd, 1) := by decide +kernel
theorem dL_law_884 : decode cL_law 884 = .ok (.iaload, 1) := by decide +kernel
theorem dL_law_885 : decode cL_law 885 = .ok (.invokevirtual 115, 3) := by decide +kernel
theorem dL_law_888 : decode cL_law 888 = .ok (.aload_n 2, 1) := by decide +kernel
theorem dL_law_889 : decode cL_law 889 = .ok (.aload_n 0, 1) := by decide +kernel
theorem dL_law_890 : decode cL_law 890 = .ok (.iload_n 3, 1) := by decide +kernel
theorem dL_law_891 : decode cL_law 891 = .ok (.iconst 1, 1) := by decide +kernel
theorem dL_law_892 : decode cL_law 892 = .ok (.iadd, 1) := by decide +kernel
theorem dL_law_893 : decode cL_law 893 = .ok (.iaload, 1) := by decide +kernel
theorem dL_law_894 : decode cL_law 894 = .ok (.aload_n 0, 1) := by decide +kernel
theorem dL_law_895 : decode cL_law 895 = .ok (.iload_n 3, 1) := by decide +kernel
theorem dL_law_896 : decode cL_law 896 = .ok (.iconst 2, 1) := by decide +kernel
theorem dL_law_897 : decode cL_law 897 = .ok (.iadd, 1) := by decide +kernel
theorem dL_law_898 : decode cL_law 898 = .ok (.iaload, 1) := by decide +kernel
theorem dL_law_899 : decode cL_law 899 = .ok (.aload_n 0, 1) := by decide +kernel
theorem dL_law_900 : decode cL_law 900 = .ok (.iload_n 3, 1) := by decide +kernel
theorem dL_law_901 : decode cL_law 901 = .ok (.iconst 3, 1) := by decide +kernel
theorem dL_law_902 : decode cL_law 902 = .ok (.iadd, 1) := by decide +kernel
theorem dL_law_903 : decode cL_law 903 = .ok (.iaload, 1) := by decide +kernel
theorem dL_law_904 : decode cL_law 904 = .ok (.invokevirtual 118, 3) := by decide +kernel
theorem dL_law_907 : decode cL_law 907 = .ok (.if_icmp .eq 267, 3) := by decide +kernel
theorem dL_law_912 : decode cL_law 912 = .ok (.aload_n 1, 1) := by decide +kernel
theorem dL_law_913 : decode cL_law 913 = .ok (.aload_n 0, 1) := by decide +kernel
theorem dL_law_914 : decode cL_law 914 = .ok (.iload_n 3, 1) := by decide +kernel
theorem dL_law_915 : decode cL_law 915 = .ok (.iconst 1, 1) := by decide +kernel
theorem dL_law_916 : decode cL_law 916 = .ok (.iadd, 1) := by decide +kernel
theorem dL_law_917 : decode cL_law 917 = .ok (.iaload, 1) := by decide +kernel
theorem dL_law_918 : decode cL_law 918 = .ok (.invokevirtual 119, 3) := by decide +kernel
theorem dL_law_921 : decode cL_law 921 = .ok (.aload_n 2, 1) := by decide +kernel
theorem dL_law_922 : decode cL_law 922 = .ok (.aload_n 0, 1) := by decide +kernel
theorem dL_law_923 : decode cL_law 923 = .ok (.iload_n 3, 1) := by decide +kernel
theorem dL_law_924 : decode cL_law 924 = .ok (.iconst 1, 1) := by decide +kernel
theorem dL_law_925 : decode cL_law 925 = .ok (.iadd, 1) := by decide +kernel
theorem dL_law_926 : decode cL_law 926 = .ok (.iaload, 1) := by decide +kernel
theorem dL_law_927 : decode cL_law 927 = .ok (.invokevirtual 122, 3) := by decide +kernel
theorem dL_law_930 : decode cL_law 930 = .ok (.if_icmp .eq 244, 3) := by decide +kernel
theorem dL_law_935 : decode cL_law 935 = .ok (.aload_n 1, 1) := by decide +kernel
theorem dL_law_936 : decode cL_law 936 = .ok (.aload_n 0, 1) := by decide +kernel
theorem dL_law_937 : decode cL_law 937 = .ok (.iload_n 3, 1) := by decide +kernel
theorem dL_law_938 : decode cL_law 938 = .ok (.iconst 1, 1) := by decide +kernel
theorem dL_law_939 : decode cL_law 939 = .ok (.iadd, 1) := by decide +kernel
theorem dL_law_940 : decode cL_law 940 = .ok (.iaload, 1) := by decide +kernel
theorem dL_law_941 : decode cL_law 941 = .ok (.aload_n 0, 1) := by decide +kernel
theorem dL_law_942 : decode cL_law 942 = .ok (.iload_n 3, 1) := by decide +kernel
theorem dL_law_943 : decode cL_law 943 = .ok (.iconst 2, 1) := by decide +kernel
theorem dL_law_944 : decode cL_law 944 = .ok (.iadd, 1) := by decide +kernel
theorem dL_law_945 : decode cL_law 945 = .ok (.iaload, 1) := by decide +kernel
theorem dL_law_946 : decode cL_law 946 = .ok (.aload_n 0, 1) := by decide +kernel
theorem dL_law_947 : decode cL_law 947 = .ok (.iload_n 3, 1) := by decide +kernel
theorem dL_law_948 : decode cL_law 948 = .ok (.iconst 3, 1) := by decide +kernel
theorem dL_law_949 : decode cL_law 949 = .ok (.iadd, 1) := by decide +kernel
theorem dL_law_950 : decode cL_law 950 = .ok (.iaload, 1) := by decide +kernel
theorem dL_law_951 : decode cL_law 951 = .ok (.aload_n 0, 1) := by decide +kernel
theorem dL_law_952 : decode cL_law 952 = .ok (.iload_n 3, 1) := by decide +kernel
theorem dL_law_953 : decode cL_law 953 = .ok (.iconst 4, 1) := by decide +kernel
theorem dL_law_954 : decode cL_law 954 = .ok (.iadd, 1) := by decide +kernel
theorem dL_law_955 : decode cL_law 955 = .ok (.iaload, 1) := by decide +kernel
theorem dL_law_956 : decode cL_law 956 = .ok (.invokevirtual 123, 3) := by decide +kernel
theorem dL_law_959 : decode cL_law 959 = .ok (.aload_n 2, 1) := by decide +kernel
theorem dL_law_960 : decode cL_law 960 = .ok (.aload_n 0, 1) := by decide +kernel
theorem dL_law_961 : decode cL_law 961 = .ok (.iload_n 3, 1) := by decide +kernel
theorem dL_law_962 : decode cL_law 962 = .ok (.iconst 1, 1) := by decide +kernel
theorem dL_law_963 : decode cL_law 963 = .ok (.iadd, 1) := by decide +kernel
theorem dL_law_964 : decode cL_law 964 = .ok (.iaload, 1) := by decide +kernel
theorem dL_law_965 : decode cL_law 965 = .ok (.aload_n 0, 1) := by decide +kernel
theorem dL_law_966 : decode cL_law 966 = .ok (.iload_n 3, 1) := by decide +kernel
theorem dL_law_967 : decode cL_law 967 = .ok (.iconst 2, 1) := by decide +kernel
theorem dL_law_968 : decode cL_law 968 = .ok (.iadd, 1) := by decide +kernel
theorem dL_law_969 : decode cL_law 969 = .ok (.iaload, 1) := by decide +kernel
theorem dL_law_970 : decode cL_law 970 = .ok (.aload_n 0, 1) := by decide +kernel
theorem dL_law_971 : decode cL_law 971 = .ok (.iload_n 3, 1) := by decide +kernel
theorem dL_law_972 : decode cL_law 972 = .ok (.iconst 3, 1) := by decide +kernel
theorem dL_law_973 : decode cL_law 973 = .ok (.iadd, 1) := by decide +kernel
theorem dL_law_974 : decode cL_law 974 = .ok (.iaload, 1) := by decide +kernel
theorem dL_law_975 : decode cL_law 975 = .ok (.aload_n 0, 1) := by decide +kernel
theorem dL_law_976 : decode cL_law 976 = .ok (.iload_n 3, 1) := by decide +kernel
theorem dL_law_977 : decode cL_law 977 = .ok (.iconst 4, 1) := by decide +kernel
theorem dL_law_978 : decode cL_law 978 = .ok (.iadd, 1) := by decide +kernel
theorem dL_law_979 : decode cL_law 979 = .ok (.iaload, 1) := by decide +kernel
theorem dL_law_980 : decode cL_law 980 = .ok (.invokevirtual 126, 3) := by decide +kernel
theorem dL_law_983 : decode cL_law 983 = .ok (.if_icmp .eq 191, 3) := by decide +kernel
theorem dL_law_988 : decode cL_law 988 = .ok (.aload_n 1, 1) := by decide +kernel
theorem dL_law_989 : decode cL_law 989 = .ok (.aload_n 0, 1) := by decide +kernel
theorem dL_law_990 : decode cL_law 990 = .ok (.iload_n 3, 1) := by decide +kernel
theorem dL_law_991 : decode cL_law 991 = .ok (.iconst 1, 1) := by decide +kernel
theorem dL_law_992 : decode cL_law 992 = .ok (.iadd, 1) := by decide +kernel
theorem dL_law_993 : decode cL_law 993 = .ok (.iaload, 1) := by decide +kernel
theorem dL_law_994 : decode cL_law 994 = .ok (.aload_n 0, 1) := by decide +kernel
theorem dL_law_995 : decode cL_law 995 = .ok (.iload_n 3, 1) := by decide +kernel
theorem dL_law_996 : decode cL_law 996 = .ok (.iconst 2, 1) := by decide +kernel
theorem dL_law_997 : decode cL_law 997 = .ok (.iadd, 1) := by decide +kernel
theorem dL_law_998 : decode cL_law 998 = .ok (.iaload, 1) := by decide +kernel
theorem dL_law_999 : decode cL_law 999 = .ok (.aload_n 0, 1) := by decide +kernel
theorem dL_law_1000 : decode cL_law 1000 = .ok (.iload_n 3, 1) := by decide +kernel
theorem dL_law_1001 : decode cL_law 1001 = .ok (.iconst 3, 1) := by decide +kernel
theorem dL_law_1002 : decode cL_law 1002 = .ok (.iadd, 1) := by decide +kernel
theorem dL_law_1003 : decode cL_law 1003 = .ok (.iaload, 1) := by decide +kernel
theorem dL_law_1004 : decode cL_law 1004 = .ok (.invokevirtual 127, 3) := by decide +kernel
theorem dL_law_1007 : decode cL_law 1007 = .ok (.aload_n 2, 1) := by decide +kernel
theorem dL_law_1008 : decode cL_law 1008 = .ok (.aload_n 0, 1) := by decide +kernel
theorem dL_law_1009 : decode cL_law 1009 = .ok (.iload_n 3, 1) := by decide +kernel
theorem dL_law_1010 : decode cL_law 1010 = .ok (.iconst 1, 1) := by decide +kernel
theorem dL_law_1011 : decode cL_law 1011 = .ok (.iadd, 1) := by decide +kernel
theorem dL_law_1012 : decode cL_law 1012 = .ok (.iaload, 1) := by decide +kernel
theorem dL_law_1013 : decode cL_law 1013 = .ok (.aload_n 0, 1) := by decide +kernel
theorem dL_law_1014 : decode cL_law 1014 = .ok (.iload_n 3, 1) := by decide +kernel
theorem dL_law_1015 : decode cL_law 1015 = .ok (.iconst 2, 1) := by decide +kernel
theorem dL_law_1016 : decode cL_law 1016 = .ok (.iadd, 1) := by decide +kernel
theorem dL_law_1017 : decode cL_law 1017 = .ok (.iaload, 1) := by decide +kernel
theorem dL_law_1018 : decode cL_law 1018 = .ok (.aload_n 0, 1) := by decide +kernel
theorem dL_law_1019 : decode cL_law 1019 = .ok (.iload_n 3, 1) := by decide +kernel
theorem dL_law_1020 : decode cL_law 1020 = .ok (.iconst 3, 1) := by decide +kernel
theorem dL_law_1021 : decode cL_law 1021 = .ok (.iadd, 1) := by decide +kernel
theorem dL_law_1022 : decode cL_law 1022 = .ok (.iaload, 1) := by decide +kernel
theorem dL_law_1023 : decode cL_law 1023 = .ok (.invokevirtual 130, 3) := by decide +kernel
theorem dL_law_1026 : decode cL_law 1026 = .ok (.if_icmp .eq 148, 3) := by decide +kernel
theorem dL_law_1031 : decode cL_law 1031 = .ok (.aload_n 1, 1) := by decide +kernel
theorem dL_law_1032 : decode cL_law 1032 = .ok (.aload_n 0, 1) := by decide +kernel
theorem dL_law_1033 : decode cL_law 1033 = .ok (.iload_n 3, 1) := by decide +kernel
theorem dL_law_1034 : decode cL_law 1034 = .ok (.iconst 1, 1) := by decide +kernel
theorem dL_law_1035 : decode cL_law 1035 = .ok (.iadd, 1) := by decide +kernel
theorem dL_law_1036 : decode cL_law 1036 = .ok (.iaload, 1) := by decide +kernel
theorem dL_law_1037 : decode cL_law 1037 = .ok (.aload_n 0, 1) := by decide +kernel
theorem dL_law_1038 : decode cL_law 1038 = .ok (.iload_n 3, 1) := by decide +kernel
theorem dL_law_1039 : decode cL_law 1039 = .ok (.iconst 2, 1) := by decide +kernel
theorem dL_law_1040 : decode cL_law 1040 = .ok (.iadd, 1) := by decide +kernel
theorem dL_law_1041 : decode cL_law 1041 = .ok (.iaload, 1) := by decide +kernel
theorem dL_law_1042 : decode cL_law 1042 = .ok (.aload_n 0, 1) := by decide +kernel
theorem dL_law_1043 : decode cL_law 1043 = .ok (.iload_n 3, 1) := by decide +kernel
theorem dL_law_1044 : decode cL_law 1044 = .ok (.iconst 3, 1) := by decide +kernel
theorem dL_law_1045 : decode cL_law 1045 = .ok (.iadd, 1) := by decide +kernel
theorem dL_law_1046 : decode cL_law 1046 = .ok (.iaload, 1) := by decide +kernel
theorem dL_law_1047 : decode cL_law 1047 = .ok (.aload_n 0, 1) := by decide +kernel
theorem dL_law_1048 : decode cL_law 1048 = .ok (.iload_n 3, 1) := by decide +kernel
theorem dL_law_1049 : decode cL_law 1049 = .ok (.iconst 4, 1) := by decide +kernel
theorem dL_law_1050 : decode cL_law 1050 = .ok (.iadd, 1) := by decide +kernel
theorem dL_law_1051 : decode cL_law 1051 = .ok (.iaload, 1) := by decide +kernel
theorem dL_law_1052 : decode cL_law 1052 = .ok (.aload_n 0, 1) := by decide +kernel
theorem dL_law_1053 : decode cL_law 1053 = .ok (.iload_n 3, 1) := by decide +kernel
theorem dL_law_1054 : decode cL_law 1054 = .ok (.iconst 5, 1) := by decide +kernel
theorem dL_law_1055 : decode cL_law 1055 = .ok (.iadd, 1) := by decide +kernel
theorem dL_law_1056 : decode cL_law 1056 = .ok (.iaload, 1) := by decide +kernel
theorem dL_law_1057 : decode cL_law 1057 = .ok (.invokevirtual 131, 3) := by decide +kernel
theorem dL_law_1060 : decode cL_law 1060 = .ok (.aload_n 2, 1) := by decide +kernel
theorem dL_law_1061 : decode cL_law 1061 = .ok (.aload_n 0, 1) := by decide +kernel
theorem dL_law_1062 : decode cL_law 1062 = .ok (.iload_n 3, 1) := by decide +kernel
theorem dL_law_1063 : decode cL_law 1063 = .ok (.iconst 1, 1) := by decide +kernel
theorem dL_law_1064 : decode cL_law 1064 = .ok (.iadd, 1) := by decide +kernel
theorem dL_law_1065 : decode cL_law 1065 = .ok (.iaload, 1) := by decide +kernel
theorem dL_law_1066 : decode cL_law 1066 = .ok (.aload_n 0, 1) := by decide +kernel
theorem dL_law_1067 : decode cL_law 1067 = .ok (.iload_n 3, 1) := by decide +kernel
theorem dL_law_1068 : decode cL_law 1068 = .ok (.iconst 2, 1) := by decide +kernel
theorem dL_law_1069 : decode cL_law 1069 = .ok (.iadd, 1) := by decide +kernel
theorem dL_law_1070 : decode cL_law 1070 = .ok (.iaload, 1) := by decide +kernel
theorem dL_law_1071 : decode cL_law 1071 = .ok (.aload_n 0, 1) := by decide +kernel
theorem dL_law_1072 : decode cL_law 1072 = .ok (.iload_n 3, 1) := by decide +kernel
theorem dL_law_1073 : decode cL_law 1073 = .ok (.iconst 3, 1) := by decide +kernel
theorem dL_law_1074 : decode cL_law 1074 = .ok (.iadd, 1) := by decide +kernel
theorem dL_law_1075 : decode cL_law 1075 = .ok (.iaload, 1) := by decide +kernel
theorem dL_law_1076 : decode cL_law 1076 = .ok (.aload_n 0, 1) := by decide +kernel
theorem dL_law_1077 : decode cL_law 1077 = .ok (.iload_n 3, 1) := by decide +kernel
theorem dL_law_1078 : decode cL_law 1078 = .ok (.iconst 4, 1) := by decide +kernel
theorem dL_law_1079 : decode cL_law 1079 = .ok (.iadd, 1) := by decide +kernel
theorem dL_law_1080 : decode cL_law 1080 = .ok (.iaload, 1) := by decide +kernel
theorem dL_law_1081 : decode cL_law 1081 = .ok (.aload_n 0, 1) := by decide +kernel
theorem dL_law_1082 : decode cL_law 1082 = .ok (.iload_n 3, 1) := by decide +kernel
theorem dL_law_1083 : decode cL_law 1083 = .ok (.iconst 5, 1) := by decide +kernel
theorem dL_law_1084 : decode cL_law 1084 = .ok (.iadd, 1) := by decide +kernel
theorem dL_law_1085 : decode cL_law 1085 = .ok (.iaload, 1) := by decide +kernel
theorem dL_law_1086 : decode cL_law 1086 = .ok (.invokevirtual 135, 3) := by decide +kernel
theorem dL_law_1089 : decode cL_law 1089 = .ok (.if_icmp .eq 85, 3) := by decide +kernel
theorem dL_law_1094 : decode cL_law 1094 = .ok (.aload_n 1, 1) := by decide +kernel
theorem dL_law_1095 : decode cL_law 1095 = .ok (.aload_n 0, 1) := by decide +kernel
theorem dL_law_1096 : decode cL_law 1096 = .ok (.iload_n 3, 1) := by decide +kernel
theorem dL_law_1097 : decode cL_law 1097 = .ok (.iconst 1, 1) := by decide +kernel
theorem dL_law_1098 : decode cL_law 1098 = .ok (.iadd, 1) := by decide +kernel
theorem dL_law_1099 : decode cL_law 1099 = .ok (.iaload, 1) := by decide +kernel
theorem dL_law_1100 : decode cL_law 1100 = .ok (.aload_n 0, 1) := by decide +kernel
theorem dL_law_1101 : decode cL_law 1101 = .ok (.iload_n 3, 1) := by decide +kernel
theorem dL_law_1102 : decode cL_law 1102 = .ok (.iconst 2, 1) := by decide +kernel
theorem dL_law_1103 : decode cL_law 1103 = .ok (.iadd, 1) := by decide +kernel
theorem dL_law_1104 : decode cL_law 1104 = .ok (.iaload, 1) := by decide +kernel
theorem dL_law_1105 : decode cL_law 1105 = .ok (.aload_n 0, 1) := by decide +kernel
theorem dL_law_1106 : decode cL_law 1106 = .ok (.iload_n 3, 1) := by decide +kernel
theorem dL_law_1107 : decode cL_law 1107 = .ok (.iconst 3, 1) := by decide +kernel
theorem dL_law_1108 : decode cL_law 1108 = .ok (.iadd, 1) := by decide +kernel
theorem dL_law_1109 : decode cL_law 1109 = .ok (.iaload, 1) := by decide +kernel
theorem dL_law_1110 : decode cL_law 1110 = .ok (.invokevirtual 136, 3) := by decide +kernel
theorem dL_law_1113 : decode cL_law 1113 = .ok (.aload_n 2, 1) := by decide +kernel
theorem dL_law_1114 : decode cL_law 1114 = .ok (.aload_n 0, 1) := by decide +kernel
theorem dL_law_1115 : decode cL_law 1115 = .ok (.iload_n 3, 1) := by decide +kernel
theorem dL_law_1116 : decode cL_law 1116 = .ok (.iconst 1, 1) := by decide +kernel
theorem dL_law_1117 : decode cL_law 1117 = .ok (.iadd, 1) := by decide +kernel
theorem dL_law_1118 : decode cL_law 1118 = .ok (.iaload, 1) := by decide +kernel
theorem dL_law_1119 : decode cL_law 1119 = .ok (.aload_n 0, 1) := by decide +kernel
theorem dL_law_1120 : decode cL_law 1120 = .ok (.iload_n 3, 1) := by decide +kernel
theorem dL_law_1121 : decode cL_law 1121 = .ok (.iconst 2, 1) := by decide +kernel
theorem dL_law_1122 : decode cL_law 1122 = .ok (.iadd, 1) := by decide +kernel
theorem dL_law_1123 : decode cL_law 1123 = .ok (.iaload, 1) := by decide +kernel
theorem dL_law_1124 : decode cL_law 1124 = .ok (.aload_n 0, 1) := by decide +kernel
theorem dL_law_1125 : decode cL_law 1125 = .ok (.iload_n 3, 1) := by decide +kernel
theorem dL_law_1126 : decode cL_law 1126 = .ok (.iconst 3, 1) := by decide +kernel
theorem dL_law_1127 : decode cL_law 1127 = .ok (.iadd, 1) := by decide +kernel
theorem dL_law_1128 : decode cL_law 1128 = .ok (.iaload, 1) := by decide +kernel
theorem dL_law_1129 : decode cL_law 1129 = .ok (.invokevirtual 139, 3) := by decide +kernel
theorem dL_law_1132 : decode cL_law 1132 = .ok (.if_icmp .eq 42, 3) := by decide +kernel
theorem dL_law_1137 : decode cL_law 1137 = .ok (.aload_n 1, 1) := by decide +kernel
theorem dL_law_1138 : decode cL_law 1138 = .ok (.aload_n 0, 1) := by decide +kernel
theorem dL_law_1139 : decode cL_law 1139 = .ok (.iload_n 3, 1) := by decide +kernel
theorem dL_law_1140 : decode cL_law 1140 = .ok (.iconst 1, 1) := by decide +kernel
theorem dL_law_1141 : decode cL_law 1141 = .ok (.iadd, 1) := by decide +kernel
theorem dL_law_1142 : decode cL_law 1142 = .ok (.iaload, 1) := by decide +kernel
theorem dL_law_1143 : decode cL_law 1143 = .ok (.invokevirtual 140, 3) := by decide +kernel
theorem dL_law_1146 : decode cL_law 1146 = .ok (.aload_n 2, 1) := by decide +kernel
theorem dL_law_1147 : decode cL_law 1147 = .ok (.aload_n 0, 1) := by decide +kernel
theorem dL_law_1148 : decode cL_law 1148 = .ok (.iload_n 3, 1) := by decide +kernel
theorem dL_law_1149 : decode cL_law 1149 = .ok (.iconst 1, 1) := by decide +kernel
theorem dL_law_1150 : decode cL_law 1150 = .ok (.iadd, 1) := by decide +kernel
theorem dL_law_1151 : decode cL_law 1151 = .ok (.iaload, 1) := by decide +kernel
theorem dL_law_1152 : decode cL_law 1152 = .ok (.invokevirtual 143, 3) := by decide +kernel
theorem dL_law_1155 : decode cL_law 1155 = .ok (.if_icmp .eq 19, 3) := by decide +kernel
theorem dL_law_1160 : decode cL_law 1160 = .ok (.aload_n 1, 1) := by decide +kernel
theorem dL_law_1161 : decode cL_law 1161 = .ok (.invokevirtual 144, 3) := by decide +kernel
theorem dL_law_1164 : decode cL_law 1164 = .ok (.aload_n 2, 1) := by decide +kernel
theorem dL_law_1165 : decode cL_law 1165 = .ok (.invokevirtual 148, 3) := by decide +kernel
theorem dL_law_1168 : decode cL_law 1168 = .ok (.lcmp, 1) := by decide +kernel
theorem dL_law_1169 : decode cL_law 1169 = .ok (.ifCond .eq 5, 3) := by decide +kernel
theorem dL_law_1174 : decode cL_law 1174 = .ok (.iinc 3 6, 3) := by decide +kernel
theorem dL_law_1177 : decode cL_law 1177 = .ok (.goto (-1159), 3) := by decide +kernel
theorem dL_law_1180 : decode cL_law 1180 = .ok (.iconst 1, 1) := by decide +kernel
theorem dL_law_1181 : decode cL_law 1181 = .ok (.ireturn, 1) := by decide +kernel
end
section
/-! rows of our own: the worlds' fixed classes, the contracts' form, calls -/
abbrev kT (cI cJ cQ : ClassId) : List (ClassId × FieldType) := [(cI, .int), (cJ, .long), (cQ, .object "BittenStick$Sheet")]
def kwW : MethodName := ⟨"BittenStick$Text", "worth", "(II)I"⟩
def kwT : MethodName := ⟨"BittenStick$Text", "thingsIn", "(I)I"⟩
/-- what links of nest mates and abstract methods the tables say -/
def kN (U : State) : Prop := va_Nw (.declares kwW) U ∧ va_Nw (.declares kwT) U ∧ va_Nw (.methodLinkNest RX10 11 yX3_init "BittenStick") U ∧ va_Nw (.methodLinkNest RX11 32 yX1_init "BittenStick") U ∧ va_Nw (.methodLinkNest RX11 48 yX0_init "BittenStick") U ∧ va_Nw (.methodLinkNest RX11 55 yX5_init "BittenStick") U ∧ va_Nw (.methodLinkNest RX11 62 yX6_init "BittenStick") U ∧ va_Nw (.methodLinkNest RX11 83 yX8_init "BittenStick") U ∧ va_AO "BittenStick$Sheet" U
theorem kN.warm {s U : State} (hW : s.WarmedH U.vm) (h : kN s) : kN U := ⟨va_Nw.warmD hW h.1, va_Nw.warmD hW h.2.1, va_Nw.warmM hW h.2.2.1, va_Nw.warmM hW h.2.2.2.1, va_Nw.warmM hW h.2.2.2.2.1, va_Nw.warmM hW h.2.2.2.2.2.1, va_Nw.warmM hW h.2.2.2.2.2.2.1, va_Nw.warmM hW h.2.2.2.2.2.2.2.1, va_AO.moved hW.alike h.2.2.2.2.2.2.2.2⟩
theorem kN.same {u U : State} (e : u.vm = U.vm) (h : kN u) : kN U := ⟨va_Nw.same rfl e h.1, va_Nw.same rfl e h.2.1, va_Nw.same rfl e h.2.2.1, va_Nw.same rfl e h.2.2.2.1, va_Nw.same rfl e h.2.2.2.2.1, va_Nw.same rfl e h.2.2.2.2.2.1, va_Nw.same rfl e h.2.2.2.2.2.2.1, va_Nw.same rfl e h.2.2.2.2.2.2.2.1, va_AO.moved (by rw [e]; exact Vm.Alike.refl U.vm) h.2.2.2.2.2.2.2.2⟩
/-- a contract's start: the arguments, the cells -/
abbrev kPre (dC : Nat → ClassId) (dI : Nat → Nat → Nat) (cI cJ cQ : ClassId) (sz : Nat) (av : List Value) (ws : va_W) : Array Value → State → Prop := va_Pc av (fun U => U.heap.size = sz ∧ va_P (dC, dI) vwCl ws U.heap ∧ va_K (dC, dI) vwCl (kT cI cJ cQ) U ∧ va_D (fun _ => True) ws ∧ kN U)
/-- the cells behind it -/
abbrev kB (dC : Nat → ClassId) (dI : Nat → Nat → Nat) (cI cJ cQ : ClassId) (A : Nat → Prop) (ws : va_W) (t : State) : Prop := va_P (dC, dI) vwCl ws t.heap ∧ va_K (dC, dI) vwCl (kT cI cJ cQ) t ∧ va_D A ws
theorem k_nilP {D : va_G} {cl : List vw_C} (H : Heap) : va_P D cl [] H := fun k q h => by simp at h
theorem k_nilD (A : Nat → Prop) : va_D A [] := ⟨fun i j p q h => by simp at h, fun k q h => by simp at h⟩
theorem k_blind {dC : Nat → ClassId} {dI : Nat → Nat → Nat} {cI cJ cQ : ClassId} {sz : Nat} {av : List Value} {ws : va_W} : FrameBlind (kPre dC dI cI cJ cQ sz av ws) := fun a U g mk q => by
  obtain ⟨q0, q1, qP, qK, qD, qN⟩ := q
  exact ⟨q0, q1, qP, va_K.moved (u := U) (U := U.calling g mk a) (Vm.Alike.refl U.vm) qK, qD, kN.same (u := U) (U := U.calling g mk a) rfl qN⟩
theorem k_preS {dC : Nat → ClassId} {dI : Nat → Nat → Nat} {cI cJ cQ : ClassId} {s : State} {H : Heap} {A : Nat → Prop} {As : List Value} {ws : va_W} (hK : va_K (dC, dI) vwCl (kT cI cJ cQ) s) (hP : va_P (dC, dI) vwCl ws H) (hD : va_D A ws) (hN : kN s) : PreS s H (kPre dC dI cI cJ cQ H.size As ws) As :=
  ⟨k_blind, fun U hU hW => ⟨rfl, by rw [hU], by rw [hU]; exact hP, va_K.moved hW.alike hK, hD.weaken (fun _ _ _ _ => trivial), kN.warm hW hN⟩⟩
theorem k_preV {dC : Nat → ClassId} {dI : Nat → Nat → Nat} {cI cJ cQ : ClassId} {s : State} {H : Heap} {A : Nat → Prop} {b : Nat} {As : List Value} {ws : va_W} {ci q0 : Nat} {q : vw_C} {fs : List Value} (hK : va_K (dC, dI) vwCl (kT cI cJ cQ) s) (hP : va_P (dC, dI) vwCl ws H) (hD : va_D A ws) (hN : kN s) (hc : vwCl[ci]? = some q) (he : ws[q0]? = some (b, .inr (ci, fs))) : PreV s H q.1 b (kPre dC dI cI cJ cQ H.size (.ref b :: As) ws) As :=
  ⟨k_blind, va_recv hK hP hc he, fun U hU hW => ⟨rfl, by rw [hU], by rw [hU]; exact hP, va_K.moved hW.alike hK, hD.weaken (fun _ _ _ _ => trivial), kN.warm hW hN⟩⟩
section KR
variable {p : Program} {l : Launch} {e : Env} {R : Room} {s : State} {m : MethodId} {args : Array Value} {below : List Frame} {meth : Method} {c : Code} {H : Heap} {locs : List Loc} {cells slots : Nat} {Q : State → Prop}
variable {cc : ByteArray} {pc : Nat} {ls : Array Slot} {rest : List Value} {D : va_G} {cl : List vw_C} {ws : va_W} {A : Nat → Prop} {H0 : Heap} {cI cJ cQ : ClassId}
theorem k_topi {x v : Int32} (h : x = v) (k : W p l e R s m args below meth c H locs cells slots Q (F0 m pc ls (.int v :: rest))) : W p l e R s m args below meth c H locs cells slots Q (F0 m pc ls (.int x :: rest)) := by rw [h]; exact k
theorem k_topl {x v : Int64} (h : x = v) (k : W p l e R s m args below meth c H locs cells slots Q (F0 m pc ls (.long v :: rest))) : W p l e R s m args below meth c H locs cells slots Q (F0 m pc ls (.long x :: rest)) := by rw [h]; exact k
theorem k_heap {g : JFrame} (h : H = s.heap) (k : W p l e R s m args below meth c H locs cells slots Q g) : W p l e R s m args below meth c s.heap locs cells slots Q g := h ▸ k
/-- a new array of ints: its class is the known one -/
theorem k_newaI (hexec : p.tables.exec = Jvm.exec) (hb : c.code = cc) (harr : (Cond.arrayClass .int).before args s = true) (hK : va_K D cl (kT cI cJ cQ) s) (hP : va_P D cl ws H) (hD : va_D A ws) (hS : va_S A H0 H locs) (hA : ∀ q, H0.size ≤ q → A q)
    {n : Int32} {N' : Nat} (hn : ¬ n < 0) (hN : n.toNatClampNeg = N') (hbytes : N' * componentBytes .int ≤ 536870912) (hcells : cells + 1 ≤ R.cells) (hslots : slots + N' ≤ R.slots) (hdg : decode cc pc = .ok (.newarray .int, 2))
    (kk : ∀ (q : Nat) (H1 : Heap), va_P D cl (ws ++ [(q, .inl (cI, N', .inl (fun _ => 0)))]) H1 → va_D A (ws ++ [(q, .inl (cI, N', .inl (fun _ => 0)))]) → va_S A H0 H1 locs →
      W p l e R s m args below meth c H1 locs (cells + 1) (slots + N') Q (F0 m (pc + 2) ls (.ref q :: rest))) : W p l e R s m args below meth c H locs cells slots Q (F0 m pc ls (.int n :: rest)) := by
  refine va_newa (atype := .int) (ty := .int) (a0 := (N', .inl (fun _ => 0))) hexec hb harr rfl hK hP hD hS hA (fun _ => rfl) hn hN hbytes hcells hslots hdg (fun q cA H1 hK1 hP1 hD1 hS1 => ?_)
  have e1 : s.vm.findClass ("[" ++ FieldType.int.toString) = some cA := (hK1.2 3 (cA, .int) rfl).2
  have e2 : s.vm.findClass ("[" ++ FieldType.int.toString) = some cI := (hK.2 0 (cI, .int) rfl).2
  cases e1.symm.trans e2
  exact kk q H1 hP1 hD1 hS1
theorem k_newaJ (hexec : p.tables.exec = Jvm.exec) (hb : c.code = cc) (harr : (Cond.arrayClass .long).before args s = true) (hK : va_K D cl (kT cI cJ cQ) s) (hP : va_P D cl ws H) (hD : va_D A ws) (hS : va_S A H0 H locs) (hA : ∀ q, H0.size ≤ q → A q)
    {n : Int32} {N' : Nat} (hn : ¬ n < 0) (hN : n.toNatClampNeg = N') (hbytes : N' * componentBytes .long ≤ 536870912) (hcells : cells + 1 ≤ R.cells) (hslots : slots + N' ≤ R.slots) (hdg : decode cc pc = .ok (.newarray .long, 2))
    (kk : ∀ (q : Nat) (H1 : Heap), va_P D cl (ws ++ [(q, .inl (cJ, N', .inr (.inl (fun _ => 0))))]) H1 → va_D A (ws ++ [(q, .inl (cJ, N', .inr (.inl (fun _ => 0))))]) → va_S A H0 H1 locs →
      W p l e R s m args below meth c H1 locs (cells + 1) (slots + N') Q (F0 m (pc + 2) ls (.ref q :: rest))) : W p l e R s m args below meth c H locs cells slots Q (F0 m pc ls (.int n :: rest)) := by
  refine va_newa (atype := .long) (ty := .long) (a0 := (N', .inr (.inl (fun _ => 0)))) hexec hb harr rfl hK hP hD hS hA (fun _ => rfl) hn hN hbytes hcells hslots hdg (fun q cA H1 hK1 hP1 hD1 hS1 => ?_)
  have e1 : s.vm.findClass ("[" ++ FieldType.long.toString) = some cA := (hK1.2 3 (cA, .long) rfl).2
  have e2 : s.vm.findClass ("[" ++ FieldType.long.toString) = some cJ := (hK.2 1 (cJ, .long) rfl).2
  cases e1.symm.trans e2
  exact kk q H1 hP1 hD1 hS1
theorem k_newq (hexec : p.tables.exec = Jvm.exec) (hb : c.code = cc) {own : String} {index : Nat} (hown : s.vm.findClass own = some m.cls) (hclink : (Cond.classLink own index "BittenStick$Sheet").before args s = true) (hover : va_AO "BittenStick$Sheet" s) (hK : va_K D cl (kT cI cJ cQ) s) (hP : va_P D cl ws H) (hD : va_D A ws) (hS : va_S A H0 H locs) (hA : ∀ q, H0.size ≤ q → A q)
    {n : Int32} {N' : Nat} (hn : ¬ n < 0) (hN : n.toNatClampNeg = N') (hbytes : N' * 4 ≤ 536870912) (hcells : cells + 1 ≤ R.cells) (hslots : slots + N' ≤ R.slots) (hdg : decode cc pc = .ok (.anewarray index, 3))
    (kk : ∀ (q : Nat) (H1 : Heap), va_P D cl (ws ++ [(q, .inl (cQ, N', .inr (.inr (.inr (.inr (fun _ => none))))))]) H1 → va_D A (ws ++ [(q, .inl (cQ, N', .inr (.inr (.inr (.inr (fun _ => none))))))]) → va_S A H0 H1 locs →
      W p l e R s m args below meth c H1 locs (cells + 1) (slots + N') Q (F0 m (pc + 3) ls (.ref q :: rest))) : W p l e R s m args below meth c H locs cells slots Q (F0 m pc ls (.int n :: rest)) := by
  refine va_newq hexec hb hown hclink hover hK hP hD hS hA hn hN hbytes hcells hslots hdg (fun q cA H1 hK1 hP1 hD1 hS1 => ?_)
  obtain ⟨_, _, _, _, _, e1⟩ := (hK1.2 3 (cA, .object "BittenStick$Sheet") rfl).2
  obtain ⟨_, _, _, _, _, e2⟩ := (hK.2 2 (cQ, .object "BittenStick$Sheet") rfl).2
  cases e1.symm.trans e2
  exact kk q H1 hP1 hD1 hS1
end KR
theorem k_out3 {x : Int32} (h0 : ¬ x = 0) (h1 : ¬ x = 1) (h2 : ¬ x = 2) : x.toInt < 0 ∨ 2 < x.toInt := by
  have a0 := lv_neT (a := 0) h0 rfl
  have a1 := lv_neT (a := 1) h1 rfl
  have a2 := lv_neT (a := 2) h2 rfl
  omega
theorem k_out9 {x : Int32} (h0 : ¬ x = 0) (h1 : ¬ x = 1) (h2 : ¬ x = 2) (h3 : ¬ x = 3) (h4 : ¬ x = 4) (h5 : ¬ x = 5) (h6 : ¬ x = 6) (h7 : ¬ x = 7) (h8 : ¬ x = 8) : x.toInt < 0 ∨ 8 < x.toInt := by
  have a0 := lv_neT (a := 0) h0 rfl
  have a1 := lv_neT (a := 1) h1 rfl
  have a2 := lv_neT (a := 2) h2 rfl
  have a3 := lv_neT (a := 3) h3 rfl
  have a4 := lv_neT (a := 4) h4 rfl
  have a5 := lv_neT (a := 5) h5 rfl
  have a6 := lv_neT (a := 6) h6 rfl
  have a7 := lv_neT (a := 7) h7 rfl
  have a8 := lv_neT (a := 8) h8 rfl
  omega
theorem k_cmp_cases (x y : Int64) : (lg_cmp x y = 1 ∧ y.toInt < x.toInt) ∨ (lg_cmp x y = 0 ∧ x.toInt = y.toInt) ∨ (lg_cmp x y = -1 ∧ x.toInt < y.toInt) := by
  unfold lg_cmp
  by_cases h : x > y
  · exact Or.inl ⟨if_pos h, Int64.lt_iff_toInt_lt.mp h⟩
  · have h' : ¬ y.toInt < x.toInt := fun q => h (Int64.lt_iff_toInt_lt.mpr q)
    by_cases h2 : x = y
    · exact Or.inr (Or.inl ⟨by rw [if_neg h, if_pos h2], by rw [h2]⟩)
    · have h3 : ¬ x.toInt = y.toInt := fun q => h2 (Int64.toInt_inj.mp q)
      exact Or.inr (Or.inr ⟨by rw [if_neg h, if_neg h2], by omega⟩)
theorem k_clt {x y : Int64} : lg_cmp x y < 0 ↔ x < y := by
  rw [Int64.lt_iff_toInt_lt]
  rcases k_cmp_cases x y with ⟨e, h⟩ | ⟨e, h⟩ | ⟨e, h⟩
  · rw [e]; exact ⟨fun q => absurd q (by decide), fun q => absurd q (by omega)⟩
  · rw [e]; exact ⟨fun q => absurd q (by decide), fun q => absurd q (by omega)⟩
  · rw [e]; exact ⟨fun _ => h, fun _ => by decide⟩
theorem k_cgt {x y : Int64} : 0 < lg_cmp x y ↔ y < x := by
  rw [Int64.lt_iff_toInt_lt]
  rcases k_cmp_cases x y with ⟨e, h⟩ | ⟨e, h⟩ | ⟨e, h⟩
  · rw [e]; exact ⟨fun _ => h, fun _ => by decide⟩
  · rw [e]; exact ⟨fun q => absurd q (by decide), fun q => absurd q (by omega)⟩
  · rw [e]; exact ⟨fun q => absurd q (by decide), fun q => absurd q (by omega)⟩
theorem k_ceq {x y : Int64} : lg_cmp x y = 0 ↔ x = y := by
  rw [← Int64.toInt_inj]
  rcases k_cmp_cases x y with ⟨e, h⟩ | ⟨e, h⟩ | ⟨e, h⟩
  · rw [e]; exact ⟨fun q => absurd q (by decide), fun q => absurd q (by omega)⟩
  · rw [e]; exact ⟨fun _ => h, fun _ => rfl⟩
  · rw [e]; exact ⟨fun q => absurd q (by decide), fun q => absurd q (by omega)⟩
def fSh (a b c d : Nat) : Nat → Option Nat := va_up (va_up (va_up (va_up (fun _ => none) (0 : Int32).toNatClampNeg (some a)) (1 : Int32).toNatClampNeg (some b)) (2 : Int32).toNatClampNeg (some c)) (3 : Int32).toNatClampNeg (some d)
theorem fSh_0 (a b c d : Nat) : fSh a b c d (0 : Int32).toNatClampNeg = some a := rfl
theorem fSh_1 (a b c d : Nat) : fSh a b c d (1 : Int32).toNatClampNeg = some b := rfl
theorem fSh_2 (a b c d : Nat) : fSh a b c d (2 : Int32).toNatClampNeg = some c := rfl
theorem fSh_3 (a b c d : Nat) : fSh a b c d (3 : Int32).toNatClampNeg = some d := rfl
def fFo : Nat → Int32 := upd (upd (upd (upd (fun _ => 0) (0 : Int32).toNatClampNeg (-1)) (1 : Int32).toNatClampNeg (-1)) (2 : Int32).toNatClampNeg (-1)) (3 : Int32).toNatClampNeg (-1)
theorem fFo_lt : ∀ k, k < 4 → fFo k = -1 := by decide +kernel
theorem fFo_at {s : Int32} (h : 0 ≤ s ∧ s ≤ 3) : fFo s.toNatClampNeg = -1 := by
  have h0 : ¬ s < 0 := Int32.not_lt.mpr h.1
  obtain ⟨j, hj, rfl⟩ := nI_of2 (n := 3) (M := 3) (by decide) h0 h.2
  rw [nI_clamp (by omega)]
  exact fFo_lt j (by omega)
theorem k_in3 {s : Int32} (h : 0 ≤ s ∧ s ≤ 3) : vp_in s 4 := by
  have h0 : ¬ s < 0 := Int32.not_lt.mpr h.1
  obtain ⟨j, hj, rfl⟩ := nI_of2 (n := 3) (M := 3) (by decide) h0 h.2
  exact vp_in_nI (by omega) (by omega)
theorem k_in2 {s : Int32} (h : 0 ≤ s ∧ s ≤ 2) : vp_in s 3 := by
  have h0 : ¬ s < 0 := Int32.not_lt.mpr h.1
  obtain ⟨j, hj, rfl⟩ := nI_of2 (n := 2) (M := 2) (by decide) h0 h.2
  exact vp_in_nI (by omega) (by omega)
theorem k_in40 {s : Int32} (h : 0 ≤ s ∧ s ≤ 2) : vp_in (40 * s + 0) 120 := by
  have h0 : ¬ s < 0 := Int32.not_lt.mpr h.1
  obtain ⟨j, hj, rfl⟩ := nI_of2 (n := 2) (M := 2) (by decide) h0 h.2
  have e : (40 * nI j + 0 : Int32) = nI (40 * j) := by
    rw [show (40 : Int32) = nI 40 from rfl, show (0 : Int32) = nI 0 from rfl, pk_mul, nI_add, Nat.add_zero]
  rw [e]
  exact vp_in_nI (by omega) (by omega)
/-- a place of a sheet's item among all items -/
theorem k_in60 {s n : Int32} {k : Nat} (h : 0 ≤ s ∧ s ≤ 3) (hn : n ≤ 60) (hk : k < n.toInt.toNat) : vp_in (60 * s + nI k) 240 := by
  have h0 : ¬ s < 0 := Int32.not_lt.mpr h.1
  obtain ⟨j, hj, rfl⟩ := nI_of2 (n := 3) (M := 3) (by decide) h0 h.2
  have hn2 : n.toInt ≤ 60 := by have := Int32.le_iff_toInt_le.mp hn; simpa using this
  rw [show (60 : Int32) = nI 60 from rfl, pk_mul, nI_add]
  exact vp_in_nI (by omega) (by omega)
theorem k_ltN {k n : Nat} {x : Int32} (hx : x = nI n) (hk : k < 2 ^ 31) (hn : n < 2 ^ 31) (h : ¬ x ≤ nI k) : k < n := by
  rw [hx] at h
  rcases Nat.lt_or_ge k n with q | q
  · exact q
  · exact absurd (nI_le q hk) h
theorem k_ltT {k : Nat} {n : Int32} (hk : k < 2 ^ 31) (h : ¬ n ≤ nI k) : k < n.toInt.toNat := by
  have h1 : ¬ n.toInt ≤ (nI k).toInt := fun q => h (Int32.le_iff_toInt_le.mpr q)
  rw [nI_toInt hk] at h1
  omega
end
section
theorem lf_c_in_1 (v : Int64) (lo : Int64) (hi : Int64) (c_1 : (lg_cmp v lo) < 0) : (0 : Int32) = if lo ≤ v ∧ v ≤ hi then 1 else 0 := by
  repeat first | rfl | rw [if_pos (by (first | omega | (simp only [k_clt, k_cgt, k_ceq] at *; simp only [Int64.le_iff_toInt_le, Int64.lt_iff_toInt_lt, Int32.le_iff_toInt_le, Int32.lt_iff_toInt_lt, ← Int32.toInt_inj, ← Int64.toInt_inj, Int32.toInt_toInt64, (show (0 : Int32).toInt = 0 from by decide), (show (0 : Int64).toInt = 0 from by decide), (show (1 : Int32).toInt = 1 from by decide), (show (1 : Int64).toInt = 1 from by decide)] at *; omega)))] | rw [if_neg (by (first | omega | (simp only [k_clt, k_cgt, k_ceq] at *; simp only [Int64.le_iff_toInt_le, Int64.lt_iff_toInt_lt, Int32.le_iff_toInt_le, Int32.lt_iff_toInt_lt, ← Int32.toInt_inj, ← Int64.toInt_inj, Int32.toInt_toInt64, (show (0 : Int32).toInt = 0 from by decide), (show (0 : Int64).toInt = 0 from by decide), (show (1 : Int32).toInt = 1 from by decide), (show (1 : Int64).toInt = 1 from by decide)] at *; omega)))]
theorem lf_c_in_2 (v : Int64) (lo : Int64) (hi : Int64) (c_1 : ¬ (lg_cmp v lo) < 0) (c_2 : 0 < (lg_cmp v hi)) : (0 : Int32) = if lo ≤ v ∧ v ≤ hi then 1 else 0 := by
  repeat first | rfl | rw [if_pos (by (first | omega | (simp only [k_clt, k_cgt, k_ceq] at *; simp only [Int64.le_iff_toInt_le, Int64.lt_iff_toInt_lt, Int32.le_iff_toInt_le, Int32.lt_iff_toInt_lt, ← Int32.toInt_inj, ← Int64.toInt_inj, Int32.toInt_toInt64, (show (0 : Int32).toInt = 0 from by decide), (show (0 : Int64).toInt = 0 from by decide), (show (1 : Int32).toInt = 1 from by decide), (show (1 : Int64).toInt = 1 from by decide)] at *; omega)))] | rw [if_neg (by (first | omega | (simp only [k_clt, k_cgt, k_ceq] at *; simp only [Int64.le_iff_toInt_le, Int64.lt_iff_toInt_lt, Int32.le_iff_toInt_le, Int32.lt_iff_toInt_lt, ← Int32.toInt_inj, ← Int64.toInt_inj, Int32.toInt_toInt64, (show (0 : Int32).toInt = 0 from by decide), (show (0 : Int64).toInt = 0 from by decide), (show (1 : Int32).toInt = 1 from by decide), (show (1 : Int64).toInt = 1 from by decide)] at *; omega)))]
theorem lf_c_in_3 (v : Int64) (lo : Int64) (hi : Int64) (c_1 : ¬ (lg_cmp v lo) < 0) (c_2 : ¬ 0 < (lg_cmp v hi)) : (1 : Int32) = if lo ≤ v ∧ v ≤ hi then 1 else 0 := by
  repeat first | rfl | rw [if_pos (by (first | omega | (simp only [k_clt, k_cgt, k_ceq] at *; simp only [Int64.le_iff_toInt_le, Int64.lt_iff_toInt_lt, Int32.le_iff_toInt_le, Int32.lt_iff_toInt_lt, ← Int32.toInt_inj, ← Int64.toInt_inj, Int32.toInt_toInt64, (show (0 : Int32).toInt = 0 from by decide), (show (0 : Int64).toInt = 0 from by decide), (show (1 : Int32).toInt = 1 from by decide), (show (1 : Int64).toInt = 1 from by decide)] at *; omega)))] | rw [if_neg (by (first | omega | (simp only [k_clt, k_cgt, k_ceq] at *; simp only [Int64.le_iff_toInt_le, Int64.lt_iff_toInt_lt, Int32.le_iff_toInt_le, Int32.lt_iff_toInt_lt, ← Int32.toInt_inj, ← Int64.toInt_inj, Int32.toInt_toInt64, (show (0 : Int32).toInt = 0 from by decide), (show (0 : Int64).toInt = 0 from by decide), (show (1 : Int32).toInt = 1 from by decide), (show (1 : Int64).toInt = 1 from by decide)] at *; omega)))]
set_option maxHeartbeats 4000000 in
set_option maxRecDepth 100000 in
theorem c_in (l : Launch) (dC : Nat → ClassId) (dI : Nat → Nat → Nat) (cI cJ cQ : ClassId) (sz : Nat) (v : Int64) (lo : Int64) (hi : Int64) : Met l yX12_in (kW yX12_in cX12_in 6 (some .boolean)) { frames := 0, cells := 0, slots := 0, locals := 0 } (kPre dC dI cI cJ cQ sz [.long v, .long lo, .long hi] []) (va_Qi (fun (r : Int32) (_ : Unit) => r = if lo ≤ v ∧ v ≤ hi then 1 else 0) (fun _ t₀ => kB dC dI cI cJ cQ (va_A [] sz) [] t₀) (va_A [] sz)) 0 0 (va_A [] sz) := by
  refine Met.ofW (cc := cX12_in) (maxL := 6) (ret := (some .boolean)) (by decide) rfl ?_
  intro p₀ e₀ s₀ m₀ args below meth c₀ s₁ B hml hv₀
  obtain ⟨rfl, hsz, hP, hK, hD0, hN⟩ := hv₀
  have hx₀ := B.exec
  have hb := B.bytes
  have hr := B.returns
  have hts := atoms_spec (ws := (kW yX12_in cX12_in 6 (some .boolean))) B.pre
  have hts := fun w h => hts w (List.mem_cons_of_mem _ h)
  have hown : s₀.vm.findClass RX12 = some m₀.cls := findClass_of_methodNamed B.named
  have hlocks := B.notSynchronized
  subst hsz
  have hD := hD0.self (sz := s₀.heap.size)
  generalize hAe : va_A [] s₀.heap.size = A at hD ⊢
  have hA : ∀ q : Nat, s₀.heap.size ≤ q → A q := fun q h => by rw [← hAe]; exact Or.inr h
  have hS : va_S A s₀.heap s₀.heap [] := va_S.rf
  have hP : va_P (dC, dI) vwCl [] s₀.heap := hP
  have hl := lv_entry ([.long v, .long lo, .long hi]) (n := 6) (Nat.le_of_ble_eq_true rfl)
  rw [lg_entry_eq]
  generalize (lg_sl ([.long v, .long lo, .long hi]) ++ List.replicate (6 - (lg_sl ([.long v, .long lo, .long hi])).length) Slot.unset).toArray = ls at hl ⊢
  have hl : lv_has ls 6 [(0, .long v), (2, .long lo), (4, .long hi)] := hl
  obtain ⟨H, hH⟩ : ∃ z : Heap, z = s₀.heap := ⟨_, rfl⟩
  rw [← hH] at hP
  have hS : va_S A s₀.heap H [] := by rw [hH]; exact hS
  refine k_heap hH ?_
  have hD : va_D A [] := hD
  obtain ⟨locs, hlo⟩ : ∃ z : List Loc, z = [] := ⟨_, rfl⟩
  rw [← hlo] at hS ⊢
  clear hlo hH hAe hD0
  refine lv_lload_n hx₀ hb dX12_in_0 rfl (lv_at hl 0 rfl) ?_
  refine lv_lload_n hx₀ hb dX12_in_1 rfl (lv_at hl 1 rfl) ?_
  refine W.lcmp hx₀ hb dX12_in_2 ?_
  refine lv_if_lt (tgt := 17) hx₀ hb dX12_in_3 (by decide) (fun c_1 => ?_) (fun c_1 => ?_)
  · refine lv_iconst (v := 0) hx₀ hb dX12_in_17 (by decide +kernel) ?_
    have hP9 := hP.sub (ws' := []) [] rfl
    have hD9 := hD.sub (ws' := []) [] (by decide) rfl
    exact W.zret (v := 0) hx₀ hb hr (by decide +kernel) (fun t₀ ht hW => ⟨⟨0, (), rfl, (lf_c_in_1 v lo hi c_1), by rw [ht]; exact hP9, va_K.moved hW.alike hK, hD9⟩, hS.F ht⟩) hS.2.2 dX12_in_18
  · refine lv_lload_n hx₀ hb dX12_in_6 rfl (lv_at hl 0 rfl) ?_
    refine lv_lload hx₀ hb dX12_in_7 (lv_at hl 2 rfl) ?_
    refine W.lcmp hx₀ hb dX12_in_9 ?_
    refine lv_if_gt (tgt := 17) hx₀ hb dX12_in_10 (by decide) (fun c_2 => ?_) (fun c_2 => ?_)
    · refine lv_iconst (v := 0) hx₀ hb dX12_in_17 (by decide +kernel) ?_
      have hP9 := hP.sub (ws' := []) [] rfl
      have hD9 := hD.sub (ws' := []) [] (by decide) rfl
      exact W.zret (v := 0) hx₀ hb hr (by decide +kernel) (fun t₀ ht hW => ⟨⟨0, (), rfl, (lf_c_in_2 v lo hi c_1 c_2), by rw [ht]; exact hP9, va_K.moved hW.alike hK, hD9⟩, hS.F ht⟩) hS.2.2 dX12_in_18
    · refine lv_iconst (v := 1) hx₀ hb dX12_in_13 (by decide +kernel) ?_
      refine lv_goto (tgt := 18) hx₀ hb dX12_in_14 (by decide) ?_
      have hP9 := hP.sub (ws' := []) [] rfl
      have hD9 := hD.sub (ws' := []) [] (by decide) rfl
      exact W.zret (v := 1) hx₀ hb hr (by decide +kernel) (fun t₀ ht hW => ⟨⟨1, (), rfl, (lf_c_in_3 v lo hi c_1 c_2), by rw [ht]; exact hP9, va_K.moved hW.alike hK, hD9⟩, hS.F ht⟩) hS.2.2 dX12_in_18
theorem lf_c_isTwo_1 (v : Int32) (c_2 : (0 : Int64) ≤ v.toInt64 ∧ v.toInt64 ≤ (1 : Int64)) : (1 : Int32) = if 0 ≤ v ∧ v ≤ 1 then 1 else 0 := by
  repeat first | rfl | rw [if_pos (by (first | omega | (simp only [Int64.le_iff_toInt_le, Int64.lt_iff_toInt_lt, Int32.le_iff_toInt_le, Int32.lt_iff_toInt_lt, ← Int32.toInt_inj, ← Int64.toInt_inj, Int32.toInt_toInt64, (show (0 : Int32).toInt = 0 from by decide), (show (0 : Int64).toInt = 0 from by decide), (show (1 : Int32).toInt = 1 from by decide), (show (1 : Int64).toInt = 1 from by decide)] at *; omega)))] | rw [if_neg (by (first | omega | (simp only [Int64.le_iff_toInt_le, Int64.lt_iff_toInt_lt, Int32.le_iff_toInt_le, Int32.lt_iff_toInt_lt, ← Int32.toInt_inj, ← Int64.toInt_inj, Int32.toInt_toInt64, (show (0 : Int32).toInt = 0 from by decide), (show (0 : Int64).toInt = 0 from by decide), (show (1 : Int32).toInt = 1 from by decide), (show (1 : Int64).toInt = 1 from by decide)] at *; omega)))]
theorem lf_c_isTwo_2 (v : Int32) (c_2 : ¬ ((0 : Int64) ≤ v.toInt64 ∧ v.toInt64 ≤ (1 : Int64))) : (0 : Int32) = if 0 ≤ v ∧ v ≤ 1 then 1 else 0 := by
  repeat first | rfl | rw [if_pos (by (first | omega | (simp only [Int64.le_iff_toInt_le, Int64.lt_iff_toInt_lt, Int32.le_iff_toInt_le, Int32.lt_iff_toInt_lt, ← Int32.toInt_inj, ← Int64.toInt_inj, Int32.toInt_toInt64, (show (0 : Int32).toInt = 0 from by decide), (show (0 : Int64).toInt = 0 from by decide), (show (1 : Int32).toInt = 1 from by decide), (show (1 : Int64).toInt = 1 from by decide)] at *; omega)))] | rw [if_neg (by (first | omega | (simp only [Int64.le_iff_toInt_le, Int64.lt_iff_toInt_lt, Int32.le_iff_toInt_le, Int32.lt_iff_toInt_lt, ← Int32.toInt_inj, ← Int64.toInt_inj, Int32.toInt_toInt64, (show (0 : Int32).toInt = 0 from by decide), (show (0 : Int64).toInt = 0 from by decide), (show (1 : Int32).toInt = 1 from by decide), (show (1 : Int64).toInt = 1 from by decide)] at *; omega)))]
set_option maxHeartbeats 4000000 in
set_option maxRecDepth 100000 in
theorem c_isTwo (l : Launch) (dC : Nat → ClassId) (dI : Nat → Nat → Nat) (cI cJ cQ : ClassId) (sz : Nat) (v : Int32) : Met l yX12_isTwo (kW yX12_isTwo cX12_isTwo 1 (some .boolean)) { frames := 1, cells := 0, slots := 0, locals := 25 } (kPre dC dI cI cJ cQ sz [.int v] []) (va_Qi (fun (r : Int32) (_ : Unit) => r = if 0 ≤ v ∧ v ≤ 1 then 1 else 0) (fun _ t₀ => kB dC dI cI cJ cQ (va_A [] sz) [] t₀) (va_A [] sz)) 0 0 (va_A [] sz) := by
  refine Met.ofW (cc := cX12_isTwo) (maxL := 1) (ret := (some .boolean)) (by decide) rfl ?_
  intro p₀ e₀ s₀ m₀ args below meth c₀ s₁ B hml hv₀
  obtain ⟨rfl, hsz, hP, hK, hD0, hN⟩ := hv₀
  have hx₀ := B.exec
  have hb := B.bytes
  have hr := B.returns
  have hts := atoms_spec (ws := (kW yX12_isTwo cX12_isTwo 1 (some .boolean))) B.pre
  have hts := fun w h => hts w (List.mem_cons_of_mem _ h)
  have hown : s₀.vm.findClass RX12 = some m₀.cls := findClass_of_methodNamed B.named
  have hlocks := B.notSynchronized
  subst hsz
  have hD := hD0.self (sz := s₀.heap.size)
  generalize hAe : va_A [] s₀.heap.size = A at hD ⊢
  have hA : ∀ q : Nat, s₀.heap.size ≤ q → A q := fun q h => by rw [← hAe]; exact Or.inr h
  have hS : va_S A s₀.heap s₀.heap [] := va_S.rf
  have hP : va_P (dC, dI) vwCl [] s₀.heap := hP
  have hl := lv_entry ([.int v]) (n := 1) (Nat.le_of_ble_eq_true rfl)
  rw [lg_entry_eq]
  generalize (lg_sl ([.int v]) ++ List.replicate (1 - (lg_sl ([.int v])).length) Slot.unset).toArray = ls at hl ⊢
  have hl : lv_has ls 1 [(0, .int v)] := hl
  obtain ⟨H, hH⟩ : ∃ z : Heap, z = s₀.heap := ⟨_, rfl⟩
  rw [← hH] at hP
  have hS : va_S A s₀.heap H [] := by rw [hH]; exact hS
  refine k_heap hH ?_
  have hD : va_D A [] := hD
  obtain ⟨locs, hlo⟩ : ∃ z : List Loc, z = [] := ⟨_, rfl⟩
  rw [← hlo] at hS ⊢
  clear hlo hH hAe hD0
  refine lv_iload_n hx₀ hb dX12_isTwo_0 rfl (lv_at hl 0 rfl) ?_
  refine lv_i2l hx₀ hb dX12_isTwo_1 rfl ?_
  refine lv_lconst (v := 0) hx₀ hb dX12_isTwo_2 (by decide +kernel) ?_
  refine lv_lconst (v := 1) hx₀ hb dX12_isTwo_3 (by decide +kernel) ?_
  have hPc := hP.sub (ws' := []) [] rfl
  have hDc := hD.sub (ws' := []) [] (by decide) rfl
  have hFc := va_free (wc := []) hD hS hA [] rfl
  refine va_calli (va_runS (As := [.long v.toInt64, .long 0, .long 1]) (rest := []) ⟨hx₀, hb, hml, hown, hts⟩ (c_in l dC dI cI cJ cQ H.size v.toInt64 0 1) (va_cwS 3 hts (kGS wd_208 wd_206 wd_207 wd_5) rfl rfl rfl (by decide +kernel) ⟨Nat.le_of_ble_eq_true rfl, Nat.le_of_ble_eq_true rfl⟩) (k_preS hK hPc hDc hN) rfl rfl hl.1 rfl (lv_room (Nat.le_of_ble_eq_true rfl)) dX12_isTwo_4 ⟨by decide +kernel, by decide +kernel⟩) hS (fun q _ h => hFc q h) hFc (fun r_1 u₀ t₀ H1 locs ht hvm hw hB hz1 hk1 hS => ?_)
  obtain ⟨hP1, hK1, hD1⟩ := hB
  rw [ht] at hP1
  obtain ⟨hP, hD⟩ := va_join (wr := []) (w1 := []) hP hD [] [] rfl rfl (by decide) (by decide) hk1 hFc hP1 hD1
  generalize H1 = H at hP hS ⊢
  have hP : va_P (dC, dI) vwCl [] H := hP
  have hD : va_D A [] := hD
  try dsimp only at hw
  by_cases c_2 : (0 : Int64) ≤ v.toInt64 ∧ v.toInt64 ≤ (1 : Int64)
  · rw [if_pos c_2] at hw
    refine k_topi (v := 1) hw ?_
    have hP9 := hP.sub (ws' := []) [] rfl
    have hD9 := hD.sub (ws' := []) [] (by decide) rfl
    exact W.zret (v := 1) hx₀ hb hr (by decide +kernel) (fun t₀ ht hW => ⟨⟨1, (), rfl, (lf_c_isTwo_1 v c_2), by rw [ht]; exact hP9, va_K.moved hW.alike hK, hD9⟩, hS.F ht⟩) hS.2.2 dX12_isTwo_7
  rw [if_neg c_2] at hw
  refine k_topi (v := 0) hw ?_
  have hP9 := hP.sub (ws' := []) [] rfl
  have hD9 := hD.sub (ws' := []) [] (by decide) rfl
  exact W.zret (v := 0) hx₀ hb hr (by decide +kernel) (fun t₀ ht hW => ⟨⟨0, (), rfl, (lf_c_isTwo_2 v c_2), by rw [ht]; exact hP9, va_K.moved hW.alike hK, hD9⟩, hS.F ht⟩) hS.2.2 dX12_isTwo_7
theorem lf_c_isSheet_1 (v : Int32) (c_2 : (0 : Int64) ≤ v.toInt64 ∧ v.toInt64 ≤ (3 : Int64)) : (1 : Int32) = if 0 ≤ v ∧ v ≤ 3 then 1 else 0 := by
  repeat first | rfl | rw [if_pos (by (first | omega | (simp only [Int64.le_iff_toInt_le, Int64.lt_iff_toInt_lt, Int32.le_iff_toInt_le, Int32.lt_iff_toInt_lt, ← Int32.toInt_inj, ← Int64.toInt_inj, Int32.toInt_toInt64, (show (0 : Int32).toInt = 0 from by decide), (show (0 : Int64).toInt = 0 from by decide), (show (1 : Int32).toInt = 1 from by decide), (show (1 : Int64).toInt = 1 from by decide), (show (3 : Int32).toInt = 3 from by decide), (show (3 : Int64).toInt = 3 from by decide)] at *; omega)))] | rw [if_neg (by (first | omega | (simp only [Int64.le_iff_toInt_le, Int64.lt_iff_toInt_lt, Int32.le_iff_toInt_le, Int32.lt_iff_toInt_lt, ← Int32.toInt_inj, ← Int64.toInt_inj, Int32.toInt_toInt64, (show (0 : Int32).toInt = 0 from by decide), (show (0 : Int64).toInt = 0 from by decide), (show (1 : Int32).toInt = 1 from by decide), (show (1 : Int64).toInt = 1 from by decide), (show (3 : Int32).toInt = 3 from by decide), (show (3 : Int64).toInt = 3 from by decide)] at *; omega)))]
theorem lf_c_isSheet_2 (v : Int32) (c_2 : ¬ ((0 : Int64) ≤ v.toInt64 ∧ v.toInt64 ≤ (3 : Int64))) : (0 : Int32) = if 0 ≤ v ∧ v ≤ 3 then 1 else 0 := by
  repeat first | rfl | rw [if_pos (by (first | omega | (simp only [Int64.le_iff_toInt_le, Int64.lt_iff_toInt_lt, Int32.le_iff_toInt_le, Int32.lt_iff_toInt_lt, ← Int32.toInt_inj, ← Int64.toInt_inj, Int32.toInt_toInt64, (show (0 : Int32).toInt = 0 from by decide), (show (0 : Int64).toInt = 0 from by decide), (show (1 : Int32).toInt = 1 from by decide), (show (1 : Int64).toInt = 1 from by decide), (show (3 : Int32).toInt = 3 from by decide), (show (3 : Int64).toInt = 3 from by decide)] at *; omega)))] | rw [if_neg (by (first | omega | (simp only [Int64.le_iff_toInt_le, Int64.lt_iff_toInt_lt, Int32.le_iff_toInt_le, Int32.lt_iff_toInt_lt, ← Int32.toInt_inj, ← Int64.toInt_inj, Int32.toInt_toInt64, (show (0 : Int32).toInt = 0 from by decide), (show (0 : Int64).toInt = 0 from by decide), (show (1 : Int32).toInt = 1 from by decide), (show (1 : Int64).toInt = 1 from by decide), (show (3 : Int32).toInt = 3 from by decide), (show (3 : Int64).toInt = 3 from by decide)] at *; omega)))]
set_option maxHeartbeats 4000000 in
set_option maxRecDepth 100000 in
theorem c_isSheet (l : Launch) (dC : Nat → ClassId) (dI : Nat → Nat → Nat) (cI cJ cQ : ClassId) (sz : Nat) (v : Int32) : Met l yX12_isSheet (kW yX12_isSheet cX12_isSheet 1 (some .boolean)) { frames := 1, cells := 0, slots := 0, locals := 25 } (kPre dC dI cI cJ cQ sz [.int v] []) (va_Qi (fun (r : Int32) (_ : Unit) => r = if 0 ≤ v ∧ v ≤ 3 then 1 else 0) (fun _ t₀ => kB dC dI cI cJ cQ (va_A [] sz) [] t₀) (va_A [] sz)) 0 0 (va_A [] sz) := by
  refine Met.ofW (cc := cX12_isSheet) (maxL := 1) (ret := (some .boolean)) (by decide) rfl ?_
  intro p₀ e₀ s₀ m₀ args below meth c₀ s₁ B hml hv₀
  obtain ⟨rfl, hsz, hP, hK, hD0, hN⟩ := hv₀
  have hx₀ := B.exec
  have hb := B.bytes
  have hr := B.returns
  have hts := atoms_spec (ws := (kW yX12_isSheet cX12_isSheet 1 (some .boolean))) B.pre
  have hts := fun w h => hts w (List.mem_cons_of_mem _ h)
  have hown : s₀.vm.findClass RX12 = some m₀.cls := findClass_of_methodNamed B.named
  have hlocks := B.notSynchronized
  subst hsz
  have hD := hD0.self (sz := s₀.heap.size)
  generalize hAe : va_A [] s₀.heap.size = A at hD ⊢
  have hA : ∀ q : Nat, s₀.heap.size ≤ q → A q := fun q h => by rw [← hAe]; exact Or.inr h
  have hS : va_S A s₀.heap s₀.heap [] := va_S.rf
  have hP : va_P (dC, dI) vwCl [] s₀.heap := hP
  have hl := lv_entry ([.int v]) (n := 1) (Nat.le_of_ble_eq_true rfl)
  rw [lg_entry_eq]
  generalize (lg_sl ([.int v]) ++ List.replicate (1 - (lg_sl ([.int v])).length) Slot.unset).toArray = ls at hl ⊢
  have hl : lv_has ls 1 [(0, .int v)] := hl
  obtain ⟨H, hH⟩ : ∃ z : Heap, z = s₀.heap := ⟨_, rfl⟩
  rw [← hH] at hP
  have hS : va_S A s₀.heap H [] := by rw [hH]; exact hS
  refine k_heap hH ?_
  have hD : va_D A [] := hD
  obtain ⟨locs, hlo⟩ : ∃ z : List Loc, z = [] := ⟨_, rfl⟩
  rw [← hlo] at hS ⊢
  clear hlo hH hAe hD0
  refine lv_iload_n hx₀ hb dX12_isSheet_0 rfl (lv_at hl 0 rfl) ?_
  refine lv_i2l hx₀ hb dX12_isSheet_1 rfl ?_
  refine lv_lconst (v := 0) hx₀ hb dX12_isSheet_2 (by decide +kernel) ?_
  refine lv_ldc2 (v := 3) hx₀ hb hown (hts (.constantLong RX12 72 (3)) wd_319) dX12_isSheet_3 ?_
  have hPc := hP.sub (ws' := []) [] rfl
  have hDc := hD.sub (ws' := []) [] (by decide) rfl
  have hFc := va_free (wc := []) hD hS hA [] rfl
  refine va_calli (va_runS (As := [.long v.toInt64, .long 0, .long 3]) (rest := []) ⟨hx₀, hb, hml, hown, hts⟩ (c_in l dC dI cI cJ cQ H.size v.toInt64 0 3) (va_cwS 3 hts (kGS wd_208 wd_206 wd_207 wd_5) rfl rfl rfl (by decide +kernel) ⟨Nat.le_of_ble_eq_true rfl, Nat.le_of_ble_eq_true rfl⟩) (k_preS hK hPc hDc hN) rfl rfl hl.1 rfl (lv_room (Nat.le_of_ble_eq_true rfl)) dX12_isSheet_6 ⟨by decide +kernel, by decide +kernel⟩) hS (fun q _ h => hFc q h) hFc (fun r_1 u₀ t₀ H1 locs ht hvm hw hB hz1 hk1 hS => ?_)
  obtain ⟨hP1, hK1, hD1⟩ := hB
  rw [ht] at hP1
  obtain ⟨hP, hD⟩ := va_join (wr := []) (w1 := []) hP hD [] [] rfl rfl (by decide) (by decide) hk1 hFc hP1 hD1
  generalize H1 = H at hP hS ⊢
  have hP : va_P (dC, dI) vwCl [] H := hP
  have hD : va_D A [] := hD
  try dsimp only at hw
  by_cases c_2 : (0 : Int64) ≤ v.toInt64 ∧ v.toInt64 ≤ (3 : Int64)
  · rw [if_pos c_2] at hw
    refine k_topi (v := 1) hw ?_
    have hP9 := hP.sub (ws' := []) [] rfl
    have hD9 := hD.sub (ws' := []) [] (by decide) rfl
    exact W.zret (v := 1) hx₀ hb hr (by decide +kernel) (fun t₀ ht hW => ⟨⟨1, (), rfl, (lf_c_isSheet_1 v c_2), by rw [ht]; exact hP9, va_K.moved hW.alike hK, hD9⟩, hS.F ht⟩) hS.2.2 dX12_isSheet_9
  rw [if_neg c_2] at hw
  refine k_topi (v := 0) hw ?_
  have hP9 := hP.sub (ws' := []) [] rfl
  have hD9 := hD.sub (ws' := []) [] (by decide) rfl
  exact W.zret (v := 0) hx₀ hb hr (by decide +kernel) (fun t₀ ht hW => ⟨⟨0, (), rfl, (lf_c_isSheet_2 v c_2), by rw [ht]; exact hP9, va_K.moved hW.alike hK, hD9⟩, hS.F ht⟩) hS.2.2 dX12_isSheet_9
theorem lf_c_isText_1 (v : Int32) (c_2 : (0 : Int64) ≤ v.toInt64 ∧ v.toInt64 ≤ (2 : Int64)) : (1 : Int32) = if 0 ≤ v ∧ v ≤ 2 then 1 else 0 := by
  repeat first | rfl | rw [if_pos (by (first | omega | (simp only [Int64.le_iff_toInt_le, Int64.lt_iff_toInt_lt, Int32.le_iff_toInt_le, Int32.lt_iff_toInt_lt, ← Int32.toInt_inj, ← Int64.toInt_inj, Int32.toInt_toInt64, (show (0 : Int32).toInt = 0 from by decide), (show (0 : Int64).toInt = 0 from by decide), (show (1 : Int32).toInt = 1 from by decide), (show (1 : Int64).toInt = 1 from by decide), (show (2 : Int32).toInt = 2 from by decide), (show (2 : Int64).toInt = 2 from by decide)] at *; omega)))] | rw [if_neg (by (first | omega | (simp only [Int64.le_iff_toInt_le, Int64.lt_iff_toInt_lt, Int32.le_iff_toInt_le, Int32.lt_iff_toInt_lt, ← Int32.toInt_inj, ← Int64.toInt_inj, Int32.toInt_toInt64, (show (0 : Int32).toInt = 0 from by decide), (show (0 : Int64).toInt = 0 from by decide), (show (1 : Int32).toInt = 1 from by decide), (show (1 : Int64).toInt = 1 from by decide), (show (2 : Int32).toInt = 2 from by decide), (show (2 : Int64).toInt = 2 from by decide)] at *; omega)))]
theorem lf_c_isText_2 (v : Int32) (c_2 : ¬ ((0 : Int64) ≤ v.toInt64 ∧ v.toInt64 ≤ (2 : Int64))) : (0 : Int32) = if 0 ≤ v ∧ v ≤ 2 then 1 else 0 := by
  repeat first | rfl | rw [if_pos (by (first | omega | (simp only [Int64.le_iff_toInt_le, Int64.lt_iff_toInt_lt, Int32.le_iff_toInt_le, Int32.lt_iff_toInt_lt, ← Int32.toInt_inj, ← Int64.toInt_inj, Int32.toInt_toInt64, (show (0 : Int32).toInt = 0 from by decide), (show (0 : Int64).toInt = 0 from by decide), (show (1 : Int32).toInt = 1 from by decide), (show (1 : Int64).toInt = 1 from by decide), (show (2 : Int32).toInt = 2 from by decide), (show (2 : Int64).toInt = 2 from by decide)] at *; omega)))] | rw [if_neg (by (first | omega | (simp only [Int64.le_iff_toInt_le, Int64.lt_iff_toInt_lt, Int32.le_iff_toInt_le, Int32.lt_iff_toInt_lt, ← Int32.toInt_inj, ← Int64.toInt_inj, Int32.toInt_toInt64, (show (0 : Int32).toInt = 0 from by decide), (show (0 : Int64).toInt = 0 from by decide), (show (1 : Int32).toInt = 1 from by decide), (show (1 : Int64).toInt = 1 from by decide), (show (2 : Int32).toInt = 2 from by decide), (show (2 : Int64).toInt = 2 from by decide)] at *; omega)))]
set_option maxHeartbeats 4000000 in
set_option maxRecDepth 100000 in
theorem c_isText (l : Launch) (dC : Nat → ClassId) (dI : Nat → Nat → Nat) (cI cJ cQ : ClassId) (sz : Nat) (v : Int32) : Met l yX12_isText (kW yX12_isText cX12_isText 1 (some .boolean)) { frames := 1, cells := 0, slots := 0, locals := 25 } (kPre dC dI cI cJ cQ sz [.int v] []) (va_Qi (fun (r : Int32) (_ : Unit) => r = if 0 ≤ v ∧ v ≤ 2 then 1 else 0) (fun _ t₀ => kB dC dI cI cJ cQ (va_A [] sz) [] t₀) (va_A [] sz)) 0 0 (va_A [] sz) := by
  refine Met.ofW (cc := cX12_isText) (maxL := 1) (ret := (some .boolean)) (by decide) rfl ?_
  intro p₀ e₀ s₀ m₀ args below meth c₀ s₁ B hml hv₀
  obtain ⟨rfl, hsz, hP, hK, hD0, hN⟩ := hv₀
  have hx₀ := B.exec
  have hb := B.bytes
  have hr := B.returns
  have hts := atoms_spec (ws := (kW yX12_isText cX12_isText 1 (some .boolean))) B.pre
  have hts := fun w h => hts w (List.mem_cons_of_mem _ h)
  have hown : s₀.vm.findClass RX12 = some m₀.cls := findClass_of_methodNamed B.named
  have hlocks := B.notSynchronized
  subst hsz
  have hD := hD0.self (sz := s₀.heap.size)
  generalize hAe : va_A [] s₀.heap.size = A at hD ⊢
  have hA : ∀ q : Nat, s₀.heap.size ≤ q → A q := fun q h => by rw [← hAe]; exact Or.inr h
  have hS : va_S A s₀.heap s₀.heap [] := va_S.rf
  have hP : va_P (dC, dI) vwCl [] s₀.heap := hP
  have hl := lv_entry ([.int v]) (n := 1) (Nat.le_of_ble_eq_true rfl)
  rw [lg_entry_eq]
  generalize (lg_sl ([.int v]) ++ List.replicate (1 - (lg_sl ([.int v])).length) Slot.unset).toArray = ls at hl ⊢
  have hl : lv_has ls 1 [(0, .int v)] := hl
  obtain ⟨H, hH⟩ : ∃ z : Heap, z = s₀.heap := ⟨_, rfl⟩
  rw [← hH] at hP
  have hS : va_S A s₀.heap H [] := by rw [hH]; exact hS
  refine k_heap hH ?_
  have hD : va_D A [] := hD
  obtain ⟨locs, hlo⟩ : ∃ z : List Loc, z = [] := ⟨_, rfl⟩
  rw [← hlo] at hS ⊢
  clear hlo hH hAe hD0
  refine lv_iload_n hx₀ hb dX12_isText_0 rfl (lv_at hl 0 rfl) ?_
  refine lv_i2l hx₀ hb dX12_isText_1 rfl ?_
  refine lv_lconst (v := 0) hx₀ hb dX12_isText_2 (by decide +kernel) ?_
  refine lv_ldc2 (v := 2) hx₀ hb hown (hts (.constantLong RX12 78 (2)) wd_205) dX12_isText_3 ?_
  have hPc := hP.sub (ws' := []) [] rfl
  have hDc := hD.sub (ws' := []) [] (by decide) rfl
  have hFc := va_free (wc := []) hD hS hA [] rfl
  refine va_calli (va_runS (As := [.long v.toInt64, .long 0, .long 2]) (rest := []) ⟨hx₀, hb, hml, hown, hts⟩ (c_in l dC dI cI cJ cQ H.size v.toInt64 0 2) (va_cwS 3 hts (kGS wd_208 wd_206 wd_207 wd_5) rfl rfl rfl (by decide +kernel) ⟨Nat.le_of_ble_eq_true rfl, Nat.le_of_ble_eq_true rfl⟩) (k_preS hK hPc hDc hN) rfl rfl hl.1 rfl (lv_room (Nat.le_of_ble_eq_true rfl)) dX12_isText_6 ⟨by decide +kernel, by decide +kernel⟩) hS (fun q _ h => hFc q h) hFc (fun r_1 u₀ t₀ H1 locs ht hvm hw hB hz1 hk1 hS => ?_)
  obtain ⟨hP1, hK1, hD1⟩ := hB
  rw [ht] at hP1
  obtain ⟨hP, hD⟩ := va_join (wr := []) (w1 := []) hP hD [] [] rfl rfl (by decide) (by decide) hk1 hFc hP1 hD1
  generalize H1 = H at hP hS ⊢
  have hP : va_P (dC, dI) vwCl [] H := hP
  have hD : va_D A [] := hD
  try dsimp only at hw
  by_cases c_2 : (0 : Int64) ≤ v.toInt64 ∧ v.toInt64 ≤ (2 : Int64)
  · rw [if_pos c_2] at hw
    refine k_topi (v := 1) hw ?_
    have hP9 := hP.sub (ws' := []) [] rfl
    have hD9 := hD.sub (ws' := []) [] (by decide) rfl
    exact W.zret (v := 1) hx₀ hb hr (by decide +kernel) (fun t₀ ht hW => ⟨⟨1, (), rfl, (lf_c_isText_1 v c_2), by rw [ht]; exact hP9, va_K.moved hW.alike hK, hD9⟩, hS.F ht⟩) hS.2.2 dX12_isText_9
  rw [if_neg c_2] at hw
  refine k_topi (v := 0) hw ?_
  have hP9 := hP.sub (ws' := []) [] rfl
  have hD9 := hD.sub (ws' := []) [] (by decide) rfl
  exact W.zret (v := 0) hx₀ hb hr (by decide +kernel) (fun t₀ ht hW => ⟨⟨0, (), rfl, (lf_c_isText_2 v c_2), by rw [ht]; exact hP9, va_K.moved hW.alike hK, hD9⟩, hS.F ht⟩) hS.2.2 dX12_isText_9
set_option maxHeartbeats 4000000 in
set_option maxRecDepth 100000 in
theorem c_no2 (l : Launch) (dC : Nat → ClassId) (dI : Nat → Nat → Nat) (cI cJ cQ : ClassId) (sz : Nat)  : Met l yX12_no (kW yX12_no cX12_no 1 (some .long)) { frames := 0, cells := 0, slots := 0, locals := 0 } (kPre dC dI cI cJ cQ sz [.int (-2)] []) (va_Ql (fun (r : Int64) (_ : Unit) => r = (-9223372036854775806)) (fun _ t₀ => kB dC dI cI cJ cQ (va_A [] sz) [] t₀) (va_A [] sz)) 0 0 (va_A [] sz) := by
  refine Met.ofW (cc := cX12_no) (maxL := 1) (ret := (some .long)) (by decide) rfl ?_
  intro p₀ e₀ s₀ m₀ args below meth c₀ s₁ B hml hv₀
  obtain ⟨rfl, hsz, hP, hK, hD0, hN⟩ := hv₀
  have hx₀ := B.exec
  have hb := B.bytes
  have hr := B.returns
  have hts := atoms_spec (ws := (kW yX12_no cX12_no 1 (some .long))) B.pre
  have hts := fun w h => hts w (List.mem_cons_of_mem _ h)
  have hown : s₀.vm.findClass RX12 = some m₀.cls := findClass_of_methodNamed B.named
  have hlocks := B.notSynchronized
  subst hsz
  have hD := hD0.self (sz := s₀.heap.size)
  generalize hAe : va_A [] s₀.heap.size = A at hD ⊢
  have hA : ∀ q : Nat, s₀.heap.size ≤ q → A q := fun q h => by rw [← hAe]; exact Or.inr h
  have hS : va_S A s₀.heap s₀.heap [] := va_S.rf
  have hP : va_P (dC, dI) vwCl [] s₀.heap := hP
  have hl := lv_entry ([.int (-2)]) (n := 1) (Nat.le_of_ble_eq_true rfl)
  rw [lg_entry_eq]
  generalize (lg_sl ([.int (-2)]) ++ List.replicate (1 - (lg_sl ([.int (-2)])).length) Slot.unset).toArray = ls at hl ⊢
  have hl : lv_has ls 1 [(0, .int (-2))] := hl
  obtain ⟨H, hH⟩ : ∃ z : Heap, z = s₀.heap := ⟨_, rfl⟩
  rw [← hH] at hP
  have hS : va_S A s₀.heap H [] := by rw [hH]; exact hS
  refine k_heap hH ?_
  have hD : va_D A [] := hD
  obtain ⟨locs, hlo⟩ : ∃ z : List Loc, z = [] := ⟨_, rfl⟩
  rw [← hlo] at hS ⊢
  clear hlo hH hAe hD0
  refine lv_ldc2 (v := (-9223372036854775808)) hx₀ hb hown (hts (.constantLong RX12 63 (-9223372036854775808)) wd_829) dX12_no_0 ?_
  refine lv_iload_n hx₀ hb dX12_no_3 rfl (lv_at hl 0 rfl) ?_
  refine lv_i2l (v := (-2)) hx₀ hb dX12_no_4 (by decide +kernel) ?_
  refine lv_lsub hx₀ hb dX12_no_5 ?_
  refine k_topl (v := (-9223372036854775806)) (by decide +kernel) ?_
  have hP9 := hP.sub (ws' := []) [] rfl
  have hD9 := hD.sub (ws' := []) [] (by decide) rfl
  exact W.lret (v := (-9223372036854775806)) hx₀ hb hr (fun t₀ ht hW => ⟨⟨(-9223372036854775806), (), rfl, rfl, by rw [ht]; exact hP9, va_K.moved hW.alike hK, hD9⟩, hS.F ht⟩) hS.2.2 dX12_no_6
end
section
theorem lf_c_isFull_X4_1 (ln : Int32) (c_1 : ln < 24) : (0 : Int32) = if 24 ≤ ln then 1 else 0 := by
  repeat first | rfl | rw [if_pos (by (first | omega | (simp only [Int64.le_iff_toInt_le, Int64.lt_iff_toInt_lt, Int32.le_iff_toInt_le, Int32.lt_iff_toInt_lt, ← Int32.toInt_inj, ← Int64.toInt_inj, Int32.toInt_toInt64, (show (0 : Int32).toInt = 0 from by decide), (show (0 : Int64).toInt = 0 from by decide), (show (1 : Int32).toInt = 1 from by decide), (show (1 : Int64).toInt = 1 from by decide), (show (24 : Int32).toInt = 24 from by decide), (show (24 : Int64).toInt = 24 from by decide)] at *; omega)))] | rw [if_neg (by (first | omega | (simp only [Int64.le_iff_toInt_le, Int64.lt_iff_toInt_lt, Int32.le_iff_toInt_le, Int32.lt_iff_toInt_lt, ← Int32.toInt_inj, ← Int64.toInt_inj, Int32.toInt_toInt64, (show (0 : Int32).toInt = 0 from by decide), (show (0 : Int64).toInt = 0 from by decide), (show (1 : Int32).toInt = 1 from by decide), (show (1 : Int64).toInt = 1 from by decide), (show (24 : Int32).toInt = 24 from by decide), (show (24 : Int64).toInt = 24 from by decide)] at *; omega)))]
theorem lf_c_isFull_X4_2 (ln : Int32) (c_1 : ¬ ln < 24) : (1 : Int32) = if 24 ≤ ln then 1 else 0 := by
  repeat first | rfl | rw [if_pos (by (first | omega | (simp only [Int64.le_iff_toInt_le, Int64.lt_iff_toInt_lt, Int32.le_iff_toInt_le, Int32.lt_iff_toInt_lt, ← Int32.toInt_inj, ← Int64.toInt_inj, Int32.toInt_toInt64, (show (0 : Int32).toInt = 0 from by decide), (show (0 : Int64).toInt = 0 from by decide), (show (1 : Int32).toInt = 1 from by decide), (show (1 : Int64).toInt = 1 from by decide), (show (24 : Int32).toInt = 24 from by decide), (show (24 : Int64).toInt = 24 from by decide)] at *; omega)))] | rw [if_neg (by (first | omega | (simp only [Int64.le_iff_toInt_le, Int64.lt_iff_toInt_lt, Int32.le_iff_toInt_le, Int32.lt_iff_toInt_lt, ← Int32.toInt_inj, ← Int64.toInt_inj, Int32.toInt_toInt64, (show (0 : Int32).toInt = 0 from by decide), (show (0 : Int64).toInt = 0 from by decide), (show (1 : Int32).toInt = 1 from by decide), (show (1 : Int64).toInt = 1 from by decide), (show (24 : Int32).toInt = 24 from by decide), (show (24 : Int64).toInt = 24 from by decide)] at *; omega)))]
set_option maxHeartbeats 4000000 in
set_option maxRecDepth 100000 in
theorem c_isFull_X4 (l : Launch) (dC : Nat → ClassId) (dI : Nat → Nat → Nat) (cI cJ cQ : ClassId) (sz : Nat) (h : Nat) (hv : Nat) (ln : Int32) (fa : Int32) (nu : Int32) (f : Nat → Int32) : Met l yX9_isFull (kW yX9_isFull cX9_isFull 1 (some .boolean)) { frames := 0, cells := 0, slots := 0, locals := 0 } (kPre dC dI cI cJ cQ sz [.ref h] [(h, .inr (4, [.ref hv, .int ln, .int fa, .int nu])), (hv, .inl (cI, 24, .inl f))]) (va_Qi (fun (r : Int32) (_ : Unit) => r = if 24 ≤ ln then 1 else 0) (fun _ t₀ => kB dC dI cI cJ cQ (va_A [(h, .inr (4, [.ref hv, .int ln, .int fa, .int nu])), (hv, .inl (cI, 24, .inl f))] sz) [(h, .inr (4, [.ref hv, .int ln, .int fa, .int nu])), (hv, .inl (cI, 24, .inl f))] t₀) (va_A [(h, .inr (4, [.ref hv, .int ln, .int fa, .int nu])), (hv, .inl (cI, 24, .inl f))] sz)) 0 0 (va_A [(h, .inr (4, [.ref hv, .int ln, .int fa, .int nu])), (hv, .inl (cI, 24, .inl f))] sz) := by
  refine Met.ofW (cc := cX9_isFull) (maxL := 1) (ret := (some .boolean)) (by decide) rfl ?_
  intro p₀ e₀ s₀ m₀ args below meth c₀ s₁ B hml hv₀
  obtain ⟨rfl, hsz, hP, hK, hD0, hN⟩ := hv₀
  have hx₀ := B.exec
  have hb := B.bytes
  have hr := B.returns
  have hts := atoms_spec (ws := (kW yX9_isFull cX9_isFull 1 (some .boolean))) B.pre
  have hts := fun w h => hts w (List.mem_cons_of_mem _ h)
  have hown : s₀.vm.findClass RX9 = some m₀.cls := findClass_of_methodNamed B.named
  have hlocks := B.notSynchronized
  subst hsz
  have hD := hD0.self (sz := s₀.heap.size)
  generalize hAe : va_A [(h, .inr (4, [.ref hv, .int ln, .int fa, .int nu])), (hv, .inl (cI, 24, .inl f))] s₀.heap.size = A at hD ⊢
  have hA : ∀ q : Nat, s₀.heap.size ≤ q → A q := fun q h => by rw [← hAe]; exact Or.inr h
  have hS : va_S A s₀.heap s₀.heap [] := va_S.rf
  have hP : va_P (dC, dI) vwCl [(h, .inr (4, [.ref hv, .int ln, .int fa, .int nu])), (hv, .inl (cI, 24, .inl f))] s₀.heap := hP
  have hl := lv_entry ([.ref h]) (n := 1) (Nat.le_of_ble_eq_true rfl)
  rw [lg_entry_eq]
  generalize (lg_sl ([.ref h]) ++ List.replicate (1 - (lg_sl ([.ref h])).length) Slot.unset).toArray = ls at hl ⊢
  have hl : lv_has ls 1 [(0, .ref h)] := hl
  obtain ⟨H, hH⟩ : ∃ z : Heap, z = s₀.heap := ⟨_, rfl⟩
  rw [← hH] at hP
  have hS : va_S A s₀.heap H [] := by rw [hH]; exact hS
  refine k_heap hH ?_
  have hD : va_D A [(h, .inr (4, [.ref hv, .int ln, .int fa, .int nu])), (hv, .inl (cI, 24, .inl f))] := hD
  obtain ⟨locs, hlo⟩ : ∃ z : List Loc, z = [] := ⟨_, rfl⟩
  rw [← hlo] at hS ⊢
  clear hlo hH hAe hD0
  refine lv_aload_n hx₀ hb dX9_isFull_0 rfl (lv_at hl 0 rfl) ?_
  refine va_get (D := (dC, dI)) (ci := 4) (v := .int ln) (C := RX4) (T := TX4) (N := 4) hx₀ hb hts inlX4 hown hK hP 0 rfl rfl 1 (by decide) (hts (.fieldLink RX9 25 "BittenStick$Text" "length" "I") wd_147) (fun _ h9 => h9) rfl dX9_isFull_1 ?_
  refine lv_aload_n hx₀ hb dX9_isFull_4 rfl (lv_at hl 0 rfl) ?_
  refine va_get (D := (dC, dI)) (ci := 4) (v := .ref hv) (C := RX4) (T := TX4) (N := 4) hx₀ hb hts inlX4 hown hK hP 0 rfl rfl 0 (by decide) (hts (.fieldLink RX9 21 "BittenStick$Text" "values" "[I") wd_65) (fun _ h9 => h9) rfl dX9_isFull_5 ?_
  refine va_alen (v := 24) hx₀ hb hK hP 1 0 rfl rfl rfl dX9_isFull_8 ?_
  refine lv_icmp_lt (tgt := 16) hx₀ hb dX9_isFull_9 (by decide) (fun c_1 => ?_) (fun c_1 => ?_)
  · refine lv_iconst (v := 0) hx₀ hb dX9_isFull_16 (by decide +kernel) ?_
    have hP9 := hP.sub (ws' := [(h, .inr (4, [.ref hv, .int ln, .int fa, .int nu])), (hv, .inl (cI, 24, .inl f))]) [0, 1] rfl
    have hD9 := hD.sub (ws' := [(h, .inr (4, [.ref hv, .int ln, .int fa, .int nu])), (hv, .inl (cI, 24, .inl f))]) [0, 1] (by decide) rfl
    exact W.zret (v := 0) hx₀ hb hr (by decide +kernel) (fun t₀ ht hW => ⟨⟨0, (), rfl, (lf_c_isFull_X4_1 ln c_1), by rw [ht]; exact hP9, va_K.moved hW.alike hK, hD9⟩, hS.F ht⟩) hS.2.2 dX9_isFull_17
  · refine lv_iconst (v := 1) hx₀ hb dX9_isFull_12 (by decide +kernel) ?_
    refine lv_goto (tgt := 17) hx₀ hb dX9_isFull_13 (by decide) ?_
    have hP9 := hP.sub (ws' := [(h, .inr (4, [.ref hv, .int ln, .int fa, .int nu])), (hv, .inl (cI, 24, .inl f))]) [0, 1] rfl
    have hD9 := hD.sub (ws' := [(h, .inr (4, [.ref hv, .int ln, .int fa, .int nu])), (hv, .inl (cI, 24, .inl f))]) [0, 1] (by decide) rfl
    exact W.zret (v := 1) hx₀ hb hr (by decide +kernel) (fun t₀ ht hW => ⟨⟨1, (), rfl, (lf_c_isFull_X4_2 ln c_1), by rw [ht]; exact hP9, va_K.moved hW.alike hK, hD9⟩, hS.F ht⟩) hS.2.2 dX9_isFull_17
theorem lf_c_tHas_X4_1 (k : Int32) (nu : Int32) (c_1 : k < 0) : (0 : Int32) = if 0 ≤ k ∧ k < nu then 1 else 0 := by
  repeat first | rfl | rw [if_pos (by (first | omega | (simp only [Int64.le_iff_toInt_le, Int64.lt_iff_toInt_lt, Int32.le_iff_toInt_le, Int32.lt_iff_toInt_lt, ← Int32.toInt_inj, ← Int64.toInt_inj, Int32.toInt_toInt64, (show (0 : Int32).toInt = 0 from by decide), (show (0 : Int64).toInt = 0 from by decide), (show (1 : Int32).toInt = 1 from by decide), (show (1 : Int64).toInt = 1 from by decide)] at *; omega)))] | rw [if_neg (by (first | omega | (simp only [Int64.le_iff_toInt_le, Int64.lt_iff_toInt_lt, Int32.le_iff_toInt_le, Int32.lt_iff_toInt_lt, ← Int32.toInt_inj, ← Int64.toInt_inj, Int32.toInt_toInt64, (show (0 : Int32).toInt = 0 from by decide), (show (0 : Int64).toInt = 0 from by decide), (show (1 : Int32).toInt = 1 from by decide), (show (1 : Int64).toInt = 1 from by decide)] at *; omega)))]
theorem lf_c_tHas_X4_2 (k : Int32) (nu : Int32) (c_1 : ¬ k < 0) (c_2 : nu ≤ k) : (0 : Int32) = if 0 ≤ k ∧ k < nu then 1 else 0 := by
  repeat first | rfl | rw [if_pos (by (first | omega | (simp only [Int64.le_iff_toInt_le, Int64.lt_iff_toInt_lt, Int32.le_iff_toInt_le, Int32.lt_iff_toInt_lt, ← Int32.toInt_inj, ← Int64.toInt_inj, Int32.toInt_toInt64, (show (0 : Int32).toInt = 0 from by decide), (show (0 : Int64).toInt = 0 from by decide), (show (1 : Int32).toInt = 1 from by decide), (show (1 : Int64).toInt = 1 from by decide)] at *; omega)))] | rw [if_neg (by (first | omega | (simp only [Int64.le_iff_toInt_le, Int64.lt_iff_toInt_lt, Int32.le_iff_toInt_le, Int32.lt_iff_toInt_lt, ← Int32.toInt_inj, ← Int64.toInt_inj, Int32.toInt_toInt64, (show (0 : Int32).toInt = 0 from by decide), (show (0 : Int64).toInt = 0 from by decide), (show (1 : Int32).toInt = 1 from by decide), (show (1 : Int64).toInt = 1 from by decide)] at *; omega)))]
theorem lf_c_tHas_X4_3 (k : Int32) (nu : Int32) (c_1 : ¬ k < 0) (c_2 : ¬ nu ≤ k) : (1 : Int32) = if 0 ≤ k ∧ k < nu then 1 else 0 := by
  repeat first | rfl | rw [if_pos (by (first | omega | (simp only [Int64.le_iff_toInt_le, Int64.lt_iff_toInt_lt, Int32.le_iff_toInt_le, Int32.lt_iff_toInt_lt, ← Int32.toInt_inj, ← Int64.toInt_inj, Int32.toInt_toInt64, (show (0 : Int32).toInt = 0 from by decide), (show (0 : Int64).toInt = 0 from by decide), (show (1 : Int32).toInt = 1 from by decide), (show (1 : Int64).toInt = 1 from by decide)] at *; omega)))] | rw [if_neg (by (first | omega | (simp only [Int64.le_iff_toInt_le, Int64.lt_iff_toInt_lt, Int32.le_iff_toInt_le, Int32.lt_iff_toInt_lt, ← Int32.toInt_inj, ← Int64.toInt_inj, Int32.toInt_toInt64, (show (0 : Int32).toInt = 0 from by decide), (show (0 : Int64).toInt = 0 from by decide), (show (1 : Int32).toInt = 1 from by decide), (show (1 : Int64).toInt = 1 from by decide)] at *; omega)))]
set_option maxHeartbeats 4000000 in
set_option maxRecDepth 100000 in
theorem c_tHas_X4 (l : Launch) (dC : Nat → ClassId) (dI : Nat → Nat → Nat) (cI cJ cQ : ClassId) (sz : Nat) (h : Nat) (k : Int32) (hv : Nat) (ln : Int32) (fa : Int32) (nu : Int32) : Met l yX9_has (kW yX9_has cX9_has 2 (some .boolean)) { frames := 0, cells := 0, slots := 0, locals := 0 } (kPre dC dI cI cJ cQ sz [.ref h, .int k] [(h, .inr (4, [.ref hv, .int ln, .int fa, .int nu]))]) (va_Qi (fun (r : Int32) (_ : Unit) => r = if 0 ≤ k ∧ k < nu then 1 else 0) (fun _ t₀ => kB dC dI cI cJ cQ (va_A [(h, .inr (4, [.ref hv, .int ln, .int fa, .int nu]))] sz) [(h, .inr (4, [.ref hv, .int ln, .int fa, .int nu]))] t₀) (va_A [(h, .inr (4, [.ref hv, .int ln, .int fa, .int nu]))] sz)) 0 0 (va_A [(h, .inr (4, [.ref hv, .int ln, .int fa, .int nu]))] sz) := by
  refine Met.ofW (cc := cX9_has) (maxL := 2) (ret := (some .boolean)) (by decide) rfl ?_
  intro p₀ e₀ s₀ m₀ args below meth c₀ s₁ B hml hv₀
  obtain ⟨rfl, hsz, hP, hK, hD0, hN⟩ := hv₀
  have hx₀ := B.exec
  have hb := B.bytes
  have hr := B.returns
  have hts := atoms_spec (ws := (kW yX9_has cX9_has 2 (some .boolean))) B.pre
  have hts := fun w h => hts w (List.mem_cons_of_mem _ h)
  have hown : s₀.vm.findClass RX9 = some m₀.cls := findClass_of_methodNamed B.named
  have hlocks := B.notSynchronized
  subst hsz
  have hD := hD0.self (sz := s₀.heap.size)
  generalize hAe : va_A [(h, .inr (4, [.ref hv, .int ln, .int fa, .int nu]))] s₀.heap.size = A at hD ⊢
  have hA : ∀ q : Nat, s₀.heap.size ≤ q → A q := fun q h => by rw [← hAe]; exact Or.inr h
  have hS : va_S A s₀.heap s₀.heap [] := va_S.rf
  have hP : va_P (dC, dI) vwCl [(h, .inr (4, [.ref hv, .int ln, .int fa, .int nu]))] s₀.heap := hP
  have hl := lv_entry ([.ref h, .int k]) (n := 2) (Nat.le_of_ble_eq_true rfl)
  rw [lg_entry_eq]
  generalize (lg_sl ([.ref h, .int k]) ++ List.replicate (2 - (lg_sl ([.ref h, .int k])).length) Slot.unset).toArray = ls at hl ⊢
  have hl : lv_has ls 2 [(0, .ref h), (1, .int k)] := hl
  obtain ⟨H, hH⟩ : ∃ z : Heap, z = s₀.heap := ⟨_, rfl⟩
  rw [← hH] at hP
  have hS : va_S A s₀.heap H [] := by rw [hH]; exact hS
  refine k_heap hH ?_
  have hD : va_D A [(h, .inr (4, [.ref hv, .int ln, .int fa, .int nu]))] := hD
  obtain ⟨locs, hlo⟩ : ∃ z : List Loc, z = [] := ⟨_, rfl⟩
  rw [← hlo] at hS ⊢
  clear hlo hH hAe hD0
  refine lv_iload_n hx₀ hb dX9_has_0 rfl (lv_at hl 1 rfl) ?_
  refine lv_if_lt (tgt := 16) hx₀ hb dX9_has_1 (by decide) (fun c_1 => ?_) (fun c_1 => ?_)
  · refine lv_iconst (v := 0) hx₀ hb dX9_has_16 (by decide +kernel) ?_
    have hP9 := hP.sub (ws' := [(h, .inr (4, [.ref hv, .int ln, .int fa, .int nu]))]) [0] rfl
    have hD9 := hD.sub (ws' := [(h, .inr (4, [.ref hv, .int ln, .int fa, .int nu]))]) [0] (by decide) rfl
    exact W.zret (v := 0) hx₀ hb hr (by decide +kernel) (fun t₀ ht hW => ⟨⟨0, (), rfl, (lf_c_tHas_X4_1 k nu c_1), by rw [ht]; exact hP9, va_K.moved hW.alike hK, hD9⟩, hS.F ht⟩) hS.2.2 dX9_has_17
  · refine lv_iload_n hx₀ hb dX9_has_4 rfl (lv_at hl 1 rfl) ?_
    refine lv_aload_n hx₀ hb dX9_has_5 rfl (lv_at hl 0 rfl) ?_
    refine va_get (D := (dC, dI)) (ci := 4) (v := .int nu) (C := RX4) (T := TX4) (N := 4) hx₀ hb hts inlX4 hown hK hP 0 rfl rfl 3 (by decide) (hts (.fieldLink RX9 37 "BittenStick$Text" "number" "I") wd_174) (fun _ h9 => h9) rfl dX9_has_6 ?_
    refine lv_icmp_ge (tgt := 16) hx₀ hb dX9_has_9 (by decide) (fun c_2 => ?_) (fun c_2 => ?_)
    · refine lv_iconst (v := 0) hx₀ hb dX9_has_16 (by decide +kernel) ?_
      have hP9 := hP.sub (ws' := [(h, .inr (4, [.ref hv, .int ln, .int fa, .int nu]))]) [0] rfl
      have hD9 := hD.sub (ws' := [(h, .inr (4, [.ref hv, .int ln, .int fa, .int nu]))]) [0] (by decide) rfl
      exact W.zret (v := 0) hx₀ hb hr (by decide +kernel) (fun t₀ ht hW => ⟨⟨0, (), rfl, (lf_c_tHas_X4_2 k nu c_1 c_2), by rw [ht]; exact hP9, va_K.moved hW.alike hK, hD9⟩, hS.F ht⟩) hS.2.2 dX9_has_17
    · refine lv_iconst (v := 1) hx₀ hb dX9_has_12 (by decide +kernel) ?_
      refine lv_goto (tgt := 17) hx₀ hb dX9_has_13 (by decide) ?_
      have hP9 := hP.sub (ws' := [(h, .inr (4, [.ref hv, .int ln, .int fa, .int nu]))]) [0] rfl
      have hD9 := hD.sub (ws' := [(h, .inr (4, [.ref hv, .int ln, .int fa, .int nu]))]) [0] (by decide) rfl
      exact W.zret (v := 1) hx₀ hb hr (by decide +kernel) (fun t₀ ht hW => ⟨⟨1, (), rfl, (lf_c_tHas_X4_3 k nu c_1 c_2), by rw [ht]; exact hP9, va_K.moved hW.alike hK, hD9⟩, hS.F ht⟩) hS.2.2 dX9_has_17
theorem lf_c_valueAt_X4_1 (k : Int32) (f : Nat → Int32) (c_1 : k < 0) : ((-1) : Int32) = if 0 ≤ k ∧ k < 24 then f k.toNatClampNeg else -1 := by
  repeat first | rfl | rw [if_pos (by (first | omega | (simp only [Int64.le_iff_toInt_le, Int64.lt_iff_toInt_lt, Int32.le_iff_toInt_le, Int32.lt_iff_toInt_lt, ← Int32.toInt_inj, ← Int64.toInt_inj, Int32.toInt_toInt64, (show (-1 : Int32).toInt = -1 from by decide), (show (-1 : Int64).toInt = -1 from by decide), (show (0 : Int32).toInt = 0 from by decide), (show (0 : Int64).toInt = 0 from by decide), (show (24 : Int32).toInt = 24 from by decide), (show (24 : Int64).toInt = 24 from by decide)] at *; omega)))] | rw [if_neg (by (first | omega | (simp only [Int64.le_iff_toInt_le, Int64.lt_iff_toInt_lt, Int32.le_iff_toInt_le, Int32.lt_iff_toInt_lt, ← Int32.toInt_inj, ← Int64.toInt_inj, Int32.toInt_toInt64, (show (-1 : Int32).toInt = -1 from by decide), (show (-1 : Int64).toInt = -1 from by decide), (show (0 : Int32).toInt = 0 from by decide), (show (0 : Int64).toInt = 0 from by decide), (show (24 : Int32).toInt = 24 from by decide), (show (24 : Int64).toInt = 24 from by decide)] at *; omega)))]
theorem lf_c_valueAt_X4_2 (k : Int32) (f : Nat → Int32) (c_1 : ¬ k < 0) (c_2 : 24 ≤ k) : ((-1) : Int32) = if 0 ≤ k ∧ k < 24 then f k.toNatClampNeg else -1 := by
  repeat first | rfl | rw [if_pos (by (first | omega | (simp only [Int64.le_iff_toInt_le, Int64.lt_iff_toInt_lt, Int32.le_iff_toInt_le, Int32.lt_iff_toInt_lt, ← Int32.toInt_inj, ← Int64.toInt_inj, Int32.toInt_toInt64, (show (-1 : Int32).toInt = -1 from by decide), (show (-1 : Int64).toInt = -1 from by decide), (show (0 : Int32).toInt = 0 from by decide), (show (0 : Int64).toInt = 0 from by decide), (show (24 : Int32).toInt = 24 from by decide), (show (24 : Int64).toInt = 24 from by decide)] at *; omega)))] | rw [if_neg (by (first | omega | (simp only [Int64.le_iff_toInt_le, Int64.lt_iff_toInt_lt, Int32.le_iff_toInt_le, Int32.lt_iff_toInt_lt, ← Int32.toInt_inj, ← Int64.toInt_inj, Int32.toInt_toInt64, (show (-1 : Int32).toInt = -1 from by decide), (show (-1 : Int64).toInt = -1 from by decide), (show (0 : Int32).toInt = 0 from by decide), (show (0 : Int64).toInt = 0 from by decide), (show (24 : Int32).toInt = 24 from by decide), (show (24 : Int64).toInt = 24 from by decide)] at *; omega)))]
theorem lf_c_valueAt_X4_3 (k : Int32) (c_1 : ¬ k < 0) (c_2 : ¬ 24 ≤ k) : 0 ≤ k.toInt ∧ k.toInt < 24 := by
  first | rfl | decide | (first | omega | (simp only [Int64.le_iff_toInt_le, Int64.lt_iff_toInt_lt, Int32.le_iff_toInt_le, Int32.lt_iff_toInt_lt, ← Int32.toInt_inj, ← Int64.toInt_inj, Int32.toInt_toInt64, (show (0 : Int32).toInt = 0 from by decide), (show (0 : Int64).toInt = 0 from by decide), (show (24 : Int32).toInt = 24 from by decide), (show (24 : Int64).toInt = 24 from by decide)] at *; omega))
theorem lf_c_valueAt_X4_4 (k : Int32) (f : Nat → Int32) (c_1 : ¬ k < 0) (c_2 : ¬ 24 ≤ k) : (f k.toNatClampNeg : Int32) = if 0 ≤ k ∧ k < 24 then f k.toNatClampNeg else -1 := by
  repeat first | rfl | rw [if_pos (by (first | omega | (simp only [Int64.le_iff_toInt_le, Int64.lt_iff_toInt_lt, Int32.le_iff_toInt_le, Int32.lt_iff_toInt_lt, ← Int32.toInt_inj, ← Int64.toInt_inj, Int32.toInt_toInt64, (show (-1 : Int32).toInt = -1 from by decide), (show (-1 : Int64).toInt = -1 from by decide), (show (0 : Int32).toInt = 0 from by decide), (show (0 : Int64).toInt = 0 from by decide), (show (24 : Int32).toInt = 24 from by decide), (show (24 : Int64).toInt = 24 from by decide)] at *; omega)))] | rw [if_neg (by (first | omega | (simp only [Int64.le_iff_toInt_le, Int64.lt_iff_toInt_lt, Int32.le_iff_toInt_le, Int32.lt_iff_toInt_lt, ← Int32.toInt_inj, ← Int64.toInt_inj, Int32.toInt_toInt64, (show (-1 : Int32).toInt = -1 from by decide), (show (-1 : Int64).toInt = -1 from by decide), (show (0 : Int32).toInt = 0 from by decide), (show (0 : Int64).toInt = 0 from by decide), (show (24 : Int32).toInt = 24 from by decide), (show (24 : Int64).toInt = 24 from by decide)] at *; omega)))]
set_option maxHeartbeats 4000000 in
set_option maxRecDepth 100000 in
theorem c_valueAt_X4 (l : Launch) (dC : Nat → ClassId) (dI : Nat → Nat → Nat) (cI cJ cQ : ClassId) (sz : Nat) (h : Nat) (k : Int32) (hv : Nat) (ln : Int32) (fa : Int32) (nu : Int32) (f : Nat → Int32) : Met l yX9_valueAt (kW yX9_valueAt cX9_valueAt 2 (some .int)) { frames := 0, cells := 0, slots := 0, locals := 0 } (kPre dC dI cI cJ cQ sz [.ref h, .int k] [(h, .inr (4, [.ref hv, .int ln, .int fa, .int nu])), (hv, .inl (cI, 24, .inl f))]) (va_Qi (fun (r : Int32) (_ : Unit) => r = if 0 ≤ k ∧ k < 24 then f k.toNatClampNeg else -1) (fun _ t₀ => kB dC dI cI cJ cQ (va_A [(h, .inr (4, [.ref hv, .int ln, .int fa, .int nu])), (hv, .inl (cI, 24, .inl f))] sz) [(h, .inr (4, [.ref hv, .int ln, .int fa, .int nu])), (hv, .inl (cI, 24, .inl f))] t₀) (va_A [(h, .inr (4, [.ref hv, .int ln, .int fa, .int nu])), (hv, .inl (cI, 24, .inl f))] sz)) 0 0 (va_A [(h, .inr (4, [.ref hv, .int ln, .int fa, .int nu])), (hv, .inl (cI, 24, .inl f))] sz) := by
  refine Met.ofW (cc := cX9_valueAt) (maxL := 2) (ret := (some .int)) (by decide) rfl ?_
  intro p₀ e₀ s₀ m₀ args below meth c₀ s₁ B hml hv₀
  obtain ⟨rfl, hsz, hP, hK, hD0, hN⟩ := hv₀
  have hx₀ := B.exec
  have hb := B.bytes
  have hr := B.returns
  have hts := atoms_spec (ws := (kW yX9_valueAt cX9_valueAt 2 (some .int))) B.pre
  have hts := fun w h => hts w (List.mem_cons_of_mem _ h)
  have hown : s₀.vm.findClass RX9 = some m₀.cls := findClass_of_methodNamed B.named
  have hlocks := B.notSynchronized
  subst hsz
  have hD := hD0.self (sz := s₀.heap.size)
  generalize hAe : va_A [(h, .inr (4, [.ref hv, .int ln, .int fa, .int nu])), (hv, .inl (cI, 24, .inl f))] s₀.heap.size = A at hD ⊢
  have hA : ∀ q : Nat, s₀.heap.size ≤ q → A q := fun q h => by rw [← hAe]; exact Or.inr h
  have hS : va_S A s₀.heap s₀.heap [] := va_S.rf
  have hP : va_P (dC, dI) vwCl [(h, .inr (4, [.ref hv, .int ln, .int fa, .int nu])), (hv, .inl (cI, 24, .inl f))] s₀.heap := hP
  have hl := lv_entry ([.ref h, .int k]) (n := 2) (Nat.le_of_ble_eq_true rfl)
  rw [lg_entry_eq]
  generalize (lg_sl ([.ref h, .int k]) ++ List.replicate (2 - (lg_sl ([.ref h, .int k])).length) Slot.unset).toArray = ls at hl ⊢
  have hl : lv_has ls 2 [(0, .ref h), (1, .int k)] := hl
  obtain ⟨H, hH⟩ : ∃ z : Heap, z = s₀.heap := ⟨_, rfl⟩
  rw [← hH] at hP
  have hS : va_S A s₀.heap H [] := by rw [hH]; exact hS
  refine k_heap hH ?_
  have hD : va_D A [(h, .inr (4, [.ref hv, .int ln, .int fa, .int nu])), (hv, .inl (cI, 24, .inl f))] := hD
  obtain ⟨locs, hlo⟩ : ∃ z : List Loc, z = [] := ⟨_, rfl⟩
  rw [← hlo] at hS ⊢
  clear hlo hH hAe hD0
  refine lv_iload_n hx₀ hb dX9_valueAt_0 rfl (lv_at hl 1 rfl) ?_
  refine lv_if_lt (tgt := 22) hx₀ hb dX9_valueAt_1 (by decide) (fun c_1 => ?_) (fun c_1 => ?_)
  · refine lv_iconst (v := (-1)) hx₀ hb dX9_valueAt_22 (by decide +kernel) ?_
    have hP9 := hP.sub (ws' := [(h, .inr (4, [.ref hv, .int ln, .int fa, .int nu])), (hv, .inl (cI, 24, .inl f))]) [0, 1] rfl
    have hD9 := hD.sub (ws' := [(h, .inr (4, [.ref hv, .int ln, .int fa, .int nu])), (hv, .inl (cI, 24, .inl f))]) [0, 1] (by decide) rfl
    exact W.iret (v := (-1)) hx₀ hb hr (fun t₀ ht hW => ⟨⟨(-1), (), rfl, (lf_c_valueAt_X4_1 k f c_1), by rw [ht]; exact hP9, va_K.moved hW.alike hK, hD9⟩, hS.F ht⟩) hS.2.2 dX9_valueAt_23
  · refine lv_iload_n hx₀ hb dX9_valueAt_4 rfl (lv_at hl 1 rfl) ?_
    refine lv_aload_n hx₀ hb dX9_valueAt_5 rfl (lv_at hl 0 rfl) ?_
    refine va_get (D := (dC, dI)) (ci := 4) (v := .ref hv) (C := RX4) (T := TX4) (N := 4) hx₀ hb hts inlX4 hown hK hP 0 rfl rfl 0 (by decide) (hts (.fieldLink RX9 21 "BittenStick$Text" "values" "[I") wd_65) (fun _ h9 => h9) rfl dX9_valueAt_6 ?_
    refine va_alen (v := 24) hx₀ hb hK hP 1 0 rfl rfl rfl dX9_valueAt_9 ?_
    refine lv_icmp_ge (tgt := 22) hx₀ hb dX9_valueAt_10 (by decide) (fun c_2 => ?_) (fun c_2 => ?_)
    · refine lv_iconst (v := (-1)) hx₀ hb dX9_valueAt_22 (by decide +kernel) ?_
      have hP9 := hP.sub (ws' := [(h, .inr (4, [.ref hv, .int ln, .int fa, .int nu])), (hv, .inl (cI, 24, .inl f))]) [0, 1] rfl
      have hD9 := hD.sub (ws' := [(h, .inr (4, [.ref hv, .int ln, .int fa, .int nu])), (hv, .inl (cI, 24, .inl f))]) [0, 1] (by decide) rfl
      exact W.iret (v := (-1)) hx₀ hb hr (fun t₀ ht hW => ⟨⟨(-1), (), rfl, (lf_c_valueAt_X4_2 k f c_1 c_2), by rw [ht]; exact hP9, va_K.moved hW.alike hK, hD9⟩, hS.F ht⟩) hS.2.2 dX9_valueAt_23
    · refine lv_aload_n hx₀ hb dX9_valueAt_13 rfl (lv_at hl 0 rfl) ?_
      refine va_get (D := (dC, dI)) (ci := 4) (v := .ref hv) (C := RX4) (T := TX4) (N := 4) hx₀ hb hts inlX4 hown hK hP 0 rfl rfl 0 (by decide) (hts (.fieldLink RX9 21 "BittenStick$Text" "values" "[I") wd_65) (fun _ h9 => h9) rfl dX9_valueAt_14 ?_
      refine lv_iload_n hx₀ hb dX9_valueAt_17 rfl (lv_at hl 1 rfl) ?_
      refine va_iald hx₀ hb hK hP 1 0 rfl rfl (vp_in_iff.mpr (lf_c_valueAt_X4_3 k c_1 c_2)) dX9_valueAt_18 ?_
      refine lv_goto (tgt := 23) hx₀ hb dX9_valueAt_19 (by decide) ?_
      have hP9 := hP.sub (ws' := [(h, .inr (4, [.ref hv, .int ln, .int fa, .int nu])), (hv, .inl (cI, 24, .inl f))]) [0, 1] rfl
      have hD9 := hD.sub (ws' := [(h, .inr (4, [.ref hv, .int ln, .int fa, .int nu])), (hv, .inl (cI, 24, .inl f))]) [0, 1] (by decide) rfl
      exact W.iret (v := f k.toNatClampNeg) hx₀ hb hr (fun t₀ ht hW => ⟨⟨f k.toNatClampNeg, (), rfl, (lf_c_valueAt_X4_4 k f c_1 c_2), by rw [ht]; exact hP9, va_K.moved hW.alike hK, hD9⟩, hS.F ht⟩) hS.2.2 dX9_valueAt_23
theorem lf_c_isFull_X7_1 (ln : Int32) (c_1 : ln < 39) : (0 : Int32) = if 39 ≤ ln then 1 else 0 := by
  repeat first | rfl | rw [if_pos (by (first | omega | (simp only [Int64.le_iff_toInt_le, Int64.lt_iff_toInt_lt, Int32.le_iff_toInt_le, Int32.lt_iff_toInt_lt, ← Int32.toInt_inj, ← Int64.toInt_inj, Int32.toInt_toInt64, (show (0 : Int32).toInt = 0 from by decide), (show (0 : Int64).toInt = 0 from by decide), (show (1 : Int32).toInt = 1 from by decide), (show (1 : Int64).toInt = 1 from by decide), (show (39 : Int32).toInt = 39 from by decide), (show (39 : Int64).toInt = 39 from by decide)] at *; omega)))] | rw [if_neg (by (first | omega | (simp only [Int64.le_iff_toInt_le, Int64.lt_iff_toInt_lt, Int32.le_iff_toInt_le, Int32.lt_iff_toInt_lt, ← Int32.toInt_inj, ← Int64.toInt_inj, Int32.toInt_toInt64, (show (0 : Int32).toInt = 0 from by decide), (show (0 : Int64).toInt = 0 from by decide), (show (1 : Int32).toInt = 1 from by decide), (show (1 : Int64).toInt = 1 from by decide), (show (39 : Int32).toInt = 39 from by decide), (show (39 : Int64).toInt = 39 from by decide)] at *; omega)))]
theorem lf_c_isFull_X7_2 (ln : Int32) (c_1 : ¬ ln < 39) : (1 : Int32) = if 39 ≤ ln then 1 else 0 := by
  repeat first | rfl | rw [if_pos (by (first | omega | (simp only [Int64.le_iff_toInt_le, Int64.lt_iff_toInt_lt, Int32.le_iff_toInt_le, Int32.lt_iff_toInt_lt, ← Int32.toInt_inj, ← Int64.toInt_inj, Int32.toInt_toInt64, (show (0 : Int32).toInt = 0 from by decide), (show (0 : Int64).toInt = 0 from by decide), (show (1 : Int32).toInt = 1 from by decide), (show (1 : Int64).toInt = 1 from by decide), (show (39 : Int32).toInt = 39 from by decide), (show (39 : Int64).toInt = 39 from by decide)] at *; omega)))] | rw [if_neg (by (first | omega | (simp only [Int64.le_iff_toInt_le, Int64.lt_iff_toInt_lt, Int32.le_iff_toInt_le, Int32.lt_iff_toInt_lt, ← Int32.toInt_inj, ← Int64.toInt_inj, Int32.toInt_toInt64, (show (0 : Int32).toInt = 0 from by decide), (show (0 : Int64).toInt = 0 from by decide), (show (1 : Int32).toInt = 1 from by decide), (show (1 : Int64).toInt = 1 from by decide), (show (39 : Int32).toInt = 39 from by decide), (show (39 : Int64).toInt = 39 from by decide)] at *; omega)))]
set_option maxHeartbeats 4000000 in
set_option maxRecDepth 100000 in
theorem c_isFull_X7 (l : Launch) (dC : Nat → ClassId) (dI : Nat → Nat → Nat) (cI cJ cQ : ClassId) (sz : Nat) (h : Nat) (hv : Nat) (ln : Int32) (fa : Int32) (nu : Int32) (f : Nat → Int32) : Met l yX9_isFull (kW yX9_isFull cX9_isFull 1 (some .boolean)) { frames := 0, cells := 0, slots := 0, locals := 0 } (kPre dC dI cI cJ cQ sz [.ref h] [(h, .inr (7, [.ref hv, .int ln, .int fa, .int nu])), (hv, .inl (cI, 39, .inl f))]) (va_Qi (fun (r : Int32) (_ : Unit) => r = if 39 ≤ ln then 1 else 0) (fun _ t₀ => kB dC dI cI cJ cQ (va_A [(h, .inr (7, [.ref hv, .int ln, .int fa, .int nu])), (hv, .inl (cI, 39, .inl f))] sz) [(h, .inr (7, [.ref hv, .int ln, .int fa, .int nu])), (hv, .inl (cI, 39, .inl f))] t₀) (va_A [(h, .inr (7, [.ref hv, .int ln, .int fa, .int nu])), (hv, .inl (cI, 39, .inl f))] sz)) 0 0 (va_A [(h, .inr (7, [.ref hv, .int ln, .int fa, .int nu])), (hv, .inl (cI, 39, .inl f))] sz) := by
  refine Met.ofW (cc := cX9_isFull) (maxL := 1) (ret := (some .boolean)) (by decide) rfl ?_
  intro p₀ e₀ s₀ m₀ args below meth c₀ s₁ B hml hv₀
  obtain ⟨rfl, hsz, hP, hK, hD0, hN⟩ := hv₀
  have hx₀ := B.exec
  have hb := B.bytes
  have hr := B.returns
  have hts := atoms_spec (ws := (kW yX9_isFull cX9_isFull 1 (some .boolean))) B.pre
  have hts := fun w h => hts w (List.mem_cons_of_mem _ h)
  have hown : s₀.vm.findClass RX9 = some m₀.cls := findClass_of_methodNamed B.named
  have hlocks := B.notSynchronized
  subst hsz
  have hD := hD0.self (sz := s₀.heap.size)
  generalize hAe : va_A [(h, .inr (7, [.ref hv, .int ln, .int fa, .int nu])), (hv, .inl (cI, 39, .inl f))] s₀.heap.size = A at hD ⊢
  have hA : ∀ q : Nat, s₀.heap.size ≤ q → A q := fun q h => by rw [← hAe]; exact Or.inr h
  have hS : va_S A s₀.heap s₀.heap [] := va_S.rf
  have hP : va_P (dC, dI) vwCl [(h, .inr (7, [.ref hv, .int ln, .int fa, .int nu])), (hv, .inl (cI, 39, .inl f))] s₀.heap := hP
  have hl := lv_entry ([.ref h]) (n := 1) (Nat.le_of_ble_eq_true rfl)
  rw [lg_entry_eq]
  generalize (lg_sl ([.ref h]) ++ List.replicate (1 - (lg_sl ([.ref h])).length) Slot.unset).toArray = ls at hl ⊢
  have hl : lv_has ls 1 [(0, .ref h)] := hl
  obtain ⟨H, hH⟩ : ∃ z : Heap, z = s₀.heap := ⟨_, rfl⟩
  rw [← hH] at hP
  have hS : va_S A s₀.heap H [] := by rw [hH]; exact hS
  refine k_heap hH ?_
  have hD : va_D A [(h, .inr (7, [.ref hv, .int ln, .int fa, .int nu])), (hv, .inl (cI, 39, .inl f))] := hD
  obtain ⟨locs, hlo⟩ : ∃ z : List Loc, z = [] := ⟨_, rfl⟩
  rw [← hlo] at hS ⊢
  clear hlo hH hAe hD0
  refine lv_aload_n hx₀ hb dX9_isFull_0 rfl (lv_at hl 0 rfl) ?_
  refine va_get (D := (dC, dI)) (ci := 7) (v := .int ln) (C := RX7) (T := TX7) (N := 4) hx₀ hb hts inlX7 hown hK hP 0 rfl rfl 1 (by decide) (hts (.fieldLink RX9 25 "BittenStick$Text" "length" "I") wd_147) (fun _ h9 => h9) rfl dX9_isFull_1 ?_
  refine lv_aload_n hx₀ hb dX9_isFull_4 rfl (lv_at hl 0 rfl) ?_
  refine va_get (D := (dC, dI)) (ci := 7) (v := .ref hv) (C := RX7) (T := TX7) (N := 4) hx₀ hb hts inlX7 hown hK hP 0 rfl rfl 0 (by decide) (hts (.fieldLink RX9 21 "BittenStick$Text" "values" "[I") wd_65) (fun _ h9 => h9) rfl dX9_isFull_5 ?_
  refine va_alen (v := 39) hx₀ hb hK hP 1 0 rfl rfl rfl dX9_isFull_8 ?_
  refine lv_icmp_lt (tgt := 16) hx₀ hb dX9_isFull_9 (by decide) (fun c_1 => ?_) (fun c_1 => ?_)
  · refine lv_iconst (v := 0) hx₀ hb dX9_isFull_16 (by decide +kernel) ?_
    have hP9 := hP.sub (ws' := [(h, .inr (7, [.ref hv, .int ln, .int fa, .int nu])), (hv, .inl (cI, 39, .inl f))]) [0, 1] rfl
    have hD9 := hD.sub (ws' := [(h, .inr (7, [.ref hv, .int ln, .int fa, .int nu])), (hv, .inl (cI, 39, .inl f))]) [0, 1] (by decide) rfl
    exact W.zret (v := 0) hx₀ hb hr (by decide +kernel) (fun t₀ ht hW => ⟨⟨0, (), rfl, (lf_c_isFull_X7_1 ln c_1), by rw [ht]; exact hP9, va_K.moved hW.alike hK, hD9⟩, hS.F ht⟩) hS.2.2 dX9_isFull_17
  · refine lv_iconst (v := 1) hx₀ hb dX9_isFull_12 (by decide +kernel) ?_
    refine lv_goto (tgt := 17) hx₀ hb dX9_isFull_13 (by decide) ?_
    have hP9 := hP.sub (ws' := [(h, .inr (7, [.ref hv, .int ln, .int fa, .int nu])), (hv, .inl (cI, 39, .inl f))]) [0, 1] rfl
    have hD9 := hD.sub (ws' := [(h, .inr (7, [.ref hv, .int ln, .int fa, .int nu])), (hv, .inl (cI, 39, .inl f))]) [0, 1] (by decide) rfl
    exact W.zret (v := 1) hx₀ hb hr (by decide +kernel) (fun t₀ ht hW => ⟨⟨1, (), rfl, (lf_c_isFull_X7_2 ln c_1), by rw [ht]; exact hP9, va_K.moved hW.alike hK, hD9⟩, hS.F ht⟩) hS.2.2 dX9_isFull_17
theorem lf_c_tHas_X7_1 (k : Int32) (nu : Int32) (c_1 : k < 0) : (0 : Int32) = if 0 ≤ k ∧ k < nu then 1 else 0 := by
  repeat first | rfl | rw [if_pos (by (first | omega | (simp only [Int64.le_iff_toInt_le, Int64.lt_iff_toInt_lt, Int32.le_iff_toInt_le, Int32.lt_iff_toInt_lt, ← Int32.toInt_inj, ← Int64.toInt_inj, Int32.toInt_toInt64, (show (0 : Int32).toInt = 0 from by decide), (show (0 : Int64).toInt = 0 from by decide), (show (1 : Int32).toInt = 1 from by decide), (show (1 : Int64).toInt = 1 from by decide)] at *; omega)))] | rw [if_neg (by (first | omega | (simp only [Int64.le_iff_toInt_le, Int64.lt_iff_toInt_lt, Int32.le_iff_toInt_le, Int32.lt_iff_toInt_lt, ← Int32.toInt_inj, ← Int64.toInt_inj, Int32.toInt_toInt64, (show (0 : Int32).toInt = 0 from by decide), (show (0 : Int64).toInt = 0 from by decide), (show (1 : Int32).toInt = 1 from by decide), (show (1 : Int64).toInt = 1 from by decide)] at *; omega)))]
theorem lf_c_tHas_X7_2 (k : Int32) (nu : Int32) (c_1 : ¬ k < 0) (c_2 : nu ≤ k) : (0 : Int32) = if 0 ≤ k ∧ k < nu then 1 else 0 := by
  repeat first | rfl | rw [if_pos (by (first | omega | (simp only [Int64.le_iff_toInt_le, Int64.lt_iff_toInt_lt, Int32.le_iff_toInt_le, Int32.lt_iff_toInt_lt, ← Int32.toInt_inj, ← Int64.toInt_inj, Int32.toInt_toInt64, (show (0 : Int32).toInt = 0 from by decide), (show (0 : Int64).toInt = 0 from by decide), (show (1 : Int32).toInt = 1 from by decide), (show (1 : Int64).toInt = 1 from by decide)] at *; omega)))] | rw [if_neg (by (first | omega | (simp only [Int64.le_iff_toInt_le, Int64.lt_iff_toInt_lt, Int32.le_iff_toInt_le, Int32.lt_iff_toInt_lt, ← Int32.toInt_inj, ← Int64.toInt_inj, Int32.toInt_toInt64, (show (0 : Int32).toInt = 0 from by decide), (show (0 : Int64).toInt = 0 from by decide), (show (1 : Int32).toInt = 1 from by decide), (show (1 : Int64).toInt = 1 from by decide)] at *; omega)))]
theorem lf_c_tHas_X7_3 (k : Int32) (nu : Int32) (c_1 : ¬ k < 0) (c_2 : ¬ nu ≤ k) : (1 : Int32) = if 0 ≤ k ∧ k < nu then 1 else 0 := by
  repeat first | rfl | rw [if_pos (by (first | omega | (simp only [Int64.le_iff_toInt_le, Int64.lt_iff_toInt_lt, Int32.le_iff_toInt_le, Int32.lt_iff_toInt_lt, ← Int32.toInt_inj, ← Int64.toInt_inj, Int32.toInt_toInt64, (show (0 : Int32).toInt = 0 from by decide), (show (0 : Int64).toInt = 0 from by decide), (show (1 : Int32).toInt = 1 from by decide), (show (1 : Int64).toInt = 1 from by decide)] at *; omega)))] | rw [if_neg (by (first | omega | (simp only [Int64.le_iff_toInt_le, Int64.lt_iff_toInt_lt, Int32.le_iff_toInt_le, Int32.lt_iff_toInt_lt, ← Int32.toInt_inj, ← Int64.toInt_inj, Int32.toInt_toInt64, (show (0 : Int32).toInt = 0 from by decide), (show (0 : Int64).toInt = 0 from by decide), (show (1 : Int32).toInt = 1 from by decide), (show (1 : Int64).toInt = 1 from by decide)] at *; omega)))]
set_option maxHeartbeats 4000000 in
set_option maxRecDepth 100000 in
theorem c_tHas_X7 (l : Launch) (dC : Nat → ClassId) (dI : Nat → Nat → Nat) (cI cJ cQ : ClassId) (sz : Nat) (h : Nat) (k : Int32) (hv : Nat) (ln : Int32) (fa : Int32) (nu : Int32) : Met l yX9_has (kW yX9_has cX9_has 2 (some .boolean)) { frames := 0, cells := 0, slots := 0, locals := 0 } (kPre dC dI cI cJ cQ sz [.ref h, .int k] [(h, .inr (7, [.ref hv, .int ln, .int fa, .int nu]))]) (va_Qi (fun (r : Int32) (_ : Unit) => r = if 0 ≤ k ∧ k < nu then 1 else 0) (fun _ t₀ => kB dC dI cI cJ cQ (va_A [(h, .inr (7, [.ref hv, .int ln, .int fa, .int nu]))] sz) [(h, .inr (7, [.ref hv, .int ln, .int fa, .int nu]))] t₀) (va_A [(h, .inr (7, [.ref hv, .int ln, .int fa, .int nu]))] sz)) 0 0 (va_A [(h, .inr (7, [.ref hv, .int ln, .int fa, .int nu]))] sz) := by
  refine Met.ofW (cc := cX9_has) (maxL := 2) (ret := (some .boolean)) (by decide) rfl ?_
  intro p₀ e₀ s₀ m₀ args below meth c₀ s₁ B hml hv₀
  obtain ⟨rfl, hsz, hP, hK, hD0, hN⟩ := hv₀
  have hx₀ := B.exec
  have hb := B.bytes
  have hr := B.returns
  have hts := atoms_spec (ws := (kW yX9_has cX9_has 2 (some .boolean))) B.pre
  have hts := fun w h => hts w (List.mem_cons_of_mem _ h)
  have hown : s₀.vm.findClass RX9 = some m₀.cls := findClass_of_methodNamed B.named
  have hlocks := B.notSynchronized
  subst hsz
  have hD := hD0.self (sz := s₀.heap.size)
  generalize hAe : va_A [(h, .inr (7, [.ref hv, .int ln, .int fa, .int nu]))] s₀.heap.size = A at hD ⊢
  have hA : ∀ q : Nat, s₀.heap.size ≤ q → A q := fun q h => by rw [← hAe]; exact Or.inr h
  have hS : va_S A s₀.heap s₀.heap [] := va_S.rf
  have hP : va_P (dC, dI) vwCl [(h, .inr (7, [.ref hv, .int ln, .int fa, .int nu]))] s₀.heap := hP
  have hl := lv_entry ([.ref h, .int k]) (n := 2) (Nat.le_of_ble_eq_true rfl)
  rw [lg_entry_eq]
  generalize (lg_sl ([.ref h, .int k]) ++ List.replicate (2 - (lg_sl ([.ref h, .int k])).length) Slot.unset).toArray = ls at hl ⊢
  have hl : lv_has ls 2 [(0, .ref h), (1, .int k)] := hl
  obtain ⟨H, hH⟩ : ∃ z : Heap, z = s₀.heap := ⟨_, rfl⟩
  rw [← hH] at hP
  have hS : va_S A s₀.heap H [] := by rw [hH]; exact hS
  refine k_heap hH ?_
  have hD : va_D A [(h, .inr (7, [.ref hv, .int ln, .int fa, .int nu]))] := hD
  obtain ⟨locs, hlo⟩ : ∃ z : List Loc, z = [] := ⟨_, rfl⟩
  rw [← hlo] at hS ⊢
  clear hlo hH hAe hD0
  refine lv_iload_n hx₀ hb dX9_has_0 rfl (lv_at hl 1 rfl) ?_
  refine lv_if_lt (tgt := 16) hx₀ hb dX9_has_1 (by decide) (fun c_1 => ?_) (fun c_1 => ?_)
  · refine lv_iconst (v := 0) hx₀ hb dX9_has_16 (by decide +kernel) ?_
    have hP9 := hP.sub (ws' := [(h, .inr (7, [.ref hv, .int ln, .int fa, .int nu]))]) [0] rfl
    have hD9 := hD.sub (ws' := [(h, .inr (7, [.ref hv, .int ln, .int fa, .int nu]))]) [0] (by decide) rfl
    exact W.zret (v := 0) hx₀ hb hr (by decide +kernel) (fun t₀ ht hW => ⟨⟨0, (), rfl, (lf_c_tHas_X7_1 k nu c_1), by rw [ht]; exact hP9, va_K.moved hW.alike hK, hD9⟩, hS.F ht⟩) hS.2.2 dX9_has_17
  · refine lv_iload_n hx₀ hb dX9_has_4 rfl (lv_at hl 1 rfl) ?_
    refine lv_aload_n hx₀ hb dX9_has_5 rfl (lv_at hl 0 rfl) ?_
    refine va_get (D := (dC, dI)) (ci := 7) (v := .int nu) (C := RX7) (T := TX7) (N := 4) hx₀ hb hts inlX7 hown hK hP 0 rfl rfl 3 (by decide) (hts (.fieldLink RX9 37 "BittenStick$Text" "number" "I") wd_174) (fun _ h9 => h9) rfl dX9_has_6 ?_
    refine lv_icmp_ge (tgt := 16) hx₀ hb dX9_has_9 (by decide) (fun c_2 => ?_) (fun c_2 => ?_)
    · refine lv_iconst (v := 0) hx₀ hb dX9_has_16 (by decide +kernel) ?_
      have hP9 := hP.sub (ws' := [(h, .inr (7, [.ref hv, .int ln, .int fa, .int nu]))]) [0] rfl
      have hD9 := hD.sub (ws' := [(h, .inr (7, [.ref hv, .int ln, .int fa, .int nu]))]) [0] (by decide) rfl
      exact W.zret (v := 0) hx₀ hb hr (by decide +kernel) (fun t₀ ht hW => ⟨⟨0, (), rfl, (lf_c_tHas_X7_2 k nu c_1 c_2), by rw [ht]; exact hP9, va_K.moved hW.alike hK, hD9⟩, hS.F ht⟩) hS.2.2 dX9_has_17
    · refine lv_iconst (v := 1) hx₀ hb dX9_has_12 (by decide +kernel) ?_
      refine lv_goto (tgt := 17) hx₀ hb dX9_has_13 (by decide) ?_
      have hP9 := hP.sub (ws' := [(h, .inr (7, [.ref hv, .int ln, .int fa, .int nu]))]) [0] rfl
      have hD9 := hD.sub (ws' := [(h, .inr (7, [.ref hv, .int ln, .int fa, .int nu]))]) [0] (by decide) rfl
      exact W.zret (v := 1) hx₀ hb hr (by decide +kernel) (fun t₀ ht hW => ⟨⟨1, (), rfl, (lf_c_tHas_X7_3 k nu c_1 c_2), by rw [ht]; exact hP9, va_K.moved hW.alike hK, hD9⟩, hS.F ht⟩) hS.2.2 dX9_has_17
theorem lf_c_valueAt_X7_1 (k : Int32) (f : Nat → Int32) (c_1 : k < 0) : ((-1) : Int32) = if 0 ≤ k ∧ k < 39 then f k.toNatClampNeg else -1 := by
  repeat first | rfl | rw [if_pos (by (first | omega | (simp only [Int64.le_iff_toInt_le, Int64.lt_iff_toInt_lt, Int32.le_iff_toInt_le, Int32.lt_iff_toInt_lt, ← Int32.toInt_inj, ← Int64.toInt_inj, Int32.toInt_toInt64, (show (-1 : Int32).toInt = -1 from by decide), (show (-1 : Int64).toInt = -1 from by decide), (show (0 : Int32).toInt = 0 from by decide), (show (0 : Int64).toInt = 0 from by decide), (show (39 : Int32).toInt = 39 from by decide), (show (39 : Int64).toInt = 39 from by decide)] at *; omega)))] | rw [if_neg (by (first | omega | (simp only [Int64.le_iff_toInt_le, Int64.lt_iff_toInt_lt, Int32.le_iff_toInt_le, Int32.lt_iff_toInt_lt, ← Int32.toInt_inj, ← Int64.toInt_inj, Int32.toInt_toInt64, (show (-1 : Int32).toInt = -1 from by decide), (show (-1 : Int64).toInt = -1 from by decide), (show (0 : Int32).toInt = 0 from by decide), (show (0 : Int64).toInt = 0 from by decide), (show (39 : Int32).toInt = 39 from by decide), (show (39 : Int64).toInt = 39 from by decide)] at *; omega)))]
theorem lf_c_valueAt_X7_2 (k : Int32) (f : Nat → Int32) (c_1 : ¬ k < 0) (c_2 : 39 ≤ k) : ((-1) : Int32) = if 0 ≤ k ∧ k < 39 then f k.toNatClampNeg else -1 := by
  repeat first | rfl | rw [if_pos (by (first | omega | (simp only [Int64.le_iff_toInt_le, Int64.lt_iff_toInt_lt, Int32.le_iff_toInt_le, Int32.lt_iff_toInt_lt, ← Int32.toInt_inj, ← Int64.toInt_inj, Int32.toInt_toInt64, (show (-1 : Int32).toInt = -1 from by decide), (show (-1 : Int64).toInt = -1 from by decide), (show (0 : Int32).toInt = 0 from by decide), (show (0 : Int64).toInt = 0 from by decide), (show (39 : Int32).toInt = 39 from by decide), (show (39 : Int64).toInt = 39 from by decide)] at *; omega)))] | rw [if_neg (by (first | omega | (simp only [Int64.le_iff_toInt_le, Int64.lt_iff_toInt_lt, Int32.le_iff_toInt_le, Int32.lt_iff_toInt_lt, ← Int32.toInt_inj, ← Int64.toInt_inj, Int32.toInt_toInt64, (show (-1 : Int32).toInt = -1 from by decide), (show (-1 : Int64).toInt = -1 from by decide), (show (0 : Int32).toInt = 0 from by decide), (show (0 : Int64).toInt = 0 from by decide), (show (39 : Int32).toInt = 39 from by decide), (show (39 : Int64).toInt = 39 from by decide)] at *; omega)))]
theorem lf_c_valueAt_X7_3 (k : Int32) (c_1 : ¬ k < 0) (c_2 : ¬ 39 ≤ k) : 0 ≤ k.toInt ∧ k.toInt < 39 := by
  first | rfl | decide | (first | omega | (simp only [Int64.le_iff_toInt_le, Int64.lt_iff_toInt_lt, Int32.le_iff_toInt_le, Int32.lt_iff_toInt_lt, ← Int32.toInt_inj, ← Int64.toInt_inj, Int32.toInt_toInt64, (show (0 : Int32).toInt = 0 from by decide), (show (0 : Int64).toInt = 0 from by decide), (show (39 : Int32).toInt = 39 from by decide), (show (39 : Int64).toInt = 39 from by decide)] at *; omega))
theorem lf_c_valueAt_X7_4 (k : Int32) (f : Nat → Int32) (c_1 : ¬ k < 0) (c_2 : ¬ 39 ≤ k) : (f k.toNatClampNeg : Int32) = if 0 ≤ k ∧ k < 39 then f k.toNatClampNeg else -1 := by
  repeat first | rfl | rw [if_pos (by (first | omega | (simp only [Int64.le_iff_toInt_le, Int64.lt_iff_toInt_lt, Int32.le_iff_toInt_le, Int32.lt_iff_toInt_lt, ← Int32.toInt_inj, ← Int64.toInt_inj, Int32.toInt_toInt64, (show (-1 : Int32).toInt = -1 from by decide), (show (-1 : Int64).toInt = -1 from by decide), (show (0 : Int32).toInt = 0 from by decide), (show (0 : Int64).toInt = 0 from by decide), (show (39 : Int32).toInt = 39 from by decide), (show (39 : Int64).toInt = 39 from by decide)] at *; omega)))] | rw [if_neg (by (first | omega | (simp only [Int64.le_iff_toInt_le, Int64.lt_iff_toInt_lt, Int32.le_iff_toInt_le, Int32.lt_iff_toInt_lt, ← Int32.toInt_inj, ← Int64.toInt_inj, Int32.toInt_toInt64, (show (-1 : Int32).toInt = -1 from by decide), (show (-1 : Int64).toInt = -1 from by decide), (show (0 : Int32).toInt = 0 from by decide), (show (0 : Int64).toInt = 0 from by decide), (show (39 : Int32).toInt = 39 from by decide), (show (39 : Int64).toInt = 39 from by decide)] at *; omega)))]
set_option maxHeartbeats 4000000 in
set_option maxRecDepth 100000 in
theorem c_valueAt_X7 (l : Launch) (dC : Nat → ClassId) (dI : Nat → Nat → Nat) (cI cJ cQ : ClassId) (sz : Nat) (h : Nat) (k : Int32) (hv : Nat) (ln : Int32) (fa : Int32) (nu : Int32) (f : Nat → Int32) : Met l yX9_valueAt (kW yX9_valueAt cX9_valueAt 2 (some .int)) { frames := 0, cells := 0, slots := 0, locals := 0 } (kPre dC dI cI cJ cQ sz [.ref h, .int k] [(h, .inr (7, [.ref hv, .int ln, .int fa, .int nu])), (hv, .inl (cI, 39, .inl f))]) (va_Qi (fun (r : Int32) (_ : Unit) => r = if 0 ≤ k ∧ k < 39 then f k.toNatClampNeg else -1) (fun _ t₀ => kB dC dI cI cJ cQ (va_A [(h, .inr (7, [.ref hv, .int ln, .int fa, .int nu])), (hv, .inl (cI, 39, .inl f))] sz) [(h, .inr (7, [.ref hv, .int ln, .int fa, .int nu])), (hv, .inl (cI, 39, .inl f))] t₀) (va_A [(h, .inr (7, [.ref hv, .int ln, .int fa, .int nu])), (hv, .inl (cI, 39, .inl f))] sz)) 0 0 (va_A [(h, .inr (7, [.ref hv, .int ln, .int fa, .int nu])), (hv, .inl (cI, 39, .inl f))] sz) := by
  refine Met.ofW (cc := cX9_valueAt) (maxL := 2) (ret := (some .int)) (by decide) rfl ?_
  intro p₀ e₀ s₀ m₀ args below meth c₀ s₁ B hml hv₀
  obtain ⟨rfl, hsz, hP, hK, hD0, hN⟩ := hv₀
  have hx₀ := B.exec
  have hb := B.bytes
  have hr := B.returns
  have hts := atoms_spec (ws := (kW yX9_valueAt cX9_valueAt 2 (some .int))) B.pre
  have hts := fun w h => hts w (List.mem_cons_of_mem _ h)
  have hown : s₀.vm.findClass RX9 = some m₀.cls := findClass_of_methodNamed B.named
  have hlocks := B.notSynchronized
  subst hsz
  have hD := hD0.self (sz := s₀.heap.size)
  generalize hAe : va_A [(h, .inr (7, [.ref hv, .int ln, .int fa, .int nu])), (hv, .inl (cI, 39, .inl f))] s₀.heap.size = A at hD ⊢
  have hA : ∀ q : Nat, s₀.heap.size ≤ q → A q := fun q h => by rw [← hAe]; exact Or.inr h
  have hS : va_S A s₀.heap s₀.heap [] := va_S.rf
  have hP : va_P (dC, dI) vwCl [(h, .inr (7, [.ref hv, .int ln, .int fa, .int nu])), (hv, .inl (cI, 39, .inl f))] s₀.heap := hP
  have hl := lv_entry ([.ref h, .int k]) (n := 2) (Nat.le_of_ble_eq_true rfl)
  rw [lg_entry_eq]
  generalize (lg_sl ([.ref h, .int k]) ++ List.replicate (2 - (lg_sl ([.ref h, .int k])).length) Slot.unset).toArray = ls at hl ⊢
  have hl : lv_has ls 2 [(0, .ref h), (1, .int k)] := hl
  obtain ⟨H, hH⟩ : ∃ z : Heap, z = s₀.heap := ⟨_, rfl⟩
  rw [← hH] at hP
  have hS : va_S A s₀.heap H [] := by rw [hH]; exact hS
  refine k_heap hH ?_
  have hD : va_D A [(h, .inr (7, [.ref hv, .int ln, .int fa, .int nu])), (hv, .inl (cI, 39, .inl f))] := hD
  obtain ⟨locs, hlo⟩ : ∃ z : List Loc, z = [] := ⟨_, rfl⟩
  rw [← hlo] at hS ⊢
  clear hlo hH hAe hD0
  refine lv_iload_n hx₀ hb dX9_valueAt_0 rfl (lv_at hl 1 rfl) ?_
  refine lv_if_lt (tgt := 22) hx₀ hb dX9_valueAt_1 (by decide) (fun c_1 => ?_) (fun c_1 => ?_)
  · refine lv_iconst (v := (-1)) hx₀ hb dX9_valueAt_22 (by decide +kernel) ?_
    have hP9 := hP.sub (ws' := [(h, .inr (7, [.ref hv, .int ln, .int fa, .int nu])), (hv, .inl (cI, 39, .inl f))]) [0, 1] rfl
    have hD9 := hD.sub (ws' := [(h, .inr (7, [.ref hv, .int ln, .int fa, .int nu])), (hv, .inl (cI, 39, .inl f))]) [0, 1] (by decide) rfl
    exact W.iret (v := (-1)) hx₀ hb hr (fun t₀ ht hW => ⟨⟨(-1), (), rfl, (lf_c_valueAt_X7_1 k f c_1), by rw [ht]; exact hP9, va_K.moved hW.alike hK, hD9⟩, hS.F ht⟩) hS.2.2 dX9_valueAt_23
  · refine lv_iload_n hx₀ hb dX9_valueAt_4 rfl (lv_at hl 1 rfl) ?_
    refine lv_aload_n hx₀ hb dX9_valueAt_5 rfl (lv_at hl 0 rfl) ?_
    refine va_get (D := (dC, dI)) (ci := 7) (v := .ref hv) (C := RX7) (T := TX7) (N := 4) hx₀ hb hts inlX7 hown hK hP 0 rfl rfl 0 (by decide) (hts (.fieldLink RX9 21 "BittenStick$Text" "values" "[I") wd_65) (fun _ h9 => h9) rfl dX9_valueAt_6 ?_
    refine va_alen (v := 39) hx₀ hb hK hP 1 0 rfl rfl rfl dX9_valueAt_9 ?_
    refine lv_icmp_ge (tgt := 22) hx₀ hb dX9_valueAt_10 (by decide) (fun c_2 => ?_) (fun c_2 => ?_)
    · refine lv_iconst (v := (-1)) hx₀ hb dX9_valueAt_22 (by decide +kernel) ?_
      have hP9 := hP.sub (ws' := [(h, .inr (7, [.ref hv, .int ln, .int fa, .int nu])), (hv, .inl (cI, 39, .inl f))]) [0, 1] rfl
      have hD9 := hD.sub (ws' := [(h, .inr (7, [.ref hv, .int ln, .int fa, .int nu])), (hv, .inl (cI, 39, .inl f))]) [0, 1] (by decide) rfl
      exact W.iret (v := (-1)) hx₀ hb hr (fun t₀ ht hW => ⟨⟨(-1), (), rfl, (lf_c_valueAt_X7_2 k f c_1 c_2), by rw [ht]; exact hP9, va_K.moved hW.alike hK, hD9⟩, hS.F ht⟩) hS.2.2 dX9_valueAt_23
    · refine lv_aload_n hx₀ hb dX9_valueAt_13 rfl (lv_at hl 0 rfl) ?_
      refine va_get (D := (dC, dI)) (ci := 7) (v := .ref hv) (C := RX7) (T := TX7) (N := 4) hx₀ hb hts inlX7 hown hK hP 0 rfl rfl 0 (by decide) (hts (.fieldLink RX9 21 "BittenStick$Text" "values" "[I") wd_65) (fun _ h9 => h9) rfl dX9_valueAt_14 ?_
      refine lv_iload_n hx₀ hb dX9_valueAt_17 rfl (lv_at hl 1 rfl) ?_
      refine va_iald hx₀ hb hK hP 1 0 rfl rfl (vp_in_iff.mpr (lf_c_valueAt_X7_3 k c_1 c_2)) dX9_valueAt_18 ?_
      refine lv_goto (tgt := 23) hx₀ hb dX9_valueAt_19 (by decide) ?_
      have hP9 := hP.sub (ws' := [(h, .inr (7, [.ref hv, .int ln, .int fa, .int nu])), (hv, .inl (cI, 39, .inl f))]) [0, 1] rfl
      have hD9 := hD.sub (ws' := [(h, .inr (7, [.ref hv, .int ln, .int fa, .int nu])), (hv, .inl (cI, 39, .inl f))]) [0, 1] (by decide) rfl
      exact W.iret (v := f k.toNatClampNeg) hx₀ hb hr (fun t₀ ht hW => ⟨⟨f k.toNatClampNeg, (), rfl, (lf_c_valueAt_X7_4 k f c_1 c_2), by rw [ht]; exact hP9, va_K.moved hW.alike hK, hD9⟩, hS.F ht⟩) hS.2.2 dX9_valueAt_23
theorem lf_c_isFull_X2_1 (ln : Int32) (c_1 : ln < 23) : (0 : Int32) = if 23 ≤ ln then 1 else 0 := by
  repeat first | rfl | rw [if_pos (by (first | omega | (simp only [Int64.le_iff_toInt_le, Int64.lt_iff_toInt_lt, Int32.le_iff_toInt_le, Int32.lt_iff_toInt_lt, ← Int32.toInt_inj, ← Int64.toInt_inj, Int32.toInt_toInt64, (show (0 : Int32).toInt = 0 from by decide), (show (0 : Int64).toInt = 0 from by decide), (show (1 : Int32).toInt = 1 from by decide), (show (1 : Int64).toInt = 1 from by decide), (show (23 : Int32).toInt = 23 from by decide), (show (23 : Int64).toInt = 23 from by decide)] at *; omega)))] | rw [if_neg (by (first | omega | (simp only [Int64.le_iff_toInt_le, Int64.lt_iff_toInt_lt, Int32.le_iff_toInt_le, Int32.lt_iff_toInt_lt, ← Int32.toInt_inj, ← Int64.toInt_inj, Int32.toInt_toInt64, (show (0 : Int32).toInt = 0 from by decide), (show (0 : Int64).toInt = 0 from by decide), (show (1 : Int32).toInt = 1 from by decide), (show (1 : Int64).toInt = 1 from by decide), (show (23 : Int32).toInt = 23 from by decide), (show (23 : Int64).toInt = 23 from by decide)] at *; omega)))]
theorem lf_c_isFull_X2_2 (ln : Int32) (c_1 : ¬ ln < 23) : (1 : Int32) = if 23 ≤ ln then 1 else 0 := by
  repeat first | rfl | rw [if_pos (by (first | omega | (simp only [Int64.le_iff_toInt_le, Int64.lt_iff_toInt_lt, Int32.le_iff_toInt_le, Int32.lt_iff_toInt_lt, ← Int32.toInt_inj, ← Int64.toInt_inj, Int32.toInt_toInt64, (show (0 : Int32).toInt = 0 from by decide), (show (0 : Int64).toInt = 0 from by decide), (show (1 : Int32).toInt = 1 from by decide), (show (1 : Int64).toInt = 1 from by decide), (show (23 : Int32).toInt = 23 from by decide), (show (23 : Int64).toInt = 23 from by decide)] at *; omega)))] | rw [if_neg (by (first | omega | (simp only [Int64.le_iff_toInt_le, Int64.lt_iff_toInt_lt, Int32.le_iff_toInt_le, Int32.lt_iff_toInt_lt, ← Int32.toInt_inj, ← Int64.toInt_inj, Int32.toInt_toInt64, (show (0 : Int32).toInt = 0 from by decide), (show (0 : Int64).toInt = 0 from by decide), (show (1 : Int32).toInt = 1 from by decide), (show (1 : Int64).toInt = 1 from by decide), (show (23 : Int32).toInt = 23 from by decide), (show (23 : Int64).toInt = 23 from by decide)] at *; omega)))]
set_option maxHeartbeats 4000000 in
set_option maxRecDepth 100000 in
theorem c_isFull_X2 (l : Launch) (dC : Nat → ClassId) (dI : Nat → Nat → Nat) (cI cJ cQ : ClassId) (sz : Nat) (h : Nat) (hv : Nat) (ln : Int32) (fa : Int32) (nu : Int32) (f : Nat → Int32) : Met l yX9_isFull (kW yX9_isFull cX9_isFull 1 (some .boolean)) { frames := 0, cells := 0, slots := 0, locals := 0 } (kPre dC dI cI cJ cQ sz [.ref h] [(h, .inr (2, [.ref hv, .int ln, .int fa, .int nu])), (hv, .inl (cI, 23, .inl f))]) (va_Qi (fun (r : Int32) (_ : Unit) => r = if 23 ≤ ln then 1 else 0) (fun _ t₀ => kB dC dI cI cJ cQ (va_A [(h, .inr (2, [.ref hv, .int ln, .int fa, .int nu])), (hv, .inl (cI, 23, .inl f))] sz) [(h, .inr (2, [.ref hv, .int ln, .int fa, .int nu])), (hv, .inl (cI, 23, .inl f))] t₀) (va_A [(h, .inr (2, [.ref hv, .int ln, .int fa, .int nu])), (hv, .inl (cI, 23, .inl f))] sz)) 0 0 (va_A [(h, .inr (2, [.ref hv, .int ln, .int fa, .int nu])), (hv, .inl (cI, 23, .inl f))] sz) := by
  refine Met.ofW (cc := cX9_isFull) (maxL := 1) (ret := (some .boolean)) (by decide) rfl ?_
  intro p₀ e₀ s₀ m₀ args below meth c₀ s₁ B hml hv₀
  obtain ⟨rfl, hsz, hP, hK, hD0, hN⟩ := hv₀
  have hx₀ := B.exec
  have hb := B.bytes
  have hr := B.returns
  have hts := atoms_spec (ws := (kW yX9_isFull cX9_isFull 1 (some .boolean))) B.pre
  have hts := fun w h => hts w (List.mem_cons_of_mem _ h)
  have hown : s₀.vm.findClass RX9 = some m₀.cls := findClass_of_methodNamed B.named
  have hlocks := B.notSynchronized
  subst hsz
  have hD := hD0.self (sz := s₀.heap.size)
  generalize hAe : va_A [(h, .inr (2, [.ref hv, .int ln, .int fa, .int nu])), (hv, .inl (cI, 23, .inl f))] s₀.heap.size = A at hD ⊢
  have hA : ∀ q : Nat, s₀.heap.size ≤ q → A q := fun q h => by rw [← hAe]; exact Or.inr h
  have hS : va_S A s₀.heap s₀.heap [] := va_S.rf
  have hP : va_P (dC, dI) vwCl [(h, .inr (2, [.ref hv, .int ln, .int fa, .int nu])), (hv, .inl (cI, 23, .inl f))] s₀.heap := hP
  have hl := lv_entry ([.ref h]) (n := 1) (Nat.le_of_ble_eq_true rfl)
  rw [lg_entry_eq]
  generalize (lg_sl ([.ref h]) ++ List.replicate (1 - (lg_sl ([.ref h])).length) Slot.unset).toArray = ls at hl ⊢
  have hl : lv_has ls 1 [(0, .ref h)] := hl
  obtain ⟨H, hH⟩ : ∃ z : Heap, z = s₀.heap := ⟨_, rfl⟩
  rw [← hH] at hP
  have hS : va_S A s₀.heap H [] := by rw [hH]; exact hS
  refine k_heap hH ?_
  have hD : va_D A [(h, .inr (2, [.ref hv, .int ln, .int fa, .int nu])), (hv, .inl (cI, 23, .inl f))] := hD
  obtain ⟨locs, hlo⟩ : ∃ z : List Loc, z = [] := ⟨_, rfl⟩
  rw [← hlo] at hS ⊢
  clear hlo hH hAe hD0
  refine lv_aload_n hx₀ hb dX9_isFull_0 rfl (lv_at hl 0 rfl) ?_
  refine va_get (D := (dC, dI)) (ci := 2) (v := .int ln) (C := RX2) (T := TX2) (N := 4) hx₀ hb hts inlX2 hown hK hP 0 rfl rfl 1 (by decide) (hts (.fieldLink RX9 25 "BittenStick$Text" "length" "I") wd_147) (fun _ h9 => h9) rfl dX9_isFull_1 ?_
  refine lv_aload_n hx₀ hb dX9_isFull_4 rfl (lv_at hl 0 rfl) ?_
  refine va_get (D := (dC, dI)) (ci := 2) (v := .ref hv) (C := RX2) (T := TX2) (N := 4) hx₀ hb hts inlX2 hown hK hP 0 rfl rfl 0 (by decide) (hts (.fieldLink RX9 21 "BittenStick$Text" "values" "[I") wd_65) (fun _ h9 => h9) rfl dX9_isFull_5 ?_
  refine va_alen (v := 23) hx₀ hb hK hP 1 0 rfl rfl rfl dX9_isFull_8 ?_
  refine lv_icmp_lt (tgt := 16) hx₀ hb dX9_isFull_9 (by decide) (fun c_1 => ?_) (fun c_1 => ?_)
  · refine lv_iconst (v := 0) hx₀ hb dX9_isFull_16 (by decide +kernel) ?_
    have hP9 := hP.sub (ws' := [(h, .inr (2, [.ref hv, .int ln, .int fa, .int nu])), (hv, .inl (cI, 23, .inl f))]) [0, 1] rfl
    have hD9 := hD.sub (ws' := [(h, .inr (2, [.ref hv, .int ln, .int fa, .int nu])), (hv, .inl (cI, 23, .inl f))]) [0, 1] (by decide) rfl
    exact W.zret (v := 0) hx₀ hb hr (by decide +kernel) (fun t₀ ht hW => ⟨⟨0, (), rfl, (lf_c_isFull_X2_1 ln c_1), by rw [ht]; exact hP9, va_K.moved hW.alike hK, hD9⟩, hS.F ht⟩) hS.2.2 dX9_isFull_17
  · refine lv_iconst (v := 1) hx₀ hb dX9_isFull_12 (by decide +kernel) ?_
    refine lv_goto (tgt := 17) hx₀ hb dX9_isFull_13 (by decide) ?_
    have hP9 := hP.sub (ws' := [(h, .inr (2, [.ref hv, .int ln, .int fa, .int nu])), (hv, .inl (cI, 23, .inl f))]) [0, 1] rfl
    have hD9 := hD.sub (ws' := [(h, .inr (2, [.ref hv, .int ln, .int fa, .int nu])), (hv, .inl (cI, 23, .inl f))]) [0, 1] (by decide) rfl
    exact W.zret (v := 1) hx₀ hb hr (by decide +kernel) (fun t₀ ht hW => ⟨⟨1, (), rfl, (lf_c_isFull_X2_2 ln c_1), by rw [ht]; exact hP9, va_K.moved hW.alike hK, hD9⟩, hS.F ht⟩) hS.2.2 dX9_isFull_17
theorem lf_c_tHas_X2_1 (k : Int32) (nu : Int32) (c_1 : k < 0) : (0 : Int32) = if 0 ≤ k ∧ k < nu then 1 else 0 := by
  repeat first | rfl | rw [if_pos (by (first | omega | (simp only [Int64.le_iff_toInt_le, Int64.lt_iff_toInt_lt, Int32.le_iff_toInt_le, Int32.lt_iff_toInt_lt, ← Int32.toInt_inj, ← Int64.toInt_inj, Int32.toInt_toInt64, (show (0 : Int32).toInt = 0 from by decide), (show (0 : Int64).toInt = 0 from by decide), (show (1 : Int32).toInt = 1 from by decide), (show (1 : Int64).toInt = 1 from by decide)] at *; omega)))] | rw [if_neg (by (first | omega | (simp only [Int64.le_iff_toInt_le, Int64.lt_iff_toInt_lt, Int32.le_iff_toInt_le, Int32.lt_iff_toInt_lt, ← Int32.toInt_inj, ← Int64.toInt_inj, Int32.toInt_toInt64, (show (0 : Int32).toInt = 0 from by decide), (show (0 : Int64).toInt = 0 from by decide), (show (1 : Int32).toInt = 1 from by decide), (show (1 : Int64).toInt = 1 from by decide)] at *; omega)))]
theorem lf_c_tHas_X2_2 (k : Int32) (nu : Int32) (c_1 : ¬ k < 0) (c_2 : nu ≤ k) : (0 : Int32) = if 0 ≤ k ∧ k < nu then 1 else 0 := by
  repeat first | rfl | rw [if_pos (by (first | omega | (simp only [Int64.le_iff_toInt_le, Int64.lt_iff_toInt_lt, Int32.le_iff_toInt_le, Int32.lt_iff_toInt_lt, ← Int32.toInt_inj, ← Int64.toInt_inj, Int32.toInt_toInt64, (show (0 : Int32).toInt = 0 from by decide), (show (0 : Int64).toInt = 0 from by decide), (show (1 : Int32).toInt = 1 from by decide), (show (1 : Int64).toInt = 1 from by decide)] at *; omega)))] | rw [if_neg (by (first | omega | (simp only [Int64.le_iff_toInt_le, Int64.lt_iff_toInt_lt, Int32.le_iff_toInt_le, Int32.lt_iff_toInt_lt, ← Int32.toInt_inj, ← Int64.toInt_inj, Int32.toInt_toInt64, (show (0 : Int32).toInt = 0 from by decide), (show (0 : Int64).toInt = 0 from by decide), (show (1 : Int32).toInt = 1 from by decide), (show (1 : Int64).toInt = 1 from by decide)] at *; omega)))]
theorem lf_c_tHas_X2_3 (k : Int32) (nu : Int32) (c_1 : ¬ k < 0) (c_2 : ¬ nu ≤ k) : (1 : Int32) = if 0 ≤ k ∧ k < nu then 1 else 0 := by
  repeat first | rfl | rw [if_pos (by (first | omega | (simp only [Int64.le_iff_toInt_le, Int64.lt_iff_toInt_lt, Int32.le_iff_toInt_le, Int32.lt_iff_toInt_lt, ← Int32.toInt_inj, ← Int64.toInt_inj, Int32.toInt_toInt64, (show (0 : Int32).toInt = 0 from by decide), (show (0 : Int64).toInt = 0 from by decide), (show (1 : Int32).toInt = 1 from by decide), (show (1 : Int64).toInt = 1 from by decide)] at *; omega)))] | rw [if_neg (by (first | omega | (simp only [Int64.le_iff_toInt_le, Int64.lt_iff_toInt_lt, Int32.le_iff_toInt_le, Int32.lt_iff_toInt_lt, ← Int32.toInt_inj, ← Int64.toInt_inj, Int32.toInt_toInt64, (show (0 : Int32).toInt = 0 from by decide), (show (0 : Int64).toInt = 0 from by decide), (show (1 : Int32).toInt = 1 from by decide), (show (1 : Int64).toInt = 1 from by decide)] at *; omega)))]
set_option maxHeartbeats 4000000 in
set_option maxRecDepth 100000 in
theorem c_tHas_X2 (l : Launch) (dC : Nat → ClassId) (dI : Nat → Nat → Nat) (cI cJ cQ : ClassId) (sz : Nat) (h : Nat) (k : Int32) (hv : Nat) (ln : Int32) (fa : Int32) (nu : Int32) : Met l yX9_has (kW yX9_has cX9_has 2 (some .boolean)) { frames := 0, cells := 0, slots := 0, locals := 0 } (kPre dC dI cI cJ cQ sz [.ref h, .int k] [(h, .inr (2, [.ref hv, .int ln, .int fa, .int nu]))]) (va_Qi (fun (r : Int32) (_ : Unit) => r = if 0 ≤ k ∧ k < nu then 1 else 0) (fun _ t₀ => kB dC dI cI cJ cQ (va_A [(h, .inr (2, [.ref hv, .int ln, .int fa, .int nu]))] sz) [(h, .inr (2, [.ref hv, .int ln, .int fa, .int nu]))] t₀) (va_A [(h, .inr (2, [.ref hv, .int ln, .int fa, .int nu]))] sz)) 0 0 (va_A [(h, .inr (2, [.ref hv, .int ln, .int fa, .int nu]))] sz) := by
  refine Met.ofW (cc := cX9_has) (maxL := 2) (ret := (some .boolean)) (by decide) rfl ?_
  intro p₀ e₀ s₀ m₀ args below meth c₀ s₁ B hml hv₀
  obtain ⟨rfl, hsz, hP, hK, hD0, hN⟩ := hv₀
  have hx₀ := B.exec
  have hb := B.bytes
  have hr := B.returns
  have hts := atoms_spec (ws := (kW yX9_has cX9_has 2 (some .boolean))) B.pre
  have hts := fun w h => hts w (List.mem_cons_of_mem _ h)
  have hown : s₀.vm.findClass RX9 = some m₀.cls := findClass_of_methodNamed B.named
  have hlocks := B.notSynchronized
  subst hsz
  have hD := hD0.self (sz := s₀.heap.size)
  generalize hAe : va_A [(h, .inr (2, [.ref hv, .int ln, .int fa, .int nu]))] s₀.heap.size = A at hD ⊢
  have hA : ∀ q : Nat, s₀.heap.size ≤ q → A q := fun q h => by rw [← hAe]; exact Or.inr h
  have hS : va_S A s₀.heap s₀.heap [] := va_S.rf
  have hP : va_P (dC, dI) vwCl [(h, .inr (2, [.ref hv, .int ln, .int fa, .int nu]))] s₀.heap := hP
  have hl := lv_entry ([.ref h, .int k]) (n := 2) (Nat.le_of_ble_eq_true rfl)
  rw [lg_entry_eq]
  generalize (lg_sl ([.ref h, .int k]) ++ List.replicate (2 - (lg_sl ([.ref h, .int k])).length) Slot.unset).toArray = ls at hl ⊢
  have hl : lv_has ls 2 [(0, .ref h), (1, .int k)] := hl
  obtain ⟨H, hH⟩ : ∃ z : Heap, z = s₀.heap := ⟨_, rfl⟩
  rw [← hH] at hP
  have hS : va_S A s₀.heap H [] := by rw [hH]; exact hS
  refine k_heap hH ?_
  have hD : va_D A [(h, .inr (2, [.ref hv, .int ln, .int fa, .int nu]))] := hD
  obtain ⟨locs, hlo⟩ : ∃ z : List Loc, z = [] := ⟨_, rfl⟩
  rw [← hlo] at hS ⊢
  clear hlo hH hAe hD0
  refine lv_iload_n hx₀ hb dX9_has_0 rfl (lv_at hl 1 rfl) ?_
  refine lv_if_lt (tgt := 16) hx₀ hb dX9_has_1 (by decide) (fun c_1 => ?_) (fun c_1 => ?_)
  · refine lv_iconst (v := 0) hx₀ hb dX9_has_16 (by decide +kernel) ?_
    have hP9 := hP.sub (ws' := [(h, .inr (2, [.ref hv, .int ln, .int fa, .int nu]))]) [0] rfl
    have hD9 := hD.sub (ws' := [(h, .inr (2, [.ref hv, .int ln, .int fa, .int nu]))]) [0] (by decide) rfl
    exact W.zret (v := 0) hx₀ hb hr (by decide +kernel) (fun t₀ ht hW => ⟨⟨0, (), rfl, (lf_c_tHas_X2_1 k nu c_1), by rw [ht]; exact hP9, va_K.moved hW.alike hK, hD9⟩, hS.F ht⟩) hS.2.2 dX9_has_17
  · refine lv_iload_n hx₀ hb dX9_has_4 rfl (lv_at hl 1 rfl) ?_
    refine lv_aload_n hx₀ hb dX9_has_5 rfl (lv_at hl 0 rfl) ?_
    refine va_get (D := (dC, dI)) (ci := 2) (v := .int nu) (C := RX2) (T := TX2) (N := 4) hx₀ hb hts inlX2 hown hK hP 0 rfl rfl 3 (by decide) (hts (.fieldLink RX9 37 "BittenStick$Text" "number" "I") wd_174) (fun _ h9 => h9) rfl dX9_has_6 ?_
    refine lv_icmp_ge (tgt := 16) hx₀ hb dX9_has_9 (by decide) (fun c_2 => ?_) (fun c_2 => ?_)
    · refine lv_iconst (v := 0) hx₀ hb dX9_has_16 (by decide +kernel) ?_
      have hP9 := hP.sub (ws' := [(h, .inr (2, [.ref hv, .int ln, .int fa, .int nu]))]) [0] rfl
      have hD9 := hD.sub (ws' := [(h, .inr (2, [.ref hv, .int ln, .int fa, .int nu]))]) [0] (by decide) rfl
      exact W.zret (v := 0) hx₀ hb hr (by decide +kernel) (fun t₀ ht hW => ⟨⟨0, (), rfl, (lf_c_tHas_X2_2 k nu c_1 c_2), by rw [ht]; exact hP9, va_K.moved hW.alike hK, hD9⟩, hS.F ht⟩) hS.2.2 dX9_has_17
    · refine lv_iconst (v := 1) hx₀ hb dX9_has_12 (by decide +kernel) ?_
      refine lv_goto (tgt := 17) hx₀ hb dX9_has_13 (by decide) ?_
      have hP9 := hP.sub (ws' := [(h, .inr (2, [.ref hv, .int ln, .int fa, .int nu]))]) [0] rfl
      have hD9 := hD.sub (ws' := [(h, .inr (2, [.ref hv, .int ln, .int fa, .int nu]))]) [0] (by decide) rfl
      exact W.zret (v := 1) hx₀ hb hr (by decide +kernel) (fun t₀ ht hW => ⟨⟨1, (), rfl, (lf_c_tHas_X2_3 k nu c_1 c_2), by rw [ht]; exact hP9, va_K.moved hW.alike hK, hD9⟩, hS.F ht⟩) hS.2.2 dX9_has_17
theorem lf_c_valueAt_X2_1 (k : Int32) (f : Nat → Int32) (c_1 : k < 0) : ((-1) : Int32) = if 0 ≤ k ∧ k < 23 then f k.toNatClampNeg else -1 := by
  repeat first | rfl | rw [if_pos (by (first | omega | (simp only [Int64.le_iff_toInt_le, Int64.lt_iff_toInt_lt, Int32.le_iff_toInt_le, Int32.lt_iff_toInt_lt, ← Int32.toInt_inj, ← Int64.toInt_inj, Int32.toInt_toInt64, (show (-1 : Int32).toInt = -1 from by decide), (show (-1 : Int64).toInt = -1 from by decide), (show (0 : Int32).toInt = 0 from by decide), (show (0 : Int64).toInt = 0 from by decide), (show (23 : Int32).toInt = 23 from by decide), (show (23 : Int64).toInt = 23 from by decide)] at *; omega)))] | rw [if_neg (by (first | omega | (simp only [Int64.le_iff_toInt_le, Int64.lt_iff_toInt_lt, Int32.le_iff_toInt_le, Int32.lt_iff_toInt_lt, ← Int32.toInt_inj, ← Int64.toInt_inj, Int32.toInt_toInt64, (show (-1 : Int32).toInt = -1 from by decide), (show (-1 : Int64).toInt = -1 from by decide), (show (0 : Int32).toInt = 0 from by decide), (show (0 : Int64).toInt = 0 from by decide), (show (23 : Int32).toInt = 23 from by decide), (show (23 : Int64).toInt = 23 from by decide)] at *; omega)))]
theorem lf_c_valueAt_X2_2 (k : Int32) (f : Nat → Int32) (c_1 : ¬ k < 0) (c_2 : 23 ≤ k) : ((-1) : Int32) = if 0 ≤ k ∧ k < 23 then f k.toNatClampNeg else -1 := by
  repeat first | rfl | rw [if_pos (by (first | omega | (simp only [Int64.le_iff_toInt_le, Int64.lt_iff_toInt_lt, Int32.le_iff_toInt_le, Int32.lt_iff_toInt_lt, ← Int32.toInt_inj, ← Int64.toInt_inj, Int32.toInt_toInt64, (show (-1 : Int32).toInt = -1 from by decide), (show (-1 : Int64).toInt = -1 from by decide), (show (0 : Int32).toInt = 0 from by decide), (show (0 : Int64).toInt = 0 from by decide), (show (23 : Int32).toInt = 23 from by decide), (show (23 : Int64).toInt = 23 from by decide)] at *; omega)))] | rw [if_neg (by (first | omega | (simp only [Int64.le_iff_toInt_le, Int64.lt_iff_toInt_lt, Int32.le_iff_toInt_le, Int32.lt_iff_toInt_lt, ← Int32.toInt_inj, ← Int64.toInt_inj, Int32.toInt_toInt64, (show (-1 : Int32).toInt = -1 from by decide), (show (-1 : Int64).toInt = -1 from by decide), (show (0 : Int32).toInt = 0 from by decide), (show (0 : Int64).toInt = 0 from by decide), (show (23 : Int32).toInt = 23 from by decide), (show (23 : Int64).toInt = 23 from by decide)] at *; omega)))]
theorem lf_c_valueAt_X2_3 (k : Int32) (c_1 : ¬ k < 0) (c_2 : ¬ 23 ≤ k) : 0 ≤ k.toInt ∧ k.toInt < 23 := by
  first | rfl | decide | (first | omega | (simp only [Int64.le_iff_toInt_le, Int64.lt_iff_toInt_lt, Int32.le_iff_toInt_le, Int32.lt_iff_toInt_lt, ← Int32.toInt_inj, ← Int64.toInt_inj, Int32.toInt_toInt64, (show (0 : Int32).toInt = 0 from by decide), (show (0 : Int64).toInt = 0 from by decide), (show (23 : Int32).toInt = 23 from by decide), (show (23 : Int64).toInt = 23 from by decide)] at *; omega))
theorem lf_c_valueAt_X2_4 (k : Int32) (f : Nat → Int32) (c_1 : ¬ k < 0) (c_2 : ¬ 23 ≤ k) : (f k.toNatClampNeg : Int32) = if 0 ≤ k ∧ k < 23 then f k.toNatClampNeg else -1 := by
  repeat first | rfl | rw [if_pos (by (first | omega | (simp only [Int64.le_iff_toInt_le, Int64.lt_iff_toInt_lt, Int32.le_iff_toInt_le, Int32.lt_iff_toInt_lt, ← Int32.toInt_inj, ← Int64.toInt_inj, Int32.toInt_toInt64, (show (-1 : Int32).toInt = -1 from by decide), (show (-1 : Int64).toInt = -1 from by decide), (show (0 : Int32).toInt = 0 from by decide), (show (0 : Int64).toInt = 0 from by decide), (show (23 : Int32).toInt = 23 from by decide), (show (23 : Int64).toInt = 23 from by decide)] at *; omega)))] | rw [if_neg (by (first | omega | (simp only [Int64.le_iff_toInt_le, Int64.lt_iff_toInt_lt, Int32.le_iff_toInt_le, Int32.lt_iff_toInt_lt, ← Int32.toInt_inj, ← Int64.toInt_inj, Int32.toInt_toInt64, (show (-1 : Int32).toInt = -1 from by decide), (show (-1 : Int64).toInt = -1 from by decide), (show (0 : Int32).toInt = 0 from by decide), (show (0 : Int64).toInt = 0 from by decide), (show (23 : Int32).toInt = 23 from by decide), (show (23 : Int64).toInt = 23 from by decide)] at *; omega)))]
set_option maxHeartbeats 4000000 in
set_option maxRecDepth 100000 in
theorem c_valueAt_X2 (l : Launch) (dC : Nat → ClassId) (dI : Nat → Nat → Nat) (cI cJ cQ : ClassId) (sz : Nat) (h : Nat) (k : Int32) (hv : Nat) (ln : Int32) (fa : Int32) (nu : Int32) (f : Nat → Int32) : Met l yX9_valueAt (kW yX9_valueAt cX9_valueAt 2 (some .int)) { frames := 0, cells := 0, slots := 0, locals := 0 } (kPre dC dI cI cJ cQ sz [.ref h, .int k] [(h, .inr (2, [.ref hv, .int ln, .int fa, .int nu])), (hv, .inl (cI, 23, .inl f))]) (va_Qi (fun (r : Int32) (_ : Unit) => r = if 0 ≤ k ∧ k < 23 then f k.toNatClampNeg else -1) (fun _ t₀ => kB dC dI cI cJ cQ (va_A [(h, .inr (2, [.ref hv, .int ln, .int fa, .int nu])), (hv, .inl (cI, 23, .inl f))] sz) [(h, .inr (2, [.ref hv, .int ln, .int fa, .int nu])), (hv, .inl (cI, 23, .inl f))] t₀) (va_A [(h, .inr (2, [.ref hv, .int ln, .int fa, .int nu])), (hv, .inl (cI, 23, .inl f))] sz)) 0 0 (va_A [(h, .inr (2, [.ref hv, .int ln, .int fa, .int nu])), (hv, .inl (cI, 23, .inl f))] sz) := by
  refine Met.ofW (cc := cX9_valueAt) (maxL := 2) (ret := (some .int)) (by decide) rfl ?_
  intro p₀ e₀ s₀ m₀ args below meth c₀ s₁ B hml hv₀
  obtain ⟨rfl, hsz, hP, hK, hD0, hN⟩ := hv₀
  have hx₀ := B.exec
  have hb := B.bytes
  have hr := B.returns
  have hts := atoms_spec (ws := (kW yX9_valueAt cX9_valueAt 2 (some .int))) B.pre
  have hts := fun w h => hts w (List.mem_cons_of_mem _ h)
  have hown : s₀.vm.findClass RX9 = some m₀.cls := findClass_of_methodNamed B.named
  have hlocks := B.notSynchronized
  subst hsz
  have hD := hD0.self (sz := s₀.heap.size)
  generalize hAe : va_A [(h, .inr (2, [.ref hv, .int ln, .int fa, .int nu])), (hv, .inl (cI, 23, .inl f))] s₀.heap.size = A at hD ⊢
  have hA : ∀ q : Nat, s₀.heap.size ≤ q → A q := fun q h => by rw [← hAe]; exact Or.inr h
  have hS : va_S A s₀.heap s₀.heap [] := va_S.rf
  have hP : va_P (dC, dI) vwCl [(h, .inr (2, [.ref hv, .int ln, .int fa, .int nu])), (hv, .inl (cI, 23, .inl f))] s₀.heap := hP
  have hl := lv_entry ([.ref h, .int k]) (n := 2) (Nat.le_of_ble_eq_true rfl)
  rw [lg_entry_eq]
  generalize (lg_sl ([.ref h, .int k]) ++ List.replicate (2 - (lg_sl ([.ref h, .int k])).length) Slot.unset).toArray = ls at hl ⊢
  have hl : lv_has ls 2 [(0, .ref h), (1, .int k)] := hl
  obtain ⟨H, hH⟩ : ∃ z : Heap, z = s₀.heap := ⟨_, rfl⟩
  rw [← hH] at hP
  have hS : va_S A s₀.heap H [] := by rw [hH]; exact hS
  refine k_heap hH ?_
  have hD : va_D A [(h, .inr (2, [.ref hv, .int ln, .int fa, .int nu])), (hv, .inl (cI, 23, .inl f))] := hD
  obtain ⟨locs, hlo⟩ : ∃ z : List Loc, z = [] := ⟨_, rfl⟩
  rw [← hlo] at hS ⊢
  clear hlo hH hAe hD0
  refine lv_iload_n hx₀ hb dX9_valueAt_0 rfl (lv_at hl 1 rfl) ?_
  refine lv_if_lt (tgt := 22) hx₀ hb dX9_valueAt_1 (by decide) (fun c_1 => ?_) (fun c_1 => ?_)
  · refine lv_iconst (v := (-1)) hx₀ hb dX9_valueAt_22 (by decide +kernel) ?_
    have hP9 := hP.sub (ws' := [(h, .inr (2, [.ref hv, .int ln, .int fa, .int nu])), (hv, .inl (cI, 23, .inl f))]) [0, 1] rfl
    have hD9 := hD.sub (ws' := [(h, .inr (2, [.ref hv, .int ln, .int fa, .int nu])), (hv, .inl (cI, 23, .inl f))]) [0, 1] (by decide) rfl
    exact W.iret (v := (-1)) hx₀ hb hr (fun t₀ ht hW => ⟨⟨(-1), (), rfl, (lf_c_valueAt_X2_1 k f c_1), by rw [ht]; exact hP9, va_K.moved hW.alike hK, hD9⟩, hS.F ht⟩) hS.2.2 dX9_valueAt_23
  · refine lv_iload_n hx₀ hb dX9_valueAt_4 rfl (lv_at hl 1 rfl) ?_
    refine lv_aload_n hx₀ hb dX9_valueAt_5 rfl (lv_at hl 0 rfl) ?_
    refine va_get (D := (dC, dI)) (ci := 2) (v := .ref hv) (C := RX2) (T := TX2) (N := 4) hx₀ hb hts inlX2 hown hK hP 0 rfl rfl 0 (by decide) (hts (.fieldLink RX9 21 "BittenStick$Text" "values" "[I") wd_65) (fun _ h9 => h9) rfl dX9_valueAt_6 ?_
    refine va_alen (v := 23) hx₀ hb hK hP 1 0 rfl rfl rfl dX9_valueAt_9 ?_
    refine lv_icmp_ge (tgt := 22) hx₀ hb dX9_valueAt_10 (by decide) (fun c_2 => ?_) (fun c_2 => ?_)
    · refine lv_iconst (v := (-1)) hx₀ hb dX9_valueAt_22 (by decide +kernel) ?_
      have hP9 := hP.sub (ws' := [(h, .inr (2, [.ref hv, .int ln, .int fa, .int nu])), (hv, .inl (cI, 23, .inl f))]) [0, 1] rfl
      have hD9 := hD.sub (ws' := [(h, .inr (2, [.ref hv, .int ln, .int fa, .int nu])), (hv, .inl (cI, 23, .inl f))]) [0, 1] (by decide) rfl
      exact W.iret (v := (-1)) hx₀ hb hr (fun t₀ ht hW => ⟨⟨(-1), (), rfl, (lf_c_valueAt_X2_2 k f c_1 c_2), by rw [ht]; exact hP9, va_K.moved hW.alike hK, hD9⟩, hS.F ht⟩) hS.2.2 dX9_valueAt_23
    · refine lv_aload_n hx₀ hb dX9_valueAt_13 rfl (lv_at hl 0 rfl) ?_
      refine va_get (D := (dC, dI)) (ci := 2) (v := .ref hv) (C := RX2) (T := TX2) (N := 4) hx₀ hb hts inlX2 hown hK hP 0 rfl rfl 0 (by decide) (hts (.fieldLink RX9 21 "BittenStick$Text" "values" "[I") wd_65) (fun _ h9 => h9) rfl dX9_valueAt_14 ?_
      refine lv_iload_n hx₀ hb dX9_valueAt_17 rfl (lv_at hl 1 rfl) ?_
      refine va_iald hx₀ hb hK hP 1 0 rfl rfl (vp_in_iff.mpr (lf_c_valueAt_X2_3 k c_1 c_2)) dX9_valueAt_18 ?_
      refine lv_goto (tgt := 23) hx₀ hb dX9_valueAt_19 (by decide) ?_
      have hP9 := hP.sub (ws' := [(h, .inr (2, [.ref hv, .int ln, .int fa, .int nu])), (hv, .inl (cI, 23, .inl f))]) [0, 1] rfl
      have hD9 := hD.sub (ws' := [(h, .inr (2, [.ref hv, .int ln, .int fa, .int nu])), (hv, .inl (cI, 23, .inl f))]) [0, 1] (by decide) rfl
      exact W.iret (v := f k.toNatClampNeg) hx₀ hb hr (fun t₀ ht hW => ⟨⟨f k.toNatClampNeg, (), rfl, (lf_c_valueAt_X2_4 k f c_1 c_2), by rw [ht]; exact hP9, va_K.moved hW.alike hK, hD9⟩, hS.F ht⟩) hS.2.2 dX9_valueAt_23
set_option maxHeartbeats 4000000 in
set_option maxRecDepth 100000 in
theorem c_kind (l : Launch) (dC : Nat → ClassId) (dI : Nat → Nat → Nat) (cI cJ cQ : ClassId) (sz : Nat) (b : Int32) : Met l yX7_kind (kW yX7_kind cX7_kind 1 (some .int)) { frames := 0, cells := 0, slots := 0, locals := 0 } (kPre dC dI cI cJ cQ sz [.int b] []) (va_Qi (fun (_ : Int32) (_ : Unit) => True) (fun _ t₀ => kB dC dI cI cJ cQ (va_A [] sz) [] t₀) (va_A [] sz)) 0 0 (va_A [] sz) := by
  refine Met.ofW (cc := cX7_kind) (maxL := 1) (ret := (some .int)) (by decide) rfl ?_
  intro p₀ e₀ s₀ m₀ args below meth c₀ s₁ B hml hv₀
  obtain ⟨rfl, hsz, hP, hK, hD0, hN⟩ := hv₀
  have hx₀ := B.exec
  have hb := B.bytes
  have hr := B.returns
  have hts := atoms_spec (ws := (kW yX7_kind cX7_kind 1 (some .int))) B.pre
  have hts := fun w h => hts w (List.mem_cons_of_mem _ h)
  have hown : s₀.vm.findClass RX7 = some m₀.cls := findClass_of_methodNamed B.named
  have hlocks := B.notSynchronized
  subst hsz
  have hD := hD0.self (sz := s₀.heap.size)
  generalize hAe : va_A [] s₀.heap.size = A at hD ⊢
  have hA : ∀ q : Nat, s₀.heap.size ≤ q → A q := fun q h => by rw [← hAe]; exact Or.inr h
  have hS : va_S A s₀.heap s₀.heap [] := va_S.rf
  have hP : va_P (dC, dI) vwCl [] s₀.heap := hP
  have hl := lv_entry ([.int b]) (n := 1) (Nat.le_of_ble_eq_true rfl)
  rw [lg_entry_eq]
  generalize (lg_sl ([.int b]) ++ List.replicate (1 - (lg_sl ([.int b])).length) Slot.unset).toArray = ls at hl ⊢
  have hl : lv_has ls 1 [(0, .int b)] := hl
  obtain ⟨H, hH⟩ : ∃ z : Heap, z = s₀.heap := ⟨_, rfl⟩
  rw [← hH] at hP
  have hS : va_S A s₀.heap H [] := by rw [hH]; exact hS
  refine k_heap hH ?_
  have hD : va_D A [] := hD
  obtain ⟨locs, hlo⟩ : ∃ z : List Loc, z = [] := ⟨_, rfl⟩
  rw [← hlo] at hS ⊢
  clear hlo hH hAe hD0
  refine lv_iload_n hx₀ hb dX7_kind_0 rfl (lv_at hl 0 rfl) ?_
  by_cases c_1 : b = 100
  · refine k_topi (v := 100) c_1 ?_
    refine lv_lookup (off := 45) (tgt := 46) hx₀ hb dX7_kind_1 (by decide +kernel) (by decide +kernel) (by decide) ?_
    refine lv_iconst (v := 1) hx₀ hb dX7_kind_46 (by decide +kernel) ?_
    have hP9 := hP.sub (ws' := []) [] rfl
    have hD9 := hD.sub (ws' := []) [] (by decide) rfl
    exact W.iret (v := 1) hx₀ hb hr (fun t₀ ht hW => ⟨⟨1, (), rfl, trivial, by rw [ht]; exact hP9, va_K.moved hW.alike hK, hD9⟩, hS.F ht⟩) hS.2.2 dX7_kind_47
  by_cases c_2 : b = 112
  · refine k_topi (v := 112) c_2 ?_
    refine lv_lookup (off := 47) (tgt := 48) hx₀ hb dX7_kind_1 (by decide +kernel) (by decide +kernel) (by decide) ?_
    refine lv_iconst (v := 2) hx₀ hb dX7_kind_48 (by decide +kernel) ?_
    have hP9 := hP.sub (ws' := []) [] rfl
    have hD9 := hD.sub (ws' := []) [] (by decide) rfl
    exact W.iret (v := 2) hx₀ hb hr (fun t₀ ht hW => ⟨⟨2, (), rfl, trivial, by rw [ht]; exact hP9, va_K.moved hW.alike hK, hD9⟩, hS.F ht⟩) hS.2.2 dX7_kind_49
  by_cases c_3 : b = 115
  · refine k_topi (v := 115) c_3 ?_
    refine lv_lookup (off := 49) (tgt := 50) hx₀ hb dX7_kind_1 (by decide +kernel) (by decide +kernel) (by decide) ?_
    refine lv_iconst (v := 3) hx₀ hb dX7_kind_50 (by decide +kernel) ?_
    have hP9 := hP.sub (ws' := []) [] rfl
    have hD9 := hD.sub (ws' := []) [] (by decide) rfl
    exact W.iret (v := 3) hx₀ hb hr (fun t₀ ht hW => ⟨⟨3, (), rfl, trivial, by rw [ht]; exact hP9, va_K.moved hW.alike hK, hD9⟩, hS.F ht⟩) hS.2.2 dX7_kind_51
  by_cases c_4 : b = 116
  · refine k_topi (v := 116) c_4 ?_
    refine lv_lookup (off := 43) (tgt := 44) hx₀ hb dX7_kind_1 (by decide +kernel) (by decide +kernel) (by decide) ?_
    refine lv_iconst (v := 0) hx₀ hb dX7_kind_44 (by decide +kernel) ?_
    have hP9 := hP.sub (ws' := []) [] rfl
    have hD9 := hD.sub (ws' := []) [] (by decide) rfl
    exact W.iret (v := 0) hx₀ hb hr (fun t₀ ht hW => ⟨⟨0, (), rfl, trivial, by rw [ht]; exact hP9, va_K.moved hW.alike hK, hD9⟩, hS.F ht⟩) hS.2.2 dX7_kind_45
  refine lv_lookup (off := 51) (tgt := 52) hx₀ hb dX7_kind_1 (by decide +kernel) ((lv_osw c_1 rfl).trans ((lv_osw c_2 rfl).trans ((lv_osw c_3 rfl).trans ((lv_osw c_4 rfl).trans rfl)))) (by decide) ?_
  refine lv_iconst (v := (-1)) hx₀ hb dX7_kind_52 (by decide +kernel) ?_
  have hP9 := hP.sub (ws' := []) [] rfl
  have hD9 := hD.sub (ws' := []) [] (by decide) rfl
  exact W.iret (v := (-1)) hx₀ hb hr (fun t₀ ht hW => ⟨⟨(-1), (), rfl, trivial, by rw [ht]; exact hP9, va_K.moved hW.alike hK, hD9⟩, hS.F ht⟩) hS.2.2 dX7_kind_53
set_option maxHeartbeats 4000000 in
set_option maxRecDepth 100000 in
theorem c_worth0_X4 (l : Launch) (dC : Nat → ClassId) (dI : Nat → Nat → Nat) (cI cJ cQ : ClassId) (sz : Nat) (h : Nat) (b : Int32) (hv : Nat) (ln : Int32) (fa : Int32) (nu : Int32) : Met l yX4_worth (kW yX4_worth cX4_worth 3 (some .int)) { frames := 0, cells := 0, slots := 0, locals := 0 } (kPre dC dI cI cJ cQ sz [.ref h, .int 0, .int b] [(h, .inr (4, [.ref hv, .int ln, .int fa, .int nu]))]) (va_Qi (fun (_ : Int32) (_ : Unit) => True) (fun _ t₀ => kB dC dI cI cJ cQ (va_A [(h, .inr (4, [.ref hv, .int ln, .int fa, .int nu]))] sz) [(h, .inr (4, [.ref hv, .int ln, .int fa, .int nu]))] t₀) (va_A [(h, .inr (4, [.ref hv, .int ln, .int fa, .int nu]))] sz)) 0 0 (va_A [(h, .inr (4, [.ref hv, .int ln, .int fa, .int nu]))] sz) := by
  refine Met.ofW (cc := cX4_worth) (maxL := 3) (ret := (some .int)) (by decide) rfl ?_
  intro p₀ e₀ s₀ m₀ args below meth c₀ s₁ B hml hv₀
  obtain ⟨rfl, hsz, hP, hK, hD0, hN⟩ := hv₀
  have hx₀ := B.exec
  have hb := B.bytes
  have hr := B.returns
  have hts := atoms_spec (ws := (kW yX4_worth cX4_worth 3 (some .int))) B.pre
  have hts := fun w h => hts w (List.mem_cons_of_mem _ h)
  have hown : s₀.vm.findClass RX4 = some m₀.cls := findClass_of_methodNamed B.named
  have hlocks := B.notSynchronized
  subst hsz
  have hD := hD0.self (sz := s₀.heap.size)
  generalize hAe : va_A [(h, .inr (4, [.ref hv, .int ln, .int fa, .int nu]))] s₀.heap.size = A at hD ⊢
  have hA : ∀ q : Nat, s₀.heap.size ≤ q → A q := fun q h => by rw [← hAe]; exact Or.inr h
  have hS : va_S A s₀.heap s₀.heap [] := va_S.rf
  have hP : va_P (dC, dI) vwCl [(h, .inr (4, [.ref hv, .int ln, .int fa, .int nu]))] s₀.heap := hP
  have hl := lv_entry ([.ref h, .int 0, .int b]) (n := 3) (Nat.le_of_ble_eq_true rfl)
  rw [lg_entry_eq]
  generalize (lg_sl ([.ref h, .int 0, .int b]) ++ List.replicate (3 - (lg_sl ([.ref h, .int 0, .int b])).length) Slot.unset).toArray = ls at hl ⊢
  have hl : lv_has ls 3 [(0, .ref h), (1, .int 0), (2, .int b)] := hl
  obtain ⟨H, hH⟩ : ∃ z : Heap, z = s₀.heap := ⟨_, rfl⟩
  rw [← hH] at hP
  have hS : va_S A s₀.heap H [] := by rw [hH]; exact hS
  refine k_heap hH ?_
  have hD : va_D A [(h, .inr (4, [.ref hv, .int ln, .int fa, .int nu]))] := hD
  obtain ⟨locs, hlo⟩ : ∃ z : List Loc, z = [] := ⟨_, rfl⟩
  rw [← hlo] at hS ⊢
  clear hlo hH hAe hD0
  refine lv_iload_n hx₀ hb dX4_worth_0 rfl (lv_at hl 2 rfl) ?_
  refine lv_bipush (v := 97) hx₀ hb dX4_worth_1 (by decide +kernel) ?_
  refine lv_icmp_lt (tgt := 17) hx₀ hb dX4_worth_3 (by decide) (fun c_1 => ?_) (fun c_1 => ?_)
  · refine lv_iload_n hx₀ hb dX4_worth_17 rfl (lv_at hl 2 rfl) ?_
    by_cases c_2 : b = 105
    · refine k_topi (v := 105) c_2 ?_
      refine lv_lookup (off := 37) (tgt := 55) hx₀ hb dX4_worth_18 (by decide +kernel) (by decide +kernel) (by decide) ?_
      refine lv_bipush (v := 7) hx₀ hb dX4_worth_55 (by decide +kernel) ?_
      have hP9 := hP.sub (ws' := [(h, .inr (4, [.ref hv, .int ln, .int fa, .int nu]))]) [0] rfl
      have hD9 := hD.sub (ws' := [(h, .inr (4, [.ref hv, .int ln, .int fa, .int nu]))]) [0] (by decide) rfl
      exact W.iret (v := 7) hx₀ hb hr (fun t₀ ht hW => ⟨⟨7, (), rfl, trivial, by rw [ht]; exact hP9, va_K.moved hW.alike hK, hD9⟩, hS.F ht⟩) hS.2.2 dX4_worth_57
    by_cases c_3 : b = 111
    · refine k_topi (v := 111) c_3 ?_
      refine lv_lookup (off := 34) (tgt := 52) hx₀ hb dX4_worth_18 (by decide +kernel) (by decide +kernel) (by decide) ?_
      refine lv_bipush (v := 6) hx₀ hb dX4_worth_52 (by decide +kernel) ?_
      have hP9 := hP.sub (ws' := [(h, .inr (4, [.ref hv, .int ln, .int fa, .int nu]))]) [0] rfl
      have hD9 := hD.sub (ws' := [(h, .inr (4, [.ref hv, .int ln, .int fa, .int nu]))]) [0] (by decide) rfl
      exact W.iret (v := 6) hx₀ hb hr (fun t₀ ht hW => ⟨⟨6, (), rfl, trivial, by rw [ht]; exact hP9, va_K.moved hW.alike hK, hD9⟩, hS.F ht⟩) hS.2.2 dX4_worth_54
    by_cases c_4 : b = 119
    · refine k_topi (v := 119) c_4 ?_
      refine lv_lookup (off := 40) (tgt := 58) hx₀ hb dX4_worth_18 (by decide +kernel) (by decide +kernel) (by decide) ?_
      refine lv_bipush (v := 8) hx₀ hb dX4_worth_58 (by decide +kernel) ?_
      have hP9 := hP.sub (ws' := [(h, .inr (4, [.ref hv, .int ln, .int fa, .int nu]))]) [0] rfl
      have hD9 := hD.sub (ws' := [(h, .inr (4, [.ref hv, .int ln, .int fa, .int nu]))]) [0] (by decide) rfl
      exact W.iret (v := 8) hx₀ hb hr (fun t₀ ht hW => ⟨⟨8, (), rfl, trivial, by rw [ht]; exact hP9, va_K.moved hW.alike hK, hD9⟩, hS.F ht⟩) hS.2.2 dX4_worth_60
    refine lv_lookup (off := 43) (tgt := 61) hx₀ hb dX4_worth_18 (by decide +kernel) ((lv_osw c_2 rfl).trans ((lv_osw c_3 rfl).trans ((lv_osw c_4 rfl).trans rfl))) (by decide) ?_
    refine lv_iconst (v := (-1)) hx₀ hb dX4_worth_61 (by decide +kernel) ?_
    have hP9 := hP.sub (ws' := [(h, .inr (4, [.ref hv, .int ln, .int fa, .int nu]))]) [0] rfl
    have hD9 := hD.sub (ws' := [(h, .inr (4, [.ref hv, .int ln, .int fa, .int nu]))]) [0] (by decide) rfl
    exact W.iret (v := (-1)) hx₀ hb hr (fun t₀ ht hW => ⟨⟨(-1), (), rfl, trivial, by rw [ht]; exact hP9, va_K.moved hW.alike hK, hD9⟩, hS.F ht⟩) hS.2.2 dX4_worth_62
  · refine lv_iload_n hx₀ hb dX4_worth_6 rfl (lv_at hl 2 rfl) ?_
    refine lv_bipush (v := 102) hx₀ hb dX4_worth_7 (by decide +kernel) ?_
    refine lv_icmp_gt (tgt := 17) hx₀ hb dX4_worth_9 (by decide) (fun c_5 => ?_) (fun c_5 => ?_)
    · refine lv_iload_n hx₀ hb dX4_worth_17 rfl (lv_at hl 2 rfl) ?_
      by_cases c_6 : b = 105
      · refine k_topi (v := 105) c_6 ?_
        refine lv_lookup (off := 37) (tgt := 55) hx₀ hb dX4_worth_18 (by decide +kernel) (by decide +kernel) (by decide) ?_
        refine lv_bipush (v := 7) hx₀ hb dX4_worth_55 (by decide +kernel) ?_
        have hP9 := hP.sub (ws' := [(h, .inr (4, [.ref hv, .int ln, .int fa, .int nu]))]) [0] rfl
        have hD9 := hD.sub (ws' := [(h, .inr (4, [.ref hv, .int ln, .int fa, .int nu]))]) [0] (by decide) rfl
        exact W.iret (v := 7) hx₀ hb hr (fun t₀ ht hW => ⟨⟨7, (), rfl, trivial, by rw [ht]; exact hP9, va_K.moved hW.alike hK, hD9⟩, hS.F ht⟩) hS.2.2 dX4_worth_57
      by_cases c_7 : b = 111
      · refine k_topi (v := 111) c_7 ?_
        refine lv_lookup (off := 34) (tgt := 52) hx₀ hb dX4_worth_18 (by decide +kernel) (by decide +kernel) (by decide) ?_
        refine lv_bipush (v := 6) hx₀ hb dX4_worth_52 (by decide +kernel) ?_
        have hP9 := hP.sub (ws' := [(h, .inr (4, [.ref hv, .int ln, .int fa, .int nu]))]) [0] rfl
        have hD9 := hD.sub (ws' := [(h, .inr (4, [.ref hv, .int ln, .int fa, .int nu]))]) [0] (by decide) rfl
        exact W.iret (v := 6) hx₀ hb hr (fun t₀ ht hW => ⟨⟨6, (), rfl, trivial, by rw [ht]; exact hP9, va_K.moved hW.alike hK, hD9⟩, hS.F ht⟩) hS.2.2 dX4_worth_54
      by_cases c_8 : b = 119
      · refine k_topi (v := 119) c_8 ?_
        refine lv_lookup (off := 40) (tgt := 58) hx₀ hb dX4_worth_18 (by decide +kernel) (by decide +kernel) (by decide) ?_
        refine lv_bipush (v := 8) hx₀ hb dX4_worth_58 (by decide +kernel) ?_
        have hP9 := hP.sub (ws' := [(h, .inr (4, [.ref hv, .int ln, .int fa, .int nu]))]) [0] rfl
        have hD9 := hD.sub (ws' := [(h, .inr (4, [.ref hv, .int ln, .int fa, .int nu]))]) [0] (by decide) rfl
        exact W.iret (v := 8) hx₀ hb hr (fun t₀ ht hW => ⟨⟨8, (), rfl, trivial, by rw [ht]; exact hP9, va_K.moved hW.alike hK, hD9⟩, hS.F ht⟩) hS.2.2 dX4_worth_60
      refine lv_lookup (off := 43) (tgt := 61) hx₀ hb dX4_worth_18 (by decide +kernel) ((lv_osw c_6 rfl).trans ((lv_osw c_7 rfl).trans ((lv_osw c_8 rfl).trans rfl))) (by decide) ?_
      refine lv_iconst (v := (-1)) hx₀ hb dX4_worth_61 (by decide +kernel) ?_
      have hP9 := hP.sub (ws' := [(h, .inr (4, [.ref hv, .int ln, .int fa, .int nu]))]) [0] rfl
      have hD9 := hD.sub (ws' := [(h, .inr (4, [.ref hv, .int ln, .int fa, .int nu]))]) [0] (by decide) rfl
      exact W.iret (v := (-1)) hx₀ hb hr (fun t₀ ht hW => ⟨⟨(-1), (), rfl, trivial, by rw [ht]; exact hP9, va_K.moved hW.alike hK, hD9⟩, hS.F ht⟩) hS.2.2 dX4_worth_62
    · refine lv_iload_n hx₀ hb dX4_worth_12 rfl (lv_at hl 2 rfl) ?_
      refine lv_bipush (v := 97) hx₀ hb dX4_worth_13 (by decide +kernel) ?_
      refine lv_isub hx₀ hb dX4_worth_15 ?_
      have hP9 := hP.sub (ws' := [(h, .inr (4, [.ref hv, .int ln, .int fa, .int nu]))]) [0] rfl
      have hD9 := hD.sub (ws' := [(h, .inr (4, [.ref hv, .int ln, .int fa, .int nu]))]) [0] (by decide) rfl
      exact W.iret (v := b - 97) hx₀ hb hr (fun t₀ ht hW => ⟨⟨b - 97, (), rfl, trivial, by rw [ht]; exact hP9, va_K.moved hW.alike hK, hD9⟩, hS.F ht⟩) hS.2.2 dX4_worth_16
set_option maxHeartbeats 4000000 in
set_option maxRecDepth 100000 in
theorem c_things0_X4 (l : Launch) (dC : Nat → ClassId) (dI : Nat → Nat → Nat) (cI cJ cQ : ClassId) (sz : Nat) (h : Nat) (hv : Nat) (ln : Int32) (fa : Int32) (nu : Int32) : Met l yX4_thingsIn (kW yX4_thingsIn cX4_thingsIn 2 (some .int)) { frames := 0, cells := 0, slots := 0, locals := 0 } (kPre dC dI cI cJ cQ sz [.ref h, .int 0] [(h, .inr (4, [.ref hv, .int ln, .int fa, .int nu]))]) (va_Qi (fun (r : Int32) (_ : Unit) => r = 0) (fun _ t₀ => kB dC dI cI cJ cQ (va_A [(h, .inr (4, [.ref hv, .int ln, .int fa, .int nu]))] sz) [(h, .inr (4, [.ref hv, .int ln, .int fa, .int nu]))] t₀) (va_A [(h, .inr (4, [.ref hv, .int ln, .int fa, .int nu]))] sz)) 0 0 (va_A [(h, .inr (4, [.ref hv, .int ln, .int fa, .int nu]))] sz) := by
  refine Met.ofW (cc := cX4_thingsIn) (maxL := 2) (ret := (some .int)) (by decide) rfl ?_
  intro p₀ e₀ s₀ m₀ args below meth c₀ s₁ B hml hv₀
  obtain ⟨rfl, hsz, hP, hK, hD0, hN⟩ := hv₀
  have hx₀ := B.exec
  have hb := B.bytes
  have hr := B.returns
  have hts := atoms_spec (ws := (kW yX4_thingsIn cX4_thingsIn 2 (some .int))) B.pre
  have hts := fun w h => hts w (List.mem_cons_of_mem _ h)
  have hown : s₀.vm.findClass RX4 = some m₀.cls := findClass_of_methodNamed B.named
  have hlocks := B.notSynchronized
  subst hsz
  have hD := hD0.self (sz := s₀.heap.size)
  generalize hAe : va_A [(h, .inr (4, [.ref hv, .int ln, .int fa, .int nu]))] s₀.heap.size = A at hD ⊢
  have hA : ∀ q : Nat, s₀.heap.size ≤ q → A q := fun q h => by rw [← hAe]; exact Or.inr h
  have hS : va_S A s₀.heap s₀.heap [] := va_S.rf
  have hP : va_P (dC, dI) vwCl [(h, .inr (4, [.ref hv, .int ln, .int fa, .int nu]))] s₀.heap := hP
  have hl := lv_entry ([.ref h, .int 0]) (n := 2) (Nat.le_of_ble_eq_true rfl)
  rw [lg_entry_eq]
  generalize (lg_sl ([.ref h, .int 0]) ++ List.replicate (2 - (lg_sl ([.ref h, .int 0])).length) Slot.unset).toArray = ls at hl ⊢
  have hl : lv_has ls 2 [(0, .ref h), (1, .int 0)] := hl
  obtain ⟨H, hH⟩ : ∃ z : Heap, z = s₀.heap := ⟨_, rfl⟩
  rw [← hH] at hP
  have hS : va_S A s₀.heap H [] := by rw [hH]; exact hS
  refine k_heap hH ?_
  have hD : va_D A [(h, .inr (4, [.ref hv, .int ln, .int fa, .int nu]))] := hD
  obtain ⟨locs, hlo⟩ : ∃ z : List Loc, z = [] := ⟨_, rfl⟩
  rw [← hlo] at hS ⊢
  clear hlo hH hAe hD0
  refine lv_iload_n hx₀ hb dX4_thingsIn_0 rfl (lv_at hl 1 rfl) ?_
  have hP9 := hP.sub (ws' := [(h, .inr (4, [.ref hv, .int ln, .int fa, .int nu]))]) [0] rfl
  have hD9 := hD.sub (ws' := [(h, .inr (4, [.ref hv, .int ln, .int fa, .int nu]))]) [0] (by decide) rfl
  exact W.iret (v := 0) hx₀ hb hr (fun t₀ ht hW => ⟨⟨0, (), rfl, rfl, by rw [ht]; exact hP9, va_K.moved hW.alike hK, hD9⟩, hS.F ht⟩) hS.2.2 dX4_thingsIn_1
set_option maxHeartbeats 4000000 in
set_option maxRecDepth 100000 in
theorem c_things1_X4 (l : Launch) (dC : Nat → ClassId) (dI : Nat → Nat → Nat) (cI cJ cQ : ClassId) (sz : Nat) (h : Nat) (hv : Nat) (ln : Int32) (fa : Int32) (nu : Int32) : Met l yX4_thingsIn (kW yX4_thingsIn cX4_thingsIn 2 (some .int)) { frames := 0, cells := 0, slots := 0, locals := 0 } (kPre dC dI cI cJ cQ sz [.ref h, .int 1] [(h, .inr (4, [.ref hv, .int ln, .int fa, .int nu]))]) (va_Qi (fun (r : Int32) (_ : Unit) => r = 1) (fun _ t₀ => kB dC dI cI cJ cQ (va_A [(h, .inr (4, [.ref hv, .int ln, .int fa, .int nu]))] sz) [(h, .inr (4, [.ref hv, .int ln, .int fa, .int nu]))] t₀) (va_A [(h, .inr (4, [.ref hv, .int ln, .int fa, .int nu]))] sz)) 0 0 (va_A [(h, .inr (4, [.ref hv, .int ln, .int fa, .int nu]))] sz) := by
  refine Met.ofW (cc := cX4_thingsIn) (maxL := 2) (ret := (some .int)) (by decide) rfl ?_
  intro p₀ e₀ s₀ m₀ args below meth c₀ s₁ B hml hv₀
  obtain ⟨rfl, hsz, hP, hK, hD0, hN⟩ := hv₀
  have hx₀ := B.exec
  have hb := B.bytes
  have hr := B.returns
  have hts := atoms_spec (ws := (kW yX4_thingsIn cX4_thingsIn 2 (some .int))) B.pre
  have hts := fun w h => hts w (List.mem_cons_of_mem _ h)
  have hown : s₀.vm.findClass RX4 = some m₀.cls := findClass_of_methodNamed B.named
  have hlocks := B.notSynchronized
  subst hsz
  have hD := hD0.self (sz := s₀.heap.size)
  generalize hAe : va_A [(h, .inr (4, [.ref hv, .int ln, .int fa, .int nu]))] s₀.heap.size = A at hD ⊢
  have hA : ∀ q : Nat, s₀.heap.size ≤ q → A q := fun q h => by rw [← hAe]; exact Or.inr h
  have hS : va_S A s₀.heap s₀.heap [] := va_S.rf
  have hP : va_P (dC, dI) vwCl [(h, .inr (4, [.ref hv, .int ln, .int fa, .int nu]))] s₀.heap := hP
  have hl := lv_entry ([.ref h, .int 1]) (n := 2) (Nat.le_of_ble_eq_true rfl)
  rw [lg_entry_eq]
  generalize (lg_sl ([.ref h, .int 1]) ++ List.replicate (2 - (lg_sl ([.ref h, .int 1])).length) Slot.unset).toArray = ls at hl ⊢
  have hl : lv_has ls 2 [(0, .ref h), (1, .int 1)] := hl
  obtain ⟨H, hH⟩ : ∃ z : Heap, z = s₀.heap := ⟨_, rfl⟩
  rw [← hH] at hP
  have hS : va_S A s₀.heap H [] := by rw [hH]; exact hS
  refine k_heap hH ?_
  have hD : va_D A [(h, .inr (4, [.ref hv, .int ln, .int fa, .int nu]))] := hD
  obtain ⟨locs, hlo⟩ : ∃ z : List Loc, z = [] := ⟨_, rfl⟩
  rw [← hlo] at hS ⊢
  clear hlo hH hAe hD0
  refine lv_iload_n hx₀ hb dX4_thingsIn_0 rfl (lv_at hl 1 rfl) ?_
  have hP9 := hP.sub (ws' := [(h, .inr (4, [.ref hv, .int ln, .int fa, .int nu]))]) [0] rfl
  have hD9 := hD.sub (ws' := [(h, .inr (4, [.ref hv, .int ln, .int fa, .int nu]))]) [0] (by decide) rfl
  exact W.iret (v := 1) hx₀ hb hr (fun t₀ ht hW => ⟨⟨1, (), rfl, rfl, by rw [ht]; exact hP9, va_K.moved hW.alike hK, hD9⟩, hS.F ht⟩) hS.2.2 dX4_thingsIn_1
set_option maxHeartbeats 4000000 in
set_option maxRecDepth 100000 in
theorem c_worth0_X7 (l : Launch) (dC : Nat → ClassId) (dI : Nat → Nat → Nat) (cI cJ cQ : ClassId) (sz : Nat) (h : Nat) (b : Int32) (hv : Nat) (ln : Int32) (fa : Int32) (nu : Int32) : Met l yX7_worth (kW yX7_worth cX7_worth 3 (some .int)) { frames := 1, cells := 0, slots := 0, locals := 20 } (kPre dC dI cI cJ cQ sz [.ref h, .int 0, .int b] [(h, .inr (7, [.ref hv, .int ln, .int fa, .int nu]))]) (va_Qi (fun (_ : Int32) (_ : Unit) => True) (fun _ t₀ => kB dC dI cI cJ cQ (va_A [(h, .inr (7, [.ref hv, .int ln, .int fa, .int nu]))] sz) [(h, .inr (7, [.ref hv, .int ln, .int fa, .int nu]))] t₀) (va_A [(h, .inr (7, [.ref hv, .int ln, .int fa, .int nu]))] sz)) 0 0 (va_A [(h, .inr (7, [.ref hv, .int ln, .int fa, .int nu]))] sz) := by
  refine Met.ofW (cc := cX7_worth) (maxL := 3) (ret := (some .int)) (by decide) rfl ?_
  intro p₀ e₀ s₀ m₀ args below meth c₀ s₁ B hml hv₀
  obtain ⟨rfl, hsz, hP, hK, hD0, hN⟩ := hv₀
  have hx₀ := B.exec
  have hb := B.bytes
  have hr := B.returns
  have hts := atoms_spec (ws := (kW yX7_worth cX7_worth 3 (some .int))) B.pre
  have hts := fun w h => hts w (List.mem_cons_of_mem _ h)
  have hown : s₀.vm.findClass RX7 = some m₀.cls := findClass_of_methodNamed B.named
  have hlocks := B.notSynchronized
  subst hsz
  have hD := hD0.self (sz := s₀.heap.size)
  generalize hAe : va_A [(h, .inr (7, [.ref hv, .int ln, .int fa, .int nu]))] s₀.heap.size = A at hD ⊢
  have hA : ∀ q : Nat, s₀.heap.size ≤ q → A q := fun q h => by rw [← hAe]; exact Or.inr h
  have hS : va_S A s₀.heap s₀.heap [] := va_S.rf
  have hP : va_P (dC, dI) vwCl [(h, .inr (7, [.ref hv, .int ln, .int fa, .int nu]))] s₀.heap := hP
  have hl := lv_entry ([.ref h, .int 0, .int b]) (n := 3) (Nat.le_of_ble_eq_true rfl)
  rw [lg_entry_eq]
  generalize (lg_sl ([.ref h, .int 0, .int b]) ++ List.replicate (3 - (lg_sl ([.ref h, .int 0, .int b])).length) Slot.unset).toArray = ls at hl ⊢
  have hl : lv_has ls 3 [(0, .ref h), (1, .int 0), (2, .int b)] := hl
  obtain ⟨H, hH⟩ : ∃ z : Heap, z = s₀.heap := ⟨_, rfl⟩
  rw [← hH] at hP
  have hS : va_S A s₀.heap H [] := by rw [hH]; exact hS
  refine k_heap hH ?_
  have hD : va_D A [(h, .inr (7, [.ref hv, .int ln, .int fa, .int nu]))] := hD
  obtain ⟨locs, hlo⟩ : ∃ z : List Loc, z = [] := ⟨_, rfl⟩
  rw [← hlo] at hS ⊢
  clear hlo hH hAe hD0
  refine lv_iload_n hx₀ hb dX7_worth_0 rfl (lv_at hl 1 rfl) ?_
  refine lv_iconst (v := 5) hx₀ hb dX7_worth_1 (by decide +kernel) ?_
  refine lv_irem hx₀ hb dX7_worth_2 (by decide +kernel) ?_
  refine k_topi (v := 0) (by decide +kernel) ?_
  refine lv_tableIn (off := 33) (tgt := 36) hx₀ hb dX7_worth_3 (by decide +kernel) (by decide +kernel) (by decide +kernel) (by decide) ?_
  refine lv_iload_n hx₀ hb dX7_worth_36 rfl (lv_at hl 2 rfl) ?_
  have hPc := hP.sub (ws' := []) [] rfl
  have hDc := hD.sub (ws' := []) [] (by decide) rfl
  have hFc := va_free (wc := []) hD hS hA [] rfl
  refine va_calli (va_runS (As := [.int b]) (rest := []) ⟨hx₀, hb, hml, hown, hts⟩ (c_kind l dC dI cI cJ cQ H.size b) (va_cwS 1 hts (kGS wd_168 wd_166 wd_167 wd_18) rfl rfl rfl (by decide +kernel) ⟨Nat.le_of_ble_eq_true rfl, Nat.le_of_ble_eq_true rfl⟩) (k_preS hK hPc hDc hN) rfl rfl hl.1 rfl (lv_room (Nat.le_of_ble_eq_true rfl)) dX7_worth_37 ⟨by decide +kernel, by decide +kernel⟩) hS (fun q _ h => hFc q h) hFc (fun r_1 u₀ t₀ H1 locs ht hvm hw hB hz1 hk1 hS => ?_)
  obtain ⟨hP1, hK1, hD1⟩ := hB
  rw [ht] at hP1
  obtain ⟨hP, hD⟩ := va_join (wr := [(h, .inr (7, [.ref hv, .int ln, .int fa, .int nu]))]) (w1 := []) hP hD [] [0] rfl rfl (by decide) (by decide) hk1 hFc hP1 hD1
  generalize H1 = H at hP hS ⊢
  have hP : va_P (dC, dI) vwCl [(h, .inr (7, [.ref hv, .int ln, .int fa, .int nu]))] H := hP
  have hD : va_D A [(h, .inr (7, [.ref hv, .int ln, .int fa, .int nu]))] := hD
  try dsimp only at hw
  have hP9 := hP.sub (ws' := [(h, .inr (7, [.ref hv, .int ln, .int fa, .int nu]))]) [0] rfl
  have hD9 := hD.sub (ws' := [(h, .inr (7, [.ref hv, .int ln, .int fa, .int nu]))]) [0] (by decide) rfl
  exact W.iret (v := r_1) hx₀ hb hr (fun t₀ ht hW => ⟨⟨r_1, (), rfl, trivial, by rw [ht]; exact hP9, va_K.moved hW.alike hK, hD9⟩, hS.F ht⟩) hS.2.2 dX7_worth_40
set_option maxHeartbeats 4000000 in
set_option maxRecDepth 100000 in
theorem c_things0_X7 (l : Launch) (dC : Nat → ClassId) (dI : Nat → Nat → Nat) (cI cJ cQ : ClassId) (sz : Nat) (h : Nat) (hv : Nat) (ln : Int32) (fa : Int32) (nu : Int32) : Met l yX7_thingsIn (kW yX7_thingsIn cX7_thingsIn 2 (some .int)) { frames := 0, cells := 0, slots := 0, locals := 0 } (kPre dC dI cI cJ cQ sz [.ref h, .int 0] [(h, .inr (7, [.ref hv, .int ln, .int fa, .int nu]))]) (va_Qi (fun (r : Int32) (_ : Unit) => r = 0) (fun _ t₀ => kB dC dI cI cJ cQ (va_A [(h, .inr (7, [.ref hv, .int ln, .int fa, .int nu]))] sz) [(h, .inr (7, [.ref hv, .int ln, .int fa, .int nu]))] t₀) (va_A [(h, .inr (7, [.ref hv, .int ln, .int fa, .int nu]))] sz)) 0 0 (va_A [(h, .inr (7, [.ref hv, .int ln, .int fa, .int nu]))] sz) := by
  refine Met.ofW (cc := cX7_thingsIn) (maxL := 2) (ret := (some .int)) (by decide) rfl ?_
  intro p₀ e₀ s₀ m₀ args below meth c₀ s₁ B hml hv₀
  obtain ⟨rfl, hsz, hP, hK, hD0, hN⟩ := hv₀
  have hx₀ := B.exec
  have hb := B.bytes
  have hr := B.returns
  have hts := atoms_spec (ws := (kW yX7_thingsIn cX7_thingsIn 2 (some .int))) B.pre
  have hts := fun w h => hts w (List.mem_cons_of_mem _ h)
  have hown : s₀.vm.findClass RX7 = some m₀.cls := findClass_of_methodNamed B.named
  have hlocks := B.notSynchronized
  subst hsz
  have hD := hD0.self (sz := s₀.heap.size)
  generalize hAe : va_A [(h, .inr (7, [.ref hv, .int ln, .int fa, .int nu]))] s₀.heap.size = A at hD ⊢
  have hA : ∀ q : Nat, s₀.heap.size ≤ q → A q := fun q h => by rw [← hAe]; exact Or.inr h
  have hS : va_S A s₀.heap s₀.heap [] := va_S.rf
  have hP : va_P (dC, dI) vwCl [(h, .inr (7, [.ref hv, .int ln, .int fa, .int nu]))] s₀.heap := hP
  have hl := lv_entry ([.ref h, .int 0]) (n := 2) (Nat.le_of_ble_eq_true rfl)
  rw [lg_entry_eq]
  generalize (lg_sl ([.ref h, .int 0]) ++ List.replicate (2 - (lg_sl ([.ref h, .int 0])).length) Slot.unset).toArray = ls at hl ⊢
  have hl : lv_has ls 2 [(0, .ref h), (1, .int 0)] := hl
  obtain ⟨H, hH⟩ : ∃ z : Heap, z = s₀.heap := ⟨_, rfl⟩
  rw [← hH] at hP
  have hS : va_S A s₀.heap H [] := by rw [hH]; exact hS
  refine k_heap hH ?_
  have hD : va_D A [(h, .inr (7, [.ref hv, .int ln, .int fa, .int nu]))] := hD
  obtain ⟨locs, hlo⟩ : ∃ z : List Loc, z = [] := ⟨_, rfl⟩
  rw [← hlo] at hS ⊢
  clear hlo hH hAe hD0
  refine lv_iload_n hx₀ hb dX7_thingsIn_0 rfl (lv_at hl 1 rfl) ?_
  refine lv_if_ne (tgt := 6) hx₀ hb dX7_thingsIn_1 (by decide) (fun c9 => absurd (by decide +kernel) c9) (fun _ => ?_)
  refine lv_iconst (v := 0) hx₀ hb dX7_thingsIn_4 (by decide +kernel) ?_
  have hP9 := hP.sub (ws' := [(h, .inr (7, [.ref hv, .int ln, .int fa, .int nu]))]) [0] rfl
  have hD9 := hD.sub (ws' := [(h, .inr (7, [.ref hv, .int ln, .int fa, .int nu]))]) [0] (by decide) rfl
  exact W.iret (v := 0) hx₀ hb hr (fun t₀ ht hW => ⟨⟨0, (), rfl, rfl, by rw [ht]; exact hP9, va_K.moved hW.alike hK, hD9⟩, hS.F ht⟩) hS.2.2 dX7_thingsIn_5
set_option maxHeartbeats 4000000 in
set_option maxRecDepth 100000 in
theorem c_things1_X7 (l : Launch) (dC : Nat → ClassId) (dI : Nat → Nat → Nat) (cI cJ cQ : ClassId) (sz : Nat) (h : Nat) (hv : Nat) (ln : Int32) (fa : Int32) (nu : Int32) : Met l yX7_thingsIn (kW yX7_thingsIn cX7_thingsIn 2 (some .int)) { frames := 0, cells := 0, slots := 0, locals := 0 } (kPre dC dI cI cJ cQ sz [.ref h, .int 1] [(h, .inr (7, [.ref hv, .int ln, .int fa, .int nu]))]) (va_Qi (fun (r : Int32) (_ : Unit) => r = (-1)) (fun _ t₀ => kB dC dI cI cJ cQ (va_A [(h, .inr (7, [.ref hv, .int ln, .int fa, .int nu]))] sz) [(h, .inr (7, [.ref hv, .int ln, .int fa, .int nu]))] t₀) (va_A [(h, .inr (7, [.ref hv, .int ln, .int fa, .int nu]))] sz)) 0 0 (va_A [(h, .inr (7, [.ref hv, .int ln, .int fa, .int nu]))] sz) := by
  refine Met.ofW (cc := cX7_thingsIn) (maxL := 2) (ret := (some .int)) (by decide) rfl ?_
  intro p₀ e₀ s₀ m₀ args below meth c₀ s₁ B hml hv₀
  obtain ⟨rfl, hsz, hP, hK, hD0, hN⟩ := hv₀
  have hx₀ := B.exec
  have hb := B.bytes
  have hr := B.returns
  have hts := atoms_spec (ws := (kW yX7_thingsIn cX7_thingsIn 2 (some .int))) B.pre
  have hts := fun w h => hts w (List.mem_cons_of_mem _ h)
  have hown : s₀.vm.findClass RX7 = some m₀.cls := findClass_of_methodNamed B.named
  have hlocks := B.notSynchronized
  subst hsz
  have hD := hD0.self (sz := s₀.heap.size)
  generalize hAe : va_A [(h, .inr (7, [.ref hv, .int ln, .int fa, .int nu]))] s₀.heap.size = A at hD ⊢
  have hA : ∀ q : Nat, s₀.heap.size ≤ q → A q := fun q h => by rw [← hAe]; exact Or.inr h
  have hS : va_S A s₀.heap s₀.heap [] := va_S.rf
  have hP : va_P (dC, dI) vwCl [(h, .inr (7, [.ref hv, .int ln, .int fa, .int nu]))] s₀.heap := hP
  have hl := lv_entry ([.ref h, .int 1]) (n := 2) (Nat.le_of_ble_eq_true rfl)
  rw [lg_entry_eq]
  generalize (lg_sl ([.ref h, .int 1]) ++ List.replicate (2 - (lg_sl ([.ref h, .int 1])).length) Slot.unset).toArray = ls at hl ⊢
  have hl : lv_has ls 2 [(0, .ref h), (1, .int 1)] := hl
  obtain ⟨H, hH⟩ : ∃ z : Heap, z = s₀.heap := ⟨_, rfl⟩
  rw [← hH] at hP
  have hS : va_S A s₀.heap H [] := by rw [hH]; exact hS
  refine k_heap hH ?_
  have hD : va_D A [(h, .inr (7, [.ref hv, .int ln, .int fa, .int nu]))] := hD
  obtain ⟨locs, hlo⟩ : ∃ z : List Loc, z = [] := ⟨_, rfl⟩
  rw [← hlo] at hS ⊢
  clear hlo hH hAe hD0
  refine lv_iload_n hx₀ hb dX7_thingsIn_0 rfl (lv_at hl 1 rfl) ?_
  refine lv_if_ne (tgt := 6) hx₀ hb dX7_thingsIn_1 (by decide) (fun _ => ?_) (fun c9 => absurd c9 (by decide +kernel))
  refine lv_iload_n hx₀ hb dX7_thingsIn_6 rfl (lv_at hl 1 rfl) ?_
  refine lv_iconst (v := 5) hx₀ hb dX7_thingsIn_7 (by decide +kernel) ?_
  refine lv_irem hx₀ hb dX7_thingsIn_8 (by decide +kernel) ?_
  refine k_topi (v := 1) (by decide +kernel) ?_
  refine lv_iconst (v := 4) hx₀ hb dX7_thingsIn_9 (by decide +kernel) ?_
  refine lv_icmp_ne (tgt := 21) hx₀ hb dX7_thingsIn_10 (by decide) (fun _ => ?_) (fun c9 => absurd c9 (by decide +kernel))
  refine lv_iconst (v := (-1)) hx₀ hb dX7_thingsIn_21 (by decide +kernel) ?_
  have hP9 := hP.sub (ws' := [(h, .inr (7, [.ref hv, .int ln, .int fa, .int nu]))]) [0] rfl
  have hD9 := hD.sub (ws' := [(h, .inr (7, [.ref hv, .int ln, .int fa, .int nu]))]) [0] (by decide) rfl
  exact W.iret (v := (-1)) hx₀ hb hr (fun t₀ ht hW => ⟨⟨(-1), (), rfl, rfl, by rw [ht]; exact hP9, va_K.moved hW.alike hK, hD9⟩, hS.F ht⟩) hS.2.2 dX7_thingsIn_22
set_option maxHeartbeats 4000000 in
set_option maxRecDepth 100000 in
theorem c_worth0_X2 (l : Launch) (dC : Nat → ClassId) (dI : Nat → Nat → Nat) (cI cJ cQ : ClassId) (sz : Nat) (h : Nat) (b : Int32) (hv : Nat) (ln : Int32) (fa : Int32) (nu : Int32) : Met l yX2_worth (kW yX2_worth cX2_worth 3 (some .int)) { frames := 0, cells := 0, slots := 0, locals := 0 } (kPre dC dI cI cJ cQ sz [.ref h, .int 0, .int b] [(h, .inr (2, [.ref hv, .int ln, .int fa, .int nu]))]) (va_Qi (fun (_ : Int32) (_ : Unit) => True) (fun _ t₀ => kB dC dI cI cJ cQ (va_A [(h, .inr (2, [.ref hv, .int ln, .int fa, .int nu]))] sz) [(h, .inr (2, [.ref hv, .int ln, .int fa, .int nu]))] t₀) (va_A [(h, .inr (2, [.ref hv, .int ln, .int fa, .int nu]))] sz)) 0 0 (va_A [(h, .inr (2, [.ref hv, .int ln, .int fa, .int nu]))] sz) := by
  refine Met.ofW (cc := cX2_worth) (maxL := 3) (ret := (some .int)) (by decide) rfl ?_
  intro p₀ e₀ s₀ m₀ args below meth c₀ s₁ B hml hv₀
  obtain ⟨rfl, hsz, hP, hK, hD0, hN⟩ := hv₀
  have hx₀ := B.exec
  have hb := B.bytes
  have hr := B.returns
  have hts := atoms_spec (ws := (kW yX2_worth cX2_worth 3 (some .int))) B.pre
  have hts := fun w h => hts w (List.mem_cons_of_mem _ h)
  have hown : s₀.vm.findClass RX2 = some m₀.cls := findClass_of_methodNamed B.named
  have hlocks := B.notSynchronized
  subst hsz
  have hD := hD0.self (sz := s₀.heap.size)
  generalize hAe : va_A [(h, .inr (2, [.ref hv, .int ln, .int fa, .int nu]))] s₀.heap.size = A at hD ⊢
  have hA : ∀ q : Nat, s₀.heap.size ≤ q → A q := fun q h => by rw [← hAe]; exact Or.inr h
  have hS : va_S A s₀.heap s₀.heap [] := va_S.rf
  have hP : va_P (dC, dI) vwCl [(h, .inr (2, [.ref hv, .int ln, .int fa, .int nu]))] s₀.heap := hP
  have hl := lv_entry ([.ref h, .int 0, .int b]) (n := 3) (Nat.le_of_ble_eq_true rfl)
  rw [lg_entry_eq]
  generalize (lg_sl ([.ref h, .int 0, .int b]) ++ List.replicate (3 - (lg_sl ([.ref h, .int 0, .int b])).length) Slot.unset).toArray = ls at hl ⊢
  have hl : lv_has ls 3 [(0, .ref h), (1, .int 0), (2, .int b)] := hl
  obtain ⟨H, hH⟩ : ∃ z : Heap, z = s₀.heap := ⟨_, rfl⟩
  rw [← hH] at hP
  have hS : va_S A s₀.heap H [] := by rw [hH]; exact hS
  refine k_heap hH ?_
  have hD : va_D A [(h, .inr (2, [.ref hv, .int ln, .int fa, .int nu]))] := hD
  obtain ⟨locs, hlo⟩ : ∃ z : List Loc, z = [] := ⟨_, rfl⟩
  rw [← hlo] at hS ⊢
  clear hlo hH hAe hD0
  refine lv_iload_n hx₀ hb dX2_worth_0 rfl (lv_at hl 1 rfl) ?_
  refine lv_iconst (v := 3) hx₀ hb dX2_worth_1 (by decide +kernel) ?_
  refine lv_irem hx₀ hb dX2_worth_2 (by decide +kernel) ?_
  refine k_topi (v := 0) (by decide +kernel) ?_
  refine lv_lookup (off := 25) (tgt := 28) hx₀ hb dX2_worth_3 (by decide +kernel) (by decide +kernel) (by decide) ?_
  refine lv_iload_n hx₀ hb dX2_worth_28 rfl (lv_at hl 2 rfl) ?_
  refine lv_bipush (v := 49) hx₀ hb dX2_worth_29 (by decide +kernel) ?_
  refine lv_icmp_lt (tgt := 47) hx₀ hb dX2_worth_31 (by decide) (fun c_1 => ?_) (fun c_1 => ?_)
  · refine lv_iconst (v := (-1)) hx₀ hb dX2_worth_47 (by decide +kernel) ?_
    have hP9 := hP.sub (ws' := [(h, .inr (2, [.ref hv, .int ln, .int fa, .int nu]))]) [0] rfl
    have hD9 := hD.sub (ws' := [(h, .inr (2, [.ref hv, .int ln, .int fa, .int nu]))]) [0] (by decide) rfl
    exact W.iret (v := (-1)) hx₀ hb hr (fun t₀ ht hW => ⟨⟨(-1), (), rfl, trivial, by rw [ht]; exact hP9, va_K.moved hW.alike hK, hD9⟩, hS.F ht⟩) hS.2.2 dX2_worth_48
  · refine lv_iload_n hx₀ hb dX2_worth_34 rfl (lv_at hl 2 rfl) ?_
    refine lv_bipush (v := 57) hx₀ hb dX2_worth_35 (by decide +kernel) ?_
    refine lv_icmp_gt (tgt := 47) hx₀ hb dX2_worth_37 (by decide) (fun c_2 => ?_) (fun c_2 => ?_)
    · refine lv_iconst (v := (-1)) hx₀ hb dX2_worth_47 (by decide +kernel) ?_
      have hP9 := hP.sub (ws' := [(h, .inr (2, [.ref hv, .int ln, .int fa, .int nu]))]) [0] rfl
      have hD9 := hD.sub (ws' := [(h, .inr (2, [.ref hv, .int ln, .int fa, .int nu]))]) [0] (by decide) rfl
      exact W.iret (v := (-1)) hx₀ hb hr (fun t₀ ht hW => ⟨⟨(-1), (), rfl, trivial, by rw [ht]; exact hP9, va_K.moved hW.alike hK, hD9⟩, hS.F ht⟩) hS.2.2 dX2_worth_48
    · refine lv_iload_n hx₀ hb dX2_worth_40 rfl (lv_at hl 2 rfl) ?_
      refine lv_bipush (v := 48) hx₀ hb dX2_worth_41 (by decide +kernel) ?_
      refine lv_isub hx₀ hb dX2_worth_43 ?_
      refine lv_goto (tgt := 48) hx₀ hb dX2_worth_44 (by decide) ?_
      have hP9 := hP.sub (ws' := [(h, .inr (2, [.ref hv, .int ln, .int fa, .int nu]))]) [0] rfl
      have hD9 := hD.sub (ws' := [(h, .inr (2, [.ref hv, .int ln, .int fa, .int nu]))]) [0] (by decide) rfl
      exact W.iret (v := b - 48) hx₀ hb hr (fun t₀ ht hW => ⟨⟨b - 48, (), rfl, trivial, by rw [ht]; exact hP9, va_K.moved hW.alike hK, hD9⟩, hS.F ht⟩) hS.2.2 dX2_worth_48
set_option maxHeartbeats 4000000 in
set_option maxRecDepth 100000 in
theorem c_things0_X2 (l : Launch) (dC : Nat → ClassId) (dI : Nat → Nat → Nat) (cI cJ cQ : ClassId) (sz : Nat) (h : Nat) (hv : Nat) (ln : Int32) (fa : Int32) (nu : Int32) : Met l yX2_thingsIn (kW yX2_thingsIn cX2_thingsIn 2 (some .int)) { frames := 0, cells := 0, slots := 0, locals := 0 } (kPre dC dI cI cJ cQ sz [.ref h, .int 0] [(h, .inr (2, [.ref hv, .int ln, .int fa, .int nu]))]) (va_Qi (fun (r : Int32) (_ : Unit) => r = 0) (fun _ t₀ => kB dC dI cI cJ cQ (va_A [(h, .inr (2, [.ref hv, .int ln, .int fa, .int nu]))] sz) [(h, .inr (2, [.ref hv, .int ln, .int fa, .int nu]))] t₀) (va_A [(h, .inr (2, [.ref hv, .int ln, .int fa, .int nu]))] sz)) 0 0 (va_A [(h, .inr (2, [.ref hv, .int ln, .int fa, .int nu]))] sz) := by
  refine Met.ofW (cc := cX2_thingsIn) (maxL := 2) (ret := (some .int)) (by decide) rfl ?_
  intro p₀ e₀ s₀ m₀ args below meth c₀ s₁ B hml hv₀
  obtain ⟨rfl, hsz, hP, hK, hD0, hN⟩ := hv₀
  have hx₀ := B.exec
  have hb := B.bytes
  have hr := B.returns
  have hts := atoms_spec (ws := (kW yX2_thingsIn cX2_thingsIn 2 (some .int))) B.pre
  have hts := fun w h => hts w (List.mem_cons_of_mem _ h)
  have hown : s₀.vm.findClass RX2 = some m₀.cls := findClass_of_methodNamed B.named
  have hlocks := B.notSynchronized
  subst hsz
  have hD := hD0.self (sz := s₀.heap.size)
  generalize hAe : va_A [(h, .inr (2, [.ref hv, .int ln, .int fa, .int nu]))] s₀.heap.size = A at hD ⊢
  have hA : ∀ q : Nat, s₀.heap.size ≤ q → A q := fun q h => by rw [← hAe]; exact Or.inr h
  have hS : va_S A s₀.heap s₀.heap [] := va_S.rf
  have hP : va_P (dC, dI) vwCl [(h, .inr (2, [.ref hv, .int ln, .int fa, .int nu]))] s₀.heap := hP
  have hl := lv_entry ([.ref h, .int 0]) (n := 2) (Nat.le_of_ble_eq_true rfl)
  rw [lg_entry_eq]
  generalize (lg_sl ([.ref h, .int 0]) ++ List.replicate (2 - (lg_sl ([.ref h, .int 0])).length) Slot.unset).toArray = ls at hl ⊢
  have hl : lv_has ls 2 [(0, .ref h), (1, .int 0)] := hl
  obtain ⟨H, hH⟩ : ∃ z : Heap, z = s₀.heap := ⟨_, rfl⟩
  rw [← hH] at hP
  have hS : va_S A s₀.heap H [] := by rw [hH]; exact hS
  refine k_heap hH ?_
  have hD : va_D A [(h, .inr (2, [.ref hv, .int ln, .int fa, .int nu]))] := hD
  obtain ⟨locs, hlo⟩ : ∃ z : List Loc, z = [] := ⟨_, rfl⟩
  rw [← hlo] at hS ⊢
  clear hlo hH hAe hD0
  refine lv_iload_n hx₀ hb dX2_thingsIn_0 rfl (lv_at hl 1 rfl) ?_
  refine lv_if_ne (tgt := 6) hx₀ hb dX2_thingsIn_1 (by decide) (fun c9 => absurd (by decide +kernel) c9) (fun _ => ?_)
  refine lv_iconst (v := 0) hx₀ hb dX2_thingsIn_4 (by decide +kernel) ?_
  have hP9 := hP.sub (ws' := [(h, .inr (2, [.ref hv, .int ln, .int fa, .int nu]))]) [0] rfl
  have hD9 := hD.sub (ws' := [(h, .inr (2, [.ref hv, .int ln, .int fa, .int nu]))]) [0] (by decide) rfl
  exact W.iret (v := 0) hx₀ hb hr (fun t₀ ht hW => ⟨⟨0, (), rfl, rfl, by rw [ht]; exact hP9, va_K.moved hW.alike hK, hD9⟩, hS.F ht⟩) hS.2.2 dX2_thingsIn_5
set_option maxHeartbeats 4000000 in
set_option maxRecDepth 100000 in
theorem c_things1_X2 (l : Launch) (dC : Nat → ClassId) (dI : Nat → Nat → Nat) (cI cJ cQ : ClassId) (sz : Nat) (h : Nat) (hv : Nat) (ln : Int32) (fa : Int32) (nu : Int32) : Met l yX2_thingsIn (kW yX2_thingsIn cX2_thingsIn 2 (some .int)) { frames := 0, cells := 0, slots := 0, locals := 0 } (kPre dC dI cI cJ cQ sz [.ref h, .int 1] [(h, .inr (2, [.ref hv, .int ln, .int fa, .int nu]))]) (va_Qi (fun (r : Int32) (_ : Unit) => r = (-1)) (fun _ t₀ => kB dC dI cI cJ cQ (va_A [(h, .inr (2, [.ref hv, .int ln, .int fa, .int nu]))] sz) [(h, .inr (2, [.ref hv, .int ln, .int fa, .int nu]))] t₀) (va_A [(h, .inr (2, [.ref hv, .int ln, .int fa, .int nu]))] sz)) 0 0 (va_A [(h, .inr (2, [.ref hv, .int ln, .int fa, .int nu]))] sz) := by
  refine Met.ofW (cc := cX2_thingsIn) (maxL := 2) (ret := (some .int)) (by decide) rfl ?_
  intro p₀ e₀ s₀ m₀ args below meth c₀ s₁ B hml hv₀
  obtain ⟨rfl, hsz, hP, hK, hD0, hN⟩ := hv₀
  have hx₀ := B.exec
  have hb := B.bytes
  have hr := B.returns
  have hts := atoms_spec (ws := (kW yX2_thingsIn cX2_thingsIn 2 (some .int))) B.pre
  have hts := fun w h => hts w (List.mem_cons_of_mem _ h)
  have hown : s₀.vm.findClass RX2 = some m₀.cls := findClass_of_methodNamed B.named
  have hlocks := B.notSynchronized
  subst hsz
  have hD := hD0.self (sz := s₀.heap.size)
  generalize hAe : va_A [(h, .inr (2, [.ref hv, .int ln, .int fa, .int nu]))] s₀.heap.size = A at hD ⊢
  have hA : ∀ q : Nat, s₀.heap.size ≤ q → A q := fun q h => by rw [← hAe]; exact Or.inr h
  have hS : va_S A s₀.heap s₀.heap [] := va_S.rf
  have hP : va_P (dC, dI) vwCl [(h, .inr (2, [.ref hv, .int ln, .int fa, .int nu]))] s₀.heap := hP
  have hl := lv_entry ([.ref h, .int 1]) (n := 2) (Nat.le_of_ble_eq_true rfl)
  rw [lg_entry_eq]
  generalize (lg_sl ([.ref h, .int 1]) ++ List.replicate (2 - (lg_sl ([.ref h, .int 1])).length) Slot.unset).toArray = ls at hl ⊢
  have hl : lv_has ls 2 [(0, .ref h), (1, .int 1)] := hl
  obtain ⟨H, hH⟩ : ∃ z : Heap, z = s₀.heap := ⟨_, rfl⟩
  rw [← hH] at hP
  have hS : va_S A s₀.heap H [] := by rw [hH]; exact hS
  refine k_heap hH ?_
  have hD : va_D A [(h, .inr (2, [.ref hv, .int ln, .int fa, .int nu]))] := hD
  obtain ⟨locs, hlo⟩ : ∃ z : List Loc, z = [] := ⟨_, rfl⟩
  rw [← hlo] at hS ⊢
  clear hlo hH hAe hD0
  refine lv_iload_n hx₀ hb dX2_thingsIn_0 rfl (lv_at hl 1 rfl) ?_
  refine lv_if_ne (tgt := 6) hx₀ hb dX2_thingsIn_1 (by decide) (fun _ => ?_) (fun c9 => absurd c9 (by decide +kernel))
  refine lv_iload_n hx₀ hb dX2_thingsIn_6 rfl (lv_at hl 1 rfl) ?_
  refine lv_iconst (v := 3) hx₀ hb dX2_thingsIn_7 (by decide +kernel) ?_
  refine lv_irem hx₀ hb dX2_thingsIn_8 (by decide +kernel) ?_
  refine k_topi (v := 1) (by decide +kernel) ?_
  refine lv_iconst (v := 2) hx₀ hb dX2_thingsIn_9 (by decide +kernel) ?_
  refine lv_icmp_ne (tgt := 21) hx₀ hb dX2_thingsIn_10 (by decide) (fun _ => ?_) (fun c9 => absurd c9 (by decide +kernel))
  refine lv_iconst (v := (-1)) hx₀ hb dX2_thingsIn_21 (by decide +kernel) ?_
  have hP9 := hP.sub (ws' := [(h, .inr (2, [.ref hv, .int ln, .int fa, .int nu]))]) [0] rfl
  have hD9 := hD.sub (ws' := [(h, .inr (2, [.ref hv, .int ln, .int fa, .int nu]))]) [0] (by decide) rfl
  exact W.iret (v := (-1)) hx₀ hb hr (fun t₀ ht hW => ⟨⟨(-1), (), rfl, rfl, by rw [ht]; exact hP9, va_K.moved hW.alike hK, hD9⟩, hS.F ht⟩) hS.2.2 dX2_thingsIn_22
end
section
set_option maxHeartbeats 4000000 in
set_option maxRecDepth 100000 in
theorem c_again0_X4 (l : Launch) (dC : Nat → ClassId) (dI : Nat → Nat → Nat) (cI cJ cQ : ClassId) (sz : Nat) (h : Nat) (hv : Nat) (fa : Int32) (nu : Int32) : Met l yX9_readAgain (kW yX9_readAgain cX9_readAgain 2 none) { frames := 1, cells := 0, slots := 0, locals := 21 } (kPre dC dI cI cJ cQ sz [.ref h] [(h, .inr (4, [.ref hv, .int 0, .int fa, .int nu]))]) (va_Qv (fun (_ : Unit) => True) (fun _ t₀ => kB dC dI cI cJ cQ (va_A [(h, .inr (4, [.ref hv, .int 0, .int fa, .int nu]))] sz) [(h, .inr (4, [.ref hv, .int 0, .int (-1), .int 0]))] t₀) (va_A [(h, .inr (4, [.ref hv, .int 0, .int fa, .int nu]))] sz)) 0 0 (va_A [(h, .inr (4, [.ref hv, .int 0, .int fa, .int nu]))] sz) := by
  refine Met.ofW (cc := cX9_readAgain) (maxL := 2) (ret := none) (by decide) rfl ?_
  intro p₀ e₀ s₀ m₀ args below meth c₀ s₁ B hml hv₀
  obtain ⟨rfl, hsz, hP, hK, hD0, hN⟩ := hv₀
  have hx₀ := B.exec
  have hb := B.bytes
  have hr := B.returns
  have hts := atoms_spec (ws := (kW yX9_readAgain cX9_readAgain 2 none)) B.pre
  have hts := fun w h => hts w (List.mem_cons_of_mem _ h)
  have hown : s₀.vm.findClass RX9 = some m₀.cls := findClass_of_methodNamed B.named
  have hlocks := B.notSynchronized
  subst hsz
  have hD := hD0.self (sz := s₀.heap.size)
  generalize hAe : va_A [(h, .inr (4, [.ref hv, .int 0, .int fa, .int nu]))] s₀.heap.size = A at hD ⊢
  have hA : ∀ q : Nat, s₀.heap.size ≤ q → A q := fun q h => by rw [← hAe]; exact Or.inr h
  have hS : va_S A s₀.heap s₀.heap [] := va_S.rf
  have hP : va_P (dC, dI) vwCl [(h, .inr (4, [.ref hv, .int 0, .int fa, .int nu]))] s₀.heap := hP
  have hl := lv_entry ([.ref h]) (n := 2) (Nat.le_of_ble_eq_true rfl)
  rw [lg_entry_eq]
  generalize (lg_sl ([.ref h]) ++ List.replicate (2 - (lg_sl ([.ref h])).length) Slot.unset).toArray = ls at hl ⊢
  have hl : lv_has ls 2 [(0, .ref h)] := hl
  obtain ⟨H, hH⟩ : ∃ z : Heap, z = s₀.heap := ⟨_, rfl⟩
  rw [← hH] at hP
  have hS : va_S A s₀.heap H [] := by rw [hH]; exact hS
  refine k_heap hH ?_
  have hD : va_D A [(h, .inr (4, [.ref hv, .int 0, .int fa, .int nu]))] := hD
  obtain ⟨locs, hlo⟩ : ∃ z : List Loc, z = [] := ⟨_, rfl⟩
  rw [← hlo] at hS ⊢
  clear hlo hH hAe hD0
  refine lv_aload_n hx₀ hb dX9_readAgain_0 rfl (lv_at hl 0 rfl) ?_
  refine lv_iconst (v := (-1)) hx₀ hb dX9_readAgain_1 (by decide +kernel) ?_
  refine va_put (D := (dC, dI)) (ci := 4) (v := .int (-1)) (ty := .int) (C := RX4) (T := TX4) (N := 4) hx₀ hb hts inlX4 tyX4 tyX4_ok nmX4 hown hK hP hD hS 0 rfl rfl 2 (by decide) (hts (.fieldLink RX9 9 "BittenStick$Text" "faultAt" "I") wd_60) (fun _ h9 => h9) rfl (by decide +kernel) rfl rfl (Nat.le_of_ble_eq_true rfl) dX9_readAgain_2 (fun H locs hP hD hS => ?_)
  have hP : va_P (dC, dI) vwCl [(h, .inr (4, [.ref hv, .int 0, .int (-1), .int nu]))] H := hP
  have hD : va_D A [(h, .inr (4, [.ref hv, .int 0, .int (-1), .int nu]))] := hD
  refine lv_iconst (v := 0) hx₀ hb dX9_readAgain_5 (by decide +kernel) ?_
  refine lv_istore_n (lv' := [(1, .int 0), (0, .ref h)]) hx₀ hb dX9_readAgain_6 rfl hl (by decide) rfl (fun ls hl => ?_)
  refine lv_iload_n hx₀ hb dX9_readAgain_7 rfl (lv_at hl 0 rfl) ?_
  refine lv_aload_n hx₀ hb dX9_readAgain_8 rfl (lv_at hl 1 rfl) ?_
  refine va_get (D := (dC, dI)) (ci := 4) (v := .int 0) (C := RX4) (T := TX4) (N := 4) hx₀ hb hts inlX4 hown hK hP 0 rfl rfl 1 (by decide) (hts (.fieldLink RX9 25 "BittenStick$Text" "length" "I") wd_147) (fun _ h9 => h9) rfl dX9_readAgain_9 ?_
  refine lv_icmp_ge (tgt := 43) hx₀ hb dX9_readAgain_12 (by decide) (fun _ => ?_) (fun c9 => absurd (by decide +kernel) c9)
  refine lv_aload_n hx₀ hb dX9_readAgain_43 rfl (lv_at hl 1 rfl) ?_
  refine lv_aload_n hx₀ hb dX9_readAgain_44 rfl (lv_at hl 1 rfl) ?_
  refine va_get (D := (dC, dI)) (ci := 4) (v := .int 0) (C := RX4) (T := TX4) (N := 4) hx₀ hb hts inlX4 hown hK hP 0 rfl rfl 1 (by decide) (hts (.fieldLink RX9 25 "BittenStick$Text" "length" "I") wd_147) (fun _ h9 => h9) rfl dX9_readAgain_45 ?_
  have hPc := hP.sub (ws' := [(h, .inr (4, [.ref hv, .int 0, .int (-1), .int nu]))]) [0] rfl
  have hDc := hD.sub (ws' := [(h, .inr (4, [.ref hv, .int 0, .int (-1), .int nu]))]) [0] (by decide) rfl
  have hFc := va_free (wc := [(h, .inr (4, [.ref hv, .int 0, .int (-1), .int nu]))]) hD hS hA [0] rfl
  refine va_calli (va_runU (As := [.int 0]) (rest := []) ⟨hx₀, hb, hml, hown, hts⟩ (c_things0_X4 l dC dI cI cJ cQ H.size h hv 0 (-1) nu) (va_cwA 1 hts (kGU wd_189 wd_182 wd_183 wd_187 wd_188 wd_14) rfl rfl rfl hN.2.1 (by decide +kernel) ⟨Nat.le_of_ble_eq_true rfl, Nat.le_of_ble_eq_true rfl⟩) (k_preV (ci := 4) (q0 := 0) hK hPc hDc hN rfl rfl) rfl rfl hl.1 rfl (lv_room (Nat.le_of_ble_eq_true rfl)) dX9_readAgain_48 ⟨by decide +kernel, by decide +kernel⟩) hS (fun q _ h => hFc q h) hFc (fun r_1 u₀ t₀ H1 locs ht hvm hw hB hz1 hk1 hS => ?_)
  obtain ⟨hP1, hK1, hD1⟩ := hB
  rw [ht] at hP1
  obtain ⟨hP, hD⟩ := va_join (wr := []) (w1 := [(h, .inr (4, [.ref hv, .int 0, .int (-1), .int nu]))]) hP hD [0] [] rfl rfl (by decide) (by decide) hk1 hFc hP1 hD1
  generalize H1 = H at hP hS ⊢
  have hP : va_P (dC, dI) vwCl [(h, .inr (4, [.ref hv, .int 0, .int (-1), .int nu]))] H := hP
  have hD : va_D A [(h, .inr (4, [.ref hv, .int 0, .int (-1), .int nu]))] := hD
  try dsimp only at hw
  refine k_topi (v := 0) hw ?_
  refine lv_istore_n (lv' := [(1, .int 0), (0, .ref h)]) hx₀ hb dX9_readAgain_51 rfl hl (by decide) rfl (fun ls hl => ?_)
  refine lv_aload_n hx₀ hb dX9_readAgain_52 rfl (lv_at hl 1 rfl) ?_
  refine va_get (D := (dC, dI)) (ci := 4) (v := .int (-1)) (C := RX4) (T := TX4) (N := 4) hx₀ hb hts inlX4 hown hK hP 0 rfl rfl 2 (by decide) (hts (.fieldLink RX9 9 "BittenStick$Text" "faultAt" "I") wd_60) (fun _ h9 => h9) rfl dX9_readAgain_53 ?_
  refine lv_iconst (v := (-1)) hx₀ hb dX9_readAgain_56 (by decide +kernel) ?_
  refine lv_icmp_ne (tgt := 73) hx₀ hb dX9_readAgain_57 (by decide) (fun c9 => absurd (by decide +kernel) c9) (fun _ => ?_)
  refine lv_iload_n hx₀ hb dX9_readAgain_60 rfl (lv_at hl 0 rfl) ?_
  refine lv_iconst (v := (-1)) hx₀ hb dX9_readAgain_61 (by decide +kernel) ?_
  refine lv_icmp_ne (tgt := 73) hx₀ hb dX9_readAgain_62 (by decide) (fun _ => ?_) (fun c9 => absurd c9 (by decide +kernel))
  refine lv_aload_n hx₀ hb dX9_readAgain_73 rfl (lv_at hl 1 rfl) ?_
  refine lv_aload_n hx₀ hb dX9_readAgain_74 rfl (lv_at hl 1 rfl) ?_
  refine va_get (D := (dC, dI)) (ci := 4) (v := .int (-1)) (C := RX4) (T := TX4) (N := 4) hx₀ hb hts inlX4 hown hK hP 0 rfl rfl 2 (by decide) (hts (.fieldLink RX9 9 "BittenStick$Text" "faultAt" "I") wd_60) (fun _ h9 => h9) rfl dX9_readAgain_75 ?_
  refine lv_iconst (v := (-1)) hx₀ hb dX9_readAgain_78 (by decide +kernel) ?_
  refine lv_icmp_ne (tgt := 86) hx₀ hb dX9_readAgain_79 (by decide) (fun c9 => absurd (by decide +kernel) c9) (fun _ => ?_)
  refine lv_iload_n hx₀ hb dX9_readAgain_82 rfl (lv_at hl 0 rfl) ?_
  refine lv_goto (tgt := 87) hx₀ hb dX9_readAgain_83 (by decide) ?_
  refine va_put (D := (dC, dI)) (ci := 4) (v := .int 0) (ty := .int) (C := RX4) (T := TX4) (N := 4) hx₀ hb hts inlX4 tyX4 tyX4_ok nmX4 hown hK hP hD hS 0 rfl rfl 3 (by decide) (hts (.fieldLink RX9 37 "BittenStick$Text" "number" "I") wd_174) (fun _ h9 => h9) rfl (by decide +kernel) rfl rfl (Nat.le_of_ble_eq_true rfl) dX9_readAgain_87 (fun H locs hP hD hS => ?_)
  have hP : va_P (dC, dI) vwCl [(h, .inr (4, [.ref hv, .int 0, .int (-1), .int 0]))] H := hP
  have hD : va_D A [(h, .inr (4, [.ref hv, .int 0, .int (-1), .int 0]))] := hD
  have hP9 := hP.sub (ws' := [(h, .inr (4, [.ref hv, .int 0, .int (-1), .int 0]))]) [0] rfl
  have hD9 := hD.sub (ws' := [(h, .inr (4, [.ref hv, .int 0, .int (-1), .int 0]))]) [0] (by decide) rfl
  exact W.vret hx₀ hb hr (fun t₀ ht hW => ⟨⟨(), rfl, trivial, by rw [ht]; exact hP9, va_K.moved hW.alike hK, hD9⟩, hS.F ht⟩) hS.2.2 dX9_readAgain_90
theorem lf_c_again1_X4_1  (c9 : ¬ (0 ≤ (0 : Int32) ∧ (0 : Int32) < 24)) : False := by
  (first | omega | (simp only [Int64.le_iff_toInt_le, Int64.lt_iff_toInt_lt, Int32.le_iff_toInt_le, Int32.lt_iff_toInt_lt, ← Int32.toInt_inj, ← Int64.toInt_inj, Int32.toInt_toInt64, (show (0 : Int32).toInt = 0 from by decide), (show (0 : Int64).toInt = 0 from by decide), (show (24 : Int32).toInt = 24 from by decide), (show (24 : Int64).toInt = 24 from by decide)] at *; omega))
set_option maxHeartbeats 4000000 in
set_option maxRecDepth 100000 in
theorem c_again1_X4 (l : Launch) (dC : Nat → ClassId) (dI : Nat → Nat → Nat) (cI cJ cQ : ClassId) (sz : Nat) (h : Nat) (hv : Nat) (fa : Int32) (nu : Int32) (f : Nat → Int32) : Met l yX9_readAgain (kW yX9_readAgain cX9_readAgain 2 none) { frames := 1, cells := 0, slots := 0, locals := 21 } (kPre dC dI cI cJ cQ sz [.ref h] [(h, .inr (4, [.ref hv, .int 1, .int fa, .int nu])), (hv, .inl (cI, 24, .inl f))]) (va_Qv (fun (_ : Int32 × Int32) => True) (fun (u : Int32 × Int32) t₀ => kB dC dI cI cJ cQ (va_A [(h, .inr (4, [.ref hv, .int 1, .int fa, .int nu])), (hv, .inl (cI, 24, .inl f))] sz) [(h, .inr (4, [.ref hv, .int 1, .int u.1, .int u.2]))] t₀) (va_A [(h, .inr (4, [.ref hv, .int 1, .int fa, .int nu])), (hv, .inl (cI, 24, .inl f))] sz)) 0 0 (va_A [(h, .inr (4, [.ref hv, .int 1, .int fa, .int nu])), (hv, .inl (cI, 24, .inl f))] sz) := by
  refine Met.ofW (cc := cX9_readAgain) (maxL := 2) (ret := none) (by decide) rfl ?_
  intro p₀ e₀ s₀ m₀ args below meth c₀ s₁ B hml hv₀
  obtain ⟨rfl, hsz, hP, hK, hD0, hN⟩ := hv₀
  have hx₀ := B.exec
  have hb := B.bytes
  have hr := B.returns
  have hts := atoms_spec (ws := (kW yX9_readAgain cX9_readAgain 2 none)) B.pre
  have hts := fun w h => hts w (List.mem_cons_of_mem _ h)
  have hown : s₀.vm.findClass RX9 = some m₀.cls := findClass_of_methodNamed B.named
  have hlocks := B.notSynchronized
  subst hsz
  have hD := hD0.self (sz := s₀.heap.size)
  generalize hAe : va_A [(h, .inr (4, [.ref hv, .int 1, .int fa, .int nu])), (hv, .inl (cI, 24, .inl f))] s₀.heap.size = A at hD ⊢
  have hA : ∀ q : Nat, s₀.heap.size ≤ q → A q := fun q h => by rw [← hAe]; exact Or.inr h
  have hS : va_S A s₀.heap s₀.heap [] := va_S.rf
  have hP : va_P (dC, dI) vwCl [(h, .inr (4, [.ref hv, .int 1, .int fa, .int nu])), (hv, .inl (cI, 24, .inl f))] s₀.heap := hP
  have hl := lv_entry ([.ref h]) (n := 2) (Nat.le_of_ble_eq_true rfl)
  rw [lg_entry_eq]
  generalize (lg_sl ([.ref h]) ++ List.replicate (2 - (lg_sl ([.ref h])).length) Slot.unset).toArray = ls at hl ⊢
  have hl : lv_has ls 2 [(0, .ref h)] := hl
  obtain ⟨H, hH⟩ : ∃ z : Heap, z = s₀.heap := ⟨_, rfl⟩
  rw [← hH] at hP
  have hS : va_S A s₀.heap H [] := by rw [hH]; exact hS
  refine k_heap hH ?_
  have hD : va_D A [(h, .inr (4, [.ref hv, .int 1, .int fa, .int nu])), (hv, .inl (cI, 24, .inl f))] := hD
  obtain ⟨locs, hlo⟩ : ∃ z : List Loc, z = [] := ⟨_, rfl⟩
  rw [← hlo] at hS ⊢
  clear hlo hH hAe hD0
  refine lv_aload_n hx₀ hb dX9_readAgain_0 rfl (lv_at hl 0 rfl) ?_
  refine lv_iconst (v := (-1)) hx₀ hb dX9_readAgain_1 (by decide +kernel) ?_
  refine va_put (D := (dC, dI)) (ci := 4) (v := .int (-1)) (ty := .int) (C := RX4) (T := TX4) (N := 4) hx₀ hb hts inlX4 tyX4 tyX4_ok nmX4 hown hK hP hD hS 0 rfl rfl 2 (by decide) (hts (.fieldLink RX9 9 "BittenStick$Text" "faultAt" "I") wd_60) (fun _ h9 => h9) rfl (by decide +kernel) rfl rfl (Nat.le_of_ble_eq_true rfl) dX9_readAgain_2 (fun H locs hP hD hS => ?_)
  have hP : va_P (dC, dI) vwCl [(h, .inr (4, [.ref hv, .int 1, .int (-1), .int nu])), (hv, .inl (cI, 24, .inl f))] H := hP
  have hD : va_D A [(h, .inr (4, [.ref hv, .int 1, .int (-1), .int nu])), (hv, .inl (cI, 24, .inl f))] := hD
  refine lv_iconst (v := 0) hx₀ hb dX9_readAgain_5 (by decide +kernel) ?_
  refine lv_istore_n (lv' := [(1, .int 0), (0, .ref h)]) hx₀ hb dX9_readAgain_6 rfl hl (by decide) rfl (fun ls hl => ?_)
  refine lv_iload_n hx₀ hb dX9_readAgain_7 rfl (lv_at hl 0 rfl) ?_
  refine lv_aload_n hx₀ hb dX9_readAgain_8 rfl (lv_at hl 1 rfl) ?_
  refine va_get (D := (dC, dI)) (ci := 4) (v := .int 1) (C := RX4) (T := TX4) (N := 4) hx₀ hb hts inlX4 hown hK hP 0 rfl rfl 1 (by decide) (hts (.fieldLink RX9 25 "BittenStick$Text" "length" "I") wd_147) (fun _ h9 => h9) rfl dX9_readAgain_9 ?_
  refine lv_icmp_ge (tgt := 43) hx₀ hb dX9_readAgain_12 (by decide) (fun c9 => absurd c9 (by decide +kernel)) (fun _ => ?_)
  refine lv_aload_n hx₀ hb dX9_readAgain_15 rfl (lv_at hl 1 rfl) ?_
  refine va_get (D := (dC, dI)) (ci := 4) (v := .int (-1)) (C := RX4) (T := TX4) (N := 4) hx₀ hb hts inlX4 hown hK hP 0 rfl rfl 2 (by decide) (hts (.fieldLink RX9 9 "BittenStick$Text" "faultAt" "I") wd_60) (fun _ h9 => h9) rfl dX9_readAgain_16 ?_
  refine lv_iconst (v := (-1)) hx₀ hb dX9_readAgain_19 (by decide +kernel) ?_
  refine lv_icmp_ne (tgt := 43) hx₀ hb dX9_readAgain_20 (by decide) (fun c9 => absurd (by decide +kernel) c9) (fun _ => ?_)
  refine lv_aload_n hx₀ hb dX9_readAgain_23 rfl (lv_at hl 1 rfl) ?_
  refine lv_iload_n hx₀ hb dX9_readAgain_24 rfl (lv_at hl 0 rfl) ?_
  have hPc := hP.sub (ws' := [(h, .inr (4, [.ref hv, .int 1, .int (-1), .int nu])), (hv, .inl (cI, 24, .inl f))]) [0, 1] rfl
  have hDc := hD.sub (ws' := [(h, .inr (4, [.ref hv, .int 1, .int (-1), .int nu])), (hv, .inl (cI, 24, .inl f))]) [0, 1] (by decide) rfl
  have hFc := va_free (wc := [(h, .inr (4, [.ref hv, .int 1, .int (-1), .int nu])), (hv, .inl (cI, 24, .inl f))]) hD hS hA [0, 1] rfl
  refine va_calli (va_runU (As := [.int 0]) (rest := []) ⟨hx₀, hb, hml, hown, hts⟩ (c_valueAt_X4 l dC dI cI cJ cQ H.size h 0 hv 1 (-1) nu f) (va_cwU 1 hts (kGU wd_179 wd_175 wd_176 wd_180 wd_178 wd_57) rfl rfl rfl rfl (by decide +kernel) ⟨Nat.le_of_ble_eq_true rfl, Nat.le_of_ble_eq_true rfl⟩) (k_preV (ci := 4) (q0 := 0) hK hPc hDc hN rfl rfl) rfl rfl hl.1 rfl (lv_room (Nat.le_of_ble_eq_true rfl)) dX9_readAgain_25 ⟨by decide +kernel, by decide +kernel⟩) hS (fun q _ h => hFc q h) hFc (fun r_1 u₀ t₀ H1 locs ht hvm hw hB hz1 hk1 hS => ?_)
  obtain ⟨hP1, hK1, hD1⟩ := hB
  rw [ht] at hP1
  obtain ⟨hP, hD⟩ := va_join (wr := []) (w1 := [(h, .inr (4, [.ref hv, .int 1, .int (-1), .int nu])), (hv, .inl (cI, 24, .inl f))]) hP hD [0, 1] [] rfl rfl (by decide) (by decide) hk1 hFc hP1 hD1
  generalize H1 = H at hP hS ⊢
  have hP : va_P (dC, dI) vwCl [(h, .inr (4, [.ref hv, .int 1, .int (-1), .int nu])), (hv, .inl (cI, 24, .inl f))] H := hP
  have hD : va_D A [(h, .inr (4, [.ref hv, .int 1, .int (-1), .int nu])), (hv, .inl (cI, 24, .inl f))] := hD
  try dsimp only at hw
  rw [if_pos (Classical.byContradiction (fun c9 => lf_c_again1_X4_1  c9))] at hw
  refine k_topi (v := f (0 : Int32).toNatClampNeg) hw ?_
  refine lv_iconst (v := (-1)) hx₀ hb dX9_readAgain_28 (by decide +kernel) ?_
  refine lv_icmp_ne (tgt := 37) hx₀ hb dX9_readAgain_29 (by decide) (fun c_3 => ?_) (fun c_3 => ?_)
  · refine lv_iinc (v := 1) (lv' := [(1, .int 1), (0, .ref h)]) hx₀ hb dX9_readAgain_37 hl (k := 0) rfl (by decide +kernel) (by decide) rfl (fun ls hl => ?_)
    refine lv_goto (tgt := 7) hx₀ hb dX9_readAgain_40 (by decide) ?_
    refine lv_iload_n hx₀ hb dX9_readAgain_7 rfl (lv_at hl 0 rfl) ?_
    refine lv_aload_n hx₀ hb dX9_readAgain_8 rfl (lv_at hl 1 rfl) ?_
    refine va_get (D := (dC, dI)) (ci := 4) (v := .int 1) (C := RX4) (T := TX4) (N := 4) hx₀ hb hts inlX4 hown hK hP 0 rfl rfl 1 (by decide) (hts (.fieldLink RX9 25 "BittenStick$Text" "length" "I") wd_147) (fun _ h9 => h9) rfl dX9_readAgain_9 ?_
    refine lv_icmp_ge (tgt := 43) hx₀ hb dX9_readAgain_12 (by decide) (fun _ => ?_) (fun c9 => absurd (by decide +kernel) c9)
    refine lv_aload_n hx₀ hb dX9_readAgain_43 rfl (lv_at hl 1 rfl) ?_
    refine lv_aload_n hx₀ hb dX9_readAgain_44 rfl (lv_at hl 1 rfl) ?_
    refine va_get (D := (dC, dI)) (ci := 4) (v := .int 1) (C := RX4) (T := TX4) (N := 4) hx₀ hb hts inlX4 hown hK hP 0 rfl rfl 1 (by decide) (hts (.fieldLink RX9 25 "BittenStick$Text" "length" "I") wd_147) (fun _ h9 => h9) rfl dX9_readAgain_45 ?_
    have hPc := hP.sub (ws' := [(h, .inr (4, [.ref hv, .int 1, .int (-1), .int nu]))]) [0] rfl
    have hDc := hD.sub (ws' := [(h, .inr (4, [.ref hv, .int 1, .int (-1), .int nu]))]) [0] (by decide) rfl
    have hFc := va_free (wc := [(h, .inr (4, [.ref hv, .int 1, .int (-1), .int nu]))]) hD hS hA [0] rfl
    refine va_calli (va_runU (As := [.int 1]) (rest := []) ⟨hx₀, hb, hml, hown, hts⟩ (c_things1_X4 l dC dI cI cJ cQ H.size h hv 1 (-1) nu) (va_cwA 1 hts (kGU wd_189 wd_182 wd_183 wd_187 wd_188 wd_14) rfl rfl rfl hN.2.1 (by decide +kernel) ⟨Nat.le_of_ble_eq_true rfl, Nat.le_of_ble_eq_true rfl⟩) (k_preV (ci := 4) (q0 := 0) hK hPc hDc hN rfl rfl) rfl rfl hl.1 rfl (lv_room (Nat.le_of_ble_eq_true rfl)) dX9_readAgain_48 ⟨by decide +kernel, by decide +kernel⟩) hS (fun q _ h => hFc q h) hFc (fun r_4 u₀ t₀ H1 locs ht hvm hw hB hz1 hk1 hS => ?_)
    obtain ⟨hP1, hK1, hD1⟩ := hB
    rw [ht] at hP1
    obtain ⟨hP, hD⟩ := va_join (wr := [(hv, .inl (cI, 24, .inl f))]) (w1 := [(h, .inr (4, [.ref hv, .int 1, .int (-1), .int nu]))]) hP hD [0] [1] rfl rfl (by decide) (by decide) hk1 hFc hP1 hD1
    generalize H1 = H at hP hS ⊢
    have hP : va_P (dC, dI) vwCl [(hv, .inl (cI, 24, .inl f)), (h, .inr (4, [.ref hv, .int 1, .int (-1), .int nu]))] H := hP
    have hD : va_D A [(hv, .inl (cI, 24, .inl f)), (h, .inr (4, [.ref hv, .int 1, .int (-1), .int nu]))] := hD
    try dsimp only at hw
    refine k_topi (v := 1) hw ?_
    refine lv_istore_n (lv' := [(1, .int 1), (0, .ref h)]) hx₀ hb dX9_readAgain_51 rfl hl (by decide) rfl (fun ls hl => ?_)
    refine lv_aload_n hx₀ hb dX9_readAgain_52 rfl (lv_at hl 1 rfl) ?_
    refine va_get (D := (dC, dI)) (ci := 4) (v := .int (-1)) (C := RX4) (T := TX4) (N := 4) hx₀ hb hts inlX4 hown hK hP 1 rfl rfl 2 (by decide) (hts (.fieldLink RX9 9 "BittenStick$Text" "faultAt" "I") wd_60) (fun _ h9 => h9) rfl dX9_readAgain_53 ?_
    refine lv_iconst (v := (-1)) hx₀ hb dX9_readAgain_56 (by decide +kernel) ?_
    refine lv_icmp_ne (tgt := 73) hx₀ hb dX9_readAgain_57 (by decide) (fun c9 => absurd (by decide +kernel) c9) (fun _ => ?_)
    refine lv_iload_n hx₀ hb dX9_readAgain_60 rfl (lv_at hl 0 rfl) ?_
    refine lv_iconst (v := (-1)) hx₀ hb dX9_readAgain_61 (by decide +kernel) ?_
    refine lv_icmp_ne (tgt := 73) hx₀ hb dX9_readAgain_62 (by decide) (fun _ => ?_) (fun c9 => absurd c9 (by decide +kernel))
    refine lv_aload_n hx₀ hb dX9_readAgain_73 rfl (lv_at hl 1 rfl) ?_
    refine lv_aload_n hx₀ hb dX9_readAgain_74 rfl (lv_at hl 1 rfl) ?_
    refine va_get (D := (dC, dI)) (ci := 4) (v := .int (-1)) (C := RX4) (T := TX4) (N := 4) hx₀ hb hts inlX4 hown hK hP 1 rfl rfl 2 (by decide) (hts (.fieldLink RX9 9 "BittenStick$Text" "faultAt" "I") wd_60) (fun _ h9 => h9) rfl dX9_readAgain_75 ?_
    refine lv_iconst (v := (-1)) hx₀ hb dX9_readAgain_78 (by decide +kernel) ?_
    refine lv_icmp_ne (tgt := 86) hx₀ hb dX9_readAgain_79 (by decide) (fun c9 => absurd (by decide +kernel) c9) (fun _ => ?_)
    refine lv_iload_n hx₀ hb dX9_readAgain_82 rfl (lv_at hl 0 rfl) ?_
    refine lv_goto (tgt := 87) hx₀ hb dX9_readAgain_83 (by decide) ?_
    refine va_put (D := (dC, dI)) (ci := 4) (v := .int 1) (ty := .int) (C := RX4) (T := TX4) (N := 4) hx₀ hb hts inlX4 tyX4 tyX4_ok nmX4 hown hK hP hD hS 1 rfl rfl 3 (by decide) (hts (.fieldLink RX9 37 "BittenStick$Text" "number" "I") wd_174) (fun _ h9 => h9) rfl (by decide +kernel) rfl rfl (Nat.le_of_ble_eq_true rfl) dX9_readAgain_87 (fun H locs hP hD hS => ?_)
    have hP : va_P (dC, dI) vwCl [(hv, .inl (cI, 24, .inl f)), (h, .inr (4, [.ref hv, .int 1, .int (-1), .int 1]))] H := hP
    have hD : va_D A [(hv, .inl (cI, 24, .inl f)), (h, .inr (4, [.ref hv, .int 1, .int (-1), .int 1]))] := hD
    have hP9 := hP.sub (ws' := [(h, .inr (4, [.ref hv, .int 1, .int (-1), .int 1]))]) [1] rfl
    have hD9 := hD.sub (ws' := [(h, .inr (4, [.ref hv, .int 1, .int (-1), .int 1]))]) [1] (by decide) rfl
    exact W.vret hx₀ hb hr (fun t₀ ht hW => ⟨⟨((-1), 1), rfl, trivial, by rw [ht]; exact hP9, va_K.moved hW.alike hK, hD9⟩, hS.F ht⟩) hS.2.2 dX9_readAgain_90
  · refine lv_aload_n hx₀ hb dX9_readAgain_32 rfl (lv_at hl 1 rfl) ?_
    refine lv_iload_n hx₀ hb dX9_readAgain_33 rfl (lv_at hl 0 rfl) ?_
    refine va_put (D := (dC, dI)) (ci := 4) (v := .int 0) (ty := .int) (C := RX4) (T := TX4) (N := 4) hx₀ hb hts inlX4 tyX4 tyX4_ok nmX4 hown hK hP hD hS 0 rfl rfl 2 (by decide) (hts (.fieldLink RX9 9 "BittenStick$Text" "faultAt" "I") wd_60) (fun _ h9 => h9) rfl (by decide +kernel) rfl rfl (Nat.le_of_ble_eq_true rfl) dX9_readAgain_34 (fun H locs hP hD hS => ?_)
    have hP : va_P (dC, dI) vwCl [(h, .inr (4, [.ref hv, .int 1, .int 0, .int nu])), (hv, .inl (cI, 24, .inl f))] H := hP
    have hD : va_D A [(h, .inr (4, [.ref hv, .int 1, .int 0, .int nu])), (hv, .inl (cI, 24, .inl f))] := hD
    refine lv_iinc (v := 1) (lv' := [(1, .int 1), (0, .ref h)]) hx₀ hb dX9_readAgain_37 hl (k := 0) rfl (by decide +kernel) (by decide) rfl (fun ls hl => ?_)
    refine lv_goto (tgt := 7) hx₀ hb dX9_readAgain_40 (by decide) ?_
    refine lv_iload_n hx₀ hb dX9_readAgain_7 rfl (lv_at hl 0 rfl) ?_
    refine lv_aload_n hx₀ hb dX9_readAgain_8 rfl (lv_at hl 1 rfl) ?_
    refine va_get (D := (dC, dI)) (ci := 4) (v := .int 1) (C := RX4) (T := TX4) (N := 4) hx₀ hb hts inlX4 hown hK hP 0 rfl rfl 1 (by decide) (hts (.fieldLink RX9 25 "BittenStick$Text" "length" "I") wd_147) (fun _ h9 => h9) rfl dX9_readAgain_9 ?_
    refine lv_icmp_ge (tgt := 43) hx₀ hb dX9_readAgain_12 (by decide) (fun _ => ?_) (fun c9 => absurd (by decide +kernel) c9)
    refine lv_aload_n hx₀ hb dX9_readAgain_43 rfl (lv_at hl 1 rfl) ?_
    refine lv_aload_n hx₀ hb dX9_readAgain_44 rfl (lv_at hl 1 rfl) ?_
    refine va_get (D := (dC, dI)) (ci := 4) (v := .int 1) (C := RX4) (T := TX4) (N := 4) hx₀ hb hts inlX4 hown hK hP 0 rfl rfl 1 (by decide) (hts (.fieldLink RX9 25 "BittenStick$Text" "length" "I") wd_147) (fun _ h9 => h9) rfl dX9_readAgain_45 ?_
    have hPc := hP.sub (ws' := [(h, .inr (4, [.ref hv, .int 1, .int 0, .int nu]))]) [0] rfl
    have hDc := hD.sub (ws' := [(h, .inr (4, [.ref hv, .int 1, .int 0, .int nu]))]) [0] (by decide) rfl
    have hFc := va_free (wc := [(h, .inr (4, [.ref hv, .int 1, .int 0, .int nu]))]) hD hS hA [0] rfl
    refine va_calli (va_runU (As := [.int 1]) (rest := []) ⟨hx₀, hb, hml, hown, hts⟩ (c_things1_X4 l dC dI cI cJ cQ H.size h hv 1 0 nu) (va_cwA 1 hts (kGU wd_189 wd_182 wd_183 wd_187 wd_188 wd_14) rfl rfl rfl hN.2.1 (by decide +kernel) ⟨Nat.le_of_ble_eq_true rfl, Nat.le_of_ble_eq_true rfl⟩) (k_preV (ci := 4) (q0 := 0) hK hPc hDc hN rfl rfl) rfl rfl hl.1 rfl (lv_room (Nat.le_of_ble_eq_true rfl)) dX9_readAgain_48 ⟨by decide +kernel, by decide +kernel⟩) hS (fun q _ h => hFc q h) hFc (fun r_5 u₀ t₀ H1 locs ht hvm hw hB hz1 hk1 hS => ?_)
    obtain ⟨hP1, hK1, hD1⟩ := hB
    rw [ht] at hP1
    obtain ⟨hP, hD⟩ := va_join (wr := [(hv, .inl (cI, 24, .inl f))]) (w1 := [(h, .inr (4, [.ref hv, .int 1, .int 0, .int nu]))]) hP hD [0] [1] rfl rfl (by decide) (by decide) hk1 hFc hP1 hD1
    generalize H1 = H at hP hS ⊢
    have hP : va_P (dC, dI) vwCl [(hv, .inl (cI, 24, .inl f)), (h, .inr (4, [.ref hv, .int 1, .int 0, .int nu]))] H := hP
    have hD : va_D A [(hv, .inl (cI, 24, .inl f)), (h, .inr (4, [.ref hv, .int 1, .int 0, .int nu]))] := hD
    try dsimp only at hw
    refine k_topi (v := 1) hw ?_
    refine lv_istore_n (lv' := [(1, .int 1), (0, .ref h)]) hx₀ hb dX9_readAgain_51 rfl hl (by decide) rfl (fun ls hl => ?_)
    refine lv_aload_n hx₀ hb dX9_readAgain_52 rfl (lv_at hl 1 rfl) ?_
    refine va_get (D := (dC, dI)) (ci := 4) (v := .int 0) (C := RX4) (T := TX4) (N := 4) hx₀ hb hts inlX4 hown hK hP 1 rfl rfl 2 (by decide) (hts (.fieldLink RX9 9 "BittenStick$Text" "faultAt" "I") wd_60) (fun _ h9 => h9) rfl dX9_readAgain_53 ?_
    refine lv_iconst (v := (-1)) hx₀ hb dX9_readAgain_56 (by decide +kernel) ?_
    refine lv_icmp_ne (tgt := 73) hx₀ hb dX9_readAgain_57 (by decide) (fun _ => ?_) (fun c9 => absurd c9 (by decide +kernel))
    refine lv_aload_n hx₀ hb dX9_readAgain_73 rfl (lv_at hl 1 rfl) ?_
    refine lv_aload_n hx₀ hb dX9_readAgain_74 rfl (lv_at hl 1 rfl) ?_
    refine va_get (D := (dC, dI)) (ci := 4) (v := .int 0) (C := RX4) (T := TX4) (N := 4) hx₀ hb hts inlX4 hown hK hP 1 rfl rfl 2 (by decide) (hts (.fieldLink RX9 9 "BittenStick$Text" "faultAt" "I") wd_60) (fun _ h9 => h9) rfl dX9_readAgain_75 ?_
    refine lv_iconst (v := (-1)) hx₀ hb dX9_readAgain_78 (by decide +kernel) ?_
    refine lv_icmp_ne (tgt := 86) hx₀ hb dX9_readAgain_79 (by decide) (fun _ => ?_) (fun c9 => absurd c9 (by decide +kernel))
    refine lv_iconst (v := 0) hx₀ hb dX9_readAgain_86 (by decide +kernel) ?_
    refine va_put (D := (dC, dI)) (ci := 4) (v := .int 0) (ty := .int) (C := RX4) (T := TX4) (N := 4) hx₀ hb hts inlX4 tyX4 tyX4_ok nmX4 hown hK hP hD hS 1 rfl rfl 3 (by decide) (hts (.fieldLink RX9 37 "BittenStick$Text" "number" "I") wd_174) (fun _ h9 => h9) rfl (by decide +kernel) rfl rfl (Nat.le_of_ble_eq_true rfl) dX9_readAgain_87 (fun H locs hP hD hS => ?_)
    have hP : va_P (dC, dI) vwCl [(hv, .inl (cI, 24, .inl f)), (h, .inr (4, [.ref hv, .int 1, .int 0, .int 0]))] H := hP
    have hD : va_D A [(hv, .inl (cI, 24, .inl f)), (h, .inr (4, [.ref hv, .int 1, .int 0, .int 0]))] := hD
    have hP9 := hP.sub (ws' := [(h, .inr (4, [.ref hv, .int 1, .int 0, .int 0]))]) [1] rfl
    have hD9 := hD.sub (ws' := [(h, .inr (4, [.ref hv, .int 1, .int 0, .int 0]))]) [1] (by decide) rfl
    exact W.vret hx₀ hb hr (fun t₀ ht hW => ⟨⟨(0, 0), rfl, trivial, by rw [ht]; exact hP9, va_K.moved hW.alike hK, hD9⟩, hS.F ht⟩) hS.2.2 dX9_readAgain_90
set_option maxHeartbeats 4000000 in
set_option maxRecDepth 100000 in
theorem c_again0_X7 (l : Launch) (dC : Nat → ClassId) (dI : Nat → Nat → Nat) (cI cJ cQ : ClassId) (sz : Nat) (h : Nat) (hv : Nat) (fa : Int32) (nu : Int32) : Met l yX9_readAgain (kW yX9_readAgain cX9_readAgain 2 none) { frames := 1, cells := 0, slots := 0, locals := 21 } (kPre dC dI cI cJ cQ sz [.ref h] [(h, .inr (7, [.ref hv, .int 0, .int fa, .int nu]))]) (va_Qv (fun (_ : Unit) => True) (fun _ t₀ => kB dC dI cI cJ cQ (va_A [(h, .inr (7, [.ref hv, .int 0, .int fa, .int nu]))] sz) [(h, .inr (7, [.ref hv, .int 0, .int (-1), .int 0]))] t₀) (va_A [(h, .inr (7, [.ref hv, .int 0, .int fa, .int nu]))] sz)) 0 0 (va_A [(h, .inr (7, [.ref hv, .int 0, .int fa, .int nu]))] sz) := by
  refine Met.ofW (cc := cX9_readAgain) (maxL := 2) (ret := none) (by decide) rfl ?_
  intro p₀ e₀ s₀ m₀ args below meth c₀ s₁ B hml hv₀
  obtain ⟨rfl, hsz, hP, hK, hD0, hN⟩ := hv₀
  have hx₀ := B.exec
  have hb := B.bytes
  have hr := B.returns
  have hts := atoms_spec (ws := (kW yX9_readAgain cX9_readAgain 2 none)) B.pre
  have hts := fun w h => hts w (List.mem_cons_of_mem _ h)
  have hown : s₀.vm.findClass RX9 = some m₀.cls := findClass_of_methodNamed B.named
  have hlocks := B.notSynchronized
  subst hsz
  have hD := hD0.self (sz := s₀.heap.size)
  generalize hAe : va_A [(h, .inr (7, [.ref hv, .int 0, .int fa, .int nu]))] s₀.heap.size = A at hD ⊢
  have hA : ∀ q : Nat, s₀.heap.size ≤ q → A q := fun q h => by rw [← hAe]; exact Or.inr h
  have hS : va_S A s₀.heap s₀.heap [] := va_S.rf
  have hP : va_P (dC, dI) vwCl [(h, .inr (7, [.ref hv, .int 0, .int fa, .int nu]))] s₀.heap := hP
  have hl := lv_entry ([.ref h]) (n := 2) (Nat.le_of_ble_eq_true rfl)
  rw [lg_entry_eq]
  generalize (lg_sl ([.ref h]) ++ List.replicate (2 - (lg_sl ([.ref h])).length) Slot.unset).toArray = ls at hl ⊢
  have hl : lv_has ls 2 [(0, .ref h)] := hl
  obtain ⟨H, hH⟩ : ∃ z : Heap, z = s₀.heap := ⟨_, rfl⟩
  rw [← hH] at hP
  have hS : va_S A s₀.heap H [] := by rw [hH]; exact hS
  refine k_heap hH ?_
  have hD : va_D A [(h, .inr (7, [.ref hv, .int 0, .int fa, .int nu]))] := hD
  obtain ⟨locs, hlo⟩ : ∃ z : List Loc, z = [] := ⟨_, rfl⟩
  rw [← hlo] at hS ⊢
  clear hlo hH hAe hD0
  refine lv_aload_n hx₀ hb dX9_readAgain_0 rfl (lv_at hl 0 rfl) ?_
  refine lv_iconst (v := (-1)) hx₀ hb dX9_readAgain_1 (by decide +kernel) ?_
  refine va_put (D := (dC, dI)) (ci := 7) (v := .int (-1)) (ty := .int) (C := RX7) (T := TX7) (N := 4) hx₀ hb hts inlX7 tyX7 tyX7_ok nmX7 hown hK hP hD hS 0 rfl rfl 2 (by decide) (hts (.fieldLink RX9 9 "BittenStick$Text" "faultAt" "I") wd_60) (fun _ h9 => h9) rfl (by decide +kernel) rfl rfl (Nat.le_of_ble_eq_true rfl) dX9_readAgain_2 (fun H locs hP hD hS => ?_)
  have hP : va_P (dC, dI) vwCl [(h, .inr (7, [.ref hv, .int 0, .int (-1), .int nu]))] H := hP
  have hD : va_D A [(h, .inr (7, [.ref hv, .int 0, .int (-1), .int nu]))] := hD
  refine lv_iconst (v := 0) hx₀ hb dX9_readAgain_5 (by decide +kernel) ?_
  refine lv_istore_n (lv' := [(1, .int 0), (0, .ref h)]) hx₀ hb dX9_readAgain_6 rfl hl (by decide) rfl (fun ls hl => ?_)
  refine lv_iload_n hx₀ hb dX9_readAgain_7 rfl (lv_at hl 0 rfl) ?_
  refine lv_aload_n hx₀ hb dX9_readAgain_8 rfl (lv_at hl 1 rfl) ?_
  refine va_get (D := (dC, dI)) (ci := 7) (v := .int 0) (C := RX7) (T := TX7) (N := 4) hx₀ hb hts inlX7 hown hK hP 0 rfl rfl 1 (by decide) (hts (.fieldLink RX9 25 "BittenStick$Text" "length" "I") wd_147) (fun _ h9 => h9) rfl dX9_readAgain_9 ?_
  refine lv_icmp_ge (tgt := 43) hx₀ hb dX9_readAgain_12 (by decide) (fun _ => ?_) (fun c9 => absurd (by decide +kernel) c9)
  refine lv_aload_n hx₀ hb dX9_readAgain_43 rfl (lv_at hl 1 rfl) ?_
  refine lv_aload_n hx₀ hb dX9_readAgain_44 rfl (lv_at hl 1 rfl) ?_
  refine va_get (D := (dC, dI)) (ci := 7) (v := .int 0) (C := RX7) (T := TX7) (N := 4) hx₀ hb hts inlX7 hown hK hP 0 rfl rfl 1 (by decide) (hts (.fieldLink RX9 25 "BittenStick$Text" "length" "I") wd_147) (fun _ h9 => h9) rfl dX9_readAgain_45 ?_
  have hPc := hP.sub (ws' := [(h, .inr (7, [.ref hv, .int 0, .int (-1), .int nu]))]) [0] rfl
  have hDc := hD.sub (ws' := [(h, .inr (7, [.ref hv, .int 0, .int (-1), .int nu]))]) [0] (by decide) rfl
  have hFc := va_free (wc := [(h, .inr (7, [.ref hv, .int 0, .int (-1), .int nu]))]) hD hS hA [0] rfl
  refine va_calli (va_runU (As := [.int 0]) (rest := []) ⟨hx₀, hb, hml, hown, hts⟩ (c_things0_X7 l dC dI cI cJ cQ H.size h hv 0 (-1) nu) (va_cwA 1 hts (kGU wd_192 wd_182 wd_183 wd_190 wd_191 wd_18) rfl rfl rfl hN.2.1 (by decide +kernel) ⟨Nat.le_of_ble_eq_true rfl, Nat.le_of_ble_eq_true rfl⟩) (k_preV (ci := 7) (q0 := 0) hK hPc hDc hN rfl rfl) rfl rfl hl.1 rfl (lv_room (Nat.le_of_ble_eq_true rfl)) dX9_readAgain_48 ⟨by decide +kernel, by decide +kernel⟩) hS (fun q _ h => hFc q h) hFc (fun r_1 u₀ t₀ H1 locs ht hvm hw hB hz1 hk1 hS => ?_)
  obtain ⟨hP1, hK1, hD1⟩ := hB
  rw [ht] at hP1
  obtain ⟨hP, hD⟩ := va_join (wr := []) (w1 := [(h, .inr (7, [.ref hv, .int 0, .int (-1), .int nu]))]) hP hD [0] [] rfl rfl (by decide) (by decide) hk1 hFc hP1 hD1
  generalize H1 = H at hP hS ⊢
  have hP : va_P (dC, dI) vwCl [(h, .inr (7, [.ref hv, .int 0, .int (-1), .int nu]))] H := hP
  have hD : va_D A [(h, .inr (7, [.ref hv, .int 0, .int (-1), .int nu]))] := hD
  try dsimp only at hw
  refine k_topi (v := 0) hw ?_
  refine lv_istore_n (lv' := [(1, .int 0), (0, .ref h)]) hx₀ hb dX9_readAgain_51 rfl hl (by decide) rfl (fun ls hl => ?_)
  refine lv_aload_n hx₀ hb dX9_readAgain_52 rfl (lv_at hl 1 rfl) ?_
  refine va_get (D := (dC, dI)) (ci := 7) (v := .int (-1)) (C := RX7) (T := TX7) (N := 4) hx₀ hb hts inlX7 hown hK hP 0 rfl rfl 2 (by decide) (hts (.fieldLink RX9 9 "BittenStick$Text" "faultAt" "I") wd_60) (fun _ h9 => h9) rfl dX9_readAgain_53 ?_
  refine lv_iconst (v := (-1)) hx₀ hb dX9_readAgain_56 (by decide +kernel) ?_
  refine lv_icmp_ne (tgt := 73) hx₀ hb dX9_readAgain_57 (by decide) (fun c9 => absurd (by decide +kernel) c9) (fun _ => ?_)
  refine lv_iload_n hx₀ hb dX9_readAgain_60 rfl (lv_at hl 0 rfl) ?_
  refine lv_iconst (v := (-1)) hx₀ hb dX9_readAgain_61 (by decide +kernel) ?_
  refine lv_icmp_ne (tgt := 73) hx₀ hb dX9_readAgain_62 (by decide) (fun _ => ?_) (fun c9 => absurd c9 (by decide +kernel))
  refine lv_aload_n hx₀ hb dX9_readAgain_73 rfl (lv_at hl 1 rfl) ?_
  refine lv_aload_n hx₀ hb dX9_readAgain_74 rfl (lv_at hl 1 rfl) ?_
  refine va_get (D := (dC, dI)) (ci := 7) (v := .int (-1)) (C := RX7) (T := TX7) (N := 4) hx₀ hb hts inlX7 hown hK hP 0 rfl rfl 2 (by decide) (hts (.fieldLink RX9 9 "BittenStick$Text" "faultAt" "I") wd_60) (fun _ h9 => h9) rfl dX9_readAgain_75 ?_
  refine lv_iconst (v := (-1)) hx₀ hb dX9_readAgain_78 (by decide +kernel) ?_
  refine lv_icmp_ne (tgt := 86) hx₀ hb dX9_readAgain_79 (by decide) (fun c9 => absurd (by decide +kernel) c9) (fun _ => ?_)
  refine lv_iload_n hx₀ hb dX9_readAgain_82 rfl (lv_at hl 0 rfl) ?_
  refine lv_goto (tgt := 87) hx₀ hb dX9_readAgain_83 (by decide) ?_
  refine va_put (D := (dC, dI)) (ci := 7) (v := .int 0) (ty := .int) (C := RX7) (T := TX7) (N := 4) hx₀ hb hts inlX7 tyX7 tyX7_ok nmX7 hown hK hP hD hS 0 rfl rfl 3 (by decide) (hts (.fieldLink RX9 37 "BittenStick$Text" "number" "I") wd_174) (fun _ h9 => h9) rfl (by decide +kernel) rfl rfl (Nat.le_of_ble_eq_true rfl) dX9_readAgain_87 (fun H locs hP hD hS => ?_)
  have hP : va_P (dC, dI) vwCl [(h, .inr (7, [.ref hv, .int 0, .int (-1), .int 0]))] H := hP
  have hD : va_D A [(h, .inr (7, [.ref hv, .int 0, .int (-1), .int 0]))] := hD
  have hP9 := hP.sub (ws' := [(h, .inr (7, [.ref hv, .int 0, .int (-1), .int 0]))]) [0] rfl
  have hD9 := hD.sub (ws' := [(h, .inr (7, [.ref hv, .int 0, .int (-1), .int 0]))]) [0] (by decide) rfl
  exact W.vret hx₀ hb hr (fun t₀ ht hW => ⟨⟨(), rfl, trivial, by rw [ht]; exact hP9, va_K.moved hW.alike hK, hD9⟩, hS.F ht⟩) hS.2.2 dX9_readAgain_90
theorem lf_c_again1_X7_1  (c9 : ¬ (0 ≤ (0 : Int32) ∧ (0 : Int32) < 39)) : False := by
  (first | omega | (simp only [Int64.le_iff_toInt_le, Int64.lt_iff_toInt_lt, Int32.le_iff_toInt_le, Int32.lt_iff_toInt_lt, ← Int32.toInt_inj, ← Int64.toInt_inj, Int32.toInt_toInt64, (show (0 : Int32).toInt = 0 from by decide), (show (0 : Int64).toInt = 0 from by decide), (show (39 : Int32).toInt = 39 from by decide), (show (39 : Int64).toInt = 39 from by decide)] at *; omega))
set_option maxHeartbeats 4000000 in
set_option maxRecDepth 100000 in
theorem c_again1_X7 (l : Launch) (dC : Nat → ClassId) (dI : Nat → Nat → Nat) (cI cJ cQ : ClassId) (sz : Nat) (h : Nat) (hv : Nat) (fa : Int32) (nu : Int32) (f : Nat → Int32) : Met l yX9_readAgain (kW yX9_readAgain cX9_readAgain 2 none) { frames := 1, cells := 0, slots := 0, locals := 21 } (kPre dC dI cI cJ cQ sz [.ref h] [(h, .inr (7, [.ref hv, .int 1, .int fa, .int nu])), (hv, .inl (cI, 39, .inl f))]) (va_Qv (fun (_ : Int32 × Int32) => True) (fun (u : Int32 × Int32) t₀ => kB dC dI cI cJ cQ (va_A [(h, .inr (7, [.ref hv, .int 1, .int fa, .int nu])), (hv, .inl (cI, 39, .inl f))] sz) [(h, .inr (7, [.ref hv, .int 1, .int u.1, .int u.2]))] t₀) (va_A [(h, .inr (7, [.ref hv, .int 1, .int fa, .int nu])), (hv, .inl (cI, 39, .inl f))] sz)) 0 0 (va_A [(h, .inr (7, [.ref hv, .int 1, .int fa, .int nu])), (hv, .inl (cI, 39, .inl f))] sz) := by
  refine Met.ofW (cc := cX9_readAgain) (maxL := 2) (ret := none) (by decide) rfl ?_
  intro p₀ e₀ s₀ m₀ args below meth c₀ s₁ B hml hv₀
  obtain ⟨rfl, hsz, hP, hK, hD0, hN⟩ := hv₀
  have hx₀ := B.exec
  have hb := B.bytes
  have hr := B.returns
  have hts := atoms_spec (ws := (kW yX9_readAgain cX9_readAgain 2 none)) B.pre
  have hts := fun w h => hts w (List.mem_cons_of_mem _ h)
  have hown : s₀.vm.findClass RX9 = some m₀.cls := findClass_of_methodNamed B.named
  have hlocks := B.notSynchronized
  subst hsz
  have hD := hD0.self (sz := s₀.heap.size)
  generalize hAe : va_A [(h, .inr (7, [.ref hv, .int 1, .int fa, .int nu])), (hv, .inl (cI, 39, .inl f))] s₀.heap.size = A at hD ⊢
  have hA : ∀ q : Nat, s₀.heap.size ≤ q → A q := fun q h => by rw [← hAe]; exact Or.inr h
  have hS : va_S A s₀.heap s₀.heap [] := va_S.rf
  have hP : va_P (dC, dI) vwCl [(h, .inr (7, [.ref hv, .int 1, .int fa, .int nu])), (hv, .inl (cI, 39, .inl f))] s₀.heap := hP
  have hl := lv_entry ([.ref h]) (n := 2) (Nat.le_of_ble_eq_true rfl)
  rw [lg_entry_eq]
  generalize (lg_sl ([.ref h]) ++ List.replicate (2 - (lg_sl ([.ref h])).length) Slot.unset).toArray = ls at hl ⊢
  have hl : lv_has ls 2 [(0, .ref h)] := hl
  obtain ⟨H, hH⟩ : ∃ z : Heap, z = s₀.heap := ⟨_, rfl⟩
  rw [← hH] at hP
  have hS : va_S A s₀.heap H [] := by rw [hH]; exact hS
  refine k_heap hH ?_
  have hD : va_D A [(h, .inr (7, [.ref hv, .int 1, .int fa, .int nu])), (hv, .inl (cI, 39, .inl f))] := hD
  obtain ⟨locs, hlo⟩ : ∃ z : List Loc, z = [] := ⟨_, rfl⟩
  rw [← hlo] at hS ⊢
  clear hlo hH hAe hD0
  refine lv_aload_n hx₀ hb dX9_readAgain_0 rfl (lv_at hl 0 rfl) ?_
  refine lv_iconst (v := (-1)) hx₀ hb dX9_readAgain_1 (by decide +kernel) ?_
  refine va_put (D := (dC, dI)) (ci := 7) (v := .int (-1)) (ty := .int) (C := RX7) (T := TX7) (N := 4) hx₀ hb hts inlX7 tyX7 tyX7_ok nmX7 hown hK hP hD hS 0 rfl rfl 2 (by decide) (hts (.fieldLink RX9 9 "BittenStick$Text" "faultAt" "I") wd_60) (fun _ h9 => h9) rfl (by decide +kernel) rfl rfl (Nat.le_of_ble_eq_true rfl) dX9_readAgain_2 (fun H locs hP hD hS => ?_)
  have hP : va_P (dC, dI) vwCl [(h, .inr (7, [.ref hv, .int 1, .int (-1), .int nu])), (hv, .inl (cI, 39, .inl f))] H := hP
  have hD : va_D A [(h, .inr (7, [.ref hv, .int 1, .int (-1), .int nu])), (hv, .inl (cI, 39, .inl f))] := hD
  refine lv_iconst (v := 0) hx₀ hb dX9_readAgain_5 (by decide +kernel) ?_
  refine lv_istore_n (lv' := [(1, .int 0), (0, .ref h)]) hx₀ hb dX9_readAgain_6 rfl hl (by decide) rfl (fun ls hl => ?_)
  refine lv_iload_n hx₀ hb dX9_readAgain_7 rfl (lv_at hl 0 rfl) ?_
  refine lv_aload_n hx₀ hb dX9_readAgain_8 rfl (lv_at hl 1 rfl) ?_
  refine va_get (D := (dC, dI)) (ci := 7) (v := .int 1) (C := RX7) (T := TX7) (N := 4) hx₀ hb hts inlX7 hown hK hP 0 rfl rfl 1 (by decide) (hts (.fieldLink RX9 25 "BittenStick$Text" "length" "I") wd_147) (fun _ h9 => h9) rfl dX9_readAgain_9 ?_
  refine lv_icmp_ge (tgt := 43) hx₀ hb dX9_readAgain_12 (by decide) (fun c9 => absurd c9 (by decide +kernel)) (fun _ => ?_)
  refine lv_aload_n hx₀ hb dX9_readAgain_15 rfl (lv_at hl 1 rfl) ?_
  refine va_get (D := (dC, dI)) (ci := 7) (v := .int (-1)) (C := RX7) (T := TX7) (N := 4) hx₀ hb hts inlX7 hown hK hP 0 rfl rfl 2 (by decide) (hts (.fieldLink RX9 9 "BittenStick$Text" "faultAt" "I") wd_60) (fun _ h9 => h9) rfl dX9_readAgain_16 ?_
  refine lv_iconst (v := (-1)) hx₀ hb dX9_readAgain_19 (by decide +kernel) ?_
  refine lv_icmp_ne (tgt := 43) hx₀ hb dX9_readAgain_20 (by decide) (fun c9 => absurd (by decide +kernel) c9) (fun _ => ?_)
  refine lv_aload_n hx₀ hb dX9_readAgain_23 rfl (lv_at hl 1 rfl) ?_
  refine lv_iload_n hx₀ hb dX9_readAgain_24 rfl (lv_at hl 0 rfl) ?_
  have hPc := hP.sub (ws' := [(h, .inr (7, [.ref hv, .int 1, .int (-1), .int nu])), (hv, .inl (cI, 39, .inl f))]) [0, 1] rfl
  have hDc := hD.sub (ws' := [(h, .inr (7, [.ref hv, .int 1, .int (-1), .int nu])), (hv, .inl (cI, 39, .inl f))]) [0, 1] (by decide) rfl
  have hFc := va_free (wc := [(h, .inr (7, [.ref hv, .int 1, .int (-1), .int nu])), (hv, .inl (cI, 39, .inl f))]) hD hS hA [0, 1] rfl
  refine va_calli (va_runU (As := [.int 0]) (rest := []) ⟨hx₀, hb, hml, hown, hts⟩ (c_valueAt_X7 l dC dI cI cJ cQ H.size h 0 hv 1 (-1) nu f) (va_cwU 1 hts (kGU wd_179 wd_175 wd_176 wd_181 wd_178 wd_57) rfl rfl rfl rfl (by decide +kernel) ⟨Nat.le_of_ble_eq_true rfl, Nat.le_of_ble_eq_true rfl⟩) (k_preV (ci := 7) (q0 := 0) hK hPc hDc hN rfl rfl) rfl rfl hl.1 rfl (lv_room (Nat.le_of_ble_eq_true rfl)) dX9_readAgain_25 ⟨by decide +kernel, by decide +kernel⟩) hS (fun q _ h => hFc q h) hFc (fun r_1 u₀ t₀ H1 locs ht hvm hw hB hz1 hk1 hS => ?_)
  obtain ⟨hP1, hK1, hD1⟩ := hB
  rw [ht] at hP1
  obtain ⟨hP, hD⟩ := va_join (wr := []) (w1 := [(h, .inr (7, [.ref hv, .int 1, .int (-1), .int nu])), (hv, .inl (cI, 39, .inl f))]) hP hD [0, 1] [] rfl rfl (by decide) (by decide) hk1 hFc hP1 hD1
  generalize H1 = H at hP hS ⊢
  have hP : va_P (dC, dI) vwCl [(h, .inr (7, [.ref hv, .int 1, .int (-1), .int nu])), (hv, .inl (cI, 39, .inl f))] H := hP
  have hD : va_D A [(h, .inr (7, [.ref hv, .int 1, .int (-1), .int nu])), (hv, .inl (cI, 39, .inl f))] := hD
  try dsimp only at hw
  rw [if_pos (Classical.byContradiction (fun c9 => lf_c_again1_X7_1  c9))] at hw
  refine k_topi (v := f (0 : Int32).toNatClampNeg) hw ?_
  refine lv_iconst (v := (-1)) hx₀ hb dX9_readAgain_28 (by decide +kernel) ?_
  refine lv_icmp_ne (tgt := 37) hx₀ hb dX9_readAgain_29 (by decide) (fun c_3 => ?_) (fun c_3 => ?_)
  · refine lv_iinc (v := 1) (lv' := [(1, .int 1), (0, .ref h)]) hx₀ hb dX9_readAgain_37 hl (k := 0) rfl (by decide +kernel) (by decide) rfl (fun ls hl => ?_)
    refine lv_goto (tgt := 7) hx₀ hb dX9_readAgain_40 (by decide) ?_
    refine lv_iload_n hx₀ hb dX9_readAgain_7 rfl (lv_at hl 0 rfl) ?_
    refine lv_aload_n hx₀ hb dX9_readAgain_8 rfl (lv_at hl 1 rfl) ?_
    refine va_get (D := (dC, dI)) (ci := 7) (v := .int 1) (C := RX7) (T := TX7) (N := 4) hx₀ hb hts inlX7 hown hK hP 0 rfl rfl 1 (by decide) (hts (.fieldLink RX9 25 "BittenStick$Text" "length" "I") wd_147) (fun _ h9 => h9) rfl dX9_readAgain_9 ?_
    refine lv_icmp_ge (tgt := 43) hx₀ hb dX9_readAgain_12 (by decide) (fun _ => ?_) (fun c9 => absurd (by decide +kernel) c9)
    refine lv_aload_n hx₀ hb dX9_readAgain_43 rfl (lv_at hl 1 rfl) ?_
    refine lv_aload_n hx₀ hb dX9_readAgain_44 rfl (lv_at hl 1 rfl) ?_
    refine va_get (D := (dC, dI)) (ci := 7) (v := .int 1) (C := RX7) (T := TX7) (N := 4) hx₀ hb hts inlX7 hown hK hP 0 rfl rfl 1 (by decide) (hts (.fieldLink RX9 25 "BittenStick$Text" "length" "I") wd_147) (fun _ h9 => h9) rfl dX9_readAgain_45 ?_
    have hPc := hP.sub (ws' := [(h, .inr (7, [.ref hv, .int 1, .int (-1), .int nu]))]) [0] rfl
    have hDc := hD.sub (ws' := [(h, .inr (7, [.ref hv, .int 1, .int (-1), .int nu]))]) [0] (by decide) rfl
    have hFc := va_free (wc := [(h, .inr (7, [.ref hv, .int 1, .int (-1), .int nu]))]) hD hS hA [0] rfl
    refine va_calli (va_runU (As := [.int 1]) (rest := []) ⟨hx₀, hb, hml, hown, hts⟩ (c_things1_X7 l dC dI cI cJ cQ H.size h hv 1 (-1) nu) (va_cwA 1 hts (kGU wd_192 wd_182 wd_183 wd_190 wd_191 wd_18) rfl rfl rfl hN.2.1 (by decide +kernel) ⟨Nat.le_of_ble_eq_true rfl, Nat.le_of_ble_eq_true rfl⟩) (k_preV (ci := 7) (q0 := 0) hK hPc hDc hN rfl rfl) rfl rfl hl.1 rfl (lv_room (Nat.le_of_ble_eq_true rfl)) dX9_readAgain_48 ⟨by decide +kernel, by decide +kernel⟩) hS (fun q _ h => hFc q h) hFc (fun r_4 u₀ t₀ H1 locs ht hvm hw hB hz1 hk1 hS => ?_)
    obtain ⟨hP1, hK1, hD1⟩ := hB
    rw [ht] at hP1
    obtain ⟨hP, hD⟩ := va_join (wr := [(hv, .inl (cI, 39, .inl f))]) (w1 := [(h, .inr (7, [.ref hv, .int 1, .int (-1), .int nu]))]) hP hD [0] [1] rfl rfl (by decide) (by decide) hk1 hFc hP1 hD1
    generalize H1 = H at hP hS ⊢
    have hP : va_P (dC, dI) vwCl [(hv, .inl (cI, 39, .inl f)), (h, .inr (7, [.ref hv, .int 1, .int (-1), .int nu]))] H := hP
    have hD : va_D A [(hv, .inl (cI, 39, .inl f)), (h, .inr (7, [.ref hv, .int 1, .int (-1), .int nu]))] := hD
    try dsimp only at hw
    refine k_topi (v := (-1)) hw ?_
    refine lv_istore_n (lv' := [(1, .int (-1)), (0, .ref h)]) hx₀ hb dX9_readAgain_51 rfl hl (by decide) rfl (fun ls hl => ?_)
    refine lv_aload_n hx₀ hb dX9_readAgain_52 rfl (lv_at hl 1 rfl) ?_
    refine va_get (D := (dC, dI)) (ci := 7) (v := .int (-1)) (C := RX7) (T := TX7) (N := 4) hx₀ hb hts inlX7 hown hK hP 1 rfl rfl 2 (by decide) (hts (.fieldLink RX9 9 "BittenStick$Text" "faultAt" "I") wd_60) (fun _ h9 => h9) rfl dX9_readAgain_53 ?_
    refine lv_iconst (v := (-1)) hx₀ hb dX9_readAgain_56 (by decide +kernel) ?_
    refine lv_icmp_ne (tgt := 73) hx₀ hb dX9_readAgain_57 (by decide) (fun c9 => absurd (by decide +kernel) c9) (fun _ => ?_)
    refine lv_iload_n hx₀ hb dX9_readAgain_60 rfl (lv_at hl 0 rfl) ?_
    refine lv_iconst (v := (-1)) hx₀ hb dX9_readAgain_61 (by decide +kernel) ?_
    refine lv_icmp_ne (tgt := 73) hx₀ hb dX9_readAgain_62 (by decide) (fun c9 => absurd (by decide +kernel) c9) (fun _ => ?_)
    refine lv_aload_n hx₀ hb dX9_readAgain_65 rfl (lv_at hl 1 rfl) ?_
    refine lv_aload_n hx₀ hb dX9_readAgain_66 rfl (lv_at hl 1 rfl) ?_
    refine va_get (D := (dC, dI)) (ci := 7) (v := .int 1) (C := RX7) (T := TX7) (N := 4) hx₀ hb hts inlX7 hown hK hP 1 rfl rfl 1 (by decide) (hts (.fieldLink RX9 25 "BittenStick$Text" "length" "I") wd_147) (fun _ h9 => h9) rfl dX9_readAgain_67 ?_
    refine va_put (D := (dC, dI)) (ci := 7) (v := .int 1) (ty := .int) (C := RX7) (T := TX7) (N := 4) hx₀ hb hts inlX7 tyX7 tyX7_ok nmX7 hown hK hP hD hS 1 rfl rfl 2 (by decide) (hts (.fieldLink RX9 9 "BittenStick$Text" "faultAt" "I") wd_60) (fun _ h9 => h9) rfl (by decide +kernel) rfl rfl (Nat.le_of_ble_eq_true rfl) dX9_readAgain_70 (fun H locs hP hD hS => ?_)
    have hP : va_P (dC, dI) vwCl [(hv, .inl (cI, 39, .inl f)), (h, .inr (7, [.ref hv, .int 1, .int 1, .int nu]))] H := hP
    have hD : va_D A [(hv, .inl (cI, 39, .inl f)), (h, .inr (7, [.ref hv, .int 1, .int 1, .int nu]))] := hD
    refine lv_aload_n hx₀ hb dX9_readAgain_73 rfl (lv_at hl 1 rfl) ?_
    refine lv_aload_n hx₀ hb dX9_readAgain_74 rfl (lv_at hl 1 rfl) ?_
    refine va_get (D := (dC, dI)) (ci := 7) (v := .int 1) (C := RX7) (T := TX7) (N := 4) hx₀ hb hts inlX7 hown hK hP 1 rfl rfl 2 (by decide) (hts (.fieldLink RX9 9 "BittenStick$Text" "faultAt" "I") wd_60) (fun _ h9 => h9) rfl dX9_readAgain_75 ?_
    refine lv_iconst (v := (-1)) hx₀ hb dX9_readAgain_78 (by decide +kernel) ?_
    refine lv_icmp_ne (tgt := 86) hx₀ hb dX9_readAgain_79 (by decide) (fun _ => ?_) (fun c9 => absurd c9 (by decide +kernel))
    refine lv_iconst (v := 0) hx₀ hb dX9_readAgain_86 (by decide +kernel) ?_
    refine va_put (D := (dC, dI)) (ci := 7) (v := .int 0) (ty := .int) (C := RX7) (T := TX7) (N := 4) hx₀ hb hts inlX7 tyX7 tyX7_ok nmX7 hown hK hP hD hS 1 rfl rfl 3 (by decide) (hts (.fieldLink RX9 37 "BittenStick$Text" "number" "I") wd_174) (fun _ h9 => h9) rfl (by decide +kernel) rfl rfl (Nat.le_of_ble_eq_true rfl) dX9_readAgain_87 (fun H locs hP hD hS => ?_)
    have hP : va_P (dC, dI) vwCl [(hv, .inl (cI, 39, .inl f)), (h, .inr (7, [.ref hv, .int 1, .int 1, .int 0]))] H := hP
    have hD : va_D A [(hv, .inl (cI, 39, .inl f)), (h, .inr (7, [.ref hv, .int 1, .int 1, .int 0]))] := hD
    have hP9 := hP.sub (ws' := [(h, .inr (7, [.ref hv, .int 1, .int 1, .int 0]))]) [1] rfl
    have hD9 := hD.sub (ws' := [(h, .inr (7, [.ref hv, .int 1, .int 1, .int 0]))]) [1] (by decide) rfl
    exact W.vret hx₀ hb hr (fun t₀ ht hW => ⟨⟨(1, 0), rfl, trivial, by rw [ht]; exact hP9, va_K.moved hW.alike hK, hD9⟩, hS.F ht⟩) hS.2.2 dX9_readAgain_90
  · refine lv_aload_n hx₀ hb dX9_readAgain_32 rfl (lv_at hl 1 rfl) ?_
    refine lv_iload_n hx₀ hb dX9_readAgain_33 rfl (lv_at hl 0 rfl) ?_
    refine va_put (D := (dC, dI)) (ci := 7) (v := .int 0) (ty := .int) (C := RX7) (T := TX7) (N := 4) hx₀ hb hts inlX7 tyX7 tyX7_ok nmX7 hown hK hP hD hS 0 rfl rfl 2 (by decide) (hts (.fieldLink RX9 9 "BittenStick$Text" "faultAt" "I") wd_60) (fun _ h9 => h9) rfl (by decide +kernel) rfl rfl (Nat.le_of_ble_eq_true rfl) dX9_readAgain_34 (fun H locs hP hD hS => ?_)
    have hP : va_P (dC, dI) vwCl [(h, .inr (7, [.ref hv, .int 1, .int 0, .int nu])), (hv, .inl (cI, 39, .inl f))] H := hP
    have hD : va_D A [(h, .inr (7, [.ref hv, .int 1, .int 0, .int nu])), (hv, .inl (cI, 39, .inl f))] := hD
    refine lv_iinc (v := 1) (lv' := [(1, .int 1), (0, .ref h)]) hx₀ hb dX9_readAgain_37 hl (k := 0) rfl (by decide +kernel) (by decide) rfl (fun ls hl => ?_)
    refine lv_goto (tgt := 7) hx₀ hb dX9_readAgain_40 (by decide) ?_
    refine lv_iload_n hx₀ hb dX9_readAgain_7 rfl (lv_at hl 0 rfl) ?_
    refine lv_aload_n hx₀ hb dX9_readAgain_8 rfl (lv_at hl 1 rfl) ?_
    refine va_get (D := (dC, dI)) (ci := 7) (v := .int 1) (C := RX7) (T := TX7) (N := 4) hx₀ hb hts inlX7 hown hK hP 0 rfl rfl 1 (by decide) (hts (.fieldLink RX9 25 "BittenStick$Text" "length" "I") wd_147) (fun _ h9 => h9) rfl dX9_readAgain_9 ?_
    refine lv_icmp_ge (tgt := 43) hx₀ hb dX9_readAgain_12 (by decide) (fun _ => ?_) (fun c9 => absurd (by decide +kernel) c9)
    refine lv_aload_n hx₀ hb dX9_readAgain_43 rfl (lv_at hl 1 rfl) ?_
    refine lv_aload_n hx₀ hb dX9_readAgain_44 rfl (lv_at hl 1 rfl) ?_
    refine va_get (D := (dC, dI)) (ci := 7) (v := .int 1) (C := RX7) (T := TX7) (N := 4) hx₀ hb hts inlX7 hown hK hP 0 rfl rfl 1 (by decide) (hts (.fieldLink RX9 25 "BittenStick$Text" "length" "I") wd_147) (fun _ h9 => h9) rfl dX9_readAgain_45 ?_
    have hPc := hP.sub (ws' := [(h, .inr (7, [.ref hv, .int 1, .int 0, .int nu]))]) [0] rfl
    have hDc := hD.sub (ws' := [(h, .inr (7, [.ref hv, .int 1, .int 0, .int nu]))]) [0] (by decide) rfl
    have hFc := va_free (wc := [(h, .inr (7, [.ref hv, .int 1, .int 0, .int nu]))]) hD hS hA [0] rfl
    refine va_calli (va_runU (As := [.int 1]) (rest := []) ⟨hx₀, hb, hml, hown, hts⟩ (c_things1_X7 l dC dI cI cJ cQ H.size h hv 1 0 nu) (va_cwA 1 hts (kGU wd_192 wd_182 wd_183 wd_190 wd_191 wd_18) rfl rfl rfl hN.2.1 (by decide +kernel) ⟨Nat.le_of_ble_eq_true rfl, Nat.le_of_ble_eq_true rfl⟩) (k_preV (ci := 7) (q0 := 0) hK hPc hDc hN rfl rfl) rfl rfl hl.1 rfl (lv_room (Nat.le_of_ble_eq_true rfl)) dX9_readAgain_48 ⟨by decide +kernel, by decide +kernel⟩) hS (fun q _ h => hFc q h) hFc (fun r_5 u₀ t₀ H1 locs ht hvm hw hB hz1 hk1 hS => ?_)
    obtain ⟨hP1, hK1, hD1⟩ := hB
    rw [ht] at hP1
    obtain ⟨hP, hD⟩ := va_join (wr := [(hv, .inl (cI, 39, .inl f))]) (w1 := [(h, .inr (7, [.ref hv, .int 1, .int 0, .int nu]))]) hP hD [0] [1] rfl rfl (by decide) (by decide) hk1 hFc hP1 hD1
    generalize H1 = H at hP hS ⊢
    have hP : va_P (dC, dI) vwCl [(hv, .inl (cI, 39, .inl f)), (h, .inr (7, [.ref hv, .int 1, .int 0, .int nu]))] H := hP
    have hD : va_D A [(hv, .inl (cI, 39, .inl f)), (h, .inr (7, [.ref hv, .int 1, .int 0, .int nu]))] := hD
    try dsimp only at hw
    refine k_topi (v := (-1)) hw ?_
    refine lv_istore_n (lv' := [(1, .int (-1)), (0, .ref h)]) hx₀ hb dX9_readAgain_51 rfl hl (by decide) rfl (fun ls hl => ?_)
    refine lv_aload_n hx₀ hb dX9_readAgain_52 rfl (lv_at hl 1 rfl) ?_
    refine va_get (D := (dC, dI)) (ci := 7) (v := .int 0) (C := RX7) (T := TX7) (N := 4) hx₀ hb hts inlX7 hown hK hP 1 rfl rfl 2 (by decide) (hts (.fieldLink RX9 9 "BittenStick$Text" "faultAt" "I") wd_60) (fun _ h9 => h9) rfl dX9_readAgain_53 ?_
    refine lv_iconst (v := (-1)) hx₀ hb dX9_readAgain_56 (by decide +kernel) ?_
    refine lv_icmp_ne (tgt := 73) hx₀ hb dX9_readAgain_57 (by decide) (fun _ => ?_) (fun c9 => absurd c9 (by decide +kernel))
    refine lv_aload_n hx₀ hb dX9_readAgain_73 rfl (lv_at hl 1 rfl) ?_
    refine lv_aload_n hx₀ hb dX9_readAgain_74 rfl (lv_at hl 1 rfl) ?_
    refine va_get (D := (dC, dI)) (ci := 7) (v := .int 0) (C := RX7) (T := TX7) (N := 4) hx₀ hb hts inlX7 hown hK hP 1 rfl rfl 2 (by decide) (hts (.fieldLink RX9 9 "BittenStick$Text" "faultAt" "I") wd_60) (fun _ h9 => h9) rfl dX9_readAgain_75 ?_
    refine lv_iconst (v := (-1)) hx₀ hb dX9_readAgain_78 (by decide +kernel) ?_
    refine lv_icmp_ne (tgt := 86) hx₀ hb dX9_readAgain_79 (by decide) (fun _ => ?_) (fun c9 => absurd c9 (by decide +kernel))
    refine lv_iconst (v := 0) hx₀ hb dX9_readAgain_86 (by decide +kernel) ?_
    refine va_put (D := (dC, dI)) (ci := 7) (v := .int 0) (ty := .int) (C := RX7) (T := TX7) (N := 4) hx₀ hb hts inlX7 tyX7 tyX7_ok nmX7 hown hK hP hD hS 1 rfl rfl 3 (by decide) (hts (.fieldLink RX9 37 "BittenStick$Text" "number" "I") wd_174) (fun _ h9 => h9) rfl (by decide +kernel) rfl rfl (Nat.le_of_ble_eq_true rfl) dX9_readAgain_87 (fun H locs hP hD hS => ?_)
    have hP : va_P (dC, dI) vwCl [(hv, .inl (cI, 39, .inl f)), (h, .inr (7, [.ref hv, .int 1, .int 0, .int 0]))] H := hP
    have hD : va_D A [(hv, .inl (cI, 39, .inl f)), (h, .inr (7, [.ref hv, .int 1, .int 0, .int 0]))] := hD
    have hP9 := hP.sub (ws' := [(h, .inr (7, [.ref hv, .int 1, .int 0, .int 0]))]) [1] rfl
    have hD9 := hD.sub (ws' := [(h, .inr (7, [.ref hv, .int 1, .int 0, .int 0]))]) [1] (by decide) rfl
    exact W.vret hx₀ hb hr (fun t₀ ht hW => ⟨⟨(0, 0), rfl, trivial, by rw [ht]; exact hP9, va_K.moved hW.alike hK, hD9⟩, hS.F ht⟩) hS.2.2 dX9_readAgain_90
set_option maxHeartbeats 4000000 in
set_option maxRecDepth 100000 in
theorem c_again0_X2 (l : Launch) (dC : Nat → ClassId) (dI : Nat → Nat → Nat) (cI cJ cQ : ClassId) (sz : Nat) (h : Nat) (hv : Nat) (fa : Int32) (nu : Int32) : Met l yX9_readAgain (kW yX9_readAgain cX9_readAgain 2 none) { frames := 1, cells := 0, slots := 0, locals := 21 } (kPre dC dI cI cJ cQ sz [.ref h] [(h, .inr (2, [.ref hv, .int 0, .int fa, .int nu]))]) (va_Qv (fun (_ : Unit) => True) (fun _ t₀ => kB dC dI cI cJ cQ (va_A [(h, .inr (2, [.ref hv, .int 0, .int fa, .int nu]))] sz) [(h, .inr (2, [.ref hv, .int 0, .int (-1), .int 0]))] t₀) (va_A [(h, .inr (2, [.ref hv, .int 0, .int fa, .int nu]))] sz)) 0 0 (va_A [(h, .inr (2, [.ref hv, .int 0, .int fa, .int nu]))] sz) := by
  refine Met.ofW (cc := cX9_readAgain) (maxL := 2) (ret := none) (by decide) rfl ?_
  intro p₀ e₀ s₀ m₀ args below meth c₀ s₁ B hml hv₀
  obtain ⟨rfl, hsz, hP, hK, hD0, hN⟩ := hv₀
  have hx₀ := B.exec
  have hb := B.bytes
  have hr := B.returns
  have hts := atoms_spec (ws := (kW yX9_readAgain cX9_readAgain 2 none)) B.pre
  have hts := fun w h => hts w (List.mem_cons_of_mem _ h)
  have hown : s₀.vm.findClass RX9 = some m₀.cls := findClass_of_methodNamed B.named
  have hlocks := B.notSynchronized
  subst hsz
  have hD := hD0.self (sz := s₀.heap.size)
  generalize hAe : va_A [(h, .inr (2, [.ref hv, .int 0, .int fa, .int nu]))] s₀.heap.size = A at hD ⊢
  have hA : ∀ q : Nat, s₀.heap.size ≤ q → A q := fun q h => by rw [← hAe]; exact Or.inr h
  have hS : va_S A s₀.heap s₀.heap [] := va_S.rf
  have hP : va_P (dC, dI) vwCl [(h, .inr (2, [.ref hv, .int 0, .int fa, .int nu]))] s₀.heap := hP
  have hl := lv_entry ([.ref h]) (n := 2) (Nat.le_of_ble_eq_true rfl)
  rw [lg_entry_eq]
  generalize (lg_sl ([.ref h]) ++ List.replicate (2 - (lg_sl ([.ref h])).length) Slot.unset).toArray = ls at hl ⊢
  have hl : lv_has ls 2 [(0, .ref h)] := hl
  obtain ⟨H, hH⟩ : ∃ z : Heap, z = s₀.heap := ⟨_, rfl⟩
  rw [← hH] at hP
  have hS : va_S A s₀.heap H [] := by rw [hH]; exact hS
  refine k_heap hH ?_
  have hD : va_D A [(h, .inr (2, [.ref hv, .int 0, .int fa, .int nu]))] := hD
  obtain ⟨locs, hlo⟩ : ∃ z : List Loc, z = [] := ⟨_, rfl⟩
  rw [← hlo] at hS ⊢
  clear hlo hH hAe hD0
  refine lv_aload_n hx₀ hb dX9_readAgain_0 rfl (lv_at hl 0 rfl) ?_
  refine lv_iconst (v := (-1)) hx₀ hb dX9_readAgain_1 (by decide +kernel) ?_
  refine va_put (D := (dC, dI)) (ci := 2) (v := .int (-1)) (ty := .int) (C := RX2) (T := TX2) (N := 4) hx₀ hb hts inlX2 tyX2 tyX2_ok nmX2 hown hK hP hD hS 0 rfl rfl 2 (by decide) (hts (.fieldLink RX9 9 "BittenStick$Text" "faultAt" "I") wd_60) (fun _ h9 => h9) rfl (by decide +kernel) rfl rfl (Nat.le_of_ble_eq_true rfl) dX9_readAgain_2 (fun H locs hP hD hS => ?_)
  have hP : va_P (dC, dI) vwCl [(h, .inr (2, [.ref hv, .int 0, .int (-1), .int nu]))] H := hP
  have hD : va_D A [(h, .inr (2, [.ref hv, .int 0, .int (-1), .int nu]))] := hD
  refine lv_iconst (v := 0) hx₀ hb dX9_readAgain_5 (by decide +kernel) ?_
  refine lv_istore_n (lv' := [(1, .int 0), (0, .ref h)]) hx₀ hb dX9_readAgain_6 rfl hl (by decide) rfl (fun ls hl => ?_)
  refine lv_iload_n hx₀ hb dX9_readAgain_7 rfl (lv_at hl 0 rfl) ?_
  refine lv_aload_n hx₀ hb dX9_readAgain_8 rfl (lv_at hl 1 rfl) ?_
  refine va_get (D := (dC, dI)) (ci := 2) (v := .int 0) (C := RX2) (T := TX2) (N := 4) hx₀ hb hts inlX2 hown hK hP 0 rfl rfl 1 (by decide) (hts (.fieldLink RX9 25 "BittenStick$Text" "length" "I") wd_147) (fun _ h9 => h9) rfl dX9_readAgain_9 ?_
  refine lv_icmp_ge (tgt := 43) hx₀ hb dX9_readAgain_12 (by decide) (fun _ => ?_) (fun c9 => absurd (by decide +kernel) c9)
  refine lv_aload_n hx₀ hb dX9_readAgain_43 rfl (lv_at hl 1 rfl) ?_
  refine lv_aload_n hx₀ hb dX9_readAgain_44 rfl (lv_at hl 1 rfl) ?_
  refine va_get (D := (dC, dI)) (ci := 2) (v := .int 0) (C := RX2) (T := TX2) (N := 4) hx₀ hb hts inlX2 hown hK hP 0 rfl rfl 1 (by decide) (hts (.fieldLink RX9 25 "BittenStick$Text" "length" "I") wd_147) (fun _ h9 => h9) rfl dX9_readAgain_45 ?_
  have hPc := hP.sub (ws' := [(h, .inr (2, [.ref hv, .int 0, .int (-1), .int nu]))]) [0] rfl
  have hDc := hD.sub (ws' := [(h, .inr (2, [.ref hv, .int 0, .int (-1), .int nu]))]) [0] (by decide) rfl
  have hFc := va_free (wc := [(h, .inr (2, [.ref hv, .int 0, .int (-1), .int nu]))]) hD hS hA [0] rfl
  refine va_calli (va_runU (As := [.int 0]) (rest := []) ⟨hx₀, hb, hml, hown, hts⟩ (c_things0_X2 l dC dI cI cJ cQ H.size h hv 0 (-1) nu) (va_cwA 1 hts (kGU wd_186 wd_182 wd_183 wd_184 wd_185 wd_22) rfl rfl rfl hN.2.1 (by decide +kernel) ⟨Nat.le_of_ble_eq_true rfl, Nat.le_of_ble_eq_true rfl⟩) (k_preV (ci := 2) (q0 := 0) hK hPc hDc hN rfl rfl) rfl rfl hl.1 rfl (lv_room (Nat.le_of_ble_eq_true rfl)) dX9_readAgain_48 ⟨by decide +kernel, by decide +kernel⟩) hS (fun q _ h => hFc q h) hFc (fun r_1 u₀ t₀ H1 locs ht hvm hw hB hz1 hk1 hS => ?_)
  obtain ⟨hP1, hK1, hD1⟩ := hB
  rw [ht] at hP1
  obtain ⟨hP, hD⟩ := va_join (wr := []) (w1 := [(h, .inr (2, [.ref hv, .int 0, .int (-1), .int nu]))]) hP hD [0] [] rfl rfl (by decide) (by decide) hk1 hFc hP1 hD1
  generalize H1 = H at hP hS ⊢
  have hP : va_P (dC, dI) vwCl [(h, .inr (2, [.ref hv, .int 0, .int (-1), .int nu]))] H := hP
  have hD : va_D A [(h, .inr (2, [.ref hv, .int 0, .int (-1), .int nu]))] := hD
  try dsimp only at hw
  refine k_topi (v := 0) hw ?_
  refine lv_istore_n (lv' := [(1, .int 0), (0, .ref h)]) hx₀ hb dX9_readAgain_51 rfl hl (by decide) rfl (fun ls hl => ?_)
  refine lv_aload_n hx₀ hb dX9_readAgain_52 rfl (lv_at hl 1 rfl) ?_
  refine va_get (D := (dC, dI)) (ci := 2) (v := .int (-1)) (C := RX2) (T := TX2) (N := 4) hx₀ hb hts inlX2 hown hK hP 0 rfl rfl 2 (by decide) (hts (.fieldLink RX9 9 "BittenStick$Text" "faultAt" "I") wd_60) (fun _ h9 => h9) rfl dX9_readAgain_53 ?_
  refine lv_iconst (v := (-1)) hx₀ hb dX9_readAgain_56 (by decide +kernel) ?_
  refine lv_icmp_ne (tgt := 73) hx₀ hb dX9_readAgain_57 (by decide) (fun c9 => absurd (by decide +kernel) c9) (fun _ => ?_)
  refine lv_iload_n hx₀ hb dX9_readAgain_60 rfl (lv_at hl 0 rfl) ?_
  refine lv_iconst (v := (-1)) hx₀ hb dX9_readAgain_61 (by decide +kernel) ?_
  refine lv_icmp_ne (tgt := 73) hx₀ hb dX9_readAgain_62 (by decide) (fun _ => ?_) (fun c9 => absurd c9 (by decide +kernel))
  refine lv_aload_n hx₀ hb dX9_readAgain_73 rfl (lv_at hl 1 rfl) ?_
  refine lv_aload_n hx₀ hb dX9_readAgain_74 rfl (lv_at hl 1 rfl) ?_
  refine va_get (D := (dC, dI)) (ci := 2) (v := .int (-1)) (C := RX2) (T := TX2) (N := 4) hx₀ hb hts inlX2 hown hK hP 0 rfl rfl 2 (by decide) (hts (.fieldLink RX9 9 "BittenStick$Text" "faultAt" "I") wd_60) (fun _ h9 => h9) rfl dX9_readAgain_75 ?_
  refine lv_iconst (v := (-1)) hx₀ hb dX9_readAgain_78 (by decide +kernel) ?_
  refine lv_icmp_ne (tgt := 86) hx₀ hb dX9_readAgain_79 (by decide) (fun c9 => absurd (by decide +kernel) c9) (fun _ => ?_)
  refine lv_iload_n hx₀ hb dX9_readAgain_82 rfl (lv_at hl 0 rfl) ?_
  refine lv_goto (tgt := 87) hx₀ hb dX9_readAgain_83 (by decide) ?_
  refine va_put (D := (dC, dI)) (ci := 2) (v := .int 0) (ty := .int) (C := RX2) (T := TX2) (N := 4) hx₀ hb hts inlX2 tyX2 tyX2_ok nmX2 hown hK hP hD hS 0 rfl rfl 3 (by decide) (hts (.fieldLink RX9 37 "BittenStick$Text" "number" "I") wd_174) (fun _ h9 => h9) rfl (by decide +kernel) rfl rfl (Nat.le_of_ble_eq_true rfl) dX9_readAgain_87 (fun H locs hP hD hS => ?_)
  have hP : va_P (dC, dI) vwCl [(h, .inr (2, [.ref hv, .int 0, .int (-1), .int 0]))] H := hP
  have hD : va_D A [(h, .inr (2, [.ref hv, .int 0, .int (-1), .int 0]))] := hD
  have hP9 := hP.sub (ws' := [(h, .inr (2, [.ref hv, .int 0, .int (-1), .int 0]))]) [0] rfl
  have hD9 := hD.sub (ws' := [(h, .inr (2, [.ref hv, .int 0, .int (-1), .int 0]))]) [0] (by decide) rfl
  exact W.vret hx₀ hb hr (fun t₀ ht hW => ⟨⟨(), rfl, trivial, by rw [ht]; exact hP9, va_K.moved hW.alike hK, hD9⟩, hS.F ht⟩) hS.2.2 dX9_readAgain_90
theorem lf_c_again1_X2_1  (c9 : ¬ (0 ≤ (0 : Int32) ∧ (0 : Int32) < 23)) : False := by
  (first | omega | (simp only [Int64.le_iff_toInt_le, Int64.lt_iff_toInt_lt, Int32.le_iff_toInt_le, Int32.lt_iff_toInt_lt, ← Int32.toInt_inj, ← Int64.toInt_inj, Int32.toInt_toInt64, (show (0 : Int32).toInt = 0 from by decide), (show (0 : Int64).toInt = 0 from by decide), (show (23 : Int32).toInt = 23 from by decide), (show (23 : Int64).toInt = 23 from by decide)] at *; omega))
set_option maxHeartbeats 4000000 in
set_option maxRecDepth 100000 in
theorem c_again1_X2 (l : Launch) (dC : Nat → ClassId) (dI : Nat → Nat → Nat) (cI cJ cQ : ClassId) (sz : Nat) (h : Nat) (hv : Nat) (fa : Int32) (nu : Int32) (f : Nat → Int32) : Met l yX9_readAgain (kW yX9_readAgain cX9_readAgain 2 none) { frames := 1, cells := 0, slots := 0, locals := 21 } (kPre dC dI cI cJ cQ sz [.ref h] [(h, .inr (2, [.ref hv, .int 1, .int fa, .int nu])), (hv, .inl (cI, 23, .inl f))]) (va_Qv (fun (_ : Int32 × Int32) => True) (fun (u : Int32 × Int32) t₀ => kB dC dI cI cJ cQ (va_A [(h, .inr (2, [.ref hv, .int 1, .int fa, .int nu])), (hv, .inl (cI, 23, .inl f))] sz) [(h, .inr (2, [.ref hv, .int 1, .int u.1, .int u.2]))] t₀) (va_A [(h, .inr (2, [.ref hv, .int 1, .int fa, .int nu])), (hv, .inl (cI, 23, .inl f))] sz)) 0 0 (va_A [(h, .inr (2, [.ref hv, .int 1, .int fa, .int nu])), (hv, .inl (cI, 23, .inl f))] sz) := by
  refine Met.ofW (cc := cX9_readAgain) (maxL := 2) (ret := none) (by decide) rfl ?_
  intro p₀ e₀ s₀ m₀ args below meth c₀ s₁ B hml hv₀
  obtain ⟨rfl, hsz, hP, hK, hD0, hN⟩ := hv₀
  have hx₀ := B.exec
  have hb := B.bytes
  have hr := B.returns
  have hts := atoms_spec (ws := (kW yX9_readAgain cX9_readAgain 2 none)) B.pre
  have hts := fun w h => hts w (List.mem_cons_of_mem _ h)
  have hown : s₀.vm.findClass RX9 = some m₀.cls := findClass_of_methodNamed B.named
  have hlocks := B.notSynchronized
  subst hsz
  have hD := hD0.self (sz := s₀.heap.size)
  generalize hAe : va_A [(h, .inr (2, [.ref hv, .int 1, .int fa, .int nu])), (hv, .inl (cI, 23, .inl f))] s₀.heap.size = A at hD ⊢
  have hA : ∀ q : Nat, s₀.heap.size ≤ q → A q := fun q h => by rw [← hAe]; exact Or.inr h
  have hS : va_S A s₀.heap s₀.heap [] := va_S.rf
  have hP : va_P (dC, dI) vwCl [(h, .inr (2, [.ref hv, .int 1, .int fa, .int nu])), (hv, .inl (cI, 23, .inl f))] s₀.heap := hP
  have hl := lv_entry ([.ref h]) (n := 2) (Nat.le_of_ble_eq_true rfl)
  rw [lg_entry_eq]
  generalize (lg_sl ([.ref h]) ++ List.replicate (2 - (lg_sl ([.ref h])).length) Slot.unset).toArray = ls at hl ⊢
  have hl : lv_has ls 2 [(0, .ref h)] := hl
  obtain ⟨H, hH⟩ : ∃ z : Heap, z = s₀.heap := ⟨_, rfl⟩
  rw [← hH] at hP
  have hS : va_S A s₀.heap H [] := by rw [hH]; exact hS
  refine k_heap hH ?_
  have hD : va_D A [(h, .inr (2, [.ref hv, .int 1, .int fa, .int nu])), (hv, .inl (cI, 23, .inl f))] := hD
  obtain ⟨locs, hlo⟩ : ∃ z : List Loc, z = [] := ⟨_, rfl⟩
  rw [← hlo] at hS ⊢
  clear hlo hH hAe hD0
  refine lv_aload_n hx₀ hb dX9_readAgain_0 rfl (lv_at hl 0 rfl) ?_
  refine lv_iconst (v := (-1)) hx₀ hb dX9_readAgain_1 (by decide +kernel) ?_
  refine va_put (D := (dC, dI)) (ci := 2) (v := .int (-1)) (ty := .int) (C := RX2) (T := TX2) (N := 4) hx₀ hb hts inlX2 tyX2 tyX2_ok nmX2 hown hK hP hD hS 0 rfl rfl 2 (by decide) (hts (.fieldLink RX9 9 "BittenStick$Text" "faultAt" "I") wd_60) (fun _ h9 => h9) rfl (by decide +kernel) rfl rfl (Nat.le_of_ble_eq_true rfl) dX9_readAgain_2 (fun H locs hP hD hS => ?_)
  have hP : va_P (dC, dI) vwCl [(h, .inr (2, [.ref hv, .int 1, .int (-1), .int nu])), (hv, .inl (cI, 23, .inl f))] H := hP
  have hD : va_D A [(h, .inr (2, [.ref hv, .int 1, .int (-1), .int nu])), (hv, .inl (cI, 23, .inl f))] := hD
  refine lv_iconst (v := 0) hx₀ hb dX9_readAgain_5 (by decide +kernel) ?_
  refine lv_istore_n (lv' := [(1, .int 0), (0, .ref h)]) hx₀ hb dX9_readAgain_6 rfl hl (by decide) rfl (fun ls hl => ?_)
  refine lv_iload_n hx₀ hb dX9_readAgain_7 rfl (lv_at hl 0 rfl) ?_
  refine lv_aload_n hx₀ hb dX9_readAgain_8 rfl (lv_at hl 1 rfl) ?_
  refine va_get (D := (dC, dI)) (ci := 2) (v := .int 1) (C := RX2) (T := TX2) (N := 4) hx₀ hb hts inlX2 hown hK hP 0 rfl rfl 1 (by decide) (hts (.fieldLink RX9 25 "BittenStick$Text" "length" "I") wd_147) (fun _ h9 => h9) rfl dX9_readAgain_9 ?_
  refine lv_icmp_ge (tgt := 43) hx₀ hb dX9_readAgain_12 (by decide) (fun c9 => absurd c9 (by decide +kernel)) (fun _ => ?_)
  refine lv_aload_n hx₀ hb dX9_readAgain_15 rfl (lv_at hl 1 rfl) ?_
  refine va_get (D := (dC, dI)) (ci := 2) (v := .int (-1)) (C := RX2) (T := TX2) (N := 4) hx₀ hb hts inlX2 hown hK hP 0 rfl rfl 2 (by decide) (hts (.fieldLink RX9 9 "BittenStick$Text" "faultAt" "I") wd_60) (fun _ h9 => h9) rfl dX9_readAgain_16 ?_
  refine lv_iconst (v := (-1)) hx₀ hb dX9_readAgain_19 (by decide +kernel) ?_
  refine lv_icmp_ne (tgt := 43) hx₀ hb dX9_readAgain_20 (by decide) (fun c9 => absurd (by decide +kernel) c9) (fun _ => ?_)
  refine lv_aload_n hx₀ hb dX9_readAgain_23 rfl (lv_at hl 1 rfl) ?_
  refine lv_iload_n hx₀ hb dX9_readAgain_24 rfl (lv_at hl 0 rfl) ?_
  have hPc := hP.sub (ws' := [(h, .inr (2, [.ref hv, .int 1, .int (-1), .int nu])), (hv, .inl (cI, 23, .inl f))]) [0, 1] rfl
  have hDc := hD.sub (ws' := [(h, .inr (2, [.ref hv, .int 1, .int (-1), .int nu])), (hv, .inl (cI, 23, .inl f))]) [0, 1] (by decide) rfl
  have hFc := va_free (wc := [(h, .inr (2, [.ref hv, .int 1, .int (-1), .int nu])), (hv, .inl (cI, 23, .inl f))]) hD hS hA [0, 1] rfl
  refine va_calli (va_runU (As := [.int 0]) (rest := []) ⟨hx₀, hb, hml, hown, hts⟩ (c_valueAt_X2 l dC dI cI cJ cQ H.size h 0 hv 1 (-1) nu f) (va_cwU 1 hts (kGU wd_179 wd_175 wd_176 wd_177 wd_178 wd_57) rfl rfl rfl rfl (by decide +kernel) ⟨Nat.le_of_ble_eq_true rfl, Nat.le_of_ble_eq_true rfl⟩) (k_preV (ci := 2) (q0 := 0) hK hPc hDc hN rfl rfl) rfl rfl hl.1 rfl (lv_room (Nat.le_of_ble_eq_true rfl)) dX9_readAgain_25 ⟨by decide +kernel, by decide +kernel⟩) hS (fun q _ h => hFc q h) hFc (fun r_1 u₀ t₀ H1 locs ht hvm hw hB hz1 hk1 hS => ?_)
  obtain ⟨hP1, hK1, hD1⟩ := hB
  rw [ht] at hP1
  obtain ⟨hP, hD⟩ := va_join (wr := []) (w1 := [(h, .inr (2, [.ref hv, .int 1, .int (-1), .int nu])), (hv, .inl (cI, 23, .inl f))]) hP hD [0, 1] [] rfl rfl (by decide) (by decide) hk1 hFc hP1 hD1
  generalize H1 = H at hP hS ⊢
  have hP : va_P (dC, dI) vwCl [(h, .inr (2, [.ref hv, .int 1, .int (-1), .int nu])), (hv, .inl (cI, 23, .inl f))] H := hP
  have hD : va_D A [(h, .inr (2, [.ref hv, .int 1, .int (-1), .int nu])), (hv, .inl (cI, 23, .inl f))] := hD
  try dsimp only at hw
  rw [if_pos (Classical.byContradiction (fun c9 => lf_c_again1_X2_1  c9))] at hw
  refine k_topi (v := f (0 : Int32).toNatClampNeg) hw ?_
  refine lv_iconst (v := (-1)) hx₀ hb dX9_readAgain_28 (by decide +kernel) ?_
  refine lv_icmp_ne (tgt := 37) hx₀ hb dX9_readAgain_29 (by decide) (fun c_3 => ?_) (fun c_3 => ?_)
  · refine lv_iinc (v := 1) (lv' := [(1, .int 1), (0, .ref h)]) hx₀ hb dX9_readAgain_37 hl (k := 0) rfl (by decide +kernel) (by decide) rfl (fun ls hl => ?_)
    refine lv_goto (tgt := 7) hx₀ hb dX9_readAgain_40 (by decide) ?_
    refine lv_iload_n hx₀ hb dX9_readAgain_7 rfl (lv_at hl 0 rfl) ?_
    refine lv_aload_n hx₀ hb dX9_readAgain_8 rfl (lv_at hl 1 rfl) ?_
    refine va_get (D := (dC, dI)) (ci := 2) (v := .int 1) (C := RX2) (T := TX2) (N := 4) hx₀ hb hts inlX2 hown hK hP 0 rfl rfl 1 (by decide) (hts (.fieldLink RX9 25 "BittenStick$Text" "length" "I") wd_147) (fun _ h9 => h9) rfl dX9_readAgain_9 ?_
    refine lv_icmp_ge (tgt := 43) hx₀ hb dX9_readAgain_12 (by decide) (fun _ => ?_) (fun c9 => absurd (by decide +kernel) c9)
    refine lv_aload_n hx₀ hb dX9_readAgain_43 rfl (lv_at hl 1 rfl) ?_
    refine lv_aload_n hx₀ hb dX9_readAgain_44 rfl (lv_at hl 1 rfl) ?_
    refine va_get (D := (dC, dI)) (ci := 2) (v := .int 1) (C := RX2) (T := TX2) (N := 4) hx₀ hb hts inlX2 hown hK hP 0 rfl rfl 1 (by decide) (hts (.fieldLink RX9 25 "BittenStick$Text" "length" "I") wd_147) (fun _ h9 => h9) rfl dX9_readAgain_45 ?_
    have hPc := hP.sub (ws' := [(h, .inr (2, [.ref hv, .int 1, .int (-1), .int nu]))]) [0] rfl
    have hDc := hD.sub (ws' := [(h, .inr (2, [.ref hv, .int 1, .int (-1), .int nu]))]) [0] (by decide) rfl
    have hFc := va_free (wc := [(h, .inr (2, [.ref hv, .int 1, .int (-1), .int nu]))]) hD hS hA [0] rfl
    refine va_calli (va_runU (As := [.int 1]) (rest := []) ⟨hx₀, hb, hml, hown, hts⟩ (c_things1_X2 l dC dI cI cJ cQ H.size h hv 1 (-1) nu) (va_cwA 1 hts (kGU wd_186 wd_182 wd_183 wd_184 wd_185 wd_22) rfl rfl rfl hN.2.1 (by decide +kernel) ⟨Nat.le_of_ble_eq_true rfl, Nat.le_of_ble_eq_true rfl⟩) (k_preV (ci := 2) (q0 := 0) hK hPc hDc hN rfl rfl) rfl rfl hl.1 rfl (lv_room (Nat.le_of_ble_eq_true rfl)) dX9_readAgain_48 ⟨by decide +kernel, by decide +kernel⟩) hS (fun q _ h => hFc q h) hFc (fun r_4 u₀ t₀ H1 locs ht hvm hw hB hz1 hk1 hS => ?_)
    obtain ⟨hP1, hK1, hD1⟩ := hB
    rw [ht] at hP1
    obtain ⟨hP, hD⟩ := va_join (wr := [(hv, .inl (cI, 23, .inl f))]) (w1 := [(h, .inr (2, [.ref hv, .int 1, .int (-1), .int nu]))]) hP hD [0] [1] rfl rfl (by decide) (by decide) hk1 hFc hP1 hD1
    generalize H1 = H at hP hS ⊢
    have hP : va_P (dC, dI) vwCl [(hv, .inl (cI, 23, .inl f)), (h, .inr (2, [.ref hv, .int 1, .int (-1), .int nu]))] H := hP
    have hD : va_D A [(hv, .inl (cI, 23, .inl f)), (h, .inr (2, [.ref hv, .int 1, .int (-1), .int nu]))] := hD
    try dsimp only at hw
    refine k_topi (v := (-1)) hw ?_
    refine lv_istore_n (lv' := [(1, .int (-1)), (0, .ref h)]) hx₀ hb dX9_readAgain_51 rfl hl (by decide) rfl (fun ls hl => ?_)
    refine lv_aload_n hx₀ hb dX9_readAgain_52 rfl (lv_at hl 1 rfl) ?_
    refine va_get (D := (dC, dI)) (ci := 2) (v := .int (-1)) (C := RX2) (T := TX2) (N := 4) hx₀ hb hts inlX2 hown hK hP 1 rfl rfl 2 (by decide) (hts (.fieldLink RX9 9 "BittenStick$Text" "faultAt" "I") wd_60) (fun _ h9 => h9) rfl dX9_readAgain_53 ?_
    refine lv_iconst (v := (-1)) hx₀ hb dX9_readAgain_56 (by decide +kernel) ?_
    refine lv_icmp_ne (tgt := 73) hx₀ hb dX9_readAgain_57 (by decide) (fun c9 => absurd (by decide +kernel) c9) (fun _ => ?_)
    refine lv_iload_n hx₀ hb dX9_readAgain_60 rfl (lv_at hl 0 rfl) ?_
    refine lv_iconst (v := (-1)) hx₀ hb dX9_readAgain_61 (by decide +kernel) ?_
    refine lv_icmp_ne (tgt := 73) hx₀ hb dX9_readAgain_62 (by decide) (fun c9 => absurd (by decide +kernel) c9) (fun _ => ?_)
    refine lv_aload_n hx₀ hb dX9_readAgain_65 rfl (lv_at hl 1 rfl) ?_
    refine lv_aload_n hx₀ hb dX9_readAgain_66 rfl (lv_at hl 1 rfl) ?_
    refine va_get (D := (dC, dI)) (ci := 2) (v := .int 1) (C := RX2) (T := TX2) (N := 4) hx₀ hb hts inlX2 hown hK hP 1 rfl rfl 1 (by decide) (hts (.fieldLink RX9 25 "BittenStick$Text" "length" "I") wd_147) (fun _ h9 => h9) rfl dX9_readAgain_67 ?_
    refine va_put (D := (dC, dI)) (ci := 2) (v := .int 1) (ty := .int) (C := RX2) (T := TX2) (N := 4) hx₀ hb hts inlX2 tyX2 tyX2_ok nmX2 hown hK hP hD hS 1 rfl rfl 2 (by decide) (hts (.fieldLink RX9 9 "BittenStick$Text" "faultAt" "I") wd_60) (fun _ h9 => h9) rfl (by decide +kernel) rfl rfl (Nat.le_of_ble_eq_true rfl) dX9_readAgain_70 (fun H locs hP hD hS => ?_)
    have hP : va_P (dC, dI) vwCl [(hv, .inl (cI, 23, .inl f)), (h, .inr (2, [.ref hv, .int 1, .int 1, .int nu]))] H := hP
    have hD : va_D A [(hv, .inl (cI, 23, .inl f)), (h, .inr (2, [.ref hv, .int 1, .int 1, .int nu]))] := hD
    refine lv_aload_n hx₀ hb dX9_readAgain_73 rfl (lv_at hl 1 rfl) ?_
    refine lv_aload_n hx₀ hb dX9_readAgain_74 rfl (lv_at hl 1 rfl) ?_
    refine va_get (D := (dC, dI)) (ci := 2) (v := .int 1) (C := RX2) (T := TX2) (N := 4) hx₀ hb hts inlX2 hown hK hP 1 rfl rfl 2 (by decide) (hts (.fieldLink RX9 9 "BittenStick$Text" "faultAt" "I") wd_60) (fun _ h9 => h9) rfl dX9_readAgain_75 ?_
    refine lv_iconst (v := (-1)) hx₀ hb dX9_readAgain_78 (by decide +kernel) ?_
    refine lv_icmp_ne (tgt := 86) hx₀ hb dX9_readAgain_79 (by decide) (fun _ => ?_) (fun c9 => absurd c9 (by decide +kernel))
    refine lv_iconst (v := 0) hx₀ hb dX9_readAgain_86 (by decide +kernel) ?_
    refine va_put (D := (dC, dI)) (ci := 2) (v := .int 0) (ty := .int) (C := RX2) (T := TX2) (N := 4) hx₀ hb hts inlX2 tyX2 tyX2_ok nmX2 hown hK hP hD hS 1 rfl rfl 3 (by decide) (hts (.fieldLink RX9 37 "BittenStick$Text" "number" "I") wd_174) (fun _ h9 => h9) rfl (by decide +kernel) rfl rfl (Nat.le_of_ble_eq_true rfl) dX9_readAgain_87 (fun H locs hP hD hS => ?_)
    have hP : va_P (dC, dI) vwCl [(hv, .inl (cI, 23, .inl f)), (h, .inr (2, [.ref hv, .int 1, .int 1, .int 0]))] H := hP
    have hD : va_D A [(hv, .inl (cI, 23, .inl f)), (h, .inr (2, [.ref hv, .int 1, .int 1, .int 0]))] := hD
    have hP9 := hP.sub (ws' := [(h, .inr (2, [.ref hv, .int 1, .int 1, .int 0]))]) [1] rfl
    have hD9 := hD.sub (ws' := [(h, .inr (2, [.ref hv, .int 1, .int 1, .int 0]))]) [1] (by decide) rfl
    exact W.vret hx₀ hb hr (fun t₀ ht hW => ⟨⟨(1, 0), rfl, trivial, by rw [ht]; exact hP9, va_K.moved hW.alike hK, hD9⟩, hS.F ht⟩) hS.2.2 dX9_readAgain_90
  · refine lv_aload_n hx₀ hb dX9_readAgain_32 rfl (lv_at hl 1 rfl) ?_
    refine lv_iload_n hx₀ hb dX9_readAgain_33 rfl (lv_at hl 0 rfl) ?_
    refine va_put (D := (dC, dI)) (ci := 2) (v := .int 0) (ty := .int) (C := RX2) (T := TX2) (N := 4) hx₀ hb hts inlX2 tyX2 tyX2_ok nmX2 hown hK hP hD hS 0 rfl rfl 2 (by decide) (hts (.fieldLink RX9 9 "BittenStick$Text" "faultAt" "I") wd_60) (fun _ h9 => h9) rfl (by decide +kernel) rfl rfl (Nat.le_of_ble_eq_true rfl) dX9_readAgain_34 (fun H locs hP hD hS => ?_)
    have hP : va_P (dC, dI) vwCl [(h, .inr (2, [.ref hv, .int 1, .int 0, .int nu])), (hv, .inl (cI, 23, .inl f))] H := hP
    have hD : va_D A [(h, .inr (2, [.ref hv, .int 1, .int 0, .int nu])), (hv, .inl (cI, 23, .inl f))] := hD
    refine lv_iinc (v := 1) (lv' := [(1, .int 1), (0, .ref h)]) hx₀ hb dX9_readAgain_37 hl (k := 0) rfl (by decide +kernel) (by decide) rfl (fun ls hl => ?_)
    refine lv_goto (tgt := 7) hx₀ hb dX9_readAgain_40 (by decide) ?_
    refine lv_iload_n hx₀ hb dX9_readAgain_7 rfl (lv_at hl 0 rfl) ?_
    refine lv_aload_n hx₀ hb dX9_readAgain_8 rfl (lv_at hl 1 rfl) ?_
    refine va_get (D := (dC, dI)) (ci := 2) (v := .int 1) (C := RX2) (T := TX2) (N := 4) hx₀ hb hts inlX2 hown hK hP 0 rfl rfl 1 (by decide) (hts (.fieldLink RX9 25 "BittenStick$Text" "length" "I") wd_147) (fun _ h9 => h9) rfl dX9_readAgain_9 ?_
    refine lv_icmp_ge (tgt := 43) hx₀ hb dX9_readAgain_12 (by decide) (fun _ => ?_) (fun c9 => absurd (by decide +kernel) c9)
    refine lv_aload_n hx₀ hb dX9_readAgain_43 rfl (lv_at hl 1 rfl) ?_
    refine lv_aload_n hx₀ hb dX9_readAgain_44 rfl (lv_at hl 1 rfl) ?_
    refine va_get (D := (dC, dI)) (ci := 2) (v := .int 1) (C := RX2) (T := TX2) (N := 4) hx₀ hb hts inlX2 hown hK hP 0 rfl rfl 1 (by decide) (hts (.fieldLink RX9 25 "BittenStick$Text" "length" "I") wd_147) (fun _ h9 => h9) rfl dX9_readAgain_45 ?_
    have hPc := hP.sub (ws' := [(h, .inr (2, [.ref hv, .int 1, .int 0, .int nu]))]) [0] rfl
    have hDc := hD.sub (ws' := [(h, .inr (2, [.ref hv, .int 1, .int 0, .int nu]))]) [0] (by decide) rfl
    have hFc := va_free (wc := [(h, .inr (2, [.ref hv, .int 1, .int 0, .int nu]))]) hD hS hA [0] rfl
    refine va_calli (va_runU (As := [.int 1]) (rest := []) ⟨hx₀, hb, hml, hown, hts⟩ (c_things1_X2 l dC dI cI cJ cQ H.size h hv 1 0 nu) (va_cwA 1 hts (kGU wd_186 wd_182 wd_183 wd_184 wd_185 wd_22) rfl rfl rfl hN.2.1 (by decide +kernel) ⟨Nat.le_of_ble_eq_true rfl, Nat.le_of_ble_eq_true rfl⟩) (k_preV (ci := 2) (q0 := 0) hK hPc hDc hN rfl rfl) rfl rfl hl.1 rfl (lv_room (Nat.le_of_ble_eq_true rfl)) dX9_readAgain_48 ⟨by decide +kernel, by decide +kernel⟩) hS (fun q _ h => hFc q h) hFc (fun r_5 u₀ t₀ H1 locs ht hvm hw hB hz1 hk1 hS => ?_)
    obtain ⟨hP1, hK1, hD1⟩ := hB
    rw [ht] at hP1
    obtain ⟨hP, hD⟩ := va_join (wr := [(hv, .inl (cI, 23, .inl f))]) (w1 := [(h, .inr (2, [.ref hv, .int 1, .int 0, .int nu]))]) hP hD [0] [1] rfl rfl (by decide) (by decide) hk1 hFc hP1 hD1
    generalize H1 = H at hP hS ⊢
    have hP : va_P (dC, dI) vwCl [(hv, .inl (cI, 23, .inl f)), (h, .inr (2, [.ref hv, .int 1, .int 0, .int nu]))] H := hP
    have hD : va_D A [(hv, .inl (cI, 23, .inl f)), (h, .inr (2, [.ref hv, .int 1, .int 0, .int nu]))] := hD
    try dsimp only at hw
    refine k_topi (v := (-1)) hw ?_
    refine lv_istore_n (lv' := [(1, .int (-1)), (0, .ref h)]) hx₀ hb dX9_readAgain_51 rfl hl (by decide) rfl (fun ls hl => ?_)
    refine lv_aload_n hx₀ hb dX9_readAgain_52 rfl (lv_at hl 1 rfl) ?_
    refine va_get (D := (dC, dI)) (ci := 2) (v := .int 0) (C := RX2) (T := TX2) (N := 4) hx₀ hb hts inlX2 hown hK hP 1 rfl rfl 2 (by decide) (hts (.fieldLink RX9 9 "BittenStick$Text" "faultAt" "I") wd_60) (fun _ h9 => h9) rfl dX9_readAgain_53 ?_
    refine lv_iconst (v := (-1)) hx₀ hb dX9_readAgain_56 (by decide +kernel) ?_
    refine lv_icmp_ne (tgt := 73) hx₀ hb dX9_readAgain_57 (by decide) (fun _ => ?_) (fun c9 => absurd c9 (by decide +kernel))
    refine lv_aload_n hx₀ hb dX9_readAgain_73 rfl (lv_at hl 1 rfl) ?_
    refine lv_aload_n hx₀ hb dX9_readAgain_74 rfl (lv_at hl 1 rfl) ?_
    refine va_get (D := (dC, dI)) (ci := 2) (v := .int 0) (C := RX2) (T := TX2) (N := 4) hx₀ hb hts inlX2 hown hK hP 1 rfl rfl 2 (by decide) (hts (.fieldLink RX9 9 "BittenStick$Text" "faultAt" "I") wd_60) (fun _ h9 => h9) rfl dX9_readAgain_75 ?_
    refine lv_iconst (v := (-1)) hx₀ hb dX9_readAgain_78 (by decide +kernel) ?_
    refine lv_icmp_ne (tgt := 86) hx₀ hb dX9_readAgain_79 (by decide) (fun _ => ?_) (fun c9 => absurd c9 (by decide +kernel))
    refine lv_iconst (v := 0) hx₀ hb dX9_readAgain_86 (by decide +kernel) ?_
    refine va_put (D := (dC, dI)) (ci := 2) (v := .int 0) (ty := .int) (C := RX2) (T := TX2) (N := 4) hx₀ hb hts inlX2 tyX2 tyX2_ok nmX2 hown hK hP hD hS 1 rfl rfl 3 (by decide) (hts (.fieldLink RX9 37 "BittenStick$Text" "number" "I") wd_174) (fun _ h9 => h9) rfl (by decide +kernel) rfl rfl (Nat.le_of_ble_eq_true rfl) dX9_readAgain_87 (fun H locs hP hD hS => ?_)
    have hP : va_P (dC, dI) vwCl [(hv, .inl (cI, 23, .inl f)), (h, .inr (2, [.ref hv, .int 1, .int 0, .int 0]))] H := hP
    have hD : va_D A [(hv, .inl (cI, 23, .inl f)), (h, .inr (2, [.ref hv, .int 1, .int 0, .int 0]))] := hD
    have hP9 := hP.sub (ws' := [(h, .inr (2, [.ref hv, .int 1, .int 0, .int 0]))]) [1] rfl
    have hD9 := hD.sub (ws' := [(h, .inr (2, [.ref hv, .int 1, .int 0, .int 0]))]) [1] (by decide) rfl
    exact W.vret hx₀ hb hr (fun t₀ ht hW => ⟨⟨(0, 0), rfl, trivial, by rw [ht]; exact hP9, va_K.moved hW.alike hK, hD9⟩, hS.F ht⟩) hS.2.2 dX9_readAgain_90
set_option maxHeartbeats 4000000 in
set_option maxRecDepth 100000 in
theorem c_append0_X4 (l : Launch) (dC : Nat → ClassId) (dI : Nat → Nat → Nat) (cI cJ cQ : ClassId) (sz : Nat) (h : Nat) (b : Int32) (hv : Nat) (fa : Int32) (nu : Int32) (f : Nat → Int32) : Met l yX9_append (kW yX9_append cX9_append 2 none) { frames := 2, cells := 0, slots := 0, locals := 42 } (kPre dC dI cI cJ cQ sz [.ref h, .int b] [(h, .inr (4, [.ref hv, .int 0, .int fa, .int nu])), (hv, .inl (cI, 24, .inl f))]) (va_Qv (fun (_ : Int32 × Int32) => True) (fun (u : Int32 × Int32) t₀ => kB dC dI cI cJ cQ (va_A [(h, .inr (4, [.ref hv, .int 0, .int fa, .int nu])), (hv, .inl (cI, 24, .inl f))] sz) [(h, .inr (4, [.ref hv, .int 1, .int u.1, .int u.2]))] t₀) (va_A [(h, .inr (4, [.ref hv, .int 0, .int fa, .int nu])), (hv, .inl (cI, 24, .inl f))] sz)) 0 0 (va_A [(h, .inr (4, [.ref hv, .int 0, .int fa, .int nu])), (hv, .inl (cI, 24, .inl f))] sz) := by
  refine Met.ofW (cc := cX9_append) (maxL := 2) (ret := none) (by decide) rfl ?_
  intro p₀ e₀ s₀ m₀ args below meth c₀ s₁ B hml hv₀
  obtain ⟨rfl, hsz, hP, hK, hD0, hN⟩ := hv₀
  have hx₀ := B.exec
  have hb := B.bytes
  have hr := B.returns
  have hts := atoms_spec (ws := (kW yX9_append cX9_append 2 none)) B.pre
  have hts := fun w h => hts w (List.mem_cons_of_mem _ h)
  have hown : s₀.vm.findClass RX9 = some m₀.cls := findClass_of_methodNamed B.named
  have hlocks := B.notSynchronized
  subst hsz
  have hD := hD0.self (sz := s₀.heap.size)
  generalize hAe : va_A [(h, .inr (4, [.ref hv, .int 0, .int fa, .int nu])), (hv, .inl (cI, 24, .inl f))] s₀.heap.size = A at hD ⊢
  have hA : ∀ q : Nat, s₀.heap.size ≤ q → A q := fun q h => by rw [← hAe]; exact Or.inr h
  have hS : va_S A s₀.heap s₀.heap [] := va_S.rf
  have hP : va_P (dC, dI) vwCl [(h, .inr (4, [.ref hv, .int 0, .int fa, .int nu])), (hv, .inl (cI, 24, .inl f))] s₀.heap := hP
  have hl := lv_entry ([.ref h, .int b]) (n := 2) (Nat.le_of_ble_eq_true rfl)
  rw [lg_entry_eq]
  generalize (lg_sl ([.ref h, .int b]) ++ List.replicate (2 - (lg_sl ([.ref h, .int b])).length) Slot.unset).toArray = ls at hl ⊢
  have hl : lv_has ls 2 [(0, .ref h), (1, .int b)] := hl
  obtain ⟨H, hH⟩ : ∃ z : Heap, z = s₀.heap := ⟨_, rfl⟩
  rw [← hH] at hP
  have hS : va_S A s₀.heap H [] := by rw [hH]; exact hS
  refine k_heap hH ?_
  have hD : va_D A [(h, .inr (4, [.ref hv, .int 0, .int fa, .int nu])), (hv, .inl (cI, 24, .inl f))] := hD
  obtain ⟨locs, hlo⟩ : ∃ z : List Loc, z = [] := ⟨_, rfl⟩
  rw [← hlo] at hS ⊢
  clear hlo hH hAe hD0
  refine lv_aload_n hx₀ hb dX9_append_0 rfl (lv_at hl 0 rfl) ?_
  refine va_get (D := (dC, dI)) (ci := 4) (v := .int 0) (C := RX4) (T := TX4) (N := 4) hx₀ hb hts inlX4 hown hK hP 0 rfl rfl 1 (by decide) (hts (.fieldLink RX9 25 "BittenStick$Text" "length" "I") wd_147) (fun _ h9 => h9) rfl dX9_append_1 ?_
  refine lv_if_lt (tgt := 51) hx₀ hb dX9_append_4 (by decide) (fun c9 => absurd c9 (by decide +kernel)) (fun _ => ?_)
  refine lv_aload_n hx₀ hb dX9_append_7 rfl (lv_at hl 0 rfl) ?_
  refine va_get (D := (dC, dI)) (ci := 4) (v := .int 0) (C := RX4) (T := TX4) (N := 4) hx₀ hb hts inlX4 hown hK hP 0 rfl rfl 1 (by decide) (hts (.fieldLink RX9 25 "BittenStick$Text" "length" "I") wd_147) (fun _ h9 => h9) rfl dX9_append_8 ?_
  refine lv_aload_n hx₀ hb dX9_append_11 rfl (lv_at hl 0 rfl) ?_
  refine va_get (D := (dC, dI)) (ci := 4) (v := .ref hv) (C := RX4) (T := TX4) (N := 4) hx₀ hb hts inlX4 hown hK hP 0 rfl rfl 0 (by decide) (hts (.fieldLink RX9 21 "BittenStick$Text" "values" "[I") wd_65) (fun _ h9 => h9) rfl dX9_append_12 ?_
  refine va_alen (v := 24) hx₀ hb hK hP 1 0 rfl rfl rfl dX9_append_15 ?_
  refine lv_icmp_ge (tgt := 51) hx₀ hb dX9_append_16 (by decide) (fun c9 => absurd c9 (by decide +kernel)) (fun _ => ?_)
  refine lv_aload_n hx₀ hb dX9_append_19 rfl (lv_at hl 0 rfl) ?_
  refine va_get (D := (dC, dI)) (ci := 4) (v := .ref hv) (C := RX4) (T := TX4) (N := 4) hx₀ hb hts inlX4 hown hK hP 0 rfl rfl 0 (by decide) (hts (.fieldLink RX9 21 "BittenStick$Text" "values" "[I") wd_65) (fun _ h9 => h9) rfl dX9_append_20 ?_
  refine lv_aload_n hx₀ hb dX9_append_23 rfl (lv_at hl 0 rfl) ?_
  refine va_get (D := (dC, dI)) (ci := 4) (v := .int 0) (C := RX4) (T := TX4) (N := 4) hx₀ hb hts inlX4 hown hK hP 0 rfl rfl 1 (by decide) (hts (.fieldLink RX9 25 "BittenStick$Text" "length" "I") wd_147) (fun _ h9 => h9) rfl dX9_append_24 ?_
  refine lv_aload_n hx₀ hb dX9_append_27 rfl (lv_at hl 0 rfl) ?_
  refine lv_aload_n hx₀ hb dX9_append_28 rfl (lv_at hl 0 rfl) ?_
  refine va_get (D := (dC, dI)) (ci := 4) (v := .int 0) (C := RX4) (T := TX4) (N := 4) hx₀ hb hts inlX4 hown hK hP 0 rfl rfl 1 (by decide) (hts (.fieldLink RX9 25 "BittenStick$Text" "length" "I") wd_147) (fun _ h9 => h9) rfl dX9_append_29 ?_
  refine lv_iload_n hx₀ hb dX9_append_32 rfl (lv_at hl 1 rfl) ?_
  have hPc := hP.sub (ws' := [(h, .inr (4, [.ref hv, .int 0, .int fa, .int nu]))]) [0] rfl
  have hDc := hD.sub (ws' := [(h, .inr (4, [.ref hv, .int 0, .int fa, .int nu]))]) [0] (by decide) rfl
  have hFc := va_free (wc := [(h, .inr (4, [.ref hv, .int 0, .int fa, .int nu]))]) hD hS hA [0] rfl
  refine va_calli (va_runU (As := [.int 0, .int b]) (rest := [.int 0, .ref hv]) ⟨hx₀, hb, hml, hown, hts⟩ (c_worth0_X4 l dC dI cI cJ cQ H.size h b hv 0 fa nu) (va_cwA 2 hts (kGU wd_162 wd_155 wd_156 wd_160 wd_161 wd_14) rfl rfl rfl hN.1 (by decide +kernel) ⟨Nat.le_of_ble_eq_true rfl, Nat.le_of_ble_eq_true rfl⟩) (k_preV (ci := 4) (q0 := 0) hK hPc hDc hN rfl rfl) rfl rfl hl.1 rfl (lv_room (Nat.le_of_ble_eq_true rfl)) dX9_append_33 ⟨by decide +kernel, by decide +kernel⟩) hS (fun q _ h => hFc q h) hFc (fun r_1 u₀ t₀ H1 locs ht hvm hw hB hz1 hk1 hS => ?_)
  obtain ⟨hP1, hK1, hD1⟩ := hB
  rw [ht] at hP1
  obtain ⟨hP, hD⟩ := va_join (wr := [(hv, .inl (cI, 24, .inl f))]) (w1 := [(h, .inr (4, [.ref hv, .int 0, .int fa, .int nu]))]) hP hD [0] [1] rfl rfl (by decide) (by decide) hk1 hFc hP1 hD1
  generalize H1 = H at hP hS ⊢
  have hP : va_P (dC, dI) vwCl [(hv, .inl (cI, 24, .inl f)), (h, .inr (4, [.ref hv, .int 0, .int fa, .int nu]))] H := hP
  have hD : va_D A [(hv, .inl (cI, 24, .inl f)), (h, .inr (4, [.ref hv, .int 0, .int fa, .int nu]))] := hD
  try dsimp only at hw
  refine va_iast hx₀ hb hK hP hD hS 0 0 rfl rfl (by unfold vp_in; decide +kernel) dX9_append_36 (fun H locs hP hD hS => ?_)
  have hP : va_P (dC, dI) vwCl [(hv, .inl (cI, 24, .inl (upd f (0 : Int32).toNatClampNeg r_1))), (h, .inr (4, [.ref hv, .int 0, .int fa, .int nu]))] H := hP
  have hD : va_D A [(hv, .inl (cI, 24, .inl (upd f (0 : Int32).toNatClampNeg r_1))), (h, .inr (4, [.ref hv, .int 0, .int fa, .int nu]))] := hD
  refine lv_aload_n hx₀ hb dX9_append_37 rfl (lv_at hl 0 rfl) ?_
  refine lv_dup hx₀ hb dX9_append_38 rfl ?_
  refine va_get (D := (dC, dI)) (ci := 4) (v := .int 0) (C := RX4) (T := TX4) (N := 4) hx₀ hb hts inlX4 hown hK hP 1 rfl rfl 1 (by decide) (hts (.fieldLink RX9 25 "BittenStick$Text" "length" "I") wd_147) (fun _ h9 => h9) rfl dX9_append_39 ?_
  refine lv_iconst (v := 1) hx₀ hb dX9_append_42 (by decide +kernel) ?_
  refine lv_iadd hx₀ hb dX9_append_43 ?_
  refine k_topi (v := 1) (by decide +kernel) ?_
  refine va_put (D := (dC, dI)) (ci := 4) (v := .int 1) (ty := .int) (C := RX4) (T := TX4) (N := 4) hx₀ hb hts inlX4 tyX4 tyX4_ok nmX4 hown hK hP hD hS 1 rfl rfl 1 (by decide) (hts (.fieldLink RX9 25 "BittenStick$Text" "length" "I") wd_147) (fun _ h9 => h9) rfl (by decide +kernel) rfl rfl (Nat.le_of_ble_eq_true rfl) dX9_append_44 (fun H locs hP hD hS => ?_)
  have hP : va_P (dC, dI) vwCl [(hv, .inl (cI, 24, .inl (upd f (0 : Int32).toNatClampNeg r_1))), (h, .inr (4, [.ref hv, .int 1, .int fa, .int nu]))] H := hP
  have hD : va_D A [(hv, .inl (cI, 24, .inl (upd f (0 : Int32).toNatClampNeg r_1))), (h, .inr (4, [.ref hv, .int 1, .int fa, .int nu]))] := hD
  refine lv_aload_n hx₀ hb dX9_append_47 rfl (lv_at hl 0 rfl) ?_
  have hPc := hP.sub (ws' := [(h, .inr (4, [.ref hv, .int 1, .int fa, .int nu])), (hv, .inl (cI, 24, .inl (upd f (0 : Int32).toNatClampNeg r_1)))]) [1, 0] rfl
  have hDc := hD.sub (ws' := [(h, .inr (4, [.ref hv, .int 1, .int fa, .int nu])), (hv, .inl (cI, 24, .inl (upd f (0 : Int32).toNatClampNeg r_1)))]) [1, 0] (by decide) rfl
  have hFc := va_free (wc := [(h, .inr (4, [.ref hv, .int 1, .int fa, .int nu])), (hv, .inl (cI, 24, .inl (upd f (0 : Int32).toNatClampNeg r_1)))]) hD hS hA [1, 0] rfl
  refine va_callv (va_runU (As := []) (rest := []) ⟨hx₀, hb, hml, hown, hts⟩ (c_again1_X4 l dC dI cI cJ cQ H.size h hv fa nu (upd f (0 : Int32).toNatClampNeg r_1)) (va_cwU 0 hts (kGU wd_173 wd_169 wd_170 wd_193 wd_172 wd_57) rfl rfl rfl rfl (by decide +kernel) ⟨Nat.le_of_ble_eq_true rfl, Nat.le_of_ble_eq_true rfl⟩) (k_preV (ci := 4) (q0 := 0) hK hPc hDc hN rfl rfl) rfl rfl hl.1 rfl (lv_room (Nat.le_of_ble_eq_true rfl)) dX9_append_48 ⟨by decide +kernel, by decide +kernel⟩) hS (fun q _ h => hFc q h) hFc (fun u₀ t₀ H1 locs ht hvm hw hB hz1 hk1 hS => ?_)
  obtain ⟨qn_3, qn_4⟩ := u₀
  obtain ⟨hP1, hK1, hD1⟩ := hB
  rw [ht] at hP1
  obtain ⟨hP, hD⟩ := va_join (wr := []) (w1 := [(h, .inr (4, [.ref hv, .int 1, .int qn_3, .int qn_4]))]) hP hD [1, 0] [] rfl rfl (by decide) (by decide) hk1 hFc hP1 hD1
  generalize H1 = H at hP hS ⊢
  have hP : va_P (dC, dI) vwCl [(h, .inr (4, [.ref hv, .int 1, .int qn_3, .int qn_4]))] H := hP
  have hD : va_D A [(h, .inr (4, [.ref hv, .int 1, .int qn_3, .int qn_4]))] := hD
  have hP9 := hP.sub (ws' := [(h, .inr (4, [.ref hv, .int 1, .int qn_3, .int qn_4]))]) [0] rfl
  have hD9 := hD.sub (ws' := [(h, .inr (4, [.ref hv, .int 1, .int qn_3, .int qn_4]))]) [0] (by decide) rfl
  exact W.vret hx₀ hb hr (fun t₀ ht hW => ⟨⟨(qn_3, qn_4), rfl, trivial, by rw [ht]; exact hP9, va_K.moved hW.alike hK, hD9⟩, hS.F ht⟩) hS.2.2 dX9_append_51
set_option maxHeartbeats 4000000 in
set_option maxRecDepth 100000 in
theorem c_shorten0_X4 (l : Launch) (dC : Nat → ClassId) (dI : Nat → Nat → Nat) (cI cJ cQ : ClassId) (sz : Nat) (h : Nat) (hv : Nat) (fa : Int32) (nu : Int32) : Met l yX9_shorten (kW yX9_shorten cX9_shorten 2 none) { frames := 2, cells := 0, slots := 0, locals := 42 } (kPre dC dI cI cJ cQ sz [.ref h, .int 0] [(h, .inr (4, [.ref hv, .int 0, .int fa, .int nu]))]) (va_Qv (fun (_ : Unit) => True) (fun _ t₀ => kB dC dI cI cJ cQ (va_A [(h, .inr (4, [.ref hv, .int 0, .int fa, .int nu]))] sz) [(h, .inr (4, [.ref hv, .int 0, .int (-1), .int 0]))] t₀) (va_A [(h, .inr (4, [.ref hv, .int 0, .int fa, .int nu]))] sz)) 0 0 (va_A [(h, .inr (4, [.ref hv, .int 0, .int fa, .int nu]))] sz) := by
  refine Met.ofW (cc := cX9_shorten) (maxL := 2) (ret := none) (by decide) rfl ?_
  intro p₀ e₀ s₀ m₀ args below meth c₀ s₁ B hml hv₀
  obtain ⟨rfl, hsz, hP, hK, hD0, hN⟩ := hv₀
  have hx₀ := B.exec
  have hb := B.bytes
  have hr := B.returns
  have hts := atoms_spec (ws := (kW yX9_shorten cX9_shorten 2 none)) B.pre
  have hts := fun w h => hts w (List.mem_cons_of_mem _ h)
  have hown : s₀.vm.findClass RX9 = some m₀.cls := findClass_of_methodNamed B.named
  have hlocks := B.notSynchronized
  subst hsz
  have hD := hD0.self (sz := s₀.heap.size)
  generalize hAe : va_A [(h, .inr (4, [.ref hv, .int 0, .int fa, .int nu]))] s₀.heap.size = A at hD ⊢
  have hA : ∀ q : Nat, s₀.heap.size ≤ q → A q := fun q h => by rw [← hAe]; exact Or.inr h
  have hS : va_S A s₀.heap s₀.heap [] := va_S.rf
  have hP : va_P (dC, dI) vwCl [(h, .inr (4, [.ref hv, .int 0, .int fa, .int nu]))] s₀.heap := hP
  have hl := lv_entry ([.ref h, .int 0]) (n := 2) (Nat.le_of_ble_eq_true rfl)
  rw [lg_entry_eq]
  generalize (lg_sl ([.ref h, .int 0]) ++ List.replicate (2 - (lg_sl ([.ref h, .int 0])).length) Slot.unset).toArray = ls at hl ⊢
  have hl : lv_has ls 2 [(0, .ref h), (1, .int 0)] := hl
  obtain ⟨H, hH⟩ : ∃ z : Heap, z = s₀.heap := ⟨_, rfl⟩
  rw [← hH] at hP
  have hS : va_S A s₀.heap H [] := by rw [hH]; exact hS
  refine k_heap hH ?_
  have hD : va_D A [(h, .inr (4, [.ref hv, .int 0, .int fa, .int nu]))] := hD
  obtain ⟨locs, hlo⟩ : ∃ z : List Loc, z = [] := ⟨_, rfl⟩
  rw [← hlo] at hS ⊢
  clear hlo hH hAe hD0
  refine lv_aload_n hx₀ hb dX9_shorten_0 rfl (lv_at hl 0 rfl) ?_
  refine lv_iconst (v := 0) hx₀ hb dX9_shorten_1 (by decide +kernel) ?_
  refine lv_iload_n hx₀ hb dX9_shorten_2 rfl (lv_at hl 1 rfl) ?_
  refine lv_aload_n hx₀ hb dX9_shorten_3 rfl (lv_at hl 0 rfl) ?_
  refine va_get (D := (dC, dI)) (ci := 4) (v := .int 0) (C := RX4) (T := TX4) (N := 4) hx₀ hb hts inlX4 hown hK hP 0 rfl rfl 1 (by decide) (hts (.fieldLink RX9 25 "BittenStick$Text" "length" "I") wd_147) (fun _ h9 => h9) rfl dX9_shorten_4 ?_
  refine va_mmin hx₀ hb (by rw [hml]; exact hl.1.symm) hown (hts (.methodLink RX9 34 Lib.Math.min.name) wd_218) (hts (.static Lib.Math.min.name) wd_219) (hts (.initialized "java/lang/Math") wd_63) (hts (.code Lib.Math.min.name Lib.Math.min.code 2 (some .int)) wd_220) (by decide) (Nat.le_of_ble_eq_true rfl) (by decide) (by decide) dX9_shorten_7 ?_
  refine k_topi (v := 0) (by decide +kernel) ?_
  refine va_mmax hx₀ hb (by rw [hml]; exact hl.1.symm) hown (hts (.methodLink RX9 15 Lib.Math.max.name) wd_61) (hts (.static Lib.Math.max.name) wd_62) (hts (.initialized "java/lang/Math") wd_63) (hts (.code Lib.Math.max.name Lib.Math.max.code 2 (some .int)) wd_64) (by decide) (Nat.le_of_ble_eq_true rfl) (by decide) (by decide) dX9_shorten_10 ?_
  refine k_topi (v := 0) (by decide +kernel) ?_
  refine va_put (D := (dC, dI)) (ci := 4) (v := .int 0) (ty := .int) (C := RX4) (T := TX4) (N := 4) hx₀ hb hts inlX4 tyX4 tyX4_ok nmX4 hown hK hP hD hS 0 rfl rfl 1 (by decide) (hts (.fieldLink RX9 25 "BittenStick$Text" "length" "I") wd_147) (fun _ h9 => h9) rfl (by decide +kernel) rfl rfl (Nat.le_of_ble_eq_true rfl) dX9_shorten_13 (fun H locs hP hD hS => ?_)
  have hP : va_P (dC, dI) vwCl [(h, .inr (4, [.ref hv, .int 0, .int fa, .int nu]))] H := hP
  have hD : va_D A [(h, .inr (4, [.ref hv, .int 0, .int fa, .int nu]))] := hD
  refine lv_aload_n hx₀ hb dX9_shorten_16 rfl (lv_at hl 0 rfl) ?_
  have hPc := hP.sub (ws' := [(h, .inr (4, [.ref hv, .int 0, .int fa, .int nu]))]) [0] rfl
  have hDc := hD.sub (ws' := [(h, .inr (4, [.ref hv, .int 0, .int fa, .int nu]))]) [0] (by decide) rfl
  have hFc := va_free (wc := [(h, .inr (4, [.ref hv, .int 0, .int fa, .int nu]))]) hD hS hA [0] rfl
  refine va_callv (va_runU (As := []) (rest := []) ⟨hx₀, hb, hml, hown, hts⟩ (c_again0_X4 l dC dI cI cJ cQ H.size h hv fa nu) (va_cwU 0 hts (kGU wd_173 wd_169 wd_170 wd_193 wd_172 wd_57) rfl rfl rfl rfl (by decide +kernel) ⟨Nat.le_of_ble_eq_true rfl, Nat.le_of_ble_eq_true rfl⟩) (k_preV (ci := 4) (q0 := 0) hK hPc hDc hN rfl rfl) rfl rfl hl.1 rfl (lv_room (Nat.le_of_ble_eq_true rfl)) dX9_shorten_17 ⟨by decide +kernel, by decide +kernel⟩) hS (fun q _ h => hFc q h) hFc (fun u₀ t₀ H1 locs ht hvm hw hB hz1 hk1 hS => ?_)
  obtain ⟨hP1, hK1, hD1⟩ := hB
  rw [ht] at hP1
  obtain ⟨hP, hD⟩ := va_join (wr := []) (w1 := [(h, .inr (4, [.ref hv, .int 0, .int (-1), .int 0]))]) hP hD [0] [] rfl rfl (by decide) (by decide) hk1 hFc hP1 hD1
  generalize H1 = H at hP hS ⊢
  have hP : va_P (dC, dI) vwCl [(h, .inr (4, [.ref hv, .int 0, .int (-1), .int 0]))] H := hP
  have hD : va_D A [(h, .inr (4, [.ref hv, .int 0, .int (-1), .int 0]))] := hD
  have hP9 := hP.sub (ws' := [(h, .inr (4, [.ref hv, .int 0, .int (-1), .int 0]))]) [0] rfl
  have hD9 := hD.sub (ws' := [(h, .inr (4, [.ref hv, .int 0, .int (-1), .int 0]))]) [0] (by decide) rfl
  exact W.vret hx₀ hb hr (fun t₀ ht hW => ⟨⟨(), rfl, trivial, by rw [ht]; exact hP9, va_K.moved hW.alike hK, hD9⟩, hS.F ht⟩) hS.2.2 dX9_shorten_20
set_option maxHeartbeats 4000000 in
set_option maxRecDepth 100000 in
theorem c_append0_X7 (l : Launch) (dC : Nat → ClassId) (dI : Nat → Nat → Nat) (cI cJ cQ : ClassId) (sz : Nat) (h : Nat) (b : Int32) (hv : Nat) (fa : Int32) (nu : Int32) (f : Nat → Int32) : Met l yX9_append (kW yX9_append cX9_append 2 none) { frames := 2, cells := 0, slots := 0, locals := 42 } (kPre dC dI cI cJ cQ sz [.ref h, .int b] [(h, .inr (7, [.ref hv, .int 0, .int fa, .int nu])), (hv, .inl (cI, 39, .inl f))]) (va_Qv (fun (_ : Int32 × Int32) => True) (fun (u : Int32 × Int32) t₀ => kB dC dI cI cJ cQ (va_A [(h, .inr (7, [.ref hv, .int 0, .int fa, .int nu])), (hv, .inl (cI, 39, .inl f))] sz) [(h, .inr (7, [.ref hv, .int 1, .int u.1, .int u.2]))] t₀) (va_A [(h, .inr (7, [.ref hv, .int 0, .int fa, .int nu])), (hv, .inl (cI, 39, .inl f))] sz)) 0 0 (va_A [(h, .inr (7, [.ref hv, .int 0, .int fa, .int nu])), (hv, .inl (cI, 39, .inl f))] sz) := by
  refine Met.ofW (cc := cX9_append) (maxL := 2) (ret := none) (by decide) rfl ?_
  intro p₀ e₀ s₀ m₀ args below meth c₀ s₁ B hml hv₀
  obtain ⟨rfl, hsz, hP, hK, hD0, hN⟩ := hv₀
  have hx₀ := B.exec
  have hb := B.bytes
  have hr := B.returns
  have hts := atoms_spec (ws := (kW yX9_append cX9_append 2 none)) B.pre
  have hts := fun w h => hts w (List.mem_cons_of_mem _ h)
  have hown : s₀.vm.findClass RX9 = some m₀.cls := findClass_of_methodNamed B.named
  have hlocks := B.notSynchronized
  subst hsz
  have hD := hD0.self (sz := s₀.heap.size)
  generalize hAe : va_A [(h, .inr (7, [.ref hv, .int 0, .int fa, .int nu])), (hv, .inl (cI, 39, .inl f))] s₀.heap.size = A at hD ⊢
  have hA : ∀ q : Nat, s₀.heap.size ≤ q → A q := fun q h => by rw [← hAe]; exact Or.inr h
  have hS : va_S A s₀.heap s₀.heap [] := va_S.rf
  have hP : va_P (dC, dI) vwCl [(h, .inr (7, [.ref hv, .int 0, .int fa, .int nu])), (hv, .inl (cI, 39, .inl f))] s₀.heap := hP
  have hl := lv_entry ([.ref h, .int b]) (n := 2) (Nat.le_of_ble_eq_true rfl)
  rw [lg_entry_eq]
  generalize (lg_sl ([.ref h, .int b]) ++ List.replicate (2 - (lg_sl ([.ref h, .int b])).length) Slot.unset).toArray = ls at hl ⊢
  have hl : lv_has ls 2 [(0, .ref h), (1, .int b)] := hl
  obtain ⟨H, hH⟩ : ∃ z : Heap, z = s₀.heap := ⟨_, rfl⟩
  rw [← hH] at hP
  have hS : va_S A s₀.heap H [] := by rw [hH]; exact hS
  refine k_heap hH ?_
  have hD : va_D A [(h, .inr (7, [.ref hv, .int 0, .int fa, .int nu])), (hv, .inl (cI, 39, .inl f))] := hD
  obtain ⟨locs, hlo⟩ : ∃ z : List Loc, z = [] := ⟨_, rfl⟩
  rw [← hlo] at hS ⊢
  clear hlo hH hAe hD0
  refine lv_aload_n hx₀ hb dX9_append_0 rfl (lv_at hl 0 rfl) ?_
  refine va_get (D := (dC, dI)) (ci := 7) (v := .int 0) (C := RX7) (T := TX7) (N := 4) hx₀ hb hts inlX7 hown hK hP 0 rfl rfl 1 (by decide) (hts (.fieldLink RX9 25 "BittenStick$Text" "length" "I") wd_147) (fun _ h9 => h9) rfl dX9_append_1 ?_
  refine lv_if_lt (tgt := 51) hx₀ hb dX9_append_4 (by decide) (fun c9 => absurd c9 (by decide +kernel)) (fun _ => ?_)
  refine lv_aload_n hx₀ hb dX9_append_7 rfl (lv_at hl 0 rfl) ?_
  refine va_get (D := (dC, dI)) (ci := 7) (v := .int 0) (C := RX7) (T := TX7) (N := 4) hx₀ hb hts inlX7 hown hK hP 0 rfl rfl 1 (by decide) (hts (.fieldLink RX9 25 "BittenStick$Text" "length" "I") wd_147) (fun _ h9 => h9) rfl dX9_append_8 ?_
  refine lv_aload_n hx₀ hb dX9_append_11 rfl (lv_at hl 0 rfl) ?_
  refine va_get (D := (dC, dI)) (ci := 7) (v := .ref hv) (C := RX7) (T := TX7) (N := 4) hx₀ hb hts inlX7 hown hK hP 0 rfl rfl 0 (by decide) (hts (.fieldLink RX9 21 "BittenStick$Text" "values" "[I") wd_65) (fun _ h9 => h9) rfl dX9_append_12 ?_
  refine va_alen (v := 39) hx₀ hb hK hP 1 0 rfl rfl rfl dX9_append_15 ?_
  refine lv_icmp_ge (tgt := 51) hx₀ hb dX9_append_16 (by decide) (fun c9 => absurd c9 (by decide +kernel)) (fun _ => ?_)
  refine lv_aload_n hx₀ hb dX9_append_19 rfl (lv_at hl 0 rfl) ?_
  refine va_get (D := (dC, dI)) (ci := 7) (v := .ref hv) (C := RX7) (T := TX7) (N := 4) hx₀ hb hts inlX7 hown hK hP 0 rfl rfl 0 (by decide) (hts (.fieldLink RX9 21 "BittenStick$Text" "values" "[I") wd_65) (fun _ h9 => h9) rfl dX9_append_20 ?_
  refine lv_aload_n hx₀ hb dX9_append_23 rfl (lv_at hl 0 rfl) ?_
  refine va_get (D := (dC, dI)) (ci := 7) (v := .int 0) (C := RX7) (T := TX7) (N := 4) hx₀ hb hts inlX7 hown hK hP 0 rfl rfl 1 (by decide) (hts (.fieldLink RX9 25 "BittenStick$Text" "length" "I") wd_147) (fun _ h9 => h9) rfl dX9_append_24 ?_
  refine lv_aload_n hx₀ hb dX9_append_27 rfl (lv_at hl 0 rfl) ?_
  refine lv_aload_n hx₀ hb dX9_append_28 rfl (lv_at hl 0 rfl) ?_
  refine va_get (D := (dC, dI)) (ci := 7) (v := .int 0) (C := RX7) (T := TX7) (N := 4) hx₀ hb hts inlX7 hown hK hP 0 rfl rfl 1 (by decide) (hts (.fieldLink RX9 25 "BittenStick$Text" "length" "I") wd_147) (fun _ h9 => h9) rfl dX9_append_29 ?_
  refine lv_iload_n hx₀ hb dX9_append_32 rfl (lv_at hl 1 rfl) ?_
  have hPc := hP.sub (ws' := [(h, .inr (7, [.ref hv, .int 0, .int fa, .int nu]))]) [0] rfl
  have hDc := hD.sub (ws' := [(h, .inr (7, [.ref hv, .int 0, .int fa, .int nu]))]) [0] (by decide) rfl
  have hFc := va_free (wc := [(h, .inr (7, [.ref hv, .int 0, .int fa, .int nu]))]) hD hS hA [0] rfl
  refine va_calli (va_runU (As := [.int 0, .int b]) (rest := [.int 0, .ref hv]) ⟨hx₀, hb, hml, hown, hts⟩ (c_worth0_X7 l dC dI cI cJ cQ H.size h b hv 0 fa nu) (va_cwA 2 hts (kGU wd_165 wd_155 wd_156 wd_163 wd_164 wd_18) rfl rfl rfl hN.1 (by decide +kernel) ⟨Nat.le_of_ble_eq_true rfl, Nat.le_of_ble_eq_true rfl⟩) (k_preV (ci := 7) (q0 := 0) hK hPc hDc hN rfl rfl) rfl rfl hl.1 rfl (lv_room (Nat.le_of_ble_eq_true rfl)) dX9_append_33 ⟨by decide +kernel, by decide +kernel⟩) hS (fun q _ h => hFc q h) hFc (fun r_1 u₀ t₀ H1 locs ht hvm hw hB hz1 hk1 hS => ?_)
  obtain ⟨hP1, hK1, hD1⟩ := hB
  rw [ht] at hP1
  obtain ⟨hP, hD⟩ := va_join (wr := [(hv, .inl (cI, 39, .inl f))]) (w1 := [(h, .inr (7, [.ref hv, .int 0, .int fa, .int nu]))]) hP hD [0] [1] rfl rfl (by decide) (by decide) hk1 hFc hP1 hD1
  generalize H1 = H at hP hS ⊢
  have hP : va_P (dC, dI) vwCl [(hv, .inl (cI, 39, .inl f)), (h, .inr (7, [.ref hv, .int 0, .int fa, .int nu]))] H := hP
  have hD : va_D A [(hv, .inl (cI, 39, .inl f)), (h, .inr (7, [.ref hv, .int 0, .int fa, .int nu]))] := hD
  try dsimp only at hw
  refine va_iast hx₀ hb hK hP hD hS 0 0 rfl rfl (by unfold vp_in; decide +kernel) dX9_append_36 (fun H locs hP hD hS => ?_)
  have hP : va_P (dC, dI) vwCl [(hv, .inl (cI, 39, .inl (upd f (0 : Int32).toNatClampNeg r_1))), (h, .inr (7, [.ref hv, .int 0, .int fa, .int nu]))] H := hP
  have hD : va_D A [(hv, .inl (cI, 39, .inl (upd f (0 : Int32).toNatClampNeg r_1))), (h, .inr (7, [.ref hv, .int 0, .int fa, .int nu]))] := hD
  refine lv_aload_n hx₀ hb dX9_append_37 rfl (lv_at hl 0 rfl) ?_
  refine lv_dup hx₀ hb dX9_append_38 rfl ?_
  refine va_get (D := (dC, dI)) (ci := 7) (v := .int 0) (C := RX7) (T := TX7) (N := 4) hx₀ hb hts inlX7 hown hK hP 1 rfl rfl 1 (by decide) (hts (.fieldLink RX9 25 "BittenStick$Text" "length" "I") wd_147) (fun _ h9 => h9) rfl dX9_append_39 ?_
  refine lv_iconst (v := 1) hx₀ hb dX9_append_42 (by decide +kernel) ?_
  refine lv_iadd hx₀ hb dX9_append_43 ?_
  refine k_topi (v := 1) (by decide +kernel) ?_
  refine va_put (D := (dC, dI)) (ci := 7) (v := .int 1) (ty := .int) (C := RX7) (T := TX7) (N := 4) hx₀ hb hts inlX7 tyX7 tyX7_ok nmX7 hown hK hP hD hS 1 rfl rfl 1 (by decide) (hts (.fieldLink RX9 25 "BittenStick$Text" "length" "I") wd_147) (fun _ h9 => h9) rfl (by decide +kernel) rfl rfl (Nat.le_of_ble_eq_true rfl) dX9_append_44 (fun H locs hP hD hS => ?_)
  have hP : va_P (dC, dI) vwCl [(hv, .inl (cI, 39, .inl (upd f (0 : Int32).toNatClampNeg r_1))), (h, .inr (7, [.ref hv, .int 1, .int fa, .int nu]))] H := hP
  have hD : va_D A [(hv, .inl (cI, 39, .inl (upd f (0 : Int32).toNatClampNeg r_1))), (h, .inr (7, [.ref hv, .int 1, .int fa, .int nu]))] := hD
  refine lv_aload_n hx₀ hb dX9_append_47 rfl (lv_at hl 0 rfl) ?_
  have hPc := hP.sub (ws' := [(h, .inr (7, [.ref hv, .int 1, .int fa, .int nu])), (hv, .inl (cI, 39, .inl (upd f (0 : Int32).toNatClampNeg r_1)))]) [1, 0] rfl
  have hDc := hD.sub (ws' := [(h, .inr (7, [.ref hv, .int 1, .int fa, .int nu])), (hv, .inl (cI, 39, .inl (upd f (0 : Int32).toNatClampNeg r_1)))]) [1, 0] (by decide) rfl
  have hFc := va_free (wc := [(h, .inr (7, [.ref hv, .int 1, .int fa, .int nu])), (hv, .inl (cI, 39, .inl (upd f (0 : Int32).toNatClampNeg r_1)))]) hD hS hA [1, 0] rfl
  refine va_callv (va_runU (As := []) (rest := []) ⟨hx₀, hb, hml, hown, hts⟩ (c_again1_X7 l dC dI cI cJ cQ H.size h hv fa nu (upd f (0 : Int32).toNatClampNeg r_1)) (va_cwU 0 hts (kGU wd_173 wd_169 wd_170 wd_194 wd_172 wd_57) rfl rfl rfl rfl (by decide +kernel) ⟨Nat.le_of_ble_eq_true rfl, Nat.le_of_ble_eq_true rfl⟩) (k_preV (ci := 7) (q0 := 0) hK hPc hDc hN rfl rfl) rfl rfl hl.1 rfl (lv_room (Nat.le_of_ble_eq_true rfl)) dX9_append_48 ⟨by decide +kernel, by decide +kernel⟩) hS (fun q _ h => hFc q h) hFc (fun u₀ t₀ H1 locs ht hvm hw hB hz1 hk1 hS => ?_)
  obtain ⟨qn_3, qn_4⟩ := u₀
  obtain ⟨hP1, hK1, hD1⟩ := hB
  rw [ht] at hP1
  obtain ⟨hP, hD⟩ := va_join (wr := []) (w1 := [(h, .inr (7, [.ref hv, .int 1, .int qn_3, .int qn_4]))]) hP hD [1, 0] [] rfl rfl (by decide) (by decide) hk1 hFc hP1 hD1
  generalize H1 = H at hP hS ⊢
  have hP : va_P (dC, dI) vwCl [(h, .inr (7, [.ref hv, .int 1, .int qn_3, .int qn_4]))] H := hP
  have hD : va_D A [(h, .inr (7, [.ref hv, .int 1, .int qn_3, .int qn_4]))] := hD
  have hP9 := hP.sub (ws' := [(h, .inr (7, [.ref hv, .int 1, .int qn_3, .int qn_4]))]) [0] rfl
  have hD9 := hD.sub (ws' := [(h, .inr (7, [.ref hv, .int 1, .int qn_3, .int qn_4]))]) [0] (by decide) rfl
  exact W.vret hx₀ hb hr (fun t₀ ht hW => ⟨⟨(qn_3, qn_4), rfl, trivial, by rw [ht]; exact hP9, va_K.moved hW.alike hK, hD9⟩, hS.F ht⟩) hS.2.2 dX9_append_51
set_option maxHeartbeats 4000000 in
set_option maxRecDepth 100000 in
theorem c_shorten0_X7 (l : Launch) (dC : Nat → ClassId) (dI : Nat → Nat → Nat) (cI cJ cQ : ClassId) (sz : Nat) (h : Nat) (hv : Nat) (fa : Int32) (nu : Int32) : Met l yX9_shorten (kW yX9_shorten cX9_shorten 2 none) { frames := 2, cells := 0, slots := 0, locals := 42 } (kPre dC dI cI cJ cQ sz [.ref h, .int 0] [(h, .inr (7, [.ref hv, .int 0, .int fa, .int nu]))]) (va_Qv (fun (_ : Unit) => True) (fun _ t₀ => kB dC dI cI cJ cQ (va_A [(h, .inr (7, [.ref hv, .int 0, .int fa, .int nu]))] sz) [(h, .inr (7, [.ref hv, .int 0, .int (-1), .int 0]))] t₀) (va_A [(h, .inr (7, [.ref hv, .int 0, .int fa, .int nu]))] sz)) 0 0 (va_A [(h, .inr (7, [.ref hv, .int 0, .int fa, .int nu]))] sz) := by
  refine Met.ofW (cc := cX9_shorten) (maxL := 2) (ret := none) (by decide) rfl ?_
  intro p₀ e₀ s₀ m₀ args below meth c₀ s₁ B hml hv₀
  obtain ⟨rfl, hsz, hP, hK, hD0, hN⟩ := hv₀
  have hx₀ := B.exec
  have hb := B.bytes
  have hr := B.returns
  have hts := atoms_spec (ws := (kW yX9_shorten cX9_shorten 2 none)) B.pre
  have hts := fun w h => hts w (List.mem_cons_of_mem _ h)
  have hown : s₀.vm.findClass RX9 = some m₀.cls := findClass_of_methodNamed B.named
  have hlocks := B.notSynchronized
  subst hsz
  have hD := hD0.self (sz := s₀.heap.size)
  generalize hAe : va_A [(h, .inr (7, [.ref hv, .int 0, .int fa, .int nu]))] s₀.heap.size = A at hD ⊢
  have hA : ∀ q : Nat, s₀.heap.size ≤ q → A q := fun q h => by rw [← hAe]; exact Or.inr h
  have hS : va_S A s₀.heap s₀.heap [] := va_S.rf
  have hP : va_P (dC, dI) vwCl [(h, .inr (7, [.ref hv, .int 0, .int fa, .int nu]))] s₀.heap := hP
  have hl := lv_entry ([.ref h, .int 0]) (n := 2) (Nat.le_of_ble_eq_true rfl)
  rw [lg_entry_eq]
  generalize (lg_sl ([.ref h, .int 0]) ++ List.replicate (2 - (lg_sl ([.ref h, .int 0])).length) Slot.unset).toArray = ls at hl ⊢
  have hl : lv_has ls 2 [(0, .ref h), (1, .int 0)] := hl
  obtain ⟨H, hH⟩ : ∃ z : Heap, z = s₀.heap := ⟨_, rfl⟩
  rw [← hH] at hP
  have hS : va_S A s₀.heap H [] := by rw [hH]; exact hS
  refine k_heap hH ?_
  have hD : va_D A [(h, .inr (7, [.ref hv, .int 0, .int fa, .int nu]))] := hD
  obtain ⟨locs, hlo⟩ : ∃ z : List Loc, z = [] := ⟨_, rfl⟩
  rw [← hlo] at hS ⊢
  clear hlo hH hAe hD0
  refine lv_aload_n hx₀ hb dX9_shorten_0 rfl (lv_at hl 0 rfl) ?_
  refine lv_iconst (v := 0) hx₀ hb dX9_shorten_1 (by decide +kernel) ?_
  refine lv_iload_n hx₀ hb dX9_shorten_2 rfl (lv_at hl 1 rfl) ?_
  refine lv_aload_n hx₀ hb dX9_shorten_3 rfl (lv_at hl 0 rfl) ?_
  refine va_get (D := (dC, dI)) (ci := 7) (v := .int 0) (C := RX7) (T := TX7) (N := 4) hx₀ hb hts inlX7 hown hK hP 0 rfl rfl 1 (by decide) (hts (.fieldLink RX9 25 "BittenStick$Text" "length" "I") wd_147) (fun _ h9 => h9) rfl dX9_shorten_4 ?_
  refine va_mmin hx₀ hb (by rw [hml]; exact hl.1.symm) hown (hts (.methodLink RX9 34 Lib.Math.min.name) wd_218) (hts (.static Lib.Math.min.name) wd_219) (hts (.initialized "java/lang/Math") wd_63) (hts (.code Lib.Math.min.name Lib.Math.min.code 2 (some .int)) wd_220) (by decide) (Nat.le_of_ble_eq_true rfl) (by decide) (by decide) dX9_shorten_7 ?_
  refine k_topi (v := 0) (by decide +kernel) ?_
  refine va_mmax hx₀ hb (by rw [hml]; exact hl.1.symm) hown (hts (.methodLink RX9 15 Lib.Math.max.name) wd_61) (hts (.static Lib.Math.max.name) wd_62) (hts (.initialized "java/lang/Math") wd_63) (hts (.code Lib.Math.max.name Lib.Math.max.code 2 (some .int)) wd_64) (by decide) (Nat.le_of_ble_eq_true rfl) (by decide) (by decide) dX9_shorten_10 ?_
  refine k_topi (v := 0) (by decide +kernel) ?_
  refine va_put (D := (dC, dI)) (ci := 7) (v := .int 0) (ty := .int) (C := RX7) (T := TX7) (N := 4) hx₀ hb hts inlX7 tyX7 tyX7_ok nmX7 hown hK hP hD hS 0 rfl rfl 1 (by decide) (hts (.fieldLink RX9 25 "BittenStick$Text" "length" "I") wd_147) (fun _ h9 => h9) rfl (by decide +kernel) rfl rfl (Nat.le_of_ble_eq_true rfl) dX9_shorten_13 (fun H locs hP hD hS => ?_)
  have hP : va_P (dC, dI) vwCl [(h, .inr (7, [.ref hv, .int 0, .int fa, .int nu]))] H := hP
  have hD : va_D A [(h, .inr (7, [.ref hv, .int 0, .int fa, .int nu]))] := hD
  refine lv_aload_n hx₀ hb dX9_shorten_16 rfl (lv_at hl 0 rfl) ?_
  have hPc := hP.sub (ws' := [(h, .inr (7, [.ref hv, .int 0, .int fa, .int nu]))]) [0] rfl
  have hDc := hD.sub (ws' := [(h, .inr (7, [.ref hv, .int 0, .int fa, .int nu]))]) [0] (by decide) rfl
  have hFc := va_free (wc := [(h, .inr (7, [.ref hv, .int 0, .int fa, .int nu]))]) hD hS hA [0] rfl
  refine va_callv (va_runU (As := []) (rest := []) ⟨hx₀, hb, hml, hown, hts⟩ (c_again0_X7 l dC dI cI cJ cQ H.size h hv fa nu) (va_cwU 0 hts (kGU wd_173 wd_169 wd_170 wd_194 wd_172 wd_57) rfl rfl rfl rfl (by decide +kernel) ⟨Nat.le_of_ble_eq_true rfl, Nat.le_of_ble_eq_true rfl⟩) (k_preV (ci := 7) (q0 := 0) hK hPc hDc hN rfl rfl) rfl rfl hl.1 rfl (lv_room (Nat.le_of_ble_eq_true rfl)) dX9_shorten_17 ⟨by decide +kernel, by decide +kernel⟩) hS (fun q _ h => hFc q h) hFc (fun u₀ t₀ H1 locs ht hvm hw hB hz1 hk1 hS => ?_)
  obtain ⟨hP1, hK1, hD1⟩ := hB
  rw [ht] at hP1
  obtain ⟨hP, hD⟩ := va_join (wr := []) (w1 := [(h, .inr (7, [.ref hv, .int 0, .int (-1), .int 0]))]) hP hD [0] [] rfl rfl (by decide) (by decide) hk1 hFc hP1 hD1
  generalize H1 = H at hP hS ⊢
  have hP : va_P (dC, dI) vwCl [(h, .inr (7, [.ref hv, .int 0, .int (-1), .int 0]))] H := hP
  have hD : va_D A [(h, .inr (7, [.ref hv, .int 0, .int (-1), .int 0]))] := hD
  have hP9 := hP.sub (ws' := [(h, .inr (7, [.ref hv, .int 0, .int (-1), .int 0]))]) [0] rfl
  have hD9 := hD.sub (ws' := [(h, .inr (7, [.ref hv, .int 0, .int (-1), .int 0]))]) [0] (by decide) rfl
  exact W.vret hx₀ hb hr (fun t₀ ht hW => ⟨⟨(), rfl, trivial, by rw [ht]; exact hP9, va_K.moved hW.alike hK, hD9⟩, hS.F ht⟩) hS.2.2 dX9_shorten_20
set_option maxHeartbeats 4000000 in
set_option maxRecDepth 100000 in
theorem c_append0_X2 (l : Launch) (dC : Nat → ClassId) (dI : Nat → Nat → Nat) (cI cJ cQ : ClassId) (sz : Nat) (h : Nat) (b : Int32) (hv : Nat) (fa : Int32) (nu : Int32) (f : Nat → Int32) : Met l yX9_append (kW yX9_append cX9_append 2 none) { frames := 2, cells := 0, slots := 0, locals := 42 } (kPre dC dI cI cJ cQ sz [.ref h, .int b] [(h, .inr (2, [.ref hv, .int 0, .int fa, .int nu])), (hv, .inl (cI, 23, .inl f))]) (va_Qv (fun (_ : Int32 × Int32) => True) (fun (u : Int32 × Int32) t₀ => kB dC dI cI cJ cQ (va_A [(h, .inr (2, [.ref hv, .int 0, .int fa, .int nu])), (hv, .inl (cI, 23, .inl f))] sz) [(h, .inr (2, [.ref hv, .int 1, .int u.1, .int u.2]))] t₀) (va_A [(h, .inr (2, [.ref hv, .int 0, .int fa, .int nu])), (hv, .inl (cI, 23, .inl f))] sz)) 0 0 (va_A [(h, .inr (2, [.ref hv, .int 0, .int fa, .int nu])), (hv, .inl (cI, 23, .inl f))] sz) := by
  refine Met.ofW (cc := cX9_append) (maxL := 2) (ret := none) (by decide) rfl ?_
  intro p₀ e₀ s₀ m₀ args below meth c₀ s₁ B hml hv₀
  obtain ⟨rfl, hsz, hP, hK, hD0, hN⟩ := hv₀
  have hx₀ := B.exec
  have hb := B.bytes
  have hr := B.returns
  have hts := atoms_spec (ws := (kW yX9_append cX9_append 2 none)) B.pre
  have hts := fun w h => hts w (List.mem_cons_of_mem _ h)
  have hown : s₀.vm.findClass RX9 = some m₀.cls := findClass_of_methodNamed B.named
  have hlocks := B.notSynchronized
  subst hsz
  have hD := hD0.self (sz := s₀.heap.size)
  generalize hAe : va_A [(h, .inr (2, [.ref hv, .int 0, .int fa, .int nu])), (hv, .inl (cI, 23, .inl f))] s₀.heap.size = A at hD ⊢
  have hA : ∀ q : Nat, s₀.heap.size ≤ q → A q := fun q h => by rw [← hAe]; exact Or.inr h
  have hS : va_S A s₀.heap s₀.heap [] := va_S.rf
  have hP : va_P (dC, dI) vwCl [(h, .inr (2, [.ref hv, .int 0, .int fa, .int nu])), (hv, .inl (cI, 23, .inl f))] s₀.heap := hP
  have hl := lv_entry ([.ref h, .int b]) (n := 2) (Nat.le_of_ble_eq_true rfl)
  rw [lg_entry_eq]
  generalize (lg_sl ([.ref h, .int b]) ++ List.replicate (2 - (lg_sl ([.ref h, .int b])).length) Slot.unset).toArray = ls at hl ⊢
  have hl : lv_has ls 2 [(0, .ref h), (1, .int b)] := hl
  obtain ⟨H, hH⟩ : ∃ z : Heap, z = s₀.heap := ⟨_, rfl⟩
  rw [← hH] at hP
  have hS : va_S A s₀.heap H [] := by rw [hH]; exact hS
  refine k_heap hH ?_
  have hD : va_D A [(h, .inr (2, [.ref hv, .int 0, .int fa, .int nu])), (hv, .inl (cI, 23, .inl f))] := hD
  obtain ⟨locs, hlo⟩ : ∃ z : List Loc, z = [] := ⟨_, rfl⟩
  rw [← hlo] at hS ⊢
  clear hlo hH hAe hD0
  refine lv_aload_n hx₀ hb dX9_append_0 rfl (lv_at hl 0 rfl) ?_
  refine va_get (D := (dC, dI)) (ci := 2) (v := .int 0) (C := RX2) (T := TX2) (N := 4) hx₀ hb hts inlX2 hown hK hP 0 rfl rfl 1 (by decide) (hts (.fieldLink RX9 25 "BittenStick$Text" "length" "I") wd_147) (fun _ h9 => h9) rfl dX9_append_1 ?_
  refine lv_if_lt (tgt := 51) hx₀ hb dX9_append_4 (by decide) (fun c9 => absurd c9 (by decide +kernel)) (fun _ => ?_)
  refine lv_aload_n hx₀ hb dX9_append_7 rfl (lv_at hl 0 rfl) ?_
  refine va_get (D := (dC, dI)) (ci := 2) (v := .int 0) (C := RX2) (T := TX2) (N := 4) hx₀ hb hts inlX2 hown hK hP 0 rfl rfl 1 (by decide) (hts (.fieldLink RX9 25 "BittenStick$Text" "length" "I") wd_147) (fun _ h9 => h9) rfl dX9_append_8 ?_
  refine lv_aload_n hx₀ hb dX9_append_11 rfl (lv_at hl 0 rfl) ?_
  refine va_get (D := (dC, dI)) (ci := 2) (v := .ref hv) (C := RX2) (T := TX2) (N := 4) hx₀ hb hts inlX2 hown hK hP 0 rfl rfl 0 (by decide) (hts (.fieldLink RX9 21 "BittenStick$Text" "values" "[I") wd_65) (fun _ h9 => h9) rfl dX9_append_12 ?_
  refine va_alen (v := 23) hx₀ hb hK hP 1 0 rfl rfl rfl dX9_append_15 ?_
  refine lv_icmp_ge (tgt := 51) hx₀ hb dX9_append_16 (by decide) (fun c9 => absurd c9 (by decide +kernel)) (fun _ => ?_)
  refine lv_aload_n hx₀ hb dX9_append_19 rfl (lv_at hl 0 rfl) ?_
  refine va_get (D := (dC, dI)) (ci := 2) (v := .ref hv) (C := RX2) (T := TX2) (N := 4) hx₀ hb hts inlX2 hown hK hP 0 rfl rfl 0 (by decide) (hts (.fieldLink RX9 21 "BittenStick$Text" "values" "[I") wd_65) (fun _ h9 => h9) rfl dX9_append_20 ?_
  refine lv_aload_n hx₀ hb dX9_append_23 rfl (lv_at hl 0 rfl) ?_
  refine va_get (D := (dC, dI)) (ci := 2) (v := .int 0) (C := RX2) (T := TX2) (N := 4) hx₀ hb hts inlX2 hown hK hP 0 rfl rfl 1 (by decide) (hts (.fieldLink RX9 25 "BittenStick$Text" "length" "I") wd_147) (fun _ h9 => h9) rfl dX9_append_24 ?_
  refine lv_aload_n hx₀ hb dX9_append_27 rfl (lv_at hl 0 rfl) ?_
  refine lv_aload_n hx₀ hb dX9_append_28 rfl (lv_at hl 0 rfl) ?_
  refine va_get (D := (dC, dI)) (ci := 2) (v := .int 0) (C := RX2) (T := TX2) (N := 4) hx₀ hb hts inlX2 hown hK hP 0 rfl rfl 1 (by decide) (hts (.fieldLink RX9 25 "BittenStick$Text" "length" "I") wd_147) (fun _ h9 => h9) rfl dX9_append_29 ?_
  refine lv_iload_n hx₀ hb dX9_append_32 rfl (lv_at hl 1 rfl) ?_
  have hPc := hP.sub (ws' := [(h, .inr (2, [.ref hv, .int 0, .int fa, .int nu]))]) [0] rfl
  have hDc := hD.sub (ws' := [(h, .inr (2, [.ref hv, .int 0, .int fa, .int nu]))]) [0] (by decide) rfl
  have hFc := va_free (wc := [(h, .inr (2, [.ref hv, .int 0, .int fa, .int nu]))]) hD hS hA [0] rfl
  refine va_calli (va_runU (As := [.int 0, .int b]) (rest := [.int 0, .ref hv]) ⟨hx₀, hb, hml, hown, hts⟩ (c_worth0_X2 l dC dI cI cJ cQ H.size h b hv 0 fa nu) (va_cwA 2 hts (kGU wd_159 wd_155 wd_156 wd_157 wd_158 wd_22) rfl rfl rfl hN.1 (by decide +kernel) ⟨Nat.le_of_ble_eq_true rfl, Nat.le_of_ble_eq_true rfl⟩) (k_preV (ci := 2) (q0 := 0) hK hPc hDc hN rfl rfl) rfl rfl hl.1 rfl (lv_room (Nat.le_of_ble_eq_true rfl)) dX9_append_33 ⟨by decide +kernel, by decide +kernel⟩) hS (fun q _ h => hFc q h) hFc (fun r_1 u₀ t₀ H1 locs ht hvm hw hB hz1 hk1 hS => ?_)
  obtain ⟨hP1, hK1, hD1⟩ := hB
  rw [ht] at hP1
  obtain ⟨hP, hD⟩ := va_join (wr := [(hv, .inl (cI, 23, .inl f))]) (w1 := [(h, .inr (2, [.ref hv, .int 0, .int fa, .int nu]))]) hP hD [0] [1] rfl rfl (by decide) (by decide) hk1 hFc hP1 hD1
  generalize H1 = H at hP hS ⊢
  have hP : va_P (dC, dI) vwCl [(hv, .inl (cI, 23, .inl f)), (h, .inr (2, [.ref hv, .int 0, .int fa, .int nu]))] H := hP
  have hD : va_D A [(hv, .inl (cI, 23, .inl f)), (h, .inr (2, [.ref hv, .int 0, .int fa, .int nu]))] := hD
  try dsimp only at hw
  refine va_iast hx₀ hb hK hP hD hS 0 0 rfl rfl (by unfold vp_in; decide +kernel) dX9_append_36 (fun H locs hP hD hS => ?_)
  have hP : va_P (dC, dI) vwCl [(hv, .inl (cI, 23, .inl (upd f (0 : Int32).toNatClampNeg r_1))), (h, .inr (2, [.ref hv, .int 0, .int fa, .int nu]))] H := hP
  have hD : va_D A [(hv, .inl (cI, 23, .inl (upd f (0 : Int32).toNatClampNeg r_1))), (h, .inr (2, [.ref hv, .int 0, .int fa, .int nu]))] := hD
  refine lv_aload_n hx₀ hb dX9_append_37 rfl (lv_at hl 0 rfl) ?_
  refine lv_dup hx₀ hb dX9_append_38 rfl ?_
  refine va_get (D := (dC, dI)) (ci := 2) (v := .int 0) (C := RX2) (T := TX2) (N := 4) hx₀ hb hts inlX2 hown hK hP 1 rfl rfl 1 (by decide) (hts (.fieldLink RX9 25 "BittenStick$Text" "length" "I") wd_147) (fun _ h9 => h9) rfl dX9_append_39 ?_
  refine lv_iconst (v := 1) hx₀ hb dX9_append_42 (by decide +kernel) ?_
  refine lv_iadd hx₀ hb dX9_append_43 ?_
  refine k_topi (v := 1) (by decide +kernel) ?_
  refine va_put (D := (dC, dI)) (ci := 2) (v := .int 1) (ty := .int) (C := RX2) (T := TX2) (N := 4) hx₀ hb hts inlX2 tyX2 tyX2_ok nmX2 hown hK hP hD hS 1 rfl rfl 1 (by decide) (hts (.fieldLink RX9 25 "BittenStick$Text" "length" "I") wd_147) (fun _ h9 => h9) rfl (by decide +kernel) rfl rfl (Nat.le_of_ble_eq_true rfl) dX9_append_44 (fun H locs hP hD hS => ?_)
  have hP : va_P (dC, dI) vwCl [(hv, .inl (cI, 23, .inl (upd f (0 : Int32).toNatClampNeg r_1))), (h, .inr (2, [.ref hv, .int 1, .int fa, .int nu]))] H := hP
  have hD : va_D A [(hv, .inl (cI, 23, .inl (upd f (0 : Int32).toNatClampNeg r_1))), (h, .inr (2, [.ref hv, .int 1, .int fa, .int nu]))] := hD
  refine lv_aload_n hx₀ hb dX9_append_47 rfl (lv_at hl 0 rfl) ?_
  have hPc := hP.sub (ws' := [(h, .inr (2, [.ref hv, .int 1, .int fa, .int nu])), (hv, .inl (cI, 23, .inl (upd f (0 : Int32).toNatClampNeg r_1)))]) [1, 0] rfl
  have hDc := hD.sub (ws' := [(h, .inr (2, [.ref hv, .int 1, .int fa, .int nu])), (hv, .inl (cI, 23, .inl (upd f (0 : Int32).toNatClampNeg r_1)))]) [1, 0] (by decide) rfl
  have hFc := va_free (wc := [(h, .inr (2, [.ref hv, .int 1, .int fa, .int nu])), (hv, .inl (cI, 23, .inl (upd f (0 : Int32).toNatClampNeg r_1)))]) hD hS hA [1, 0] rfl
  refine va_callv (va_runU (As := []) (rest := []) ⟨hx₀, hb, hml, hown, hts⟩ (c_again1_X2 l dC dI cI cJ cQ H.size h hv fa nu (upd f (0 : Int32).toNatClampNeg r_1)) (va_cwU 0 hts (kGU wd_173 wd_169 wd_170 wd_171 wd_172 wd_57) rfl rfl rfl rfl (by decide +kernel) ⟨Nat.le_of_ble_eq_true rfl, Nat.le_of_ble_eq_true rfl⟩) (k_preV (ci := 2) (q0 := 0) hK hPc hDc hN rfl rfl) rfl rfl hl.1 rfl (lv_room (Nat.le_of_ble_eq_true rfl)) dX9_append_48 ⟨by decide +kernel, by decide +kernel⟩) hS (fun q _ h => hFc q h) hFc (fun u₀ t₀ H1 locs ht hvm hw hB hz1 hk1 hS => ?_)
  obtain ⟨qn_3, qn_4⟩ := u₀
  obtain ⟨hP1, hK1, hD1⟩ := hB
  rw [ht] at hP1
  obtain ⟨hP, hD⟩ := va_join (wr := []) (w1 := [(h, .inr (2, [.ref hv, .int 1, .int qn_3, .int qn_4]))]) hP hD [1, 0] [] rfl rfl (by decide) (by decide) hk1 hFc hP1 hD1
  generalize H1 = H at hP hS ⊢
  have hP : va_P (dC, dI) vwCl [(h, .inr (2, [.ref hv, .int 1, .int qn_3, .int qn_4]))] H := hP
  have hD : va_D A [(h, .inr (2, [.ref hv, .int 1, .int qn_3, .int qn_4]))] := hD
  have hP9 := hP.sub (ws' := [(h, .inr (2, [.ref hv, .int 1, .int qn_3, .int qn_4]))]) [0] rfl
  have hD9 := hD.sub (ws' := [(h, .inr (2, [.ref hv, .int 1, .int qn_3, .int qn_4]))]) [0] (by decide) rfl
  exact W.vret hx₀ hb hr (fun t₀ ht hW => ⟨⟨(qn_3, qn_4), rfl, trivial, by rw [ht]; exact hP9, va_K.moved hW.alike hK, hD9⟩, hS.F ht⟩) hS.2.2 dX9_append_51
set_option maxHeartbeats 4000000 in
set_option maxRecDepth 100000 in
theorem c_shorten0_X2 (l : Launch) (dC : Nat → ClassId) (dI : Nat → Nat → Nat) (cI cJ cQ : ClassId) (sz : Nat) (h : Nat) (hv : Nat) (fa : Int32) (nu : Int32) : Met l yX9_shorten (kW yX9_shorten cX9_shorten 2 none) { frames := 2, cells := 0, slots := 0, locals := 42 } (kPre dC dI cI cJ cQ sz [.ref h, .int 0] [(h, .inr (2, [.ref hv, .int 0, .int fa, .int nu]))]) (va_Qv (fun (_ : Unit) => True) (fun _ t₀ => kB dC dI cI cJ cQ (va_A [(h, .inr (2, [.ref hv, .int 0, .int fa, .int nu]))] sz) [(h, .inr (2, [.ref hv, .int 0, .int (-1), .int 0]))] t₀) (va_A [(h, .inr (2, [.ref hv, .int 0, .int fa, .int nu]))] sz)) 0 0 (va_A [(h, .inr (2, [.ref hv, .int 0, .int fa, .int nu]))] sz) := by
  refine Met.ofW (cc := cX9_shorten) (maxL := 2) (ret := none) (by decide) rfl ?_
  intro p₀ e₀ s₀ m₀ args below meth c₀ s₁ B hml hv₀
  obtain ⟨rfl, hsz, hP, hK, hD0, hN⟩ := hv₀
  have hx₀ := B.exec
  have hb := B.bytes
  have hr := B.returns
  have hts := atoms_spec (ws := (kW yX9_shorten cX9_shorten 2 none)) B.pre
  have hts := fun w h => hts w (List.mem_cons_of_mem _ h)
  have hown : s₀.vm.findClass RX9 = some m₀.cls := findClass_of_methodNamed B.named
  have hlocks := B.notSynchronized
  subst hsz
  have hD := hD0.self (sz := s₀.heap.size)
  generalize hAe : va_A [(h, .inr (2, [.ref hv, .int 0, .int fa, .int nu]))] s₀.heap.size = A at hD ⊢
  have hA : ∀ q : Nat, s₀.heap.size ≤ q → A q := fun q h => by rw [← hAe]; exact Or.inr h
  have hS : va_S A s₀.heap s₀.heap [] := va_S.rf
  have hP : va_P (dC, dI) vwCl [(h, .inr (2, [.ref hv, .int 0, .int fa, .int nu]))] s₀.heap := hP
  have hl := lv_entry ([.ref h, .int 0]) (n := 2) (Nat.le_of_ble_eq_true rfl)
  rw [lg_entry_eq]
  generalize (lg_sl ([.ref h, .int 0]) ++ List.replicate (2 - (lg_sl ([.ref h, .int 0])).length) Slot.unset).toArray = ls at hl ⊢
  have hl : lv_has ls 2 [(0, .ref h), (1, .int 0)] := hl
  obtain ⟨H, hH⟩ : ∃ z : Heap, z = s₀.heap := ⟨_, rfl⟩
  rw [← hH] at hP
  have hS : va_S A s₀.heap H [] := by rw [hH]; exact hS
  refine k_heap hH ?_
  have hD : va_D A [(h, .inr (2, [.ref hv, .int 0, .int fa, .int nu]))] := hD
  obtain ⟨locs, hlo⟩ : ∃ z : List Loc, z = [] := ⟨_, rfl⟩
  rw [← hlo] at hS ⊢
  clear hlo hH hAe hD0
  refine lv_aload_n hx₀ hb dX9_shorten_0 rfl (lv_at hl 0 rfl) ?_
  refine lv_iconst (v := 0) hx₀ hb dX9_shorten_1 (by decide +kernel) ?_
  refine lv_iload_n hx₀ hb dX9_shorten_2 rfl (lv_at hl 1 rfl) ?_
  refine lv_aload_n hx₀ hb dX9_shorten_3 rfl (lv_at hl 0 rfl) ?_
  refine va_get (D := (dC, dI)) (ci := 2) (v := .int 0) (C := RX2) (T := TX2) (N := 4) hx₀ hb hts inlX2 hown hK hP 0 rfl rfl 1 (by decide) (hts (.fieldLink RX9 25 "BittenStick$Text" "length" "I") wd_147) (fun _ h9 => h9) rfl dX9_shorten_4 ?_
  refine va_mmin hx₀ hb (by rw [hml]; exact hl.1.symm) hown (hts (.methodLink RX9 34 Lib.Math.min.name) wd_218) (hts (.static Lib.Math.min.name) wd_219) (hts (.initialized "java/lang/Math") wd_63) (hts (.code Lib.Math.min.name Lib.Math.min.code 2 (some .int)) wd_220) (by decide) (Nat.le_of_ble_eq_true rfl) (by decide) (by decide) dX9_shorten_7 ?_
  refine k_topi (v := 0) (by decide +kernel) ?_
  refine va_mmax hx₀ hb (by rw [hml]; exact hl.1.symm) hown (hts (.methodLink RX9 15 Lib.Math.max.name) wd_61) (hts (.static Lib.Math.max.name) wd_62) (hts (.initialized "java/lang/Math") wd_63) (hts (.code Lib.Math.max.name Lib.Math.max.code 2 (some .int)) wd_64) (by decide) (Nat.le_of_ble_eq_true rfl) (by decide) (by decide) dX9_shorten_10 ?_
  refine k_topi (v := 0) (by decide +kernel) ?_
  refine va_put (D := (dC, dI)) (ci := 2) (v := .int 0) (ty := .int) (C := RX2) (T := TX2) (N := 4) hx₀ hb hts inlX2 tyX2 tyX2_ok nmX2 hown hK hP hD hS 0 rfl rfl 1 (by decide) (hts (.fieldLink RX9 25 "BittenStick$Text" "length" "I") wd_147) (fun _ h9 => h9) rfl (by decide +kernel) rfl rfl (Nat.le_of_ble_eq_true rfl) dX9_shorten_13 (fun H locs hP hD hS => ?_)
  have hP : va_P (dC, dI) vwCl [(h, .inr (2, [.ref hv, .int 0, .int fa, .int nu]))] H := hP
  have hD : va_D A [(h, .inr (2, [.ref hv, .int 0, .int fa, .int nu]))] := hD
  refine lv_aload_n hx₀ hb dX9_shorten_16 rfl (lv_at hl 0 rfl) ?_
  have hPc := hP.sub (ws' := [(h, .inr (2, [.ref hv, .int 0, .int fa, .int nu]))]) [0] rfl
  have hDc := hD.sub (ws' := [(h, .inr (2, [.ref hv, .int 0, .int fa, .int nu]))]) [0] (by decide) rfl
  have hFc := va_free (wc := [(h, .inr (2, [.ref hv, .int 0, .int fa, .int nu]))]) hD hS hA [0] rfl
  refine va_callv (va_runU (As := []) (rest := []) ⟨hx₀, hb, hml, hown, hts⟩ (c_again0_X2 l dC dI cI cJ cQ H.size h hv fa nu) (va_cwU 0 hts (kGU wd_173 wd_169 wd_170 wd_171 wd_172 wd_57) rfl rfl rfl rfl (by decide +kernel) ⟨Nat.le_of_ble_eq_true rfl, Nat.le_of_ble_eq_true rfl⟩) (k_preV (ci := 2) (q0 := 0) hK hPc hDc hN rfl rfl) rfl rfl hl.1 rfl (lv_room (Nat.le_of_ble_eq_true rfl)) dX9_shorten_17 ⟨by decide +kernel, by decide +kernel⟩) hS (fun q _ h => hFc q h) hFc (fun u₀ t₀ H1 locs ht hvm hw hB hz1 hk1 hS => ?_)
  obtain ⟨hP1, hK1, hD1⟩ := hB
  rw [ht] at hP1
  obtain ⟨hP, hD⟩ := va_join (wr := []) (w1 := [(h, .inr (2, [.ref hv, .int 0, .int (-1), .int 0]))]) hP hD [0] [] rfl rfl (by decide) (by decide) hk1 hFc hP1 hD1
  generalize H1 = H at hP hS ⊢
  have hP : va_P (dC, dI) vwCl [(h, .inr (2, [.ref hv, .int 0, .int (-1), .int 0]))] H := hP
  have hD : va_D A [(h, .inr (2, [.ref hv, .int 0, .int (-1), .int 0]))] := hD
  have hP9 := hP.sub (ws' := [(h, .inr (2, [.ref hv, .int 0, .int (-1), .int 0]))]) [0] rfl
  have hD9 := hD.sub (ws' := [(h, .inr (2, [.ref hv, .int 0, .int (-1), .int 0]))]) [0] (by decide) rfl
  exact W.vret hx₀ hb hr (fun t₀ ht hW => ⟨⟨(), rfl, trivial, by rw [ht]; exact hP9, va_K.moved hW.alike hK, hD9⟩, hS.F ht⟩) hS.2.2 dX9_shorten_20
end
section
theorem lf_c_textOf_1 (aLa : Nat) (aPa : Nat) (aGe : Nat)  : (some aLa : Option Nat) = if (0 : Int32) = 0 then some aLa else if (0 : Int32) = 1 then some aPa else if (0 : Int32) = 2 then some aGe else none := by
  repeat first | rfl | rw [if_pos (by (first | omega | (simp only [Int64.le_iff_toInt_le, Int64.lt_iff_toInt_lt, Int32.le_iff_toInt_le, Int32.lt_iff_toInt_lt, ← Int32.toInt_inj, ← Int64.toInt_inj, Int32.toInt_toInt64, (show (0 : Int32).toInt = 0 from by decide), (show (0 : Int64).toInt = 0 from by decide), (show (1 : Int32).toInt = 1 from by decide), (show (1 : Int64).toInt = 1 from by decide), (show (2 : Int32).toInt = 2 from by decide), (show (2 : Int64).toInt = 2 from by decide)] at *; omega)))] | rw [if_neg (by (first | omega | (simp only [Int64.le_iff_toInt_le, Int64.lt_iff_toInt_lt, Int32.le_iff_toInt_le, Int32.lt_iff_toInt_lt, ← Int32.toInt_inj, ← Int64.toInt_inj, Int32.toInt_toInt64, (show (0 : Int32).toInt = 0 from by decide), (show (0 : Int64).toInt = 0 from by decide), (show (1 : Int32).toInt = 1 from by decide), (show (1 : Int64).toInt = 1 from by decide), (show (2 : Int32).toInt = 2 from by decide), (show (2 : Int64).toInt = 2 from by decide)] at *; omega)))]
theorem lf_c_textOf_2 (aPa : Nat) (aLa : Nat) (aGe : Nat)  : (some aPa : Option Nat) = if (1 : Int32) = 0 then some aLa else if (1 : Int32) = 1 then some aPa else if (1 : Int32) = 2 then some aGe else none := by
  repeat first | rfl | rw [if_pos (by (first | omega | (simp only [Int64.le_iff_toInt_le, Int64.lt_iff_toInt_lt, Int32.le_iff_toInt_le, Int32.lt_iff_toInt_lt, ← Int32.toInt_inj, ← Int64.toInt_inj, Int32.toInt_toInt64, (show (0 : Int32).toInt = 0 from by decide), (show (0 : Int64).toInt = 0 from by decide), (show (1 : Int32).toInt = 1 from by decide), (show (1 : Int64).toInt = 1 from by decide), (show (2 : Int32).toInt = 2 from by decide), (show (2 : Int64).toInt = 2 from by decide)] at *; omega)))] | rw [if_neg (by (first | omega | (simp only [Int64.le_iff_toInt_le, Int64.lt_iff_toInt_lt, Int32.le_iff_toInt_le, Int32.lt_iff_toInt_lt, ← Int32.toInt_inj, ← Int64.toInt_inj, Int32.toInt_toInt64, (show (0 : Int32).toInt = 0 from by decide), (show (0 : Int64).toInt = 0 from by decide), (show (1 : Int32).toInt = 1 from by decide), (show (1 : Int64).toInt = 1 from by decide), (show (2 : Int32).toInt = 2 from by decide), (show (2 : Int64).toInt = 2 from by decide)] at *; omega)))]
theorem lf_c_textOf_3 (aGe : Nat) (aLa : Nat) (aPa : Nat)  : (some aGe : Option Nat) = if (2 : Int32) = 0 then some aLa else if (2 : Int32) = 1 then some aPa else if (2 : Int32) = 2 then some aGe else none := by
  repeat first | rfl | rw [if_pos (by (first | omega | (simp only [Int64.le_iff_toInt_le, Int64.lt_iff_toInt_lt, Int32.le_iff_toInt_le, Int32.lt_iff_toInt_lt, ← Int32.toInt_inj, ← Int64.toInt_inj, Int32.toInt_toInt64, (show (0 : Int32).toInt = 0 from by decide), (show (0 : Int64).toInt = 0 from by decide), (show (1 : Int32).toInt = 1 from by decide), (show (1 : Int64).toInt = 1 from by decide), (show (2 : Int32).toInt = 2 from by decide), (show (2 : Int64).toInt = 2 from by decide)] at *; omega)))] | rw [if_neg (by (first | omega | (simp only [Int64.le_iff_toInt_le, Int64.lt_iff_toInt_lt, Int32.le_iff_toInt_le, Int32.lt_iff_toInt_lt, ← Int32.toInt_inj, ← Int64.toInt_inj, Int32.toInt_toInt64, (show (0 : Int32).toInt = 0 from by decide), (show (0 : Int64).toInt = 0 from by decide), (show (1 : Int32).toInt = 1 from by decide), (show (1 : Int64).toInt = 1 from by decide), (show (2 : Int32).toInt = 2 from by decide), (show (2 : Int64).toInt = 2 from by decide)] at *; omega)))]
theorem lf_c_textOf_4 (t : Int32) (aLa : Nat) (aPa : Nat) (aGe : Nat) (c_1 : ¬ t = 0) (c_2 : ¬ t = 1) (c_3 : ¬ t = 2) : (none : Option Nat) = if t = 0 then some aLa else if t = 1 then some aPa else if t = 2 then some aGe else none := by
  repeat first | rfl | rw [if_pos (by (first | omega | (simp only [Int64.le_iff_toInt_le, Int64.lt_iff_toInt_lt, Int32.le_iff_toInt_le, Int32.lt_iff_toInt_lt, ← Int32.toInt_inj, ← Int64.toInt_inj, Int32.toInt_toInt64, (show (0 : Int32).toInt = 0 from by decide), (show (0 : Int64).toInt = 0 from by decide), (show (1 : Int32).toInt = 1 from by decide), (show (1 : Int64).toInt = 1 from by decide), (show (2 : Int32).toInt = 2 from by decide), (show (2 : Int64).toInt = 2 from by decide)] at *; omega)))] | rw [if_neg (by (first | omega | (simp only [Int64.le_iff_toInt_le, Int64.lt_iff_toInt_lt, Int32.le_iff_toInt_le, Int32.lt_iff_toInt_lt, ← Int32.toInt_inj, ← Int64.toInt_inj, Int32.toInt_toInt64, (show (0 : Int32).toInt = 0 from by decide), (show (0 : Int64).toInt = 0 from by decide), (show (1 : Int32).toInt = 1 from by decide), (show (1 : Int64).toInt = 1 from by decide), (show (2 : Int32).toInt = 2 from by decide), (show (2 : Int64).toInt = 2 from by decide)] at *; omega)))]
set_option maxHeartbeats 4000000 in
set_option maxRecDepth 100000 in
theorem c_textOf (l : Launch) (dC : Nat → ClassId) (dI : Nat → Nat → Nat) (cI cJ cQ : ClassId) (sz : Nat) (hx : Nat) (t : Int32) (aLa : Nat) (aPa : Nat) (aGe : Nat) (aFl : Nat) (aTr : Nat) (aBe : Nat) (aLu : Nat) (aLo : Nat) (vSf : Nat) (vSm : Nat) (vCo : Nat) (vSh : Nat) : Met l yX11_textOf (kW yX11_textOf cX11_textOf 2 (some (.object "BittenStick$Text"))) { frames := 0, cells := 0, slots := 0, locals := 0 } (kPre dC dI cI cJ cQ sz [.ref hx, .int t] [(hx, .inr (10, [.ref aLa, .ref aPa, .ref aGe, .ref aFl, .ref aTr, .ref aBe, .ref aLu, .ref aLo, .ref vSf, .ref vSm, .ref vCo, .ref vSh, .int 0, .int 0, .int 0]))]) (va_Qq (fun (r : Option Nat) (_ : Unit) => r = if t = 0 then some aLa else if t = 1 then some aPa else if t = 2 then some aGe else none) (fun _ t₀ => kB dC dI cI cJ cQ (va_A [(hx, .inr (10, [.ref aLa, .ref aPa, .ref aGe, .ref aFl, .ref aTr, .ref aBe, .ref aLu, .ref aLo, .ref vSf, .ref vSm, .ref vCo, .ref vSh, .int 0, .int 0, .int 0]))] sz) [(hx, .inr (10, [.ref aLa, .ref aPa, .ref aGe, .ref aFl, .ref aTr, .ref aBe, .ref aLu, .ref aLo, .ref vSf, .ref vSm, .ref vCo, .ref vSh, .int 0, .int 0, .int 0]))] t₀) (va_A [(hx, .inr (10, [.ref aLa, .ref aPa, .ref aGe, .ref aFl, .ref aTr, .ref aBe, .ref aLu, .ref aLo, .ref vSf, .ref vSm, .ref vCo, .ref vSh, .int 0, .int 0, .int 0]))] sz)) 0 0 (va_A [(hx, .inr (10, [.ref aLa, .ref aPa, .ref aGe, .ref aFl, .ref aTr, .ref aBe, .ref aLu, .ref aLo, .ref vSf, .ref vSm, .ref vCo, .ref vSh, .int 0, .int 0, .int 0]))] sz) := by
  refine Met.ofW (cc := cX11_textOf) (maxL := 2) (ret := (some (.object "BittenStick$Text"))) (by decide) rfl ?_
  intro p₀ e₀ s₀ m₀ args below meth c₀ s₁ B hml hv₀
  obtain ⟨rfl, hsz, hP, hK, hD0, hN⟩ := hv₀
  have hx₀ := B.exec
  have hb := B.bytes
  have hr := B.returns
  have hts := atoms_spec (ws := (kW yX11_textOf cX11_textOf 2 (some (.object "BittenStick$Text")))) B.pre
  have hts := fun w h => hts w (List.mem_cons_of_mem _ h)
  have hown : s₀.vm.findClass RX11 = some m₀.cls := findClass_of_methodNamed B.named
  have hlocks := B.notSynchronized
  subst hsz
  have hD := hD0.self (sz := s₀.heap.size)
  generalize hAe : va_A [(hx, .inr (10, [.ref aLa, .ref aPa, .ref aGe, .ref aFl, .ref aTr, .ref aBe, .ref aLu, .ref aLo, .ref vSf, .ref vSm, .ref vCo, .ref vSh, .int 0, .int 0, .int 0]))] s₀.heap.size = A at hD ⊢
  have hA : ∀ q : Nat, s₀.heap.size ≤ q → A q := fun q h => by rw [← hAe]; exact Or.inr h
  have hS : va_S A s₀.heap s₀.heap [] := va_S.rf
  have hP : va_P (dC, dI) vwCl [(hx, .inr (10, [.ref aLa, .ref aPa, .ref aGe, .ref aFl, .ref aTr, .ref aBe, .ref aLu, .ref aLo, .ref vSf, .ref vSm, .ref vCo, .ref vSh, .int 0, .int 0, .int 0]))] s₀.heap := hP
  have hl := lv_entry ([.ref hx, .int t]) (n := 2) (Nat.le_of_ble_eq_true rfl)
  rw [lg_entry_eq]
  generalize (lg_sl ([.ref hx, .int t]) ++ List.replicate (2 - (lg_sl ([.ref hx, .int t])).length) Slot.unset).toArray = ls at hl ⊢
  have hl : lv_has ls 2 [(0, .ref hx), (1, .int t)] := hl
  obtain ⟨H, hH⟩ : ∃ z : Heap, z = s₀.heap := ⟨_, rfl⟩
  rw [← hH] at hP
  have hS : va_S A s₀.heap H [] := by rw [hH]; exact hS
  refine k_heap hH ?_
  have hD : va_D A [(hx, .inr (10, [.ref aLa, .ref aPa, .ref aGe, .ref aFl, .ref aTr, .ref aBe, .ref aLu, .ref aLo, .ref vSf, .ref vSm, .ref vCo, .ref vSh, .int 0, .int 0, .int 0]))] := hD
  obtain ⟨locs, hlo⟩ : ∃ z : List Loc, z = [] := ⟨_, rfl⟩
  rw [← hlo] at hS ⊢
  clear hlo hH hAe hD0
  refine lv_iload_n hx₀ hb dX11_textOf_0 rfl (lv_at hl 1 rfl) ?_
  by_cases c_1 : t = 0
  · subst c_1
    refine lv_tableIn (off := 27) (tgt := 28) hx₀ hb dX11_textOf_1 (by decide +kernel) (by decide +kernel) (by decide +kernel) (by decide) ?_
    refine lv_aload_n hx₀ hb dX11_textOf_28 rfl (lv_at hl 0 rfl) ?_
    refine va_get (D := (dC, dI)) (ci := 10) (v := .ref aLa) (C := RX11) (T := TX11) (N := 15) hx₀ hb hts inlX11 hown hK hP 0 rfl rfl 0 (by decide) (hts (.fieldLink RX11 10 "BittenStick" "land" "LBittenStick$Land;") wd_15) (fun _ h9 => h9) rfl dX11_textOf_29 ?_
    have hP9 := hP.sub (ws' := [(hx, .inr (10, [.ref aLa, .ref aPa, .ref aGe, .ref aFl, .ref aTr, .ref aBe, .ref aLu, .ref aLo, .ref vSf, .ref vSm, .ref vCo, .ref vSh, .int 0, .int 0, .int 0]))]) [0] rfl
    have hD9 := hD.sub (ws' := [(hx, .inr (10, [.ref aLa, .ref aPa, .ref aGe, .ref aFl, .ref aTr, .ref aBe, .ref aLu, .ref aLo, .ref vSf, .ref vSm, .ref vCo, .ref vSh, .int 0, .int 0, .int 0]))]) [0] (by decide) rfl
    exact W.aret (v := .ref aLa) hx₀ hb hr (Or.inl ⟨_, rfl⟩) (Or.inr ⟨_, rfl⟩) (fun t₀ ht hW => ⟨⟨(some aLa), (), rfl, (lf_c_textOf_1 aLa aPa aGe ), by rw [ht]; exact hP9, va_K.moved hW.alike hK, hD9⟩, hS.F ht⟩) hS.2.2 dX11_textOf_32
  by_cases c_2 : t = 1
  · subst c_2
    refine lv_tableIn (off := 32) (tgt := 33) hx₀ hb dX11_textOf_1 (by decide +kernel) (by decide +kernel) (by decide +kernel) (by decide) ?_
    refine lv_aload_n hx₀ hb dX11_textOf_33 rfl (lv_at hl 0 rfl) ?_
    refine va_get (D := (dC, dI)) (ci := 10) (v := .ref aPa) (C := RX11) (T := TX11) (N := 15) hx₀ hb hts inlX11 hown hK hP 0 rfl rfl 1 (by decide) (hts (.fieldLink RX11 19 "BittenStick" "passengers" "LBittenStick$Passengers;") wd_19) (fun _ h9 => h9) rfl dX11_textOf_34 ?_
    have hP9 := hP.sub (ws' := [(hx, .inr (10, [.ref aLa, .ref aPa, .ref aGe, .ref aFl, .ref aTr, .ref aBe, .ref aLu, .ref aLo, .ref vSf, .ref vSm, .ref vCo, .ref vSh, .int 0, .int 0, .int 0]))]) [0] rfl
    have hD9 := hD.sub (ws' := [(hx, .inr (10, [.ref aLa, .ref aPa, .ref aGe, .ref aFl, .ref aTr, .ref aBe, .ref aLu, .ref aLo, .ref vSf, .ref vSm, .ref vCo, .ref vSh, .int 0, .int 0, .int 0]))]) [0] (by decide) rfl
    exact W.aret (v := .ref aPa) hx₀ hb hr (Or.inl ⟨_, rfl⟩) (Or.inr ⟨_, rfl⟩) (fun t₀ ht hW => ⟨⟨(some aPa), (), rfl, (lf_c_textOf_2 aPa aLa aGe ), by rw [ht]; exact hP9, va_K.moved hW.alike hK, hD9⟩, hS.F ht⟩) hS.2.2 dX11_textOf_37
  by_cases c_3 : t = 2
  · subst c_3
    refine lv_tableIn (off := 37) (tgt := 38) hx₀ hb dX11_textOf_1 (by decide +kernel) (by decide +kernel) (by decide +kernel) (by decide) ?_
    refine lv_aload_n hx₀ hb dX11_textOf_38 rfl (lv_at hl 0 rfl) ?_
    refine va_get (D := (dC, dI)) (ci := 10) (v := .ref aGe) (C := RX11) (T := TX11) (N := 15) hx₀ hb hts inlX11 hown hK hP 0 rfl rfl 2 (by decide) (hts (.fieldLink RX11 26 "BittenStick" "geese" "LBittenStick$Geese;") wd_23) (fun _ h9 => h9) rfl dX11_textOf_39 ?_
    have hP9 := hP.sub (ws' := [(hx, .inr (10, [.ref aLa, .ref aPa, .ref aGe, .ref aFl, .ref aTr, .ref aBe, .ref aLu, .ref aLo, .ref vSf, .ref vSm, .ref vCo, .ref vSh, .int 0, .int 0, .int 0]))]) [0] rfl
    have hD9 := hD.sub (ws' := [(hx, .inr (10, [.ref aLa, .ref aPa, .ref aGe, .ref aFl, .ref aTr, .ref aBe, .ref aLu, .ref aLo, .ref vSf, .ref vSm, .ref vCo, .ref vSh, .int 0, .int 0, .int 0]))]) [0] (by decide) rfl
    exact W.aret (v := .ref aGe) hx₀ hb hr (Or.inl ⟨_, rfl⟩) (Or.inr ⟨_, rfl⟩) (fun t₀ ht hW => ⟨⟨(some aGe), (), rfl, (lf_c_textOf_3 aGe aLa aPa ), by rw [ht]; exact hP9, va_K.moved hW.alike hK, hD9⟩, hS.F ht⟩) hS.2.2 dX11_textOf_42
  refine lv_tableOut (tgt := 43) hx₀ hb dX11_textOf_1 (k_out3 c_1 c_2 c_3) (by decide) ?_
  refine lv_null hx₀ hb dX11_textOf_43 ?_
  have hP9 := hP.sub (ws' := [(hx, .inr (10, [.ref aLa, .ref aPa, .ref aGe, .ref aFl, .ref aTr, .ref aBe, .ref aLu, .ref aLo, .ref vSf, .ref vSm, .ref vCo, .ref vSh, .int 0, .int 0, .int 0]))]) [0] rfl
  have hD9 := hD.sub (ws' := [(hx, .inr (10, [.ref aLa, .ref aPa, .ref aGe, .ref aFl, .ref aTr, .ref aBe, .ref aLu, .ref aLo, .ref vSf, .ref vSm, .ref vCo, .ref vSh, .int 0, .int 0, .int 0]))]) [0] (by decide) rfl
  exact W.aret (v := .null) hx₀ hb hr (Or.inl ⟨_, rfl⟩) (Or.inl rfl) (fun t₀ ht hW => ⟨⟨none, (), rfl, (lf_c_textOf_4 t aLa aPa aGe c_1 c_2 c_3), by rw [ht]; exact hP9, va_K.moved hW.alike hK, hD9⟩, hS.F ht⟩) hS.2.2 dX11_textOf_44
theorem lf_c_isForm_1 (v : Int32) (c_1 : v < 0) : (0 : Int32) = if 0 ≤ v ∧ v ≤ 2 then 1 else 0 := by
  repeat first | rfl | rw [if_pos (by (first | omega | (simp only [Int64.le_iff_toInt_le, Int64.lt_iff_toInt_lt, Int32.le_iff_toInt_le, Int32.lt_iff_toInt_lt, ← Int32.toInt_inj, ← Int64.toInt_inj, Int32.toInt_toInt64, (show (0 : Int32).toInt = 0 from by decide), (show (0 : Int64).toInt = 0 from by decide), (show (1 : Int32).toInt = 1 from by decide), (show (1 : Int64).toInt = 1 from by decide), (show (2 : Int32).toInt = 2 from by decide), (show (2 : Int64).toInt = 2 from by decide)] at *; omega)))] | rw [if_neg (by (first | omega | (simp only [Int64.le_iff_toInt_le, Int64.lt_iff_toInt_lt, Int32.le_iff_toInt_le, Int32.lt_iff_toInt_lt, ← Int32.toInt_inj, ← Int64.toInt_inj, Int32.toInt_toInt64, (show (0 : Int32).toInt = 0 from by decide), (show (0 : Int64).toInt = 0 from by decide), (show (1 : Int32).toInt = 1 from by decide), (show (1 : Int64).toInt = 1 from by decide), (show (2 : Int32).toInt = 2 from by decide), (show (2 : Int64).toInt = 2 from by decide)] at *; omega)))]
theorem lf_c_isForm_2 (v : Int32) (c_1 : ¬ v < 0) (c_2 : 2 < v) : (0 : Int32) = if 0 ≤ v ∧ v ≤ 2 then 1 else 0 := by
  repeat first | rfl | rw [if_pos (by (first | omega | (simp only [Int64.le_iff_toInt_le, Int64.lt_iff_toInt_lt, Int32.le_iff_toInt_le, Int32.lt_iff_toInt_lt, ← Int32.toInt_inj, ← Int64.toInt_inj, Int32.toInt_toInt64, (show (0 : Int32).toInt = 0 from by decide), (show (0 : Int64).toInt = 0 from by decide), (show (1 : Int32).toInt = 1 from by decide), (show (1 : Int64).toInt = 1 from by decide), (show (2 : Int32).toInt = 2 from by decide), (show (2 : Int64).toInt = 2 from by decide)] at *; omega)))] | rw [if_neg (by (first | omega | (simp only [Int64.le_iff_toInt_le, Int64.lt_iff_toInt_lt, Int32.le_iff_toInt_le, Int32.lt_iff_toInt_lt, ← Int32.toInt_inj, ← Int64.toInt_inj, Int32.toInt_toInt64, (show (0 : Int32).toInt = 0 from by decide), (show (0 : Int64).toInt = 0 from by decide), (show (1 : Int32).toInt = 1 from by decide), (show (1 : Int64).toInt = 1 from by decide), (show (2 : Int32).toInt = 2 from by decide), (show (2 : Int64).toInt = 2 from by decide)] at *; omega)))]
theorem lf_c_isForm_3 (v : Int32) (c_1 : ¬ v < 0) (c_2 : ¬ 2 < v) : (1 : Int32) = if 0 ≤ v ∧ v ≤ 2 then 1 else 0 := by
  repeat first | rfl | rw [if_pos (by (first | omega | (simp only [Int64.le_iff_toInt_le, Int64.lt_iff_toInt_lt, Int32.le_iff_toInt_le, Int32.lt_iff_toInt_lt, ← Int32.toInt_inj, ← Int64.toInt_inj, Int32.toInt_toInt64, (show (0 : Int32).toInt = 0 from by decide), (show (0 : Int64).toInt = 0 from by decide), (show (1 : Int32).toInt = 1 from by decide), (show (1 : Int64).toInt = 1 from by decide), (show (2 : Int32).toInt = 2 from by decide), (show (2 : Int64).toInt = 2 from by decide)] at *; omega)))] | rw [if_neg (by (first | omega | (simp only [Int64.le_iff_toInt_le, Int64.lt_iff_toInt_lt, Int32.le_iff_toInt_le, Int32.lt_iff_toInt_lt, ← Int32.toInt_inj, ← Int64.toInt_inj, Int32.toInt_toInt64, (show (0 : Int32).toInt = 0 from by decide), (show (0 : Int64).toInt = 0 from by decide), (show (1 : Int32).toInt = 1 from by decide), (show (1 : Int64).toInt = 1 from by decide), (show (2 : Int32).toInt = 2 from by decide), (show (2 : Int64).toInt = 2 from by decide)] at *; omega)))]
set_option maxHeartbeats 4000000 in
set_option maxRecDepth 100000 in
theorem c_isForm (l : Launch) (dC : Nat → ClassId) (dI : Nat → Nat → Nat) (cI cJ cQ : ClassId) (sz : Nat) (v : Int32) : Met l yX11_isForm (kW yX11_isForm cX11_isForm 1 (some .boolean)) { frames := 0, cells := 0, slots := 0, locals := 0 } (kPre dC dI cI cJ cQ sz [.int v] []) (va_Qi (fun (r : Int32) (_ : Unit) => r = if 0 ≤ v ∧ v ≤ 2 then 1 else 0) (fun _ t₀ => kB dC dI cI cJ cQ (va_A [] sz) [] t₀) (va_A [] sz)) 0 0 (va_A [] sz) := by
  refine Met.ofW (cc := cX11_isForm) (maxL := 1) (ret := (some .boolean)) (by decide) rfl ?_
  intro p₀ e₀ s₀ m₀ args below meth c₀ s₁ B hml hv₀
  obtain ⟨rfl, hsz, hP, hK, hD0, hN⟩ := hv₀
  have hx₀ := B.exec
  have hb := B.bytes
  have hr := B.returns
  have hts := atoms_spec (ws := (kW yX11_isForm cX11_isForm 1 (some .boolean))) B.pre
  have hts := fun w h => hts w (List.mem_cons_of_mem _ h)
  have hown : s₀.vm.findClass RX11 = some m₀.cls := findClass_of_methodNamed B.named
  have hlocks := B.notSynchronized
  subst hsz
  have hD := hD0.self (sz := s₀.heap.size)
  generalize hAe : va_A [] s₀.heap.size = A at hD ⊢
  have hA : ∀ q : Nat, s₀.heap.size ≤ q → A q := fun q h => by rw [← hAe]; exact Or.inr h
  have hS : va_S A s₀.heap s₀.heap [] := va_S.rf
  have hP : va_P (dC, dI) vwCl [] s₀.heap := hP
  have hl := lv_entry ([.int v]) (n := 1) (Nat.le_of_ble_eq_true rfl)
  rw [lg_entry_eq]
  generalize (lg_sl ([.int v]) ++ List.replicate (1 - (lg_sl ([.int v])).length) Slot.unset).toArray = ls at hl ⊢
  have hl : lv_has ls 1 [(0, .int v)] := hl
  obtain ⟨H, hH⟩ : ∃ z : Heap, z = s₀.heap := ⟨_, rfl⟩
  rw [← hH] at hP
  have hS : va_S A s₀.heap H [] := by rw [hH]; exact hS
  refine k_heap hH ?_
  have hD : va_D A [] := hD
  obtain ⟨locs, hlo⟩ : ∃ z : List Loc, z = [] := ⟨_, rfl⟩
  rw [← hlo] at hS ⊢
  clear hlo hH hAe hD0
  refine lv_iload_n hx₀ hb dX11_isForm_0 rfl (lv_at hl 0 rfl) ?_
  refine lv_if_lt (tgt := 13) hx₀ hb dX11_isForm_1 (by decide) (fun c_1 => ?_) (fun c_1 => ?_)
  · refine lv_iconst (v := 0) hx₀ hb dX11_isForm_13 (by decide +kernel) ?_
    have hP9 := hP.sub (ws' := []) [] rfl
    have hD9 := hD.sub (ws' := []) [] (by decide) rfl
    exact W.zret (v := 0) hx₀ hb hr (by decide +kernel) (fun t₀ ht hW => ⟨⟨0, (), rfl, (lf_c_isForm_1 v c_1), by rw [ht]; exact hP9, va_K.moved hW.alike hK, hD9⟩, hS.F ht⟩) hS.2.2 dX11_isForm_14
  · refine lv_iload_n hx₀ hb dX11_isForm_4 rfl (lv_at hl 0 rfl) ?_
    refine lv_iconst (v := 2) hx₀ hb dX11_isForm_5 (by decide +kernel) ?_
    refine lv_icmp_gt (tgt := 13) hx₀ hb dX11_isForm_6 (by decide) (fun c_2 => ?_) (fun c_2 => ?_)
    · refine lv_iconst (v := 0) hx₀ hb dX11_isForm_13 (by decide +kernel) ?_
      have hP9 := hP.sub (ws' := []) [] rfl
      have hD9 := hD.sub (ws' := []) [] (by decide) rfl
      exact W.zret (v := 0) hx₀ hb hr (by decide +kernel) (fun t₀ ht hW => ⟨⟨0, (), rfl, (lf_c_isForm_2 v c_1 c_2), by rw [ht]; exact hP9, va_K.moved hW.alike hK, hD9⟩, hS.F ht⟩) hS.2.2 dX11_isForm_14
    · refine lv_iconst (v := 1) hx₀ hb dX11_isForm_9 (by decide +kernel) ?_
      refine lv_goto (tgt := 14) hx₀ hb dX11_isForm_10 (by decide) ?_
      have hP9 := hP.sub (ws' := []) [] rfl
      have hD9 := hD.sub (ws' := []) [] (by decide) rfl
      exact W.zret (v := 1) hx₀ hb hr (by decide +kernel) (fun t₀ ht hW => ⟨⟨1, (), rfl, (lf_c_isForm_3 v c_1 c_2), by rw [ht]; exact hP9, va_K.moved hW.alike hK, hD9⟩, hS.F ht⟩) hS.2.2 dX11_isForm_14
set_option maxHeartbeats 4000000 in
set_option maxRecDepth 100000 in
theorem c_found1 (l : Launch) (dC : Nat → ClassId) (dI : Nat → Nat → Nat) (cI cJ cQ : ClassId) (sz : Nat) (hx : Nat) (aLa : Nat) (aPa : Nat) (aGe : Nat) (aFl : Nat) (aTr : Nat) (aBe : Nat) (aLu : Nat) (aLo : Nat) (vSf : Nat) (vSm : Nat) (vCo : Nat) (vSh : Nat) : Met l yX11_found (kW yX11_found cX11_found 2 (some .int)) { frames := 0, cells := 0, slots := 0, locals := 0 } (kPre dC dI cI cJ cQ sz [.ref hx, .int 1] [(hx, .inr (10, [.ref aLa, .ref aPa, .ref aGe, .ref aFl, .ref aTr, .ref aBe, .ref aLu, .ref aLo, .ref vSf, .ref vSm, .ref vCo, .ref vSh, .int 0, .int 0, .int 0]))]) (va_Qi (fun (r : Int32) (_ : Unit) => r = (-11)) (fun _ t₀ => kB dC dI cI cJ cQ (va_A [(hx, .inr (10, [.ref aLa, .ref aPa, .ref aGe, .ref aFl, .ref aTr, .ref aBe, .ref aLu, .ref aLo, .ref vSf, .ref vSm, .ref vCo, .ref vSh, .int 0, .int 0, .int 0]))] sz) [(hx, .inr (10, [.ref aLa, .ref aPa, .ref aGe, .ref aFl, .ref aTr, .ref aBe, .ref aLu, .ref aLo, .ref vSf, .ref vSm, .ref vCo, .ref vSh, .int 0, .int 0, .int 1]))] t₀) (va_A [(hx, .inr (10, [.ref aLa, .ref aPa, .ref aGe, .ref aFl, .ref aTr, .ref aBe, .ref aLu, .ref aLo, .ref vSf, .ref vSm, .ref vCo, .ref vSh, .int 0, .int 0, .int 0]))] sz)) 0 0 (va_A [(hx, .inr (10, [.ref aLa, .ref aPa, .ref aGe, .ref aFl, .ref aTr, .ref aBe, .ref aLu, .ref aLo, .ref vSf, .ref vSm, .ref vCo, .ref vSh, .int 0, .int 0, .int 0]))] sz) := by
  refine Met.ofW (cc := cX11_found) (maxL := 2) (ret := (some .int)) (by decide) rfl ?_
  intro p₀ e₀ s₀ m₀ args below meth c₀ s₁ B hml hv₀
  obtain ⟨rfl, hsz, hP, hK, hD0, hN⟩ := hv₀
  have hx₀ := B.exec
  have hb := B.bytes
  have hr := B.returns
  have hts := atoms_spec (ws := (kW yX11_found cX11_found 2 (some .int))) B.pre
  have hts := fun w h => hts w (List.mem_cons_of_mem _ h)
  have hown : s₀.vm.findClass RX11 = some m₀.cls := findClass_of_methodNamed B.named
  have hlocks := B.notSynchronized
  subst hsz
  have hD := hD0.self (sz := s₀.heap.size)
  generalize hAe : va_A [(hx, .inr (10, [.ref aLa, .ref aPa, .ref aGe, .ref aFl, .ref aTr, .ref aBe, .ref aLu, .ref aLo, .ref vSf, .ref vSm, .ref vCo, .ref vSh, .int 0, .int 0, .int 0]))] s₀.heap.size = A at hD ⊢
  have hA : ∀ q : Nat, s₀.heap.size ≤ q → A q := fun q h => by rw [← hAe]; exact Or.inr h
  have hS : va_S A s₀.heap s₀.heap [] := va_S.rf
  have hP : va_P (dC, dI) vwCl [(hx, .inr (10, [.ref aLa, .ref aPa, .ref aGe, .ref aFl, .ref aTr, .ref aBe, .ref aLu, .ref aLo, .ref vSf, .ref vSm, .ref vCo, .ref vSh, .int 0, .int 0, .int 0]))] s₀.heap := hP
  have hl := lv_entry ([.ref hx, .int 1]) (n := 2) (Nat.le_of_ble_eq_true rfl)
  rw [lg_entry_eq]
  generalize (lg_sl ([.ref hx, .int 1]) ++ List.replicate (2 - (lg_sl ([.ref hx, .int 1])).length) Slot.unset).toArray = ls at hl ⊢
  have hl : lv_has ls 2 [(0, .ref hx), (1, .int 1)] := hl
  obtain ⟨H, hH⟩ : ∃ z : Heap, z = s₀.heap := ⟨_, rfl⟩
  rw [← hH] at hP
  have hS : va_S A s₀.heap H [] := by rw [hH]; exact hS
  refine k_heap hH ?_
  have hD : va_D A [(hx, .inr (10, [.ref aLa, .ref aPa, .ref aGe, .ref aFl, .ref aTr, .ref aBe, .ref aLu, .ref aLo, .ref vSf, .ref vSm, .ref vCo, .ref vSh, .int 0, .int 0, .int 0]))] := hD
  obtain ⟨locs, hlo⟩ : ∃ z : List Loc, z = [] := ⟨_, rfl⟩
  rw [← hlo] at hS ⊢
  clear hlo hH hAe hD0
  refine lv_aload_n hx₀ hb dX11_found_0 rfl (lv_at hl 0 rfl) ?_
  refine lv_iload_n hx₀ hb dX11_found_1 rfl (lv_at hl 1 rfl) ?_
  refine va_put (D := (dC, dI)) (ci := 10) (v := .int 1) (ty := .int) (C := RX11) (T := TX11) (N := 15) hx₀ hb hts inlX11 tyX11 tyX11_ok nmX11 hown hK hP hD hS 0 rfl rfl 14 (by decide) (hts (.fieldLink RX11 269 "BittenStick" "finding" "I") wd_388) (fun _ h9 => h9) rfl (by decide +kernel) rfl rfl (Nat.le_of_ble_eq_true rfl) dX11_found_2 (fun H locs hP hD hS => ?_)
  have hP : va_P (dC, dI) vwCl [(hx, .inr (10, [.ref aLa, .ref aPa, .ref aGe, .ref aFl, .ref aTr, .ref aBe, .ref aLu, .ref aLo, .ref vSf, .ref vSm, .ref vCo, .ref vSh, .int 0, .int 0, .int 1]))] H := hP
  have hD : va_D A [(hx, .inr (10, [.ref aLa, .ref aPa, .ref aGe, .ref aFl, .ref aTr, .ref aBe, .ref aLu, .ref aLo, .ref vSf, .ref vSm, .ref vCo, .ref vSh, .int 0, .int 0, .int 1]))] := hD
  refine lv_bipush (v := (-10)) hx₀ hb dX11_found_5 (by decide +kernel) ?_
  refine lv_iload_n hx₀ hb dX11_found_7 rfl (lv_at hl 1 rfl) ?_
  refine lv_isub hx₀ hb dX11_found_8 ?_
  refine k_topi (v := (-11)) (by decide +kernel) ?_
  have hP9 := hP.sub (ws' := [(hx, .inr (10, [.ref aLa, .ref aPa, .ref aGe, .ref aFl, .ref aTr, .ref aBe, .ref aLu, .ref aLo, .ref vSf, .ref vSm, .ref vCo, .ref vSh, .int 0, .int 0, .int 1]))]) [0] rfl
  have hD9 := hD.sub (ws' := [(hx, .inr (10, [.ref aLa, .ref aPa, .ref aGe, .ref aFl, .ref aTr, .ref aBe, .ref aLu, .ref aLo, .ref vSf, .ref vSm, .ref vCo, .ref vSh, .int 0, .int 0, .int 1]))]) [0] (by decide) rfl
  exact W.iret (v := (-11)) hx₀ hb hr (fun t₀ ht hW => ⟨⟨(-11), (), rfl, rfl, by rw [ht]; exact hP9, va_K.moved hW.alike hK, hD9⟩, hS.F ht⟩) hS.2.2 dX11_found_9
set_option maxHeartbeats 4000000 in
set_option maxRecDepth 100000 in
theorem c_found5 (l : Launch) (dC : Nat → ClassId) (dI : Nat → Nat → Nat) (cI cJ cQ : ClassId) (sz : Nat) (hx : Nat) (aLa : Nat) (aPa : Nat) (aGe : Nat) (aFl : Nat) (aTr : Nat) (aBe : Nat) (aLu : Nat) (aLo : Nat) (vSf : Nat) (vSm : Nat) (vCo : Nat) (vSh : Nat) : Met l yX11_found (kW yX11_found cX11_found 2 (some .int)) { frames := 0, cells := 0, slots := 0, locals := 0 } (kPre dC dI cI cJ cQ sz [.ref hx, .int 5] [(hx, .inr (10, [.ref aLa, .ref aPa, .ref aGe, .ref aFl, .ref aTr, .ref aBe, .ref aLu, .ref aLo, .ref vSf, .ref vSm, .ref vCo, .ref vSh, .int 0, .int 0, .int 0]))]) (va_Qi (fun (r : Int32) (_ : Unit) => r = (-15)) (fun _ t₀ => kB dC dI cI cJ cQ (va_A [(hx, .inr (10, [.ref aLa, .ref aPa, .ref aGe, .ref aFl, .ref aTr, .ref aBe, .ref aLu, .ref aLo, .ref vSf, .ref vSm, .ref vCo, .ref vSh, .int 0, .int 0, .int 0]))] sz) [(hx, .inr (10, [.ref aLa, .ref aPa, .ref aGe, .ref aFl, .ref aTr, .ref aBe, .ref aLu, .ref aLo, .ref vSf, .ref vSm, .ref vCo, .ref vSh, .int 0, .int 0, .int 5]))] t₀) (va_A [(hx, .inr (10, [.ref aLa, .ref aPa, .ref aGe, .ref aFl, .ref aTr, .ref aBe, .ref aLu, .ref aLo, .ref vSf, .ref vSm, .ref vCo, .ref vSh, .int 0, .int 0, .int 0]))] sz)) 0 0 (va_A [(hx, .inr (10, [.ref aLa, .ref aPa, .ref aGe, .ref aFl, .ref aTr, .ref aBe, .ref aLu, .ref aLo, .ref vSf, .ref vSm, .ref vCo, .ref vSh, .int 0, .int 0, .int 0]))] sz) := by
  refine Met.ofW (cc := cX11_found) (maxL := 2) (ret := (some .int)) (by decide) rfl ?_
  intro p₀ e₀ s₀ m₀ args below meth c₀ s₁ B hml hv₀
  obtain ⟨rfl, hsz, hP, hK, hD0, hN⟩ := hv₀
  have hx₀ := B.exec
  have hb := B.bytes
  have hr := B.returns
  have hts := atoms_spec (ws := (kW yX11_found cX11_found 2 (some .int))) B.pre
  have hts := fun w h => hts w (List.mem_cons_of_mem _ h)
  have hown : s₀.vm.findClass RX11 = some m₀.cls := findClass_of_methodNamed B.named
  have hlocks := B.notSynchronized
  subst hsz
  have hD := hD0.self (sz := s₀.heap.size)
  generalize hAe : va_A [(hx, .inr (10, [.ref aLa, .ref aPa, .ref aGe, .ref aFl, .ref aTr, .ref aBe, .ref aLu, .ref aLo, .ref vSf, .ref vSm, .ref vCo, .ref vSh, .int 0, .int 0, .int 0]))] s₀.heap.size = A at hD ⊢
  have hA : ∀ q : Nat, s₀.heap.size ≤ q → A q := fun q h => by rw [← hAe]; exact Or.inr h
  have hS : va_S A s₀.heap s₀.heap [] := va_S.rf
  have hP : va_P (dC, dI) vwCl [(hx, .inr (10, [.ref aLa, .ref aPa, .ref aGe, .ref aFl, .ref aTr, .ref aBe, .ref aLu, .ref aLo, .ref vSf, .ref vSm, .ref vCo, .ref vSh, .int 0, .int 0, .int 0]))] s₀.heap := hP
  have hl := lv_entry ([.ref hx, .int 5]) (n := 2) (Nat.le_of_ble_eq_true rfl)
  rw [lg_entry_eq]
  generalize (lg_sl ([.ref hx, .int 5]) ++ List.replicate (2 - (lg_sl ([.ref hx, .int 5])).length) Slot.unset).toArray = ls at hl ⊢
  have hl : lv_has ls 2 [(0, .ref hx), (1, .int 5)] := hl
  obtain ⟨H, hH⟩ : ∃ z : Heap, z = s₀.heap := ⟨_, rfl⟩
  rw [← hH] at hP
  have hS : va_S A s₀.heap H [] := by rw [hH]; exact hS
  refine k_heap hH ?_
  have hD : va_D A [(hx, .inr (10, [.ref aLa, .ref aPa, .ref aGe, .ref aFl, .ref aTr, .ref aBe, .ref aLu, .ref aLo, .ref vSf, .ref vSm, .ref vCo, .ref vSh, .int 0, .int 0, .int 0]))] := hD
  obtain ⟨locs, hlo⟩ : ∃ z : List Loc, z = [] := ⟨_, rfl⟩
  rw [← hlo] at hS ⊢
  clear hlo hH hAe hD0
  refine lv_aload_n hx₀ hb dX11_found_0 rfl (lv_at hl 0 rfl) ?_
  refine lv_iload_n hx₀ hb dX11_found_1 rfl (lv_at hl 1 rfl) ?_
  refine va_put (D := (dC, dI)) (ci := 10) (v := .int 5) (ty := .int) (C := RX11) (T := TX11) (N := 15) hx₀ hb hts inlX11 tyX11 tyX11_ok nmX11 hown hK hP hD hS 0 rfl rfl 14 (by decide) (hts (.fieldLink RX11 269 "BittenStick" "finding" "I") wd_388) (fun _ h9 => h9) rfl (by decide +kernel) rfl rfl (Nat.le_of_ble_eq_true rfl) dX11_found_2 (fun H locs hP hD hS => ?_)
  have hP : va_P (dC, dI) vwCl [(hx, .inr (10, [.ref aLa, .ref aPa, .ref aGe, .ref aFl, .ref aTr, .ref aBe, .ref aLu, .ref aLo, .ref vSf, .ref vSm, .ref vCo, .ref vSh, .int 0, .int 0, .int 5]))] H := hP
  have hD : va_D A [(hx, .inr (10, [.ref aLa, .ref aPa, .ref aGe, .ref aFl, .ref aTr, .ref aBe, .ref aLu, .ref aLo, .ref vSf, .ref vSm, .ref vCo, .ref vSh, .int 0, .int 0, .int 5]))] := hD
  refine lv_bipush (v := (-10)) hx₀ hb dX11_found_5 (by decide +kernel) ?_
  refine lv_iload_n hx₀ hb dX11_found_7 rfl (lv_at hl 1 rfl) ?_
  refine lv_isub hx₀ hb dX11_found_8 ?_
  refine k_topi (v := (-15)) (by decide +kernel) ?_
  have hP9 := hP.sub (ws' := [(hx, .inr (10, [.ref aLa, .ref aPa, .ref aGe, .ref aFl, .ref aTr, .ref aBe, .ref aLu, .ref aLo, .ref vSf, .ref vSm, .ref vCo, .ref vSh, .int 0, .int 0, .int 5]))]) [0] rfl
  have hD9 := hD.sub (ws' := [(hx, .inr (10, [.ref aLa, .ref aPa, .ref aGe, .ref aFl, .ref aTr, .ref aBe, .ref aLu, .ref aLo, .ref vSf, .ref vSm, .ref vCo, .ref vSh, .int 0, .int 0, .int 5]))]) [0] (by decide) rfl
  exact W.iret (v := (-15)) hx₀ hb hr (fun t₀ ht hW => ⟨⟨(-15), (), rfl, rfl, by rw [ht]; exact hP9, va_K.moved hW.alike hK, hD9⟩, hS.F ht⟩) hS.2.2 dX11_found_9
theorem lf_c_sheetOf_1 (s : Int32) (s0 : Nat) (s1 : Nat) (s2 : Nat) (s3 : Nat) (c_1 : s < 0) : (none : Option Nat) = if s = 0 then some s0 else if s = 1 then some s1 else if s = 2 then some s2 else if s = 3 then some s3 else none := by
  repeat first | rfl | rw [if_pos (by (first | omega | (simp only [Int64.le_iff_toInt_le, Int64.lt_iff_toInt_lt, Int32.le_iff_toInt_le, Int32.lt_iff_toInt_lt, ← Int32.toInt_inj, ← Int64.toInt_inj, Int32.toInt_toInt64, (show (0 : Int32).toInt = 0 from by decide), (show (0 : Int64).toInt = 0 from by decide), (show (1 : Int32).toInt = 1 from by decide), (show (1 : Int64).toInt = 1 from by decide), (show (2 : Int32).toInt = 2 from by decide), (show (2 : Int64).toInt = 2 from by decide), (show (3 : Int32).toInt = 3 from by decide), (show (3 : Int64).toInt = 3 from by decide)] at *; omega)))] | rw [if_neg (by (first | omega | (simp only [Int64.le_iff_toInt_le, Int64.lt_iff_toInt_lt, Int32.le_iff_toInt_le, Int32.lt_iff_toInt_lt, ← Int32.toInt_inj, ← Int64.toInt_inj, Int32.toInt_toInt64, (show (0 : Int32).toInt = 0 from by decide), (show (0 : Int64).toInt = 0 from by decide), (show (1 : Int32).toInt = 1 from by decide), (show (1 : Int64).toInt = 1 from by decide), (show (2 : Int32).toInt = 2 from by decide), (show (2 : Int64).toInt = 2 from by decide), (show (3 : Int32).toInt = 3 from by decide), (show (3 : Int64).toInt = 3 from by decide)] at *; omega)))]
theorem lf_c_sheetOf_2 (s : Int32) (s0 : Nat) (s1 : Nat) (s2 : Nat) (s3 : Nat) (c_1 : ¬ s < 0) (c_2 : 4 ≤ s) : (none : Option Nat) = if s = 0 then some s0 else if s = 1 then some s1 else if s = 2 then some s2 else if s = 3 then some s3 else none := by
  repeat first | rfl | rw [if_pos (by (first | omega | (simp only [Int64.le_iff_toInt_le, Int64.lt_iff_toInt_lt, Int32.le_iff_toInt_le, Int32.lt_iff_toInt_lt, ← Int32.toInt_inj, ← Int64.toInt_inj, Int32.toInt_toInt64, (show (0 : Int32).toInt = 0 from by decide), (show (0 : Int64).toInt = 0 from by decide), (show (1 : Int32).toInt = 1 from by decide), (show (1 : Int64).toInt = 1 from by decide), (show (2 : Int32).toInt = 2 from by decide), (show (2 : Int64).toInt = 2 from by decide), (show (3 : Int32).toInt = 3 from by decide), (show (3 : Int64).toInt = 3 from by decide), (show (4 : Int32).toInt = 4 from by decide), (show (4 : Int64).toInt = 4 from by decide)] at *; omega)))] | rw [if_neg (by (first | omega | (simp only [Int64.le_iff_toInt_le, Int64.lt_iff_toInt_lt, Int32.le_iff_toInt_le, Int32.lt_iff_toInt_lt, ← Int32.toInt_inj, ← Int64.toInt_inj, Int32.toInt_toInt64, (show (0 : Int32).toInt = 0 from by decide), (show (0 : Int64).toInt = 0 from by decide), (show (1 : Int32).toInt = 1 from by decide), (show (1 : Int64).toInt = 1 from by decide), (show (2 : Int32).toInt = 2 from by decide), (show (2 : Int64).toInt = 2 from by decide), (show (3 : Int32).toInt = 3 from by decide), (show (3 : Int64).toInt = 3 from by decide), (show (4 : Int32).toInt = 4 from by decide), (show (4 : Int64).toInt = 4 from by decide)] at *; omega)))]
theorem lf_c_sheetOf_3 (s : Int32) (c_1 : ¬ s < 0) (c_2 : ¬ 4 ≤ s) : 0 ≤ s.toInt ∧ s.toInt < 4 := by
  first | rfl | decide | (first | omega | (simp only [Int64.le_iff_toInt_le, Int64.lt_iff_toInt_lt, Int32.le_iff_toInt_le, Int32.lt_iff_toInt_lt, ← Int32.toInt_inj, ← Int64.toInt_inj, Int32.toInt_toInt64, (show (0 : Int32).toInt = 0 from by decide), (show (0 : Int64).toInt = 0 from by decide), (show (4 : Int32).toInt = 4 from by decide), (show (4 : Int64).toInt = 4 from by decide)] at *; omega))
theorem lf_c_sheetOf_4 (s0 : Nat) (s1 : Nat) (s2 : Nat) (s3 : Nat)  : (some s0 : Option Nat) = if (0 : Int32) = 0 then some s0 else if (0 : Int32) = 1 then some s1 else if (0 : Int32) = 2 then some s2 else if (0 : Int32) = 3 then some s3 else none := by
  repeat first | rfl | rw [if_pos (by (first | omega | (simp only [Int64.le_iff_toInt_le, Int64.lt_iff_toInt_lt, Int32.le_iff_toInt_le, Int32.lt_iff_toInt_lt, ← Int32.toInt_inj, ← Int64.toInt_inj, Int32.toInt_toInt64, (show (0 : Int32).toInt = 0 from by decide), (show (0 : Int64).toInt = 0 from by decide), (show (1 : Int32).toInt = 1 from by decide), (show (1 : Int64).toInt = 1 from by decide), (show (2 : Int32).toInt = 2 from by decide), (show (2 : Int64).toInt = 2 from by decide), (show (3 : Int32).toInt = 3 from by decide), (show (3 : Int64).toInt = 3 from by decide)] at *; omega)))] | rw [if_neg (by (first | omega | (simp only [Int64.le_iff_toInt_le, Int64.lt_iff_toInt_lt, Int32.le_iff_toInt_le, Int32.lt_iff_toInt_lt, ← Int32.toInt_inj, ← Int64.toInt_inj, Int32.toInt_toInt64, (show (0 : Int32).toInt = 0 from by decide), (show (0 : Int64).toInt = 0 from by decide), (show (1 : Int32).toInt = 1 from by decide), (show (1 : Int64).toInt = 1 from by decide), (show (2 : Int32).toInt = 2 from by decide), (show (2 : Int64).toInt = 2 from by decide), (show (3 : Int32).toInt = 3 from by decide), (show (3 : Int64).toInt = 3 from by decide)] at *; omega)))]
theorem lf_c_sheetOf_5 (s1 : Nat) (s0 : Nat) (s2 : Nat) (s3 : Nat)  : (some s1 : Option Nat) = if (1 : Int32) = 0 then some s0 else if (1 : Int32) = 1 then some s1 else if (1 : Int32) = 2 then some s2 else if (1 : Int32) = 3 then some s3 else none := by
  repeat first | rfl | rw [if_pos (by (first | omega | (simp only [Int64.le_iff_toInt_le, Int64.lt_iff_toInt_lt, Int32.le_iff_toInt_le, Int32.lt_iff_toInt_lt, ← Int32.toInt_inj, ← Int64.toInt_inj, Int32.toInt_toInt64, (show (0 : Int32).toInt = 0 from by decide), (show (0 : Int64).toInt = 0 from by decide), (show (1 : Int32).toInt = 1 from by decide), (show (1 : Int64).toInt = 1 from by decide), (show (2 : Int32).toInt = 2 from by decide), (show (2 : Int64).toInt = 2 from by decide), (show (3 : Int32).toInt = 3 from by decide), (show (3 : Int64).toInt = 3 from by decide)] at *; omega)))] | rw [if_neg (by (first | omega | (simp only [Int64.le_iff_toInt_le, Int64.lt_iff_toInt_lt, Int32.le_iff_toInt_le, Int32.lt_iff_toInt_lt, ← Int32.toInt_inj, ← Int64.toInt_inj, Int32.toInt_toInt64, (show (0 : Int32).toInt = 0 from by decide), (show (0 : Int64).toInt = 0 from by decide), (show (1 : Int32).toInt = 1 from by decide), (show (1 : Int64).toInt = 1 from by decide), (show (2 : Int32).toInt = 2 from by decide), (show (2 : Int64).toInt = 2 from by decide), (show (3 : Int32).toInt = 3 from by decide), (show (3 : Int64).toInt = 3 from by decide)] at *; omega)))]
theorem lf_c_sheetOf_6 (s2 : Nat) (s0 : Nat) (s1 : Nat) (s3 : Nat)  : (some s2 : Option Nat) = if (2 : Int32) = 0 then some s0 else if (2 : Int32) = 1 then some s1 else if (2 : Int32) = 2 then some s2 else if (2 : Int32) = 3 then some s3 else none := by
  repeat first | rfl | rw [if_pos (by (first | omega | (simp only [Int64.le_iff_toInt_le, Int64.lt_iff_toInt_lt, Int32.le_iff_toInt_le, Int32.lt_iff_toInt_lt, ← Int32.toInt_inj, ← Int64.toInt_inj, Int32.toInt_toInt64, (show (0 : Int32).toInt = 0 from by decide), (show (0 : Int64).toInt = 0 from by decide), (show (1 : Int32).toInt = 1 from by decide), (show (1 : Int64).toInt = 1 from by decide), (show (2 : Int32).toInt = 2 from by decide), (show (2 : Int64).toInt = 2 from by decide), (show (3 : Int32).toInt = 3 from by decide), (show (3 : Int64).toInt = 3 from by decide)] at *; omega)))] | rw [if_neg (by (first | omega | (simp only [Int64.le_iff_toInt_le, Int64.lt_iff_toInt_lt, Int32.le_iff_toInt_le, Int32.lt_iff_toInt_lt, ← Int32.toInt_inj, ← Int64.toInt_inj, Int32.toInt_toInt64, (show (0 : Int32).toInt = 0 from by decide), (show (0 : Int64).toInt = 0 from by decide), (show (1 : Int32).toInt = 1 from by decide), (show (1 : Int64).toInt = 1 from by decide), (show (2 : Int32).toInt = 2 from by decide), (show (2 : Int64).toInt = 2 from by decide), (show (3 : Int32).toInt = 3 from by decide), (show (3 : Int64).toInt = 3 from by decide)] at *; omega)))]
theorem lf_c_sheetOf_7 (s3 : Nat) (s0 : Nat) (s1 : Nat) (s2 : Nat)  : (some s3 : Option Nat) = if (3 : Int32) = 0 then some s0 else if (3 : Int32) = 1 then some s1 else if (3 : Int32) = 2 then some s2 else if (3 : Int32) = 3 then some s3 else none := by
  repeat first | rfl | rw [if_pos (by (first | omega | (simp only [Int64.le_iff_toInt_le, Int64.lt_iff_toInt_lt, Int32.le_iff_toInt_le, Int32.lt_iff_toInt_lt, ← Int32.toInt_inj, ← Int64.toInt_inj, Int32.toInt_toInt64, (show (0 : Int32).toInt = 0 from by decide), (show (0 : Int64).toInt = 0 from by decide), (show (1 : Int32).toInt = 1 from by decide), (show (1 : Int64).toInt = 1 from by decide), (show (2 : Int32).toInt = 2 from by decide), (show (2 : Int64).toInt = 2 from by decide), (show (3 : Int32).toInt = 3 from by decide), (show (3 : Int64).toInt = 3 from by decide)] at *; omega)))] | rw [if_neg (by (first | omega | (simp only [Int64.le_iff_toInt_le, Int64.lt_iff_toInt_lt, Int32.le_iff_toInt_le, Int32.lt_iff_toInt_lt, ← Int32.toInt_inj, ← Int64.toInt_inj, Int32.toInt_toInt64, (show (0 : Int32).toInt = 0 from by decide), (show (0 : Int64).toInt = 0 from by decide), (show (1 : Int32).toInt = 1 from by decide), (show (1 : Int64).toInt = 1 from by decide), (show (2 : Int32).toInt = 2 from by decide), (show (2 : Int64).toInt = 2 from by decide), (show (3 : Int32).toInt = 3 from by decide), (show (3 : Int64).toInt = 3 from by decide)] at *; omega)))]
theorem lf_c_sheetOf_8 (s : Int32) (c_1 : ¬ s < 0) (c_2 : ¬ 4 ≤ s) (c_3 : ¬ s = 0) (c_4 : ¬ s = 1) (c_5 : ¬ s = 2) (c_6 : ¬ s = 3) : False := by
  (first | omega | (simp only [Int64.le_iff_toInt_le, Int64.lt_iff_toInt_lt, Int32.le_iff_toInt_le, Int32.lt_iff_toInt_lt, ← Int32.toInt_inj, ← Int64.toInt_inj, Int32.toInt_toInt64, (show (0 : Int32).toInt = 0 from by decide), (show (0 : Int64).toInt = 0 from by decide), (show (1 : Int32).toInt = 1 from by decide), (show (1 : Int64).toInt = 1 from by decide), (show (2 : Int32).toInt = 2 from by decide), (show (2 : Int64).toInt = 2 from by decide), (show (3 : Int32).toInt = 3 from by decide), (show (3 : Int64).toInt = 3 from by decide), (show (4 : Int32).toInt = 4 from by decide), (show (4 : Int64).toInt = 4 from by decide)] at *; omega))
set_option maxHeartbeats 4000000 in
set_option maxRecDepth 100000 in
theorem c_sheetOf (l : Launch) (dC : Nat → ClassId) (dI : Nat → Nat → Nat) (cI cJ cQ : ClassId) (sz : Nat) (hx : Nat) (s : Int32) (aLa : Nat) (aPa : Nat) (aGe : Nat) (aFl : Nat) (aTr : Nat) (aBe : Nat) (aLu : Nat) (aLo : Nat) (vSf : Nat) (vSm : Nat) (vCo : Nat) (vSh : Nat) (s0 : Nat) (s1 : Nat) (s2 : Nat) (s3 : Nat) : Met l yX11_sheetOf (kW yX11_sheetOf cX11_sheetOf 2 (some (.object "BittenStick$Sheet"))) { frames := 0, cells := 0, slots := 0, locals := 0 } (kPre dC dI cI cJ cQ sz [.ref hx, .int s] [(hx, .inr (10, [.ref aLa, .ref aPa, .ref aGe, .ref aFl, .ref aTr, .ref aBe, .ref aLu, .ref aLo, .ref vSf, .ref vSm, .ref vCo, .ref vSh, .int 0, .int 0, .int 0])), (vSh, .inl (cQ, 4, .inr (.inr (.inr (.inr (fSh s0 s1 s2 s3))))))]) (va_Qq (fun (r : Option Nat) (_ : Unit) => r = if s = 0 then some s0 else if s = 1 then some s1 else if s = 2 then some s2 else if s = 3 then some s3 else none) (fun _ t₀ => kB dC dI cI cJ cQ (va_A [(hx, .inr (10, [.ref aLa, .ref aPa, .ref aGe, .ref aFl, .ref aTr, .ref aBe, .ref aLu, .ref aLo, .ref vSf, .ref vSm, .ref vCo, .ref vSh, .int 0, .int 0, .int 0])), (vSh, .inl (cQ, 4, .inr (.inr (.inr (.inr (fSh s0 s1 s2 s3))))))] sz) [(hx, .inr (10, [.ref aLa, .ref aPa, .ref aGe, .ref aFl, .ref aTr, .ref aBe, .ref aLu, .ref aLo, .ref vSf, .ref vSm, .ref vCo, .ref vSh, .int 0, .int 0, .int 0])), (vSh, .inl (cQ, 4, .inr (.inr (.inr (.inr (fSh s0 s1 s2 s3))))))] t₀) (va_A [(hx, .inr (10, [.ref aLa, .ref aPa, .ref aGe, .ref aFl, .ref aTr, .ref aBe, .ref aLu, .ref aLo, .ref vSf, .ref vSm, .ref vCo, .ref vSh, .int 0, .int 0, .int 0])), (vSh, .inl (cQ, 4, .inr (.inr (.inr (.inr (fSh s0 s1 s2 s3))))))] sz)) 0 0 (va_A [(hx, .inr (10, [.ref aLa, .ref aPa, .ref aGe, .ref aFl, .ref aTr, .ref aBe, .ref aLu, .ref aLo, .ref vSf, .ref vSm, .ref vCo, .ref vSh, .int 0, .int 0, .int 0])), (vSh, .inl (cQ, 4, .inr (.inr (.inr (.inr (fSh s0 s1 s2 s3))))))] sz) := by
  refine Met.ofW (cc := cX11_sheetOf) (maxL := 2) (ret := (some (.object "BittenStick$Sheet"))) (by decide) rfl ?_
  intro p₀ e₀ s₀ m₀ args below meth c₀ s₁ B hml hv₀
  obtain ⟨rfl, hsz, hP, hK, hD0, hN⟩ := hv₀
  have hx₀ := B.exec
  have hb := B.bytes
  have hr := B.returns
  have hts := atoms_spec (ws := (kW yX11_sheetOf cX11_sheetOf 2 (some (.object "BittenStick$Sheet")))) B.pre
  have hts := fun w h => hts w (List.mem_cons_of_mem _ h)
  have hown : s₀.vm.findClass RX11 = some m₀.cls := findClass_of_methodNamed B.named
  have hlocks := B.notSynchronized
  subst hsz
  have hD := hD0.self (sz := s₀.heap.size)
  generalize hAe : va_A [(hx, .inr (10, [.ref aLa, .ref aPa, .ref aGe, .ref aFl, .ref aTr, .ref aBe, .ref aLu, .ref aLo, .ref vSf, .ref vSm, .ref vCo, .ref vSh, .int 0, .int 0, .int 0])), (vSh, .inl (cQ, 4, .inr (.inr (.inr (.inr (fSh s0 s1 s2 s3))))))] s₀.heap.size = A at hD ⊢
  have hA : ∀ q : Nat, s₀.heap.size ≤ q → A q := fun q h => by rw [← hAe]; exact Or.inr h
  have hS : va_S A s₀.heap s₀.heap [] := va_S.rf
  have hP : va_P (dC, dI) vwCl [(hx, .inr (10, [.ref aLa, .ref aPa, .ref aGe, .ref aFl, .ref aTr, .ref aBe, .ref aLu, .ref aLo, .ref vSf, .ref vSm, .ref vCo, .ref vSh, .int 0, .int 0, .int 0])), (vSh, .inl (cQ, 4, .inr (.inr (.inr (.inr (fSh s0 s1 s2 s3))))))] s₀.heap := hP
  have hl := lv_entry ([.ref hx, .int s]) (n := 2) (Nat.le_of_ble_eq_true rfl)
  rw [lg_entry_eq]
  generalize (lg_sl ([.ref hx, .int s]) ++ List.replicate (2 - (lg_sl ([.ref hx, .int s])).length) Slot.unset).toArray = ls at hl ⊢
  have hl : lv_has ls 2 [(0, .ref hx), (1, .int s)] := hl
  obtain ⟨H, hH⟩ : ∃ z : Heap, z = s₀.heap := ⟨_, rfl⟩
  rw [← hH] at hP
  have hS : va_S A s₀.heap H [] := by rw [hH]; exact hS
  refine k_heap hH ?_
  have hD : va_D A [(hx, .inr (10, [.ref aLa, .ref aPa, .ref aGe, .ref aFl, .ref aTr, .ref aBe, .ref aLu, .ref aLo, .ref vSf, .ref vSm, .ref vCo, .ref vSh, .int 0, .int 0, .int 0])), (vSh, .inl (cQ, 4, .inr (.inr (.inr (.inr (fSh s0 s1 s2 s3))))))] := hD
  obtain ⟨locs, hlo⟩ : ∃ z : List Loc, z = [] := ⟨_, rfl⟩
  rw [← hlo] at hS ⊢
  clear hlo hH hAe hD0
  refine lv_iload_n hx₀ hb dX11_sheetOf_0 rfl (lv_at hl 1 rfl) ?_
  refine lv_if_lt (tgt := 22) hx₀ hb dX11_sheetOf_1 (by decide) (fun c_1 => ?_) (fun c_1 => ?_)
  · refine lv_null hx₀ hb dX11_sheetOf_22 ?_
    have hP9 := hP.sub (ws' := [(hx, .inr (10, [.ref aLa, .ref aPa, .ref aGe, .ref aFl, .ref aTr, .ref aBe, .ref aLu, .ref aLo, .ref vSf, .ref vSm, .ref vCo, .ref vSh, .int 0, .int 0, .int 0])), (vSh, .inl (cQ, 4, .inr (.inr (.inr (.inr (fSh s0 s1 s2 s3))))))]) [0, 1] rfl
    have hD9 := hD.sub (ws' := [(hx, .inr (10, [.ref aLa, .ref aPa, .ref aGe, .ref aFl, .ref aTr, .ref aBe, .ref aLu, .ref aLo, .ref vSf, .ref vSm, .ref vCo, .ref vSh, .int 0, .int 0, .int 0])), (vSh, .inl (cQ, 4, .inr (.inr (.inr (.inr (fSh s0 s1 s2 s3))))))]) [0, 1] (by decide) rfl
    exact W.aret (v := .null) hx₀ hb hr (Or.inl ⟨_, rfl⟩) (Or.inl rfl) (fun t₀ ht hW => ⟨⟨none, (), rfl, (lf_c_sheetOf_1 s s0 s1 s2 s3 c_1), by rw [ht]; exact hP9, va_K.moved hW.alike hK, hD9⟩, hS.F ht⟩) hS.2.2 dX11_sheetOf_23
  · refine lv_iload_n hx₀ hb dX11_sheetOf_4 rfl (lv_at hl 1 rfl) ?_
    refine lv_aload_n hx₀ hb dX11_sheetOf_5 rfl (lv_at hl 0 rfl) ?_
    refine va_get (D := (dC, dI)) (ci := 10) (v := .ref vSh) (C := RX11) (T := TX11) (N := 15) hx₀ hb hts inlX11 hown hK hP 0 rfl rfl 11 (by decide) (hts (.fieldLink RX11 79 "BittenStick" "sheets" "[LBittenStick$Sheet;") wd_49) (fun _ h9 => h9) rfl dX11_sheetOf_6 ?_
    refine va_alen (v := 4) hx₀ hb hK hP 1 2 rfl rfl rfl dX11_sheetOf_9 ?_
    refine lv_icmp_ge (tgt := 22) hx₀ hb dX11_sheetOf_10 (by decide) (fun c_2 => ?_) (fun c_2 => ?_)
    · refine lv_null hx₀ hb dX11_sheetOf_22 ?_
      have hP9 := hP.sub (ws' := [(hx, .inr (10, [.ref aLa, .ref aPa, .ref aGe, .ref aFl, .ref aTr, .ref aBe, .ref aLu, .ref aLo, .ref vSf, .ref vSm, .ref vCo, .ref vSh, .int 0, .int 0, .int 0])), (vSh, .inl (cQ, 4, .inr (.inr (.inr (.inr (fSh s0 s1 s2 s3))))))]) [0, 1] rfl
      have hD9 := hD.sub (ws' := [(hx, .inr (10, [.ref aLa, .ref aPa, .ref aGe, .ref aFl, .ref aTr, .ref aBe, .ref aLu, .ref aLo, .ref vSf, .ref vSm, .ref vCo, .ref vSh, .int 0, .int 0, .int 0])), (vSh, .inl (cQ, 4, .inr (.inr (.inr (.inr (fSh s0 s1 s2 s3))))))]) [0, 1] (by decide) rfl
      exact W.aret (v := .null) hx₀ hb hr (Or.inl ⟨_, rfl⟩) (Or.inl rfl) (fun t₀ ht hW => ⟨⟨none, (), rfl, (lf_c_sheetOf_2 s s0 s1 s2 s3 c_1 c_2), by rw [ht]; exact hP9, va_K.moved hW.alike hK, hD9⟩, hS.F ht⟩) hS.2.2 dX11_sheetOf_23
    · refine lv_aload_n hx₀ hb dX11_sheetOf_13 rfl (lv_at hl 0 rfl) ?_
      refine va_get (D := (dC, dI)) (ci := 10) (v := .ref vSh) (C := RX11) (T := TX11) (N := 15) hx₀ hb hts inlX11 hown hK hP 0 rfl rfl 11 (by decide) (hts (.fieldLink RX11 79 "BittenStick" "sheets" "[LBittenStick$Sheet;") wd_49) (fun _ h9 => h9) rfl dX11_sheetOf_14 ?_
      refine lv_iload_n hx₀ hb dX11_sheetOf_17 rfl (lv_at hl 1 rfl) ?_
      refine va_aldq hx₀ hb hK hP 1 2 rfl rfl (vp_in_iff.mpr (lf_c_sheetOf_3 s c_1 c_2)) dX11_sheetOf_18 ?_
      by_cases c_3 : s = 0
      · subst c_3
        refine W.eq (g2 := F0 m₀ 19 ls [.ref s0]) (by rw [fSh_0]; rfl) ?_
        refine lv_goto (tgt := 23) hx₀ hb dX11_sheetOf_19 (by decide) ?_
        have hP9 := hP.sub (ws' := [(hx, .inr (10, [.ref aLa, .ref aPa, .ref aGe, .ref aFl, .ref aTr, .ref aBe, .ref aLu, .ref aLo, .ref vSf, .ref vSm, .ref vCo, .ref vSh, .int 0, .int 0, .int 0])), (vSh, .inl (cQ, 4, .inr (.inr (.inr (.inr (fSh s0 s1 s2 s3))))))]) [0, 1] rfl
        have hD9 := hD.sub (ws' := [(hx, .inr (10, [.ref aLa, .ref aPa, .ref aGe, .ref aFl, .ref aTr, .ref aBe, .ref aLu, .ref aLo, .ref vSf, .ref vSm, .ref vCo, .ref vSh, .int 0, .int 0, .int 0])), (vSh, .inl (cQ, 4, .inr (.inr (.inr (.inr (fSh s0 s1 s2 s3))))))]) [0, 1] (by decide) rfl
        exact W.aret (v := .ref s0) hx₀ hb hr (Or.inl ⟨_, rfl⟩) (Or.inr ⟨_, rfl⟩) (fun t₀ ht hW => ⟨⟨(some s0), (), rfl, (lf_c_sheetOf_4 s0 s1 s2 s3 ), by rw [ht]; exact hP9, va_K.moved hW.alike hK, hD9⟩, hS.F ht⟩) hS.2.2 dX11_sheetOf_23
      by_cases c_4 : s = 1
      · subst c_4
        refine W.eq (g2 := F0 m₀ 19 ls [.ref s1]) (by rw [fSh_1]; rfl) ?_
        refine lv_goto (tgt := 23) hx₀ hb dX11_sheetOf_19 (by decide) ?_
        have hP9 := hP.sub (ws' := [(hx, .inr (10, [.ref aLa, .ref aPa, .ref aGe, .ref aFl, .ref aTr, .ref aBe, .ref aLu, .ref aLo, .ref vSf, .ref vSm, .ref vCo, .ref vSh, .int 0, .int 0, .int 0])), (vSh, .inl (cQ, 4, .inr (.inr (.inr (.inr (fSh s0 s1 s2 s3))))))]) [0, 1] rfl
        have hD9 := hD.sub (ws' := [(hx, .inr (10, [.ref aLa, .ref aPa, .ref aGe, .ref aFl, .ref aTr, .ref aBe, .ref aLu, .ref aLo, .ref vSf, .ref vSm, .ref vCo, .ref vSh, .int 0, .int 0, .int 0])), (vSh, .inl (cQ, 4, .inr (.inr (.inr (.inr (fSh s0 s1 s2 s3))))))]) [0, 1] (by decide) rfl
        exact W.aret (v := .ref s1) hx₀ hb hr (Or.inl ⟨_, rfl⟩) (Or.inr ⟨_, rfl⟩) (fun t₀ ht hW => ⟨⟨(some s1), (), rfl, (lf_c_sheetOf_5 s1 s0 s2 s3 ), by rw [ht]; exact hP9, va_K.moved hW.alike hK, hD9⟩, hS.F ht⟩) hS.2.2 dX11_sheetOf_23
      by_cases c_5 : s = 2
      · subst c_5
        refine W.eq (g2 := F0 m₀ 19 ls [.ref s2]) (by rw [fSh_2]; rfl) ?_
        refine lv_goto (tgt := 23) hx₀ hb dX11_sheetOf_19 (by decide) ?_
        have hP9 := hP.sub (ws' := [(hx, .inr (10, [.ref aLa, .ref aPa, .ref aGe, .ref aFl, .ref aTr, .ref aBe, .ref aLu, .ref aLo, .ref vSf, .ref vSm, .ref vCo, .ref vSh, .int 0, .int 0, .int 0])), (vSh, .inl (cQ, 4, .inr (.inr (.inr (.inr (fSh s0 s1 s2 s3))))))]) [0, 1] rfl
        have hD9 := hD.sub (ws' := [(hx, .inr (10, [.ref aLa, .ref aPa, .ref aGe, .ref aFl, .ref aTr, .ref aBe, .ref aLu, .ref aLo, .ref vSf, .ref vSm, .ref vCo, .ref vSh, .int 0, .int 0, .int 0])), (vSh, .inl (cQ, 4, .inr (.inr (.inr (.inr (fSh s0 s1 s2 s3))))))]) [0, 1] (by decide) rfl
        exact W.aret (v := .ref s2) hx₀ hb hr (Or.inl ⟨_, rfl⟩) (Or.inr ⟨_, rfl⟩) (fun t₀ ht hW => ⟨⟨(some s2), (), rfl, (lf_c_sheetOf_6 s2 s0 s1 s3 ), by rw [ht]; exact hP9, va_K.moved hW.alike hK, hD9⟩, hS.F ht⟩) hS.2.2 dX11_sheetOf_23
      by_cases c_6 : s = 3
      · subst c_6
        refine W.eq (g2 := F0 m₀ 19 ls [.ref s3]) (by rw [fSh_3]; rfl) ?_
        refine lv_goto (tgt := 23) hx₀ hb dX11_sheetOf_19 (by decide) ?_
        have hP9 := hP.sub (ws' := [(hx, .inr (10, [.ref aLa, .ref aPa, .ref aGe, .ref aFl, .ref aTr, .ref aBe, .ref aLu, .ref aLo, .ref vSf, .ref vSm, .ref vCo, .ref vSh, .int 0, .int 0, .int 0])), (vSh, .inl (cQ, 4, .inr (.inr (.inr (.inr (fSh s0 s1 s2 s3))))))]) [0, 1] rfl
        have hD9 := hD.sub (ws' := [(hx, .inr (10, [.ref aLa, .ref aPa, .ref aGe, .ref aFl, .ref aTr, .ref aBe, .ref aLu, .ref aLo, .ref vSf, .ref vSm, .ref vCo, .ref vSh, .int 0, .int 0, .int 0])), (vSh, .inl (cQ, 4, .inr (.inr (.inr (.inr (fSh s0 s1 s2 s3))))))]) [0, 1] (by decide) rfl
        exact W.aret (v := .ref s3) hx₀ hb hr (Or.inl ⟨_, rfl⟩) (Or.inr ⟨_, rfl⟩) (fun t₀ ht hW => ⟨⟨(some s3), (), rfl, (lf_c_sheetOf_7 s3 s0 s1 s2 ), by rw [ht]; exact hP9, va_K.moved hW.alike hK, hD9⟩, hS.F ht⟩) hS.2.2 dX11_sheetOf_23
      exact (lf_c_sheetOf_8 s c_1 c_2 c_3 c_4 c_5 c_6).elim
theorem lf_c_has0_1 (f : Int32) (c_1 : ¬ f < 0) (c9 : ¬ 0 ≤ f) : False := by
  (first | omega | (simp only [Int64.le_iff_toInt_le, Int64.lt_iff_toInt_lt, Int32.le_iff_toInt_le, Int32.lt_iff_toInt_lt, ← Int32.toInt_inj, ← Int64.toInt_inj, Int32.toInt_toInt64, (show (0 : Int32).toInt = 0 from by decide), (show (0 : Int64).toInt = 0 from by decide)] at *; omega))
set_option maxHeartbeats 4000000 in
set_option maxRecDepth 100000 in
theorem c_has0 (l : Launch) (dC : Nat → ClassId) (dI : Nat → Nat → Nat) (cI cJ cQ : ClassId) (sz : Nat) (aFl : Nat) (f : Int32) (vFl : Nat) : Met l yX1_has (kW yX1_has cX1_has 2 (some .boolean)) { frames := 0, cells := 0, slots := 0, locals := 0 } (kPre dC dI cI cJ cQ sz [.ref aFl, .int f] [(aFl, .inr (1, [.ref vFl, .int 0]))]) (va_Qi (fun (r : Int32) (_ : Unit) => r = 0) (fun _ t₀ => kB dC dI cI cJ cQ (va_A [(aFl, .inr (1, [.ref vFl, .int 0]))] sz) [(aFl, .inr (1, [.ref vFl, .int 0]))] t₀) (va_A [(aFl, .inr (1, [.ref vFl, .int 0]))] sz)) 0 0 (va_A [(aFl, .inr (1, [.ref vFl, .int 0]))] sz) := by
  refine Met.ofW (cc := cX1_has) (maxL := 2) (ret := (some .boolean)) (by decide) rfl ?_
  intro p₀ e₀ s₀ m₀ args below meth c₀ s₁ B hml hv₀
  obtain ⟨rfl, hsz, hP, hK, hD0, hN⟩ := hv₀
  have hx₀ := B.exec
  have hb := B.bytes
  have hr := B.returns
  have hts := atoms_spec (ws := (kW yX1_has cX1_has 2 (some .boolean))) B.pre
  have hts := fun w h => hts w (List.mem_cons_of_mem _ h)
  have hown : s₀.vm.findClass RX1 = some m₀.cls := findClass_of_methodNamed B.named
  have hlocks := B.notSynchronized
  subst hsz
  have hD := hD0.self (sz := s₀.heap.size)
  generalize hAe : va_A [(aFl, .inr (1, [.ref vFl, .int 0]))] s₀.heap.size = A at hD ⊢
  have hA : ∀ q : Nat, s₀.heap.size ≤ q → A q := fun q h => by rw [← hAe]; exact Or.inr h
  have hS : va_S A s₀.heap s₀.heap [] := va_S.rf
  have hP : va_P (dC, dI) vwCl [(aFl, .inr (1, [.ref vFl, .int 0]))] s₀.heap := hP
  have hl := lv_entry ([.ref aFl, .int f]) (n := 2) (Nat.le_of_ble_eq_true rfl)
  rw [lg_entry_eq]
  generalize (lg_sl ([.ref aFl, .int f]) ++ List.replicate (2 - (lg_sl ([.ref aFl, .int f])).length) Slot.unset).toArray = ls at hl ⊢
  have hl : lv_has ls 2 [(0, .ref aFl), (1, .int f)] := hl
  obtain ⟨H, hH⟩ : ∃ z : Heap, z = s₀.heap := ⟨_, rfl⟩
  rw [← hH] at hP
  have hS : va_S A s₀.heap H [] := by rw [hH]; exact hS
  refine k_heap hH ?_
  have hD : va_D A [(aFl, .inr (1, [.ref vFl, .int 0]))] := hD
  obtain ⟨locs, hlo⟩ : ∃ z : List Loc, z = [] := ⟨_, rfl⟩
  rw [← hlo] at hS ⊢
  clear hlo hH hAe hD0
  refine lv_iload_n hx₀ hb dX1_has_0 rfl (lv_at hl 1 rfl) ?_
  refine lv_if_lt (tgt := 16) hx₀ hb dX1_has_1 (by decide) (fun c_1 => ?_) (fun c_1 => ?_)
  · refine lv_iconst (v := 0) hx₀ hb dX1_has_16 (by decide +kernel) ?_
    have hP9 := hP.sub (ws' := [(aFl, .inr (1, [.ref vFl, .int 0]))]) [0] rfl
    have hD9 := hD.sub (ws' := [(aFl, .inr (1, [.ref vFl, .int 0]))]) [0] (by decide) rfl
    exact W.zret (v := 0) hx₀ hb hr (by decide +kernel) (fun t₀ ht hW => ⟨⟨0, (), rfl, rfl, by rw [ht]; exact hP9, va_K.moved hW.alike hK, hD9⟩, hS.F ht⟩) hS.2.2 dX1_has_17
  · refine lv_iload_n hx₀ hb dX1_has_4 rfl (lv_at hl 1 rfl) ?_
    refine lv_aload_n hx₀ hb dX1_has_5 rfl (lv_at hl 0 rfl) ?_
    refine va_get (D := (dC, dI)) (ci := 1) (v := .int 0) (C := RX1) (T := TX1) (N := 2) hx₀ hb hts inlX1 hown hK hP 0 rfl rfl 1 (by decide) (hts (.fieldLink RX1 15 "BittenStick$Flights" "number" "I") wd_357) (fun _ h9 => h9) rfl dX1_has_6 ?_
    refine lv_icmp_ge (tgt := 16) hx₀ hb dX1_has_9 (by decide) (fun c_2 => ?_) (fun c9 => (lf_c_has0_1 f c_1 c9).elim)
    refine lv_iconst (v := 0) hx₀ hb dX1_has_16 (by decide +kernel) ?_
    have hP9 := hP.sub (ws' := [(aFl, .inr (1, [.ref vFl, .int 0]))]) [0] rfl
    have hD9 := hD.sub (ws' := [(aFl, .inr (1, [.ref vFl, .int 0]))]) [0] (by decide) rfl
    exact W.zret (v := 0) hx₀ hb hr (by decide +kernel) (fun t₀ ht hW => ⟨⟨0, (), rfl, rfl, by rw [ht]; exact hP9, va_K.moved hW.alike hK, hD9⟩, hS.F ht⟩) hS.2.2 dX1_has_17
theorem lf_c_append_1 (p : Int32) (le : Int32) (ri : Int32) (hh : Int32) (c_1 : p < 0) : ((-2) : Int32) = if 0 ≤ p ∧ p ≤ 7 ∧ 0 ≤ le ∧ le ≤ 7 ∧ 0 ≤ ri ∧ ri ≤ 7 ∧ ¬ le = ri ∧ 1 ≤ hh ∧ hh ≤ 9 then 1 else -2 := by
  repeat first | rfl | rw [if_pos (by (first | omega | (simp only [Int64.le_iff_toInt_le, Int64.lt_iff_toInt_lt, Int32.le_iff_toInt_le, Int32.lt_iff_toInt_lt, ← Int32.toInt_inj, ← Int64.toInt_inj, Int32.toInt_toInt64, (show (-2 : Int32).toInt = -2 from by decide), (show (-2 : Int64).toInt = -2 from by decide), (show (0 : Int32).toInt = 0 from by decide), (show (0 : Int64).toInt = 0 from by decide), (show (1 : Int32).toInt = 1 from by decide), (show (1 : Int64).toInt = 1 from by decide), (show (7 : Int32).toInt = 7 from by decide), (show (7 : Int64).toInt = 7 from by decide), (show (9 : Int32).toInt = 9 from by decide), (show (9 : Int64).toInt = 9 from by decide)] at *; omega)))] | rw [if_neg (by (first | omega | (simp only [Int64.le_iff_toInt_le, Int64.lt_iff_toInt_lt, Int32.le_iff_toInt_le, Int32.lt_iff_toInt_lt, ← Int32.toInt_inj, ← Int64.toInt_inj, Int32.toInt_toInt64, (show (-2 : Int32).toInt = -2 from by decide), (show (-2 : Int64).toInt = -2 from by decide), (show (0 : Int32).toInt = 0 from by decide), (show (0 : Int64).toInt = 0 from by decide), (show (1 : Int32).toInt = 1 from by decide), (show (1 : Int64).toInt = 1 from by decide), (show (7 : Int32).toInt = 7 from by decide), (show (7 : Int64).toInt = 7 from by decide), (show (9 : Int32).toInt = 9 from by decide), (show (9 : Int64).toInt = 9 from by decide)] at *; omega)))]
theorem lf_c_append_2 (p : Int32) (le : Int32) (ri : Int32) (hh : Int32) (c_1 : ¬ p < 0) (c_2 : 7 < p) : ((-2) : Int32) = if 0 ≤ p ∧ p ≤ 7 ∧ 0 ≤ le ∧ le ≤ 7 ∧ 0 ≤ ri ∧ ri ≤ 7 ∧ ¬ le = ri ∧ 1 ≤ hh ∧ hh ≤ 9 then 1 else -2 := by
  repeat first | rfl | rw [if_pos (by (first | omega | (simp only [Int64.le_iff_toInt_le, Int64.lt_iff_toInt_lt, Int32.le_iff_toInt_le, Int32.lt_iff_toInt_lt, ← Int32.toInt_inj, ← Int64.toInt_inj, Int32.toInt_toInt64, (show (-2 : Int32).toInt = -2 from by decide), (show (-2 : Int64).toInt = -2 from by decide), (show (0 : Int32).toInt = 0 from by decide), (show (0 : Int64).toInt = 0 from by decide), (show (1 : Int32).toInt = 1 from by decide), (show (1 : Int64).toInt = 1 from by decide), (show (7 : Int32).toInt = 7 from by decide), (show (7 : Int64).toInt = 7 from by decide), (show (9 : Int32).toInt = 9 from by decide), (show (9 : Int64).toInt = 9 from by decide)] at *; omega)))] | rw [if_neg (by (first | omega | (simp only [Int64.le_iff_toInt_le, Int64.lt_iff_toInt_lt, Int32.le_iff_toInt_le, Int32.lt_iff_toInt_lt, ← Int32.toInt_inj, ← Int64.toInt_inj, Int32.toInt_toInt64, (show (-2 : Int32).toInt = -2 from by decide), (show (-2 : Int64).toInt = -2 from by decide), (show (0 : Int32).toInt = 0 from by decide), (show (0 : Int64).toInt = 0 from by decide), (show (1 : Int32).toInt = 1 from by decide), (show (1 : Int64).toInt = 1 from by decide), (show (7 : Int32).toInt = 7 from by decide), (show (7 : Int64).toInt = 7 from by decide), (show (9 : Int32).toInt = 9 from by decide), (show (9 : Int64).toInt = 9 from by decide)] at *; omega)))]
theorem lf_c_append_3 (p : Int32) (le : Int32) (ri : Int32) (hh : Int32) (c_1 : ¬ p < 0) (c_2 : ¬ 7 < p) (c_3 : le < 0) : ((-2) : Int32) = if 0 ≤ p ∧ p ≤ 7 ∧ 0 ≤ le ∧ le ≤ 7 ∧ 0 ≤ ri ∧ ri ≤ 7 ∧ ¬ le = ri ∧ 1 ≤ hh ∧ hh ≤ 9 then 1 else -2 := by
  repeat first | rfl | rw [if_pos (by (first | omega | (simp only [Int64.le_iff_toInt_le, Int64.lt_iff_toInt_lt, Int32.le_iff_toInt_le, Int32.lt_iff_toInt_lt, ← Int32.toInt_inj, ← Int64.toInt_inj, Int32.toInt_toInt64, (show (-2 : Int32).toInt = -2 from by decide), (show (-2 : Int64).toInt = -2 from by decide), (show (0 : Int32).toInt = 0 from by decide), (show (0 : Int64).toInt = 0 from by decide), (show (1 : Int32).toInt = 1 from by decide), (show (1 : Int64).toInt = 1 from by decide), (show (7 : Int32).toInt = 7 from by decide), (show (7 : Int64).toInt = 7 from by decide), (show (9 : Int32).toInt = 9 from by decide), (show (9 : Int64).toInt = 9 from by decide)] at *; omega)))] | rw [if_neg (by (first | omega | (simp only [Int64.le_iff_toInt_le, Int64.lt_iff_toInt_lt, Int32.le_iff_toInt_le, Int32.lt_iff_toInt_lt, ← Int32.toInt_inj, ← Int64.toInt_inj, Int32.toInt_toInt64, (show (-2 : Int32).toInt = -2 from by decide), (show (-2 : Int64).toInt = -2 from by decide), (show (0 : Int32).toInt = 0 from by decide), (show (0 : Int64).toInt = 0 from by decide), (show (1 : Int32).toInt = 1 from by decide), (show (1 : Int64).toInt = 1 from by decide), (show (7 : Int32).toInt = 7 from by decide), (show (7 : Int64).toInt = 7 from by decide), (show (9 : Int32).toInt = 9 from by decide), (show (9 : Int64).toInt = 9 from by decide)] at *; omega)))]
theorem lf_c_append_4 (p : Int32) (le : Int32) (ri : Int32) (hh : Int32) (c_1 : ¬ p < 0) (c_2 : ¬ 7 < p) (c_3 : ¬ le < 0) (c_4 : 7 < le) : ((-2) : Int32) = if 0 ≤ p ∧ p ≤ 7 ∧ 0 ≤ le ∧ le ≤ 7 ∧ 0 ≤ ri ∧ ri ≤ 7 ∧ ¬ le = ri ∧ 1 ≤ hh ∧ hh ≤ 9 then 1 else -2 := by
  repeat first | rfl | rw [if_pos (by (first | omega | (simp only [Int64.le_iff_toInt_le, Int64.lt_iff_toInt_lt, Int32.le_iff_toInt_le, Int32.lt_iff_toInt_lt, ← Int32.toInt_inj, ← Int64.toInt_inj, Int32.toInt_toInt64, (show (-2 : Int32).toInt = -2 from by decide), (show (-2 : Int64).toInt = -2 from by decide), (show (0 : Int32).toInt = 0 from by decide), (show (0 : Int64).toInt = 0 from by decide), (show (1 : Int32).toInt = 1 from by decide), (show (1 : Int64).toInt = 1 from by decide), (show (7 : Int32).toInt = 7 from by decide), (show (7 : Int64).toInt = 7 from by decide), (show (9 : Int32).toInt = 9 from by decide), (show (9 : Int64).toInt = 9 from by decide)] at *; omega)))] | rw [if_neg (by (first | omega | (simp only [Int64.le_iff_toInt_le, Int64.lt_iff_toInt_lt, Int32.le_iff_toInt_le, Int32.lt_iff_toInt_lt, ← Int32.toInt_inj, ← Int64.toInt_inj, Int32.toInt_toInt64, (show (-2 : Int32).toInt = -2 from by decide), (show (-2 : Int64).toInt = -2 from by decide), (show (0 : Int32).toInt = 0 from by decide), (show (0 : Int64).toInt = 0 from by decide), (show (1 : Int32).toInt = 1 from by decide), (show (1 : Int64).toInt = 1 from by decide), (show (7 : Int32).toInt = 7 from by decide), (show (7 : Int64).toInt = 7 from by decide), (show (9 : Int32).toInt = 9 from by decide), (show (9 : Int64).toInt = 9 from by decide)] at *; omega)))]
theorem lf_c_append_5 (p : Int32) (le : Int32) (ri : Int32) (hh : Int32) (c_1 : ¬ p < 0) (c_2 : ¬ 7 < p) (c_3 : ¬ le < 0) (c_4 : ¬ 7 < le) (c_5 : ri < 0) : ((-2) : Int32) = if 0 ≤ p ∧ p ≤ 7 ∧ 0 ≤ le ∧ le ≤ 7 ∧ 0 ≤ ri ∧ ri ≤ 7 ∧ ¬ le = ri ∧ 1 ≤ hh ∧ hh ≤ 9 then 1 else -2 := by
  repeat first | rfl | rw [if_pos (by (first | omega | (simp only [Int64.le_iff_toInt_le, Int64.lt_iff_toInt_lt, Int32.le_iff_toInt_le, Int32.lt_iff_toInt_lt, ← Int32.toInt_inj, ← Int64.toInt_inj, Int32.toInt_toInt64, (show (-2 : Int32).toInt = -2 from by decide), (show (-2 : Int64).toInt = -2 from by decide), (show (0 : Int32).toInt = 0 from by decide), (show (0 : Int64).toInt = 0 from by decide), (show (1 : Int32).toInt = 1 from by decide), (show (1 : Int64).toInt = 1 from by decide), (show (7 : Int32).toInt = 7 from by decide), (show (7 : Int64).toInt = 7 from by decide), (show (9 : Int32).toInt = 9 from by decide), (show (9 : Int64).toInt = 9 from by decide)] at *; omega)))] | rw [if_neg (by (first | omega | (simp only [Int64.le_iff_toInt_le, Int64.lt_iff_toInt_lt, Int32.le_iff_toInt_le, Int32.lt_iff_toInt_lt, ← Int32.toInt_inj, ← Int64.toInt_inj, Int32.toInt_toInt64, (show (-2 : Int32).toInt = -2 from by decide), (show (-2 : Int64).toInt = -2 from by decide), (show (0 : Int32).toInt = 0 from by decide), (show (0 : Int64).toInt = 0 from by decide), (show (1 : Int32).toInt = 1 from by decide), (show (1 : Int64).toInt = 1 from by decide), (show (7 : Int32).toInt = 7 from by decide), (show (7 : Int64).toInt = 7 from by decide), (show (9 : Int32).toInt = 9 from by decide), (show (9 : Int64).toInt = 9 from by decide)] at *; omega)))]
theorem lf_c_append_6 (p : Int32) (le : Int32) (ri : Int32) (hh : Int32) (c_1 : ¬ p < 0) (c_2 : ¬ 7 < p) (c_3 : ¬ le < 0) (c_4 : ¬ 7 < le) (c_5 : ¬ ri < 0) (c_6 : 7 < ri) : ((-2) : Int32) = if 0 ≤ p ∧ p ≤ 7 ∧ 0 ≤ le ∧ le ≤ 7 ∧ 0 ≤ ri ∧ ri ≤ 7 ∧ ¬ le = ri ∧ 1 ≤ hh ∧ hh ≤ 9 then 1 else -2 := by
  repeat first | rfl | rw [if_pos (by (first | omega | (simp only [Int64.le_iff_toInt_le, Int64.lt_iff_toInt_lt, Int32.le_iff_toInt_le, Int32.lt_iff_toInt_lt, ← Int32.toInt_inj, ← Int64.toInt_inj, Int32.toInt_toInt64, (show (-2 : Int32).toInt = -2 from by decide), (show (-2 : Int64).toInt = -2 from by decide), (show (0 : Int32).toInt = 0 from by decide), (show (0 : Int64).toInt = 0 from by decide), (show (1 : Int32).toInt = 1 from by decide), (show (1 : Int64).toInt = 1 from by decide), (show (7 : Int32).toInt = 7 from by decide), (show (7 : Int64).toInt = 7 from by decide), (show (9 : Int32).toInt = 9 from by decide), (show (9 : Int64).toInt = 9 from by decide)] at *; omega)))] | rw [if_neg (by (first | omega | (simp only [Int64.le_iff_toInt_le, Int64.lt_iff_toInt_lt, Int32.le_iff_toInt_le, Int32.lt_iff_toInt_lt, ← Int32.toInt_inj, ← Int64.toInt_inj, Int32.toInt_toInt64, (show (-2 : Int32).toInt = -2 from by decide), (show (-2 : Int64).toInt = -2 from by decide), (show (0 : Int32).toInt = 0 from by decide), (show (0 : Int64).toInt = 0 from by decide), (show (1 : Int32).toInt = 1 from by decide), (show (1 : Int64).toInt = 1 from by decide), (show (7 : Int32).toInt = 7 from by decide), (show (7 : Int64).toInt = 7 from by decide), (show (9 : Int32).toInt = 9 from by decide), (show (9 : Int64).toInt = 9 from by decide)] at *; omega)))]
theorem lf_c_append_7 (p : Int32) (le : Int32) (ri : Int32) (hh : Int32) (c_1 : ¬ p < 0) (c_2 : ¬ 7 < p) (c_3 : ¬ le < 0) (c_4 : ¬ 7 < le) (c_5 : ¬ ri < 0) (c_6 : ¬ 7 < ri) (c_7 : le = ri) : ((-2) : Int32) = if 0 ≤ p ∧ p ≤ 7 ∧ 0 ≤ le ∧ le ≤ 7 ∧ 0 ≤ ri ∧ ri ≤ 7 ∧ ¬ le = ri ∧ 1 ≤ hh ∧ hh ≤ 9 then 1 else -2 := by
  repeat first | rfl | rw [if_pos (by (first | omega | (simp only [Int64.le_iff_toInt_le, Int64.lt_iff_toInt_lt, Int32.le_iff_toInt_le, Int32.lt_iff_toInt_lt, ← Int32.toInt_inj, ← Int64.toInt_inj, Int32.toInt_toInt64, (show (-2 : Int32).toInt = -2 from by decide), (show (-2 : Int64).toInt = -2 from by decide), (show (0 : Int32).toInt = 0 from by decide), (show (0 : Int64).toInt = 0 from by decide), (show (1 : Int32).toInt = 1 from by decide), (show (1 : Int64).toInt = 1 from by decide), (show (7 : Int32).toInt = 7 from by decide), (show (7 : Int64).toInt = 7 from by decide), (show (9 : Int32).toInt = 9 from by decide), (show (9 : Int64).toInt = 9 from by decide)] at *; omega)))] | rw [if_neg (by (first | omega | (simp only [Int64.le_iff_toInt_le, Int64.lt_iff_toInt_lt, Int32.le_iff_toInt_le, Int32.lt_iff_toInt_lt, ← Int32.toInt_inj, ← Int64.toInt_inj, Int32.toInt_toInt64, (show (-2 : Int32).toInt = -2 from by decide), (show (-2 : Int64).toInt = -2 from by decide), (show (0 : Int32).toInt = 0 from by decide), (show (0 : Int64).toInt = 0 from by decide), (show (1 : Int32).toInt = 1 from by decide), (show (1 : Int64).toInt = 1 from by decide), (show (7 : Int32).toInt = 7 from by decide), (show (7 : Int64).toInt = 7 from by decide), (show (9 : Int32).toInt = 9 from by decide), (show (9 : Int64).toInt = 9 from by decide)] at *; omega)))]
theorem lf_c_append_8 (p : Int32) (le : Int32) (ri : Int32) (hh : Int32) (c_1 : ¬ p < 0) (c_2 : ¬ 7 < p) (c_3 : ¬ le < 0) (c_4 : ¬ 7 < le) (c_5 : ¬ ri < 0) (c_6 : ¬ 7 < ri) (c_7 : ¬ le = ri) (c_8 : hh < 1) : ((-2) : Int32) = if 0 ≤ p ∧ p ≤ 7 ∧ 0 ≤ le ∧ le ≤ 7 ∧ 0 ≤ ri ∧ ri ≤ 7 ∧ ¬ le = ri ∧ 1 ≤ hh ∧ hh ≤ 9 then 1 else -2 := by
  repeat first | rfl | rw [if_pos (by (first | omega | (simp only [Int64.le_iff_toInt_le, Int64.lt_iff_toInt_lt, Int32.le_iff_toInt_le, Int32.lt_iff_toInt_lt, ← Int32.toInt_inj, ← Int64.toInt_inj, Int32.toInt_toInt64, (show (-2 : Int32).toInt = -2 from by decide), (show (-2 : Int64).toInt = -2 from by decide), (show (0 : Int32).toInt = 0 from by decide), (show (0 : Int64).toInt = 0 from by decide), (show (1 : Int32).toInt = 1 from by decide), (show (1 : Int64).toInt = 1 from by decide), (show (7 : Int32).toInt = 7 from by decide), (show (7 : Int64).toInt = 7 from by decide), (show (9 : Int32).toInt = 9 from by decide), (show (9 : Int64).toInt = 9 from by decide)] at *; omega)))] | rw [if_neg (by (first | omega | (simp only [Int64.le_iff_toInt_le, Int64.lt_iff_toInt_lt, Int32.le_iff_toInt_le, Int32.lt_iff_toInt_lt, ← Int32.toInt_inj, ← Int64.toInt_inj, Int32.toInt_toInt64, (show (-2 : Int32).toInt = -2 from by decide), (show (-2 : Int64).toInt = -2 from by decide), (show (0 : Int32).toInt = 0 from by decide), (show (0 : Int64).toInt = 0 from by decide), (show (1 : Int32).toInt = 1 from by decide), (show (1 : Int64).toInt = 1 from by decide), (show (7 : Int32).toInt = 7 from by decide), (show (7 : Int64).toInt = 7 from by decide), (show (9 : Int32).toInt = 9 from by decide), (show (9 : Int64).toInt = 9 from by decide)] at *; omega)))]
theorem lf_c_append_9 (p : Int32) (le : Int32) (ri : Int32) (hh : Int32) (c_1 : ¬ p < 0) (c_2 : ¬ 7 < p) (c_3 : ¬ le < 0) (c_4 : ¬ 7 < le) (c_5 : ¬ ri < 0) (c_6 : ¬ 7 < ri) (c_7 : ¬ le = ri) (c_8 : ¬ hh < 1) (c_9 : hh ≤ 9) : (1 : Int32) = if 0 ≤ p ∧ p ≤ 7 ∧ 0 ≤ le ∧ le ≤ 7 ∧ 0 ≤ ri ∧ ri ≤ 7 ∧ ¬ le = ri ∧ 1 ≤ hh ∧ hh ≤ 9 then 1 else -2 := by
  repeat first | rfl | rw [if_pos (by (first | omega | (simp only [Int64.le_iff_toInt_le, Int64.lt_iff_toInt_lt, Int32.le_iff_toInt_le, Int32.lt_iff_toInt_lt, ← Int32.toInt_inj, ← Int64.toInt_inj, Int32.toInt_toInt64, (show (-2 : Int32).toInt = -2 from by decide), (show (-2 : Int64).toInt = -2 from by decide), (show (0 : Int32).toInt = 0 from by decide), (show (0 : Int64).toInt = 0 from by decide), (show (1 : Int32).toInt = 1 from by decide), (show (1 : Int64).toInt = 1 from by decide), (show (7 : Int32).toInt = 7 from by decide), (show (7 : Int64).toInt = 7 from by decide), (show (9 : Int32).toInt = 9 from by decide), (show (9 : Int64).toInt = 9 from by decide)] at *; omega)))] | rw [if_neg (by (first | omega | (simp only [Int64.le_iff_toInt_le, Int64.lt_iff_toInt_lt, Int32.le_iff_toInt_le, Int32.lt_iff_toInt_lt, ← Int32.toInt_inj, ← Int64.toInt_inj, Int32.toInt_toInt64, (show (-2 : Int32).toInt = -2 from by decide), (show (-2 : Int64).toInt = -2 from by decide), (show (0 : Int32).toInt = 0 from by decide), (show (0 : Int64).toInt = 0 from by decide), (show (1 : Int32).toInt = 1 from by decide), (show (1 : Int64).toInt = 1 from by decide), (show (7 : Int32).toInt = 7 from by decide), (show (7 : Int64).toInt = 7 from by decide), (show (9 : Int32).toInt = 9 from by decide), (show (9 : Int64).toInt = 9 from by decide)] at *; omega)))]
theorem lf_c_append_10 (p : Int32) (le : Int32) (ri : Int32) (hh : Int32) (c_1 : ¬ p < 0) (c_2 : ¬ 7 < p) (c_3 : ¬ le < 0) (c_4 : ¬ 7 < le) (c_5 : ¬ ri < 0) (c_6 : ¬ 7 < ri) (c_7 : ¬ le = ri) (c_8 : ¬ hh < 1) (c_9 : ¬ hh ≤ 9) : ((-2) : Int32) = if 0 ≤ p ∧ p ≤ 7 ∧ 0 ≤ le ∧ le ≤ 7 ∧ 0 ≤ ri ∧ ri ≤ 7 ∧ ¬ le = ri ∧ 1 ≤ hh ∧ hh ≤ 9 then 1 else -2 := by
  repeat first | rfl | rw [if_pos (by (first | omega | (simp only [Int64.le_iff_toInt_le, Int64.lt_iff_toInt_lt, Int32.le_iff_toInt_le, Int32.lt_iff_toInt_lt, ← Int32.toInt_inj, ← Int64.toInt_inj, Int32.toInt_toInt64, (show (-2 : Int32).toInt = -2 from by decide), (show (-2 : Int64).toInt = -2 from by decide), (show (0 : Int32).toInt = 0 from by decide), (show (0 : Int64).toInt = 0 from by decide), (show (1 : Int32).toInt = 1 from by decide), (show (1 : Int64).toInt = 1 from by decide), (show (7 : Int32).toInt = 7 from by decide), (show (7 : Int64).toInt = 7 from by decide), (show (9 : Int32).toInt = 9 from by decide), (show (9 : Int64).toInt = 9 from by decide)] at *; omega)))] | rw [if_neg (by (first | omega | (simp only [Int64.le_iff_toInt_le, Int64.lt_iff_toInt_lt, Int32.le_iff_toInt_le, Int32.lt_iff_toInt_lt, ← Int32.toInt_inj, ← Int64.toInt_inj, Int32.toInt_toInt64, (show (-2 : Int32).toInt = -2 from by decide), (show (-2 : Int64).toInt = -2 from by decide), (show (0 : Int32).toInt = 0 from by decide), (show (0 : Int64).toInt = 0 from by decide), (show (1 : Int32).toInt = 1 from by decide), (show (1 : Int64).toInt = 1 from by decide), (show (7 : Int32).toInt = 7 from by decide), (show (7 : Int64).toInt = 7 from by decide), (show (9 : Int32).toInt = 9 from by decide), (show (9 : Int64).toInt = 9 from by decide)] at *; omega)))]
set_option maxHeartbeats 4000000 in
set_option maxRecDepth 100000 in
theorem c_append (l : Launch) (dC : Nat → ClassId) (dI : Nat → Nat → Nat) (cI cJ cQ : ClassId) (sz : Nat) (aFl : Nat) (p : Int32) (le : Int32) (ri : Int32) (hh : Int32) (vFl : Nat) : Met l yX1_append (kW yX1_append cX1_append 5 (some .int)) { frames := 0, cells := 0, slots := 0, locals := 0 } (kPre dC dI cI cJ cQ sz [.ref aFl, .int p, .int le, .int ri, .int hh] [(aFl, .inr (1, [.ref vFl, .int 0])), (vFl, .inl (cI, 32, .inl (fun _ => 0)))]) (va_Qi (fun (r : Int32) (_ : Unit) => r = if 0 ≤ p ∧ p ≤ 7 ∧ 0 ≤ le ∧ le ≤ 7 ∧ 0 ≤ ri ∧ ri ≤ 7 ∧ ¬ le = ri ∧ 1 ≤ hh ∧ hh ≤ 9 then 1 else -2) (fun _ _ => True) (va_A [(aFl, .inr (1, [.ref vFl, .int 0])), (vFl, .inl (cI, 32, .inl (fun _ => 0)))] sz)) 0 0 (va_A [(aFl, .inr (1, [.ref vFl, .int 0])), (vFl, .inl (cI, 32, .inl (fun _ => 0)))] sz) := by
  refine Met.ofW (cc := cX1_append) (maxL := 5) (ret := (some .int)) (by decide) rfl ?_
  intro p₀ e₀ s₀ m₀ args below meth c₀ s₁ B hml hv₀
  obtain ⟨rfl, hsz, hP, hK, hD0, hN⟩ := hv₀
  have hx₀ := B.exec
  have hb := B.bytes
  have hr := B.returns
  have hts := atoms_spec (ws := (kW yX1_append cX1_append 5 (some .int))) B.pre
  have hts := fun w h => hts w (List.mem_cons_of_mem _ h)
  have hown : s₀.vm.findClass RX1 = some m₀.cls := findClass_of_methodNamed B.named
  have hlocks := B.notSynchronized
  subst hsz
  have hD := hD0.self (sz := s₀.heap.size)
  generalize hAe : va_A [(aFl, .inr (1, [.ref vFl, .int 0])), (vFl, .inl (cI, 32, .inl (fun _ => 0)))] s₀.heap.size = A at hD ⊢
  have hA : ∀ q : Nat, s₀.heap.size ≤ q → A q := fun q h => by rw [← hAe]; exact Or.inr h
  have hS : va_S A s₀.heap s₀.heap [] := va_S.rf
  have hP : va_P (dC, dI) vwCl [(aFl, .inr (1, [.ref vFl, .int 0])), (vFl, .inl (cI, 32, .inl (fun _ => 0)))] s₀.heap := hP
  have hl := lv_entry ([.ref aFl, .int p, .int le, .int ri, .int hh]) (n := 5) (Nat.le_of_ble_eq_true rfl)
  rw [lg_entry_eq]
  generalize (lg_sl ([.ref aFl, .int p, .int le, .int ri, .int hh]) ++ List.replicate (5 - (lg_sl ([.ref aFl, .int p, .int le, .int ri, .int hh])).length) Slot.unset).toArray = ls at hl ⊢
  have hl : lv_has ls 5 [(0, .ref aFl), (1, .int p), (2, .int le), (3, .int ri), (4, .int hh)] := hl
  obtain ⟨H, hH⟩ : ∃ z : Heap, z = s₀.heap := ⟨_, rfl⟩
  rw [← hH] at hP
  have hS : va_S A s₀.heap H [] := by rw [hH]; exact hS
  refine k_heap hH ?_
  have hD : va_D A [(aFl, .inr (1, [.ref vFl, .int 0])), (vFl, .inl (cI, 32, .inl (fun _ => 0)))] := hD
  obtain ⟨locs, hlo⟩ : ∃ z : List Loc, z = [] := ⟨_, rfl⟩
  rw [← hlo] at hS ⊢
  clear hlo hH hAe hD0
  refine lv_iload_n hx₀ hb dX1_append_0 rfl (lv_at hl 1 rfl) ?_
  refine lv_if_lt (tgt := 48) hx₀ hb dX1_append_1 (by decide) (fun c_1 => ?_) (fun c_1 => ?_)
  · refine lv_bipush (v := (-2)) hx₀ hb dX1_append_48 (by decide +kernel) ?_
    exact W.iret (v := (-2)) hx₀ hb hr (fun t₀ ht hW => ⟨⟨(-2), (), rfl, (lf_c_append_1 p le ri hh c_1), trivial⟩, hS.F ht⟩) hS.2.2 dX1_append_50
  · refine lv_iload_n hx₀ hb dX1_append_4 rfl (lv_at hl 1 rfl) ?_
    refine lv_bipush (v := 7) hx₀ hb dX1_append_5 (by decide +kernel) ?_
    refine lv_icmp_gt (tgt := 48) hx₀ hb dX1_append_7 (by decide) (fun c_2 => ?_) (fun c_2 => ?_)
    · refine lv_bipush (v := (-2)) hx₀ hb dX1_append_48 (by decide +kernel) ?_
      exact W.iret (v := (-2)) hx₀ hb hr (fun t₀ ht hW => ⟨⟨(-2), (), rfl, (lf_c_append_2 p le ri hh c_1 c_2), trivial⟩, hS.F ht⟩) hS.2.2 dX1_append_50
    · refine lv_iload_n hx₀ hb dX1_append_10 rfl (lv_at hl 2 rfl) ?_
      refine lv_if_lt (tgt := 48) hx₀ hb dX1_append_11 (by decide) (fun c_3 => ?_) (fun c_3 => ?_)
      · refine lv_bipush (v := (-2)) hx₀ hb dX1_append_48 (by decide +kernel) ?_
        exact W.iret (v := (-2)) hx₀ hb hr (fun t₀ ht hW => ⟨⟨(-2), (), rfl, (lf_c_append_3 p le ri hh c_1 c_2 c_3), trivial⟩, hS.F ht⟩) hS.2.2 dX1_append_50
      · refine lv_iload_n hx₀ hb dX1_append_14 rfl (lv_at hl 2 rfl) ?_
        refine lv_bipush (v := 7) hx₀ hb dX1_append_15 (by decide +kernel) ?_
        refine lv_icmp_gt (tgt := 48) hx₀ hb dX1_append_17 (by decide) (fun c_4 => ?_) (fun c_4 => ?_)
        · refine lv_bipush (v := (-2)) hx₀ hb dX1_append_48 (by decide +kernel) ?_
          exact W.iret (v := (-2)) hx₀ hb hr (fun t₀ ht hW => ⟨⟨(-2), (), rfl, (lf_c_append_4 p le ri hh c_1 c_2 c_3 c_4), trivial⟩, hS.F ht⟩) hS.2.2 dX1_append_50
        · refine lv_iload_n hx₀ hb dX1_append_20 rfl (lv_at hl 3 rfl) ?_
          refine lv_if_lt (tgt := 48) hx₀ hb dX1_append_21 (by decide) (fun c_5 => ?_) (fun c_5 => ?_)
          · refine lv_bipush (v := (-2)) hx₀ hb dX1_append_48 (by decide +kernel) ?_
            exact W.iret (v := (-2)) hx₀ hb hr (fun t₀ ht hW => ⟨⟨(-2), (), rfl, (lf_c_append_5 p le ri hh c_1 c_2 c_3 c_4 c_5), trivial⟩, hS.F ht⟩) hS.2.2 dX1_append_50
          · refine lv_iload_n hx₀ hb dX1_append_24 rfl (lv_at hl 3 rfl) ?_
            refine lv_bipush (v := 7) hx₀ hb dX1_append_25 (by decide +kernel) ?_
            refine lv_icmp_gt (tgt := 48) hx₀ hb dX1_append_27 (by decide) (fun c_6 => ?_) (fun c_6 => ?_)
            · refine lv_bipush (v := (-2)) hx₀ hb dX1_append_48 (by decide +kernel) ?_
              exact W.iret (v := (-2)) hx₀ hb hr (fun t₀ ht hW => ⟨⟨(-2), (), rfl, (lf_c_append_6 p le ri hh c_1 c_2 c_3 c_4 c_5 c_6), trivial⟩, hS.F ht⟩) hS.2.2 dX1_append_50
            · refine lv_iload_n hx₀ hb dX1_append_30 rfl (lv_at hl 2 rfl) ?_
              refine lv_iload_n hx₀ hb dX1_append_31 rfl (lv_at hl 3 rfl) ?_
              refine lv_icmp_eq (tgt := 48) hx₀ hb dX1_append_32 (by decide) (fun c_7 => ?_) (fun c_7 => ?_)
              · refine lv_bipush (v := (-2)) hx₀ hb dX1_append_48 (by decide +kernel) ?_
                exact W.iret (v := (-2)) hx₀ hb hr (fun t₀ ht hW => ⟨⟨(-2), (), rfl, (lf_c_append_7 p le ri hh c_1 c_2 c_3 c_4 c_5 c_6 c_7), trivial⟩, hS.F ht⟩) hS.2.2 dX1_append_50
              · refine lv_iload hx₀ hb dX1_append_35 (lv_at hl 4 rfl) ?_
                refine lv_iconst (v := 1) hx₀ hb dX1_append_37 (by decide +kernel) ?_
                refine lv_icmp_lt (tgt := 48) hx₀ hb dX1_append_38 (by decide) (fun c_8 => ?_) (fun c_8 => ?_)
                · refine lv_bipush (v := (-2)) hx₀ hb dX1_append_48 (by decide +kernel) ?_
                  exact W.iret (v := (-2)) hx₀ hb hr (fun t₀ ht hW => ⟨⟨(-2), (), rfl, (lf_c_append_8 p le ri hh c_1 c_2 c_3 c_4 c_5 c_6 c_7 c_8), trivial⟩, hS.F ht⟩) hS.2.2 dX1_append_50
                · refine lv_iload hx₀ hb dX1_append_41 (lv_at hl 4 rfl) ?_
                  refine lv_bipush (v := 9) hx₀ hb dX1_append_43 (by decide +kernel) ?_
                  refine lv_icmp_le (tgt := 51) hx₀ hb dX1_append_45 (by decide) (fun c_9 => ?_) (fun c_9 => ?_)
                  · refine lv_aload_n hx₀ hb dX1_append_51 rfl (lv_at hl 0 rfl) ?_
                    refine va_get (D := (dC, dI)) (ci := 1) (v := .int 0) (C := RX1) (T := TX1) (N := 2) hx₀ hb hts inlX1 hown hK hP 0 rfl rfl 1 (by decide) (hts (.fieldLink RX1 15 "BittenStick$Flights" "number" "I") wd_357) (fun _ h9 => h9) rfl dX1_append_52 ?_
                    refine lv_if_lt (tgt := 67) hx₀ hb dX1_append_55 (by decide) (fun c9 => absurd c9 (by decide +kernel)) (fun _ => ?_)
                    refine lv_aload_n hx₀ hb dX1_append_58 rfl (lv_at hl 0 rfl) ?_
                    refine va_get (D := (dC, dI)) (ci := 1) (v := .int 0) (C := RX1) (T := TX1) (N := 2) hx₀ hb hts inlX1 hown hK hP 0 rfl rfl 1 (by decide) (hts (.fieldLink RX1 15 "BittenStick$Flights" "number" "I") wd_357) (fun _ h9 => h9) rfl dX1_append_59 ?_
                    refine lv_bipush (v := 8) hx₀ hb dX1_append_62 (by decide +kernel) ?_
                    refine lv_icmp_lt (tgt := 70) hx₀ hb dX1_append_64 (by decide) (fun _ => ?_) (fun c9 => absurd (by decide +kernel) c9)
                    refine lv_aload_n hx₀ hb dX1_append_70 rfl (lv_at hl 0 rfl) ?_
                    refine va_get (D := (dC, dI)) (ci := 1) (v := .ref vFl) (C := RX1) (T := TX1) (N := 2) hx₀ hb hts inlX1 hown hK hP 0 rfl rfl 0 (by decide) (hts (.fieldLink RX1 9 "BittenStick$Flights" "items" "[I") wd_77) (fun _ h9 => h9) rfl dX1_append_71 ?_
                    refine lv_iconst (v := 4) hx₀ hb dX1_append_74 (by decide +kernel) ?_
                    refine lv_aload_n hx₀ hb dX1_append_75 rfl (lv_at hl 0 rfl) ?_
                    refine va_get (D := (dC, dI)) (ci := 1) (v := .int 0) (C := RX1) (T := TX1) (N := 2) hx₀ hb hts inlX1 hown hK hP 0 rfl rfl 1 (by decide) (hts (.fieldLink RX1 15 "BittenStick$Flights" "number" "I") wd_357) (fun _ h9 => h9) rfl dX1_append_76 ?_
                    refine lv_imul hx₀ hb dX1_append_79 ?_
                    refine k_topi (v := 0) (by decide +kernel) ?_
                    refine lv_iload_n hx₀ hb dX1_append_80 rfl (lv_at hl 1 rfl) ?_
                    refine va_iast hx₀ hb hK hP hD hS 1 0 rfl rfl (by unfold vp_in; decide +kernel) dX1_append_81 (fun H locs hP hD hS => ?_)
                    have hP : va_P (dC, dI) vwCl [(aFl, .inr (1, [.ref vFl, .int 0])), (vFl, .inl (cI, 32, .inl (upd (fun _ => 0) (0 : Int32).toNatClampNeg p)))] H := hP
                    have hD : va_D A [(aFl, .inr (1, [.ref vFl, .int 0])), (vFl, .inl (cI, 32, .inl (upd (fun _ => 0) (0 : Int32).toNatClampNeg p)))] := hD
                    refine lv_aload_n hx₀ hb dX1_append_82 rfl (lv_at hl 0 rfl) ?_
                    refine va_get (D := (dC, dI)) (ci := 1) (v := .ref vFl) (C := RX1) (T := TX1) (N := 2) hx₀ hb hts inlX1 hown hK hP 0 rfl rfl 0 (by decide) (hts (.fieldLink RX1 9 "BittenStick$Flights" "items" "[I") wd_77) (fun _ h9 => h9) rfl dX1_append_83 ?_
                    refine lv_iconst (v := 4) hx₀ hb dX1_append_86 (by decide +kernel) ?_
                    refine lv_aload_n hx₀ hb dX1_append_87 rfl (lv_at hl 0 rfl) ?_
                    refine va_get (D := (dC, dI)) (ci := 1) (v := .int 0) (C := RX1) (T := TX1) (N := 2) hx₀ hb hts inlX1 hown hK hP 0 rfl rfl 1 (by decide) (hts (.fieldLink RX1 15 "BittenStick$Flights" "number" "I") wd_357) (fun _ h9 => h9) rfl dX1_append_88 ?_
                    refine lv_imul hx₀ hb dX1_append_91 ?_
                    refine k_topi (v := 0) (by decide +kernel) ?_
                    refine lv_iconst (v := 1) hx₀ hb dX1_append_92 (by decide +kernel) ?_
                    refine lv_iadd hx₀ hb dX1_append_93 ?_
                    refine k_topi (v := 1) (by decide +kernel) ?_
                    refine lv_iload_n hx₀ hb dX1_append_94 rfl (lv_at hl 2 rfl) ?_
                    refine va_iast hx₀ hb hK hP hD hS 1 0 rfl rfl (by unfold vp_in; decide +kernel) dX1_append_95 (fun H locs hP hD hS => ?_)
                    have hP : va_P (dC, dI) vwCl [(aFl, .inr (1, [.ref vFl, .int 0])), (vFl, .inl (cI, 32, .inl (upd (upd (fun _ => 0) (0 : Int32).toNatClampNeg p) (1 : Int32).toNatClampNeg le)))] H := hP
                    have hD : va_D A [(aFl, .inr (1, [.ref vFl, .int 0])), (vFl, .inl (cI, 32, .inl (upd (upd (fun _ => 0) (0 : Int32).toNatClampNeg p) (1 : Int32).toNatClampNeg le)))] := hD
                    refine lv_aload_n hx₀ hb dX1_append_96 rfl (lv_at hl 0 rfl) ?_
                    refine va_get (D := (dC, dI)) (ci := 1) (v := .ref vFl) (C := RX1) (T := TX1) (N := 2) hx₀ hb hts inlX1 hown hK hP 0 rfl rfl 0 (by decide) (hts (.fieldLink RX1 9 "BittenStick$Flights" "items" "[I") wd_77) (fun _ h9 => h9) rfl dX1_append_97 ?_
                    refine lv_iconst (v := 4) hx₀ hb dX1_append_100 (by decide +kernel) ?_
                    refine lv_aload_n hx₀ hb dX1_append_101 rfl (lv_at hl 0 rfl) ?_
                    refine va_get (D := (dC, dI)) (ci := 1) (v := .int 0) (C := RX1) (T := TX1) (N := 2) hx₀ hb hts inlX1 hown hK hP 0 rfl rfl 1 (by decide) (hts (.fieldLink RX1 15 "BittenStick$Flights" "number" "I") wd_357) (fun _ h9 => h9) rfl dX1_append_102 ?_
                    refine lv_imul hx₀ hb dX1_append_105 ?_
                    refine k_topi (v := 0) (by decide +kernel) ?_
                    refine lv_iconst (v := 2) hx₀ hb dX1_append_106 (by decide +kernel) ?_
                    refine lv_iadd hx₀ hb dX1_append_107 ?_
                    refine k_topi (v := 2) (by decide +kernel) ?_
                    refine lv_iload_n hx₀ hb dX1_append_108 rfl (lv_at hl 3 rfl) ?_
                    refine va_iast hx₀ hb hK hP hD hS 1 0 rfl rfl (by unfold vp_in; decide +kernel) dX1_append_109 (fun H locs hP hD hS => ?_)
                    have hP : va_P (dC, dI) vwCl [(aFl, .inr (1, [.ref vFl, .int 0])), (vFl, .inl (cI, 32, .inl (upd (upd (upd (fun _ => 0) (0 : Int32).toNatClampNeg p) (1 : Int32).toNatClampNeg le) (2 : Int32).toNatClampNeg ri)))] H := hP
                    have hD : va_D A [(aFl, .inr (1, [.ref vFl, .int 0])), (vFl, .inl (cI, 32, .inl (upd (upd (upd (fun _ => 0) (0 : Int32).toNatClampNeg p) (1 : Int32).toNatClampNeg le) (2 : Int32).toNatClampNeg ri)))] := hD
                    refine lv_aload_n hx₀ hb dX1_append_110 rfl (lv_at hl 0 rfl) ?_
                    refine va_get (D := (dC, dI)) (ci := 1) (v := .ref vFl) (C := RX1) (T := TX1) (N := 2) hx₀ hb hts inlX1 hown hK hP 0 rfl rfl 0 (by decide) (hts (.fieldLink RX1 9 "BittenStick$Flights" "items" "[I") wd_77) (fun _ h9 => h9) rfl dX1_append_111 ?_
                    refine lv_iconst (v := 4) hx₀ hb dX1_append_114 (by decide +kernel) ?_
                    refine lv_aload_n hx₀ hb dX1_append_115 rfl (lv_at hl 0 rfl) ?_
                    refine va_get (D := (dC, dI)) (ci := 1) (v := .int 0) (C := RX1) (T := TX1) (N := 2) hx₀ hb hts inlX1 hown hK hP 0 rfl rfl 1 (by decide) (hts (.fieldLink RX1 15 "BittenStick$Flights" "number" "I") wd_357) (fun _ h9 => h9) rfl dX1_append_116 ?_
                    refine lv_imul hx₀ hb dX1_append_119 ?_
                    refine k_topi (v := 0) (by decide +kernel) ?_
                    refine lv_iconst (v := 3) hx₀ hb dX1_append_120 (by decide +kernel) ?_
                    refine lv_iadd hx₀ hb dX1_append_121 ?_
                    refine k_topi (v := 3) (by decide +kernel) ?_
                    refine lv_iload hx₀ hb dX1_append_122 (lv_at hl 4 rfl) ?_
                    refine va_iast hx₀ hb hK hP hD hS 1 0 rfl rfl (by unfold vp_in; decide +kernel) dX1_append_124 (fun H locs hP hD hS => ?_)
                    have hP : va_P (dC, dI) vwCl [(aFl, .inr (1, [.ref vFl, .int 0])), (vFl, .inl (cI, 32, .inl (upd (upd (upd (upd (fun _ => 0) (0 : Int32).toNatClampNeg p) (1 : Int32).toNatClampNeg le) (2 : Int32).toNatClampNeg ri) (3 : Int32).toNatClampNeg hh)))] H := hP
                    have hD : va_D A [(aFl, .inr (1, [.ref vFl, .int 0])), (vFl, .inl (cI, 32, .inl (upd (upd (upd (upd (fun _ => 0) (0 : Int32).toNatClampNeg p) (1 : Int32).toNatClampNeg le) (2 : Int32).toNatClampNeg ri) (3 : Int32).toNatClampNeg hh)))] := hD
                    refine lv_aload_n hx₀ hb dX1_append_125 rfl (lv_at hl 0 rfl) ?_
                    refine lv_dup hx₀ hb dX1_append_126 rfl ?_
                    refine va_get (D := (dC, dI)) (ci := 1) (v := .int 0) (C := RX1) (T := TX1) (N := 2) hx₀ hb hts inlX1 hown hK hP 0 rfl rfl 1 (by decide) (hts (.fieldLink RX1 15 "BittenStick$Flights" "number" "I") wd_357) (fun _ h9 => h9) rfl dX1_append_127 ?_
                    refine lv_iconst (v := 1) hx₀ hb dX1_append_130 (by decide +kernel) ?_
                    refine lv_iadd hx₀ hb dX1_append_131 ?_
                    refine k_topi (v := 1) (by decide +kernel) ?_
                    refine va_put (D := (dC, dI)) (ci := 1) (v := .int 1) (ty := .int) (C := RX1) (T := TX1) (N := 2) hx₀ hb hts inlX1 tyX1 tyX1_ok nmX1 hown hK hP hD hS 0 rfl rfl 1 (by decide) (hts (.fieldLink RX1 15 "BittenStick$Flights" "number" "I") wd_357) (fun _ h9 => h9) rfl (by decide +kernel) rfl rfl (Nat.le_of_ble_eq_true rfl) dX1_append_132 (fun H locs hP hD hS => ?_)
                    have hP : va_P (dC, dI) vwCl [(aFl, .inr (1, [.ref vFl, .int 1])), (vFl, .inl (cI, 32, .inl (upd (upd (upd (upd (fun _ => 0) (0 : Int32).toNatClampNeg p) (1 : Int32).toNatClampNeg le) (2 : Int32).toNatClampNeg ri) (3 : Int32).toNatClampNeg hh)))] H := hP
                    have hD : va_D A [(aFl, .inr (1, [.ref vFl, .int 1])), (vFl, .inl (cI, 32, .inl (upd (upd (upd (upd (fun _ => 0) (0 : Int32).toNatClampNeg p) (1 : Int32).toNatClampNeg le) (2 : Int32).toNatClampNeg ri) (3 : Int32).toNatClampNeg hh)))] := hD
                    refine lv_aload_n hx₀ hb dX1_append_135 rfl (lv_at hl 0 rfl) ?_
                    refine va_get (D := (dC, dI)) (ci := 1) (v := .int 1) (C := RX1) (T := TX1) (N := 2) hx₀ hb hts inlX1 hown hK hP 0 rfl rfl 1 (by decide) (hts (.fieldLink RX1 15 "BittenStick$Flights" "number" "I") wd_357) (fun _ h9 => h9) rfl dX1_append_136 ?_
                    exact W.iret (v := 1) hx₀ hb hr (fun t₀ ht hW => ⟨⟨1, (), rfl, (lf_c_append_9 p le ri hh c_1 c_2 c_3 c_4 c_5 c_6 c_7 c_8 c_9), trivial⟩, hS.F ht⟩) hS.2.2 dX1_append_139
                  · refine lv_bipush (v := (-2)) hx₀ hb dX1_append_48 (by decide +kernel) ?_
                    exact W.iret (v := (-2)) hx₀ hb hr (fun t₀ ht hW => ⟨⟨(-2), (), rfl, (lf_c_append_10 p le ri hh c_1 c_2 c_3 c_4 c_5 c_6 c_7 c_8 c_9), trivial⟩, hS.F ht⟩) hS.2.2 dX1_append_50
set_option maxHeartbeats 4000000 in
set_option maxRecDepth 100000 in
theorem c_towns0 (l : Launch) (dC : Nat → ClassId) (dI : Nat → Nat → Nat) (cI cJ cQ : ClassId) (sz : Nat) (aLa : Nat) (vLa : Nat) : Met l yX4_towns (kW yX4_towns cX4_towns 3 (some .int)) { frames := 0, cells := 0, slots := 0, locals := 0 } (kPre dC dI cI cJ cQ sz [.ref aLa] [(aLa, .inr (4, [.ref vLa, .int 0, .int (-1), .int 0]))]) (va_Qi (fun (r : Int32) (_ : Unit) => r = 0) (fun _ t₀ => kB dC dI cI cJ cQ (va_A [(aLa, .inr (4, [.ref vLa, .int 0, .int (-1), .int 0]))] sz) [(aLa, .inr (4, [.ref vLa, .int 0, .int (-1), .int 0]))] t₀) (va_A [(aLa, .inr (4, [.ref vLa, .int 0, .int (-1), .int 0]))] sz)) 0 0 (va_A [(aLa, .inr (4, [.ref vLa, .int 0, .int (-1), .int 0]))] sz) := by
  refine Met.ofW (cc := cX4_towns) (maxL := 3) (ret := (some .int)) (by decide) rfl ?_
  intro p₀ e₀ s₀ m₀ args below meth c₀ s₁ B hml hv₀
  obtain ⟨rfl, hsz, hP, hK, hD0, hN⟩ := hv₀
  have hx₀ := B.exec
  have hb := B.bytes
  have hr := B.returns
  have hts := atoms_spec (ws := (kW yX4_towns cX4_towns 3 (some .int))) B.pre
  have hts := fun w h => hts w (List.mem_cons_of_mem _ h)
  have hown : s₀.vm.findClass RX4 = some m₀.cls := findClass_of_methodNamed B.named
  have hlocks := B.notSynchronized
  subst hsz
  have hD := hD0.self (sz := s₀.heap.size)
  generalize hAe : va_A [(aLa, .inr (4, [.ref vLa, .int 0, .int (-1), .int 0]))] s₀.heap.size = A at hD ⊢
  have hA : ∀ q : Nat, s₀.heap.size ≤ q → A q := fun q h => by rw [← hAe]; exact Or.inr h
  have hS : va_S A s₀.heap s₀.heap [] := va_S.rf
  have hP : va_P (dC, dI) vwCl [(aLa, .inr (4, [.ref vLa, .int 0, .int (-1), .int 0]))] s₀.heap := hP
  have hl := lv_entry ([.ref aLa]) (n := 3) (Nat.le_of_ble_eq_true rfl)
  rw [lg_entry_eq]
  generalize (lg_sl ([.ref aLa]) ++ List.replicate (3 - (lg_sl ([.ref aLa])).length) Slot.unset).toArray = ls at hl ⊢
  have hl : lv_has ls 3 [(0, .ref aLa)] := hl
  obtain ⟨H, hH⟩ : ∃ z : Heap, z = s₀.heap := ⟨_, rfl⟩
  rw [← hH] at hP
  have hS : va_S A s₀.heap H [] := by rw [hH]; exact hS
  refine k_heap hH ?_
  have hD : va_D A [(aLa, .inr (4, [.ref vLa, .int 0, .int (-1), .int 0]))] := hD
  obtain ⟨locs, hlo⟩ : ∃ z : List Loc, z = [] := ⟨_, rfl⟩
  rw [← hlo] at hS ⊢
  clear hlo hH hAe hD0
  refine lv_iconst (v := 0) hx₀ hb dX4_towns_0 (by decide +kernel) ?_
  refine lv_istore_n (lv' := [(1, .int 0), (0, .ref aLa)]) hx₀ hb dX4_towns_1 rfl hl (by decide) rfl (fun ls hl => ?_)
  refine lv_iconst (v := 0) hx₀ hb dX4_towns_2 (by decide +kernel) ?_
  refine lv_istore_n (lv' := [(2, .int 0), (1, .int 0), (0, .ref aLa)]) hx₀ hb dX4_towns_3 rfl hl (by decide) rfl (fun ls hl => ?_)
  refine lv_iload_n hx₀ hb dX4_towns_4 rfl (lv_at hl 0 rfl) ?_
  refine lv_aload_n hx₀ hb dX4_towns_5 rfl (lv_at hl 2 rfl) ?_
  refine va_get (D := (dC, dI)) (ci := 4) (v := .int 0) (C := RX4) (T := TX4) (N := 4) hx₀ hb hts inlX4 hown hK hP 0 rfl rfl 3 (by decide) (hts (.fieldLink RX4 19 "BittenStick$Land" "number" "I") wd_771) (fun x9 h9 => u_same (hts (.sameField "BittenStick$Land" "BittenStick$Text" "number" "I") wd_286) x9 h9) rfl dX4_towns_6 ?_
  refine lv_icmp_ge (tgt := 29) hx₀ hb dX4_towns_9 (by decide) (fun _ => ?_) (fun c9 => absurd (by decide +kernel) c9)
  refine lv_iload_n hx₀ hb dX4_towns_29 rfl (lv_at hl 1 rfl) ?_
  have hP9 := hP.sub (ws' := [(aLa, .inr (4, [.ref vLa, .int 0, .int (-1), .int 0]))]) [0] rfl
  have hD9 := hD.sub (ws' := [(aLa, .inr (4, [.ref vLa, .int 0, .int (-1), .int 0]))]) [0] (by decide) rfl
  exact W.iret (v := 0) hx₀ hb hr (fun t₀ ht hW => ⟨⟨0, (), rfl, rfl, by rw [ht]; exact hP9, va_K.moved hW.alike hK, hD9⟩, hS.F ht⟩) hS.2.2 dX4_towns_30
end
section
set_option maxHeartbeats 4000000 in
set_option maxRecDepth 100000 in
theorem k_Text_X4 (l : Launch) (dC : Nat → ClassId) (dI : Nat → Nat → Nat) (cI cJ cQ : ClassId) (sz : Nat) (h : Nat) : Met l yX9_init (kW yX9_init cX9_init 2 none) { frames := 1, cells := 1, slots := 24, locals := 21 } (kPre dC dI cI cJ cQ sz [.ref h, .int 24] [(h, .inr (4, [.null, .int 0, .int 0, .int 0]))]) (va_Qv (fun (_ : Nat) => True) (fun (u : Nat) t₀ => kB dC dI cI cJ cQ (va_A [(h, .inr (4, [.null, .int 0, .int 0, .int 0]))] sz) [(h, .inr (4, [.ref (u), .int 0, .int (-1), .int 0])), ((u), .inl (cI, 24, .inl (fun _ => 0)))] t₀) (va_A [(h, .inr (4, [.null, .int 0, .int 0, .int 0]))] sz)) 1 24 (va_A [(h, .inr (4, [.null, .int 0, .int 0, .int 0]))] sz) := by
  refine Met.ofW (cc := cX9_init) (maxL := 2) (ret := none) (by decide) rfl ?_
  intro p₀ e₀ s₀ m₀ args below meth c₀ s₁ B hml hv₀
  obtain ⟨rfl, hsz, hP, hK, hD0, hN⟩ := hv₀
  have hx₀ := B.exec
  have hb := B.bytes
  have hr := B.returns
  have hts := atoms_spec (ws := (kW yX9_init cX9_init 2 none)) B.pre
  have hts := fun w h => hts w (List.mem_cons_of_mem _ h)
  have hown : s₀.vm.findClass RX9 = some m₀.cls := findClass_of_methodNamed B.named
  have hlocks := B.notSynchronized
  have hin : meth.name = "<init>" := (name_of_methodNamed B.named B.method).1
  subst hsz
  have hD := hD0.self (sz := s₀.heap.size)
  generalize hAe : va_A [(h, .inr (4, [.null, .int 0, .int 0, .int 0]))] s₀.heap.size = A at hD ⊢
  have hA : ∀ q : Nat, s₀.heap.size ≤ q → A q := fun q h => by rw [← hAe]; exact Or.inr h
  have hS : va_S A s₀.heap s₀.heap [] := va_S.rf
  have hP : va_P (dC, dI) vwCl [(h, .inr (4, [.null, .int 0, .int 0, .int 0]))] s₀.heap := hP
  have hl := lv_entry ([.ref h, .int 24]) (n := 2) (Nat.le_of_ble_eq_true rfl)
  rw [lg_entry_eq]
  generalize (lg_sl ([.ref h, .int 24]) ++ List.replicate (2 - (lg_sl ([.ref h, .int 24])).length) Slot.unset).toArray = ls at hl ⊢
  have hl : lv_has ls 2 [(0, .ref h), (1, .int 24)] := hl
  obtain ⟨H, hH⟩ : ∃ z : Heap, z = s₀.heap := ⟨_, rfl⟩
  rw [← hH] at hP
  have hS : va_S A s₀.heap H [] := by rw [hH]; exact hS
  refine k_heap hH ?_
  have hD : va_D A [(h, .inr (4, [.null, .int 0, .int 0, .int 0]))] := hD
  obtain ⟨locs, hlo⟩ : ∃ z : List Loc, z = [] := ⟨_, rfl⟩
  rw [← hlo] at hS ⊢
  clear hlo hH hAe hD0
  refine lv_aload_n hx₀ hb dX9_init_0 rfl (lv_at hl 0 rfl) ?_
  refine W.objInit hx₀ hb hown (hts (.methodLink RX9 3 objectInit) wd_59) (hts (.instanceMethod objectInit) wd_10) (hts (.code objectInit ⟨#[0xb1]⟩ 1 none) wd_11) rfl (by rw [hml]; exact hl.1) rfl dX9_init_1 (Nat.le_of_ble_eq_true rfl) (Nat.le_of_ble_eq_true rfl) ?_
  refine W.eq (g2 := F0 m₀ 4 ls []) rfl ?_
  refine lv_aload_n hx₀ hb dX9_init_4 rfl (lv_at hl 0 rfl) ?_
  refine lv_iconst (v := (-1)) hx₀ hb dX9_init_5 (by decide +kernel) ?_
  refine va_put (D := (dC, dI)) (ci := 4) (v := .int (-1)) (ty := .int) (C := RX4) (T := TX4) (N := 4) hx₀ hb hts inlX4 tyX4 tyX4_ok nmX4 hown hK hP hD hS 0 rfl rfl 2 (by decide) (hts (.fieldLink RX9 9 "BittenStick$Text" "faultAt" "I") wd_60) (fun _ h9 => h9) rfl (by decide +kernel) rfl rfl (Nat.le_of_ble_eq_true rfl) dX9_init_6 (fun H locs hP hD hS => ?_)
  have hP : va_P (dC, dI) vwCl [(h, .inr (4, [.null, .int 0, .int (-1), .int 0]))] H := hP
  have hD : va_D A [(h, .inr (4, [.null, .int 0, .int (-1), .int 0]))] := hD
  refine lv_aload_n hx₀ hb dX9_init_9 rfl (lv_at hl 0 rfl) ?_
  refine lv_iconst (v := 0) hx₀ hb dX9_init_10 (by decide +kernel) ?_
  refine lv_iload_n hx₀ hb dX9_init_11 rfl (lv_at hl 1 rfl) ?_
  refine va_mmax hx₀ hb (by rw [hml]; exact hl.1.symm) hown (hts (.methodLink RX9 15 Lib.Math.max.name) wd_61) (hts (.static Lib.Math.max.name) wd_62) (hts (.initialized "java/lang/Math") wd_63) (hts (.code Lib.Math.max.name Lib.Math.max.code 2 (some .int)) wd_64) (by decide) (Nat.le_of_ble_eq_true rfl) (by decide) (by decide) dX9_init_12 ?_
  refine k_topi (v := 24) (by decide +kernel) ?_
  refine k_newaI (N' := 24) hx₀ hb (hts (.arrayClass .int) wd_44) hK hP hD hS hA (by decide +kernel) (by decide +kernel) (by decide +kernel) (by decide +kernel) (by decide +kernel) dX9_init_15 (fun qa_1 H hP hD hS => ?_)
  have hP : va_P (dC, dI) vwCl [(h, .inr (4, [.null, .int 0, .int (-1), .int 0])), (qa_1, .inl (cI, 24, .inl (fun _ => 0)))] H := hP
  have hD : va_D A [(h, .inr (4, [.null, .int 0, .int (-1), .int 0])), (qa_1, .inl (cI, 24, .inl (fun _ => 0)))] := hD
  refine W.widen (k := 1) (n := 24) (by omega) (by omega) ?_
  refine va_putF (D := (dC, dI)) (ci := 4) (v := .ref qa_1) (ty := .array .int) (C := RX4) (T := TX4) (N := 4) hx₀ hb hts inlX4 tyX4 tyX4_ok nmX4 hown hK hP hD hS 0 rfl rfl 0 (by decide) (hts (.fieldLink RX9 21 "BittenStick$Text" "values" "[I") wd_65) (fun _ h9 => h9) rfl hin rfl (by decide +kernel) rfl rfl (Nat.le_of_ble_eq_true rfl) dX9_init_17 (fun H locs hP hD hS => ?_)
  have hP : va_P (dC, dI) vwCl [(h, .inr (4, [.ref qa_1, .int 0, .int (-1), .int 0])), (qa_1, .inl (cI, 24, .inl (fun _ => 0)))] H := hP
  have hD : va_D A [(h, .inr (4, [.ref qa_1, .int 0, .int (-1), .int 0])), (qa_1, .inl (cI, 24, .inl (fun _ => 0)))] := hD
  refine W.widen (k := 1) (n := 24) (by decide +kernel) (by decide +kernel) ?_
  have hP9 := hP.sub (ws' := [(h, .inr (4, [.ref qa_1, .int 0, .int (-1), .int 0])), (qa_1, .inl (cI, 24, .inl (fun _ => 0)))]) [0, 1] rfl
  have hD9 := hD.sub (ws' := [(h, .inr (4, [.ref qa_1, .int 0, .int (-1), .int 0])), (qa_1, .inl (cI, 24, .inl (fun _ => 0)))]) [0, 1] (by decide) rfl
  exact W.vret hx₀ hb hr (fun t₀ ht hW => ⟨⟨(qa_1), rfl, trivial, by rw [ht]; exact hP9, va_K.moved hW.alike hK, hD9⟩, hS.F ht⟩) hS.2.2 dX9_init_20
set_option maxHeartbeats 4000000 in
set_option maxRecDepth 100000 in
theorem k_X4 (l : Launch) (dC : Nat → ClassId) (dI : Nat → Nat → Nat) (cI cJ cQ : ClassId) (sz : Nat) (h : Nat) : Met l yX4_init (kW yX4_init cX4_init 1 none) { frames := 2, cells := 1, slots := 24, locals := 42 } (kPre dC dI cI cJ cQ sz [.ref h] [(h, .inr (4, [.null, .int 0, .int 0, .int 0]))]) (va_Qv (fun (_ : Nat) => True) (fun (u : Nat) t₀ => kB dC dI cI cJ cQ (va_A [(h, .inr (4, [.null, .int 0, .int 0, .int 0]))] sz) [(h, .inr (4, [.ref (u), .int 0, .int (-1), .int 0])), ((u), .inl (cI, 24, .inl (fun _ => 0)))] t₀) (va_A [(h, .inr (4, [.null, .int 0, .int 0, .int 0]))] sz)) 1 24 (va_A [(h, .inr (4, [.null, .int 0, .int 0, .int 0]))] sz) := by
  refine Met.ofW (cc := cX4_init) (maxL := 1) (ret := none) (by decide) rfl ?_
  intro p₀ e₀ s₀ m₀ args below meth c₀ s₁ B hml hv₀
  obtain ⟨rfl, hsz, hP, hK, hD0, hN⟩ := hv₀
  have hx₀ := B.exec
  have hb := B.bytes
  have hr := B.returns
  have hts := atoms_spec (ws := (kW yX4_init cX4_init 1 none)) B.pre
  have hts := fun w h => hts w (List.mem_cons_of_mem _ h)
  have hown : s₀.vm.findClass RX4 = some m₀.cls := findClass_of_methodNamed B.named
  have hlocks := B.notSynchronized
  have hin : meth.name = "<init>" := (name_of_methodNamed B.named B.method).1
  subst hsz
  have hD := hD0.self (sz := s₀.heap.size)
  generalize hAe : va_A [(h, .inr (4, [.null, .int 0, .int 0, .int 0]))] s₀.heap.size = A at hD ⊢
  have hA : ∀ q : Nat, s₀.heap.size ≤ q → A q := fun q h => by rw [← hAe]; exact Or.inr h
  have hS : va_S A s₀.heap s₀.heap [] := va_S.rf
  have hP : va_P (dC, dI) vwCl [(h, .inr (4, [.null, .int 0, .int 0, .int 0]))] s₀.heap := hP
  have hl := lv_entry ([.ref h]) (n := 1) (Nat.le_of_ble_eq_true rfl)
  rw [lg_entry_eq]
  generalize (lg_sl ([.ref h]) ++ List.replicate (1 - (lg_sl ([.ref h])).length) Slot.unset).toArray = ls at hl ⊢
  have hl : lv_has ls 1 [(0, .ref h)] := hl
  obtain ⟨H, hH⟩ : ∃ z : Heap, z = s₀.heap := ⟨_, rfl⟩
  rw [← hH] at hP
  have hS : va_S A s₀.heap H [] := by rw [hH]; exact hS
  refine k_heap hH ?_
  have hD : va_D A [(h, .inr (4, [.null, .int 0, .int 0, .int 0]))] := hD
  obtain ⟨locs, hlo⟩ : ∃ z : List Loc, z = [] := ⟨_, rfl⟩
  rw [← hlo] at hS ⊢
  clear hlo hH hAe hD0
  refine lv_aload_n hx₀ hb dX4_init_0 rfl (lv_at hl 0 rfl) ?_
  refine lv_bipush (v := 24) hx₀ hb dX4_init_1 (by decide +kernel) ?_
  have hPc := hP.sub (ws' := [(h, .inr (4, [.null, .int 0, .int 0, .int 0]))]) [0] rfl
  have hDc := hD.sub (ws' := [(h, .inr (4, [.null, .int 0, .int 0, .int 0]))]) [0] (by decide) rfl
  have hFc := va_free (wc := [(h, .inr (4, [.null, .int 0, .int 0, .int 0]))]) hD hS hA [0] rfl
  refine va_callv (va_runI (As := [.int 24]) (rest := []) ⟨hx₀, hb, hml, hown, hts⟩ (k_Text_X4 l dC dI cI cJ cQ H.size h) (cwI 1 hts (kG wd_58) rfl rfl rfl (hts (.initialized RX9) wd_57) (hts (.methodLink RX4 3 yX9_init) wd_55) (hts (.instanceMethod yX9_init) wd_56) rfl (by decide +kernel) ⟨Nat.le_of_ble_eq_true rfl, Nat.le_of_ble_eq_true rfl⟩) (k_preS hK hPc hDc hN) rfl rfl hl.1 rfl (lv_room (Nat.le_of_ble_eq_true rfl)) dX4_init_3 ⟨by decide +kernel, by decide +kernel⟩) hS (fun q _ h => hFc q h) hFc (fun u₀ t₀ H1 locs ht hvm hw hB hz1 hk1 hS => ?_)
  obtain ⟨qn_2, rfl⟩ : ∃ z, z = u₀ := ⟨_, rfl⟩
  obtain ⟨hP1, hK1, hD1⟩ := hB
  rw [ht] at hP1
  obtain ⟨hP, hD⟩ := va_join (wr := []) (w1 := [(h, .inr (4, [.ref qn_2, .int 0, .int (-1), .int 0])), (qn_2, .inl (cI, 24, .inl (fun _ => 0)))]) hP hD [0] [] rfl rfl (by decide) (by decide) hk1 hFc hP1 hD1
  generalize H1 = H at hP hS ⊢
  have hP : va_P (dC, dI) vwCl [(h, .inr (4, [.ref qn_2, .int 0, .int (-1), .int 0])), (qn_2, .inl (cI, 24, .inl (fun _ => 0)))] H := hP
  have hD : va_D A [(h, .inr (4, [.ref qn_2, .int 0, .int (-1), .int 0])), (qn_2, .inl (cI, 24, .inl (fun _ => 0)))] := hD
  refine W.widen (k := 1) (n := 24) (by omega) (by omega) ?_
  refine W.widen (k := 1) (n := 24) (by decide +kernel) (by decide +kernel) ?_
  have hP9 := hP.sub (ws' := [(h, .inr (4, [.ref qn_2, .int 0, .int (-1), .int 0])), (qn_2, .inl (cI, 24, .inl (fun _ => 0)))]) [0, 1] rfl
  have hD9 := hD.sub (ws' := [(h, .inr (4, [.ref qn_2, .int 0, .int (-1), .int 0])), (qn_2, .inl (cI, 24, .inl (fun _ => 0)))]) [0, 1] (by decide) rfl
  exact W.vret hx₀ hb hr (fun t₀ ht hW => ⟨⟨(qn_2), rfl, trivial, by rw [ht]; exact hP9, va_K.moved hW.alike hK, hD9⟩, hS.F ht⟩) hS.2.2 dX4_init_6
set_option maxHeartbeats 4000000 in
set_option maxRecDepth 100000 in
theorem k_Text_X7 (l : Launch) (dC : Nat → ClassId) (dI : Nat → Nat → Nat) (cI cJ cQ : ClassId) (sz : Nat) (h : Nat) : Met l yX9_init (kW yX9_init cX9_init 2 none) { frames := 1, cells := 1, slots := 39, locals := 21 } (kPre dC dI cI cJ cQ sz [.ref h, .int 39] [(h, .inr (7, [.null, .int 0, .int 0, .int 0]))]) (va_Qv (fun (_ : Nat) => True) (fun (u : Nat) t₀ => kB dC dI cI cJ cQ (va_A [(h, .inr (7, [.null, .int 0, .int 0, .int 0]))] sz) [(h, .inr (7, [.ref (u), .int 0, .int (-1), .int 0])), ((u), .inl (cI, 39, .inl (fun _ => 0)))] t₀) (va_A [(h, .inr (7, [.null, .int 0, .int 0, .int 0]))] sz)) 1 39 (va_A [(h, .inr (7, [.null, .int 0, .int 0, .int 0]))] sz) := by
  refine Met.ofW (cc := cX9_init) (maxL := 2) (ret := none) (by decide) rfl ?_
  intro p₀ e₀ s₀ m₀ args below meth c₀ s₁ B hml hv₀
  obtain ⟨rfl, hsz, hP, hK, hD0, hN⟩ := hv₀
  have hx₀ := B.exec
  have hb := B.bytes
  have hr := B.returns
  have hts := atoms_spec (ws := (kW yX9_init cX9_init 2 none)) B.pre
  have hts := fun w h => hts w (List.mem_cons_of_mem _ h)
  have hown : s₀.vm.findClass RX9 = some m₀.cls := findClass_of_methodNamed B.named
  have hlocks := B.notSynchronized
  have hin : meth.name = "<init>" := (name_of_methodNamed B.named B.method).1
  subst hsz
  have hD := hD0.self (sz := s₀.heap.size)
  generalize hAe : va_A [(h, .inr (7, [.null, .int 0, .int 0, .int 0]))] s₀.heap.size = A at hD ⊢
  have hA : ∀ q : Nat, s₀.heap.size ≤ q → A q := fun q h => by rw [← hAe]; exact Or.inr h
  have hS : va_S A s₀.heap s₀.heap [] := va_S.rf
  have hP : va_P (dC, dI) vwCl [(h, .inr (7, [.null, .int 0, .int 0, .int 0]))] s₀.heap := hP
  have hl := lv_entry ([.ref h, .int 39]) (n := 2) (Nat.le_of_ble_eq_true rfl)
  rw [lg_entry_eq]
  generalize (lg_sl ([.ref h, .int 39]) ++ List.replicate (2 - (lg_sl ([.ref h, .int 39])).length) Slot.unset).toArray = ls at hl ⊢
  have hl : lv_has ls 2 [(0, .ref h), (1, .int 39)] := hl
  obtain ⟨H, hH⟩ : ∃ z : Heap, z = s₀.heap := ⟨_, rfl⟩
  rw [← hH] at hP
  have hS : va_S A s₀.heap H [] := by rw [hH]; exact hS
  refine k_heap hH ?_
  have hD : va_D A [(h, .inr (7, [.null, .int 0, .int 0, .int 0]))] := hD
  obtain ⟨locs, hlo⟩ : ∃ z : List Loc, z = [] := ⟨_, rfl⟩
  rw [← hlo] at hS ⊢
  clear hlo hH hAe hD0
  refine lv_aload_n hx₀ hb dX9_init_0 rfl (lv_at hl 0 rfl) ?_
  refine W.objInit hx₀ hb hown (hts (.methodLink RX9 3 objectInit) wd_59) (hts (.instanceMethod objectInit) wd_10) (hts (.code objectInit ⟨#[0xb1]⟩ 1 none) wd_11) rfl (by rw [hml]; exact hl.1) rfl dX9_init_1 (Nat.le_of_ble_eq_true rfl) (Nat.le_of_ble_eq_true rfl) ?_
  refine W.eq (g2 := F0 m₀ 4 ls []) rfl ?_
  refine lv_aload_n hx₀ hb dX9_init_4 rfl (lv_at hl 0 rfl) ?_
  refine lv_iconst (v := (-1)) hx₀ hb dX9_init_5 (by decide +kernel) ?_
  refine va_put (D := (dC, dI)) (ci := 7) (v := .int (-1)) (ty := .int) (C := RX7) (T := TX7) (N := 4) hx₀ hb hts inlX7 tyX7 tyX7_ok nmX7 hown hK hP hD hS 0 rfl rfl 2 (by decide) (hts (.fieldLink RX9 9 "BittenStick$Text" "faultAt" "I") wd_60) (fun _ h9 => h9) rfl (by decide +kernel) rfl rfl (Nat.le_of_ble_eq_true rfl) dX9_init_6 (fun H locs hP hD hS => ?_)
  have hP : va_P (dC, dI) vwCl [(h, .inr (7, [.null, .int 0, .int (-1), .int 0]))] H := hP
  have hD : va_D A [(h, .inr (7, [.null, .int 0, .int (-1), .int 0]))] := hD
  refine lv_aload_n hx₀ hb dX9_init_9 rfl (lv_at hl 0 rfl) ?_
  refine lv_iconst (v := 0) hx₀ hb dX9_init_10 (by decide +kernel) ?_
  refine lv_iload_n hx₀ hb dX9_init_11 rfl (lv_at hl 1 rfl) ?_
  refine va_mmax hx₀ hb (by rw [hml]; exact hl.1.symm) hown (hts (.methodLink RX9 15 Lib.Math.max.name) wd_61) (hts (.static Lib.Math.max.name) wd_62) (hts (.initialized "java/lang/Math") wd_63) (hts (.code Lib.Math.max.name Lib.Math.max.code 2 (some .int)) wd_64) (by decide) (Nat.le_of_ble_eq_true rfl) (by decide) (by decide) dX9_init_12 ?_
  refine k_topi (v := 39) (by decide +kernel) ?_
  refine k_newaI (N' := 39) hx₀ hb (hts (.arrayClass .int) wd_44) hK hP hD hS hA (by decide +kernel) (by decide +kernel) (by decide +kernel) (by decide +kernel) (by decide +kernel) dX9_init_15 (fun qa_1 H hP hD hS => ?_)
  have hP : va_P (dC, dI) vwCl [(h, .inr (7, [.null, .int 0, .int (-1), .int 0])), (qa_1, .inl (cI, 39, .inl (fun _ => 0)))] H := hP
  have hD : va_D A [(h, .inr (7, [.null, .int 0, .int (-1), .int 0])), (qa_1, .inl (cI, 39, .inl (fun _ => 0)))] := hD
  refine W.widen (k := 1) (n := 39) (by omega) (by omega) ?_
  refine va_putF (D := (dC, dI)) (ci := 7) (v := .ref qa_1) (ty := .array .int) (C := RX7) (T := TX7) (N := 4) hx₀ hb hts inlX7 tyX7 tyX7_ok nmX7 hown hK hP hD hS 0 rfl rfl 0 (by decide) (hts (.fieldLink RX9 21 "BittenStick$Text" "values" "[I") wd_65) (fun _ h9 => h9) rfl hin rfl (by decide +kernel) rfl rfl (Nat.le_of_ble_eq_true rfl) dX9_init_17 (fun H locs hP hD hS => ?_)
  have hP : va_P (dC, dI) vwCl [(h, .inr (7, [.ref qa_1, .int 0, .int (-1), .int 0])), (qa_1, .inl (cI, 39, .inl (fun _ => 0)))] H := hP
  have hD : va_D A [(h, .inr (7, [.ref qa_1, .int 0, .int (-1), .int 0])), (qa_1, .inl (cI, 39, .inl (fun _ => 0)))] := hD
  refine W.widen (k := 1) (n := 39) (by decide +kernel) (by decide +kernel) ?_
  have hP9 := hP.sub (ws' := [(h, .inr (7, [.ref qa_1, .int 0, .int (-1), .int 0])), (qa_1, .inl (cI, 39, .inl (fun _ => 0)))]) [0, 1] rfl
  have hD9 := hD.sub (ws' := [(h, .inr (7, [.ref qa_1, .int 0, .int (-1), .int 0])), (qa_1, .inl (cI, 39, .inl (fun _ => 0)))]) [0, 1] (by decide) rfl
  exact W.vret hx₀ hb hr (fun t₀ ht hW => ⟨⟨(qa_1), rfl, trivial, by rw [ht]; exact hP9, va_K.moved hW.alike hK, hD9⟩, hS.F ht⟩) hS.2.2 dX9_init_20
set_option maxHeartbeats 4000000 in
set_option maxRecDepth 100000 in
theorem k_X7 (l : Launch) (dC : Nat → ClassId) (dI : Nat → Nat → Nat) (cI cJ cQ : ClassId) (sz : Nat) (h : Nat) : Met l yX7_init (kW yX7_init cX7_init 1 none) { frames := 2, cells := 1, slots := 39, locals := 42 } (kPre dC dI cI cJ cQ sz [.ref h] [(h, .inr (7, [.null, .int 0, .int 0, .int 0]))]) (va_Qv (fun (_ : Nat) => True) (fun (u : Nat) t₀ => kB dC dI cI cJ cQ (va_A [(h, .inr (7, [.null, .int 0, .int 0, .int 0]))] sz) [(h, .inr (7, [.ref (u), .int 0, .int (-1), .int 0])), ((u), .inl (cI, 39, .inl (fun _ => 0)))] t₀) (va_A [(h, .inr (7, [.null, .int 0, .int 0, .int 0]))] sz)) 1 39 (va_A [(h, .inr (7, [.null, .int 0, .int 0, .int 0]))] sz) := by
  refine Met.ofW (cc := cX7_init) (maxL := 1) (ret := none) (by decide) rfl ?_
  intro p₀ e₀ s₀ m₀ args below meth c₀ s₁ B hml hv₀
  obtain ⟨rfl, hsz, hP, hK, hD0, hN⟩ := hv₀
  have hx₀ := B.exec
  have hb := B.bytes
  have hr := B.returns
  have hts := atoms_spec (ws := (kW yX7_init cX7_init 1 none)) B.pre
  have hts := fun w h => hts w (List.mem_cons_of_mem _ h)
  have hown : s₀.vm.findClass RX7 = some m₀.cls := findClass_of_methodNamed B.named
  have hlocks := B.notSynchronized
  have hin : meth.name = "<init>" := (name_of_methodNamed B.named B.method).1
  subst hsz
  have hD := hD0.self (sz := s₀.heap.size)
  generalize hAe : va_A [(h, .inr (7, [.null, .int 0, .int 0, .int 0]))] s₀.heap.size = A at hD ⊢
  have hA : ∀ q : Nat, s₀.heap.size ≤ q → A q := fun q h => by rw [← hAe]; exact Or.inr h
  have hS : va_S A s₀.heap s₀.heap [] := va_S.rf
  have hP : va_P (dC, dI) vwCl [(h, .inr (7, [.null, .int 0, .int 0, .int 0]))] s₀.heap := hP
  have hl := lv_entry ([.ref h]) (n := 1) (Nat.le_of_ble_eq_true rfl)
  rw [lg_entry_eq]
  generalize (lg_sl ([.ref h]) ++ List.replicate (1 - (lg_sl ([.ref h])).length) Slot.unset).toArray = ls at hl ⊢
  have hl : lv_has ls 1 [(0, .ref h)] := hl
  obtain ⟨H, hH⟩ : ∃ z : Heap, z = s₀.heap := ⟨_, rfl⟩
  rw [← hH] at hP
  have hS : va_S A s₀.heap H [] := by rw [hH]; exact hS
  refine k_heap hH ?_
  have hD : va_D A [(h, .inr (7, [.null, .int 0, .int 0, .int 0]))] := hD
  obtain ⟨locs, hlo⟩ : ∃ z : List Loc, z = [] := ⟨_, rfl⟩
  rw [← hlo] at hS ⊢
  clear hlo hH hAe hD0
  refine lv_aload_n hx₀ hb dX7_init_0 rfl (lv_at hl 0 rfl) ?_
  refine lv_bipush (v := 39) hx₀ hb dX7_init_1 (by decide +kernel) ?_
  have hPc := hP.sub (ws' := [(h, .inr (7, [.null, .int 0, .int 0, .int 0]))]) [0] rfl
  have hDc := hD.sub (ws' := [(h, .inr (7, [.null, .int 0, .int 0, .int 0]))]) [0] (by decide) rfl
  have hFc := va_free (wc := [(h, .inr (7, [.null, .int 0, .int 0, .int 0]))]) hD hS hA [0] rfl
  refine va_callv (va_runI (As := [.int 39]) (rest := []) ⟨hx₀, hb, hml, hown, hts⟩ (k_Text_X7 l dC dI cI cJ cQ H.size h) (cwI 1 hts (kG wd_58) rfl rfl rfl (hts (.initialized RX9) wd_57) (hts (.methodLink RX7 3 yX9_init) wd_69) (hts (.instanceMethod yX9_init) wd_56) rfl (by decide +kernel) ⟨Nat.le_of_ble_eq_true rfl, Nat.le_of_ble_eq_true rfl⟩) (k_preS hK hPc hDc hN) rfl rfl hl.1 rfl (lv_room (Nat.le_of_ble_eq_true rfl)) dX7_init_3 ⟨by decide +kernel, by decide +kernel⟩) hS (fun q _ h => hFc q h) hFc (fun u₀ t₀ H1 locs ht hvm hw hB hz1 hk1 hS => ?_)
  obtain ⟨qn_2, rfl⟩ : ∃ z, z = u₀ := ⟨_, rfl⟩
  obtain ⟨hP1, hK1, hD1⟩ := hB
  rw [ht] at hP1
  obtain ⟨hP, hD⟩ := va_join (wr := []) (w1 := [(h, .inr (7, [.ref qn_2, .int 0, .int (-1), .int 0])), (qn_2, .inl (cI, 39, .inl (fun _ => 0)))]) hP hD [0] [] rfl rfl (by decide) (by decide) hk1 hFc hP1 hD1
  generalize H1 = H at hP hS ⊢
  have hP : va_P (dC, dI) vwCl [(h, .inr (7, [.ref qn_2, .int 0, .int (-1), .int 0])), (qn_2, .inl (cI, 39, .inl (fun _ => 0)))] H := hP
  have hD : va_D A [(h, .inr (7, [.ref qn_2, .int 0, .int (-1), .int 0])), (qn_2, .inl (cI, 39, .inl (fun _ => 0)))] := hD
  refine W.widen (k := 1) (n := 39) (by omega) (by omega) ?_
  refine W.widen (k := 1) (n := 39) (by decide +kernel) (by decide +kernel) ?_
  have hP9 := hP.sub (ws' := [(h, .inr (7, [.ref qn_2, .int 0, .int (-1), .int 0])), (qn_2, .inl (cI, 39, .inl (fun _ => 0)))]) [0, 1] rfl
  have hD9 := hD.sub (ws' := [(h, .inr (7, [.ref qn_2, .int 0, .int (-1), .int 0])), (qn_2, .inl (cI, 39, .inl (fun _ => 0)))]) [0, 1] (by decide) rfl
  exact W.vret hx₀ hb hr (fun t₀ ht hW => ⟨⟨(qn_2), rfl, trivial, by rw [ht]; exact hP9, va_K.moved hW.alike hK, hD9⟩, hS.F ht⟩) hS.2.2 dX7_init_6
set_option maxHeartbeats 4000000 in
set_option maxRecDepth 100000 in
theorem k_Text_X2 (l : Launch) (dC : Nat → ClassId) (dI : Nat → Nat → Nat) (cI cJ cQ : ClassId) (sz : Nat) (h : Nat) : Met l yX9_init (kW yX9_init cX9_init 2 none) { frames := 1, cells := 1, slots := 23, locals := 21 } (kPre dC dI cI cJ cQ sz [.ref h, .int 23] [(h, .inr (2, [.null, .int 0, .int 0, .int 0]))]) (va_Qv (fun (_ : Nat) => True) (fun (u : Nat) t₀ => kB dC dI cI cJ cQ (va_A [(h, .inr (2, [.null, .int 0, .int 0, .int 0]))] sz) [(h, .inr (2, [.ref (u), .int 0, .int (-1), .int 0])), ((u), .inl (cI, 23, .inl (fun _ => 0)))] t₀) (va_A [(h, .inr (2, [.null, .int 0, .int 0, .int 0]))] sz)) 1 23 (va_A [(h, .inr (2, [.null, .int 0, .int 0, .int 0]))] sz) := by
  refine Met.ofW (cc := cX9_init) (maxL := 2) (ret := none) (by decide) rfl ?_
  intro p₀ e₀ s₀ m₀ args below meth c₀ s₁ B hml hv₀
  obtain ⟨rfl, hsz, hP, hK, hD0, hN⟩ := hv₀
  have hx₀ := B.exec
  have hb := B.bytes
  have hr := B.returns
  have hts := atoms_spec (ws := (kW yX9_init cX9_init 2 none)) B.pre
  have hts := fun w h => hts w (List.mem_cons_of_mem _ h)
  have hown : s₀.vm.findClass RX9 = some m₀.cls := findClass_of_methodNamed B.named
  have hlocks := B.notSynchronized
  have hin : meth.name = "<init>" := (name_of_methodNamed B.named B.method).1
  subst hsz
  have hD := hD0.self (sz := s₀.heap.size)
  generalize hAe : va_A [(h, .inr (2, [.null, .int 0, .int 0, .int 0]))] s₀.heap.size = A at hD ⊢
  have hA : ∀ q : Nat, s₀.heap.size ≤ q → A q := fun q h => by rw [← hAe]; exact Or.inr h
  have hS : va_S A s₀.heap s₀.heap [] := va_S.rf
  have hP : va_P (dC, dI) vwCl [(h, .inr (2, [.null, .int 0, .int 0, .int 0]))] s₀.heap := hP
  have hl := lv_entry ([.ref h, .int 23]) (n := 2) (Nat.le_of_ble_eq_true rfl)
  rw [lg_entry_eq]
  generalize (lg_sl ([.ref h, .int 23]) ++ List.replicate (2 - (lg_sl ([.ref h, .int 23])).length) Slot.unset).toArray = ls at hl ⊢
  have hl : lv_has ls 2 [(0, .ref h), (1, .int 23)] := hl
  obtain ⟨H, hH⟩ : ∃ z : Heap, z = s₀.heap := ⟨_, rfl⟩
  rw [← hH] at hP
  have hS : va_S A s₀.heap H [] := by rw [hH]; exact hS
  refine k_heap hH ?_
  have hD : va_D A [(h, .inr (2, [.null, .int 0, .int 0, .int 0]))] := hD
  obtain ⟨locs, hlo⟩ : ∃ z : List Loc, z = [] := ⟨_, rfl⟩
  rw [← hlo] at hS ⊢
  clear hlo hH hAe hD0
  refine lv_aload_n hx₀ hb dX9_init_0 rfl (lv_at hl 0 rfl) ?_
  refine W.objInit hx₀ hb hown (hts (.methodLink RX9 3 objectInit) wd_59) (hts (.instanceMethod objectInit) wd_10) (hts (.code objectInit ⟨#[0xb1]⟩ 1 none) wd_11) rfl (by rw [hml]; exact hl.1) rfl dX9_init_1 (Nat.le_of_ble_eq_true rfl) (Nat.le_of_ble_eq_true rfl) ?_
  refine W.eq (g2 := F0 m₀ 4 ls []) rfl ?_
  refine lv_aload_n hx₀ hb dX9_init_4 rfl (lv_at hl 0 rfl) ?_
  refine lv_iconst (v := (-1)) hx₀ hb dX9_init_5 (by decide +kernel) ?_
  refine va_put (D := (dC, dI)) (ci := 2) (v := .int (-1)) (ty := .int) (C := RX2) (T := TX2) (N := 4) hx₀ hb hts inlX2 tyX2 tyX2_ok nmX2 hown hK hP hD hS 0 rfl rfl 2 (by decide) (hts (.fieldLink RX9 9 "BittenStick$Text" "faultAt" "I") wd_60) (fun _ h9 => h9) rfl (by decide +kernel) rfl rfl (Nat.le_of_ble_eq_true rfl) dX9_init_6 (fun H locs hP hD hS => ?_)
  have hP : va_P (dC, dI) vwCl [(h, .inr (2, [.null, .int 0, .int (-1), .int 0]))] H := hP
  have hD : va_D A [(h, .inr (2, [.null, .int 0, .int (-1), .int 0]))] := hD
  refine lv_aload_n hx₀ hb dX9_init_9 rfl (lv_at hl 0 rfl) ?_
  refine lv_iconst (v := 0) hx₀ hb dX9_init_10 (by decide +kernel) ?_
  refine lv_iload_n hx₀ hb dX9_init_11 rfl (lv_at hl 1 rfl) ?_
  refine va_mmax hx₀ hb (by rw [hml]; exact hl.1.symm) hown (hts (.methodLink RX9 15 Lib.Math.max.name) wd_61) (hts (.static Lib.Math.max.name) wd_62) (hts (.initialized "java/lang/Math") wd_63) (hts (.code Lib.Math.max.name Lib.Math.max.code 2 (some .int)) wd_64) (by decide) (Nat.le_of_ble_eq_true rfl) (by decide) (by decide) dX9_init_12 ?_
  refine k_topi (v := 23) (by decide +kernel) ?_
  refine k_newaI (N' := 23) hx₀ hb (hts (.arrayClass .int) wd_44) hK hP hD hS hA (by decide +kernel) (by decide +kernel) (by decide +kernel) (by decide +kernel) (by decide +kernel) dX9_init_15 (fun qa_1 H hP hD hS => ?_)
  have hP : va_P (dC, dI) vwCl [(h, .inr (2, [.null, .int 0, .int (-1), .int 0])), (qa_1, .inl (cI, 23, .inl (fun _ => 0)))] H := hP
  have hD : va_D A [(h, .inr (2, [.null, .int 0, .int (-1), .int 0])), (qa_1, .inl (cI, 23, .inl (fun _ => 0)))] := hD
  refine W.widen (k := 1) (n := 23) (by omega) (by omega) ?_
  refine va_putF (D := (dC, dI)) (ci := 2) (v := .ref qa_1) (ty := .array .int) (C := RX2) (T := TX2) (N := 4) hx₀ hb hts inlX2 tyX2 tyX2_ok nmX2 hown hK hP hD hS 0 rfl rfl 0 (by decide) (hts (.fieldLink RX9 21 "BittenStick$Text" "values" "[I") wd_65) (fun _ h9 => h9) rfl hin rfl (by decide +kernel) rfl rfl (Nat.le_of_ble_eq_true rfl) dX9_init_17 (fun H locs hP hD hS => ?_)
  have hP : va_P (dC, dI) vwCl [(h, .inr (2, [.ref qa_1, .int 0, .int (-1), .int 0])), (qa_1, .inl (cI, 23, .inl (fun _ => 0)))] H := hP
  have hD : va_D A [(h, .inr (2, [.ref qa_1, .int 0, .int (-1), .int 0])), (qa_1, .inl (cI, 23, .inl (fun _ => 0)))] := hD
  refine W.widen (k := 1) (n := 23) (by decide +kernel) (by decide +kernel) ?_
  have hP9 := hP.sub (ws' := [(h, .inr (2, [.ref qa_1, .int 0, .int (-1), .int 0])), (qa_1, .inl (cI, 23, .inl (fun _ => 0)))]) [0, 1] rfl
  have hD9 := hD.sub (ws' := [(h, .inr (2, [.ref qa_1, .int 0, .int (-1), .int 0])), (qa_1, .inl (cI, 23, .inl (fun _ => 0)))]) [0, 1] (by decide) rfl
  exact W.vret hx₀ hb hr (fun t₀ ht hW => ⟨⟨(qa_1), rfl, trivial, by rw [ht]; exact hP9, va_K.moved hW.alike hK, hD9⟩, hS.F ht⟩) hS.2.2 dX9_init_20
set_option maxHeartbeats 4000000 in
set_option maxRecDepth 100000 in
theorem k_X2 (l : Launch) (dC : Nat → ClassId) (dI : Nat → Nat → Nat) (cI cJ cQ : ClassId) (sz : Nat) (h : Nat) : Met l yX2_init (kW yX2_init cX2_init 1 none) { frames := 2, cells := 1, slots := 23, locals := 42 } (kPre dC dI cI cJ cQ sz [.ref h] [(h, .inr (2, [.null, .int 0, .int 0, .int 0]))]) (va_Qv (fun (_ : Nat) => True) (fun (u : Nat) t₀ => kB dC dI cI cJ cQ (va_A [(h, .inr (2, [.null, .int 0, .int 0, .int 0]))] sz) [(h, .inr (2, [.ref (u), .int 0, .int (-1), .int 0])), ((u), .inl (cI, 23, .inl (fun _ => 0)))] t₀) (va_A [(h, .inr (2, [.null, .int 0, .int 0, .int 0]))] sz)) 1 23 (va_A [(h, .inr (2, [.null, .int 0, .int 0, .int 0]))] sz) := by
  refine Met.ofW (cc := cX2_init) (maxL := 1) (ret := none) (by decide) rfl ?_
  intro p₀ e₀ s₀ m₀ args below meth c₀ s₁ B hml hv₀
  obtain ⟨rfl, hsz, hP, hK, hD0, hN⟩ := hv₀
  have hx₀ := B.exec
  have hb := B.bytes
  have hr := B.returns
  have hts := atoms_spec (ws := (kW yX2_init cX2_init 1 none)) B.pre
  have hts := fun w h => hts w (List.mem_cons_of_mem _ h)
  have hown : s₀.vm.findClass RX2 = some m₀.cls := findClass_of_methodNamed B.named
  have hlocks := B.notSynchronized
  have hin : meth.name = "<init>" := (name_of_methodNamed B.named B.method).1
  subst hsz
  have hD := hD0.self (sz := s₀.heap.size)
  generalize hAe : va_A [(h, .inr (2, [.null, .int 0, .int 0, .int 0]))] s₀.heap.size = A at hD ⊢
  have hA : ∀ q : Nat, s₀.heap.size ≤ q → A q := fun q h => by rw [← hAe]; exact Or.inr h
  have hS : va_S A s₀.heap s₀.heap [] := va_S.rf
  have hP : va_P (dC, dI) vwCl [(h, .inr (2, [.null, .int 0, .int 0, .int 0]))] s₀.heap := hP
  have hl := lv_entry ([.ref h]) (n := 1) (Nat.le_of_ble_eq_true rfl)
  rw [lg_entry_eq]
  generalize (lg_sl ([.ref h]) ++ List.replicate (1 - (lg_sl ([.ref h])).length) Slot.unset).toArray = ls at hl ⊢
  have hl : lv_has ls 1 [(0, .ref h)] := hl
  obtain ⟨H, hH⟩ : ∃ z : Heap, z = s₀.heap := ⟨_, rfl⟩
  rw [← hH] at hP
  have hS : va_S A s₀.heap H [] := by rw [hH]; exact hS
  refine k_heap hH ?_
  have hD : va_D A [(h, .inr (2, [.null, .int 0, .int 0, .int 0]))] := hD
  obtain ⟨locs, hlo⟩ : ∃ z : List Loc, z = [] := ⟨_, rfl⟩
  rw [← hlo] at hS ⊢
  clear hlo hH hAe hD0
  refine lv_aload_n hx₀ hb dX2_init_0 rfl (lv_at hl 0 rfl) ?_
  refine lv_bipush (v := 23) hx₀ hb dX2_init_1 (by decide +kernel) ?_
  have hPc := hP.sub (ws' := [(h, .inr (2, [.null, .int 0, .int 0, .int 0]))]) [0] rfl
  have hDc := hD.sub (ws' := [(h, .inr (2, [.null, .int 0, .int 0, .int 0]))]) [0] (by decide) rfl
  have hFc := va_free (wc := [(h, .inr (2, [.null, .int 0, .int 0, .int 0]))]) hD hS hA [0] rfl
  refine va_callv (va_runI (As := [.int 23]) (rest := []) ⟨hx₀, hb, hml, hown, hts⟩ (k_Text_X2 l dC dI cI cJ cQ H.size h) (cwI 1 hts (kG wd_58) rfl rfl rfl (hts (.initialized RX9) wd_57) (hts (.methodLink RX2 3 yX9_init) wd_73) (hts (.instanceMethod yX9_init) wd_56) rfl (by decide +kernel) ⟨Nat.le_of_ble_eq_true rfl, Nat.le_of_ble_eq_true rfl⟩) (k_preS hK hPc hDc hN) rfl rfl hl.1 rfl (lv_room (Nat.le_of_ble_eq_true rfl)) dX2_init_3 ⟨by decide +kernel, by decide +kernel⟩) hS (fun q _ h => hFc q h) hFc (fun u₀ t₀ H1 locs ht hvm hw hB hz1 hk1 hS => ?_)
  obtain ⟨qn_2, rfl⟩ : ∃ z, z = u₀ := ⟨_, rfl⟩
  obtain ⟨hP1, hK1, hD1⟩ := hB
  rw [ht] at hP1
  obtain ⟨hP, hD⟩ := va_join (wr := []) (w1 := [(h, .inr (2, [.ref qn_2, .int 0, .int (-1), .int 0])), (qn_2, .inl (cI, 23, .inl (fun _ => 0)))]) hP hD [0] [] rfl rfl (by decide) (by decide) hk1 hFc hP1 hD1
  generalize H1 = H at hP hS ⊢
  have hP : va_P (dC, dI) vwCl [(h, .inr (2, [.ref qn_2, .int 0, .int (-1), .int 0])), (qn_2, .inl (cI, 23, .inl (fun _ => 0)))] H := hP
  have hD : va_D A [(h, .inr (2, [.ref qn_2, .int 0, .int (-1), .int 0])), (qn_2, .inl (cI, 23, .inl (fun _ => 0)))] := hD
  refine W.widen (k := 1) (n := 23) (by omega) (by omega) ?_
  refine W.widen (k := 1) (n := 23) (by decide +kernel) (by decide +kernel) ?_
  have hP9 := hP.sub (ws' := [(h, .inr (2, [.ref qn_2, .int 0, .int (-1), .int 0])), (qn_2, .inl (cI, 23, .inl (fun _ => 0)))]) [0, 1] rfl
  have hD9 := hD.sub (ws' := [(h, .inr (2, [.ref qn_2, .int 0, .int (-1), .int 0])), (qn_2, .inl (cI, 23, .inl (fun _ => 0)))]) [0, 1] (by decide) rfl
  exact W.vret hx₀ hb hr (fun t₀ ht hW => ⟨⟨(qn_2), rfl, trivial, by rw [ht]; exact hP9, va_K.moved hW.alike hK, hD9⟩, hS.F ht⟩) hS.2.2 dX2_init_6
set_option maxHeartbeats 4000000 in
set_option maxRecDepth 100000 in
theorem k_X1 (l : Launch) (dC : Nat → ClassId) (dI : Nat → Nat → Nat) (cI cJ cQ : ClassId) (sz : Nat) (h : Nat) : Met l yX1_init (kW yX1_init cX1_init 1 none) { frames := 1, cells := 1, slots := 32, locals := 20 } (kPre dC dI cI cJ cQ sz [.ref h] [(h, .inr (1, [.null, .int 0]))]) (va_Qv (fun (_ : Nat) => True) (fun (u : Nat) t₀ => kB dC dI cI cJ cQ (va_A [(h, .inr (1, [.null, .int 0]))] sz) [(h, .inr (1, [.ref (u), .int 0])), ((u), .inl (cI, 32, .inl (fun _ => 0)))] t₀) (va_A [(h, .inr (1, [.null, .int 0]))] sz)) 1 32 (va_A [(h, .inr (1, [.null, .int 0]))] sz) := by
  refine Met.ofW (cc := cX1_init) (maxL := 1) (ret := none) (by decide) rfl ?_
  intro p₀ e₀ s₀ m₀ args below meth c₀ s₁ B hml hv₀
  obtain ⟨rfl, hsz, hP, hK, hD0, hN⟩ := hv₀
  have hx₀ := B.exec
  have hb := B.bytes
  have hr := B.returns
  have hts := atoms_spec (ws := (kW yX1_init cX1_init 1 none)) B.pre
  have hts := fun w h => hts w (List.mem_cons_of_mem _ h)
  have hown : s₀.vm.findClass RX1 = some m₀.cls := findClass_of_methodNamed B.named
  have hlocks := B.notSynchronized
  have hin : meth.name = "<init>" := (name_of_methodNamed B.named B.method).1
  subst hsz
  have hD := hD0.self (sz := s₀.heap.size)
  generalize hAe : va_A [(h, .inr (1, [.null, .int 0]))] s₀.heap.size = A at hD ⊢
  have hA : ∀ q : Nat, s₀.heap.size ≤ q → A q := fun q h => by rw [← hAe]; exact Or.inr h
  have hS : va_S A s₀.heap s₀.heap [] := va_S.rf
  have hP : va_P (dC, dI) vwCl [(h, .inr (1, [.null, .int 0]))] s₀.heap := hP
  have hl := lv_entry ([.ref h]) (n := 1) (Nat.le_of_ble_eq_true rfl)
  rw [lg_entry_eq]
  generalize (lg_sl ([.ref h]) ++ List.replicate (1 - (lg_sl ([.ref h])).length) Slot.unset).toArray = ls at hl ⊢
  have hl : lv_has ls 1 [(0, .ref h)] := hl
  obtain ⟨H, hH⟩ : ∃ z : Heap, z = s₀.heap := ⟨_, rfl⟩
  rw [← hH] at hP
  have hS : va_S A s₀.heap H [] := by rw [hH]; exact hS
  refine k_heap hH ?_
  have hD : va_D A [(h, .inr (1, [.null, .int 0]))] := hD
  obtain ⟨locs, hlo⟩ : ∃ z : List Loc, z = [] := ⟨_, rfl⟩
  rw [← hlo] at hS ⊢
  clear hlo hH hAe hD0
  refine lv_aload_n hx₀ hb dX1_init_0 rfl (lv_at hl 0 rfl) ?_
  refine W.objInit hx₀ hb hown (hts (.methodLink RX1 3 objectInit) wd_76) (hts (.instanceMethod objectInit) wd_10) (hts (.code objectInit ⟨#[0xb1]⟩ 1 none) wd_11) rfl (by rw [hml]; exact hl.1) rfl dX1_init_1 (Nat.le_of_ble_eq_true rfl) (Nat.le_of_ble_eq_true rfl) ?_
  refine W.eq (g2 := F0 m₀ 4 ls []) rfl ?_
  refine lv_aload_n hx₀ hb dX1_init_4 rfl (lv_at hl 0 rfl) ?_
  refine lv_bipush (v := 32) hx₀ hb dX1_init_5 (by decide +kernel) ?_
  refine k_newaI (N' := 32) hx₀ hb (hts (.arrayClass .int) wd_44) hK hP hD hS hA (by decide +kernel) (by decide +kernel) (by decide +kernel) (by decide +kernel) (by decide +kernel) dX1_init_7 (fun qa_1 H hP hD hS => ?_)
  have hP : va_P (dC, dI) vwCl [(h, .inr (1, [.null, .int 0])), (qa_1, .inl (cI, 32, .inl (fun _ => 0)))] H := hP
  have hD : va_D A [(h, .inr (1, [.null, .int 0])), (qa_1, .inl (cI, 32, .inl (fun _ => 0)))] := hD
  refine W.widen (k := 1) (n := 32) (by omega) (by omega) ?_
  refine va_putF (D := (dC, dI)) (ci := 1) (v := .ref qa_1) (ty := .array .int) (C := RX1) (T := TX1) (N := 2) hx₀ hb hts inlX1 tyX1 tyX1_ok nmX1 hown hK hP hD hS 0 rfl rfl 0 (by decide) (hts (.fieldLink RX1 9 "BittenStick$Flights" "items" "[I") wd_77) (fun _ h9 => h9) rfl hin rfl (by decide +kernel) rfl rfl (Nat.le_of_ble_eq_true rfl) dX1_init_9 (fun H locs hP hD hS => ?_)
  have hP : va_P (dC, dI) vwCl [(h, .inr (1, [.ref qa_1, .int 0])), (qa_1, .inl (cI, 32, .inl (fun _ => 0)))] H := hP
  have hD : va_D A [(h, .inr (1, [.ref qa_1, .int 0])), (qa_1, .inl (cI, 32, .inl (fun _ => 0)))] := hD
  refine W.widen (k := 1) (n := 32) (by decide +kernel) (by decide +kernel) ?_
  have hP9 := hP.sub (ws' := [(h, .inr (1, [.ref qa_1, .int 0])), (qa_1, .inl (cI, 32, .inl (fun _ => 0)))]) [0, 1] rfl
  have hD9 := hD.sub (ws' := [(h, .inr (1, [.ref qa_1, .int 0])), (qa_1, .inl (cI, 32, .inl (fun _ => 0)))]) [0, 1] (by decide) rfl
  exact W.vret hx₀ hb hr (fun t₀ ht hW => ⟨⟨(qa_1), rfl, trivial, by rw [ht]; exact hP9, va_K.moved hW.alike hK, hD9⟩, hS.F ht⟩) hS.2.2 dX1_init_12
set_option maxHeartbeats 4000000 in
set_option maxRecDepth 100000 in
theorem k_X3 (l : Launch) (dC : Nat → ClassId) (dI : Nat → Nat → Nat) (cI cJ cQ : ClassId) (sz : Nat) (h : Nat) : Met l yX3_init (kW yX3_init cX3_init 1 none) { frames := 1, cells := 0, slots := 0, locals := 20 } (kPre dC dI cI cJ cQ sz [.ref h] [(h, .inr (3, [.int 0, .int 0, .int 0, .int 0]))]) (va_Qv (fun (_ : Unit) => True) (fun (u : Unit) t₀ => kB dC dI cI cJ cQ (va_A [(h, .inr (3, [.int 0, .int 0, .int 0, .int 0]))] sz) [(h, .inr (3, [.int 0, .int 0, .int 0, .int 0]))] t₀) (va_A [(h, .inr (3, [.int 0, .int 0, .int 0, .int 0]))] sz)) 0 0 (va_A [(h, .inr (3, [.int 0, .int 0, .int 0, .int 0]))] sz) := by
  refine Met.ofW (cc := cX3_init) (maxL := 1) (ret := none) (by decide) rfl ?_
  intro p₀ e₀ s₀ m₀ args below meth c₀ s₁ B hml hv₀
  obtain ⟨rfl, hsz, hP, hK, hD0, hN⟩ := hv₀
  have hx₀ := B.exec
  have hb := B.bytes
  have hr := B.returns
  have hts := atoms_spec (ws := (kW yX3_init cX3_init 1 none)) B.pre
  have hts := fun w h => hts w (List.mem_cons_of_mem _ h)
  have hown : s₀.vm.findClass RX3 = some m₀.cls := findClass_of_methodNamed B.named
  have hlocks := B.notSynchronized
  have hin : meth.name = "<init>" := (name_of_methodNamed B.named B.method).1
  subst hsz
  have hD := hD0.self (sz := s₀.heap.size)
  generalize hAe : va_A [(h, .inr (3, [.int 0, .int 0, .int 0, .int 0]))] s₀.heap.size = A at hD ⊢
  have hA : ∀ q : Nat, s₀.heap.size ≤ q → A q := fun q h => by rw [← hAe]; exact Or.inr h
  have hS : va_S A s₀.heap s₀.heap [] := va_S.rf
  have hP : va_P (dC, dI) vwCl [(h, .inr (3, [.int 0, .int 0, .int 0, .int 0]))] s₀.heap := hP
  have hl := lv_entry ([.ref h]) (n := 1) (Nat.le_of_ble_eq_true rfl)
  rw [lg_entry_eq]
  generalize (lg_sl ([.ref h]) ++ List.replicate (1 - (lg_sl ([.ref h])).length) Slot.unset).toArray = ls at hl ⊢
  have hl : lv_has ls 1 [(0, .ref h)] := hl
  obtain ⟨H, hH⟩ : ∃ z : Heap, z = s₀.heap := ⟨_, rfl⟩
  rw [← hH] at hP
  have hS : va_S A s₀.heap H [] := by rw [hH]; exact hS
  refine k_heap hH ?_
  have hD : va_D A [(h, .inr (3, [.int 0, .int 0, .int 0, .int 0]))] := hD
  obtain ⟨locs, hlo⟩ : ∃ z : List Loc, z = [] := ⟨_, rfl⟩
  rw [← hlo] at hS ⊢
  clear hlo hH hAe hD0
  refine lv_aload_n hx₀ hb dX3_init_0 rfl (lv_at hl 0 rfl) ?_
  refine W.objInit hx₀ hb hown (hts (.methodLink RX3 1 objectInit) wd_94) (hts (.instanceMethod objectInit) wd_10) (hts (.code objectInit ⟨#[0xb1]⟩ 1 none) wd_11) rfl (by rw [hml]; exact hl.1) rfl dX3_init_1 (Nat.le_of_ble_eq_true rfl) (Nat.le_of_ble_eq_true rfl) ?_
  refine W.eq (g2 := F0 m₀ 4 ls []) rfl ?_
  have hP9 := hP.sub (ws' := [(h, .inr (3, [.int 0, .int 0, .int 0, .int 0]))]) [0] rfl
  have hD9 := hD.sub (ws' := [(h, .inr (3, [.int 0, .int 0, .int 0, .int 0]))]) [0] (by decide) rfl
  exact W.vret hx₀ hb hr (fun t₀ ht hW => ⟨⟨(), rfl, trivial, by rw [ht]; exact hP9, va_K.moved hW.alike hK, hD9⟩, hS.F ht⟩) hS.2.2 dX3_init_4
set_option maxHeartbeats 4000000 in
set_option maxRecDepth 100000 in
theorem k_X0 (l : Launch) (dC : Nat → ClassId) (dI : Nat → Nat → Nat) (cI cJ cQ : ClassId) (sz : Nat) (h : Nat) : Met l yX0_init (kW yX0_init cX0_init 1 none) { frames := 1, cells := 0, slots := 0, locals := 20 } (kPre dC dI cI cJ cQ sz [.ref h] [(h, .inr (0, [.int 0, .int 0, .int 0, .int 0]))]) (va_Qv (fun (_ : Unit) => True) (fun (u : Unit) t₀ => kB dC dI cI cJ cQ (va_A [(h, .inr (0, [.int 0, .int 0, .int 0, .int 0]))] sz) [(h, .inr (0, [.int 0, .int 0, .int 0, .int 0]))] t₀) (va_A [(h, .inr (0, [.int 0, .int 0, .int 0, .int 0]))] sz)) 0 0 (va_A [(h, .inr (0, [.int 0, .int 0, .int 0, .int 0]))] sz) := by
  refine Met.ofW (cc := cX0_init) (maxL := 1) (ret := none) (by decide) rfl ?_
  intro p₀ e₀ s₀ m₀ args below meth c₀ s₁ B hml hv₀
  obtain ⟨rfl, hsz, hP, hK, hD0, hN⟩ := hv₀
  have hx₀ := B.exec
  have hb := B.bytes
  have hr := B.returns
  have hts := atoms_spec (ws := (kW yX0_init cX0_init 1 none)) B.pre
  have hts := fun w h => hts w (List.mem_cons_of_mem _ h)
  have hown : s₀.vm.findClass RX0 = some m₀.cls := findClass_of_methodNamed B.named
  have hlocks := B.notSynchronized
  have hin : meth.name = "<init>" := (name_of_methodNamed B.named B.method).1
  subst hsz
  have hD := hD0.self (sz := s₀.heap.size)
  generalize hAe : va_A [(h, .inr (0, [.int 0, .int 0, .int 0, .int 0]))] s₀.heap.size = A at hD ⊢
  have hA : ∀ q : Nat, s₀.heap.size ≤ q → A q := fun q h => by rw [← hAe]; exact Or.inr h
  have hS : va_S A s₀.heap s₀.heap [] := va_S.rf
  have hP : va_P (dC, dI) vwCl [(h, .inr (0, [.int 0, .int 0, .int 0, .int 0]))] s₀.heap := hP
  have hl := lv_entry ([.ref h]) (n := 1) (Nat.le_of_ble_eq_true rfl)
  rw [lg_entry_eq]
  generalize (lg_sl ([.ref h]) ++ List.replicate (1 - (lg_sl ([.ref h])).length) Slot.unset).toArray = ls at hl ⊢
  have hl : lv_has ls 1 [(0, .ref h)] := hl
  obtain ⟨H, hH⟩ : ∃ z : Heap, z = s₀.heap := ⟨_, rfl⟩
  rw [← hH] at hP
  have hS : va_S A s₀.heap H [] := by rw [hH]; exact hS
  refine k_heap hH ?_
  have hD : va_D A [(h, .inr (0, [.int 0, .int 0, .int 0, .int 0]))] := hD
  obtain ⟨locs, hlo⟩ : ∃ z : List Loc, z = [] := ⟨_, rfl⟩
  rw [← hlo] at hS ⊢
  clear hlo hH hAe hD0
  refine lv_aload_n hx₀ hb dX0_init_0 rfl (lv_at hl 0 rfl) ?_
  refine W.objInit hx₀ hb hown (hts (.methodLink RX0 3 objectInit) wd_97) (hts (.instanceMethod objectInit) wd_10) (hts (.code objectInit ⟨#[0xb1]⟩ 1 none) wd_11) rfl (by rw [hml]; exact hl.1) rfl dX0_init_1 (Nat.le_of_ble_eq_true rfl) (Nat.le_of_ble_eq_true rfl) ?_
  refine W.eq (g2 := F0 m₀ 4 ls []) rfl ?_
  have hP9 := hP.sub (ws' := [(h, .inr (0, [.int 0, .int 0, .int 0, .int 0]))]) [0] rfl
  have hD9 := hD.sub (ws' := [(h, .inr (0, [.int 0, .int 0, .int 0, .int 0]))]) [0] (by decide) rfl
  exact W.vret hx₀ hb hr (fun t₀ ht hW => ⟨⟨(), rfl, trivial, by rw [ht]; exact hP9, va_K.moved hW.alike hK, hD9⟩, hS.F ht⟩) hS.2.2 dX0_init_4
set_option maxHeartbeats 4000000 in
set_option maxRecDepth 100000 in
theorem k_X6 (l : Launch) (dC : Nat → ClassId) (dI : Nat → Nat → Nat) (cI cJ cQ : ClassId) (sz : Nat) (h : Nat) : Met l yX6_init (kW yX6_init cX6_init 1 none) { frames := 1, cells := 0, slots := 0, locals := 20 } (kPre dC dI cI cJ cQ sz [.ref h] [(h, .inr (6, [.int 0]))]) (va_Qv (fun (_ : Unit) => True) (fun (u : Unit) t₀ => kB dC dI cI cJ cQ (va_A [(h, .inr (6, [.int 0]))] sz) [(h, .inr (6, [.int 0]))] t₀) (va_A [(h, .inr (6, [.int 0]))] sz)) 0 0 (va_A [(h, .inr (6, [.int 0]))] sz) := by
  refine Met.ofW (cc := cX6_init) (maxL := 1) (ret := none) (by decide) rfl ?_
  intro p₀ e₀ s₀ m₀ args below meth c₀ s₁ B hml hv₀
  obtain ⟨rfl, hsz, hP, hK, hD0, hN⟩ := hv₀
  have hx₀ := B.exec
  have hb := B.bytes
  have hr := B.returns
  have hts := atoms_spec (ws := (kW yX6_init cX6_init 1 none)) B.pre
  have hts := fun w h => hts w (List.mem_cons_of_mem _ h)
  have hown : s₀.vm.findClass RX6 = some m₀.cls := findClass_of_methodNamed B.named
  have hlocks := B.notSynchronized
  have hin : meth.name = "<init>" := (name_of_methodNamed B.named B.method).1
  subst hsz
  have hD := hD0.self (sz := s₀.heap.size)
  generalize hAe : va_A [(h, .inr (6, [.int 0]))] s₀.heap.size = A at hD ⊢
  have hA : ∀ q : Nat, s₀.heap.size ≤ q → A q := fun q h => by rw [← hAe]; exact Or.inr h
  have hS : va_S A s₀.heap s₀.heap [] := va_S.rf
  have hP : va_P (dC, dI) vwCl [(h, .inr (6, [.int 0]))] s₀.heap := hP
  have hl := lv_entry ([.ref h]) (n := 1) (Nat.le_of_ble_eq_true rfl)
  rw [lg_entry_eq]
  generalize (lg_sl ([.ref h]) ++ List.replicate (1 - (lg_sl ([.ref h])).length) Slot.unset).toArray = ls at hl ⊢
  have hl : lv_has ls 1 [(0, .ref h)] := hl
  obtain ⟨H, hH⟩ : ∃ z : Heap, z = s₀.heap := ⟨_, rfl⟩
  rw [← hH] at hP
  have hS : va_S A s₀.heap H [] := by rw [hH]; exact hS
  refine k_heap hH ?_
  have hD : va_D A [(h, .inr (6, [.int 0]))] := hD
  obtain ⟨locs, hlo⟩ : ∃ z : List Loc, z = [] := ⟨_, rfl⟩
  rw [← hlo] at hS ⊢
  clear hlo hH hAe hD0
  refine lv_aload_n hx₀ hb dX6_init_0 rfl (lv_at hl 0 rfl) ?_
  refine W.objInit hx₀ hb hown (hts (.methodLink RX6 1 objectInit) wd_105) (hts (.instanceMethod objectInit) wd_10) (hts (.code objectInit ⟨#[0xb1]⟩ 1 none) wd_11) rfl (by rw [hml]; exact hl.1) rfl dX6_init_1 (Nat.le_of_ble_eq_true rfl) (Nat.le_of_ble_eq_true rfl) ?_
  refine W.eq (g2 := F0 m₀ 4 ls []) rfl ?_
  have hP9 := hP.sub (ws' := [(h, .inr (6, [.int 0]))]) [0] rfl
  have hD9 := hD.sub (ws' := [(h, .inr (6, [.int 0]))]) [0] (by decide) rfl
  exact W.vret hx₀ hb hr (fun t₀ ht hW => ⟨⟨(), rfl, trivial, by rw [ht]; exact hP9, va_K.moved hW.alike hK, hD9⟩, hS.F ht⟩) hS.2.2 dX6_init_4
set_option maxHeartbeats 4000000 in
set_option maxRecDepth 100000 in
theorem k_X5 (l : Launch) (dC : Nat → ClassId) (dI : Nat → Nat → Nat) (cI cJ cQ : ClassId) (sz : Nat) (h : Nat) : Met l yX5_init (kW yX5_init cX5_init 1 none) { frames := 1, cells := 1, slots := 46, locals := 20 } (kPre dC dI cI cJ cQ sz [.ref h] [(h, .inr (5, [.null, .long 0, .long 0]))]) (va_Qv (fun (_ : Nat) => True) (fun (u : Nat) t₀ => kB dC dI cI cJ cQ (va_A [(h, .inr (5, [.null, .long 0, .long 0]))] sz) [(h, .inr (5, [.ref (u), .long 0, .long 0])), ((u), .inl (cJ, 46, .inr (.inl (fun _ => 0))))] t₀) (va_A [(h, .inr (5, [.null, .long 0, .long 0]))] sz)) 1 46 (va_A [(h, .inr (5, [.null, .long 0, .long 0]))] sz) := by
  refine Met.ofW (cc := cX5_init) (maxL := 1) (ret := none) (by decide) rfl ?_
  intro p₀ e₀ s₀ m₀ args below meth c₀ s₁ B hml hv₀
  obtain ⟨rfl, hsz, hP, hK, hD0, hN⟩ := hv₀
  have hx₀ := B.exec
  have hb := B.bytes
  have hr := B.returns
  have hts := atoms_spec (ws := (kW yX5_init cX5_init 1 none)) B.pre
  have hts := fun w h => hts w (List.mem_cons_of_mem _ h)
  have hown : s₀.vm.findClass RX5 = some m₀.cls := findClass_of_methodNamed B.named
  have hlocks := B.notSynchronized
  have hin : meth.name = "<init>" := (name_of_methodNamed B.named B.method).1
  subst hsz
  have hD := hD0.self (sz := s₀.heap.size)
  generalize hAe : va_A [(h, .inr (5, [.null, .long 0, .long 0]))] s₀.heap.size = A at hD ⊢
  have hA : ∀ q : Nat, s₀.heap.size ≤ q → A q := fun q h => by rw [← hAe]; exact Or.inr h
  have hS : va_S A s₀.heap s₀.heap [] := va_S.rf
  have hP : va_P (dC, dI) vwCl [(h, .inr (5, [.null, .long 0, .long 0]))] s₀.heap := hP
  have hl := lv_entry ([.ref h]) (n := 1) (Nat.le_of_ble_eq_true rfl)
  rw [lg_entry_eq]
  generalize (lg_sl ([.ref h]) ++ List.replicate (1 - (lg_sl ([.ref h])).length) Slot.unset).toArray = ls at hl ⊢
  have hl : lv_has ls 1 [(0, .ref h)] := hl
  obtain ⟨H, hH⟩ : ∃ z : Heap, z = s₀.heap := ⟨_, rfl⟩
  rw [← hH] at hP
  have hS : va_S A s₀.heap H [] := by rw [hH]; exact hS
  refine k_heap hH ?_
  have hD : va_D A [(h, .inr (5, [.null, .long 0, .long 0]))] := hD
  obtain ⟨locs, hlo⟩ : ∃ z : List Loc, z = [] := ⟨_, rfl⟩
  rw [← hlo] at hS ⊢
  clear hlo hH hAe hD0
  refine lv_aload_n hx₀ hb dX5_init_0 rfl (lv_at hl 0 rfl) ?_
  refine W.objInit hx₀ hb hown (hts (.methodLink RX5 3 objectInit) wd_100) (hts (.instanceMethod objectInit) wd_10) (hts (.code objectInit ⟨#[0xb1]⟩ 1 none) wd_11) rfl (by rw [hml]; exact hl.1) rfl dX5_init_1 (Nat.le_of_ble_eq_true rfl) (Nat.le_of_ble_eq_true rfl) ?_
  refine W.eq (g2 := F0 m₀ 4 ls []) rfl ?_
  refine lv_aload_n hx₀ hb dX5_init_4 rfl (lv_at hl 0 rfl) ?_
  refine lv_bipush (v := 46) hx₀ hb dX5_init_5 (by decide +kernel) ?_
  refine k_newaJ (N' := 46) hx₀ hb (hts (.arrayClass .long) wd_101) hK hP hD hS hA (by decide +kernel) (by decide +kernel) (by decide +kernel) (by decide +kernel) (by decide +kernel) dX5_init_7 (fun qa_1 H hP hD hS => ?_)
  have hP : va_P (dC, dI) vwCl [(h, .inr (5, [.null, .long 0, .long 0])), (qa_1, .inl (cJ, 46, .inr (.inl (fun _ => 0))))] H := hP
  have hD : va_D A [(h, .inr (5, [.null, .long 0, .long 0])), (qa_1, .inl (cJ, 46, .inr (.inl (fun _ => 0))))] := hD
  refine W.widen (k := 1) (n := 46) (by omega) (by omega) ?_
  refine va_putF (D := (dC, dI)) (ci := 5) (v := .ref qa_1) (ty := .array .long) (C := RX5) (T := TX5) (N := 3) hx₀ hb hts inlX5 tyX5 tyX5_ok nmX5 hown hK hP hD hS 0 rfl rfl 0 (by decide) (hts (.fieldLink RX5 9 "BittenStick$Laughter" "chances" "[J") wd_102) (fun _ h9 => h9) rfl hin rfl (by decide +kernel) rfl rfl (Nat.le_of_ble_eq_true rfl) dX5_init_9 (fun H locs hP hD hS => ?_)
  have hP : va_P (dC, dI) vwCl [(h, .inr (5, [.ref qa_1, .long 0, .long 0])), (qa_1, .inl (cJ, 46, .inr (.inl (fun _ => 0))))] H := hP
  have hD : va_D A [(h, .inr (5, [.ref qa_1, .long 0, .long 0])), (qa_1, .inl (cJ, 46, .inr (.inl (fun _ => 0))))] := hD
  refine W.widen (k := 1) (n := 46) (by decide +kernel) (by decide +kernel) ?_
  have hP9 := hP.sub (ws' := [(h, .inr (5, [.ref qa_1, .long 0, .long 0])), (qa_1, .inl (cJ, 46, .inr (.inl (fun _ => 0))))]) [0, 1] rfl
  have hD9 := hD.sub (ws' := [(h, .inr (5, [.ref qa_1, .long 0, .long 0])), (qa_1, .inl (cJ, 46, .inr (.inl (fun _ => 0))))]) [0, 1] (by decide) rfl
  exact W.vret hx₀ hb hr (fun t₀ ht hW => ⟨⟨(qa_1), rfl, trivial, by rw [ht]; exact hP9, va_K.moved hW.alike hK, hD9⟩, hS.F ht⟩) hS.2.2 dX5_init_12
set_option maxHeartbeats 4000000 in
set_option maxRecDepth 100000 in
theorem k_X8 (l : Launch) (dC : Nat → ClassId) (dI : Nat → Nat → Nat) (cI cJ cQ : ClassId) (sz : Nat) (h : Nat) : Met l yX8_init (kW yX8_init cX8_init 1 none) { frames := 1, cells := 1, slots := 60, locals := 20 } (kPre dC dI cI cJ cQ sz [.ref h] [(h, .inr (8, [.null, .int 0, .int 0, .int 0]))]) (va_Qv (fun (_ : Nat) => True) (fun (u : Nat) t₀ => kB dC dI cI cJ cQ (va_A [(h, .inr (8, [.null, .int 0, .int 0, .int 0]))] sz) [(h, .inr (8, [.ref (u), .int 1, .int 0, .int 0])), ((u), .inl (cI, 60, .inl (fun _ => 0)))] t₀) (va_A [(h, .inr (8, [.null, .int 0, .int 0, .int 0]))] sz)) 1 60 (va_A [(h, .inr (8, [.null, .int 0, .int 0, .int 0]))] sz) := by
  refine Met.ofW (cc := cX8_init) (maxL := 1) (ret := none) (by decide) rfl ?_
  intro p₀ e₀ s₀ m₀ args below meth c₀ s₁ B hml hv₀
  obtain ⟨rfl, hsz, hP, hK, hD0, hN⟩ := hv₀
  have hx₀ := B.exec
  have hb := B.bytes
  have hr := B.returns
  have hts := atoms_spec (ws := (kW yX8_init cX8_init 1 none)) B.pre
  have hts := fun w h => hts w (List.mem_cons_of_mem _ h)
  have hown : s₀.vm.findClass RX8 = some m₀.cls := findClass_of_methodNamed B.named
  have hlocks := B.notSynchronized
  have hin : meth.name = "<init>" := (name_of_methodNamed B.named B.method).1
  subst hsz
  have hD := hD0.self (sz := s₀.heap.size)
  generalize hAe : va_A [(h, .inr (8, [.null, .int 0, .int 0, .int 0]))] s₀.heap.size = A at hD ⊢
  have hA : ∀ q : Nat, s₀.heap.size ≤ q → A q := fun q h => by rw [← hAe]; exact Or.inr h
  have hS : va_S A s₀.heap s₀.heap [] := va_S.rf
  have hP : va_P (dC, dI) vwCl [(h, .inr (8, [.null, .int 0, .int 0, .int 0]))] s₀.heap := hP
  have hl := lv_entry ([.ref h]) (n := 1) (Nat.le_of_ble_eq_true rfl)
  rw [lg_entry_eq]
  generalize (lg_sl ([.ref h]) ++ List.replicate (1 - (lg_sl ([.ref h])).length) Slot.unset).toArray = ls at hl ⊢
  have hl : lv_has ls 1 [(0, .ref h)] := hl
  obtain ⟨H, hH⟩ : ∃ z : Heap, z = s₀.heap := ⟨_, rfl⟩
  rw [← hH] at hP
  have hS : va_S A s₀.heap H [] := by rw [hH]; exact hS
  refine k_heap hH ?_
  have hD : va_D A [(h, .inr (8, [.null, .int 0, .int 0, .int 0]))] := hD
  obtain ⟨locs, hlo⟩ : ∃ z : List Loc, z = [] := ⟨_, rfl⟩
  rw [← hlo] at hS ⊢
  clear hlo hH hAe hD0
  refine lv_aload_n hx₀ hb dX8_init_0 rfl (lv_at hl 0 rfl) ?_
  refine W.objInit hx₀ hb hown (hts (.methodLink RX8 3 objectInit) wd_108) (hts (.instanceMethod objectInit) wd_10) (hts (.code objectInit ⟨#[0xb1]⟩ 1 none) wd_11) rfl (by rw [hml]; exact hl.1) rfl dX8_init_1 (Nat.le_of_ble_eq_true rfl) (Nat.le_of_ble_eq_true rfl) ?_
  refine W.eq (g2 := F0 m₀ 4 ls []) rfl ?_
  refine lv_aload_n hx₀ hb dX8_init_4 rfl (lv_at hl 0 rfl) ?_
  refine lv_bipush (v := 60) hx₀ hb dX8_init_5 (by decide +kernel) ?_
  refine k_newaI (N' := 60) hx₀ hb (hts (.arrayClass .int) wd_44) hK hP hD hS hA (by decide +kernel) (by decide +kernel) (by decide +kernel) (by decide +kernel) (by decide +kernel) dX8_init_7 (fun qa_1 H hP hD hS => ?_)
  have hP : va_P (dC, dI) vwCl [(h, .inr (8, [.null, .int 0, .int 0, .int 0])), (qa_1, .inl (cI, 60, .inl (fun _ => 0)))] H := hP
  have hD : va_D A [(h, .inr (8, [.null, .int 0, .int 0, .int 0])), (qa_1, .inl (cI, 60, .inl (fun _ => 0)))] := hD
  refine W.widen (k := 1) (n := 60) (by omega) (by omega) ?_
  refine va_putF (D := (dC, dI)) (ci := 8) (v := .ref qa_1) (ty := .array .int) (C := RX8) (T := TX8) (N := 4) hx₀ hb hts inlX8 tyX8 tyX8_ok nmX8 hown hK hP hD hS 0 rfl rfl 0 (by decide) (hts (.fieldLink RX8 9 "BittenStick$Sheet" "items" "[I") wd_109) (fun _ h9 => h9) rfl hin rfl (by decide +kernel) rfl rfl (Nat.le_of_ble_eq_true rfl) dX8_init_9 (fun H locs hP hD hS => ?_)
  have hP : va_P (dC, dI) vwCl [(h, .inr (8, [.ref qa_1, .int 0, .int 0, .int 0])), (qa_1, .inl (cI, 60, .inl (fun _ => 0)))] H := hP
  have hD : va_D A [(h, .inr (8, [.ref qa_1, .int 0, .int 0, .int 0])), (qa_1, .inl (cI, 60, .inl (fun _ => 0)))] := hD
  refine lv_aload_n hx₀ hb dX8_init_12 rfl (lv_at hl 0 rfl) ?_
  refine lv_iconst (v := 1) hx₀ hb dX8_init_13 (by decide +kernel) ?_
  refine va_put (D := (dC, dI)) (ci := 8) (v := .int 1) (ty := .boolean) (C := RX8) (T := TX8) (N := 4) hx₀ hb hts inlX8 tyX8 tyX8_ok nmX8 hown hK hP hD hS 0 rfl rfl 1 (by decide) (hts (.fieldLink RX8 15 "BittenStick$Sheet" "isLost" "Z") wd_110) (fun _ h9 => h9) rfl (by decide +kernel) (by decide +kernel) (by decide +kernel) (Nat.le_of_ble_eq_true rfl) dX8_init_14 (fun H locs hP hD hS => ?_)
  have hP : va_P (dC, dI) vwCl [(h, .inr (8, [.ref qa_1, .int 1, .int 0, .int 0])), (qa_1, .inl (cI, 60, .inl (fun _ => 0)))] H := hP
  have hD : va_D A [(h, .inr (8, [.ref qa_1, .int 1, .int 0, .int 0])), (qa_1, .inl (cI, 60, .inl (fun _ => 0)))] := hD
  refine W.widen (k := 1) (n := 60) (by decide +kernel) (by decide +kernel) ?_
  have hP9 := hP.sub (ws' := [(h, .inr (8, [.ref qa_1, .int 1, .int 0, .int 0])), (qa_1, .inl (cI, 60, .inl (fun _ => 0)))]) [0, 1] rfl
  have hD9 := hD.sub (ws' := [(h, .inr (8, [.ref qa_1, .int 1, .int 0, .int 0])), (qa_1, .inl (cI, 60, .inl (fun _ => 0)))]) [0, 1] (by decide) rfl
  exact W.vret hx₀ hb hr (fun t₀ ht hW => ⟨⟨(qa_1), rfl, trivial, by rw [ht]; exact hP9, va_K.moved hW.alike hK, hD9⟩, hS.F ht⟩) hS.2.2 dX8_init_17
set_option maxHeartbeats 4000000 in
set_option maxRecDepth 100000 in
theorem k_X10 (l : Launch) (dC : Nat → ClassId) (dI : Nat → Nat → Nat) (cI cJ cQ : ClassId) (sz : Nat) (h : Nat) (la : Nat) (pa : Nat) (ge : Nat) : Met l yX10_init (kW yX10_init cX10_init 4 none) { frames := 2, cells := 2, slots := 8, locals := 40 } (kPre dC dI cI cJ cQ sz [.ref h, .ref la, .ref pa, .ref ge] [(h, .inr (9, [.null, .null, .null, .null, .null, .null, .null, .int 0, .int 0, .int 0, .int 0, .int 0, .int 0, .int 0, .int 0, .int 0, .int 0]))]) (va_Qv (fun (_ : Nat × Nat) => True) (fun (u : Nat × Nat) t₀ => kB dC dI cI cJ cQ (va_A [(h, .inr (9, [.null, .null, .null, .null, .null, .null, .null, .int 0, .int 0, .int 0, .int 0, .int 0, .int 0, .int 0, .int 0, .int 0, .int 0]))] sz) [(h, .inr (9, [.ref la, .ref pa, .ref ge, .ref (u.1), .ref (u.2), .ref (u.1), .ref (u.2), .int 0, .int 0, .int 0, .int 0, .int 0, .int 0, .int 0, .int 0, .int 0, .int 0])), ((u.1), .inr (3, [.int 0, .int 0, .int 0, .int 0])), ((u.2), .inr (3, [.int 0, .int 0, .int 0, .int 0]))] t₀) (va_A [(h, .inr (9, [.null, .null, .null, .null, .null, .null, .null, .int 0, .int 0, .int 0, .int 0, .int 0, .int 0, .int 0, .int 0, .int 0, .int 0]))] sz)) 2 8 (va_A [(h, .inr (9, [.null, .null, .null, .null, .null, .null, .null, .int 0, .int 0, .int 0, .int 0, .int 0, .int 0, .int 0, .int 0, .int 0, .int 0]))] sz) := by
  refine Met.ofW (cc := cX10_init) (maxL := 4) (ret := none) (by decide) rfl ?_
  intro p₀ e₀ s₀ m₀ args below meth c₀ s₁ B hml hv₀
  obtain ⟨rfl, hsz, hP, hK, hD0, hN⟩ := hv₀
  have hx₀ := B.exec
  have hb := B.bytes
  have hr := B.returns
  have hts := atoms_spec (ws := (kW yX10_init cX10_init 4 none)) B.pre
  have hts := fun w h => hts w (List.mem_cons_of_mem _ h)
  have hown : s₀.vm.findClass RX10 = some m₀.cls := findClass_of_methodNamed B.named
  have hlocks := B.notSynchronized
  have hin : meth.name = "<init>" := (name_of_methodNamed B.named B.method).1
  subst hsz
  have hD := hD0.self (sz := s₀.heap.size)
  generalize hAe : va_A [(h, .inr (9, [.null, .null, .null, .null, .null, .null, .null, .int 0, .int 0, .int 0, .int 0, .int 0, .int 0, .int 0, .int 0, .int 0, .int 0]))] s₀.heap.size = A at hD ⊢
  have hA : ∀ q : Nat, s₀.heap.size ≤ q → A q := fun q h => by rw [← hAe]; exact Or.inr h
  have hS : va_S A s₀.heap s₀.heap [] := va_S.rf
  have hP : va_P (dC, dI) vwCl [(h, .inr (9, [.null, .null, .null, .null, .null, .null, .null, .int 0, .int 0, .int 0, .int 0, .int 0, .int 0, .int 0, .int 0, .int 0, .int 0]))] s₀.heap := hP
  have hl := lv_entry ([.ref h, .ref la, .ref pa, .ref ge]) (n := 4) (Nat.le_of_ble_eq_true rfl)
  rw [lg_entry_eq]
  generalize (lg_sl ([.ref h, .ref la, .ref pa, .ref ge]) ++ List.replicate (4 - (lg_sl ([.ref h, .ref la, .ref pa, .ref ge])).length) Slot.unset).toArray = ls at hl ⊢
  have hl : lv_has ls 4 [(0, .ref h), (1, .ref la), (2, .ref pa), (3, .ref ge)] := hl
  obtain ⟨H, hH⟩ : ∃ z : Heap, z = s₀.heap := ⟨_, rfl⟩
  rw [← hH] at hP
  have hS : va_S A s₀.heap H [] := by rw [hH]; exact hS
  refine k_heap hH ?_
  have hD : va_D A [(h, .inr (9, [.null, .null, .null, .null, .null, .null, .null, .int 0, .int 0, .int 0, .int 0, .int 0, .int 0, .int 0, .int 0, .int 0, .int 0]))] := hD
  obtain ⟨locs, hlo⟩ : ∃ z : List Loc, z = [] := ⟨_, rfl⟩
  rw [← hlo] at hS ⊢
  clear hlo hH hAe hD0
  refine lv_aload_n hx₀ hb dX10_init_0 rfl (lv_at hl 0 rfl) ?_
  refine W.objInit hx₀ hb hown (hts (.methodLink RX10 3 objectInit) wd_81) (hts (.instanceMethod objectInit) wd_10) (hts (.code objectInit ⟨#[0xb1]⟩ 1 none) wd_11) rfl (by rw [hml]; exact hl.1) rfl dX10_init_1 (Nat.le_of_ble_eq_true rfl) (Nat.le_of_ble_eq_true rfl) ?_
  refine W.eq (g2 := F0 m₀ 4 ls []) rfl ?_
  refine lv_aload_n hx₀ hb dX10_init_4 rfl (lv_at hl 0 rfl) ?_
  refine va_new (ci := 3) (fs := [.int 0, .int 0, .int 0, .int 0]) (C := RX3) (T := TX3) (N := 4) hx₀ hb hts inlX3 tyX3 tyX3_ok hown (hts (.classLink RX10 9 RX3) wd_82) (hts (.instantiable RX3 4) wd_83) (hts (.initialized RX3) wd_84) hK hP hD hS hA rfl (by decide +kernel) (by decide +kernel) (by decide +kernel) dX10_init_5 (fun qo_1 H hP hD hS => ?_)
  have hP : va_P (dC, dI) vwCl [(h, .inr (9, [.null, .null, .null, .null, .null, .null, .null, .int 0, .int 0, .int 0, .int 0, .int 0, .int 0, .int 0, .int 0, .int 0, .int 0])), (qo_1, .inr (3, [.int 0, .int 0, .int 0, .int 0]))] H := hP
  have hD : va_D A [(h, .inr (9, [.null, .null, .null, .null, .null, .null, .null, .int 0, .int 0, .int 0, .int 0, .int 0, .int 0, .int 0, .int 0, .int 0, .int 0])), (qo_1, .inr (3, [.int 0, .int 0, .int 0, .int 0]))] := hD
  refine W.widen (k := 1) (n := 4) (by omega) (by omega) ?_
  refine lv_dup hx₀ hb dX10_init_8 rfl ?_
  have hPc := hP.sub (ws' := [(qo_1, .inr (3, [.int 0, .int 0, .int 0, .int 0]))]) [1] rfl
  have hDc := hD.sub (ws' := [(qo_1, .inr (3, [.int 0, .int 0, .int 0, .int 0]))]) [1] (by decide) rfl
  have hFc := va_free (wc := [(qo_1, .inr (3, [.int 0, .int 0, .int 0, .int 0]))]) hD hS hA [1] rfl
  refine va_callv (va_runIN (As := []) (rest := [.ref qo_1, .ref h]) ⟨hx₀, hb, hml, hown, hts⟩ (k_X3 l dC dI cI cJ cQ H.size qo_1) ⟨va_cnB (host := "BittenStick") 0 hts (kG wd_93) rfl rfl rfl hN.2.2.1 (hts (.initialized RX3) wd_84) (by decide +kernel) ⟨Nat.le_of_ble_eq_true rfl, Nat.le_of_ble_eq_true rfl⟩, rfl, (hts (.instanceMethod yX3_init) wd_92)⟩ (k_preS hK hPc hDc hN) rfl rfl hl.1 rfl (lv_room (Nat.le_of_ble_eq_true rfl)) dX10_init_9 ⟨by decide +kernel, by decide +kernel⟩) hS (fun q _ h => hFc q h) hFc (fun u₀ t₀ H1 locs ht hvm hw hB hz1 hk1 hS => ?_)
  obtain ⟨hP1, hK1, hD1⟩ := hB
  rw [ht] at hP1
  obtain ⟨hP, hD⟩ := va_join (wr := [(h, .inr (9, [.null, .null, .null, .null, .null, .null, .null, .int 0, .int 0, .int 0, .int 0, .int 0, .int 0, .int 0, .int 0, .int 0, .int 0]))]) (w1 := [(qo_1, .inr (3, [.int 0, .int 0, .int 0, .int 0]))]) hP hD [1] [0] rfl rfl (by decide) (by decide) hk1 hFc hP1 hD1
  generalize H1 = H at hP hS ⊢
  have hP : va_P (dC, dI) vwCl [(h, .inr (9, [.null, .null, .null, .null, .null, .null, .null, .int 0, .int 0, .int 0, .int 0, .int 0, .int 0, .int 0, .int 0, .int 0, .int 0])), (qo_1, .inr (3, [.int 0, .int 0, .int 0, .int 0]))] H := hP
  have hD : va_D A [(h, .inr (9, [.null, .null, .null, .null, .null, .null, .null, .int 0, .int 0, .int 0, .int 0, .int 0, .int 0, .int 0, .int 0, .int 0, .int 0])), (qo_1, .inr (3, [.int 0, .int 0, .int 0, .int 0]))] := hD
  refine va_putF (D := (dC, dI)) (ci := 9) (v := .ref qo_1) (ty := .object "BittenStick$Goose") (C := RX10) (T := TX10) (N := 17) hx₀ hb hts inlX10 tyX10 tyX10_ok nmX10 hown hK hP hD hS 0 rfl rfl 3 (by decide) (hts (.fieldLink RX10 12 "BittenStick$Trip" "toldLeft" "LBittenStick$Goose;") wd_85) (fun _ h9 => h9) rfl hin rfl (by decide +kernel) rfl rfl (Nat.le_of_ble_eq_true rfl) dX10_init_12 (fun H locs hP hD hS => ?_)
  have hP : va_P (dC, dI) vwCl [(h, .inr (9, [.null, .null, .null, .ref qo_1, .null, .null, .null, .int 0, .int 0, .int 0, .int 0, .int 0, .int 0, .int 0, .int 0, .int 0, .int 0])), (qo_1, .inr (3, [.int 0, .int 0, .int 0, .int 0]))] H := hP
  have hD : va_D A [(h, .inr (9, [.null, .null, .null, .ref qo_1, .null, .null, .null, .int 0, .int 0, .int 0, .int 0, .int 0, .int 0, .int 0, .int 0, .int 0, .int 0])), (qo_1, .inr (3, [.int 0, .int 0, .int 0, .int 0]))] := hD
  refine lv_aload_n hx₀ hb dX10_init_15 rfl (lv_at hl 0 rfl) ?_
  refine va_new (ci := 3) (fs := [.int 0, .int 0, .int 0, .int 0]) (C := RX3) (T := TX3) (N := 4) hx₀ hb hts inlX3 tyX3 tyX3_ok hown (hts (.classLink RX10 9 RX3) wd_82) (hts (.instantiable RX3 4) wd_83) (hts (.initialized RX3) wd_84) hK hP hD hS hA rfl (by decide +kernel) (by decide +kernel) (by decide +kernel) dX10_init_16 (fun qo_3 H hP hD hS => ?_)
  have hP : va_P (dC, dI) vwCl [(h, .inr (9, [.null, .null, .null, .ref qo_1, .null, .null, .null, .int 0, .int 0, .int 0, .int 0, .int 0, .int 0, .int 0, .int 0, .int 0, .int 0])), (qo_1, .inr (3, [.int 0, .int 0, .int 0, .int 0])), (qo_3, .inr (3, [.int 0, .int 0, .int 0, .int 0]))] H := hP
  have hD : va_D A [(h, .inr (9, [.null, .null, .null, .ref qo_1, .null, .null, .null, .int 0, .int 0, .int 0, .int 0, .int 0, .int 0, .int 0, .int 0, .int 0, .int 0])), (qo_1, .inr (3, [.int 0, .int 0, .int 0, .int 0])), (qo_3, .inr (3, [.int 0, .int 0, .int 0, .int 0]))] := hD
  refine W.widen (k := 2) (n := 8) (by omega) (by omega) ?_
  refine lv_dup hx₀ hb dX10_init_19 rfl ?_
  have hPc := hP.sub (ws' := [(qo_3, .inr (3, [.int 0, .int 0, .int 0, .int 0]))]) [2] rfl
  have hDc := hD.sub (ws' := [(qo_3, .inr (3, [.int 0, .int 0, .int 0, .int 0]))]) [2] (by decide) rfl
  have hFc := va_free (wc := [(qo_3, .inr (3, [.int 0, .int 0, .int 0, .int 0]))]) hD hS hA [2] rfl
  refine va_callv (va_runIN (As := []) (rest := [.ref qo_3, .ref h]) ⟨hx₀, hb, hml, hown, hts⟩ (k_X3 l dC dI cI cJ cQ H.size qo_3) ⟨va_cnB (host := "BittenStick") 0 hts (kG wd_93) rfl rfl rfl hN.2.2.1 (hts (.initialized RX3) wd_84) (by decide +kernel) ⟨Nat.le_of_ble_eq_true rfl, Nat.le_of_ble_eq_true rfl⟩, rfl, (hts (.instanceMethod yX3_init) wd_92)⟩ (k_preS hK hPc hDc hN) rfl rfl hl.1 rfl (lv_room (Nat.le_of_ble_eq_true rfl)) dX10_init_20 ⟨by decide +kernel, by decide +kernel⟩) hS (fun q _ h => hFc q h) hFc (fun u₀ t₀ H1 locs ht hvm hw hB hz1 hk1 hS => ?_)
  obtain ⟨hP1, hK1, hD1⟩ := hB
  rw [ht] at hP1
  obtain ⟨hP, hD⟩ := va_join (wr := [(h, .inr (9, [.null, .null, .null, .ref qo_1, .null, .null, .null, .int 0, .int 0, .int 0, .int 0, .int 0, .int 0, .int 0, .int 0, .int 0, .int 0])), (qo_1, .inr (3, [.int 0, .int 0, .int 0, .int 0]))]) (w1 := [(qo_3, .inr (3, [.int 0, .int 0, .int 0, .int 0]))]) hP hD [2] [0, 1] rfl rfl (by decide) (by decide) hk1 hFc hP1 hD1
  generalize H1 = H at hP hS ⊢
  have hP : va_P (dC, dI) vwCl [(h, .inr (9, [.null, .null, .null, .ref qo_1, .null, .null, .null, .int 0, .int 0, .int 0, .int 0, .int 0, .int 0, .int 0, .int 0, .int 0, .int 0])), (qo_1, .inr (3, [.int 0, .int 0, .int 0, .int 0])), (qo_3, .inr (3, [.int 0, .int 0, .int 0, .int 0]))] H := hP
  have hD : va_D A [(h, .inr (9, [.null, .null, .null, .ref qo_1, .null, .null, .null, .int 0, .int 0, .int 0, .int 0, .int 0, .int 0, .int 0, .int 0, .int 0, .int 0])), (qo_1, .inr (3, [.int 0, .int 0, .int 0, .int 0])), (qo_3, .inr (3, [.int 0, .int 0, .int 0, .int 0]))] := hD
  refine va_putF (D := (dC, dI)) (ci := 9) (v := .ref qo_3) (ty := .object "BittenStick$Goose") (C := RX10) (T := TX10) (N := 17) hx₀ hb hts inlX10 tyX10 tyX10_ok nmX10 hown hK hP hD hS 0 rfl rfl 4 (by decide) (hts (.fieldLink RX10 18 "BittenStick$Trip" "toldRight" "LBittenStick$Goose;") wd_86) (fun _ h9 => h9) rfl hin rfl (by decide +kernel) rfl rfl (Nat.le_of_ble_eq_true rfl) dX10_init_23 (fun H locs hP hD hS => ?_)
  have hP : va_P (dC, dI) vwCl [(h, .inr (9, [.null, .null, .null, .ref qo_1, .ref qo_3, .null, .null, .int 0, .int 0, .int 0, .int 0, .int 0, .int 0, .int 0, .int 0, .int 0, .int 0])), (qo_1, .inr (3, [.int 0, .int 0, .int 0, .int 0])), (qo_3, .inr (3, [.int 0, .int 0, .int 0, .int 0]))] H := hP
  have hD : va_D A [(h, .inr (9, [.null, .null, .null, .ref qo_1, .ref qo_3, .null, .null, .int 0, .int 0, .int 0, .int 0, .int 0, .int 0, .int 0, .int 0, .int 0, .int 0])), (qo_1, .inr (3, [.int 0, .int 0, .int 0, .int 0])), (qo_3, .inr (3, [.int 0, .int 0, .int 0, .int 0]))] := hD
  refine lv_aload_n hx₀ hb dX10_init_26 rfl (lv_at hl 0 rfl) ?_
  refine lv_aload_n hx₀ hb dX10_init_27 rfl (lv_at hl 0 rfl) ?_
  refine va_get (D := (dC, dI)) (ci := 9) (v := .ref qo_1) (C := RX10) (T := TX10) (N := 17) hx₀ hb hts inlX10 hown hK hP 0 rfl rfl 3 (by decide) (hts (.fieldLink RX10 12 "BittenStick$Trip" "toldLeft" "LBittenStick$Goose;") wd_85) (fun _ h9 => h9) rfl dX10_init_28 ?_
  refine va_put (D := (dC, dI)) (ci := 9) (v := .ref qo_1) (ty := .object "BittenStick$Goose") (C := RX10) (T := TX10) (N := 17) hx₀ hb hts inlX10 tyX10 tyX10_ok nmX10 hown hK hP hD hS 0 rfl rfl 5 (by decide) (hts (.fieldLink RX10 21 "BittenStick$Trip" "left" "LBittenStick$Goose;") wd_87) (fun _ h9 => h9) rfl (by decide +kernel) rfl rfl (Nat.le_of_ble_eq_true rfl) dX10_init_31 (fun H locs hP hD hS => ?_)
  have hP : va_P (dC, dI) vwCl [(h, .inr (9, [.null, .null, .null, .ref qo_1, .ref qo_3, .ref qo_1, .null, .int 0, .int 0, .int 0, .int 0, .int 0, .int 0, .int 0, .int 0, .int 0, .int 0])), (qo_1, .inr (3, [.int 0, .int 0, .int 0, .int 0])), (qo_3, .inr (3, [.int 0, .int 0, .int 0, .int 0]))] H := hP
  have hD : va_D A [(h, .inr (9, [.null, .null, .null, .ref qo_1, .ref qo_3, .ref qo_1, .null, .int 0, .int 0, .int 0, .int 0, .int 0, .int 0, .int 0, .int 0, .int 0, .int 0])), (qo_1, .inr (3, [.int 0, .int 0, .int 0, .int 0])), (qo_3, .inr (3, [.int 0, .int 0, .int 0, .int 0]))] := hD
  refine lv_aload_n hx₀ hb dX10_init_34 rfl (lv_at hl 0 rfl) ?_
  refine lv_aload_n hx₀ hb dX10_init_35 rfl (lv_at hl 0 rfl) ?_
  refine va_get (D := (dC, dI)) (ci := 9) (v := .ref qo_3) (C := RX10) (T := TX10) (N := 17) hx₀ hb hts inlX10 hown hK hP 0 rfl rfl 4 (by decide) (hts (.fieldLink RX10 18 "BittenStick$Trip" "toldRight" "LBittenStick$Goose;") wd_86) (fun _ h9 => h9) rfl dX10_init_36 ?_
  refine va_put (D := (dC, dI)) (ci := 9) (v := .ref qo_3) (ty := .object "BittenStick$Goose") (C := RX10) (T := TX10) (N := 17) hx₀ hb hts inlX10 tyX10 tyX10_ok nmX10 hown hK hP hD hS 0 rfl rfl 6 (by decide) (hts (.fieldLink RX10 24 "BittenStick$Trip" "right" "LBittenStick$Goose;") wd_88) (fun _ h9 => h9) rfl (by decide +kernel) rfl rfl (Nat.le_of_ble_eq_true rfl) dX10_init_39 (fun H locs hP hD hS => ?_)
  have hP : va_P (dC, dI) vwCl [(h, .inr (9, [.null, .null, .null, .ref qo_1, .ref qo_3, .ref qo_1, .ref qo_3, .int 0, .int 0, .int 0, .int 0, .int 0, .int 0, .int 0, .int 0, .int 0, .int 0])), (qo_1, .inr (3, [.int 0, .int 0, .int 0, .int 0])), (qo_3, .inr (3, [.int 0, .int 0, .int 0, .int 0]))] H := hP
  have hD : va_D A [(h, .inr (9, [.null, .null, .null, .ref qo_1, .ref qo_3, .ref qo_1, .ref qo_3, .int 0, .int 0, .int 0, .int 0, .int 0, .int 0, .int 0, .int 0, .int 0, .int 0])), (qo_1, .inr (3, [.int 0, .int 0, .int 0, .int 0])), (qo_3, .inr (3, [.int 0, .int 0, .int 0, .int 0]))] := hD
  refine lv_aload_n hx₀ hb dX10_init_42 rfl (lv_at hl 0 rfl) ?_
  refine lv_aload_n hx₀ hb dX10_init_43 rfl (lv_at hl 1 rfl) ?_
  refine va_putF (D := (dC, dI)) (ci := 9) (v := .ref la) (ty := .object "BittenStick$Land") (C := RX10) (T := TX10) (N := 17) hx₀ hb hts inlX10 tyX10 tyX10_ok nmX10 hown hK hP hD hS 0 rfl rfl 0 (by decide) (hts (.fieldLink RX10 27 "BittenStick$Trip" "land" "LBittenStick$Land;") wd_89) (fun _ h9 => h9) rfl hin rfl (by decide +kernel) rfl rfl (Nat.le_of_ble_eq_true rfl) dX10_init_44 (fun H locs hP hD hS => ?_)
  have hP : va_P (dC, dI) vwCl [(h, .inr (9, [.ref la, .null, .null, .ref qo_1, .ref qo_3, .ref qo_1, .ref qo_3, .int 0, .int 0, .int 0, .int 0, .int 0, .int 0, .int 0, .int 0, .int 0, .int 0])), (qo_1, .inr (3, [.int 0, .int 0, .int 0, .int 0])), (qo_3, .inr (3, [.int 0, .int 0, .int 0, .int 0]))] H := hP
  have hD : va_D A [(h, .inr (9, [.ref la, .null, .null, .ref qo_1, .ref qo_3, .ref qo_1, .ref qo_3, .int 0, .int 0, .int 0, .int 0, .int 0, .int 0, .int 0, .int 0, .int 0, .int 0])), (qo_1, .inr (3, [.int 0, .int 0, .int 0, .int 0])), (qo_3, .inr (3, [.int 0, .int 0, .int 0, .int 0]))] := hD
  refine lv_aload_n hx₀ hb dX10_init_47 rfl (lv_at hl 0 rfl) ?_
  refine lv_aload_n hx₀ hb dX10_init_48 rfl (lv_at hl 2 rfl) ?_
  refine va_putF (D := (dC, dI)) (ci := 9) (v := .ref pa) (ty := .object "BittenStick$Passengers") (C := RX10) (T := TX10) (N := 17) hx₀ hb hts inlX10 tyX10 tyX10_ok nmX10 hown hK hP hD hS 0 rfl rfl 1 (by decide) (hts (.fieldLink RX10 31 "BittenStick$Trip" "passengers" "LBittenStick$Passengers;") wd_90) (fun _ h9 => h9) rfl hin rfl (by decide +kernel) rfl rfl (Nat.le_of_ble_eq_true rfl) dX10_init_49 (fun H locs hP hD hS => ?_)
  have hP : va_P (dC, dI) vwCl [(h, .inr (9, [.ref la, .ref pa, .null, .ref qo_1, .ref qo_3, .ref qo_1, .ref qo_3, .int 0, .int 0, .int 0, .int 0, .int 0, .int 0, .int 0, .int 0, .int 0, .int 0])), (qo_1, .inr (3, [.int 0, .int 0, .int 0, .int 0])), (qo_3, .inr (3, [.int 0, .int 0, .int 0, .int 0]))] H := hP
  have hD : va_D A [(h, .inr (9, [.ref la, .ref pa, .null, .ref qo_1, .ref qo_3, .ref qo_1, .ref qo_3, .int 0, .int 0, .int 0, .int 0, .int 0, .int 0, .int 0, .int 0, .int 0, .int 0])), (qo_1, .inr (3, [.int 0, .int 0, .int 0, .int 0])), (qo_3, .inr (3, [.int 0, .int 0, .int 0, .int 0]))] := hD
  refine lv_aload_n hx₀ hb dX10_init_52 rfl (lv_at hl 0 rfl) ?_
  refine lv_aload_n hx₀ hb dX10_init_53 rfl (lv_at hl 3 rfl) ?_
  refine va_putF (D := (dC, dI)) (ci := 9) (v := .ref ge) (ty := .object "BittenStick$Geese") (C := RX10) (T := TX10) (N := 17) hx₀ hb hts inlX10 tyX10 tyX10_ok nmX10 hown hK hP hD hS 0 rfl rfl 2 (by decide) (hts (.fieldLink RX10 35 "BittenStick$Trip" "geese" "LBittenStick$Geese;") wd_91) (fun _ h9 => h9) rfl hin rfl (by decide +kernel) rfl rfl (Nat.le_of_ble_eq_true rfl) dX10_init_54 (fun H locs hP hD hS => ?_)
  have hP : va_P (dC, dI) vwCl [(h, .inr (9, [.ref la, .ref pa, .ref ge, .ref qo_1, .ref qo_3, .ref qo_1, .ref qo_3, .int 0, .int 0, .int 0, .int 0, .int 0, .int 0, .int 0, .int 0, .int 0, .int 0])), (qo_1, .inr (3, [.int 0, .int 0, .int 0, .int 0])), (qo_3, .inr (3, [.int 0, .int 0, .int 0, .int 0]))] H := hP
  have hD : va_D A [(h, .inr (9, [.ref la, .ref pa, .ref ge, .ref qo_1, .ref qo_3, .ref qo_1, .ref qo_3, .int 0, .int 0, .int 0, .int 0, .int 0, .int 0, .int 0, .int 0, .int 0, .int 0])), (qo_1, .inr (3, [.int 0, .int 0, .int 0, .int 0])), (qo_3, .inr (3, [.int 0, .int 0, .int 0, .int 0]))] := hD
  refine W.widen (k := 2) (n := 8) (by decide +kernel) (by decide +kernel) ?_
  have hP9 := hP.sub (ws' := [(h, .inr (9, [.ref la, .ref pa, .ref ge, .ref qo_1, .ref qo_3, .ref qo_1, .ref qo_3, .int 0, .int 0, .int 0, .int 0, .int 0, .int 0, .int 0, .int 0, .int 0, .int 0])), (qo_1, .inr (3, [.int 0, .int 0, .int 0, .int 0])), (qo_3, .inr (3, [.int 0, .int 0, .int 0, .int 0]))]) [0, 1, 2] rfl
  have hD9 := hD.sub (ws' := [(h, .inr (9, [.ref la, .ref pa, .ref ge, .ref qo_1, .ref qo_3, .ref qo_1, .ref qo_3, .int 0, .int 0, .int 0, .int 0, .int 0, .int 0, .int 0, .int 0, .int 0, .int 0])), (qo_1, .inr (3, [.int 0, .int 0, .int 0, .int 0])), (qo_3, .inr (3, [.int 0, .int 0, .int 0, .int 0]))]) [0, 1, 2] (by decide) rfl
  exact W.vret hx₀ hb hr (fun t₀ ht hW => ⟨⟨(qo_1, qo_3), rfl, trivial, by rw [ht]; exact hP9, va_K.moved hW.alike hK, hD9⟩, hS.F ht⟩) hS.2.2 dX10_init_57
end
