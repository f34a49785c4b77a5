section
-- ===== PART A: goes FIRST, ahead of the names: the tables' words, and 'selects' of the private methods out of them =====
/-- a private method of a class that the tables say can be made, by its rows of tables_1 -/
def lw_okq (q : MethodName × Nat) : Prop := (q.1.cls ≠ "java/lang/invoke/MethodHandle" ∧ q.1.cls ≠ "java/lang/invoke/VarHandle") ∧ Cond.instantiable q.1.cls q.2 ∈ tables_1 ∧ Cond.privateMethod q.1 ∈ tables_1 ∧ Cond.instanceMethod q.1 ∈ tables_1
theorem lw_p0 : lw_okq (⟨"ThirstPay", "refuse", "(I)I"⟩, 8) := ⟨⟨by decide +kernel, by decide +kernel⟩, List.mem_of_getElem? (i := 19) (by decide +kernel), List.mem_of_getElem? (i := 291) (by decide +kernel), List.mem_of_getElem? (i := 292) (by decide +kernel)⟩
theorem lw_p1 : lw_okq (⟨"ThirstPay", "isFarm", "(I)Z"⟩, 8) := ⟨⟨by decide +kernel, by decide +kernel⟩, List.mem_of_getElem? (i := 19) (by decide +kernel), List.mem_of_getElem? (i := 308) (by decide +kernel), List.mem_of_getElem? (i := 309) (by decide +kernel)⟩
theorem lw_p2 : lw_okq (⟨"ThirstPay", "isCarrier", "(I)Z"⟩, 8) := ⟨⟨by decide +kernel, by decide +kernel⟩, List.mem_of_getElem? (i := 19) (by decide +kernel), List.mem_of_getElem? (i := 389) (by decide +kernel), List.mem_of_getElem? (i := 390) (by decide +kernel)⟩
theorem lw_p3 : lw_okq (⟨"ThirstPay$Reader", "readRank", "(II)Z"⟩, 5) := ⟨⟨by decide +kernel, by decide +kernel⟩, List.mem_of_getElem? (i := 180) (by decide +kernel), List.mem_of_getElem? (i := 456) (by decide +kernel), List.mem_of_getElem? (i := 457) (by decide +kernel)⟩
theorem lw_p4 : lw_okq (⟨"ThirstPay$Reader", "readOperand", "(I)Z"⟩, 5) := ⟨⟨by decide +kernel, by decide +kernel⟩, List.mem_of_getElem? (i := 180) (by decide +kernel), List.mem_of_getElem? (i := 460) (by decide +kernel), List.mem_of_getElem? (i := 461) (by decide +kernel)⟩
theorem lw_p5 : lw_okq (⟨"ThirstPay$Reader", "readNumber", "()V"⟩, 5) := ⟨⟨by decide +kernel, by decide +kernel⟩, List.mem_of_getElem? (i := 180) (by decide +kernel), List.mem_of_getElem? (i := 467) (by decide +kernel), List.mem_of_getElem? (i := 468) (by decide +kernel)⟩
theorem lw_p6 : lw_okq (⟨"ThirstPay$Reader", "readNot", "(I)Z"⟩, 5) := ⟨⟨by decide +kernel, by decide +kernel⟩, List.mem_of_getElem? (i := 180) (by decide +kernel), List.mem_of_getElem? (i := 557) (by decide +kernel), List.mem_of_getElem? (i := 558) (by decide +kernel)⟩
theorem lw_p7 : lw_okq (⟨"ThirstPay$Reader", "readBracket", "(I)Z"⟩, 5) := ⟨⟨by decide +kernel, by decide +kernel⟩, List.mem_of_getElem? (i := 180) (by decide +kernel), List.mem_of_getElem? (i := 561) (by decide +kernel), List.mem_of_getElem? (i := 562) (by decide +kernel)⟩
theorem lw_p8 : lw_okq (⟨"ThirstPay$World", "drawn", "()I"⟩, 14) := ⟨⟨by decide +kernel, by decide +kernel⟩, List.mem_of_getElem? (i := 27) (by decide +kernel), List.mem_of_getElem? (i := 603) (by decide +kernel), List.mem_of_getElem? (i := 604) (by decide +kernel)⟩
theorem lw_p9 : lw_okq (⟨"ThirstPay$Thought", "startAhead", "()V"⟩, 6) := ⟨⟨by decide +kernel, by decide +kernel⟩, List.mem_of_getElem? (i := 155) (by decide +kernel), List.mem_of_getElem? (i := 626) (by decide +kernel), List.mem_of_getElem? (i := 627) (by decide +kernel)⟩
theorem lw_p10 : lw_okq (⟨"ThirstPay$Thought", "goAhead", "(I)V"⟩, 6) := ⟨⟨by decide +kernel, by decide +kernel⟩, List.mem_of_getElem? (i := 155) (by decide +kernel), List.mem_of_getElem? (i := 630) (by decide +kernel), List.mem_of_getElem? (i := 631) (by decide +kernel)⟩
theorem lw_p11 : lw_okq (⟨"ThirstPay$Thought", "placeFrom", "(III)V"⟩, 6) := ⟨⟨by decide +kernel, by decide +kernel⟩, List.mem_of_getElem? (i := 155) (by decide +kernel), List.mem_of_getElem? (i := 671) (by decide +kernel), List.mem_of_getElem? (i := 672) (by decide +kernel)⟩
theorem lw_p12 : lw_okq (⟨"ThirstPay$Thought", "isAsTold", "(LThirstPay$Sheet;)Z"⟩, 6) := ⟨⟨by decide +kernel, by decide +kernel⟩, List.mem_of_getElem? (i := 155) (by decide +kernel), List.mem_of_getElem? (i := 724) (by decide +kernel), List.mem_of_getElem? (i := 725) (by decide +kernel)⟩
theorem lw_p13 : lw_okq (⟨"ThirstPay$Voices", "spoken", "(IIII)I"⟩, 6) := ⟨⟨by decide +kernel, by decide +kernel⟩, List.mem_of_getElem? (i := 206) (by decide +kernel), List.mem_of_getElem? (i := 736) (by decide +kernel), List.mem_of_getElem? (i := 737) (by decide +kernel)⟩
theorem lw_p14 : lw_okq (⟨"ThirstPay$Voices", "workedOut", "(IIII)I"⟩, 6) := ⟨⟨by decide +kernel, by decide +kernel⟩, List.mem_of_getElem? (i := 206) (by decide +kernel), List.mem_of_getElem? (i := 750) (by decide +kernel), List.mem_of_getElem? (i := 751) (by decide +kernel)⟩
theorem lw_p15 : lw_okq (⟨"ThirstPay$Voices", "partOf", "(I)I"⟩, 6) := ⟨⟨by decide +kernel, by decide +kernel⟩, List.mem_of_getElem? (i := 206) (by decide +kernel), List.mem_of_getElem? (i := 754) (by decide +kernel), List.mem_of_getElem? (i := 755) (by decide +kernel)⟩
def lw_privs_1 : List (MethodName × Nat) := [(⟨"ThirstPay", "refuse", "(I)I"⟩, 8), (⟨"ThirstPay", "isFarm", "(I)Z"⟩, 8), (⟨"ThirstPay", "isCarrier", "(I)Z"⟩, 8), (⟨"ThirstPay$Reader", "readRank", "(II)Z"⟩, 5), (⟨"ThirstPay$Reader", "readOperand", "(I)Z"⟩, 5), (⟨"ThirstPay$Reader", "readNumber", "()V"⟩, 5), (⟨"ThirstPay$Reader", "readNot", "(I)Z"⟩, 5), (⟨"ThirstPay$Reader", "readBracket", "(I)Z"⟩, 5), (⟨"ThirstPay$World", "drawn", "()I"⟩, 14), (⟨"ThirstPay$Thought", "startAhead", "()V"⟩, 6), (⟨"ThirstPay$Thought", "goAhead", "(I)V"⟩, 6), (⟨"ThirstPay$Thought", "placeFrom", "(III)V"⟩, 6), (⟨"ThirstPay$Thought", "isAsTold", "(LThirstPay$Sheet;)Z"⟩, 6), (⟨"ThirstPay$Voices", "spoken", "(IIII)I"⟩, 6), (⟨"ThirstPay$Voices", "workedOut", "(IIII)I"⟩, 6), (⟨"ThirstPay$Voices", "partOf", "(I)I"⟩, 6)]
theorem lw_r1 : ∀ q ∈ lw_privs_1, lw_okq q := List.forall_mem_cons.mpr ⟨lw_p0, List.forall_mem_cons.mpr ⟨lw_p1, List.forall_mem_cons.mpr ⟨lw_p2, List.forall_mem_cons.mpr ⟨lw_p3, List.forall_mem_cons.mpr ⟨lw_p4, List.forall_mem_cons.mpr ⟨lw_p5, List.forall_mem_cons.mpr ⟨lw_p6, List.forall_mem_cons.mpr ⟨lw_p7, List.forall_mem_cons.mpr ⟨lw_p8, List.forall_mem_cons.mpr ⟨lw_p9, List.forall_mem_cons.mpr ⟨lw_p10, List.forall_mem_cons.mpr ⟨lw_p11, List.forall_mem_cons.mpr ⟨lw_p12, List.forall_mem_cons.mpr ⟨lw_p13, List.forall_mem_cons.mpr ⟨lw_p14, List.forall_mem_cons.mpr ⟨lw_p15, fun _ h => absurd h List.not_mem_nil⟩⟩⟩⟩⟩⟩⟩⟩⟩⟩⟩⟩⟩⟩⟩⟩
theorem lw_p16 : lw_okq (⟨"ThirstPay$Voices", "partAndSips", "(III)I"⟩, 6) := ⟨⟨by decide +kernel, by decide +kernel⟩, List.mem_of_getElem? (i := 206) (by decide +kernel), List.mem_of_getElem? (i := 758) (by decide +kernel), List.mem_of_getElem? (i := 759) (by decide +kernel)⟩
theorem lw_p17 : lw_okq (⟨"ThirstPayModel", "error", "(I)I"⟩, 25) := ⟨⟨by decide +kernel, by decide +kernel⟩, List.mem_of_getElem? (i := 835) (by decide +kernel), List.mem_of_getElem? (i := 924) (by decide +kernel), List.mem_of_getElem? (i := 925) (by decide +kernel)⟩
theorem lw_p18 : lw_okq (⟨"ThirstPayModel", "whole", "()Z"⟩, 25) := ⟨⟨by decide +kernel, by decide +kernel⟩, List.mem_of_getElem? (i := 835) (by decide +kernel), List.mem_of_getElem? (i := 934) (by decide +kernel), List.mem_of_getElem? (i := 935) (by decide +kernel)⟩
theorem lw_p19 : lw_okq (⟨"ThirstPayModel", "both", "()Z"⟩, 25) := ⟨⟨by decide +kernel, by decide +kernel⟩, List.mem_of_getElem? (i := 835) (by decide +kernel), List.mem_of_getElem? (i := 938) (by decide +kernel), List.mem_of_getElem? (i := 939) (by decide +kernel)⟩
theorem lw_p20 : lw_okq (⟨"ThirstPayModel", "compared", "()Z"⟩, 25) := ⟨⟨by decide +kernel, by decide +kernel⟩, List.mem_of_getElem? (i := 835) (by decide +kernel), List.mem_of_getElem? (i := 942) (by decide +kernel), List.mem_of_getElem? (i := 943) (by decide +kernel)⟩
theorem lw_p21 : lw_okq (⟨"ThirstPayModel", "sum", "()Z"⟩, 25) := ⟨⟨by decide +kernel, by decide +kernel⟩, List.mem_of_getElem? (i := 835) (by decide +kernel), List.mem_of_getElem? (i := 946) (by decide +kernel), List.mem_of_getElem? (i := 947) (by decide +kernel)⟩
theorem lw_p22 : lw_okq (⟨"ThirstPayModel", "product", "()Z"⟩, 25) := ⟨⟨by decide +kernel, by decide +kernel⟩, List.mem_of_getElem? (i := 835) (by decide +kernel), List.mem_of_getElem? (i := 950) (by decide +kernel), List.mem_of_getElem? (i := 951) (by decide +kernel)⟩
theorem lw_p23 : lw_okq (⟨"ThirstPayModel", "one", "()Z"⟩, 25) := ⟨⟨by decide +kernel, by decide +kernel⟩, List.mem_of_getElem? (i := 835) (by decide +kernel), List.mem_of_getElem? (i := 954) (by decide +kernel), List.mem_of_getElem? (i := 955) (by decide +kernel)⟩
theorem lw_p24 : lw_okq (⟨"ThirstPayModel", "look", "()I"⟩, 25) := ⟨⟨by decide +kernel, by decide +kernel⟩, List.mem_of_getElem? (i := 835) (by decide +kernel), List.mem_of_getElem? (i := 958) (by decide +kernel), List.mem_of_getElem? (i := 959) (by decide +kernel)⟩
theorem lw_p25 : lw_okq (⟨"ThirstPayModel", "isName", "(I)Z"⟩, 25) := ⟨⟨by decide +kernel, by decide +kernel⟩, List.mem_of_getElem? (i := 835) (by decide +kernel), List.mem_of_getElem? (i := 962) (by decide +kernel), List.mem_of_getElem? (i := 963) (by decide +kernel)⟩
theorem lw_p26 : lw_okq (⟨"ThirstPayModel", "step1", "(II)V"⟩, 25) := ⟨⟨by decide +kernel, by decide +kernel⟩, List.mem_of_getElem? (i := 835) (by decide +kernel), List.mem_of_getElem? (i := 966) (by decide +kernel), List.mem_of_getElem? (i := 967) (by decide +kernel)⟩
theorem lw_p27 : lw_okq (⟨"ThirstPayModel", "opens", "()Z"⟩, 25) := ⟨⟨by decide +kernel, by decide +kernel⟩, List.mem_of_getElem? (i := 835) (by decide +kernel), List.mem_of_getElem? (i := 970) (by decide +kernel), List.mem_of_getElem? (i := 971) (by decide +kernel)⟩
theorem lw_p28 : lw_okq (⟨"ThirstPayModel", "hasText", "(I)Z"⟩, 25) := ⟨⟨by decide +kernel, by decide +kernel⟩, List.mem_of_getElem? (i := 835) (by decide +kernel), List.mem_of_getElem? (i := 978) (by decide +kernel), List.mem_of_getElem? (i := 979) (by decide +kernel)⟩
theorem lw_p29 : lw_okq (⟨"ThirstPayModel", "lays1", "(III)V"⟩, 25) := ⟨⟨by decide +kernel, by decide +kernel⟩, List.mem_of_getElem? (i := 835) (by decide +kernel), List.mem_of_getElem? (i := 989) (by decide +kernel), List.mem_of_getElem? (i := 990) (by decide +kernel)⟩
theorem lw_p30 : lw_okq (⟨"ThirstPayModel", "isFarm", "(I)Z"⟩, 25) := ⟨⟨by decide +kernel, by decide +kernel⟩, List.mem_of_getElem? (i := 835) (by decide +kernel), List.mem_of_getElem? (i := 997) (by decide +kernel), List.mem_of_getElem? (i := 998) (by decide +kernel)⟩
theorem lw_p31 : lw_okq (⟨"ThirstPayModel", "its", "(II)I"⟩, 25) := ⟨⟨by decide +kernel, by decide +kernel⟩, List.mem_of_getElem? (i := 835) (by decide +kernel), List.mem_of_getElem? (i := 1001) (by decide +kernel), List.mem_of_getElem? (i := 1002) (by decide +kernel)⟩
def lw_privs_2 : List (MethodName × Nat) := [(⟨"ThirstPay$Voices", "partAndSips", "(III)I"⟩, 6), (⟨"ThirstPayModel", "error", "(I)I"⟩, 25), (⟨"ThirstPayModel", "whole", "()Z"⟩, 25), (⟨"ThirstPayModel", "both", "()Z"⟩, 25), (⟨"ThirstPayModel", "compared", "()Z"⟩, 25), (⟨"ThirstPayModel", "sum", "()Z"⟩, 25), (⟨"ThirstPayModel", "product", "()Z"⟩, 25), (⟨"ThirstPayModel", "one", "()Z"⟩, 25), (⟨"ThirstPayModel", "look", "()I"⟩, 25), (⟨"ThirstPayModel", "isName", "(I)Z"⟩, 25), (⟨"ThirstPayModel", "step1", "(II)V"⟩, 25), (⟨"ThirstPayModel", "opens", "()Z"⟩, 25), (⟨"ThirstPayModel", "hasText", "(I)Z"⟩, 25), (⟨"ThirstPayModel", "lays1", "(III)V"⟩, 25), (⟨"ThirstPayModel", "isFarm", "(I)Z"⟩, 25), (⟨"ThirstPayModel", "its", "(II)I"⟩, 25)]
theorem lw_r2 : ∀ q ∈ lw_privs_2, lw_okq q := List.forall_mem_cons.mpr ⟨lw_p16, List.forall_mem_cons.mpr ⟨lw_p17, List.forall_mem_cons.mpr ⟨lw_p18, List.forall_mem_cons.mpr ⟨lw_p19, List.forall_mem_cons.mpr ⟨lw_p20, List.forall_mem_cons.mpr ⟨lw_p21, List.forall_mem_cons.mpr ⟨lw_p22, List.forall_mem_cons.mpr ⟨lw_p23, List.forall_mem_cons.mpr ⟨lw_p24, List.forall_mem_cons.mpr ⟨lw_p25, List.forall_mem_cons.mpr ⟨lw_p26, List.forall_mem_cons.mpr ⟨lw_p27, List.forall_mem_cons.mpr ⟨lw_p28, List.forall_mem_cons.mpr ⟨lw_p29, List.forall_mem_cons.mpr ⟨lw_p30, List.forall_mem_cons.mpr ⟨lw_p31, fun _ h => absurd h List.not_mem_nil⟩⟩⟩⟩⟩⟩⟩⟩⟩⟩⟩⟩⟩⟩⟩⟩
theorem lw_p32 : lw_okq (⟨"ThirstPayModel", "growthOf", "(I)I"⟩, 25) := ⟨⟨by decide +kernel, by decide +kernel⟩, List.mem_of_getElem? (i := 835) (by decide +kernel), List.mem_of_getElem? (i := 1005) (by decide +kernel), List.mem_of_getElem? (i := 1006) (by decide +kernel)⟩
theorem lw_p33 : lw_okq (⟨"ThirstPayModel", "growsOf", "(I)I"⟩, 25) := ⟨⟨by decide +kernel, by decide +kernel⟩, List.mem_of_getElem? (i := 835) (by decide +kernel), List.mem_of_getElem? (i := 1009) (by decide +kernel), List.mem_of_getElem? (i := 1010) (by decide +kernel)⟩
theorem lw_p34 : lw_okq (⟨"ThirstPayModel", "growthTold", "(III)I"⟩, 25) := ⟨⟨by decide +kernel, by decide +kernel⟩, List.mem_of_getElem? (i := 835) (by decide +kernel), List.mem_of_getElem? (i := 1013) (by decide +kernel), List.mem_of_getElem? (i := 1014) (by decide +kernel)⟩
theorem lw_p35 : lw_okq (⟨"ThirstPayModel", "worked", "(I)I"⟩, 25) := ⟨⟨by decide +kernel, by decide +kernel⟩, List.mem_of_getElem? (i := 835) (by decide +kernel), List.mem_of_getElem? (i := 1017) (by decide +kernel), List.mem_of_getElem? (i := 1018) (by decide +kernel)⟩
theorem lw_p36 : lw_okq (⟨"ThirstPayModel", "payOf", "(I)I"⟩, 25) := ⟨⟨by decide +kernel, by decide +kernel⟩, List.mem_of_getElem? (i := 835) (by decide +kernel), List.mem_of_getElem? (i := 1027) (by decide +kernel), List.mem_of_getElem? (i := 1028) (by decide +kernel)⟩
theorem lw_p37 : lw_okq (⟨"ThirstPayModel", "paysOf", "(I)I"⟩, 25) := ⟨⟨by decide +kernel, by decide +kernel⟩, List.mem_of_getElem? (i := 835) (by decide +kernel), List.mem_of_getElem? (i := 1031) (by decide +kernel), List.mem_of_getElem? (i := 1032) (by decide +kernel)⟩
theorem lw_p38 : lw_okq (⟨"ThirstPayModel", "payTold", "(III)I"⟩, 25) := ⟨⟨by decide +kernel, by decide +kernel⟩, List.mem_of_getElem? (i := 835) (by decide +kernel), List.mem_of_getElem? (i := 1035) (by decide +kernel), List.mem_of_getElem? (i := 1036) (by decide +kernel)⟩
theorem lw_p39 : lw_okq (⟨"ThirstPayModel", "change1", "(II)I"⟩, 25) := ⟨⟨by decide +kernel, by decide +kernel⟩, List.mem_of_getElem? (i := 835) (by decide +kernel), List.mem_of_getElem? (i := 1043) (by decide +kernel), List.mem_of_getElem? (i := 1044) (by decide +kernel)⟩
theorem lw_p40 : lw_okq (⟨"ThirstPayModel", "isCarrier", "(I)Z"⟩, 25) := ⟨⟨by decide +kernel, by decide +kernel⟩, List.mem_of_getElem? (i := 835) (by decide +kernel), List.mem_of_getElem? (i := 1070) (by decide +kernel), List.mem_of_getElem? (i := 1071) (by decide +kernel)⟩
theorem lw_p41 : lw_okq (⟨"ThirstPayModel", "mayCarry", "(III)Z"⟩, 25) := ⟨⟨by decide +kernel, by decide +kernel⟩, List.mem_of_getElem? (i := 835) (by decide +kernel), List.mem_of_getElem? (i := 1086) (by decide +kernel), List.mem_of_getElem? (i := 1087) (by decide +kernel)⟩
theorem lw_p42 : lw_okq (⟨"ThirstPayModel", "dryOf", "(I)I"⟩, 25) := ⟨⟨by decide +kernel, by decide +kernel⟩, List.mem_of_getElem? (i := 835) (by decide +kernel), List.mem_of_getElem? (i := 1090) (by decide +kernel), List.mem_of_getElem? (i := 1091) (by decide +kernel)⟩
theorem lw_p43 : lw_okq (⟨"ThirstPayModel", "belly", "(I)I"⟩, 25) := ⟨⟨by decide +kernel, by decide +kernel⟩, List.mem_of_getElem? (i := 835) (by decide +kernel), List.mem_of_getElem? (i := 1094) (by decide +kernel), List.mem_of_getElem? (i := 1095) (by decide +kernel)⟩
theorem lw_p44 : lw_okq (⟨"ThirstPayModel", "carries", "(III)I"⟩, 25) := ⟨⟨by decide +kernel, by decide +kernel⟩, List.mem_of_getElem? (i := 835) (by decide +kernel), List.mem_of_getElem? (i := 1098) (by decide +kernel), List.mem_of_getElem? (i := 1099) (by decide +kernel)⟩
theorem lw_p45 : lw_okq (⟨"ThirstPayModel", "whyNot", "(II)I"⟩, 25) := ⟨⟨by decide +kernel, by decide +kernel⟩, List.mem_of_getElem? (i := 835) (by decide +kernel), List.mem_of_getElem? (i := 1111) (by decide +kernel), List.mem_of_getElem? (i := 1112) (by decide +kernel)⟩
theorem lw_p46 : lw_okq (⟨"ThirstPayModel", "anHour", "()V"⟩, 25) := ⟨⟨by decide +kernel, by decide +kernel⟩, List.mem_of_getElem? (i := 835) (by decide +kernel), List.mem_of_getElem? (i := 1115) (by decide +kernel), List.mem_of_getElem? (i := 1116) (by decide +kernel)⟩
theorem lw_p47 : lw_okq (⟨"ThirstPayModel", "errand", "()I"⟩, 25) := ⟨⟨by decide +kernel, by decide +kernel⟩, List.mem_of_getElem? (i := 835) (by decide +kernel), List.mem_of_getElem? (i := 1123) (by decide +kernel), List.mem_of_getElem? (i := 1124) (by decide +kernel)⟩
def lw_privs_3 : List (MethodName × Nat) := [(⟨"ThirstPayModel", "growthOf", "(I)I"⟩, 25), (⟨"ThirstPayModel", "growsOf", "(I)I"⟩, 25), (⟨"ThirstPayModel", "growthTold", "(III)I"⟩, 25), (⟨"ThirstPayModel", "worked", "(I)I"⟩, 25), (⟨"ThirstPayModel", "payOf", "(I)I"⟩, 25), (⟨"ThirstPayModel", "paysOf", "(I)I"⟩, 25), (⟨"ThirstPayModel", "payTold", "(III)I"⟩, 25), (⟨"ThirstPayModel", "change1", "(II)I"⟩, 25), (⟨"ThirstPayModel", "isCarrier", "(I)Z"⟩, 25), (⟨"ThirstPayModel", "mayCarry", "(III)Z"⟩, 25), (⟨"ThirstPayModel", "dryOf", "(I)I"⟩, 25), (⟨"ThirstPayModel", "belly", "(I)I"⟩, 25), (⟨"ThirstPayModel", "carries", "(III)I"⟩, 25), (⟨"ThirstPayModel", "whyNot", "(II)I"⟩, 25), (⟨"ThirstPayModel", "anHour", "()V"⟩, 25), (⟨"ThirstPayModel", "errand", "()I"⟩, 25)]
theorem lw_r3 : ∀ q ∈ lw_privs_3, lw_okq q := List.forall_mem_cons.mpr ⟨lw_p32, List.forall_mem_cons.mpr ⟨lw_p33, List.forall_mem_cons.mpr ⟨lw_p34, List.forall_mem_cons.mpr ⟨lw_p35, List.forall_mem_cons.mpr ⟨lw_p36, List.forall_mem_cons.mpr ⟨lw_p37, List.forall_mem_cons.mpr ⟨lw_p38, List.forall_mem_cons.mpr ⟨lw_p39, List.forall_mem_cons.mpr ⟨lw_p40, List.forall_mem_cons.mpr ⟨lw_p41, List.forall_mem_cons.mpr ⟨lw_p42, List.forall_mem_cons.mpr ⟨lw_p43, List.forall_mem_cons.mpr ⟨lw_p44, List.forall_mem_cons.mpr ⟨lw_p45, List.forall_mem_cons.mpr ⟨lw_p46, List.forall_mem_cons.mpr ⟨lw_p47, fun _ h => absurd h List.not_mem_nil⟩⟩⟩⟩⟩⟩⟩⟩⟩⟩⟩⟩⟩⟩⟩⟩
theorem lw_p48 : lw_okq (⟨"ThirstPayModel", "draw", "()I"⟩, 25) := ⟨⟨by decide +kernel, by decide +kernel⟩, List.mem_of_getElem? (i := 835) (by decide +kernel), List.mem_of_getElem? (i := 1127) (by decide +kernel), List.mem_of_getElem? (i := 1128) (by decide +kernel)⟩
theorem lw_p49 : lw_okq (⟨"ThirstPayModel", "layDown", "()V"⟩, 25) := ⟨⟨by decide +kernel, by decide +kernel⟩, List.mem_of_getElem? (i := 835) (by decide +kernel), List.mem_of_getElem? (i := 1144) (by decide +kernel), List.mem_of_getElem? (i := 1145) (by decide +kernel)⟩
theorem lw_p50 : lw_okq (⟨"ThirstPayModel", "layBack", "()V"⟩, 25) := ⟨⟨by decide +kernel, by decide +kernel⟩, List.mem_of_getElem? (i := 835) (by decide +kernel), List.mem_of_getElem? (i := 1148) (by decide +kernel), List.mem_of_getElem? (i := 1149) (by decide +kernel)⟩
theorem lw_p51 : lw_okq (⟨"ThirstPayModel", "drier", "(I)I"⟩, 25) := ⟨⟨by decide +kernel, by decide +kernel⟩, List.mem_of_getElem? (i := 835) (by decide +kernel), List.mem_of_getElem? (i := 1156) (by decide +kernel), List.mem_of_getElem? (i := 1157) (by decide +kernel)⟩
theorem lw_p52 : lw_okq (⟨"ThirstPayModel", "goes", "(III)V"⟩, 25) := ⟨⟨by decide +kernel, by decide +kernel⟩, List.mem_of_getElem? (i := 835) (by decide +kernel), List.mem_of_getElem? (i := 1168) (by decide +kernel), List.mem_of_getElem? (i := 1169) (by decide +kernel)⟩
theorem lw_p53 : lw_okq (⟨"ThirstPayModel", "lacks", "(I)I"⟩, 25) := ⟨⟨by decide +kernel, by decide +kernel⟩, List.mem_of_getElem? (i := 835) (by decide +kernel), List.mem_of_getElem? (i := 1187) (by decide +kernel), List.mem_of_getElem? (i := 1188) (by decide +kernel)⟩
theorem lw_p54 : lw_okq (⟨"ThirstPayModel", "areDrySo", "(I)Z"⟩, 25) := ⟨⟨by decide +kernel, by decide +kernel⟩, List.mem_of_getElem? (i := 835) (by decide +kernel), List.mem_of_getElem? (i := 1194) (by decide +kernel), List.mem_of_getElem? (i := 1195) (by decide +kernel)⟩
theorem lw_p55 : lw_okq (⟨"ThirstPayModel", "kindNow", "()I"⟩, 25) := ⟨⟨by decide +kernel, by decide +kernel⟩, List.mem_of_getElem? (i := 835) (by decide +kernel), List.mem_of_getElem? (i := 1202) (by decide +kernel), List.mem_of_getElem? (i := 1203) (by decide +kernel)⟩
theorem lw_p56 : lw_okq (⟨"ThirstPayModel", "gulpsAs", "(II)I"⟩, 25) := ⟨⟨by decide +kernel, by decide +kernel⟩, List.mem_of_getElem? (i := 835) (by decide +kernel), List.mem_of_getElem? (i := 1206) (by decide +kernel), List.mem_of_getElem? (i := 1207) (by decide +kernel)⟩
theorem lw_p57 : lw_okq (⟨"ThirstPayModel", "starts", "(I)V"⟩, 25) := ⟨⟨by decide +kernel, by decide +kernel⟩, List.mem_of_getElem? (i := 835) (by decide +kernel), List.mem_of_getElem? (i := 1210) (by decide +kernel), List.mem_of_getElem? (i := 1211) (by decide +kernel)⟩
theorem lw_p58 : lw_okq (⟨"ThirstPayModel", "sipsAs", "(II)I"⟩, 25) := ⟨⟨by decide +kernel, by decide +kernel⟩, List.mem_of_getElem? (i := 835) (by decide +kernel), List.mem_of_getElem? (i := 1214) (by decide +kernel), List.mem_of_getElem? (i := 1215) (by decide +kernel)⟩
theorem lw_p59 : lw_okq (⟨"ThirstPayModel", "mNow", "()I"⟩, 25) := ⟨⟨by decide +kernel, by decide +kernel⟩, List.mem_of_getElem? (i := 835) (by decide +kernel), List.mem_of_getElem? (i := 1218) (by decide +kernel), List.mem_of_getElem? (i := 1219) (by decide +kernel)⟩
theorem lw_p60 : lw_okq (⟨"ThirstPayModel", "sighsAs", "(II)I"⟩, 25) := ⟨⟨by decide +kernel, by decide +kernel⟩, List.mem_of_getElem? (i := 835) (by decide +kernel), List.mem_of_getElem? (i := 1222) (by decide +kernel), List.mem_of_getElem? (i := 1223) (by decide +kernel)⟩
theorem lw_p61 : lw_okq (⟨"ThirstPayModel", "partsAs", "(II)I"⟩, 25) := ⟨⟨by decide +kernel, by decide +kernel⟩, List.mem_of_getElem? (i := 835) (by decide +kernel), List.mem_of_getElem? (i := 1226) (by decide +kernel), List.mem_of_getElem? (i := 1227) (by decide +kernel)⟩
def lw_privs_4 : List (MethodName × Nat) := [(⟨"ThirstPayModel", "draw", "()I"⟩, 25), (⟨"ThirstPayModel", "layDown", "()V"⟩, 25), (⟨"ThirstPayModel", "layBack", "()V"⟩, 25), (⟨"ThirstPayModel", "drier", "(I)I"⟩, 25), (⟨"ThirstPayModel", "goes", "(III)V"⟩, 25), (⟨"ThirstPayModel", "lacks", "(I)I"⟩, 25), (⟨"ThirstPayModel", "areDrySo", "(I)Z"⟩, 25), (⟨"ThirstPayModel", "kindNow", "()I"⟩, 25), (⟨"ThirstPayModel", "gulpsAs", "(II)I"⟩, 25), (⟨"ThirstPayModel", "starts", "(I)V"⟩, 25), (⟨"ThirstPayModel", "sipsAs", "(II)I"⟩, 25), (⟨"ThirstPayModel", "mNow", "()I"⟩, 25), (⟨"ThirstPayModel", "sighsAs", "(II)I"⟩, 25), (⟨"ThirstPayModel", "partsAs", "(II)I"⟩, 25)]
theorem lw_r4 : ∀ q ∈ lw_privs_4, lw_okq q := List.forall_mem_cons.mpr ⟨lw_p48, List.forall_mem_cons.mpr ⟨lw_p49, List.forall_mem_cons.mpr ⟨lw_p50, List.forall_mem_cons.mpr ⟨lw_p51, List.forall_mem_cons.mpr ⟨lw_p52, List.forall_mem_cons.mpr ⟨lw_p53, List.forall_mem_cons.mpr ⟨lw_p54, List.forall_mem_cons.mpr ⟨lw_p55, List.forall_mem_cons.mpr ⟨lw_p56, List.forall_mem_cons.mpr ⟨lw_p57, List.forall_mem_cons.mpr ⟨lw_p58, List.forall_mem_cons.mpr ⟨lw_p59, List.forall_mem_cons.mpr ⟨lw_p60, List.forall_mem_cons.mpr ⟨lw_p61, fun _ h => absurd h List.not_mem_nil⟩⟩⟩⟩⟩⟩⟩⟩⟩⟩⟩⟩⟩⟩
def lw_privs : List (MethodName × Nat) := lw_privs_1 ++ (lw_privs_2 ++ (lw_privs_3 ++ (lw_privs_4)))
def lw_tbl : List Cond := k2_sels lw_privs ++ tables_1
theorem lw_privs_ok : ∀ q ∈ lw_privs, lw_okq q := by
  show ∀ q ∈ lw_privs_1 ++ (lw_privs_2 ++ (lw_privs_3 ++ (lw_privs_4))), lw_okq q
  exact List.forall_mem_append.mpr ⟨lw_r1, List.forall_mem_append.mpr ⟨lw_r2, List.forall_mem_append.mpr ⟨lw_r3, lw_r4⟩⟩⟩

def lw_g : List Cond := lw_tbl.filter goodWord
end
section
def RX0 : String := "ThirstPay$Farm"
def TX0 : u_T := fun k => match k with
  | 0 => ("ThirstPay$Farm", "kind", "I", false)
  | 1 => ("ThirstPay$Farm", "m", "I", false)
  | 2 => ("ThirstPay$Farm", "steps", "I", false)
  | 3 => ("ThirstPay$Farm", "herd", "I", false)
  | 4 => ("ThirstPay$Farm", "dry", "I", false)
  | _ => ("ThirstPay$Farm", "eased", "I", false)
def tyX0 : Nat → FieldType := fun k => match k with
  | 0 => .int
  | 1 => .int
  | 2 => .int
  | 3 => .int
  | 4 => .int
  | _ => .int
abbrev wsX00 : List Cond := u_ws RX0 TX0 6
theorem nmX0 : ∀ a, a < 6 → ∀ b, b < 6 → a ≠ b → (TX0 a).2.1 ≠ (TX0 b).2.1 := by decide +kernel
theorem tyX0_ok : ∀ k, k < 6 → parseFieldDescriptor (TX0 k).2.2.1 = some (tyX0 k) := by decide +kernel
abbrev cX0_init : ByteArray := prog_2_method_1_code
def yX0_init : MethodName := ⟨RX0, "<init>", "()V"⟩
abbrev cX0_begin : ByteArray := prog_2_method_2_code
def yX0_begin : MethodName := ⟨RX0, "begin", "(III)V"⟩
abbrev cX0_beOfKind : ByteArray := prog_2_method_3_code
def yX0_beOfKind : MethodName := ⟨RX0, "beOfKind", "(I)V"⟩
abbrev cX0_copyFrom : ByteArray := prog_2_method_4_code
def yX0_copyFrom : MethodName := ⟨RX0, "copyFrom", "(LThirstPay$Farm;)V"⟩
abbrev cX0_grows : ByteArray := prog_2_method_5_code
def yX0_grows : MethodName := ⟨RX0, "grows", "(I)I"⟩
abbrev cX0_byDay : ByteArray := prog_2_method_6_code
def yX0_byDay : MethodName := ⟨RX0, "byDay", "(II)I"⟩
abbrev cX0_pays : ByteArray := prog_2_method_7_code
def yX0_pays : MethodName := ⟨RX0, "pays", "()I"⟩
def RX1 : String := "ThirstPay$Reader"
def TX1 : u_T := fun k => match k with
  | 0 => ("ThirstPay$Reader", "written", "LThirstPay$Text;", true)
  | 1 => ("ThirstPay$Reader", "bytes", "[I", true)
  | 2 => ("ThirstPay$Reader", "length", "I", false)
  | 3 => ("ThirstPay$Reader", "at", "I", false)
  | _ => ("ThirstPay$Reader", "names", "Ljava/lang/String;", false)
def tyX1 : Nat → FieldType := fun k => match k with
  | 0 => .object "ThirstPay$Text"
  | 1 => .array .int
  | 2 => .int
  | 3 => .int
  | _ => .object "java/lang/String"
abbrev wsX10 : List Cond := u_ws RX1 TX1 5
theorem nmX1 : ∀ a, a < 5 → ∀ b, b < 5 → a ≠ b → (TX1 a).2.1 ≠ (TX1 b).2.1 := by decide +kernel
theorem tyX1_ok : ∀ k, k < 5 → parseFieldDescriptor (TX1 k).2.2.1 = some (tyX1 k) := by decide +kernel
abbrev cX1_init : ByteArray := prog_3_method_1_code
def yX1_init : MethodName := ⟨RX1, "<init>", "()V"⟩
abbrev cX1_faultOf : ByteArray := prog_3_method_2_code
def yX1_faultOf : MethodName := ⟨RX1, "faultOf", "([BILjava/lang/String;)I"⟩
abbrev cX1_readRank : ByteArray := prog_3_method_3_code
def yX1_readRank : MethodName := ⟨RX1, "readRank", "(II)Z"⟩
abbrev cX1_rankOf : ByteArray := prog_3_method_4_code
def yX1_rankOf : MethodName := ⟨RX1, "rankOf", "(I)I"⟩
abbrev cX1_readOperand : ByteArray := prog_3_method_5_code
def yX1_readOperand : MethodName := ⟨RX1, "readOperand", "(I)Z"⟩
abbrev cX1_readNumber : ByteArray := prog_3_method_6_code
def yX1_readNumber : MethodName := ⟨RX1, "readNumber", "()V"⟩
abbrev cX1_readNot : ByteArray := prog_3_method_7_code
def yX1_readNot : MethodName := ⟨RX1, "readNot", "(I)Z"⟩
abbrev cX1_readBracket : ByteArray := prog_3_method_8_code
def yX1_readBracket : MethodName := ⟨RX1, "readBracket", "(I)Z"⟩
abbrev cX1_isDigit : ByteArray := prog_3_method_9_code
def yX1_isDigit : MethodName := ⟨RX1, "isDigit", "(I)Z"⟩
def RX2 : String := "ThirstPay$Sheet"
def TX2 : u_T := fun k => match k with
  | 0 => ("ThirstPay$Sheet", "numbers", "[I", true)
  | 1 => ("ThirstPay$Sheet", "bits", "I", false)
  | _ => ("ThirstPay$Sheet", "size", "I", false)
def tyX2 : Nat → FieldType := fun k => match k with
  | 0 => .array .int
  | 1 => .int
  | _ => .int
abbrev wsX20 : List Cond := u_ws RX2 TX2 3
theorem nmX2 : ∀ a, a < 3 → ∀ b, b < 3 → a ≠ b → (TX2 a).2.1 ≠ (TX2 b).2.1 := by decide +kernel
theorem tyX2_ok : ∀ k, k < 3 → parseFieldDescriptor (TX2 k).2.2.1 = some (tyX2 k) := by decide +kernel
abbrev cX2_init : ByteArray := prog_4_method_1_code
def yX2_init : MethodName := ⟨RX2, "<init>", "()V"⟩
abbrev cX2_begin : ByteArray := prog_4_method_2_code
def yX2_begin : MethodName := ⟨RX2, "begin", "(II)V"⟩
abbrev cX2_isMissing : ByteArray := prog_4_method_3_code
def yX2_isMissing : MethodName := ⟨RX2, "isMissing", "()Z"⟩
abbrev cX2_write : ByteArray := prog_4_method_4_code
def yX2_write : MethodName := ⟨RX2, "write", "(II)V"⟩
abbrev cX2_hasRow : ByteArray := prog_4_method_5_code
def yX2_hasRow : MethodName := ⟨RX2, "hasRow", "(II)Z"⟩
def RX3 : String := "ThirstPay$Text"
def TX3 : u_T := fun k => match k with
  | 0 => ("ThirstPay$Text", "signs", "[I", true)
  | 1 => ("ThirstPay$Text", "values", "[I", true)
  | 2 => ("ThirstPay$Text", "open", "[I", true)
  | _ => ("ThirstPay$Text", "length", "I", false)
def tyX3 : Nat → FieldType := fun k => match k with
  | 0 => .array .int
  | 1 => .array .int
  | 2 => .array .int
  | _ => .int
abbrev wsX30 : List Cond := u_ws RX3 TX3 4
theorem nmX3 : ∀ a, a < 4 → ∀ b, b < 4 → a ≠ b → (TX3 a).2.1 ≠ (TX3 b).2.1 := by decide +kernel
theorem tyX3_ok : ∀ k, k < 4 → parseFieldDescriptor (TX3 k).2.2.1 = some (tyX3 k) := by decide +kernel
abbrev cX3_init : ByteArray := prog_5_method_1_code
def yX3_init : MethodName := ⟨RX3, "<init>", "()V"⟩
abbrev cX3_clear : ByteArray := prog_5_method_2_code
def yX3_clear : MethodName := ⟨RX3, "clear", "()V"⟩
abbrev cX3_isThere : ByteArray := prog_5_method_3_code
def yX3_isThere : MethodName := ⟨RX3, "isThere", "()Z"⟩
abbrev cX3_copyFrom : ByteArray := prog_5_method_4_code
def yX3_copyFrom : MethodName := ⟨RX3, "copyFrom", "(LThirstPay$Text;)V"⟩
abbrev cX3_add : ByteArray := prog_5_method_5_code
def yX3_add : MethodName := ⟨RX3, "add", "(II)V"⟩
abbrev cX3_workedOut : ByteArray := prog_5_method_6_code
def yX3_workedOut : MethodName := ⟨RX3, "workedOut", "(III)I"⟩
abbrev cX3_named : ByteArray := prog_5_method_7_code
def yX3_named : MethodName := ⟨RX3, "named", "(IIII)I"⟩
abbrev cX3_joined : ByteArray := prog_5_method_8_code
def yX3_joined : MethodName := ⟨RX3, "joined", "(III)I"⟩
def RX4 : String := "ThirstPay$Thought"
def TX4 : u_T := fun k => match k with
  | 0 => ("ThirstPay$Thought", "world", "LThirstPay$World;", true)
  | 1 => ("ThirstPay$Thought", "dry", "[I", true)
  | 2 => ("ThirstPay$Thought", "room", "[I", true)
  | 3 => ("ThirstPay$Thought", "way", "[I", true)
  | 4 => ("ThirstPay$Thought", "bestWay", "[I", true)
  | _ => ("ThirstPay$Thought", "bestCarriers", "I", false)
def tyX4 : Nat → FieldType := fun k => match k with
  | 0 => .object "ThirstPay$World"
  | 1 => .array .int
  | 2 => .array .int
  | 3 => .array .int
  | 4 => .array .int
  | _ => .int
abbrev wsX40 : List Cond := u_ws RX4 TX4 6
theorem nmX4 : ∀ a, a < 6 → ∀ b, b < 6 → a ≠ b → (TX4 a).2.1 ≠ (TX4 b).2.1 := by decide +kernel
theorem tyX4_ok : ∀ k, k < 6 → parseFieldDescriptor (TX4 k).2.2.1 = some (tyX4 k) := by decide +kernel
abbrev cX4_init : ByteArray := prog_6_method_1_code
def yX4_init : MethodName := ⟨RX4, "<init>", "(LThirstPay$World;)V"⟩
abbrev cX4_dryThen : ByteArray := prog_6_method_2_code
def yX4_dryThen : MethodName := ⟨RX4, "dryThen", "(II)I"⟩
abbrev cX4_startAhead : ByteArray := prog_6_method_3_code
def yX4_startAhead : MethodName := ⟨RX4, "startAhead", "()V"⟩
abbrev cX4_goAhead : ByteArray := prog_6_method_4_code
def yX4_goAhead : MethodName := ⟨RX4, "goAhead", "(I)V"⟩
abbrev cX4_hoursUntilAbove : ByteArray := prog_6_method_5_code
def yX4_hoursUntilAbove : MethodName := ⟨RX4, "hoursUntilAbove", "(I)I"⟩
abbrev cX4_firstAbove : ByteArray := prog_6_method_6_code
def yX4_firstAbove : MethodName := ⟨RX4, "firstAbove", "(I)I"⟩
abbrev cX4_hoursUntilAsTold : ByteArray := prog_6_method_7_code
def yX4_hoursUntilAsTold : MethodName := ⟨RX4, "hoursUntilAsTold", "(LThirstPay$Sheet;)I"⟩
abbrev cX4_isAsTold : ByteArray := prog_6_method_8_code
def yX4_isAsTold : MethodName := ⟨RX4, "isAsTold", "(LThirstPay$Sheet;)Z"⟩
abbrev cX4_bestSet : ByteArray := prog_6_method_9_code
def yX4_bestSet : MethodName := ⟨RX4, "bestSet", "(I)I"⟩
abbrev cX4_setsWithin : ByteArray := prog_6_method_10_code
def yX4_setsWithin : MethodName := ⟨RX4, "setsWithin", "(I)I"⟩
abbrev cX4_setsOf : ByteArray := prog_6_method_11_code
def yX4_setsOf : MethodName := ⟨RX4, "setsOf", "(I)I"⟩
abbrev cX4_leastSetOf : ByteArray := prog_6_method_12_code
def yX4_leastSetOf : MethodName := ⟨RX4, "leastSetOf", "(I)I"⟩
abbrev cX4_fewestCarriers : ByteArray := prog_6_method_13_code
def yX4_fewestCarriers : MethodName := ⟨RX4, "fewestCarriers", "(I)I"⟩
abbrev cX4_carrierOf : ByteArray := prog_6_method_14_code
def yX4_carrierOf : MethodName := ⟨RX4, "carrierOf", "(I)I"⟩
abbrev cX4_placeFrom : ByteArray := prog_6_method_15_code
def yX4_placeFrom : MethodName := ⟨RX4, "placeFrom", "(III)V"⟩
def RX5 : String := "ThirstPay$Voices"
def TX5 : u_T := fun k => match k with
  | 0 => ("ThirstPay$Voices", "trace", "[I", true)
  | 1 => ("ThirstPay$Voices", "begun", "I", false)
  | 2 => ("ThirstPay$Voices", "parted", "Z", false)
  | 3 => ("ThirstPay$Voices", "k", "I", false)
  | 4 => ("ThirstPay$Voices", "m", "I", false)
  | _ => ("ThirstPay$Voices", "kind", "I", false)
def tyX5 : Nat → FieldType := fun k => match k with
  | 0 => .array .int
  | 1 => .int
  | 2 => .boolean
  | 3 => .int
  | 4 => .int
  | _ => .int
abbrev wsX50 : List Cond := u_ws RX5 TX5 6
theorem nmX5 : ∀ a, a < 6 → ∀ b, b < 6 → a ≠ b → (TX5 a).2.1 ≠ (TX5 b).2.1 := by decide +kernel
theorem tyX5_ok : ∀ k, k < 6 → parseFieldDescriptor (TX5 k).2.2.1 = some (tyX5 k) := by decide +kernel
abbrev cX5_init : ByteArray := prog_7_method_1_code
def yX5_init : MethodName := ⟨RX5, "<init>", "()V"⟩
abbrev cX5_answerOf : ByteArray := prog_7_method_2_code
def yX5_answerOf : MethodName := ⟨RX5, "answerOf", "(ILThirstPay$Farm;II)I"⟩
abbrev cX5_spoken : ByteArray := prog_7_method_3_code
def yX5_spoken : MethodName := ⟨RX5, "spoken", "(IIII)I"⟩
abbrev cX5_ownerOf : ByteArray := prog_7_method_4_code
def yX5_ownerOf : MethodName := ⟨RX5, "ownerOf", "(II)I"⟩
abbrev cX5_bodyOf : ByteArray := prog_7_method_5_code
def yX5_bodyOf : MethodName := ⟨RX5, "bodyOf", "(II)I"⟩
abbrev cX5_workedOut : ByteArray := prog_7_method_6_code
def yX5_workedOut : MethodName := ⟨RX5, "workedOut", "(IIII)I"⟩
abbrev cX5_partOf : ByteArray := prog_7_method_7_code
def yX5_partOf : MethodName := ⟨RX5, "partOf", "(I)I"⟩
abbrev cX5_partAndSips : ByteArray := prog_7_method_8_code
def yX5_partAndSips : MethodName := ⟨RX5, "partAndSips", "(III)I"⟩
def RX6 : String := "ThirstPay$World"
def TX6 : u_T := fun k => match k with
  | 0 => ("ThirstPay$World", "farms", "[LThirstPay$Farm;", true)
  | 1 => ("ThirstPay$World", "farmCount", "I", false)
  | 2 => ("ThirstPay$World", "belly", "[I", true)
  | 3 => ("ThirstPay$World", "earned", "[I", true)
  | 4 => ("ThirstPay$World", "carrierCount", "I", false)
  | 5 => ("ThirstPay$World", "water", "[I", true)
  | 6 => ("ThirstPay$World", "hour", "I", false)
  | 7 => ("ThirstPay$World", "parched", "I", false)
  | 8 => ("ThirstPay$World", "z", "I", false)
  | 9 => ("ThirstPay$World", "tape", "[B", true)
  | 10 => ("ThirstPay$World", "taped", "I", false)
  | 11 => ("ThirstPay$World", "texts", "[LThirstPay$Text;", true)
  | 12 => ("ThirstPay$World", "waiting", "[I", true)
  | _ => ("ThirstPay$World", "waits", "I", false)
def tyX6 : Nat → FieldType := fun k => match k with
  | 0 => .array (.object "ThirstPay$Farm")
  | 1 => .int
  | 2 => .array .int
  | 3 => .array .int
  | 4 => .int
  | 5 => .array .int
  | 6 => .int
  | 7 => .int
  | 8 => .int
  | 9 => .array .byte
  | 10 => .int
  | 11 => .array (.object "ThirstPay$Text")
  | 12 => .array .int
  | _ => .int
abbrev wsX60 : List Cond := u_ws RX6 TX6 14
theorem nmX6 : ∀ a, a < 14 → ∀ b, b < 14 → a ≠ b → (TX6 a).2.1 ≠ (TX6 b).2.1 := by decide +kernel
theorem tyX6_ok : ∀ k, k < 14 → parseFieldDescriptor (TX6 k).2.2.1 = some (tyX6 k) := by decide +kernel
abbrev cX6_init : ByteArray := prog_8_method_1_code
def yX6_init : MethodName := ⟨RX6, "<init>", "()V"⟩
abbrev cX6_copyFrom : ByteArray := prog_8_method_2_code
def yX6_copyFrom : MethodName := ⟨RX6, "copyFrom", "(LThirstPay$World;)V"⟩
abbrev cX6_allFarms : ByteArray := prog_8_method_3_code
def yX6_allFarms : MethodName := ⟨RX6, "allFarms", "()I"⟩
abbrev cX6_given : ByteArray := prog_8_method_4_code
def yX6_given : MethodName := ⟨RX6, "given", "(IIII)I"⟩
abbrev cX6_growthOf : ByteArray := prog_8_method_5_code
def yX6_growthOf : MethodName := ⟨RX6, "growthOf", "(LThirstPay$Farm;II)I"⟩
abbrev cX6_payOf : ByteArray := prog_8_method_6_code
def yX6_payOf : MethodName := ⟨RX6, "payOf", "(LThirstPay$Farm;)I"⟩
abbrev cX6_payOfSet : ByteArray := prog_8_method_7_code
def yX6_payOfSet : MethodName := ⟨RX6, "payOfSet", "(I)I"⟩
abbrev cX6_dryOfSet : ByteArray := prog_8_method_8_code
def yX6_dryOfSet : MethodName := ⟨RX6, "dryOfSet", "(I)I"⟩
abbrev cX6_mayBeCarried : ByteArray := prog_8_method_9_code
def yX6_mayBeCarried : MethodName := ⟨RX6, "mayBeCarried", "(III)Z"⟩
abbrev cX6_beCarried : ByteArray := prog_8_method_10_code
def yX6_beCarried : MethodName := ⟨RX6, "beCarried", "(III)I"⟩
abbrev cX6_carryByDraws : ByteArray := prog_8_method_11_code
def yX6_carryByDraws : MethodName := ⟨RX6, "carryByDraws", "()I"⟩
abbrev cX6_drawn : ByteArray := prog_8_method_12_code
def yX6_drawn : MethodName := ⟨RX6, "drawn", "()I"⟩
abbrev cX6_goOnAnHour : ByteArray := prog_8_method_13_code
def yX6_goOnAnHour : MethodName := ⟨RX6, "goOnAnHour", "()V"⟩
def RX7 : String := "ThirstPay"
def TX7 : u_T := fun k => match k with
  | 0 => ("ThirstPay", "now", "LThirstPay$World;", true)
  | 1 => ("ThirstPay", "kept", "LThirstPay$World;", true)
  | 2 => ("ThirstPay", "thought", "LThirstPay$Thought;", true)
  | 3 => ("ThirstPay", "reader", "LThirstPay$Reader;", true)
  | 4 => ("ThirstPay", "voices", "LThirstPay$Voices;", true)
  | 5 => ("ThirstPay", "sheets", "[LThirstPay$Sheet;", true)
  | 6 => ("ThirstPay", "refusals", "[I", true)
  | _ => ("ThirstPay", "images", "I", false)
def tyX7 : Nat → FieldType := fun k => match k with
  | 0 => .object "ThirstPay$World"
  | 1 => .object "ThirstPay$World"
  | 2 => .object "ThirstPay$Thought"
  | 3 => .object "ThirstPay$Reader"
  | 4 => .object "ThirstPay$Voices"
  | 5 => .array (.object "ThirstPay$Sheet")
  | 6 => .array .int
  | _ => .int
abbrev wsX70 : List Cond := u_ws RX7 TX7 8
theorem nmX7 : ∀ a, a < 8 → ∀ b, b < 8 → a ≠ b → (TX7 a).2.1 ≠ (TX7 b).2.1 := by decide +kernel
theorem tyX7_ok : ∀ k, k < 8 → parseFieldDescriptor (TX7 k).2.2.1 = some (tyX7 k) := by decide +kernel
abbrev cX7_init : ByteArray := prog_1_method_1_code
def yX7_init : MethodName := ⟨RX7, "<init>", "()V"⟩
abbrev cX7_farm : ByteArray := prog_1_method_2_code
def yX7_farm : MethodName := ⟨RX7, "farm", "(III)I"⟩
abbrev cX7_farmIs : ByteArray := prog_1_method_3_code
def yX7_farmIs : MethodName := ⟨RX7, "farmIs", "(II)I"⟩
abbrev cX7_become : ByteArray := prog_1_method_4_code
def yX7_become : MethodName := ⟨RX7, "become", "(II)I"⟩
abbrev cX7_as : ByteArray := prog_1_method_5_code
def yX7_as : MethodName := ⟨RX7, "as", "(II)I"⟩
abbrev cX7_parch : ByteArray := prog_1_method_6_code
def yX7_parch : MethodName := ⟨RX7, "parch", "(II)I"⟩
abbrev cX7_graze : ByteArray := prog_1_method_7_code
def yX7_graze : MethodName := ⟨RX7, "graze", "(II)I"⟩
abbrev cX7_carrier : ByteArray := prog_1_method_8_code
def yX7_carrier : MethodName := ⟨RX7, "carrier", "(I)I"⟩
abbrev cX7_carrierIs : ByteArray := prog_1_method_9_code
def yX7_carrierIs : MethodName := ⟨RX7, "carrierIs", "(II)I"⟩
abbrev cX7_pool : ByteArray := prog_1_method_10_code
def yX7_pool : MethodName := ⟨RX7, "pool", "(II)I"⟩
abbrev cX7_swap : ByteArray := prog_1_method_11_code
def yX7_swap : MethodName := ⟨RX7, "swap", "(II)I"⟩
abbrev cX7_carry : ByteArray := prog_1_method_12_code
def yX7_carry : MethodName := ⟨RX7, "carry", "(III)I"⟩
abbrev cX7_feed : ByteArray := prog_1_method_13_code
def yX7_feed : MethodName := ⟨RX7, "feed", "(JI)I"⟩
abbrev cX7_text : ByteArray := prog_1_method_14_code
def yX7_text : MethodName := ⟨RX7, "text", "(I)I"⟩
abbrev cX7_untell : ByteArray := prog_1_method_15_code
def yX7_untell : MethodName := ⟨RX7, "untell", "(I)I"⟩
abbrev cX7_law : ByteArray := prog_1_method_16_code
def yX7_law : MethodName := ⟨RX7, "law", "(IIII)I"⟩
abbrev cX7_hours : ByteArray := prog_1_method_17_code
def yX7_hours : MethodName := ⟨RX7, "hours", "(I)I"⟩
abbrev cX7_loose : ByteArray := prog_1_method_18_code
def yX7_loose : MethodName := ⟨RX7, "loose", "(I)I"⟩
abbrev cX7_hour : ByteArray := prog_1_method_19_code
def yX7_hour : MethodName := ⟨RX7, "hour", "(I)I"⟩
abbrev cX7_seed : ByteArray := prog_1_method_20_code
def yX7_seed : MethodName := ⟨RX7, "seed", "(I)I"⟩
abbrev cX7_then : ByteArray := prog_1_method_21_code
def yX7_then : MethodName := ⟨RX7, "then", "(II)I"⟩
abbrev cX7_first : ByteArray := prog_1_method_22_code
def yX7_first : MethodName := ⟨RX7, "first", "(II)I"⟩
abbrev cX7_round : ByteArray := prog_1_method_23_code
def yX7_round : MethodName := ⟨RX7, "round", "(II)I"⟩
abbrev cX7_fewest : ByteArray := prog_1_method_24_code
def yX7_fewest : MethodName := ⟨RX7, "fewest", "(II)I"⟩
abbrev cX7_odds : ByteArray := prog_1_method_25_code
def yX7_odds : MethodName := ⟨RX7, "odds", "(II)I"⟩
abbrev cX7_whose : ByteArray := prog_1_method_26_code
def yX7_whose : MethodName := ⟨RX7, "whose", "(II)I"⟩
abbrev cX7_fits : ByteArray := prog_1_method_27_code
def yX7_fits : MethodName := ⟨RX7, "fits", "(I)I"⟩
abbrev cX7_voice : ByteArray := prog_1_method_28_code
def yX7_voice : MethodName := ⟨RX7, "voice", "(III)I"⟩
abbrev cX7_body : ByteArray := prog_1_method_29_code
def yX7_body : MethodName := ⟨RX7, "body", "(I)I"⟩
abbrev cX7_sheet : ByteArray := prog_1_method_30_code
def yX7_sheet : MethodName := ⟨RX7, "sheet", "(III)I"⟩
abbrev cX7_put : ByteArray := prog_1_method_31_code
def yX7_put : MethodName := ⟨RX7, "put", "(III)I"⟩
abbrev cX7_move : ByteArray := prog_1_method_32_code
def yX7_move : MethodName := ⟨RX7, "move", "(IIIII)I"⟩
abbrev cX7_parches : ByteArray := prog_1_method_33_code
def yX7_parches : MethodName := ⟨RX7, "parches", "(I)I"⟩
abbrev cX7_judge : ByteArray := prog_1_method_34_code
def yX7_judge : MethodName := ⟨RX7, "judge", "(I)I"⟩
abbrev cX7_image : ByteArray := prog_1_method_35_code
def yX7_image : MethodName := ⟨RX7, "image", "()I"⟩
abbrev cX7_restore : ByteArray := prog_1_method_36_code
def yX7_restore : MethodName := ⟨RX7, "restore", "()I"⟩
abbrev cX7_tell : ByteArray := prog_1_method_37_code
def yX7_tell : MethodName := ⟨RX7, "tell", "(I)I"⟩
abbrev cX7_check : ByteArray := prog_1_method_38_code
def yX7_check : MethodName := ⟨RX7, "check", "()I"⟩
abbrev cX7_count : ByteArray := prog_1_method_39_code
def yX7_count : MethodName := ⟨RX7, "count", "(I)I"⟩
abbrev cX7_told : ByteArray := prog_1_method_40_code
def yX7_told : MethodName := ⟨RX7, "told", "(I)I"⟩
abbrev cX7_refuse : ByteArray := prog_1_method_41_code
def yX7_refuse : MethodName := ⟨RX7, "refuse", "(I)I"⟩
abbrev cX7_isFarm : ByteArray := prog_1_method_42_code
def yX7_isFarm : MethodName := ⟨RX7, "isFarm", "(I)Z"⟩
abbrev cX7_isCarrier : ByteArray := prog_1_method_43_code
def yX7_isCarrier : MethodName := ⟨RX7, "isCarrier", "(I)Z"⟩
abbrev cX7_isPool : ByteArray := prog_1_method_44_code
def yX7_isPool : MethodName := ⟨RX7, "isPool", "(I)Z"⟩
abbrev cX7_isSheet : ByteArray := prog_1_method_45_code
def yX7_isSheet : MethodName := ⟨RX7, "isSheet", "(I)Z"⟩
abbrev cX7_isUse : ByteArray := prog_1_method_46_code
def yX7_isUse : MethodName := ⟨RX7, "isUse", "(I)Z"⟩
abbrev cX7_isKindAndM : ByteArray := prog_1_method_47_code
def yX7_isKindAndM : MethodName := ⟨RX7, "isKindAndM", "(I)Z"⟩
abbrev cX7_within : ByteArray := prog_1_method_48_code
def yX7_within : MethodName := ⟨RX7, "within", "(III)Z"⟩
abbrev cX7_kindAbove : ByteArray := prog_1_method_49_code
def yX7_kindAbove : MethodName := ⟨RX7, "kindAbove", "(I)I"⟩
abbrev cX7_isOrUnder : ByteArray := prog_1_method_50_code
def yX7_isOrUnder : MethodName := ⟨RX7, "isOrUnder", "(II)Z"⟩
abbrev cX7_namesOf : ByteArray := prog_1_method_51_code
def yX7_namesOf : MethodName := ⟨RX7, "namesOf", "(I)Ljava/lang/String;"⟩
abbrev cX7_commonDivisor : ByteArray := prog_1_method_52_code
def yX7_commonDivisor : MethodName := ⟨RX7, "commonDivisor", "(II)I"⟩
def RX8 : String := "ThirstPayModel"
def TX8 : u_T := fun k => match k with
  | 0 => ("ThirstPayModel", "s", "[I", true)
  | 1 => ("ThirstPayModel", "kept", "[I", true)
  | 2 => ("ThirstPayModel", "laid", "[I", true)
  | 3 => ("ThirstPayModel", "images", "I", false)
  | 4 => ("ThirstPayModel", "errors", "[I", true)
  | 5 => ("ThirstPayModel", "at", "I", false)
  | 6 => ("ThirstPayModel", "open", "I", false)
  | 7 => ("ThirstPayModel", "steps", "I", false)
  | 8 => ("ThirstPayModel", "use", "I", false)
  | 9 => ("ThirstPayModel", "step", "[I", true)
  | 10 => ("ThirstPayModel", "named", "[I", true)
  | 11 => ("ThirstPayModel", "pile", "[I", true)
  | 12 => ("ThirstPayModel", "pays", "[I", true)
  | 13 => ("ThirstPayModel", "with", "[I", true)
  | 14 => ("ThirstPayModel", "bestWith", "[I", true)
  | 15 => ("ThirstPayModel", "load", "[I", true)
  | 16 => ("ThirstPayModel", "fewest1", "I", false)
  | 17 => ("ThirstPayModel", "traced", "I", false)
  | 18 => ("ThirstPayModel", "trace", "[I", true)
  | 19 => ("ThirstPayModel", "speaks", "I", false)
  | 20 => ("ThirstPayModel", "isParted", "Z", false)
  | 21 => ("ThirstPayModel", "bits", "[I", true)
  | 22 => ("ThirstPayModel", "sizes", "[I", true)
  | 23 => ("ThirstPayModel", "number", "[I", true)
  | _ => ("ThirstPayModel", "aside", "[I", true)
def tyX8 : Nat → FieldType := fun k => match k with
  | 0 => .array .int
  | 1 => .array .int
  | 2 => .array .int
  | 3 => .int
  | 4 => .array .int
  | 5 => .int
  | 6 => .int
  | 7 => .int
  | 8 => .int
  | 9 => .array .int
  | 10 => .array .int
  | 11 => .array .int
  | 12 => .array .int
  | 13 => .array .int
  | 14 => .array .int
  | 15 => .array .int
  | 16 => .int
  | 17 => .int
  | 18 => .array .int
  | 19 => .int
  | 20 => .boolean
  | 21 => .array .int
  | 22 => .array .int
  | 23 => .array .int
  | _ => .array .int
abbrev wsX80 : List Cond := u_ws RX8 TX8 25
theorem nmX8 : ∀ a, a < 25 → ∀ b, b < 25 → a ≠ b → (TX8 a).2.1 ≠ (TX8 b).2.1 := by decide +kernel
theorem tyX8_ok : ∀ k, k < 25 → parseFieldDescriptor (TX8 k).2.2.1 = some (tyX8 k) := by decide +kernel
abbrev cX8_init : ByteArray := prog_10_method_1_code
def yX8_init : MethodName := ⟨RX8, "<init>", "()V"⟩
abbrev cX8_error : ByteArray := prog_10_method_2_code
def yX8_error : MethodName := ⟨RX8, "error", "(I)I"⟩
abbrev cX8_in : ByteArray := prog_10_method_3_code
def yX8_in : MethodName := ⟨RX8, "in", "(III)Z"⟩
abbrev cX8_held : ByteArray := prog_10_method_4_code
def yX8_held : MethodName := ⟨RX8, "held", "(III)I"⟩
abbrev cX8_copyAll : ByteArray := prog_10_method_5_code
def yX8_copyAll : MethodName := ⟨RX8, "copyAll", "([I[I)V"⟩
abbrev cX8_layDown : ByteArray := prog_10_method_6_code
def yX8_layDown : MethodName := ⟨RX8, "layDown", "()V"⟩
abbrev cX8_layBack : ByteArray := prog_10_method_7_code
def yX8_layBack : MethodName := ⟨RX8, "layBack", "()V"⟩
abbrev cX8_isFarm : ByteArray := prog_10_method_8_code
def yX8_isFarm : MethodName := ⟨RX8, "isFarm", "(I)Z"⟩
abbrev cX8_isCarrier : ByteArray := prog_10_method_9_code
def yX8_isCarrier : MethodName := ⟨RX8, "isCarrier", "(I)Z"⟩
abbrev cX8_its : ByteArray := prog_10_method_10_code
def yX8_its : MethodName := ⟨RX8, "its", "(II)I"⟩
abbrev cX8_lays1 : ByteArray := prog_10_method_11_code
def yX8_lays1 : MethodName := ⟨RX8, "lays1", "(III)V"⟩
abbrev cX8_belly : ByteArray := prog_10_method_12_code
def yX8_belly : MethodName := ⟨RX8, "belly", "(I)I"⟩
abbrev cX8_change1 : ByteArray := prog_10_method_13_code
def yX8_change1 : MethodName := ⟨RX8, "change1", "(II)I"⟩
abbrev cX8_feed : ByteArray := prog_10_method_14_code
def yX8_feed : MethodName := ⟨RX8, "feed", "(JI)I"⟩
abbrev cX8_look : ByteArray := prog_10_method_15_code
def yX8_look : MethodName := ⟨RX8, "look", "()I"⟩
abbrev cX8_isName : ByteArray := prog_10_method_16_code
def yX8_isName : MethodName := ⟨RX8, "isName", "(I)Z"⟩
abbrev cX8_step1 : ByteArray := prog_10_method_17_code
def yX8_step1 : MethodName := ⟨RX8, "step1", "(II)V"⟩
abbrev cX8_whole : ByteArray := prog_10_method_18_code
def yX8_whole : MethodName := ⟨RX8, "whole", "()Z"⟩
abbrev cX8_both : ByteArray := prog_10_method_19_code
def yX8_both : MethodName := ⟨RX8, "both", "()Z"⟩
abbrev cX8_compared : ByteArray := prog_10_method_20_code
def yX8_compared : MethodName := ⟨RX8, "compared", "()Z"⟩
abbrev cX8_sum : ByteArray := prog_10_method_21_code
def yX8_sum : MethodName := ⟨RX8, "sum", "()Z"⟩
abbrev cX8_product : ByteArray := prog_10_method_22_code
def yX8_product : MethodName := ⟨RX8, "product", "()Z"⟩
abbrev cX8_opens : ByteArray := prog_10_method_23_code
def yX8_opens : MethodName := ⟨RX8, "opens", "()Z"⟩
abbrev cX8_one : ByteArray := prog_10_method_24_code
def yX8_one : MethodName := ⟨RX8, "one", "()Z"⟩
abbrev cX8_hasText : ByteArray := prog_10_method_25_code
def yX8_hasText : MethodName := ⟨RX8, "hasText", "(I)Z"⟩
abbrev cX8_text : ByteArray := prog_10_method_26_code
def yX8_text : MethodName := ⟨RX8, "text", "(I)I"⟩
abbrev cX8_untell : ByteArray := prog_10_method_27_code
def yX8_untell : MethodName := ⟨RX8, "untell", "(I)I"⟩
abbrev cX8_joined : ByteArray := prog_10_method_28_code
def yX8_joined : MethodName := ⟨RX8, "joined", "(III)I"⟩
abbrev cX8_worked : ByteArray := prog_10_method_29_code
def yX8_worked : MethodName := ⟨RX8, "worked", "(I)I"⟩
abbrev cX8_growsOf : ByteArray := prog_10_method_30_code
def yX8_growsOf : MethodName := ⟨RX8, "growsOf", "(I)I"⟩
abbrev cX8_paysOf : ByteArray := prog_10_method_31_code
def yX8_paysOf : MethodName := ⟨RX8, "paysOf", "(I)I"⟩
abbrev cX8_growthTold : ByteArray := prog_10_method_32_code
def yX8_growthTold : MethodName := ⟨RX8, "growthTold", "(III)I"⟩
abbrev cX8_payTold : ByteArray := prog_10_method_33_code
def yX8_payTold : MethodName := ⟨RX8, "payTold", "(III)I"⟩
abbrev cX8_growthOf : ByteArray := prog_10_method_34_code
def yX8_growthOf : MethodName := ⟨RX8, "growthOf", "(I)I"⟩
abbrev cX8_payOf : ByteArray := prog_10_method_35_code
def yX8_payOf : MethodName := ⟨RX8, "payOf", "(I)I"⟩
abbrev cX8_anHour : ByteArray := prog_10_method_36_code
def yX8_anHour : MethodName := ⟨RX8, "anHour", "()V"⟩
abbrev cX8_draw : ByteArray := prog_10_method_37_code
def yX8_draw : MethodName := ⟨RX8, "draw", "()I"⟩
abbrev cX8_dryOf : ByteArray := prog_10_method_38_code
def yX8_dryOf : MethodName := ⟨RX8, "dryOf", "(I)I"⟩
abbrev cX8_mayCarry : ByteArray := prog_10_method_39_code
def yX8_mayCarry : MethodName := ⟨RX8, "mayCarry", "(III)Z"⟩
abbrev cX8_carries : ByteArray := prog_10_method_40_code
def yX8_carries : MethodName := ⟨RX8, "carries", "(III)I"⟩
abbrev cX8_isKind : ByteArray := prog_10_method_41_code
def yX8_isKind : MethodName := ⟨RX8, "isKind", "(I)Z"⟩
abbrev cX8_farm : ByteArray := prog_10_method_42_code
def yX8_farm : MethodName := ⟨RX8, "farm", "(III)I"⟩
abbrev cX8_farmIs : ByteArray := prog_10_method_43_code
def yX8_farmIs : MethodName := ⟨RX8, "farmIs", "(II)I"⟩
abbrev cX8_become : ByteArray := prog_10_method_44_code
def yX8_become : MethodName := ⟨RX8, "become", "(II)I"⟩
abbrev cX8_as : ByteArray := prog_10_method_45_code
def yX8_as : MethodName := ⟨RX8, "as", "(II)I"⟩
abbrev cX8_parch : ByteArray := prog_10_method_46_code
def yX8_parch : MethodName := ⟨RX8, "parch", "(II)I"⟩
abbrev cX8_graze : ByteArray := prog_10_method_47_code
def yX8_graze : MethodName := ⟨RX8, "graze", "(II)I"⟩
abbrev cX8_carrier : ByteArray := prog_10_method_48_code
def yX8_carrier : MethodName := ⟨RX8, "carrier", "(I)I"⟩
abbrev cX8_carrierIs : ByteArray := prog_10_method_49_code
def yX8_carrierIs : MethodName := ⟨RX8, "carrierIs", "(II)I"⟩
abbrev cX8_pool : ByteArray := prog_10_method_50_code
def yX8_pool : MethodName := ⟨RX8, "pool", "(II)I"⟩
abbrev cX8_swap : ByteArray := prog_10_method_51_code
def yX8_swap : MethodName := ⟨RX8, "swap", "(II)I"⟩
abbrev cX8_carry : ByteArray := prog_10_method_52_code
def yX8_carry : MethodName := ⟨RX8, "carry", "(III)I"⟩
abbrev cX8_law : ByteArray := prog_10_method_53_code
def yX8_law : MethodName := ⟨RX8, "law", "(IIII)I"⟩
abbrev cX8_whyNot : ByteArray := prog_10_method_54_code
def yX8_whyNot : MethodName := ⟨RX8, "whyNot", "(II)I"⟩
abbrev cX8_hours : ByteArray := prog_10_method_55_code
def yX8_hours : MethodName := ⟨RX8, "hours", "(I)I"⟩
abbrev cX8_errand : ByteArray := prog_10_method_56_code
def yX8_errand : MethodName := ⟨RX8, "errand", "()I"⟩
abbrev cX8_loose : ByteArray := prog_10_method_57_code
def yX8_loose : MethodName := ⟨RX8, "loose", "(I)I"⟩
abbrev cX8_hour : ByteArray := prog_10_method_58_code
def yX8_hour : MethodName := ⟨RX8, "hour", "(I)I"⟩
abbrev cX8_seed : ByteArray := prog_10_method_59_code
def yX8_seed : MethodName := ⟨RX8, "seed", "(I)I"⟩
abbrev cX8_then : ByteArray := prog_10_method_60_code
def yX8_then : MethodName := ⟨RX8, "then", "(II)I"⟩
abbrev cX8_drier : ByteArray := prog_10_method_61_code
def yX8_drier : MethodName := ⟨RX8, "drier", "(I)I"⟩
abbrev cX8_first : ByteArray := prog_10_method_62_code
def yX8_first : MethodName := ⟨RX8, "first", "(II)I"⟩
abbrev cX8_round : ByteArray := prog_10_method_63_code
def yX8_round : MethodName := ⟨RX8, "round", "(II)I"⟩
abbrev cX8_goes : ByteArray := prog_10_method_64_code
def yX8_goes : MethodName := ⟨RX8, "goes", "(III)V"⟩
abbrev cX8_fewest : ByteArray := prog_10_method_65_code
def yX8_fewest : MethodName := ⟨RX8, "fewest", "(II)I"⟩
abbrev cX8_divisor : ByteArray := prog_10_method_66_code
def yX8_divisor : MethodName := ⟨RX8, "divisor", "(II)I"⟩
abbrev cX8_odds : ByteArray := prog_10_method_67_code
def yX8_odds : MethodName := ⟨RX8, "odds", "(II)I"⟩
abbrev cX8_whose : ByteArray := prog_10_method_68_code
def yX8_whose : MethodName := ⟨RX8, "whose", "(II)I"⟩
abbrev cX8_areDrySo : ByteArray := prog_10_method_69_code
def yX8_areDrySo : MethodName := ⟨RX8, "areDrySo", "(I)Z"⟩
abbrev cX8_fits : ByteArray := prog_10_method_70_code
def yX8_fits : MethodName := ⟨RX8, "fits", "(I)I"⟩
abbrev cX8_starts : ByteArray := prog_10_method_71_code
def yX8_starts : MethodName := ⟨RX8, "starts", "(I)V"⟩
abbrev cX8_above : ByteArray := prog_10_method_72_code
def yX8_above : MethodName := ⟨RX8, "above", "(I)I"⟩
abbrev cX8_kindNow : ByteArray := prog_10_method_73_code
def yX8_kindNow : MethodName := ⟨RX8, "kindNow", "()I"⟩
abbrev cX8_mNow : ByteArray := prog_10_method_74_code
def yX8_mNow : MethodName := ⟨RX8, "mNow", "()I"⟩
abbrev cX8_gulpsAs : ByteArray := prog_10_method_75_code
def yX8_gulpsAs : MethodName := ⟨RX8, "gulpsAs", "(II)I"⟩
abbrev cX8_sipsAs : ByteArray := prog_10_method_76_code
def yX8_sipsAs : MethodName := ⟨RX8, "sipsAs", "(II)I"⟩
abbrev cX8_sighsAs : ByteArray := prog_10_method_77_code
def yX8_sighsAs : MethodName := ⟨RX8, "sighsAs", "(II)I"⟩
abbrev cX8_partsAs : ByteArray := prog_10_method_78_code
def yX8_partsAs : MethodName := ⟨RX8, "partsAs", "(II)I"⟩
abbrev cX8_voice : ByteArray := prog_10_method_79_code
def yX8_voice : MethodName := ⟨RX8, "voice", "(III)I"⟩
abbrev cX8_body : ByteArray := prog_10_method_80_code
def yX8_body : MethodName := ⟨RX8, "body", "(I)I"⟩
abbrev cX8_isSheet : ByteArray := prog_10_method_81_code
def yX8_isSheet : MethodName := ⟨RX8, "isSheet", "(I)Z"⟩
abbrev cX8_sheet : ByteArray := prog_10_method_82_code
def yX8_sheet : MethodName := ⟨RX8, "sheet", "(III)I"⟩
abbrev cX8_put : ByteArray := prog_10_method_83_code
def yX8_put : MethodName := ⟨RX8, "put", "(III)I"⟩
abbrev cX8_move : ByteArray := prog_10_method_84_code
def yX8_move : MethodName := ⟨RX8, "move", "(IIIII)I"⟩
abbrev cX8_lacks : ByteArray := prog_10_method_85_code
def yX8_lacks : MethodName := ⟨RX8, "lacks", "(I)I"⟩
abbrev cX8_parches : ByteArray := prog_10_method_86_code
def yX8_parches : MethodName := ⟨RX8, "parches", "(I)I"⟩
abbrev cX8_judge : ByteArray := prog_10_method_87_code
def yX8_judge : MethodName := ⟨RX8, "judge", "(I)I"⟩
abbrev cX8_image : ByteArray := prog_10_method_88_code
def yX8_image : MethodName := ⟨RX8, "image", "()I"⟩
abbrev cX8_restore : ByteArray := prog_10_method_89_code
def yX8_restore : MethodName := ⟨RX8, "restore", "()I"⟩
abbrev cX8_tell : ByteArray := prog_10_method_90_code
def yX8_tell : MethodName := ⟨RX8, "tell", "(I)I"⟩
abbrev cX8_check : ByteArray := prog_10_method_91_code
def yX8_check : MethodName := ⟨RX8, "check", "()I"⟩
abbrev cX8_count : ByteArray := prog_10_method_92_code
def yX8_count : MethodName := ⟨RX8, "count", "(I)I"⟩
abbrev cX8_told : ByteArray := prog_10_method_93_code
def yX8_told : MethodName := ⟨RX8, "told", "(I)I"⟩
def RJ11 : String := "java/lang/Character"
def TJ11 : u_T := fun k => match k with
  | _ => ("", "", "", false)
def tyJ11 : Nat → FieldType := fun k => match k with
  | _ => .int
abbrev wsJ110 : List Cond := u_ws RJ11 TJ11 0
theorem nmJ11 : ∀ a, a < 0 → ∀ b, b < 0 → a ≠ b → (TJ11 a).2.1 ≠ (TJ11 b).2.1 := by decide +kernel
theorem tyJ11_ok : ∀ k, k < 0 → parseFieldDescriptor (TJ11 k).2.2.1 = some (tyJ11 k) := by decide +kernel
abbrev cJ11_isValidCodePoint_9a6ad : ByteArray := prog_11_method_11_code
def yJ11_isValidCodePoint_9a6ad : MethodName := ⟨RJ11, "isValidCodePoint", "(I)Z"⟩
abbrev cJ11_highSurrogate_5068e : ByteArray := prog_11_method_28_code
def yJ11_highSurrogate_5068e : MethodName := ⟨RJ11, "highSurrogate", "(I)C"⟩
abbrev cJ11_lowSurrogate_5068e : ByteArray := prog_11_method_29_code
def yJ11_lowSurrogate_5068e : MethodName := ⟨RJ11, "lowSurrogate", "(I)C"⟩
def RJ6 : String := "java/lang/Integer"
def TJ6 : u_T := fun k => match k with
  | _ => ("", "", "", false)
def tyJ6 : Nat → FieldType := fun k => match k with
  | _ => .int
abbrev wsJ60 : List Cond := u_ws RJ6 TJ6 0
theorem nmJ6 : ∀ a, a < 0 → ∀ b, b < 0 → a ≠ b → (TJ6 a).2.1 ≠ (TJ6 b).2.1 := by decide +kernel
theorem tyJ6_ok : ∀ k, k < 0 → parseFieldDescriptor (TJ6 k).2.2.1 = some (tyJ6 k) := by decide +kernel
abbrev cJ6_bitCount_0f7a4 : ByteArray := prog_12_method_49_code
def yJ6_bitCount_0f7a4 : MethodName := ⟨RJ6, "bitCount", "(I)I"⟩
def RJ9 : String := "java/lang/Math"
def TJ9 : u_T := fun k => match k with
  | _ => ("", "", "", false)
def tyJ9 : Nat → FieldType := fun k => match k with
  | _ => .int
abbrev wsJ90 : List Cond := u_ws RJ9 TJ9 0
theorem nmJ9 : ∀ a, a < 0 → ∀ b, b < 0 → a ≠ b → (TJ9 a).2.1 ≠ (TJ9 b).2.1 := by decide +kernel
theorem tyJ9_ok : ∀ k, k < 0 → parseFieldDescriptor (TJ9 k).2.2.1 = some (tyJ9 k) := by decide +kernel
abbrev cJ9_max_7cf53 : ByteArray := prog_13_method_65_code
def yJ9_max_7cf53 : MethodName := ⟨RJ9, "max", "(II)I"⟩
abbrev cJ9_min_7cf53 : ByteArray := prog_13_method_69_code
def yJ9_min_7cf53 : MethodName := ⟨RJ9, "min", "(II)I"⟩
def RJ0 : String := "java/lang/String"
def TJ0 : u_T := fun k => match k with
  | _ => ("", "", "", false)
def tyJ0 : Nat → FieldType := fun k => match k with
  | _ => .int
abbrev wsJ00 : List Cond := u_ws RJ0 TJ0 0
theorem nmJ0 : ∀ a, a < 0 → ∀ b, b < 0 → a ≠ b → (TJ0 a).2.1 ≠ (TJ0 b).2.1 := by decide +kernel
theorem tyJ0_ok : ∀ k, k < 0 → parseFieldDescriptor (TJ0 k).2.2.1 = some (tyJ0 k) := by decide +kernel
abbrev cJ0_length_8abf5 : ByteArray := prog_14_method_54_code
def yJ0_length_8abf5 : MethodName := ⟨RJ0, "length", "()I"⟩
abbrev cJ0_indexOf_0f7a4 : ByteArray := prog_14_method_79_code
def yJ0_indexOf_0f7a4 : MethodName := ⟨RJ0, "indexOf", "(I)I"⟩
abbrev cJ0_indexOf_7cf53 : ByteArray := prog_14_method_80_code
def yJ0_indexOf_7cf53 : MethodName := ⟨RJ0, "indexOf", "(II)I"⟩
abbrev cJ0_coder_7d493 : ByteArray := prog_14_method_152_code
def yJ0_coder_7d493 : MethodName := ⟨RJ0, "coder", "()B"⟩
abbrev cJ0_isLatin1_aae02 : ByteArray := prog_14_method_154_code
def yJ0_isLatin1_aae02 : MethodName := ⟨RJ0, "isLatin1", "()Z"⟩
abbrev cJ0_checkBoundsBeginEnd_23922 : ByteArray := prog_14_method_158_code
def yJ0_checkBoundsBeginEnd_23922 : MethodName := ⟨RJ0, "checkBoundsBeginEnd", "(III)V"⟩
def RJ1 : String := "java/lang/StringLatin1"
def TJ1 : u_T := fun k => match k with
  | _ => ("", "", "", false)
def tyJ1 : Nat → FieldType := fun k => match k with
  | _ => .int
abbrev wsJ10 : List Cond := u_ws RJ1 TJ1 0
theorem nmJ1 : ∀ a, a < 0 → ∀ b, b < 0 → a ≠ b → (TJ1 a).2.1 ≠ (TJ1 b).2.1 := by decide +kernel
theorem tyJ1_ok : ∀ k, k < 0 → parseFieldDescriptor (TJ1 k).2.2.1 = some (tyJ1 k) := by decide +kernel
abbrev cJ1_canEncode_9a6ad : ByteArray := prog_15_method_4_code
def yJ1_canEncode_9a6ad : MethodName := ⟨RJ1, "canEncode", "(I)Z"⟩
abbrev cJ1_indexOf_4cfef : ByteArray := prog_15_method_22_code
def yJ1_indexOf_4cfef : MethodName := ⟨RJ1, "indexOf", "([BIII)I"⟩
abbrev cJ1_indexOfChar_4cfef : ByteArray := prog_15_method_23_code
def yJ1_indexOfChar_4cfef : MethodName := ⟨RJ1, "indexOfChar", "([BIII)I"⟩
def RJ2 : String := "java/lang/StringUTF16"
def TJ2 : u_T := fun k => match k with
  | _ => ("", "", "", false)
def tyJ2 : Nat → FieldType := fun k => match k with
  | _ => .int
abbrev wsJ20 : List Cond := u_ws RJ2 TJ2 0
theorem nmJ2 : ∀ a, a < 0 → ∀ b, b < 0 → a ≠ b → (TJ2 a).2.1 ≠ (TJ2 b).2.1 := by decide +kernel
theorem tyJ2_ok : ∀ k, k < 0 → parseFieldDescriptor (TJ2 k).2.2.1 = some (tyJ2 k) := by decide +kernel
abbrev cJ2_getChar_3b067 : ByteArray := prog_16_method_5_code
def yJ2_getChar_3b067 : MethodName := ⟨RJ2, "getChar", "([BI)C"⟩
abbrev cJ2_length_9d52b : ByteArray := prog_16_method_6_code
def yJ2_length_9d52b : MethodName := ⟨RJ2, "length", "([B)I"⟩
abbrev cJ2_indexOf_4cfef : ByteArray := prog_16_method_40_code
def yJ2_indexOf_4cfef : MethodName := ⟨RJ2, "indexOf", "([BIII)I"⟩
abbrev cJ2_indexOfChar_4cfef : ByteArray := prog_16_method_47_code
def yJ2_indexOfChar_4cfef : MethodName := ⟨RJ2, "indexOfChar", "([BIII)I"⟩
abbrev cJ2_indexOfCharUnsafe_4cfef : ByteArray := prog_16_method_48_code
def yJ2_indexOfCharUnsafe_4cfef : MethodName := ⟨RJ2, "indexOfCharUnsafe", "([BIII)I"⟩
abbrev cJ2_indexOfSupplementary_4cfef : ByteArray := prog_16_method_49_code
def yJ2_indexOfSupplementary_4cfef : MethodName := ⟨RJ2, "indexOfSupplementary", "([BIII)I"⟩
abbrev cJ2_checkBoundsBeginEnd_d044e : ByteArray := prog_16_method_93_code
def yJ2_checkBoundsBeginEnd_d044e : MethodName := ⟨RJ2, "checkBoundsBeginEnd", "(II[B)V"⟩
def RJ10 : String := "java/lang/System"
def TJ10 : u_T := fun k => match k with
  | _ => ("", "", "", false)
def tyJ10 : Nat → FieldType := fun k => match k with
  | _ => .int
abbrev wsJ100 : List Cond := u_ws RJ10 TJ10 0
theorem nmJ10 : ∀ a, a < 0 → ∀ b, b < 0 → a ≠ b → (TJ10 a).2.1 ≠ (TJ10 b).2.1 := by decide +kernel
theorem tyJ10_ok : ∀ k, k < 0 → parseFieldDescriptor (TJ10 k).2.2.1 = some (tyJ10 k) := by decide +kernel
def RJ3 : String := "jdk/internal/util/Preconditions"
def TJ3 : u_T := fun k => match k with
  | _ => ("", "", "", false)
def tyJ3 : Nat → FieldType := fun k => match k with
  | _ => .int
abbrev wsJ30 : List Cond := u_ws RJ3 TJ3 0
theorem nmJ3 : ∀ a, a < 0 → ∀ b, b < 0 → a ≠ b → (TJ3 a).2.1 ≠ (TJ3 b).2.1 := by decide +kernel
theorem tyJ3_ok : ∀ k, k < 0 → parseFieldDescriptor (TJ3 k).2.2.1 = some (tyJ3 k) := by decide +kernel
abbrev cJ3_checkFromToIndex_8c36e : ByteArray := prog_18_method_12_code
def yJ3_checkFromToIndex_8c36e : MethodName := ⟨RJ3, "checkFromToIndex", "(IIILjava/util/function/BiFunction;)I"⟩
def RL : String := "ThirstPayLaw"
abbrev cL_law : ByteArray := code
def yL_law : MethodName := ⟨RL, "law", "([I)Z"⟩
end
section
theorem dX0_init_0 : decode cX0_init 0 = .ok (.aload_n 0, 1) := by decide +kernel
theorem dX0_init_1 : decode cX0_init 1 = .ok (.invokespecial 3, 3) := by decide +kernel
theorem dX0_init_4 : decode cX0_init 4 = .ok (.return_, 1) := by decide +kernel
theorem dX0_begin_0 : decode cX0_begin 0 = .ok (.aload_n 0, 1) := by decide +kernel
theorem dX0_begin_1 : decode cX0_begin 1 = .ok (.iload_n 1, 1) := by decide +kernel
theorem dX0_begin_2 : decode cX0_begin 2 = .ok (.invokevirtual 9, 3) := by decide +kernel
theorem dX0_begin_5 : decode cX0_begin 5 = .ok (.aload_n 0, 1) := by decide +kernel
theorem dX0_begin_6 : decode cX0_begin 6 = .ok (.iload_n 2, 1) := by decide +kernel
theorem dX0_begin_7 : decode cX0_begin 7 = .ok (.putfield 15, 3) := by decide +kernel
theorem dX0_begin_10 : decode cX0_begin 10 = .ok (.aload_n 0, 1) := by decide +kernel
theorem dX0_begin_11 : decode cX0_begin 11 = .ok (.iload_n 3, 1) := by decide +kernel
theorem dX0_begin_12 : decode cX0_begin 12 = .ok (.putfield 19, 3) := by decide +kernel
theorem dX0_begin_15 : decode cX0_begin 15 = .ok (.aload_n 0, 1) := by decide +kernel
theorem dX0_begin_16 : decode cX0_begin 16 = .ok (.iconst 0, 1) := by decide +kernel
theorem dX0_begin_17 : decode cX0_begin 17 = .ok (.putfield 22, 3) := by decide +kernel
theorem dX0_begin_20 : decode cX0_begin 20 = .ok (.aload_n 0, 1) := by decide +kernel
theorem dX0_begin_21 : decode cX0_begin 21 = .ok (.iconst 0, 1) := by decide +kernel
theorem dX0_begin_22 : decode cX0_begin 22 = .ok (.putfield 25, 3) := by decide +kernel
theorem dX0_begin_25 : decode cX0_begin 25 = .ok (.return_, 1) := by decide +kernel
theorem dX0_beOfKind_0 : decode cX0_beOfKind 0 = .ok (.aload_n 0, 1) := by decide +kernel
theorem dX0_beOfKind_1 : decode cX0_beOfKind 1 = .ok (.iload_n 1, 1) := by decide +kernel
theorem dX0_beOfKind_2 : decode cX0_beOfKind 2 = .ok (.bipush 10, 2) := by decide +kernel
theorem dX0_beOfKind_4 : decode cX0_beOfKind 4 = .ok (.idiv, 1) := by decide +kernel
theorem dX0_beOfKind_5 : decode cX0_beOfKind 5 = .ok (.putfield 28, 3) := by decide +kernel
theorem dX0_beOfKind_8 : decode cX0_beOfKind 8 = .ok (.aload_n 0, 1) := by decide +kernel
theorem dX0_beOfKind_9 : decode cX0_beOfKind 9 = .ok (.iload_n 1, 1) := by decide +kernel
theorem dX0_beOfKind_10 : decode cX0_beOfKind 10 = .ok (.bipush 10, 2) := by decide +kernel
theorem dX0_beOfKind_12 : decode cX0_beOfKind 12 = .ok (.irem, 1) := by decide +kernel
theorem dX0_beOfKind_13 : decode cX0_beOfKind 13 = .ok (.putfield 31, 3) := by decide +kernel
theorem dX0_beOfKind_16 : decode cX0_beOfKind 16 = .ok (.return_, 1) := by decide +kernel
theorem dX0_copyFrom_0 : decode cX0_copyFrom 0 = .ok (.aload_n 0, 1) := by decide +kernel
theorem dX0_copyFrom_1 : decode cX0_copyFrom 1 = .ok (.aload_n 1, 1) := by decide +kernel
theorem dX0_copyFrom_2 : decode cX0_copyFrom 2 = .ok (.getfield 28, 3) := by decide +kernel
theorem dX0_copyFrom_5 : decode cX0_copyFrom 5 = .ok (.putfield 28, 3) := by decide +kernel
theorem dX0_copyFrom_8 : decode cX0_copyFrom 8 = .ok (.aload_n 0, 1) := by decide +kernel
theorem dX0_copyFrom_9 : decode cX0_copyFrom 9 = .ok (.aload_n 1, 1) := by decide +kernel
theorem dX0_copyFrom_10 : decode cX0_copyFrom 10 = .ok (.getfield 31, 3) := by decide +kernel
theorem dX0_copyFrom_13 : decode cX0_copyFrom 13 = .ok (.putfield 31, 3) := by decide +kernel
theorem dX0_copyFrom_16 : decode cX0_copyFrom 16 = .ok (.aload_n 0, 1) := by decide +kernel
theorem dX0_copyFrom_17 : decode cX0_copyFrom 17 = .ok (.aload_n 1, 1) := by decide +kernel
theorem dX0_copyFrom_18 : decode cX0_copyFrom 18 = .ok (.getfield 15, 3) := by decide +kernel
theorem dX0_copyFrom_21 : decode cX0_copyFrom 21 = .ok (.putfield 15, 3) := by decide +kernel
theorem dX0_copyFrom_24 : decode cX0_copyFrom 24 = .ok (.aload_n 0, 1) := by decide +kernel
theorem dX0_copyFrom_25 : decode cX0_copyFrom 25 = .ok (.aload_n 1, 1) := by decide +kernel
theorem dX0_copyFrom_26 : decode cX0_copyFrom 26 = .ok (.getfield 19, 3) := by decide +kernel
theorem dX0_copyFrom_29 : decode cX0_copyFrom 29 = .ok (.putfield 19, 3) := by decide +kernel
theorem dX0_copyFrom_32 : decode cX0_copyFrom 32 = .ok (.aload_n 0, 1) := by decide +kernel
theorem dX0_copyFrom_33 : decode cX0_copyFrom 33 = .ok (.aload_n 1, 1) := by decide +kernel
theorem dX0_copyFrom_34 : decode cX0_copyFrom 34 = .ok (.getfield 22, 3) := by decide +kernel
theorem dX0_copyFrom_37 : decode cX0_copyFrom 37 = .ok (.putfield 22, 3) := by decide +kernel
theorem dX0_copyFrom_40 : decode cX0_copyFrom 40 = .ok (.aload_n 0, 1) := by decide +kernel
theorem dX0_copyFrom_41 : decode cX0_copyFrom 41 = .ok (.aload_n 1, 1) := by decide +kernel
theorem dX0_copyFrom_42 : decode cX0_copyFrom 42 = .ok (.getfield 25, 3) := by decide +kernel
theorem dX0_copyFrom_45 : decode cX0_copyFrom 45 = .ok (.putfield 25, 3) := by decide +kernel
theorem dX0_copyFrom_48 : decode cX0_copyFrom 48 = .ok (.return_, 1) := by decide +kernel
theorem dX0_grows_0 : decode cX0_grows 0 = .ok (.iconst 1, 1) := by decide +kernel
theorem dX0_grows_1 : decode cX0_grows 1 = .ok (.aload_n 0, 1) := by decide +kernel
theorem dX0_grows_2 : decode cX0_grows 2 = .ok (.getfield 31, 3) := by decide +kernel
theorem dX0_grows_5 : decode cX0_grows 5 = .ok (.iconst 3, 1) := by decide +kernel
theorem dX0_grows_6 : decode cX0_grows 6 = .ok (.idiv, 1) := by decide +kernel
theorem dX0_grows_7 : decode cX0_grows 7 = .ok (.iadd, 1) := by decide +kernel
theorem dX0_grows_8 : decode cX0_grows 8 = .ok (.istore_n 2, 1) := by decide +kernel
theorem dX0_grows_9 : decode cX0_grows 9 = .ok (.aload_n 0, 1) := by decide +kernel
theorem dX0_grows_10 : decode cX0_grows 10 = .ok (.getfield 28, 3) := by decide +kernel
theorem dX0_grows_13 : decode cX0_grows 13 = .ok (.tableswitch 91 1 6 #[39, 48, 91, 54, 68, 87], 39) := by decide +kernel
theorem dX0_grows_52 : decode cX0_grows 52 = .ok (.iload_n 2, 1) := by decide +kernel
theorem dX0_grows_53 : decode cX0_grows 53 = .ok (.aload_n 0, 1) := by decide +kernel
theorem dX0_grows_54 : decode cX0_grows 54 = .ok (.getfield 19, 3) := by decide +kernel
theorem dX0_grows_57 : decode cX0_grows 57 = .ok (.iconst 4, 1) := by decide +kernel
theorem dX0_grows_58 : decode cX0_grows 58 = .ok (.idiv, 1) := by decide +kernel
theorem dX0_grows_59 : decode cX0_grows 59 = .ok (.iadd, 1) := by decide +kernel
theorem dX0_grows_60 : decode cX0_grows 60 = .ok (.ireturn, 1) := by decide +kernel
theorem dX0_grows_61 : decode cX0_grows 61 = .ok (.iload_n 2, 1) := by decide +kernel
theorem dX0_grows_62 : decode cX0_grows 62 = .ok (.iload_n 1, 1) := by decide +kernel
theorem dX0_grows_63 : decode cX0_grows 63 = .ok (.invokestatic 34, 3) := by decide +kernel
theorem dX0_grows_66 : decode cX0_grows 66 = .ok (.ireturn, 1) := by decide +kernel
theorem dX0_grows_67 : decode cX0_grows 67 = .ok (.iload_n 2, 1) := by decide +kernel
theorem dX0_grows_68 : decode cX0_grows 68 = .ok (.aload_n 0, 1) := by decide +kernel
theorem dX0_grows_69 : decode cX0_grows 69 = .ok (.getfield 19, 3) := by decide +kernel
theorem dX0_grows_72 : decode cX0_grows 72 = .ok (.iconst 4, 1) := by decide +kernel
theorem dX0_grows_73 : decode cX0_grows 73 = .ok (.idiv, 1) := by decide +kernel
theorem dX0_grows_74 : decode cX0_grows 74 = .ok (.iadd, 1) := by decide +kernel
theorem dX0_grows_75 : decode cX0_grows 75 = .ok (.aload_n 0, 1) := by decide +kernel
theorem dX0_grows_76 : decode cX0_grows 76 = .ok (.getfield 31, 3) := by decide +kernel
theorem dX0_grows_79 : decode cX0_grows 79 = .ok (.iadd, 1) := by decide +kernel
theorem dX0_grows_80 : decode cX0_grows 80 = .ok (.ireturn, 1) := by decide +kernel
theorem dX0_grows_81 : decode cX0_grows 81 = .ok (.iload_n 2, 1) := by decide +kernel
theorem dX0_grows_82 : decode cX0_grows 82 = .ok (.iload_n 1, 1) := by decide +kernel
theorem dX0_grows_83 : decode cX0_grows 83 = .ok (.invokestatic 34, 3) := by decide +kernel
theorem dX0_grows_86 : decode cX0_grows 86 = .ok (.iload_n 1, 1) := by decide +kernel
theorem dX0_grows_87 : decode cX0_grows 87 = .ok (.bipush 7, 2) := by decide +kernel
theorem dX0_grows_89 : decode cX0_grows 89 = .ok (.irem, 1) := by decide +kernel
theorem dX0_grows_90 : decode cX0_grows 90 = .ok (.ifCond .ne 7, 3) := by decide +kernel
theorem dX0_grows_93 : decode cX0_grows 93 = .ok (.iconst 3, 1) := by decide +kernel
theorem dX0_grows_94 : decode cX0_grows 94 = .ok (.goto 4, 3) := by decide +kernel
theorem dX0_grows_97 : decode cX0_grows 97 = .ok (.iconst 0, 1) := by decide +kernel
theorem dX0_grows_98 : decode cX0_grows 98 = .ok (.iadd, 1) := by decide +kernel
theorem dX0_grows_99 : decode cX0_grows 99 = .ok (.ireturn, 1) := by decide +kernel
theorem dX0_grows_100 : decode cX0_grows 100 = .ok (.iload_n 2, 1) := by decide +kernel
theorem dX0_grows_101 : decode cX0_grows 101 = .ok (.iconst 1, 1) := by decide +kernel
theorem dX0_grows_102 : decode cX0_grows 102 = .ok (.isub, 1) := by decide +kernel
theorem dX0_grows_103 : decode cX0_grows 103 = .ok (.ireturn, 1) := by decide +kernel
theorem dX0_grows_104 : decode cX0_grows 104 = .ok (.iload_n 2, 1) := by decide +kernel
theorem dX0_grows_105 : decode cX0_grows 105 = .ok (.ireturn, 1) := by decide +kernel
theorem dX0_byDay_0 : decode cX0_byDay 0 = .ok (.iload_n 1, 1) := by decide +kernel
theorem dX0_byDay_1 : decode cX0_byDay 1 = .ok (.bipush 24, 2) := by decide +kernel
theorem dX0_byDay_3 : decode cX0_byDay 3 = .ok (.irem, 1) := by decide +kernel
theorem dX0_byDay_4 : decode cX0_byDay 4 = .ok (.bipush 8, 2) := by decide +kernel
theorem dX0_byDay_6 : decode cX0_byDay 6 = .ok (.bipush 14, 2) := by decide +kernel
theorem dX0_byDay_8 : decode cX0_byDay 8 = .ok (.invokestatic 38, 3) := by decide +kernel
theorem dX0_byDay_11 : decode cX0_byDay 11 = .ok (.ifCond .eq 9, 3) := by decide +kernel
theorem dX0_byDay_14 : decode cX0_byDay 14 = .ok (.iconst 2, 1) := by decide +kernel
theorem dX0_byDay_15 : decode cX0_byDay 15 = .ok (.iload_n 0, 1) := by decide +kernel
theorem dX0_byDay_16 : decode cX0_byDay 16 = .ok (.imul, 1) := by decide +kernel
theorem dX0_byDay_17 : decode cX0_byDay 17 = .ok (.goto 4, 3) := by decide +kernel
theorem dX0_byDay_20 : decode cX0_byDay 20 = .ok (.iload_n 0, 1) := by decide +kernel
theorem dX0_byDay_21 : decode cX0_byDay 21 = .ok (.ireturn, 1) := by decide +kernel
theorem dX0_pays_0 : decode cX0_pays 0 = .ok (.aload_n 0, 1) := by decide +kernel
theorem dX0_pays_1 : decode cX0_pays 1 = .ok (.getfield 22, 3) := by decide +kernel
theorem dX0_pays_4 : decode cX0_pays 4 = .ok (.aload_n 0, 1) := by decide +kernel
theorem dX0_pays_5 : decode cX0_pays 5 = .ok (.getfield 15, 3) := by decide +kernel
theorem dX0_pays_8 : decode cX0_pays 8 = .ok (.iadd, 1) := by decide +kernel
theorem dX0_pays_9 : decode cX0_pays 9 = .ok (.istore_n 1, 1) := by decide +kernel
theorem dX0_pays_10 : decode cX0_pays 10 = .ok (.aload_n 0, 1) := by decide +kernel
theorem dX0_pays_11 : decode cX0_pays 11 = .ok (.getfield 28, 3) := by decide +kernel
theorem dX0_pays_14 : decode cX0_pays 14 = .ok (.tableswitch 57 2 6 #[34, 38, 42, 46, 55], 34) := by decide +kernel
theorem dX0_pays_48 : decode cX0_pays 48 = .ok (.iload_n 1, 1) := by decide +kernel
theorem dX0_pays_49 : decode cX0_pays 49 = .ok (.iconst 2, 1) := by decide +kernel
theorem dX0_pays_50 : decode cX0_pays 50 = .ok (.idiv, 1) := by decide +kernel
theorem dX0_pays_51 : decode cX0_pays 51 = .ok (.ireturn, 1) := by decide +kernel
theorem dX0_pays_52 : decode cX0_pays 52 = .ok (.iconst 2, 1) := by decide +kernel
theorem dX0_pays_53 : decode cX0_pays 53 = .ok (.iload_n 1, 1) := by decide +kernel
theorem dX0_pays_54 : decode cX0_pays 54 = .ok (.imul, 1) := by decide +kernel
theorem dX0_pays_55 : decode cX0_pays 55 = .ok (.ireturn, 1) := by decide +kernel
theorem dX0_pays_56 : decode cX0_pays 56 = .ok (.iload_n 1, 1) := by decide +kernel
theorem dX0_pays_57 : decode cX0_pays 57 = .ok (.iconst 5, 1) := by decide +kernel
theorem dX0_pays_58 : decode cX0_pays 58 = .ok (.iadd, 1) := by decide +kernel
theorem dX0_pays_59 : decode cX0_pays 59 = .ok (.ireturn, 1) := by decide +kernel
theorem dX0_pays_60 : decode cX0_pays 60 = .ok (.iload_n 1, 1) := by decide +kernel
theorem dX0_pays_61 : decode cX0_pays 61 = .ok (.iconst 2, 1) := by decide +kernel
theorem dX0_pays_62 : decode cX0_pays 62 = .ok (.idiv, 1) := by decide +kernel
theorem dX0_pays_63 : decode cX0_pays 63 = .ok (.aload_n 0, 1) := by decide +kernel
theorem dX0_pays_64 : decode cX0_pays 64 = .ok (.getfield 19, 3) := by decide +kernel
theorem dX0_pays_67 : decode cX0_pays 67 = .ok (.iadd, 1) := by decide +kernel
theorem dX0_pays_68 : decode cX0_pays 68 = .ok (.ireturn, 1) := by decide +kernel
theorem dX0_pays_69 : decode cX0_pays 69 = .ok (.iconst 0, 1) := by decide +kernel
theorem dX0_pays_70 : decode cX0_pays 70 = .ok (.ireturn, 1) := by decide +kernel
theorem dX0_pays_71 : decode cX0_pays 71 = .ok (.iload_n 1, 1) := by decide +kernel
theorem dX0_pays_72 : decode cX0_pays 72 = .ok (.ireturn, 1) := by decide +kernel
theorem dX1_init_0 : decode cX1_init 0 = .ok (.aload_n 0, 1) := by decide +kernel
theorem dX1_init_1 : decode cX1_init 1 = .ok (.invokespecial 3, 3) := by decide +kernel
theorem dX1_init_4 : decode cX1_init 4 = .ok (.aload_n 0, 1) := by decide +kernel
theorem dX1_init_5 : decode cX1_init 5 = .ok (.new 9, 3) := by decide +kernel
theorem dX1_init_8 : decode cX1_init 8 = .ok (.dup, 1) := by decide +kernel
theorem dX1_init_9 : decode cX1_init 9 = .ok (.invokespecial 11, 3) := by decide +kernel
theorem dX1_init_12 : decode cX1_init 12 = .ok (.putfield 12, 3) := by decide +kernel
theorem dX1_init_15 : decode cX1_init 15 = .ok (.aload_n 0, 1) := by decide +kernel
theorem dX1_init_16 : decode cX1_init 16 = .ok (.bipush 60, 2) := by decide +kernel
theorem dX1_init_18 : decode cX1_init 18 = .ok (.newarray .int, 2) := by decide +kernel
theorem dX1_init_20 : decode cX1_init 20 = .ok (.putfield 18, 3) := by decide +kernel
theorem dX1_init_23 : decode cX1_init 23 = .ok (.aload_n 0, 1) := by decide +kernel
theorem dX1_init_24 : decode cX1_init 24 = .ok (.ldc 22, 2) := by decide +kernel
theorem dX1_init_26 : decode cX1_init 26 = .ok (.putfield 24, 3) := by decide +kernel
theorem dX1_init_29 : decode cX1_init 29 = .ok (.return_, 1) := by decide +kernel
theorem dX1_faultOf_0 : decode cX1_faultOf 0 = .ok (.aload_n 0, 1) := by decide +kernel
theorem dX1_faultOf_1 : decode cX1_faultOf 1 = .ok (.iconst 0, 1) := by decide +kernel
theorem dX1_faultOf_2 : decode cX1_faultOf 2 = .ok (.iload_n 2, 1) := by decide +kernel
theorem dX1_faultOf_3 : decode cX1_faultOf 3 = .ok (.aload_n 1, 1) := by decide +kernel
theorem dX1_faultOf_4 : decode cX1_faultOf 4 = .ok (.arraylength, 1) := by decide +kernel
theorem dX1_faultOf_5 : decode cX1_faultOf 5 = .ok (.bipush 60, 2) := by decide +kernel
theorem dX1_faultOf_7 : decode cX1_faultOf 7 = .ok (.invokestatic 28, 3) := by decide +kernel
theorem dX1_faultOf_10 : decode cX1_faultOf 10 = .ok (.invokestatic 28, 3) := by decide +kernel
theorem dX1_faultOf_13 : decode cX1_faultOf 13 = .ok (.invokestatic 34, 3) := by decide +kernel
theorem dX1_faultOf_16 : decode cX1_faultOf 16 = .ok (.putfield 37, 3) := by decide +kernel
theorem dX1_faultOf_19 : decode cX1_faultOf 19 = .ok (.iconst 0, 1) := by decide +kernel
theorem dX1_faultOf_20 : decode cX1_faultOf 20 = .ok (.istore 4, 2) := by decide +kernel
theorem dX1_faultOf_22 : decode cX1_faultOf 22 = .ok (.iload 4, 2) := by decide +kernel
theorem dX1_faultOf_24 : decode cX1_faultOf 24 = .ok (.aload_n 0, 1) := by decide +kernel
theorem dX1_faultOf_25 : decode cX1_faultOf 25 = .ok (.getfield 37, 3) := by decide +kernel
theorem dX1_faultOf_28 : decode cX1_faultOf 28 = .ok (.if_icmp .ge 24, 3) := by decide +kernel
theorem dX1_faultOf_31 : decode cX1_faultOf 31 = .ok (.aload_n 0, 1) := by decide +kernel
theorem dX1_faultOf_32 : decode cX1_faultOf 32 = .ok (.getfield 18, 3) := by decide +kernel
theorem dX1_faultOf_35 : decode cX1_faultOf 35 = .ok (.iload 4, 2) := by decide +kernel
theorem dX1_faultOf_37 : decode cX1_faultOf 37 = .ok (.aload_n 1, 1) := by decide +kernel
theorem dX1_faultOf_38 : decode cX1_faultOf 38 = .ok (.iload 4, 2) := by decide +kernel
theorem dX1_faultOf_40 : decode cX1_faultOf 40 = .ok (.baload, 1) := by decide +kernel
theorem dX1_faultOf_41 : decode cX1_faultOf 41 = .ok (.sipush 255, 3) := by decide +kernel
theorem dX1_faultOf_44 : decode cX1_faultOf 44 = .ok (.iand, 1) := by decide +kernel
theorem dX1_faultOf_45 : decode cX1_faultOf 45 = .ok (.iastore, 1) := by decide +kernel
theorem dX1_faultOf_46 : decode cX1_faultOf 46 = .ok (.iinc 4 1, 3) := by decide +kernel
theorem dX1_faultOf_49 : decode cX1_faultOf 49 = .ok (.goto (-27), 3) := by decide +kernel
theorem dX1_faultOf_52 : decode cX1_faultOf 52 = .ok (.aload_n 0, 1) := by decide +kernel
theorem dX1_faultOf_53 : decode cX1_faultOf 53 = .ok (.iconst 0, 1) := by decide +kernel
theorem dX1_faultOf_54 : decode cX1_faultOf 54 = .ok (.putfield 41, 3) := by decide +kernel
theorem dX1_faultOf_57 : decode cX1_faultOf 57 = .ok (.aload_n 0, 1) := by decide +kernel
theorem dX1_faultOf_58 : decode cX1_faultOf 58 = .ok (.aload_n 3, 1) := by decide +kernel
theorem dX1_faultOf_59 : decode cX1_faultOf 59 = .ok (.putfield 24, 3) := by decide +kernel
theorem dX1_faultOf_62 : decode cX1_faultOf 62 = .ok (.aload_n 0, 1) := by decide +kernel
theorem dX1_faultOf_63 : decode cX1_faultOf 63 = .ok (.getfield 12, 3) := by decide +kernel
theorem dX1_faultOf_66 : decode cX1_faultOf 66 = .ok (.invokevirtual 44, 3) := by decide +kernel
theorem dX1_faultOf_69 : decode cX1_faultOf 69 = .ok (.aload_n 0, 1) := by decide +kernel
theorem dX1_faultOf_70 : decode cX1_faultOf 70 = .ok (.iconst 0, 1) := by decide +kernel
theorem dX1_faultOf_71 : decode cX1_faultOf 71 = .ok (.iconst 0, 1) := by decide +kernel
theorem dX1_faultOf_72 : decode cX1_faultOf 72 = .ok (.invokevirtual 47, 3) := by decide +kernel
theorem dX1_faultOf_75 : decode cX1_faultOf 75 = .ok (.ifCond .eq 18, 3) := by decide +kernel
theorem dX1_faultOf_78 : decode cX1_faultOf 78 = .ok (.aload_n 0, 1) := by decide +kernel
theorem dX1_faultOf_79 : decode cX1_faultOf 79 = .ok (.getfield 41, 3) := by decide +kernel
theorem dX1_faultOf_82 : decode cX1_faultOf 82 = .ok (.aload_n 0, 1) := by decide +kernel
theorem dX1_faultOf_83 : decode cX1_faultOf 83 = .ok (.getfield 37, 3) := by decide +kernel
theorem dX1_faultOf_86 : decode cX1_faultOf 86 = .ok (.if_icmp .ne 7, 3) := by decide +kernel
theorem dX1_faultOf_89 : decode cX1_faultOf 89 = .ok (.iconst (-1), 1) := by decide +kernel
theorem dX1_faultOf_90 : decode cX1_faultOf 90 = .ok (.goto 7, 3) := by decide +kernel
theorem dX1_faultOf_93 : decode cX1_faultOf 93 = .ok (.aload_n 0, 1) := by decide +kernel
theorem dX1_faultOf_94 : decode cX1_faultOf 94 = .ok (.getfield 41, 3) := by decide +kernel
theorem dX1_faultOf_97 : decode cX1_faultOf 97 = .ok (.ireturn, 1) := by decide +kernel
theorem dX1_readRank_0 : decode cX1_readRank 0 = .ok (.iload_n 1, 1) := by decide +kernel
theorem dX1_readRank_1 : decode cX1_readRank 1 = .ok (.iconst 5, 1) := by decide +kernel
theorem dX1_readRank_2 : decode cX1_readRank 2 = .ok (.if_icmp .lt 9, 3) := by decide +kernel
theorem dX1_readRank_5 : decode cX1_readRank 5 = .ok (.aload_n 0, 1) := by decide +kernel
theorem dX1_readRank_6 : decode cX1_readRank 6 = .ok (.iload_n 2, 1) := by decide +kernel
theorem dX1_readRank_7 : decode cX1_readRank 7 = .ok (.invokevirtual 51, 3) := by decide +kernel
theorem dX1_readRank_10 : decode cX1_readRank 10 = .ok (.ireturn, 1) := by decide +kernel
theorem dX1_readRank_11 : decode cX1_readRank 11 = .ok (.aload_n 0, 1) := by decide +kernel
theorem dX1_readRank_12 : decode cX1_readRank 12 = .ok (.iload_n 1, 1) := by decide +kernel
theorem dX1_readRank_13 : decode cX1_readRank 13 = .ok (.iconst 1, 1) := by decide +kernel
theorem dX1_readRank_14 : decode cX1_readRank 14 = .ok (.iadd, 1) := by decide +kernel
theorem dX1_readRank_15 : decode cX1_readRank 15 = .ok (.iload_n 2, 1) := by decide +kernel
theorem dX1_readRank_16 : decode cX1_readRank 16 = .ok (.invokevirtual 47, 3) := by decide +kernel
theorem dX1_readRank_19 : decode cX1_readRank 19 = .ok (.ifCond .ne 5, 3) := by decide +kernel
theorem dX1_readRank_22 : decode cX1_readRank 22 = .ok (.iconst 0, 1) := by decide +kernel
theorem dX1_readRank_23 : decode cX1_readRank 23 = .ok (.ireturn, 1) := by decide +kernel
theorem dX1_readRank_24 : decode cX1_readRank 24 = .ok (.aload_n 0, 1) := by decide +kernel
theorem dX1_readRank_25 : decode cX1_readRank 25 = .ok (.getfield 41, 3) := by decide +kernel
theorem dX1_readRank_28 : decode cX1_readRank 28 = .ok (.aload_n 0, 1) := by decide +kernel
theorem dX1_readRank_29 : decode cX1_readRank 29 = .ok (.getfield 37, 3) := by decide +kernel
theorem dX1_readRank_32 : decode cX1_readRank 32 = .ok (.if_icmp .ge 72, 3) := by decide +kernel
theorem dX1_readRank_35 : decode cX1_readRank 35 = .ok (.aload_n 0, 1) := by decide +kernel
theorem dX1_readRank_36 : decode cX1_readRank 36 = .ok (.getfield 18, 3) := by decide +kernel
theorem dX1_readRank_39 : decode cX1_readRank 39 = .ok (.aload_n 0, 1) := by decide +kernel
theorem dX1_readRank_40 : decode cX1_readRank 40 = .ok (.getfield 41, 3) := by decide +kernel
theorem dX1_readRank_43 : decode cX1_readRank 43 = .ok (.iaload, 1) := by decide +kernel
theorem dX1_readRank_44 : decode cX1_readRank 44 = .ok (.invokestatic 55, 3) := by decide +kernel
theorem dX1_readRank_47 : decode cX1_readRank 47 = .ok (.iload_n 1, 1) := by decide +kernel
theorem dX1_readRank_48 : decode cX1_readRank 48 = .ok (.if_icmp .ne 56, 3) := by decide +kernel
theorem dX1_readRank_51 : decode cX1_readRank 51 = .ok (.aload_n 0, 1) := by decide +kernel
theorem dX1_readRank_52 : decode cX1_readRank 52 = .ok (.getfield 18, 3) := by decide +kernel
theorem dX1_readRank_55 : decode cX1_readRank 55 = .ok (.aload_n 0, 1) := by decide +kernel
theorem dX1_readRank_56 : decode cX1_readRank 56 = .ok (.getfield 41, 3) := by decide +kernel
theorem dX1_readRank_59 : decode cX1_readRank 59 = .ok (.iaload, 1) := by decide +kernel
theorem dX1_readRank_60 : decode cX1_readRank 60 = .ok (.istore_n 3, 1) := by decide +kernel
theorem dX1_readRank_61 : decode cX1_readRank 61 = .ok (.aload_n 0, 1) := by decide +kernel
theorem dX1_readRank_62 : decode cX1_readRank 62 = .ok (.dup, 1) := by decide +kernel
theorem dX1_readRank_63 : decode cX1_readRank 63 = .ok (.getfield 41, 3) := by decide +kernel
theorem dX1_readRank_66 : decode cX1_readRank 66 = .ok (.iconst 1, 1) := by decide +kernel
theorem dX1_readRank_67 : decode cX1_readRank 67 = .ok (.iadd, 1) := by decide +kernel
theorem dX1_readRank_68 : decode cX1_readRank 68 = .ok (.putfield 41, 3) := by decide +kernel
theorem dX1_readRank_71 : decode cX1_readRank 71 = .ok (.aload_n 0, 1) := by decide +kernel
theorem dX1_readRank_72 : decode cX1_readRank 72 = .ok (.iload_n 1, 1) := by decide +kernel
theorem dX1_readRank_73 : decode cX1_readRank 73 = .ok (.iconst 1, 1) := by decide +kernel
theorem dX1_readRank_74 : decode cX1_readRank 74 = .ok (.iadd, 1) := by decide +kernel
theorem dX1_readRank_75 : decode cX1_readRank 75 = .ok (.iload_n 2, 1) := by decide +kernel
theorem dX1_readRank_76 : decode cX1_readRank 76 = .ok (.invokevirtual 47, 3) := by decide +kernel
theorem dX1_readRank_79 : decode cX1_readRank 79 = .ok (.ifCond .ne 5, 3) := by decide +kernel
theorem dX1_readRank_82 : decode cX1_readRank 82 = .ok (.iconst 0, 1) := by decide +kernel
theorem dX1_readRank_83 : decode cX1_readRank 83 = .ok (.ireturn, 1) := by decide +kernel
theorem dX1_readRank_84 : decode cX1_readRank 84 = .ok (.aload_n 0, 1) := by decide +kernel
theorem dX1_readRank_85 : decode cX1_readRank 85 = .ok (.getfield 12, 3) := by decide +kernel
theorem dX1_readRank_88 : decode cX1_readRank 88 = .ok (.iload_n 3, 1) := by decide +kernel
theorem dX1_readRank_89 : decode cX1_readRank 89 = .ok (.iconst 0, 1) := by decide +kernel
theorem dX1_readRank_90 : decode cX1_readRank 90 = .ok (.invokevirtual 59, 3) := by decide +kernel
theorem dX1_readRank_93 : decode cX1_readRank 93 = .ok (.iload_n 1, 1) := by decide +kernel
theorem dX1_readRank_94 : decode cX1_readRank 94 = .ok (.iconst 2, 1) := by decide +kernel
theorem dX1_readRank_95 : decode cX1_readRank 95 = .ok (.if_icmp .ne 6, 3) := by decide +kernel
theorem dX1_readRank_98 : decode cX1_readRank 98 = .ok (.goto 6, 3) := by decide +kernel
theorem dX1_readRank_101 : decode cX1_readRank 101 = .ok (.goto (-77), 3) := by decide +kernel
theorem dX1_readRank_104 : decode cX1_readRank 104 = .ok (.iconst 1, 1) := by decide +kernel
theorem dX1_readRank_105 : decode cX1_readRank 105 = .ok (.ireturn, 1) := by decide +kernel
theorem dX1_rankOf_0 : decode cX1_rankOf 0 = .ok (.iload_n 0, 1) := by decide +kernel
theorem dX1_rankOf_1 : decode cX1_rankOf 1 = .ok (.lookupswitch 101 #[(37, 99), (38, 93), (42, 99), (43, 97), (45, 97), (47, 99), (60, 95), (61, 95), (62, 95), (124, 91)], 91) := by decide +kernel
theorem dX1_rankOf_92 : decode cX1_rankOf 92 = .ok (.iconst 0, 1) := by decide +kernel
theorem dX1_rankOf_93 : decode cX1_rankOf 93 = .ok (.ireturn, 1) := by decide +kernel
theorem dX1_rankOf_94 : decode cX1_rankOf 94 = .ok (.iconst 1, 1) := by decide +kernel
theorem dX1_rankOf_95 : decode cX1_rankOf 95 = .ok (.ireturn, 1) := by decide +kernel
theorem dX1_rankOf_96 : decode cX1_rankOf 96 = .ok (.iconst 2, 1) := by decide +kernel
theorem dX1_rankOf_97 : decode cX1_rankOf 97 = .ok (.ireturn, 1) := by decide +kernel
theorem dX1_rankOf_98 : decode cX1_rankOf 98 = .ok (.iconst 3, 1) := by decide +kernel
theorem dX1_rankOf_99 : decode cX1_rankOf 99 = .ok (.ireturn, 1) := by decide +kernel
theorem dX1_rankOf_100 : decode cX1_rankOf 100 = .ok (.iconst 4, 1) := by decide +kernel
theorem dX1_rankOf_101 : decode cX1_rankOf 101 = .ok (.ireturn, 1) := by decide +kernel
theorem dX1_rankOf_102 : decode cX1_rankOf 102 = .ok (.iconst (-1), 1) := by decide +kernel
theorem dX1_rankOf_103 : decode cX1_rankOf 103 = .ok (.ireturn, 1) := by decide +kernel
theorem dX1_readOperand_0 : decode cX1_readOperand 0 = .ok (.aload_n 0, 1) := by decide +kernel
theorem dX1_readOperand_1 : decode cX1_readOperand 1 = .ok (.getfield 41, 3) := by decide +kernel
theorem dX1_readOperand_4 : decode cX1_readOperand 4 = .ok (.aload_n 0, 1) := by decide +kernel
theorem dX1_readOperand_5 : decode cX1_readOperand 5 = .ok (.getfield 37, 3) := by decide +kernel
theorem dX1_readOperand_8 : decode cX1_readOperand 8 = .ok (.if_icmp .lt 5, 3) := by decide +kernel
theorem dX1_readOperand_11 : decode cX1_readOperand 11 = .ok (.iconst 0, 1) := by decide +kernel
theorem dX1_readOperand_12 : decode cX1_readOperand 12 = .ok (.ireturn, 1) := by decide +kernel
theorem dX1_readOperand_13 : decode cX1_readOperand 13 = .ok (.aload_n 0, 1) := by decide +kernel
theorem dX1_readOperand_14 : decode cX1_readOperand 14 = .ok (.getfield 18, 3) := by decide +kernel
theorem dX1_readOperand_17 : decode cX1_readOperand 17 = .ok (.aload_n 0, 1) := by decide +kernel
theorem dX1_readOperand_18 : decode cX1_readOperand 18 = .ok (.getfield 41, 3) := by decide +kernel
theorem dX1_readOperand_21 : decode cX1_readOperand 21 = .ok (.iaload, 1) := by decide +kernel
theorem dX1_readOperand_22 : decode cX1_readOperand 22 = .ok (.istore_n 2, 1) := by decide +kernel
theorem dX1_readOperand_23 : decode cX1_readOperand 23 = .ok (.iload_n 2, 1) := by decide +kernel
theorem dX1_readOperand_24 : decode cX1_readOperand 24 = .ok (.invokestatic 63, 3) := by decide +kernel
theorem dX1_readOperand_27 : decode cX1_readOperand 27 = .ok (.ifCond .eq 9, 3) := by decide +kernel
theorem dX1_readOperand_30 : decode cX1_readOperand 30 = .ok (.aload_n 0, 1) := by decide +kernel
theorem dX1_readOperand_31 : decode cX1_readOperand 31 = .ok (.invokevirtual 66, 3) := by decide +kernel
theorem dX1_readOperand_34 : decode cX1_readOperand 34 = .ok (.iconst 1, 1) := by decide +kernel
theorem dX1_readOperand_35 : decode cX1_readOperand 35 = .ok (.ireturn, 1) := by decide +kernel
theorem dX1_readOperand_36 : decode cX1_readOperand 36 = .ok (.aload_n 0, 1) := by decide +kernel
theorem dX1_readOperand_37 : decode cX1_readOperand 37 = .ok (.getfield 24, 3) := by decide +kernel
theorem dX1_readOperand_40 : decode cX1_readOperand 40 = .ok (.iload_n 2, 1) := by decide +kernel
theorem dX1_readOperand_41 : decode cX1_readOperand 41 = .ok (.i2c, 1) := by decide +kernel
theorem dX1_readOperand_42 : decode cX1_readOperand 42 = .ok (.invokevirtual 69, 3) := by decide +kernel
theorem dX1_readOperand_45 : decode cX1_readOperand 45 = .ok (.istore_n 3, 1) := by decide +kernel
theorem dX1_readOperand_46 : decode cX1_readOperand 46 = .ok (.iload_n 3, 1) := by decide +kernel
theorem dX1_readOperand_47 : decode cX1_readOperand 47 = .ok (.ifCond .lt 24, 3) := by decide +kernel
theorem dX1_readOperand_50 : decode cX1_readOperand 50 = .ok (.aload_n 0, 1) := by decide +kernel
theorem dX1_readOperand_51 : decode cX1_readOperand 51 = .ok (.dup, 1) := by decide +kernel
theorem dX1_readOperand_52 : decode cX1_readOperand 52 = .ok (.getfield 41, 3) := by decide +kernel
theorem dX1_readOperand_55 : decode cX1_readOperand 55 = .ok (.iconst 1, 1) := by decide +kernel
theorem dX1_readOperand_56 : decode cX1_readOperand 56 = .ok (.iadd, 1) := by decide +kernel
theorem dX1_readOperand_57 : decode cX1_readOperand 57 = .ok (.putfield 41, 3) := by decide +kernel
theorem dX1_readOperand_60 : decode cX1_readOperand 60 = .ok (.aload_n 0, 1) := by decide +kernel
theorem dX1_readOperand_61 : decode cX1_readOperand 61 = .ok (.getfield 12, 3) := by decide +kernel
theorem dX1_readOperand_64 : decode cX1_readOperand 64 = .ok (.iconst 2, 1) := by decide +kernel
theorem dX1_readOperand_65 : decode cX1_readOperand 65 = .ok (.iload_n 3, 1) := by decide +kernel
theorem dX1_readOperand_66 : decode cX1_readOperand 66 = .ok (.invokevirtual 59, 3) := by decide +kernel
theorem dX1_readOperand_69 : decode cX1_readOperand 69 = .ok (.iconst 1, 1) := by decide +kernel
theorem dX1_readOperand_70 : decode cX1_readOperand 70 = .ok (.ireturn, 1) := by decide +kernel
theorem dX1_readOperand_71 : decode cX1_readOperand 71 = .ok (.iload_n 1, 1) := by decide +kernel
theorem dX1_readOperand_72 : decode cX1_readOperand 72 = .ok (.iconst 5, 1) := by decide +kernel
theorem dX1_readOperand_73 : decode cX1_readOperand 73 = .ok (.if_icmp .lt 5, 3) := by decide +kernel
theorem dX1_readOperand_76 : decode cX1_readOperand 76 = .ok (.iconst 0, 1) := by decide +kernel
theorem dX1_readOperand_77 : decode cX1_readOperand 77 = .ok (.ireturn, 1) := by decide +kernel
theorem dX1_readOperand_78 : decode cX1_readOperand 78 = .ok (.iload_n 2, 1) := by decide +kernel
theorem dX1_readOperand_79 : decode cX1_readOperand 79 = .ok (.bipush 33, 2) := by decide +kernel
theorem dX1_readOperand_81 : decode cX1_readOperand 81 = .ok (.if_icmp .ne 13, 3) := by decide +kernel
theorem dX1_readOperand_84 : decode cX1_readOperand 84 = .ok (.aload_n 0, 1) := by decide +kernel
theorem dX1_readOperand_85 : decode cX1_readOperand 85 = .ok (.iload_n 1, 1) := by decide +kernel
theorem dX1_readOperand_86 : decode cX1_readOperand 86 = .ok (.iconst 1, 1) := by decide +kernel
theorem dX1_readOperand_87 : decode cX1_readOperand 87 = .ok (.iadd, 1) := by decide +kernel
theorem dX1_readOperand_88 : decode cX1_readOperand 88 = .ok (.invokevirtual 74, 3) := by decide +kernel
theorem dX1_readOperand_91 : decode cX1_readOperand 91 = .ok (.goto 24, 3) := by decide +kernel
theorem dX1_readOperand_94 : decode cX1_readOperand 94 = .ok (.iload_n 2, 1) := by decide +kernel
theorem dX1_readOperand_95 : decode cX1_readOperand 95 = .ok (.bipush 40, 2) := by decide +kernel
theorem dX1_readOperand_97 : decode cX1_readOperand 97 = .ok (.if_icmp .ne 17, 3) := by decide +kernel
theorem dX1_readOperand_100 : decode cX1_readOperand 100 = .ok (.aload_n 0, 1) := by decide +kernel
theorem dX1_readOperand_101 : decode cX1_readOperand 101 = .ok (.iload_n 1, 1) := by decide +kernel
theorem dX1_readOperand_102 : decode cX1_readOperand 102 = .ok (.iconst 1, 1) := by decide +kernel
theorem dX1_readOperand_103 : decode cX1_readOperand 103 = .ok (.iadd, 1) := by decide +kernel
theorem dX1_readOperand_104 : decode cX1_readOperand 104 = .ok (.invokevirtual 77, 3) := by decide +kernel
theorem dX1_readOperand_107 : decode cX1_readOperand 107 = .ok (.ifCond .eq 7, 3) := by decide +kernel
theorem dX1_readOperand_110 : decode cX1_readOperand 110 = .ok (.iconst 1, 1) := by decide +kernel
theorem dX1_readOperand_111 : decode cX1_readOperand 111 = .ok (.goto 4, 3) := by decide +kernel
theorem dX1_readOperand_114 : decode cX1_readOperand 114 = .ok (.iconst 0, 1) := by decide +kernel
theorem dX1_readOperand_115 : decode cX1_readOperand 115 = .ok (.ireturn, 1) := by decide +kernel
theorem dX1_readNumber_0 : decode cX1_readNumber 0 = .ok (.iconst 0, 1) := by decide +kernel
theorem dX1_readNumber_1 : decode cX1_readNumber 1 = .ok (.istore_n 1, 1) := by decide +kernel
theorem dX1_readNumber_2 : decode cX1_readNumber 2 = .ok (.iconst 0, 1) := by decide +kernel
theorem dX1_readNumber_3 : decode cX1_readNumber 3 = .ok (.istore_n 2, 1) := by decide +kernel
theorem dX1_readNumber_4 : decode cX1_readNumber 4 = .ok (.iload_n 2, 1) := by decide +kernel
theorem dX1_readNumber_5 : decode cX1_readNumber 5 = .ok (.iconst 4, 1) := by decide +kernel
theorem dX1_readNumber_6 : decode cX1_readNumber 6 = .ok (.if_icmp .ge 63, 3) := by decide +kernel
theorem dX1_readNumber_9 : decode cX1_readNumber 9 = .ok (.aload_n 0, 1) := by decide +kernel
theorem dX1_readNumber_10 : decode cX1_readNumber 10 = .ok (.getfield 41, 3) := by decide +kernel
theorem dX1_readNumber_13 : decode cX1_readNumber 13 = .ok (.aload_n 0, 1) := by decide +kernel
theorem dX1_readNumber_14 : decode cX1_readNumber 14 = .ok (.getfield 37, 3) := by decide +kernel
theorem dX1_readNumber_17 : decode cX1_readNumber 17 = .ok (.if_icmp .ge 52, 3) := by decide +kernel
theorem dX1_readNumber_20 : decode cX1_readNumber 20 = .ok (.aload_n 0, 1) := by decide +kernel
theorem dX1_readNumber_21 : decode cX1_readNumber 21 = .ok (.getfield 18, 3) := by decide +kernel
theorem dX1_readNumber_24 : decode cX1_readNumber 24 = .ok (.aload_n 0, 1) := by decide +kernel
theorem dX1_readNumber_25 : decode cX1_readNumber 25 = .ok (.getfield 41, 3) := by decide +kernel
theorem dX1_readNumber_28 : decode cX1_readNumber 28 = .ok (.iaload, 1) := by decide +kernel
theorem dX1_readNumber_29 : decode cX1_readNumber 29 = .ok (.invokestatic 63, 3) := by decide +kernel
theorem dX1_readNumber_32 : decode cX1_readNumber 32 = .ok (.ifCond .eq 37, 3) := by decide +kernel
theorem dX1_readNumber_35 : decode cX1_readNumber 35 = .ok (.bipush 10, 2) := by decide +kernel
theorem dX1_readNumber_37 : decode cX1_readNumber 37 = .ok (.iload_n 1, 1) := by decide +kernel
theorem dX1_readNumber_38 : decode cX1_readNumber 38 = .ok (.imul, 1) := by decide +kernel
theorem dX1_readNumber_39 : decode cX1_readNumber 39 = .ok (.aload_n 0, 1) := by decide +kernel
theorem dX1_readNumber_40 : decode cX1_readNumber 40 = .ok (.getfield 18, 3) := by decide +kernel
theorem dX1_readNumber_43 : decode cX1_readNumber 43 = .ok (.aload_n 0, 1) := by decide +kernel
theorem dX1_readNumber_44 : decode cX1_readNumber 44 = .ok (.getfield 41, 3) := by decide +kernel
theorem dX1_readNumber_47 : decode cX1_readNumber 47 = .ok (.iaload, 1) := by decide +kernel
theorem dX1_readNumber_48 : decode cX1_readNumber 48 = .ok (.iadd, 1) := by decide +kernel
theorem dX1_readNumber_49 : decode cX1_readNumber 49 = .ok (.bipush 48, 2) := by decide +kernel
theorem dX1_readNumber_51 : decode cX1_readNumber 51 = .ok (.isub, 1) := by decide +kernel
theorem dX1_readNumber_52 : decode cX1_readNumber 52 = .ok (.istore_n 1, 1) := by decide +kernel
theorem dX1_readNumber_53 : decode cX1_readNumber 53 = .ok (.aload_n 0, 1) := by decide +kernel
theorem dX1_readNumber_54 : decode cX1_readNumber 54 = .ok (.dup, 1) := by decide +kernel
theorem dX1_readNumber_55 : decode cX1_readNumber 55 = .ok (.getfield 41, 3) := by decide +kernel
theorem dX1_readNumber_58 : decode cX1_readNumber 58 = .ok (.iconst 1, 1) := by decide +kernel
theorem dX1_readNumber_59 : decode cX1_readNumber 59 = .ok (.iadd, 1) := by decide +kernel
theorem dX1_readNumber_60 : decode cX1_readNumber 60 = .ok (.putfield 41, 3) := by decide +kernel
theorem dX1_readNumber_63 : decode cX1_readNumber 63 = .ok (.iinc 2 1, 3) := by decide +kernel
theorem dX1_readNumber_66 : decode cX1_readNumber 66 = .ok (.goto (-62), 3) := by decide +kernel
theorem dX1_readNumber_69 : decode cX1_readNumber 69 = .ok (.aload_n 0, 1) := by decide +kernel
theorem dX1_readNumber_70 : decode cX1_readNumber 70 = .ok (.getfield 12, 3) := by decide +kernel
theorem dX1_readNumber_73 : decode cX1_readNumber 73 = .ok (.iconst 1, 1) := by decide +kernel
theorem dX1_readNumber_74 : decode cX1_readNumber 74 = .ok (.iload_n 1, 1) := by decide +kernel
theorem dX1_readNumber_75 : decode cX1_readNumber 75 = .ok (.invokevirtual 59, 3) := by decide +kernel
theorem dX1_readNumber_78 : decode cX1_readNumber 78 = .ok (.return_, 1) := by decide +kernel
theorem dX1_readNot_0 : decode cX1_readNot 0 = .ok (.aload_n 0, 1) := by decide +kernel
theorem dX1_readNot_1 : decode cX1_readNot 1 = .ok (.dup, 1) := by decide +kernel
theorem dX1_readNot_2 : decode cX1_readNot 2 = .ok (.getfield 41, 3) := by decide +kernel
theorem dX1_readNot_5 : decode cX1_readNot 5 = .ok (.iconst 1, 1) := by decide +kernel
theorem dX1_readNot_6 : decode cX1_readNot 6 = .ok (.iadd, 1) := by decide +kernel
theorem dX1_readNot_7 : decode cX1_readNot 7 = .ok (.putfield 41, 3) := by decide +kernel
theorem dX1_readNot_10 : decode cX1_readNot 10 = .ok (.aload_n 0, 1) := by decide +kernel
theorem dX1_readNot_11 : decode cX1_readNot 11 = .ok (.iload_n 1, 1) := by decide +kernel
theorem dX1_readNot_12 : decode cX1_readNot 12 = .ok (.invokevirtual 51, 3) := by decide +kernel
theorem dX1_readNot_15 : decode cX1_readNot 15 = .ok (.ifCond .ne 5, 3) := by decide +kernel
theorem dX1_readNot_18 : decode cX1_readNot 18 = .ok (.iconst 0, 1) := by decide +kernel
theorem dX1_readNot_19 : decode cX1_readNot 19 = .ok (.ireturn, 1) := by decide +kernel
theorem dX1_readNot_20 : decode cX1_readNot 20 = .ok (.aload_n 0, 1) := by decide +kernel
theorem dX1_readNot_21 : decode cX1_readNot 21 = .ok (.getfield 12, 3) := by decide +kernel
theorem dX1_readNot_24 : decode cX1_readNot 24 = .ok (.bipush 33, 2) := by decide +kernel
theorem dX1_readNot_26 : decode cX1_readNot 26 = .ok (.iconst 0, 1) := by decide +kernel
theorem dX1_readNot_27 : decode cX1_readNot 27 = .ok (.invokevirtual 59, 3) := by decide +kernel
theorem dX1_readNot_30 : decode cX1_readNot 30 = .ok (.iconst 1, 1) := by decide +kernel
theorem dX1_readNot_31 : decode cX1_readNot 31 = .ok (.ireturn, 1) := by decide +kernel
theorem dX1_readBracket_0 : decode cX1_readBracket 0 = .ok (.aload_n 0, 1) := by decide +kernel
theorem dX1_readBracket_1 : decode cX1_readBracket 1 = .ok (.dup, 1) := by decide +kernel
theorem dX1_readBracket_2 : decode cX1_readBracket 2 = .ok (.getfield 41, 3) := by decide +kernel
theorem dX1_readBracket_5 : decode cX1_readBracket 5 = .ok (.iconst 1, 1) := by decide +kernel
theorem dX1_readBracket_6 : decode cX1_readBracket 6 = .ok (.iadd, 1) := by decide +kernel
theorem dX1_readBracket_7 : decode cX1_readBracket 7 = .ok (.putfield 41, 3) := by decide +kernel
theorem dX1_readBracket_10 : decode cX1_readBracket 10 = .ok (.aload_n 0, 1) := by decide +kernel
theorem dX1_readBracket_11 : decode cX1_readBracket 11 = .ok (.iconst 0, 1) := by decide +kernel
theorem dX1_readBracket_12 : decode cX1_readBracket 12 = .ok (.iload_n 1, 1) := by decide +kernel
theorem dX1_readBracket_13 : decode cX1_readBracket 13 = .ok (.invokevirtual 47, 3) := by decide +kernel
theorem dX1_readBracket_16 : decode cX1_readBracket 16 = .ok (.ifCond .eq 28, 3) := by decide +kernel
theorem dX1_readBracket_19 : decode cX1_readBracket 19 = .ok (.aload_n 0, 1) := by decide +kernel
theorem dX1_readBracket_20 : decode cX1_readBracket 20 = .ok (.getfield 41, 3) := by decide +kernel
theorem dX1_readBracket_23 : decode cX1_readBracket 23 = .ok (.aload_n 0, 1) := by decide +kernel
theorem dX1_readBracket_24 : decode cX1_readBracket 24 = .ok (.getfield 37, 3) := by decide +kernel
theorem dX1_readBracket_27 : decode cX1_readBracket 27 = .ok (.if_icmp .ge 17, 3) := by decide +kernel
theorem dX1_readBracket_30 : decode cX1_readBracket 30 = .ok (.aload_n 0, 1) := by decide +kernel
theorem dX1_readBracket_31 : decode cX1_readBracket 31 = .ok (.getfield 18, 3) := by decide +kernel
theorem dX1_readBracket_34 : decode cX1_readBracket 34 = .ok (.aload_n 0, 1) := by decide +kernel
theorem dX1_readBracket_35 : decode cX1_readBracket 35 = .ok (.getfield 41, 3) := by decide +kernel
theorem dX1_readBracket_38 : decode cX1_readBracket 38 = .ok (.iaload, 1) := by decide +kernel
theorem dX1_readBracket_39 : decode cX1_readBracket 39 = .ok (.bipush 41, 2) := by decide +kernel
theorem dX1_readBracket_41 : decode cX1_readBracket 41 = .ok (.if_icmp .eq 5, 3) := by decide +kernel
theorem dX1_readBracket_44 : decode cX1_readBracket 44 = .ok (.iconst 0, 1) := by decide +kernel
theorem dX1_readBracket_45 : decode cX1_readBracket 45 = .ok (.ireturn, 1) := by decide +kernel
theorem dX1_readBracket_46 : decode cX1_readBracket 46 = .ok (.aload_n 0, 1) := by decide +kernel
theorem dX1_readBracket_47 : decode cX1_readBracket 47 = .ok (.dup, 1) := by decide +kernel
theorem dX1_readBracket_48 : decode cX1_readBracket 48 = .ok (.getfield 41, 3) := by decide +kernel
theorem dX1_readBracket_51 : decode cX1_readBracket 51 = .ok (.iconst 1, 1) := by decide +kernel
theorem dX1_readBracket_52 : decode cX1_readBracket 52 = .ok (.iadd, 1) := by decide +kernel
theorem dX1_readBracket_53 : decode cX1_readBracket 53 = .ok (.putfield 41, 3) := by decide +kernel
theorem dX1_readBracket_56 : decode cX1_readBracket 56 = .ok (.iconst 1, 1) := by decide +kernel
theorem dX1_readBracket_57 : decode cX1_readBracket 57 = .ok (.ireturn, 1) := by decide +kernel
theorem dX1_isDigit_0 : decode cX1_isDigit 0 = .ok (.iload_n 0, 1) := by decide +kernel
theorem dX1_isDigit_1 : decode cX1_isDigit 1 = .ok (.bipush 48, 2) := by decide +kernel
theorem dX1_isDigit_3 : decode cX1_isDigit 3 = .ok (.if_icmp .lt 13, 3) := by decide +kernel
theorem dX1_isDigit_6 : decode cX1_isDigit 6 = .ok (.iload_n 0, 1) := by decide +kernel
theorem dX1_isDigit_7 : decode cX1_isDigit 7 = .ok (.bipush 57, 2) := by decide +kernel
theorem dX1_isDigit_9 : decode cX1_isDigit 9 = .ok (.if_icmp .gt 7, 3) := by decide +kernel
theorem dX1_isDigit_12 : decode cX1_isDigit 12 = .ok (.iconst 1, 1) := by decide +kernel
theorem dX1_isDigit_13 : decode cX1_isDigit 13 = .ok (.goto 4, 3) := by decide +kernel
theorem dX1_isDigit_16 : decode cX1_isDigit 16 = .ok (.iconst 0, 1) := by decide +kernel
theorem dX1_isDigit_17 : decode cX1_isDigit 17 = .ok (.ireturn, 1) := by decide +kernel
theorem dX2_init_0 : decode cX2_init 0 = .ok (.aload_n 0, 1) := by decide +kernel
theorem dX2_init_1 : decode cX2_init 1 = .ok (.invokespecial 3, 3) := by decide +kernel
theorem dX2_init_4 : decode cX2_init 4 = .ok (.aload_n 0, 1) := by decide +kernel
theorem dX2_init_5 : decode cX2_init 5 = .ok (.bipush 24, 2) := by decide +kernel
theorem dX2_init_7 : decode cX2_init 7 = .ok (.newarray .int, 2) := by decide +kernel
theorem dX2_init_9 : decode cX2_init 9 = .ok (.putfield 9, 3) := by decide +kernel
theorem dX2_init_12 : decode cX2_init 12 = .ok (.return_, 1) := by decide +kernel
theorem dX2_begin_0 : decode cX2_begin 0 = .ok (.aload_n 0, 1) := by decide +kernel
theorem dX2_begin_1 : decode cX2_begin 1 = .ok (.iload_n 1, 1) := by decide +kernel
theorem dX2_begin_2 : decode cX2_begin 2 = .ok (.putfield 15, 3) := by decide +kernel
theorem dX2_begin_5 : decode cX2_begin 5 = .ok (.aload_n 0, 1) := by decide +kernel
theorem dX2_begin_6 : decode cX2_begin 6 = .ok (.iload_n 2, 1) := by decide +kernel
theorem dX2_begin_7 : decode cX2_begin 7 = .ok (.putfield 19, 3) := by decide +kernel
theorem dX2_begin_10 : decode cX2_begin 10 = .ok (.iconst 0, 1) := by decide +kernel
theorem dX2_begin_11 : decode cX2_begin 11 = .ok (.istore_n 3, 1) := by decide +kernel
theorem dX2_begin_12 : decode cX2_begin 12 = .ok (.iload_n 3, 1) := by decide +kernel
theorem dX2_begin_13 : decode cX2_begin 13 = .ok (.bipush 24, 2) := by decide +kernel
theorem dX2_begin_15 : decode cX2_begin 15 = .ok (.if_icmp .ge 16, 3) := by decide +kernel
theorem dX2_begin_18 : decode cX2_begin 18 = .ok (.aload_n 0, 1) := by decide +kernel
theorem dX2_begin_19 : decode cX2_begin 19 = .ok (.getfield 9, 3) := by decide +kernel
theorem dX2_begin_22 : decode cX2_begin 22 = .ok (.iload_n 3, 1) := by decide +kernel
theorem dX2_begin_23 : decode cX2_begin 23 = .ok (.iconst 0, 1) := by decide +kernel
theorem dX2_begin_24 : decode cX2_begin 24 = .ok (.iastore, 1) := by decide +kernel
theorem dX2_begin_25 : decode cX2_begin 25 = .ok (.iinc 3 1, 3) := by decide +kernel
theorem dX2_begin_28 : decode cX2_begin 28 = .ok (.goto (-16), 3) := by decide +kernel
theorem dX2_begin_31 : decode cX2_begin 31 = .ok (.return_, 1) := by decide +kernel
theorem dX2_isMissing_0 : decode cX2_isMissing 0 = .ok (.aload_n 0, 1) := by decide +kernel
theorem dX2_isMissing_1 : decode cX2_isMissing 1 = .ok (.getfield 15, 3) := by decide +kernel
theorem dX2_isMissing_4 : decode cX2_isMissing 4 = .ok (.ifCond .ne 7, 3) := by decide +kernel
theorem dX2_isMissing_7 : decode cX2_isMissing 7 = .ok (.iconst 1, 1) := by decide +kernel
theorem dX2_isMissing_8 : decode cX2_isMissing 8 = .ok (.goto 4, 3) := by decide +kernel
theorem dX2_isMissing_11 : decode cX2_isMissing 11 = .ok (.iconst 0, 1) := by decide +kernel
theorem dX2_isMissing_12 : decode cX2_isMissing 12 = .ok (.ireturn, 1) := by decide +kernel
theorem dX2_write_0 : decode cX2_write 0 = .ok (.iload_n 1, 1) := by decide +kernel
theorem dX2_write_1 : decode cX2_write 1 = .ok (.iconst 0, 1) := by decide +kernel
theorem dX2_write_2 : decode cX2_write 2 = .ok (.bipush 23, 2) := by decide +kernel
theorem dX2_write_4 : decode cX2_write 4 = .ok (.invokestatic 22, 3) := by decide +kernel
theorem dX2_write_7 : decode cX2_write 7 = .ok (.ifCond .eq 38, 3) := by decide +kernel
theorem dX2_write_10 : decode cX2_write 10 = .ok (.aload_n 0, 1) := by decide +kernel
theorem dX2_write_11 : decode cX2_write 11 = .ok (.getfield 9, 3) := by decide +kernel
theorem dX2_write_14 : decode cX2_write 14 = .ok (.iload_n 1, 1) := by decide +kernel
theorem dX2_write_15 : decode cX2_write 15 = .ok (.aload_n 0, 1) := by decide +kernel
theorem dX2_write_16 : decode cX2_write 16 = .ok (.getfield 15, 3) := by decide +kernel
theorem dX2_write_19 : decode cX2_write 19 = .ok (.bipush 8, 2) := by decide +kernel
theorem dX2_write_21 : decode cX2_write 21 = .ok (.if_icmp .ne 8, 3) := by decide +kernel
theorem dX2_write_24 : decode cX2_write 24 = .ok (.iload_n 2, 1) := by decide +kernel
theorem dX2_write_25 : decode cX2_write 25 = .ok (.i2b, 1) := by decide +kernel
theorem dX2_write_26 : decode cX2_write 26 = .ok (.goto 18, 3) := by decide +kernel
theorem dX2_write_29 : decode cX2_write 29 = .ok (.aload_n 0, 1) := by decide +kernel
theorem dX2_write_30 : decode cX2_write 30 = .ok (.getfield 15, 3) := by decide +kernel
theorem dX2_write_33 : decode cX2_write 33 = .ok (.bipush 16, 2) := by decide +kernel
theorem dX2_write_35 : decode cX2_write 35 = .ok (.if_icmp .ne 8, 3) := by decide +kernel
theorem dX2_write_38 : decode cX2_write 38 = .ok (.iload_n 2, 1) := by decide +kernel
theorem dX2_write_39 : decode cX2_write 39 = .ok (.i2s, 1) := by decide +kernel
theorem dX2_write_40 : decode cX2_write 40 = .ok (.goto 4, 3) := by decide +kernel
theorem dX2_write_43 : decode cX2_write 43 = .ok (.iload_n 2, 1) := by decide +kernel
theorem dX2_write_44 : decode cX2_write 44 = .ok (.iastore, 1) := by decide +kernel
theorem dX2_write_45 : decode cX2_write 45 = .ok (.return_, 1) := by decide +kernel
theorem dX2_hasRow_0 : decode cX2_hasRow 0 = .ok (.iload_n 1, 1) := by decide +kernel
theorem dX2_hasRow_1 : decode cX2_hasRow 1 = .ok (.ifCond .lt 29, 3) := by decide +kernel
theorem dX2_hasRow_4 : decode cX2_hasRow 4 = .ok (.iload_n 2, 1) := by decide +kernel
theorem dX2_hasRow_5 : decode cX2_hasRow 5 = .ok (.ifCond .lt 25, 3) := by decide +kernel
theorem dX2_hasRow_8 : decode cX2_hasRow 8 = .ok (.iload_n 2, 1) := by decide +kernel
theorem dX2_hasRow_9 : decode cX2_hasRow 9 = .ok (.aload_n 0, 1) := by decide +kernel
theorem dX2_hasRow_10 : decode cX2_hasRow 10 = .ok (.getfield 19, 3) := by decide +kernel
theorem dX2_hasRow_13 : decode cX2_hasRow 13 = .ok (.if_icmp .gt 17, 3) := by decide +kernel
theorem dX2_hasRow_16 : decode cX2_hasRow 16 = .ok (.iload_n 1, 1) := by decide +kernel
theorem dX2_hasRow_17 : decode cX2_hasRow 17 = .ok (.aload_n 0, 1) := by decide +kernel
theorem dX2_hasRow_18 : decode cX2_hasRow 18 = .ok (.getfield 19, 3) := by decide +kernel
theorem dX2_hasRow_21 : decode cX2_hasRow 21 = .ok (.iload_n 2, 1) := by decide +kernel
theorem dX2_hasRow_22 : decode cX2_hasRow 22 = .ok (.isub, 1) := by decide +kernel
theorem dX2_hasRow_23 : decode cX2_hasRow 23 = .ok (.if_icmp .gt 7, 3) := by decide +kernel
theorem dX2_hasRow_26 : decode cX2_hasRow 26 = .ok (.iconst 1, 1) := by decide +kernel
theorem dX2_hasRow_27 : decode cX2_hasRow 27 = .ok (.goto 4, 3) := by decide +kernel
theorem dX2_hasRow_30 : decode cX2_hasRow 30 = .ok (.iconst 0, 1) := by decide +kernel
theorem dX2_hasRow_31 : decode cX2_hasRow 31 = .ok (.ireturn, 1) := by decide +kernel
theorem dX3_init_0 : decode cX3_init 0 = .ok (.aload_n 0, 1) := by decide +kernel
theorem dX3_init_1 : decode cX3_init 1 = .ok (.invokespecial 3, 3) := by decide +kernel
theorem dX3_init_4 : decode cX3_init 4 = .ok (.aload_n 0, 1) := by decide +kernel
theorem dX3_init_5 : decode cX3_init 5 = .ok (.bipush 60, 2) := by decide +kernel
theorem dX3_init_7 : decode cX3_init 7 = .ok (.newarray .int, 2) := by decide +kernel
theorem dX3_init_9 : decode cX3_init 9 = .ok (.putfield 9, 3) := by decide +kernel
theorem dX3_init_12 : decode cX3_init 12 = .ok (.aload_n 0, 1) := by decide +kernel
theorem dX3_init_13 : decode cX3_init 13 = .ok (.bipush 60, 2) := by decide +kernel
theorem dX3_init_15 : decode cX3_init 15 = .ok (.newarray .int, 2) := by decide +kernel
theorem dX3_init_17 : decode cX3_init 17 = .ok (.putfield 15, 3) := by decide +kernel
theorem dX3_init_20 : decode cX3_init 20 = .ok (.aload_n 0, 1) := by decide +kernel
theorem dX3_init_21 : decode cX3_init 21 = .ok (.bipush 60, 2) := by decide +kernel
theorem dX3_init_23 : decode cX3_init 23 = .ok (.newarray .int, 2) := by decide +kernel
theorem dX3_init_25 : decode cX3_init 25 = .ok (.putfield 18, 3) := by decide +kernel
theorem dX3_init_28 : decode cX3_init 28 = .ok (.return_, 1) := by decide +kernel
theorem dX3_clear_0 : decode cX3_clear 0 = .ok (.aload_n 0, 1) := by decide +kernel
theorem dX3_clear_1 : decode cX3_clear 1 = .ok (.iconst 0, 1) := by decide +kernel
theorem dX3_clear_2 : decode cX3_clear 2 = .ok (.putfield 21, 3) := by decide +kernel
theorem dX3_clear_5 : decode cX3_clear 5 = .ok (.return_, 1) := by decide +kernel
theorem dX3_isThere_0 : decode cX3_isThere 0 = .ok (.aload_n 0, 1) := by decide +kernel
theorem dX3_isThere_1 : decode cX3_isThere 1 = .ok (.getfield 21, 3) := by decide +kernel
theorem dX3_isThere_4 : decode cX3_isThere 4 = .ok (.ifCond .le 7, 3) := by decide +kernel
theorem dX3_isThere_7 : decode cX3_isThere 7 = .ok (.iconst 1, 1) := by decide +kernel
theorem dX3_isThere_8 : decode cX3_isThere 8 = .ok (.goto 4, 3) := by decide +kernel
theorem dX3_isThere_11 : decode cX3_isThere 11 = .ok (.iconst 0, 1) := by decide +kernel
theorem dX3_isThere_12 : decode cX3_isThere 12 = .ok (.ireturn, 1) := by decide +kernel
theorem dX3_copyFrom_0 : decode cX3_copyFrom 0 = .ok (.aload_n 1, 1) := by decide +kernel
theorem dX3_copyFrom_1 : decode cX3_copyFrom 1 = .ok (.getfield 9, 3) := by decide +kernel
theorem dX3_copyFrom_4 : decode cX3_copyFrom 4 = .ok (.iconst 0, 1) := by decide +kernel
theorem dX3_copyFrom_5 : decode cX3_copyFrom 5 = .ok (.aload_n 0, 1) := by decide +kernel
theorem dX3_copyFrom_6 : decode cX3_copyFrom 6 = .ok (.getfield 9, 3) := by decide +kernel
theorem dX3_copyFrom_9 : decode cX3_copyFrom 9 = .ok (.iconst 0, 1) := by decide +kernel
theorem dX3_copyFrom_10 : decode cX3_copyFrom 10 = .ok (.aload_n 0, 1) := by decide +kernel
theorem dX3_copyFrom_11 : decode cX3_copyFrom 11 = .ok (.getfield 9, 3) := by decide +kernel
theorem dX3_copyFrom_14 : decode cX3_copyFrom 14 = .ok (.arraylength, 1) := by decide +kernel
theorem dX3_copyFrom_15 : decode cX3_copyFrom 15 = .ok (.invokestatic 25, 3) := by decide +kernel
theorem dX3_copyFrom_18 : decode cX3_copyFrom 18 = .ok (.aload_n 1, 1) := by decide +kernel
theorem dX3_copyFrom_19 : decode cX3_copyFrom 19 = .ok (.getfield 15, 3) := by decide +kernel
theorem dX3_copyFrom_22 : decode cX3_copyFrom 22 = .ok (.iconst 0, 1) := by decide +kernel
theorem dX3_copyFrom_23 : decode cX3_copyFrom 23 = .ok (.aload_n 0, 1) := by decide +kernel
theorem dX3_copyFrom_24 : decode cX3_copyFrom 24 = .ok (.getfield 15, 3) := by decide +kernel
theorem dX3_copyFrom_27 : decode cX3_copyFrom 27 = .ok (.iconst 0, 1) := by decide +kernel
theorem dX3_copyFrom_28 : decode cX3_copyFrom 28 = .ok (.aload_n 0, 1) := by decide +kernel
theorem dX3_copyFrom_29 : decode cX3_copyFrom 29 = .ok (.getfield 15, 3) := by decide +kernel
theorem dX3_copyFrom_32 : decode cX3_copyFrom 32 = .ok (.arraylength, 1) := by decide +kernel
theorem dX3_copyFrom_33 : decode cX3_copyFrom 33 = .ok (.invokestatic 25, 3) := by decide +kernel
theorem dX3_copyFrom_36 : decode cX3_copyFrom 36 = .ok (.aload_n 0, 1) := by decide +kernel
theorem dX3_copyFrom_37 : decode cX3_copyFrom 37 = .ok (.aload_n 1, 1) := by decide +kernel
theorem dX3_copyFrom_38 : decode cX3_copyFrom 38 = .ok (.getfield 21, 3) := by decide +kernel
theorem dX3_copyFrom_41 : decode cX3_copyFrom 41 = .ok (.putfield 21, 3) := by decide +kernel
theorem dX3_copyFrom_44 : decode cX3_copyFrom 44 = .ok (.return_, 1) := by decide +kernel
theorem dX3_add_0 : decode cX3_add 0 = .ok (.aload_n 0, 1) := by decide +kernel
theorem dX3_add_1 : decode cX3_add 1 = .ok (.getfield 21, 3) := by decide +kernel
theorem dX3_add_4 : decode cX3_add 4 = .ok (.bipush 60, 2) := by decide +kernel
theorem dX3_add_6 : decode cX3_add 6 = .ok (.if_icmp .ge 33, 3) := by decide +kernel
theorem dX3_add_9 : decode cX3_add 9 = .ok (.aload_n 0, 1) := by decide +kernel
theorem dX3_add_10 : decode cX3_add 10 = .ok (.getfield 9, 3) := by decide +kernel
theorem dX3_add_13 : decode cX3_add 13 = .ok (.aload_n 0, 1) := by decide +kernel
theorem dX3_add_14 : decode cX3_add 14 = .ok (.getfield 21, 3) := by decide +kernel
theorem dX3_add_17 : decode cX3_add 17 = .ok (.iload_n 1, 1) := by decide +kernel
theorem dX3_add_18 : decode cX3_add 18 = .ok (.iastore, 1) := by decide +kernel
theorem dX3_add_19 : decode cX3_add 19 = .ok (.aload_n 0, 1) := by decide +kernel
theorem dX3_add_20 : decode cX3_add 20 = .ok (.getfield 15, 3) := by decide +kernel
theorem dX3_add_23 : decode cX3_add 23 = .ok (.aload_n 0, 1) := by decide +kernel
theorem dX3_add_24 : decode cX3_add 24 = .ok (.getfield 21, 3) := by decide +kernel
theorem dX3_add_27 : decode cX3_add 27 = .ok (.iload_n 2, 1) := by decide +kernel
theorem dX3_add_28 : decode cX3_add 28 = .ok (.iastore, 1) := by decide +kernel
theorem dX3_add_29 : decode cX3_add 29 = .ok (.aload_n 0, 1) := by decide +kernel
theorem dX3_add_30 : decode cX3_add 30 = .ok (.dup, 1) := by decide +kernel
theorem dX3_add_31 : decode cX3_add 31 = .ok (.getfield 21, 3) := by decide +kernel
theorem dX3_add_34 : decode cX3_add 34 = .ok (.iconst 1, 1) := by decide +kernel
theorem dX3_add_35 : decode cX3_add 35 = .ok (.iadd, 1) := by decide +kernel
theorem dX3_add_36 : decode cX3_add 36 = .ok (.putfield 21, 3) := by decide +kernel
theorem dX3_add_39 : decode cX3_add 39 = .ok (.return_, 1) := by decide +kernel
theorem dX3_workedOut_0 : decode cX3_workedOut 0 = .ok (.iconst 0, 1) := by decide +kernel
theorem dX3_workedOut_1 : decode cX3_workedOut 1 = .ok (.istore 4, 2) := by decide +kernel
theorem dX3_workedOut_3 : decode cX3_workedOut 3 = .ok (.iconst 0, 1) := by decide +kernel
theorem dX3_workedOut_4 : decode cX3_workedOut 4 = .ok (.istore 5, 2) := by decide +kernel
theorem dX3_workedOut_6 : decode cX3_workedOut 6 = .ok (.iload 5, 2) := by decide +kernel
theorem dX3_workedOut_8 : decode cX3_workedOut 8 = .ok (.aload_n 0, 1) := by decide +kernel
theorem dX3_workedOut_9 : decode cX3_workedOut 9 = .ok (.getfield 21, 3) := by decide +kernel
theorem dX3_workedOut_12 : decode cX3_workedOut 12 = .ok (.if_icmp .ge 160, 3) := by decide +kernel
theorem dX3_workedOut_15 : decode cX3_workedOut 15 = .ok (.aload_n 0, 1) := by decide +kernel
theorem dX3_workedOut_16 : decode cX3_workedOut 16 = .ok (.getfield 9, 3) := by decide +kernel
theorem dX3_workedOut_19 : decode cX3_workedOut 19 = .ok (.iload 5, 2) := by decide +kernel
theorem dX3_workedOut_21 : decode cX3_workedOut 21 = .ok (.iaload, 1) := by decide +kernel
theorem dX3_workedOut_22 : decode cX3_workedOut 22 = .ok (.istore 6, 2) := by decide +kernel
theorem dX3_workedOut_24 : decode cX3_workedOut 24 = .ok (.iload 6, 2) := by decide +kernel
theorem dX3_workedOut_26 : decode cX3_workedOut 26 = .ok (.iconst 1, 1) := by decide +kernel
theorem dX3_workedOut_27 : decode cX3_workedOut 27 = .ok (.if_icmp .eq 9, 3) := by decide +kernel
theorem dX3_workedOut_30 : decode cX3_workedOut 30 = .ok (.iload 6, 2) := by decide +kernel
theorem dX3_workedOut_32 : decode cX3_workedOut 32 = .ok (.iconst 2, 1) := by decide +kernel
theorem dX3_workedOut_33 : decode cX3_workedOut 33 = .ok (.if_icmp .ne 52, 3) := by decide +kernel
theorem dX3_workedOut_36 : decode cX3_workedOut 36 = .ok (.iload 4, 2) := by decide +kernel
theorem dX3_workedOut_38 : decode cX3_workedOut 38 = .ok (.bipush 60, 2) := by decide +kernel
theorem dX3_workedOut_40 : decode cX3_workedOut 40 = .ok (.if_icmp .ge 126, 3) := by decide +kernel
theorem dX3_workedOut_43 : decode cX3_workedOut 43 = .ok (.aload_n 0, 1) := by decide +kernel
theorem dX3_workedOut_44 : decode cX3_workedOut 44 = .ok (.getfield 18, 3) := by decide +kernel
theorem dX3_workedOut_47 : decode cX3_workedOut 47 = .ok (.iload 4, 2) := by decide +kernel
theorem dX3_workedOut_49 : decode cX3_workedOut 49 = .ok (.iload 6, 2) := by decide +kernel
theorem dX3_workedOut_51 : decode cX3_workedOut 51 = .ok (.iconst 1, 1) := by decide +kernel
theorem dX3_workedOut_52 : decode cX3_workedOut 52 = .ok (.if_icmp .ne 13, 3) := by decide +kernel
theorem dX3_workedOut_55 : decode cX3_workedOut 55 = .ok (.aload_n 0, 1) := by decide +kernel
theorem dX3_workedOut_56 : decode cX3_workedOut 56 = .ok (.getfield 15, 3) := by decide +kernel
theorem dX3_workedOut_59 : decode cX3_workedOut 59 = .ok (.iload 5, 2) := by decide +kernel
theorem dX3_workedOut_61 : decode cX3_workedOut 61 = .ok (.iaload, 1) := by decide +kernel
theorem dX3_workedOut_62 : decode cX3_workedOut 62 = .ok (.goto 16, 3) := by decide +kernel
theorem dX3_workedOut_65 : decode cX3_workedOut 65 = .ok (.aload_n 0, 1) := by decide +kernel
theorem dX3_workedOut_66 : decode cX3_workedOut 66 = .ok (.getfield 15, 3) := by decide +kernel
theorem dX3_workedOut_69 : decode cX3_workedOut 69 = .ok (.iload 5, 2) := by decide +kernel
theorem dX3_workedOut_71 : decode cX3_workedOut 71 = .ok (.iaload, 1) := by decide +kernel
theorem dX3_workedOut_72 : decode cX3_workedOut 72 = .ok (.iload_n 1, 1) := by decide +kernel
theorem dX3_workedOut_73 : decode cX3_workedOut 73 = .ok (.iload_n 2, 1) := by decide +kernel
theorem dX3_workedOut_74 : decode cX3_workedOut 74 = .ok (.iload_n 3, 1) := by decide +kernel
theorem dX3_workedOut_75 : decode cX3_workedOut 75 = .ok (.invokestatic 31, 3) := by decide +kernel
theorem dX3_workedOut_78 : decode cX3_workedOut 78 = .ok (.iastore, 1) := by decide +kernel
theorem dX3_workedOut_79 : decode cX3_workedOut 79 = .ok (.iinc 4 1, 3) := by decide +kernel
theorem dX3_workedOut_82 : decode cX3_workedOut 82 = .ok (.goto 84, 3) := by decide +kernel
theorem dX3_workedOut_85 : decode cX3_workedOut 85 = .ok (.iload 6, 2) := by decide +kernel
theorem dX3_workedOut_87 : decode cX3_workedOut 87 = .ok (.bipush 33, 2) := by decide +kernel
theorem dX3_workedOut_89 : decode cX3_workedOut 89 = .ok (.if_icmp .ne 38, 3) := by decide +kernel
theorem dX3_workedOut_92 : decode cX3_workedOut 92 = .ok (.iload 4, 2) := by decide +kernel
theorem dX3_workedOut_94 : decode cX3_workedOut 94 = .ok (.iconst 1, 1) := by decide +kernel
theorem dX3_workedOut_95 : decode cX3_workedOut 95 = .ok (.if_icmp .lt 71, 3) := by decide +kernel
theorem dX3_workedOut_98 : decode cX3_workedOut 98 = .ok (.aload_n 0, 1) := by decide +kernel
theorem dX3_workedOut_99 : decode cX3_workedOut 99 = .ok (.getfield 18, 3) := by decide +kernel
theorem dX3_workedOut_102 : decode cX3_workedOut 102 = .ok (.iload 4, 2) := by decide +kernel
theorem dX3_workedOut_104 : decode cX3_workedOut 104 = .ok (.iconst 1, 1) := by decide +kernel
theorem dX3_workedOut_105 : decode cX3_workedOut 105 = .ok (.isub, 1) := by decide +kernel
theorem dX3_workedOut_106 : decode cX3_workedOut 106 = .ok (.aload_n 0, 1) := by decide +kernel
theorem dX3_workedOut_107 : decode cX3_workedOut 107 = .ok (.getfield 18, 3) := by decide +kernel
theorem dX3_workedOut_110 : decode cX3_workedOut 110 = .ok (.iload 4, 2) := by decide +kernel
theorem dX3_workedOut_112 : decode cX3_workedOut 112 = .ok (.iconst 1, 1) := by decide +kernel
theorem dX3_workedOut_113 : decode cX3_workedOut 113 = .ok (.isub, 1) := by decide +kernel
theorem dX3_workedOut_114 : decode cX3_workedOut 114 = .ok (.iaload, 1) := by decide +kernel
theorem dX3_workedOut_115 : decode cX3_workedOut 115 = .ok (.ifCond .ne 7, 3) := by decide +kernel
theorem dX3_workedOut_118 : decode cX3_workedOut 118 = .ok (.iconst 1, 1) := by decide +kernel
theorem dX3_workedOut_119 : decode cX3_workedOut 119 = .ok (.goto 4, 3) := by decide +kernel
theorem dX3_workedOut_122 : decode cX3_workedOut 122 = .ok (.iconst 0, 1) := by decide +kernel
theorem dX3_workedOut_123 : decode cX3_workedOut 123 = .ok (.iastore, 1) := by decide +kernel
theorem dX3_workedOut_124 : decode cX3_workedOut 124 = .ok (.goto 42, 3) := by decide +kernel
theorem dX3_workedOut_127 : decode cX3_workedOut 127 = .ok (.iload 4, 2) := by decide +kernel
theorem dX3_workedOut_129 : decode cX3_workedOut 129 = .ok (.iconst 2, 1) := by decide +kernel
theorem dX3_workedOut_130 : decode cX3_workedOut 130 = .ok (.if_icmp .lt 36, 3) := by decide +kernel
theorem dX3_workedOut_133 : decode cX3_workedOut 133 = .ok (.iinc 4 (-1), 3) := by decide +kernel
theorem dX3_workedOut_136 : decode cX3_workedOut 136 = .ok (.aload_n 0, 1) := by decide +kernel
theorem dX3_workedOut_137 : decode cX3_workedOut 137 = .ok (.getfield 18, 3) := by decide +kernel
theorem dX3_workedOut_140 : decode cX3_workedOut 140 = .ok (.iload 4, 2) := by decide +kernel
theorem dX3_workedOut_142 : decode cX3_workedOut 142 = .ok (.iconst 1, 1) := by decide +kernel
theorem dX3_workedOut_143 : decode cX3_workedOut 143 = .ok (.isub, 1) := by decide +kernel
theorem dX3_workedOut_144 : decode cX3_workedOut 144 = .ok (.iload 6, 2) := by decide +kernel
theorem dX3_workedOut_146 : decode cX3_workedOut 146 = .ok (.aload_n 0, 1) := by decide +kernel
theorem dX3_workedOut_147 : decode cX3_workedOut 147 = .ok (.getfield 18, 3) := by decide +kernel
theorem dX3_workedOut_150 : decode cX3_workedOut 150 = .ok (.iload 4, 2) := by decide +kernel
theorem dX3_workedOut_152 : decode cX3_workedOut 152 = .ok (.iconst 1, 1) := by decide +kernel
theorem dX3_workedOut_153 : decode cX3_workedOut 153 = .ok (.isub, 1) := by decide +kernel
theorem dX3_workedOut_154 : decode cX3_workedOut 154 = .ok (.iaload, 1) := by decide +kernel
theorem dX3_workedOut_155 : decode cX3_workedOut 155 = .ok (.aload_n 0, 1) := by decide +kernel
theorem dX3_workedOut_156 : decode cX3_workedOut 156 = .ok (.getfield 18, 3) := by decide +kernel
theorem dX3_workedOut_159 : decode cX3_workedOut 159 = .ok (.iload 4, 2) := by decide +kernel
theorem dX3_workedOut_161 : decode cX3_workedOut 161 = .ok (.iaload, 1) := by decide +kernel
theorem dX3_workedOut_162 : decode cX3_workedOut 162 = .ok (.invokestatic 35, 3) := by decide +kernel
theorem dX3_workedOut_165 : decode cX3_workedOut 165 = .ok (.iastore, 1) := by decide +kernel
theorem dX3_workedOut_166 : decode cX3_workedOut 166 = .ok (.iinc 5 1, 3) := by decide +kernel
theorem dX3_workedOut_169 : decode cX3_workedOut 169 = .ok (.goto (-163), 3) := by decide +kernel
theorem dX3_workedOut_172 : decode cX3_workedOut 172 = .ok (.iload 4, 2) := by decide +kernel
theorem dX3_workedOut_174 : decode cX3_workedOut 174 = .ok (.ifCond .le 12, 3) := by decide +kernel
theorem dX3_workedOut_177 : decode cX3_workedOut 177 = .ok (.aload_n 0, 1) := by decide +kernel
theorem dX3_workedOut_178 : decode cX3_workedOut 178 = .ok (.getfield 18, 3) := by decide +kernel
theorem dX3_workedOut_181 : decode cX3_workedOut 181 = .ok (.iconst 0, 1) := by decide +kernel
theorem dX3_workedOut_182 : decode cX3_workedOut 182 = .ok (.iaload, 1) := by decide +kernel
theorem dX3_workedOut_183 : decode cX3_workedOut 183 = .ok (.goto 4, 3) := by decide +kernel
theorem dX3_workedOut_186 : decode cX3_workedOut 186 = .ok (.iconst 0, 1) := by decide +kernel
theorem dX3_workedOut_187 : decode cX3_workedOut 187 = .ok (.ireturn, 1) := by decide +kernel
theorem dX3_named_0 : decode cX3_named 0 = .ok (.iload_n 0, 1) := by decide +kernel
theorem dX3_named_1 : decode cX3_named 1 = .ok (.ifCond .ne 7, 3) := by decide +kernel
theorem dX3_named_4 : decode cX3_named 4 = .ok (.iload_n 1, 1) := by decide +kernel
theorem dX3_named_5 : decode cX3_named 5 = .ok (.goto 13, 3) := by decide +kernel
theorem dX3_named_8 : decode cX3_named 8 = .ok (.iload_n 0, 1) := by decide +kernel
theorem dX3_named_9 : decode cX3_named 9 = .ok (.iconst 1, 1) := by decide +kernel
theorem dX3_named_10 : decode cX3_named 10 = .ok (.if_icmp .ne 7, 3) := by decide +kernel
theorem dX3_named_13 : decode cX3_named 13 = .ok (.iload_n 2, 1) := by decide +kernel
theorem dX3_named_14 : decode cX3_named 14 = .ok (.goto 4, 3) := by decide +kernel
theorem dX3_named_17 : decode cX3_named 17 = .ok (.iload_n 3, 1) := by decide +kernel
theorem dX3_named_18 : decode cX3_named 18 = .ok (.ireturn, 1) := by decide +kernel
theorem dX3_joined_0 : decode cX3_joined 0 = .ok (.iload_n 0, 1) := by decide +kernel
theorem dX3_joined_1 : decode cX3_joined 1 = .ok (.lookupswitch 188 #[(37, 176), (38, 105), (42, 160), (43, 152), (45, 156), (47, 164), (60, 119), (61, 130), (62, 141), (124, 91)], 91) := by decide +kernel
theorem dX3_joined_92 : decode cX3_joined 92 = .ok (.iload_n 1, 1) := by decide +kernel
theorem dX3_joined_93 : decode cX3_joined 93 = .ok (.ifCond .ne 7, 3) := by decide +kernel
theorem dX3_joined_96 : decode cX3_joined 96 = .ok (.iload_n 2, 1) := by decide +kernel
theorem dX3_joined_97 : decode cX3_joined 97 = .ok (.ifCond .eq 7, 3) := by decide +kernel
theorem dX3_joined_100 : decode cX3_joined 100 = .ok (.iconst 1, 1) := by decide +kernel
theorem dX3_joined_101 : decode cX3_joined 101 = .ok (.goto 4, 3) := by decide +kernel
theorem dX3_joined_104 : decode cX3_joined 104 = .ok (.iconst 0, 1) := by decide +kernel
theorem dX3_joined_105 : decode cX3_joined 105 = .ok (.ireturn, 1) := by decide +kernel
theorem dX3_joined_106 : decode cX3_joined 106 = .ok (.iload_n 1, 1) := by decide +kernel
theorem dX3_joined_107 : decode cX3_joined 107 = .ok (.ifCond .eq 11, 3) := by decide +kernel
theorem dX3_joined_110 : decode cX3_joined 110 = .ok (.iload_n 2, 1) := by decide +kernel
theorem dX3_joined_111 : decode cX3_joined 111 = .ok (.ifCond .eq 7, 3) := by decide +kernel
theorem dX3_joined_114 : decode cX3_joined 114 = .ok (.iconst 1, 1) := by decide +kernel
theorem dX3_joined_115 : decode cX3_joined 115 = .ok (.goto 4, 3) := by decide +kernel
theorem dX3_joined_118 : decode cX3_joined 118 = .ok (.iconst 0, 1) := by decide +kernel
theorem dX3_joined_119 : decode cX3_joined 119 = .ok (.ireturn, 1) := by decide +kernel
theorem dX3_joined_120 : decode cX3_joined 120 = .ok (.iload_n 1, 1) := by decide +kernel
theorem dX3_joined_121 : decode cX3_joined 121 = .ok (.iload_n 2, 1) := by decide +kernel
theorem dX3_joined_122 : decode cX3_joined 122 = .ok (.if_icmp .ge 7, 3) := by decide +kernel
theorem dX3_joined_125 : decode cX3_joined 125 = .ok (.iconst 1, 1) := by decide +kernel
theorem dX3_joined_126 : decode cX3_joined 126 = .ok (.goto 4, 3) := by decide +kernel
theorem dX3_joined_129 : decode cX3_joined 129 = .ok (.iconst 0, 1) := by decide +kernel
theorem dX3_joined_130 : decode cX3_joined 130 = .ok (.ireturn, 1) := by decide +kernel
theorem dX3_joined_131 : decode cX3_joined 131 = .ok (.iload_n 1, 1) := by decide +kernel
theorem dX3_joined_132 : decode cX3_joined 132 = .ok (.iload_n 2, 1) := by decide +kernel
theorem dX3_joined_133 : decode cX3_joined 133 = .ok (.if_icmp .ne 7, 3) := by decide +kernel
theorem dX3_joined_136 : decode cX3_joined 136 = .ok (.iconst 1, 1) := by decide +kernel
theorem dX3_joined_137 : decode cX3_joined 137 = .ok (.goto 4, 3) := by decide +kernel
theorem dX3_joined_140 : decode cX3_joined 140 = .ok (.iconst 0, 1) := by decide +kernel
theorem dX3_joined_141 : decode cX3_joined 141 = .ok (.ireturn, 1) := by decide +kernel
theorem dX3_joined_142 : decode cX3_joined 142 = .ok (.iload_n 1, 1) := by decide +kernel
theorem dX3_joined_143 : decode cX3_joined 143 = .ok (.iload_n 2, 1) := by decide +kernel
theorem dX3_joined_144 : decode cX3_joined 144 = .ok (.if_icmp .le 7, 3) := by decide +kernel
theorem dX3_joined_147 : decode cX3_joined 147 = .ok (.iconst 1, 1) := by decide +kernel
theorem dX3_joined_148 : decode cX3_joined 148 = .ok (.goto 4, 3) := by decide +kernel
theorem dX3_joined_151 : decode cX3_joined 151 = .ok (.iconst 0, 1) := by decide +kernel
theorem dX3_joined_152 : decode cX3_joined 152 = .ok (.ireturn, 1) := by decide +kernel
theorem dX3_joined_153 : decode cX3_joined 153 = .ok (.iload_n 1, 1) := by decide +kernel
theorem dX3_joined_154 : decode cX3_joined 154 = .ok (.iload_n 2, 1) := by decide +kernel
theorem dX3_joined_155 : decode cX3_joined 155 = .ok (.iadd, 1) := by decide +kernel
theorem dX3_joined_156 : decode cX3_joined 156 = .ok (.ireturn, 1) := by decide +kernel
theorem dX3_joined_157 : decode cX3_joined 157 = .ok (.iload_n 1, 1) := by decide +kernel
theorem dX3_joined_158 : decode cX3_joined 158 = .ok (.iload_n 2, 1) := by decide +kernel
theorem dX3_joined_159 : decode cX3_joined 159 = .ok (.isub, 1) := by decide +kernel
theorem dX3_joined_160 : decode cX3_joined 160 = .ok (.ireturn, 1) := by decide +kernel
theorem dX3_joined_161 : decode cX3_joined 161 = .ok (.iload_n 1, 1) := by decide +kernel
theorem dX3_joined_162 : decode cX3_joined 162 = .ok (.iload_n 2, 1) := by decide +kernel
theorem dX3_joined_163 : decode cX3_joined 163 = .ok (.imul, 1) := by decide +kernel
theorem dX3_joined_164 : decode cX3_joined 164 = .ok (.ireturn, 1) := by decide +kernel
theorem dX3_joined_165 : decode cX3_joined 165 = .ok (.iload_n 2, 1) := by decide +kernel
theorem dX3_joined_166 : decode cX3_joined 166 = .ok (.ifCond .ne 7, 3) := by decide +kernel
theorem dX3_joined_169 : decode cX3_joined 169 = .ok (.iconst 0, 1) := by decide +kernel
theorem dX3_joined_170 : decode cX3_joined 170 = .ok (.goto 6, 3) := by decide +kernel
theorem dX3_joined_173 : decode cX3_joined 173 = .ok (.iload_n 1, 1) := by decide +kernel
theorem dX3_joined_174 : decode cX3_joined 174 = .ok (.iload_n 2, 1) := by decide +kernel
theorem dX3_joined_175 : decode cX3_joined 175 = .ok (.idiv, 1) := by decide +kernel
theorem dX3_joined_176 : decode cX3_joined 176 = .ok (.ireturn, 1) := by decide +kernel
theorem dX3_joined_177 : decode cX3_joined 177 = .ok (.iload_n 2, 1) := by decide +kernel
theorem dX3_joined_178 : decode cX3_joined 178 = .ok (.ifCond .ne 7, 3) := by decide +kernel
theorem dX3_joined_181 : decode cX3_joined 181 = .ok (.iconst 0, 1) := by decide +kernel
theorem dX3_joined_182 : decode cX3_joined 182 = .ok (.goto 6, 3) := by decide +kernel
theorem dX3_joined_185 : decode cX3_joined 185 = .ok (.iload_n 1, 1) := by decide +kernel
theorem dX3_joined_186 : decode cX3_joined 186 = .ok (.iload_n 2, 1) := by decide +kernel
theorem dX3_joined_187 : decode cX3_joined 187 = .ok (.irem, 1) := by decide +kernel
theorem dX3_joined_188 : decode cX3_joined 188 = .ok (.ireturn, 1) := by decide +kernel
theorem dX3_joined_189 : decode cX3_joined 189 = .ok (.iconst 0, 1) := by decide +kernel
theorem dX3_joined_190 : decode cX3_joined 190 = .ok (.ireturn, 1) := by decide +kernel
theorem dX4_init_0 : decode cX4_init 0 = .ok (.aload_n 0, 1) := by decide +kernel
theorem dX4_init_1 : decode cX4_init 1 = .ok (.invokespecial 3, 3) := by decide +kernel
theorem dX4_init_4 : decode cX4_init 4 = .ok (.aload_n 0, 1) := by decide +kernel
theorem dX4_init_5 : decode cX4_init 5 = .ok (.bipush 7, 2) := by decide +kernel
theorem dX4_init_7 : decode cX4_init 7 = .ok (.newarray .int, 2) := by decide +kernel
theorem dX4_init_9 : decode cX4_init 9 = .ok (.putfield 9, 3) := by decide +kernel
theorem dX4_init_12 : decode cX4_init 12 = .ok (.aload_n 0, 1) := by decide +kernel
theorem dX4_init_13 : decode cX4_init 13 = .ok (.iconst 4, 1) := by decide +kernel
theorem dX4_init_14 : decode cX4_init 14 = .ok (.newarray .int, 2) := by decide +kernel
theorem dX4_init_16 : decode cX4_init 16 = .ok (.putfield 15, 3) := by decide +kernel
theorem dX4_init_19 : decode cX4_init 19 = .ok (.aload_n 0, 1) := by decide +kernel
theorem dX4_init_20 : decode cX4_init 20 = .ok (.bipush 7, 2) := by decide +kernel
theorem dX4_init_22 : decode cX4_init 22 = .ok (.newarray .int, 2) := by decide +kernel
theorem dX4_init_24 : decode cX4_init 24 = .ok (.putfield 18, 3) := by decide +kernel
theorem dX4_init_27 : decode cX4_init 27 = .ok (.aload_n 0, 1) := by decide +kernel
theorem dX4_init_28 : decode cX4_init 28 = .ok (.bipush 7, 2) := by decide +kernel
theorem dX4_init_30 : decode cX4_init 30 = .ok (.newarray .int, 2) := by decide +kernel
theorem dX4_init_32 : decode cX4_init 32 = .ok (.putfield 21, 3) := by decide +kernel
theorem dX4_init_35 : decode cX4_init 35 = .ok (.aload_n 0, 1) := by decide +kernel
theorem dX4_init_36 : decode cX4_init 36 = .ok (.aload_n 1, 1) := by decide +kernel
theorem dX4_init_37 : decode cX4_init 37 = .ok (.putfield 24, 3) := by decide +kernel
theorem dX4_init_40 : decode cX4_init 40 = .ok (.return_, 1) := by decide +kernel
theorem dX4_dryThen_0 : decode cX4_dryThen 0 = .ok (.aload_n 0, 1) := by decide +kernel
theorem dX4_dryThen_1 : decode cX4_dryThen 1 = .ok (.invokevirtual 28, 3) := by decide +kernel
theorem dX4_dryThen_4 : decode cX4_dryThen 4 = .ok (.iconst 0, 1) := by decide +kernel
theorem dX4_dryThen_5 : decode cX4_dryThen 5 = .ok (.istore_n 3, 1) := by decide +kernel
theorem dX4_dryThen_6 : decode cX4_dryThen 6 = .ok (.iload_n 3, 1) := by decide +kernel
theorem dX4_dryThen_7 : decode cX4_dryThen 7 = .ok (.iload_n 2, 1) := by decide +kernel
theorem dX4_dryThen_8 : decode cX4_dryThen 8 = .ok (.if_icmp .ge 22, 3) := by decide +kernel
theorem dX4_dryThen_11 : decode cX4_dryThen 11 = .ok (.aload_n 0, 1) := by decide +kernel
theorem dX4_dryThen_12 : decode cX4_dryThen 12 = .ok (.aload_n 0, 1) := by decide +kernel
theorem dX4_dryThen_13 : decode cX4_dryThen 13 = .ok (.getfield 24, 3) := by decide +kernel
theorem dX4_dryThen_16 : decode cX4_dryThen 16 = .ok (.getfield 31, 3) := by decide +kernel
theorem dX4_dryThen_19 : decode cX4_dryThen 19 = .ok (.iload_n 3, 1) := by decide +kernel
theorem dX4_dryThen_20 : decode cX4_dryThen 20 = .ok (.iadd, 1) := by decide +kernel
theorem dX4_dryThen_21 : decode cX4_dryThen 21 = .ok (.invokevirtual 37, 3) := by decide +kernel
theorem dX4_dryThen_24 : decode cX4_dryThen 24 = .ok (.iinc 3 1, 3) := by decide +kernel
theorem dX4_dryThen_27 : decode cX4_dryThen 27 = .ok (.goto (-21), 3) := by decide +kernel
theorem dX4_dryThen_30 : decode cX4_dryThen 30 = .ok (.iload_n 1, 1) := by decide +kernel
theorem dX4_dryThen_31 : decode cX4_dryThen 31 = .ok (.iconst 0, 1) := by decide +kernel
theorem dX4_dryThen_32 : decode cX4_dryThen 32 = .ok (.bipush 6, 2) := by decide +kernel
theorem dX4_dryThen_34 : decode cX4_dryThen 34 = .ok (.invokestatic 41, 3) := by decide +kernel
theorem dX4_dryThen_37 : decode cX4_dryThen 37 = .ok (.ifCond .eq 12, 3) := by decide +kernel
theorem dX4_dryThen_40 : decode cX4_dryThen 40 = .ok (.aload_n 0, 1) := by decide +kernel
theorem dX4_dryThen_41 : decode cX4_dryThen 41 = .ok (.getfield 9, 3) := by decide +kernel
theorem dX4_dryThen_44 : decode cX4_dryThen 44 = .ok (.iload_n 1, 1) := by decide +kernel
theorem dX4_dryThen_45 : decode cX4_dryThen 45 = .ok (.iaload, 1) := by decide +kernel
theorem dX4_dryThen_46 : decode cX4_dryThen 46 = .ok (.goto 4, 3) := by decide +kernel
theorem dX4_dryThen_49 : decode cX4_dryThen 49 = .ok (.iconst 0, 1) := by decide +kernel
theorem dX4_dryThen_50 : decode cX4_dryThen 50 = .ok (.ireturn, 1) := by decide +kernel
theorem dX4_startAhead_0 : decode cX4_startAhead 0 = .ok (.iconst 0, 1) := by decide +kernel
theorem dX4_startAhead_1 : decode cX4_startAhead 1 = .ok (.istore_n 1, 1) := by decide +kernel
theorem dX4_startAhead_2 : decode cX4_startAhead 2 = .ok (.iload_n 1, 1) := by decide +kernel
theorem dX4_startAhead_3 : decode cX4_startAhead 3 = .ok (.aload_n 0, 1) := by decide +kernel
theorem dX4_startAhead_4 : decode cX4_startAhead 4 = .ok (.getfield 24, 3) := by decide +kernel
theorem dX4_startAhead_7 : decode cX4_startAhead 7 = .ok (.getfield 45, 3) := by decide +kernel
theorem dX4_startAhead_10 : decode cX4_startAhead 10 = .ok (.if_icmp .ge 27, 3) := by decide +kernel
theorem dX4_startAhead_13 : decode cX4_startAhead 13 = .ok (.aload_n 0, 1) := by decide +kernel
theorem dX4_startAhead_14 : decode cX4_startAhead 14 = .ok (.getfield 9, 3) := by decide +kernel
theorem dX4_startAhead_17 : decode cX4_startAhead 17 = .ok (.iload_n 1, 1) := by decide +kernel
theorem dX4_startAhead_18 : decode cX4_startAhead 18 = .ok (.aload_n 0, 1) := by decide +kernel
theorem dX4_startAhead_19 : decode cX4_startAhead 19 = .ok (.getfield 24, 3) := by decide +kernel
theorem dX4_startAhead_22 : decode cX4_startAhead 22 = .ok (.getfield 48, 3) := by decide +kernel
theorem dX4_startAhead_25 : decode cX4_startAhead 25 = .ok (.iload_n 1, 1) := by decide +kernel
theorem dX4_startAhead_26 : decode cX4_startAhead 26 = .ok (.aaload, 1) := by decide +kernel
theorem dX4_startAhead_27 : decode cX4_startAhead 27 = .ok (.getfield 52, 3) := by decide +kernel
theorem dX4_startAhead_30 : decode cX4_startAhead 30 = .ok (.iastore, 1) := by decide +kernel
theorem dX4_startAhead_31 : decode cX4_startAhead 31 = .ok (.iinc 1 1, 3) := by decide +kernel
theorem dX4_startAhead_34 : decode cX4_startAhead 34 = .ok (.goto (-32), 3) := by decide +kernel
theorem dX4_startAhead_37 : decode cX4_startAhead 37 = .ok (.return_, 1) := by decide +kernel
theorem dX4_goAhead_0 : decode cX4_goAhead 0 = .ok (.iconst 0, 1) := by decide +kernel
theorem dX4_goAhead_1 : decode cX4_goAhead 1 = .ok (.istore_n 2, 1) := by decide +kernel
theorem dX4_goAhead_2 : decode cX4_goAhead 2 = .ok (.iload_n 2, 1) := by decide +kernel
theorem dX4_goAhead_3 : decode cX4_goAhead 3 = .ok (.aload_n 0, 1) := by decide +kernel
theorem dX4_goAhead_4 : decode cX4_goAhead 4 = .ok (.getfield 24, 3) := by decide +kernel
theorem dX4_goAhead_7 : decode cX4_goAhead 7 = .ok (.getfield 45, 3) := by decide +kernel
theorem dX4_goAhead_10 : decode cX4_goAhead 10 = .ok (.if_icmp .ge 50, 3) := by decide +kernel
theorem dX4_goAhead_13 : decode cX4_goAhead 13 = .ok (.aload_n 0, 1) := by decide +kernel
theorem dX4_goAhead_14 : decode cX4_goAhead 14 = .ok (.getfield 9, 3) := by decide +kernel
theorem dX4_goAhead_17 : decode cX4_goAhead 17 = .ok (.iload_n 2, 1) := by decide +kernel
theorem dX4_goAhead_18 : decode cX4_goAhead 18 = .ok (.bipush 99, 2) := by decide +kernel
theorem dX4_goAhead_20 : decode cX4_goAhead 20 = .ok (.aload_n 0, 1) := by decide +kernel
theorem dX4_goAhead_21 : decode cX4_goAhead 21 = .ok (.getfield 9, 3) := by decide +kernel
theorem dX4_goAhead_24 : decode cX4_goAhead 24 = .ok (.iload_n 2, 1) := by decide +kernel
theorem dX4_goAhead_25 : decode cX4_goAhead 25 = .ok (.iaload, 1) := by decide +kernel
theorem dX4_goAhead_26 : decode cX4_goAhead 26 = .ok (.aload_n 0, 1) := by decide +kernel
theorem dX4_goAhead_27 : decode cX4_goAhead 27 = .ok (.getfield 24, 3) := by decide +kernel
theorem dX4_goAhead_30 : decode cX4_goAhead 30 = .ok (.aload_n 0, 1) := by decide +kernel
theorem dX4_goAhead_31 : decode cX4_goAhead 31 = .ok (.getfield 24, 3) := by decide +kernel
theorem dX4_goAhead_34 : decode cX4_goAhead 34 = .ok (.getfield 48, 3) := by decide +kernel
theorem dX4_goAhead_37 : decode cX4_goAhead 37 = .ok (.iload_n 2, 1) := by decide +kernel
theorem dX4_goAhead_38 : decode cX4_goAhead 38 = .ok (.aaload, 1) := by decide +kernel
theorem dX4_goAhead_39 : decode cX4_goAhead 39 = .ok (.aload_n 0, 1) := by decide +kernel
theorem dX4_goAhead_40 : decode cX4_goAhead 40 = .ok (.getfield 9, 3) := by decide +kernel
theorem dX4_goAhead_43 : decode cX4_goAhead 43 = .ok (.iload_n 2, 1) := by decide +kernel
theorem dX4_goAhead_44 : decode cX4_goAhead 44 = .ok (.iaload, 1) := by decide +kernel
theorem dX4_goAhead_45 : decode cX4_goAhead 45 = .ok (.iload_n 1, 1) := by decide +kernel
theorem dX4_goAhead_46 : decode cX4_goAhead 46 = .ok (.invokevirtual 56, 3) := by decide +kernel
theorem dX4_goAhead_49 : decode cX4_goAhead 49 = .ok (.iadd, 1) := by decide +kernel
theorem dX4_goAhead_50 : decode cX4_goAhead 50 = .ok (.invokestatic 60, 3) := by decide +kernel
theorem dX4_goAhead_53 : decode cX4_goAhead 53 = .ok (.iastore, 1) := by decide +kernel
theorem dX4_goAhead_54 : decode cX4_goAhead 54 = .ok (.iinc 2 1, 3) := by decide +kernel
theorem dX4_goAhead_57 : decode cX4_goAhead 57 = .ok (.goto (-55), 3) := by decide +kernel
theorem dX4_goAhead_60 : decode cX4_goAhead 60 = .ok (.return_, 1) := by decide +kernel
theorem dX4_hoursUntilAbove_0 : decode cX4_hoursUntilAbove 0 = .ok (.aload_n 0, 1) := by decide +kernel
theorem dX4_hoursUntilAbove_1 : decode cX4_hoursUntilAbove 1 = .ok (.invokevirtual 28, 3) := by decide +kernel
theorem dX4_hoursUntilAbove_4 : decode cX4_hoursUntilAbove 4 = .ok (.iconst 0, 1) := by decide +kernel
theorem dX4_hoursUntilAbove_5 : decode cX4_hoursUntilAbove 5 = .ok (.istore_n 2, 1) := by decide +kernel
theorem dX4_hoursUntilAbove_6 : decode cX4_hoursUntilAbove 6 = .ok (.iload_n 2, 1) := by decide +kernel
theorem dX4_hoursUntilAbove_7 : decode cX4_hoursUntilAbove 7 = .ok (.bipush 72, 2) := by decide +kernel
theorem dX4_hoursUntilAbove_9 : decode cX4_hoursUntilAbove 9 = .ok (.if_icmp .gt 32, 3) := by decide +kernel
theorem dX4_hoursUntilAbove_12 : decode cX4_hoursUntilAbove 12 = .ok (.aload_n 0, 1) := by decide +kernel
theorem dX4_hoursUntilAbove_13 : decode cX4_hoursUntilAbove 13 = .ok (.iload_n 1, 1) := by decide +kernel
theorem dX4_hoursUntilAbove_14 : decode cX4_hoursUntilAbove 14 = .ok (.invokevirtual 66, 3) := by decide +kernel
theorem dX4_hoursUntilAbove_17 : decode cX4_hoursUntilAbove 17 = .ok (.ifCond .lt 5, 3) := by decide +kernel
theorem dX4_hoursUntilAbove_20 : decode cX4_hoursUntilAbove 20 = .ok (.iload_n 2, 1) := by decide +kernel
theorem dX4_hoursUntilAbove_21 : decode cX4_hoursUntilAbove 21 = .ok (.ireturn, 1) := by decide +kernel
theorem dX4_hoursUntilAbove_22 : decode cX4_hoursUntilAbove 22 = .ok (.aload_n 0, 1) := by decide +kernel
theorem dX4_hoursUntilAbove_23 : decode cX4_hoursUntilAbove 23 = .ok (.aload_n 0, 1) := by decide +kernel
theorem dX4_hoursUntilAbove_24 : decode cX4_hoursUntilAbove 24 = .ok (.getfield 24, 3) := by decide +kernel
theorem dX4_hoursUntilAbove_27 : decode cX4_hoursUntilAbove 27 = .ok (.getfield 31, 3) := by decide +kernel
theorem dX4_hoursUntilAbove_30 : decode cX4_hoursUntilAbove 30 = .ok (.iload_n 2, 1) := by decide +kernel
theorem dX4_hoursUntilAbove_31 : decode cX4_hoursUntilAbove 31 = .ok (.iadd, 1) := by decide +kernel
theorem dX4_hoursUntilAbove_32 : decode cX4_hoursUntilAbove 32 = .ok (.invokevirtual 37, 3) := by decide +kernel
theorem dX4_hoursUntilAbove_35 : decode cX4_hoursUntilAbove 35 = .ok (.iinc 2 1, 3) := by decide +kernel
theorem dX4_hoursUntilAbove_38 : decode cX4_hoursUntilAbove 38 = .ok (.goto (-32), 3) := by decide +kernel
theorem dX4_hoursUntilAbove_41 : decode cX4_hoursUntilAbove 41 = .ok (.iconst (-1), 1) := by decide +kernel
theorem dX4_hoursUntilAbove_42 : decode cX4_hoursUntilAbove 42 = .ok (.ireturn, 1) := by decide +kernel
theorem dX4_firstAbove_0 : decode cX4_firstAbove 0 = .ok (.iconst 0, 1) := by decide +kernel
theorem dX4_firstAbove_1 : decode cX4_firstAbove 1 = .ok (.istore_n 2, 1) := by decide +kernel
theorem dX4_firstAbove_2 : decode cX4_firstAbove 2 = .ok (.iload_n 2, 1) := by decide +kernel
theorem dX4_firstAbove_3 : decode cX4_firstAbove 3 = .ok (.aload_n 0, 1) := by decide +kernel
theorem dX4_firstAbove_4 : decode cX4_firstAbove 4 = .ok (.getfield 24, 3) := by decide +kernel
theorem dX4_firstAbove_7 : decode cX4_firstAbove 7 = .ok (.getfield 45, 3) := by decide +kernel
theorem dX4_firstAbove_10 : decode cX4_firstAbove 10 = .ok (.if_icmp .ge 21, 3) := by decide +kernel
theorem dX4_firstAbove_13 : decode cX4_firstAbove 13 = .ok (.aload_n 0, 1) := by decide +kernel
theorem dX4_firstAbove_14 : decode cX4_firstAbove 14 = .ok (.getfield 9, 3) := by decide +kernel
theorem dX4_firstAbove_17 : decode cX4_firstAbove 17 = .ok (.iload_n 2, 1) := by decide +kernel
theorem dX4_firstAbove_18 : decode cX4_firstAbove 18 = .ok (.iaload, 1) := by decide +kernel
theorem dX4_firstAbove_19 : decode cX4_firstAbove 19 = .ok (.iload_n 1, 1) := by decide +kernel
theorem dX4_firstAbove_20 : decode cX4_firstAbove 20 = .ok (.if_icmp .le 5, 3) := by decide +kernel
theorem dX4_firstAbove_23 : decode cX4_firstAbove 23 = .ok (.iload_n 2, 1) := by decide +kernel
theorem dX4_firstAbove_24 : decode cX4_firstAbove 24 = .ok (.ireturn, 1) := by decide +kernel
theorem dX4_firstAbove_25 : decode cX4_firstAbove 25 = .ok (.iinc 2 1, 3) := by decide +kernel
theorem dX4_firstAbove_28 : decode cX4_firstAbove 28 = .ok (.goto (-26), 3) := by decide +kernel
theorem dX4_firstAbove_31 : decode cX4_firstAbove 31 = .ok (.iconst (-1), 1) := by decide +kernel
theorem dX4_firstAbove_32 : decode cX4_firstAbove 32 = .ok (.ireturn, 1) := by decide +kernel
theorem dX4_hoursUntilAsTold_0 : decode cX4_hoursUntilAsTold 0 = .ok (.aload_n 0, 1) := by decide +kernel
theorem dX4_hoursUntilAsTold_1 : decode cX4_hoursUntilAsTold 1 = .ok (.invokevirtual 28, 3) := by decide +kernel
theorem dX4_hoursUntilAsTold_4 : decode cX4_hoursUntilAsTold 4 = .ok (.iconst 0, 1) := by decide +kernel
theorem dX4_hoursUntilAsTold_5 : decode cX4_hoursUntilAsTold 5 = .ok (.istore_n 2, 1) := by decide +kernel
theorem dX4_hoursUntilAsTold_6 : decode cX4_hoursUntilAsTold 6 = .ok (.iload_n 2, 1) := by decide +kernel
theorem dX4_hoursUntilAsTold_7 : decode cX4_hoursUntilAsTold 7 = .ok (.bipush 72, 2) := by decide +kernel
theorem dX4_hoursUntilAsTold_9 : decode cX4_hoursUntilAsTold 9 = .ok (.if_icmp .gt 32, 3) := by decide +kernel
theorem dX4_hoursUntilAsTold_12 : decode cX4_hoursUntilAsTold 12 = .ok (.aload_n 0, 1) := by decide +kernel
theorem dX4_hoursUntilAsTold_13 : decode cX4_hoursUntilAsTold 13 = .ok (.aload_n 1, 1) := by decide +kernel
theorem dX4_hoursUntilAsTold_14 : decode cX4_hoursUntilAsTold 14 = .ok (.invokevirtual 70, 3) := by decide +kernel
theorem dX4_hoursUntilAsTold_17 : decode cX4_hoursUntilAsTold 17 = .ok (.ifCond .eq 5, 3) := by decide +kernel
theorem dX4_hoursUntilAsTold_20 : decode cX4_hoursUntilAsTold 20 = .ok (.iload_n 2, 1) := by decide +kernel
theorem dX4_hoursUntilAsTold_21 : decode cX4_hoursUntilAsTold 21 = .ok (.ireturn, 1) := by decide +kernel
theorem dX4_hoursUntilAsTold_22 : decode cX4_hoursUntilAsTold 22 = .ok (.aload_n 0, 1) := by decide +kernel
theorem dX4_hoursUntilAsTold_23 : decode cX4_hoursUntilAsTold 23 = .ok (.aload_n 0, 1) := by decide +kernel
theorem dX4_hoursUntilAsTold_24 : decode cX4_hoursUntilAsTold 24 = .ok (.getfield 24, 3) := by decide +kernel
theorem dX4_hoursUntilAsTold_27 : decode cX4_hoursUntilAsTold 27 = .ok (.getfield 31, 3) := by decide +kernel
theorem dX4_hoursUntilAsTold_30 : decode cX4_hoursUntilAsTold 30 = .ok (.iload_n 2, 1) := by decide +kernel
theorem dX4_hoursUntilAsTold_31 : decode cX4_hoursUntilAsTold 31 = .ok (.iadd, 1) := by decide +kernel
theorem dX4_hoursUntilAsTold_32 : decode cX4_hoursUntilAsTold 32 = .ok (.invokevirtual 37, 3) := by decide +kernel
theorem dX4_hoursUntilAsTold_35 : decode cX4_hoursUntilAsTold 35 = .ok (.iinc 2 1, 3) := by decide +kernel
theorem dX4_hoursUntilAsTold_38 : decode cX4_hoursUntilAsTold 38 = .ok (.goto (-32), 3) := by decide +kernel
theorem dX4_hoursUntilAsTold_41 : decode cX4_hoursUntilAsTold 41 = .ok (.iconst (-1), 1) := by decide +kernel
theorem dX4_hoursUntilAsTold_42 : decode cX4_hoursUntilAsTold 42 = .ok (.ireturn, 1) := by decide +kernel
theorem dX4_isAsTold_0 : decode cX4_isAsTold 0 = .ok (.aload_n 1, 1) := by decide +kernel
theorem dX4_isAsTold_1 : decode cX4_isAsTold 1 = .ok (.getfield 74, 3) := by decide +kernel
theorem dX4_isAsTold_4 : decode cX4_isAsTold 4 = .ok (.aload_n 0, 1) := by decide +kernel
theorem dX4_isAsTold_5 : decode cX4_isAsTold 5 = .ok (.getfield 24, 3) := by decide +kernel
theorem dX4_isAsTold_8 : decode cX4_isAsTold 8 = .ok (.getfield 45, 3) := by decide +kernel
theorem dX4_isAsTold_11 : decode cX4_isAsTold 11 = .ok (.if_icmp .le 5, 3) := by decide +kernel
theorem dX4_isAsTold_14 : decode cX4_isAsTold 14 = .ok (.iconst 0, 1) := by decide +kernel
theorem dX4_isAsTold_15 : decode cX4_isAsTold 15 = .ok (.ireturn, 1) := by decide +kernel
theorem dX4_isAsTold_16 : decode cX4_isAsTold 16 = .ok (.iconst 0, 1) := by decide +kernel
theorem dX4_isAsTold_17 : decode cX4_isAsTold 17 = .ok (.istore_n 2, 1) := by decide +kernel
theorem dX4_isAsTold_18 : decode cX4_isAsTold 18 = .ok (.iload_n 2, 1) := by decide +kernel
theorem dX4_isAsTold_19 : decode cX4_isAsTold 19 = .ok (.aload_n 1, 1) := by decide +kernel
theorem dX4_isAsTold_20 : decode cX4_isAsTold 20 = .ok (.getfield 74, 3) := by decide +kernel
theorem dX4_isAsTold_23 : decode cX4_isAsTold 23 = .ok (.if_icmp .ge 26, 3) := by decide +kernel
theorem dX4_isAsTold_26 : decode cX4_isAsTold 26 = .ok (.aload_n 1, 1) := by decide +kernel
theorem dX4_isAsTold_27 : decode cX4_isAsTold 27 = .ok (.getfield 79, 3) := by decide +kernel
theorem dX4_isAsTold_30 : decode cX4_isAsTold 30 = .ok (.iload_n 2, 1) := by decide +kernel
theorem dX4_isAsTold_31 : decode cX4_isAsTold 31 = .ok (.iaload, 1) := by decide +kernel
theorem dX4_isAsTold_32 : decode cX4_isAsTold 32 = .ok (.aload_n 0, 1) := by decide +kernel
theorem dX4_isAsTold_33 : decode cX4_isAsTold 33 = .ok (.getfield 9, 3) := by decide +kernel
theorem dX4_isAsTold_36 : decode cX4_isAsTold 36 = .ok (.iload_n 2, 1) := by decide +kernel
theorem dX4_isAsTold_37 : decode cX4_isAsTold 37 = .ok (.iaload, 1) := by decide +kernel
theorem dX4_isAsTold_38 : decode cX4_isAsTold 38 = .ok (.if_icmp .eq 5, 3) := by decide +kernel
theorem dX4_isAsTold_41 : decode cX4_isAsTold 41 = .ok (.iconst 0, 1) := by decide +kernel
theorem dX4_isAsTold_42 : decode cX4_isAsTold 42 = .ok (.ireturn, 1) := by decide +kernel
theorem dX4_isAsTold_43 : decode cX4_isAsTold 43 = .ok (.iinc 2 1, 3) := by decide +kernel
theorem dX4_isAsTold_46 : decode cX4_isAsTold 46 = .ok (.goto (-28), 3) := by decide +kernel
theorem dX4_isAsTold_49 : decode cX4_isAsTold 49 = .ok (.iconst 1, 1) := by decide +kernel
theorem dX4_isAsTold_50 : decode cX4_isAsTold 50 = .ok (.ireturn, 1) := by decide +kernel
theorem dX4_bestSet_0 : decode cX4_bestSet 0 = .ok (.iconst 0, 1) := by decide +kernel
theorem dX4_bestSet_1 : decode cX4_bestSet 1 = .ok (.istore_n 2, 1) := by decide +kernel
theorem dX4_bestSet_2 : decode cX4_bestSet 2 = .ok (.iconst 0, 1) := by decide +kernel
theorem dX4_bestSet_3 : decode cX4_bestSet 3 = .ok (.istore_n 3, 1) := by decide +kernel
theorem dX4_bestSet_4 : decode cX4_bestSet 4 = .ok (.iconst 1, 1) := by decide +kernel
theorem dX4_bestSet_5 : decode cX4_bestSet 5 = .ok (.istore 4, 2) := by decide +kernel
theorem dX4_bestSet_7 : decode cX4_bestSet 7 = .ok (.iload 4, 2) := by decide +kernel
theorem dX4_bestSet_9 : decode cX4_bestSet 9 = .ok (.aload_n 0, 1) := by decide +kernel
theorem dX4_bestSet_10 : decode cX4_bestSet 10 = .ok (.getfield 24, 3) := by decide +kernel
theorem dX4_bestSet_13 : decode cX4_bestSet 13 = .ok (.invokevirtual 82, 3) := by decide +kernel
theorem dX4_bestSet_16 : decode cX4_bestSet 16 = .ok (.if_icmp .gt 45, 3) := by decide +kernel
theorem dX4_bestSet_19 : decode cX4_bestSet 19 = .ok (.aload_n 0, 1) := by decide +kernel
theorem dX4_bestSet_20 : decode cX4_bestSet 20 = .ok (.getfield 24, 3) := by decide +kernel
theorem dX4_bestSet_23 : decode cX4_bestSet 23 = .ok (.iload 4, 2) := by decide +kernel
theorem dX4_bestSet_25 : decode cX4_bestSet 25 = .ok (.invokevirtual 86, 3) := by decide +kernel
theorem dX4_bestSet_28 : decode cX4_bestSet 28 = .ok (.iload_n 1, 1) := by decide +kernel
theorem dX4_bestSet_29 : decode cX4_bestSet 29 = .ok (.if_icmp .gt 26, 3) := by decide +kernel
theorem dX4_bestSet_32 : decode cX4_bestSet 32 = .ok (.aload_n 0, 1) := by decide +kernel
theorem dX4_bestSet_33 : decode cX4_bestSet 33 = .ok (.getfield 24, 3) := by decide +kernel
theorem dX4_bestSet_36 : decode cX4_bestSet 36 = .ok (.iload 4, 2) := by decide +kernel
theorem dX4_bestSet_38 : decode cX4_bestSet 38 = .ok (.invokevirtual 89, 3) := by decide +kernel
theorem dX4_bestSet_41 : decode cX4_bestSet 41 = .ok (.istore 5, 2) := by decide +kernel
theorem dX4_bestSet_43 : decode cX4_bestSet 43 = .ok (.iload 5, 2) := by decide +kernel
theorem dX4_bestSet_45 : decode cX4_bestSet 45 = .ok (.iload_n 3, 1) := by decide +kernel
theorem dX4_bestSet_46 : decode cX4_bestSet 46 = .ok (.if_icmp .le 9, 3) := by decide +kernel
theorem dX4_bestSet_49 : decode cX4_bestSet 49 = .ok (.iload 4, 2) := by decide +kernel
theorem dX4_bestSet_51 : decode cX4_bestSet 51 = .ok (.istore_n 2, 1) := by decide +kernel
theorem dX4_bestSet_52 : decode cX4_bestSet 52 = .ok (.iload 5, 2) := by decide +kernel
theorem dX4_bestSet_54 : decode cX4_bestSet 54 = .ok (.istore_n 3, 1) := by decide +kernel
theorem dX4_bestSet_55 : decode cX4_bestSet 55 = .ok (.iinc 4 1, 3) := by decide +kernel
theorem dX4_bestSet_58 : decode cX4_bestSet 58 = .ok (.goto (-51), 3) := by decide +kernel
theorem dX4_bestSet_61 : decode cX4_bestSet 61 = .ok (.iload_n 2, 1) := by decide +kernel
theorem dX4_bestSet_62 : decode cX4_bestSet 62 = .ok (.ireturn, 1) := by decide +kernel
theorem dX4_setsWithin_0 : decode cX4_setsWithin 0 = .ok (.iconst 0, 1) := by decide +kernel
theorem dX4_setsWithin_1 : decode cX4_setsWithin 1 = .ok (.istore_n 2, 1) := by decide +kernel
theorem dX4_setsWithin_2 : decode cX4_setsWithin 2 = .ok (.iconst 1, 1) := by decide +kernel
theorem dX4_setsWithin_3 : decode cX4_setsWithin 3 = .ok (.istore_n 3, 1) := by decide +kernel
theorem dX4_setsWithin_4 : decode cX4_setsWithin 4 = .ok (.iload_n 3, 1) := by decide +kernel
theorem dX4_setsWithin_5 : decode cX4_setsWithin 5 = .ok (.aload_n 0, 1) := by decide +kernel
theorem dX4_setsWithin_6 : decode cX4_setsWithin 6 = .ok (.getfield 24, 3) := by decide +kernel
theorem dX4_setsWithin_9 : decode cX4_setsWithin 9 = .ok (.invokevirtual 82, 3) := by decide +kernel
theorem dX4_setsWithin_12 : decode cX4_setsWithin 12 = .ok (.if_icmp .gt 24, 3) := by decide +kernel
theorem dX4_setsWithin_15 : decode cX4_setsWithin 15 = .ok (.aload_n 0, 1) := by decide +kernel
theorem dX4_setsWithin_16 : decode cX4_setsWithin 16 = .ok (.getfield 24, 3) := by decide +kernel
theorem dX4_setsWithin_19 : decode cX4_setsWithin 19 = .ok (.iload_n 3, 1) := by decide +kernel
theorem dX4_setsWithin_20 : decode cX4_setsWithin 20 = .ok (.invokevirtual 86, 3) := by decide +kernel
theorem dX4_setsWithin_23 : decode cX4_setsWithin 23 = .ok (.iload_n 1, 1) := by decide +kernel
theorem dX4_setsWithin_24 : decode cX4_setsWithin 24 = .ok (.if_icmp .gt 6, 3) := by decide +kernel
theorem dX4_setsWithin_27 : decode cX4_setsWithin 27 = .ok (.iinc 2 1, 3) := by decide +kernel
theorem dX4_setsWithin_30 : decode cX4_setsWithin 30 = .ok (.iinc 3 1, 3) := by decide +kernel
theorem dX4_setsWithin_33 : decode cX4_setsWithin 33 = .ok (.goto (-29), 3) := by decide +kernel
theorem dX4_setsWithin_36 : decode cX4_setsWithin 36 = .ok (.iload_n 2, 1) := by decide +kernel
theorem dX4_setsWithin_37 : decode cX4_setsWithin 37 = .ok (.ireturn, 1) := by decide +kernel
theorem dX4_setsOf_0 : decode cX4_setsOf 0 = .ok (.iconst 0, 1) := by decide +kernel
theorem dX4_setsOf_1 : decode cX4_setsOf 1 = .ok (.istore_n 2, 1) := by decide +kernel
theorem dX4_setsOf_2 : decode cX4_setsOf 2 = .ok (.iconst 1, 1) := by decide +kernel
theorem dX4_setsOf_3 : decode cX4_setsOf 3 = .ok (.istore_n 3, 1) := by decide +kernel
theorem dX4_setsOf_4 : decode cX4_setsOf 4 = .ok (.iload_n 3, 1) := by decide +kernel
theorem dX4_setsOf_5 : decode cX4_setsOf 5 = .ok (.aload_n 0, 1) := by decide +kernel
theorem dX4_setsOf_6 : decode cX4_setsOf 6 = .ok (.getfield 24, 3) := by decide +kernel
theorem dX4_setsOf_9 : decode cX4_setsOf 9 = .ok (.invokevirtual 82, 3) := by decide +kernel
theorem dX4_setsOf_12 : decode cX4_setsOf 12 = .ok (.if_icmp .gt 24, 3) := by decide +kernel
theorem dX4_setsOf_15 : decode cX4_setsOf 15 = .ok (.aload_n 0, 1) := by decide +kernel
theorem dX4_setsOf_16 : decode cX4_setsOf 16 = .ok (.getfield 24, 3) := by decide +kernel
theorem dX4_setsOf_19 : decode cX4_setsOf 19 = .ok (.iload_n 3, 1) := by decide +kernel
theorem dX4_setsOf_20 : decode cX4_setsOf 20 = .ok (.invokevirtual 86, 3) := by decide +kernel
theorem dX4_setsOf_23 : decode cX4_setsOf 23 = .ok (.iload_n 1, 1) := by decide +kernel
theorem dX4_setsOf_24 : decode cX4_setsOf 24 = .ok (.if_icmp .ne 6, 3) := by decide +kernel
theorem dX4_setsOf_27 : decode cX4_setsOf 27 = .ok (.iinc 2 1, 3) := by decide +kernel
theorem dX4_setsOf_30 : decode cX4_setsOf 30 = .ok (.iinc 3 1, 3) := by decide +kernel
theorem dX4_setsOf_33 : decode cX4_setsOf 33 = .ok (.goto (-29), 3) := by decide +kernel
theorem dX4_setsOf_36 : decode cX4_setsOf 36 = .ok (.iload_n 2, 1) := by decide +kernel
theorem dX4_setsOf_37 : decode cX4_setsOf 37 = .ok (.ireturn, 1) := by decide +kernel
theorem dX4_leastSetOf_0 : decode cX4_leastSetOf 0 = .ok (.iconst 1, 1) := by decide +kernel
theorem dX4_leastSetOf_1 : decode cX4_leastSetOf 1 = .ok (.istore_n 2, 1) := by decide +kernel
theorem dX4_leastSetOf_2 : decode cX4_leastSetOf 2 = .ok (.iload_n 2, 1) := by decide +kernel
theorem dX4_leastSetOf_3 : decode cX4_leastSetOf 3 = .ok (.aload_n 0, 1) := by decide +kernel
theorem dX4_leastSetOf_4 : decode cX4_leastSetOf 4 = .ok (.getfield 24, 3) := by decide +kernel
theorem dX4_leastSetOf_7 : decode cX4_leastSetOf 7 = .ok (.invokevirtual 82, 3) := by decide +kernel
theorem dX4_leastSetOf_10 : decode cX4_leastSetOf 10 = .ok (.if_icmp .gt 23, 3) := by decide +kernel
theorem dX4_leastSetOf_13 : decode cX4_leastSetOf 13 = .ok (.aload_n 0, 1) := by decide +kernel
theorem dX4_leastSetOf_14 : decode cX4_leastSetOf 14 = .ok (.getfield 24, 3) := by decide +kernel
theorem dX4_leastSetOf_17 : decode cX4_leastSetOf 17 = .ok (.iload_n 2, 1) := by decide +kernel
theorem dX4_leastSetOf_18 : decode cX4_leastSetOf 18 = .ok (.invokevirtual 86, 3) := by decide +kernel
theorem dX4_leastSetOf_21 : decode cX4_leastSetOf 21 = .ok (.iload_n 1, 1) := by decide +kernel
theorem dX4_leastSetOf_22 : decode cX4_leastSetOf 22 = .ok (.if_icmp .ne 5, 3) := by decide +kernel
theorem dX4_leastSetOf_25 : decode cX4_leastSetOf 25 = .ok (.iload_n 2, 1) := by decide +kernel
theorem dX4_leastSetOf_26 : decode cX4_leastSetOf 26 = .ok (.ireturn, 1) := by decide +kernel
theorem dX4_leastSetOf_27 : decode cX4_leastSetOf 27 = .ok (.iinc 2 1, 3) := by decide +kernel
theorem dX4_leastSetOf_30 : decode cX4_leastSetOf 30 = .ok (.goto (-28), 3) := by decide +kernel
theorem dX4_leastSetOf_33 : decode cX4_leastSetOf 33 = .ok (.iconst 0, 1) := by decide +kernel
theorem dX4_leastSetOf_34 : decode cX4_leastSetOf 34 = .ok (.ireturn, 1) := by decide +kernel
theorem dX4_fewestCarriers_0 : decode cX4_fewestCarriers 0 = .ok (.aload_n 0, 1) := by decide +kernel
theorem dX4_fewestCarriers_1 : decode cX4_fewestCarriers 1 = .ok (.getfield 24, 3) := by decide +kernel
theorem dX4_fewestCarriers_4 : decode cX4_fewestCarriers 4 = .ok (.getfield 92, 3) := by decide +kernel
theorem dX4_fewestCarriers_7 : decode cX4_fewestCarriers 7 = .ok (.iconst 0, 1) := by decide +kernel
theorem dX4_fewestCarriers_8 : decode cX4_fewestCarriers 8 = .ok (.aload_n 0, 1) := by decide +kernel
theorem dX4_fewestCarriers_9 : decode cX4_fewestCarriers 9 = .ok (.getfield 15, 3) := by decide +kernel
theorem dX4_fewestCarriers_12 : decode cX4_fewestCarriers 12 = .ok (.iconst 0, 1) := by decide +kernel
theorem dX4_fewestCarriers_13 : decode cX4_fewestCarriers 13 = .ok (.aload_n 0, 1) := by decide +kernel
theorem dX4_fewestCarriers_14 : decode cX4_fewestCarriers 14 = .ok (.getfield 15, 3) := by decide +kernel
theorem dX4_fewestCarriers_17 : decode cX4_fewestCarriers 17 = .ok (.arraylength, 1) := by decide +kernel
theorem dX4_fewestCarriers_18 : decode cX4_fewestCarriers 18 = .ok (.invokestatic 95, 3) := by decide +kernel
theorem dX4_fewestCarriers_21 : decode cX4_fewestCarriers 21 = .ok (.iconst 0, 1) := by decide +kernel
theorem dX4_fewestCarriers_22 : decode cX4_fewestCarriers 22 = .ok (.istore_n 2, 1) := by decide +kernel
theorem dX4_fewestCarriers_23 : decode cX4_fewestCarriers 23 = .ok (.iload_n 2, 1) := by decide +kernel
theorem dX4_fewestCarriers_24 : decode cX4_fewestCarriers 24 = .ok (.bipush 7, 2) := by decide +kernel
theorem dX4_fewestCarriers_26 : decode cX4_fewestCarriers 26 = .ok (.if_icmp .ge 16, 3) := by decide +kernel
theorem dX4_fewestCarriers_29 : decode cX4_fewestCarriers 29 = .ok (.aload_n 0, 1) := by decide +kernel
theorem dX4_fewestCarriers_30 : decode cX4_fewestCarriers 30 = .ok (.getfield 21, 3) := by decide +kernel
theorem dX4_fewestCarriers_33 : decode cX4_fewestCarriers 33 = .ok (.iload_n 2, 1) := by decide +kernel
theorem dX4_fewestCarriers_34 : decode cX4_fewestCarriers 34 = .ok (.iconst (-1), 1) := by decide +kernel
theorem dX4_fewestCarriers_35 : decode cX4_fewestCarriers 35 = .ok (.iastore, 1) := by decide +kernel
theorem dX4_fewestCarriers_36 : decode cX4_fewestCarriers 36 = .ok (.iinc 2 1, 3) := by decide +kernel
theorem dX4_fewestCarriers_39 : decode cX4_fewestCarriers 39 = .ok (.goto (-16), 3) := by decide +kernel
theorem dX4_fewestCarriers_42 : decode cX4_fewestCarriers 42 = .ok (.aload_n 0, 1) := by decide +kernel
theorem dX4_fewestCarriers_43 : decode cX4_fewestCarriers 43 = .ok (.iconst 5, 1) := by decide +kernel
theorem dX4_fewestCarriers_44 : decode cX4_fewestCarriers 44 = .ok (.putfield 101, 3) := by decide +kernel
theorem dX4_fewestCarriers_47 : decode cX4_fewestCarriers 47 = .ok (.aload_n 0, 1) := by decide +kernel
theorem dX4_fewestCarriers_48 : decode cX4_fewestCarriers 48 = .ok (.iconst 0, 1) := by decide +kernel
theorem dX4_fewestCarriers_49 : decode cX4_fewestCarriers 49 = .ok (.iconst 0, 1) := by decide +kernel
theorem dX4_fewestCarriers_50 : decode cX4_fewestCarriers 50 = .ok (.iload_n 1, 1) := by decide +kernel
theorem dX4_fewestCarriers_51 : decode cX4_fewestCarriers 51 = .ok (.invokevirtual 104, 3) := by decide +kernel
theorem dX4_fewestCarriers_54 : decode cX4_fewestCarriers 54 = .ok (.aload_n 0, 1) := by decide +kernel
theorem dX4_fewestCarriers_55 : decode cX4_fewestCarriers 55 = .ok (.getfield 101, 3) := by decide +kernel
theorem dX4_fewestCarriers_58 : decode cX4_fewestCarriers 58 = .ok (.iconst 4, 1) := by decide +kernel
theorem dX4_fewestCarriers_59 : decode cX4_fewestCarriers 59 = .ok (.if_icmp .le 7, 3) := by decide +kernel
theorem dX4_fewestCarriers_62 : decode cX4_fewestCarriers 62 = .ok (.iconst (-1), 1) := by decide +kernel
theorem dX4_fewestCarriers_63 : decode cX4_fewestCarriers 63 = .ok (.goto 7, 3) := by decide +kernel
theorem dX4_fewestCarriers_66 : decode cX4_fewestCarriers 66 = .ok (.aload_n 0, 1) := by decide +kernel
theorem dX4_fewestCarriers_67 : decode cX4_fewestCarriers 67 = .ok (.getfield 101, 3) := by decide +kernel
theorem dX4_fewestCarriers_70 : decode cX4_fewestCarriers 70 = .ok (.ireturn, 1) := by decide +kernel
theorem dX4_carrierOf_0 : decode cX4_carrierOf 0 = .ok (.iload_n 1, 1) := by decide +kernel
theorem dX4_carrierOf_1 : decode cX4_carrierOf 1 = .ok (.iconst 0, 1) := by decide +kernel
theorem dX4_carrierOf_2 : decode cX4_carrierOf 2 = .ok (.bipush 6, 2) := by decide +kernel
theorem dX4_carrierOf_4 : decode cX4_carrierOf 4 = .ok (.invokestatic 41, 3) := by decide +kernel
theorem dX4_carrierOf_7 : decode cX4_carrierOf 7 = .ok (.ifCond .eq 12, 3) := by decide +kernel
theorem dX4_carrierOf_10 : decode cX4_carrierOf 10 = .ok (.aload_n 0, 1) := by decide +kernel
theorem dX4_carrierOf_11 : decode cX4_carrierOf 11 = .ok (.getfield 21, 3) := by decide +kernel
theorem dX4_carrierOf_14 : decode cX4_carrierOf 14 = .ok (.iload_n 1, 1) := by decide +kernel
theorem dX4_carrierOf_15 : decode cX4_carrierOf 15 = .ok (.iaload, 1) := by decide +kernel
theorem dX4_carrierOf_16 : decode cX4_carrierOf 16 = .ok (.goto 4, 3) := by decide +kernel
theorem dX4_carrierOf_19 : decode cX4_carrierOf 19 = .ok (.iconst (-1), 1) := by decide +kernel
theorem dX4_carrierOf_20 : decode cX4_carrierOf 20 = .ok (.ireturn, 1) := by decide +kernel
theorem dX4_placeFrom_0 : decode cX4_placeFrom 0 = .ok (.iload_n 2, 1) := by decide +kernel
theorem dX4_placeFrom_1 : decode cX4_placeFrom 1 = .ok (.invokestatic 108, 3) := by decide +kernel
theorem dX4_placeFrom_4 : decode cX4_placeFrom 4 = .ok (.istore 4, 2) := by decide +kernel
theorem dX4_placeFrom_6 : decode cX4_placeFrom 6 = .ok (.iload 4, 2) := by decide +kernel
theorem dX4_placeFrom_8 : decode cX4_placeFrom 8 = .ok (.aload_n 0, 1) := by decide +kernel
theorem dX4_placeFrom_9 : decode cX4_placeFrom 9 = .ok (.getfield 101, 3) := by decide +kernel
theorem dX4_placeFrom_12 : decode cX4_placeFrom 12 = .ok (.if_icmp .lt 4, 3) := by decide +kernel
theorem dX4_placeFrom_15 : decode cX4_placeFrom 15 = .ok (.return_, 1) := by decide +kernel
theorem dX4_placeFrom_16 : decode cX4_placeFrom 16 = .ok (.iload_n 1, 1) := by decide +kernel
theorem dX4_placeFrom_17 : decode cX4_placeFrom 17 = .ok (.aload_n 0, 1) := by decide +kernel
theorem dX4_placeFrom_18 : decode cX4_placeFrom 18 = .ok (.getfield 24, 3) := by decide +kernel
theorem dX4_placeFrom_21 : decode cX4_placeFrom 21 = .ok (.getfield 45, 3) := by decide +kernel
theorem dX4_placeFrom_24 : decode cX4_placeFrom 24 = .ok (.if_icmp .ge 9, 3) := by decide +kernel
theorem dX4_placeFrom_27 : decode cX4_placeFrom 27 = .ok (.iload_n 1, 1) := by decide +kernel
theorem dX4_placeFrom_28 : decode cX4_placeFrom 28 = .ok (.bipush 7, 2) := by decide +kernel
theorem dX4_placeFrom_30 : decode cX4_placeFrom 30 = .ok (.if_icmp .lt 30, 3) := by decide +kernel
theorem dX4_placeFrom_33 : decode cX4_placeFrom 33 = .ok (.aload_n 0, 1) := by decide +kernel
theorem dX4_placeFrom_34 : decode cX4_placeFrom 34 = .ok (.iload 4, 2) := by decide +kernel
theorem dX4_placeFrom_36 : decode cX4_placeFrom 36 = .ok (.putfield 101, 3) := by decide +kernel
theorem dX4_placeFrom_39 : decode cX4_placeFrom 39 = .ok (.aload_n 0, 1) := by decide +kernel
theorem dX4_placeFrom_40 : decode cX4_placeFrom 40 = .ok (.getfield 18, 3) := by decide +kernel
theorem dX4_placeFrom_43 : decode cX4_placeFrom 43 = .ok (.iconst 0, 1) := by decide +kernel
theorem dX4_placeFrom_44 : decode cX4_placeFrom 44 = .ok (.aload_n 0, 1) := by decide +kernel
theorem dX4_placeFrom_45 : decode cX4_placeFrom 45 = .ok (.getfield 21, 3) := by decide +kernel
theorem dX4_placeFrom_48 : decode cX4_placeFrom 48 = .ok (.iconst 0, 1) := by decide +kernel
theorem dX4_placeFrom_49 : decode cX4_placeFrom 49 = .ok (.aload_n 0, 1) := by decide +kernel
theorem dX4_placeFrom_50 : decode cX4_placeFrom 50 = .ok (.getfield 24, 3) := by decide +kernel
theorem dX4_placeFrom_53 : decode cX4_placeFrom 53 = .ok (.getfield 45, 3) := by decide +kernel
theorem dX4_placeFrom_56 : decode cX4_placeFrom 56 = .ok (.invokestatic 95, 3) := by decide +kernel
theorem dX4_placeFrom_59 : decode cX4_placeFrom 59 = .ok (.return_, 1) := by decide +kernel
theorem dX4_placeFrom_60 : decode cX4_placeFrom 60 = .ok (.aload_n 0, 1) := by decide +kernel
theorem dX4_placeFrom_61 : decode cX4_placeFrom 61 = .ok (.getfield 24, 3) := by decide +kernel
theorem dX4_placeFrom_64 : decode cX4_placeFrom 64 = .ok (.getfield 48, 3) := by decide +kernel
theorem dX4_placeFrom_67 : decode cX4_placeFrom 67 = .ok (.iload_n 1, 1) := by decide +kernel
theorem dX4_placeFrom_68 : decode cX4_placeFrom 68 = .ok (.aaload, 1) := by decide +kernel
theorem dX4_placeFrom_69 : decode cX4_placeFrom 69 = .ok (.getfield 52, 3) := by decide +kernel
theorem dX4_placeFrom_72 : decode cX4_placeFrom 72 = .ok (.istore 5, 2) := by decide +kernel
theorem dX4_placeFrom_74 : decode cX4_placeFrom 74 = .ok (.iload 5, 2) := by decide +kernel
theorem dX4_placeFrom_76 : decode cX4_placeFrom 76 = .ok (.iload_n 3, 1) := by decide +kernel
theorem dX4_placeFrom_77 : decode cX4_placeFrom 77 = .ok (.if_icmp .gt 20, 3) := by decide +kernel
theorem dX4_placeFrom_80 : decode cX4_placeFrom 80 = .ok (.aload_n 0, 1) := by decide +kernel
theorem dX4_placeFrom_81 : decode cX4_placeFrom 81 = .ok (.getfield 18, 3) := by decide +kernel
theorem dX4_placeFrom_84 : decode cX4_placeFrom 84 = .ok (.iload_n 1, 1) := by decide +kernel
theorem dX4_placeFrom_85 : decode cX4_placeFrom 85 = .ok (.iconst (-1), 1) := by decide +kernel
theorem dX4_placeFrom_86 : decode cX4_placeFrom 86 = .ok (.iastore, 1) := by decide +kernel
theorem dX4_placeFrom_87 : decode cX4_placeFrom 87 = .ok (.aload_n 0, 1) := by decide +kernel
theorem dX4_placeFrom_88 : decode cX4_placeFrom 88 = .ok (.iload_n 1, 1) := by decide +kernel
theorem dX4_placeFrom_89 : decode cX4_placeFrom 89 = .ok (.iconst 1, 1) := by decide +kernel
theorem dX4_placeFrom_90 : decode cX4_placeFrom 90 = .ok (.iadd, 1) := by decide +kernel
theorem dX4_placeFrom_91 : decode cX4_placeFrom 91 = .ok (.iload_n 2, 1) := by decide +kernel
theorem dX4_placeFrom_92 : decode cX4_placeFrom 92 = .ok (.iload_n 3, 1) := by decide +kernel
theorem dX4_placeFrom_93 : decode cX4_placeFrom 93 = .ok (.invokevirtual 104, 3) := by decide +kernel
theorem dX4_placeFrom_96 : decode cX4_placeFrom 96 = .ok (.return_, 1) := by decide +kernel
theorem dX4_placeFrom_97 : decode cX4_placeFrom 97 = .ok (.iconst 0, 1) := by decide +kernel
theorem dX4_placeFrom_98 : decode cX4_placeFrom 98 = .ok (.istore 6, 2) := by decide +kernel
theorem dX4_placeFrom_100 : decode cX4_placeFrom 100 = .ok (.iload 6, 2) := by decide +kernel
theorem dX4_placeFrom_102 : decode cX4_placeFrom 102 = .ok (.aload_n 0, 1) := by decide +kernel
theorem dX4_placeFrom_103 : decode cX4_placeFrom 103 = .ok (.getfield 24, 3) := by decide +kernel
theorem dX4_placeFrom_106 : decode cX4_placeFrom 106 = .ok (.getfield 113, 3) := by decide +kernel
theorem dX4_placeFrom_109 : decode cX4_placeFrom 109 = .ok (.if_icmp .ge 67, 3) := by decide +kernel
theorem dX4_placeFrom_112 : decode cX4_placeFrom 112 = .ok (.iload 5, 2) := by decide +kernel
theorem dX4_placeFrom_114 : decode cX4_placeFrom 114 = .ok (.aload_n 0, 1) := by decide +kernel
theorem dX4_placeFrom_115 : decode cX4_placeFrom 115 = .ok (.getfield 15, 3) := by decide +kernel
theorem dX4_placeFrom_118 : decode cX4_placeFrom 118 = .ok (.iload 6, 2) := by decide +kernel
theorem dX4_placeFrom_120 : decode cX4_placeFrom 120 = .ok (.iaload, 1) := by decide +kernel
theorem dX4_placeFrom_121 : decode cX4_placeFrom 121 = .ok (.if_icmp .gt 49, 3) := by decide +kernel
theorem dX4_placeFrom_124 : decode cX4_placeFrom 124 = .ok (.aload_n 0, 1) := by decide +kernel
theorem dX4_placeFrom_125 : decode cX4_placeFrom 125 = .ok (.getfield 15, 3) := by decide +kernel
theorem dX4_placeFrom_128 : decode cX4_placeFrom 128 = .ok (.iload 6, 2) := by decide +kernel
theorem dX4_placeFrom_130 : decode cX4_placeFrom 130 = .ok (.dup2, 1) := by decide +kernel
theorem dX4_placeFrom_131 : decode cX4_placeFrom 131 = .ok (.iaload, 1) := by decide +kernel
theorem dX4_placeFrom_132 : decode cX4_placeFrom 132 = .ok (.iload 5, 2) := by decide +kernel
theorem dX4_placeFrom_134 : decode cX4_placeFrom 134 = .ok (.isub, 1) := by decide +kernel
theorem dX4_placeFrom_135 : decode cX4_placeFrom 135 = .ok (.iastore, 1) := by decide +kernel
theorem dX4_placeFrom_136 : decode cX4_placeFrom 136 = .ok (.aload_n 0, 1) := by decide +kernel
theorem dX4_placeFrom_137 : decode cX4_placeFrom 137 = .ok (.getfield 18, 3) := by decide +kernel
theorem dX4_placeFrom_140 : decode cX4_placeFrom 140 = .ok (.iload_n 1, 1) := by decide +kernel
theorem dX4_placeFrom_141 : decode cX4_placeFrom 141 = .ok (.iload 6, 2) := by decide +kernel
theorem dX4_placeFrom_143 : decode cX4_placeFrom 143 = .ok (.iastore, 1) := by decide +kernel
theorem dX4_placeFrom_144 : decode cX4_placeFrom 144 = .ok (.aload_n 0, 1) := by decide +kernel
theorem dX4_placeFrom_145 : decode cX4_placeFrom 145 = .ok (.iload_n 1, 1) := by decide +kernel
theorem dX4_placeFrom_146 : decode cX4_placeFrom 146 = .ok (.iconst 1, 1) := by decide +kernel
theorem dX4_placeFrom_147 : decode cX4_placeFrom 147 = .ok (.iadd, 1) := by decide +kernel
theorem dX4_placeFrom_148 : decode cX4_placeFrom 148 = .ok (.iload_n 2, 1) := by decide +kernel
theorem dX4_placeFrom_149 : decode cX4_placeFrom 149 = .ok (.iconst 1, 1) := by decide +kernel
theorem dX4_placeFrom_150 : decode cX4_placeFrom 150 = .ok (.iload 6, 2) := by decide +kernel
theorem dX4_placeFrom_152 : decode cX4_placeFrom 152 = .ok (.ishl, 1) := by decide +kernel
theorem dX4_placeFrom_153 : decode cX4_placeFrom 153 = .ok (.ior, 1) := by decide +kernel
theorem dX4_placeFrom_154 : decode cX4_placeFrom 154 = .ok (.iload_n 3, 1) := by decide +kernel
theorem dX4_placeFrom_155 : decode cX4_placeFrom 155 = .ok (.invokevirtual 104, 3) := by decide +kernel
theorem dX4_placeFrom_158 : decode cX4_placeFrom 158 = .ok (.aload_n 0, 1) := by decide +kernel
theorem dX4_placeFrom_159 : decode cX4_placeFrom 159 = .ok (.getfield 15, 3) := by decide +kernel
theorem dX4_placeFrom_162 : decode cX4_placeFrom 162 = .ok (.iload 6, 2) := by decide +kernel
theorem dX4_placeFrom_164 : decode cX4_placeFrom 164 = .ok (.dup2, 1) := by decide +kernel
theorem dX4_placeFrom_165 : decode cX4_placeFrom 165 = .ok (.iaload, 1) := by decide +kernel
theorem dX4_placeFrom_166 : decode cX4_placeFrom 166 = .ok (.iload 5, 2) := by decide +kernel
theorem dX4_placeFrom_168 : decode cX4_placeFrom 168 = .ok (.iadd, 1) := by decide +kernel
theorem dX4_placeFrom_169 : decode cX4_placeFrom 169 = .ok (.iastore, 1) := by decide +kernel
theorem dX4_placeFrom_170 : decode cX4_placeFrom 170 = .ok (.iinc 6 1, 3) := by decide +kernel
theorem dX4_placeFrom_173 : decode cX4_placeFrom 173 = .ok (.goto (-73), 3) := by decide +kernel
theorem dX4_placeFrom_176 : decode cX4_placeFrom 176 = .ok (.return_, 1) := by decide +kernel
theorem dX5_init_0 : decode cX5_init 0 = .ok (.aload_n 0, 1) := by decide +kernel
theorem dX5_init_1 : decode cX5_init 1 = .ok (.invokespecial 3, 3) := by decide +kernel
theorem dX5_init_4 : decode cX5_init 4 = .ok (.aload_n 0, 1) := by decide +kernel
theorem dX5_init_5 : decode cX5_init 5 = .ok (.bipush 30, 2) := by decide +kernel
theorem dX5_init_7 : decode cX5_init 7 = .ok (.newarray .int, 2) := by decide +kernel
theorem dX5_init_9 : decode cX5_init 9 = .ok (.putfield 11, 3) := by decide +kernel
theorem dX5_init_12 : decode cX5_init 12 = .ok (.return_, 1) := by decide +kernel
theorem dX5_answerOf_0 : decode cX5_answerOf 0 = .ok (.aload_n 0, 1) := by decide +kernel
theorem dX5_answerOf_1 : decode cX5_answerOf 1 = .ok (.iload_n 1, 1) := by decide +kernel
theorem dX5_answerOf_2 : decode cX5_answerOf 2 = .ok (.putfield 15, 3) := by decide +kernel
theorem dX5_answerOf_5 : decode cX5_answerOf 5 = .ok (.aload_n 0, 1) := by decide +kernel
theorem dX5_answerOf_6 : decode cX5_answerOf 6 = .ok (.aload_n 2, 1) := by decide +kernel
theorem dX5_answerOf_7 : decode cX5_answerOf 7 = .ok (.getfield 19, 3) := by decide +kernel
theorem dX5_answerOf_10 : decode cX5_answerOf 10 = .ok (.putfield 24, 3) := by decide +kernel
theorem dX5_answerOf_13 : decode cX5_answerOf 13 = .ok (.aload_n 0, 1) := by decide +kernel
theorem dX5_answerOf_14 : decode cX5_answerOf 14 = .ok (.aload_n 2, 1) := by decide +kernel
theorem dX5_answerOf_15 : decode cX5_answerOf 15 = .ok (.getfield 25, 3) := by decide +kernel
theorem dX5_answerOf_18 : decode cX5_answerOf 18 = .ok (.putfield 28, 3) := by decide +kernel
theorem dX5_answerOf_21 : decode cX5_answerOf 21 = .ok (.aload_n 0, 1) := by decide +kernel
theorem dX5_answerOf_22 : decode cX5_answerOf 22 = .ok (.iconst 0, 1) := by decide +kernel
theorem dX5_answerOf_23 : decode cX5_answerOf 23 = .ok (.putfield 29, 3) := by decide +kernel
theorem dX5_answerOf_26 : decode cX5_answerOf 26 = .ok (.aload_n 0, 1) := by decide +kernel
theorem dX5_answerOf_27 : decode cX5_answerOf 27 = .ok (.iconst 0, 1) := by decide +kernel
theorem dX5_answerOf_28 : decode cX5_answerOf 28 = .ok (.putfield 32, 3) := by decide +kernel
theorem dX5_answerOf_31 : decode cX5_answerOf 31 = .ok (.aload_n 0, 1) := by decide +kernel
theorem dX5_answerOf_32 : decode cX5_answerOf 32 = .ok (.aload_n 0, 1) := by decide +kernel
theorem dX5_answerOf_33 : decode cX5_answerOf 33 = .ok (.getfield 28, 3) := by decide +kernel
theorem dX5_answerOf_36 : decode cX5_answerOf 36 = .ok (.iload_n 3, 1) := by decide +kernel
theorem dX5_answerOf_37 : decode cX5_answerOf 37 = .ok (.iload 4, 2) := by decide +kernel
theorem dX5_answerOf_39 : decode cX5_answerOf 39 = .ok (.iconst 0, 1) := by decide +kernel
theorem dX5_answerOf_40 : decode cX5_answerOf 40 = .ok (.invokevirtual 36, 3) := by decide +kernel
theorem dX5_answerOf_43 : decode cX5_answerOf 43 = .ok (.ireturn, 1) := by decide +kernel
theorem dX5_spoken_0 : decode cX5_spoken 0 = .ok (.iload_n 1, 1) := by decide +kernel
theorem dX5_spoken_1 : decode cX5_spoken 1 = .ok (.iload_n 2, 1) := by decide +kernel
theorem dX5_spoken_2 : decode cX5_spoken 2 = .ok (.invokestatic 40, 3) := by decide +kernel
theorem dX5_spoken_5 : decode cX5_spoken 5 = .ok (.istore 5, 2) := by decide +kernel
theorem dX5_spoken_7 : decode cX5_spoken 7 = .ok (.iload 5, 2) := by decide +kernel
theorem dX5_spoken_9 : decode cX5_spoken 9 = .ok (.ifCond .lt 10, 3) := by decide +kernel
theorem dX5_spoken_12 : decode cX5_spoken 12 = .ok (.iload 4, 2) := by decide +kernel
theorem dX5_spoken_14 : decode cX5_spoken 14 = .ok (.bipush 20, 2) := by decide +kernel
theorem dX5_spoken_16 : decode cX5_spoken 16 = .ok (.if_icmp .le 5, 3) := by decide +kernel
theorem dX5_spoken_19 : decode cX5_spoken 19 = .ok (.iconst 0, 1) := by decide +kernel
theorem dX5_spoken_20 : decode cX5_spoken 20 = .ok (.ireturn, 1) := by decide +kernel
theorem dX5_spoken_21 : decode cX5_spoken 21 = .ok (.iload 5, 2) := by decide +kernel
theorem dX5_spoken_23 : decode cX5_spoken 23 = .ok (.iload_n 2, 1) := by decide +kernel
theorem dX5_spoken_24 : decode cX5_spoken 24 = .ok (.invokestatic 44, 3) := by decide +kernel
theorem dX5_spoken_27 : decode cX5_spoken 27 = .ok (.istore 6, 2) := by decide +kernel
theorem dX5_spoken_29 : decode cX5_spoken 29 = .ok (.aload_n 0, 1) := by decide +kernel
theorem dX5_spoken_30 : decode cX5_spoken 30 = .ok (.getfield 29, 3) := by decide +kernel
theorem dX5_spoken_33 : decode cX5_spoken 33 = .ok (.bipush 30, 2) := by decide +kernel
theorem dX5_spoken_35 : decode cX5_spoken 35 = .ok (.if_icmp .ge 24, 3) := by decide +kernel
theorem dX5_spoken_38 : decode cX5_spoken 38 = .ok (.aload_n 0, 1) := by decide +kernel
theorem dX5_spoken_39 : decode cX5_spoken 39 = .ok (.getfield 11, 3) := by decide +kernel
theorem dX5_spoken_42 : decode cX5_spoken 42 = .ok (.aload_n 0, 1) := by decide +kernel
theorem dX5_spoken_43 : decode cX5_spoken 43 = .ok (.getfield 29, 3) := by decide +kernel
theorem dX5_spoken_46 : decode cX5_spoken 46 = .ok (.iload 6, 2) := by decide +kernel
theorem dX5_spoken_48 : decode cX5_spoken 48 = .ok (.iastore, 1) := by decide +kernel
theorem dX5_spoken_49 : decode cX5_spoken 49 = .ok (.aload_n 0, 1) := by decide +kernel
theorem dX5_spoken_50 : decode cX5_spoken 50 = .ok (.dup, 1) := by decide +kernel
theorem dX5_spoken_51 : decode cX5_spoken 51 = .ok (.getfield 29, 3) := by decide +kernel
theorem dX5_spoken_54 : decode cX5_spoken 54 = .ok (.iconst 1, 1) := by decide +kernel
theorem dX5_spoken_55 : decode cX5_spoken 55 = .ok (.iadd, 1) := by decide +kernel
theorem dX5_spoken_56 : decode cX5_spoken 56 = .ok (.putfield 29, 3) := by decide +kernel
theorem dX5_spoken_59 : decode cX5_spoken 59 = .ok (.aload_n 0, 1) := by decide +kernel
theorem dX5_spoken_60 : decode cX5_spoken 60 = .ok (.iload 6, 2) := by decide +kernel
theorem dX5_spoken_62 : decode cX5_spoken 62 = .ok (.iload 5, 2) := by decide +kernel
theorem dX5_spoken_64 : decode cX5_spoken 64 = .ok (.invokestatic 47, 3) := by decide +kernel
theorem dX5_spoken_67 : decode cX5_spoken 67 = .ok (.iload_n 3, 1) := by decide +kernel
theorem dX5_spoken_68 : decode cX5_spoken 68 = .ok (.iload 4, 2) := by decide +kernel
theorem dX5_spoken_70 : decode cX5_spoken 70 = .ok (.iconst 1, 1) := by decide +kernel
theorem dX5_spoken_71 : decode cX5_spoken 71 = .ok (.iadd, 1) := by decide +kernel
theorem dX5_spoken_72 : decode cX5_spoken 72 = .ok (.invokevirtual 51, 3) := by decide +kernel
theorem dX5_spoken_75 : decode cX5_spoken 75 = .ok (.ireturn, 1) := by decide +kernel
theorem dX5_ownerOf_0 : decode cX5_ownerOf 0 = .ok (.iload_n 0, 1) := by decide +kernel
theorem dX5_ownerOf_1 : decode cX5_ownerOf 1 = .ok (.istore_n 2, 1) := by decide +kernel
theorem dX5_ownerOf_2 : decode cX5_ownerOf 2 = .ok (.iconst 0, 1) := by decide +kernel
theorem dX5_ownerOf_3 : decode cX5_ownerOf 3 = .ok (.istore_n 3, 1) := by decide +kernel
theorem dX5_ownerOf_4 : decode cX5_ownerOf 4 = .ok (.iload_n 3, 1) := by decide +kernel
theorem dX5_ownerOf_5 : decode cX5_ownerOf 5 = .ok (.bipush 7, 2) := by decide +kernel
theorem dX5_ownerOf_7 : decode cX5_ownerOf 7 = .ok (.if_icmp .ge 26, 3) := by decide +kernel
theorem dX5_ownerOf_10 : decode cX5_ownerOf 10 = .ok (.iload_n 2, 1) := by decide +kernel
theorem dX5_ownerOf_11 : decode cX5_ownerOf 11 = .ok (.ifCond .lt 22, 3) := by decide +kernel
theorem dX5_ownerOf_14 : decode cX5_ownerOf 14 = .ok (.iload_n 2, 1) := by decide +kernel
theorem dX5_ownerOf_15 : decode cX5_ownerOf 15 = .ok (.iload_n 1, 1) := by decide +kernel
theorem dX5_ownerOf_16 : decode cX5_ownerOf 16 = .ok (.invokestatic 44, 3) := by decide +kernel
theorem dX5_ownerOf_19 : decode cX5_ownerOf 19 = .ok (.ifCond .ne 14, 3) := by decide +kernel
theorem dX5_ownerOf_22 : decode cX5_ownerOf 22 = .ok (.iload_n 2, 1) := by decide +kernel
theorem dX5_ownerOf_23 : decode cX5_ownerOf 23 = .ok (.invokestatic 47, 3) := by decide +kernel
theorem dX5_ownerOf_26 : decode cX5_ownerOf 26 = .ok (.istore_n 2, 1) := by decide +kernel
theorem dX5_ownerOf_27 : decode cX5_ownerOf 27 = .ok (.iinc 3 1, 3) := by decide +kernel
theorem dX5_ownerOf_30 : decode cX5_ownerOf 30 = .ok (.goto (-26), 3) := by decide +kernel
theorem dX5_ownerOf_33 : decode cX5_ownerOf 33 = .ok (.iload_n 2, 1) := by decide +kernel
theorem dX5_ownerOf_34 : decode cX5_ownerOf 34 = .ok (.ireturn, 1) := by decide +kernel
theorem dX5_bodyOf_0 : decode cX5_bodyOf 0 = .ok (.iconst 4, 1) := by decide +kernel
theorem dX5_bodyOf_1 : decode cX5_bodyOf 1 = .ok (.iload_n 0, 1) := by decide +kernel
theorem dX5_bodyOf_2 : decode cX5_bodyOf 2 = .ok (.imul, 1) := by decide +kernel
theorem dX5_bodyOf_3 : decode cX5_bodyOf 3 = .ok (.iload_n 1, 1) := by decide +kernel
theorem dX5_bodyOf_4 : decode cX5_bodyOf 4 = .ok (.iadd, 1) := by decide +kernel
theorem dX5_bodyOf_5 : decode cX5_bodyOf 5 = .ok (.istore_n 2, 1) := by decide +kernel
theorem dX5_bodyOf_6 : decode cX5_bodyOf 6 = .ok (.iload_n 2, 1) := by decide +kernel
theorem dX5_bodyOf_7 : decode cX5_bodyOf 7 = .ok (.iconst 0, 1) := by decide +kernel
theorem dX5_bodyOf_8 : decode cX5_bodyOf 8 = .ok (.getstatic 54, 3) := by decide +kernel
theorem dX5_bodyOf_11 : decode cX5_bodyOf 11 = .ok (.arraylength, 1) := by decide +kernel
theorem dX5_bodyOf_12 : decode cX5_bodyOf 12 = .ok (.iconst 1, 1) := by decide +kernel
theorem dX5_bodyOf_13 : decode cX5_bodyOf 13 = .ok (.isub, 1) := by decide +kernel
theorem dX5_bodyOf_14 : decode cX5_bodyOf 14 = .ok (.invokestatic 57, 3) := by decide +kernel
theorem dX5_bodyOf_17 : decode cX5_bodyOf 17 = .ok (.ifCond .eq 11, 3) := by decide +kernel
theorem dX5_bodyOf_20 : decode cX5_bodyOf 20 = .ok (.getstatic 54, 3) := by decide +kernel
theorem dX5_bodyOf_23 : decode cX5_bodyOf 23 = .ok (.iload_n 2, 1) := by decide +kernel
theorem dX5_bodyOf_24 : decode cX5_bodyOf 24 = .ok (.iaload, 1) := by decide +kernel
theorem dX5_bodyOf_25 : decode cX5_bodyOf 25 = .ok (.goto 4, 3) := by decide +kernel
theorem dX5_bodyOf_28 : decode cX5_bodyOf 28 = .ok (.iconst 0, 1) := by decide +kernel
theorem dX5_bodyOf_29 : decode cX5_bodyOf 29 = .ok (.ireturn, 1) := by decide +kernel
theorem dX5_workedOut_0 : decode cX5_workedOut 0 = .ok (.iload_n 1, 1) := by decide +kernel
theorem dX5_workedOut_1 : decode cX5_workedOut 1 = .ok (.lookupswitch 263 #[(10, 115), (11, 122), (12, 137), (13, 155), (20, 161), (21, 173), (30, 182), (40, 194), (50, 206), (51, 218), (60, 233), (70, 245), (71, 248)], 115) := by decide +kernel
theorem dX5_workedOut_116 : decode cX5_workedOut 116 = .ok (.iload_n 3, 1) := by decide +kernel
theorem dX5_workedOut_117 : decode cX5_workedOut 117 = .ok (.aload_n 0, 1) := by decide +kernel
theorem dX5_workedOut_118 : decode cX5_workedOut 118 = .ok (.getfield 15, 3) := by decide +kernel
theorem dX5_workedOut_121 : decode cX5_workedOut 121 = .ok (.iadd, 1) := by decide +kernel
theorem dX5_workedOut_122 : decode cX5_workedOut 122 = .ok (.ireturn, 1) := by decide +kernel
theorem dX5_workedOut_123 : decode cX5_workedOut 123 = .ok (.aload_n 0, 1) := by decide +kernel
theorem dX5_workedOut_124 : decode cX5_workedOut 124 = .ok (.aload_n 0, 1) := by decide +kernel
theorem dX5_workedOut_125 : decode cX5_workedOut 125 = .ok (.getfield 28, 3) := by decide +kernel
theorem dX5_workedOut_128 : decode cX5_workedOut 128 = .ok (.iconst 0, 1) := by decide +kernel
theorem dX5_workedOut_129 : decode cX5_workedOut 129 = .ok (.iload_n 3, 1) := by decide +kernel
theorem dX5_workedOut_130 : decode cX5_workedOut 130 = .ok (.iload 4, 2) := by decide +kernel
theorem dX5_workedOut_132 : decode cX5_workedOut 132 = .ok (.invokevirtual 36, 3) := by decide +kernel
theorem dX5_workedOut_135 : decode cX5_workedOut 135 = .ok (.iconst 2, 1) := by decide +kernel
theorem dX5_workedOut_136 : decode cX5_workedOut 136 = .ok (.imul, 1) := by decide +kernel
theorem dX5_workedOut_137 : decode cX5_workedOut 137 = .ok (.ireturn, 1) := by decide +kernel
theorem dX5_workedOut_138 : decode cX5_workedOut 138 = .ok (.aload_n 0, 1) := by decide +kernel
theorem dX5_workedOut_139 : decode cX5_workedOut 139 = .ok (.aload_n 0, 1) := by decide +kernel
theorem dX5_workedOut_140 : decode cX5_workedOut 140 = .ok (.getfield 28, 3) := by decide +kernel
theorem dX5_workedOut_143 : decode cX5_workedOut 143 = .ok (.iconst 1, 1) := by decide +kernel
theorem dX5_workedOut_144 : decode cX5_workedOut 144 = .ok (.iload_n 3, 1) := by decide +kernel
theorem dX5_workedOut_145 : decode cX5_workedOut 145 = .ok (.iload 4, 2) := by decide +kernel
theorem dX5_workedOut_147 : decode cX5_workedOut 147 = .ok (.invokevirtual 36, 3) := by decide +kernel
theorem dX5_workedOut_150 : decode cX5_workedOut 150 = .ok (.aload_n 0, 1) := by decide +kernel
theorem dX5_workedOut_151 : decode cX5_workedOut 151 = .ok (.getfield 24, 3) := by decide +kernel
theorem dX5_workedOut_154 : decode cX5_workedOut 154 = .ok (.isub, 1) := by decide +kernel
theorem dX5_workedOut_155 : decode cX5_workedOut 155 = .ok (.ireturn, 1) := by decide +kernel
theorem dX5_workedOut_156 : decode cX5_workedOut 156 = .ok (.aload_n 0, 1) := by decide +kernel
theorem dX5_workedOut_157 : decode cX5_workedOut 157 = .ok (.iload_n 3, 1) := by decide +kernel
theorem dX5_workedOut_158 : decode cX5_workedOut 158 = .ok (.invokevirtual 61, 3) := by decide +kernel
theorem dX5_workedOut_161 : decode cX5_workedOut 161 = .ok (.ireturn, 1) := by decide +kernel
theorem dX5_workedOut_162 : decode cX5_workedOut 162 = .ok (.aload_n 0, 1) := by decide +kernel
theorem dX5_workedOut_163 : decode cX5_workedOut 163 = .ok (.iload_n 2, 1) := by decide +kernel
theorem dX5_workedOut_164 : decode cX5_workedOut 164 = .ok (.iconst 0, 1) := by decide +kernel
theorem dX5_workedOut_165 : decode cX5_workedOut 165 = .ok (.iload_n 3, 1) := by decide +kernel
theorem dX5_workedOut_166 : decode cX5_workedOut 166 = .ok (.iload 4, 2) := by decide +kernel
theorem dX5_workedOut_168 : decode cX5_workedOut 168 = .ok (.invokevirtual 36, 3) := by decide +kernel
theorem dX5_workedOut_171 : decode cX5_workedOut 171 = .ok (.iconst 4, 1) := by decide +kernel
theorem dX5_workedOut_172 : decode cX5_workedOut 172 = .ok (.isub, 1) := by decide +kernel
theorem dX5_workedOut_173 : decode cX5_workedOut 173 = .ok (.ireturn, 1) := by decide +kernel
theorem dX5_workedOut_174 : decode cX5_workedOut 174 = .ok (.aload_n 0, 1) := by decide +kernel
theorem dX5_workedOut_175 : decode cX5_workedOut 175 = .ok (.iload_n 2, 1) := by decide +kernel
theorem dX5_workedOut_176 : decode cX5_workedOut 176 = .ok (.iload_n 3, 1) := by decide +kernel
theorem dX5_workedOut_177 : decode cX5_workedOut 177 = .ok (.iload 4, 2) := by decide +kernel
theorem dX5_workedOut_179 : decode cX5_workedOut 179 = .ok (.invokevirtual 64, 3) := by decide +kernel
theorem dX5_workedOut_182 : decode cX5_workedOut 182 = .ok (.ireturn, 1) := by decide +kernel
theorem dX5_workedOut_183 : decode cX5_workedOut 183 = .ok (.iconst 0, 1) := by decide +kernel
theorem dX5_workedOut_184 : decode cX5_workedOut 184 = .ok (.aload_n 0, 1) := by decide +kernel
theorem dX5_workedOut_185 : decode cX5_workedOut 185 = .ok (.iload_n 2, 1) := by decide +kernel
theorem dX5_workedOut_186 : decode cX5_workedOut 186 = .ok (.iconst 1, 1) := by decide +kernel
theorem dX5_workedOut_187 : decode cX5_workedOut 187 = .ok (.iload_n 3, 1) := by decide +kernel
theorem dX5_workedOut_188 : decode cX5_workedOut 188 = .ok (.iload 4, 2) := by decide +kernel
theorem dX5_workedOut_190 : decode cX5_workedOut 190 = .ok (.invokevirtual 36, 3) := by decide +kernel
theorem dX5_workedOut_193 : decode cX5_workedOut 193 = .ok (.isub, 1) := by decide +kernel
theorem dX5_workedOut_194 : decode cX5_workedOut 194 = .ok (.ireturn, 1) := by decide +kernel
theorem dX5_workedOut_195 : decode cX5_workedOut 195 = .ok (.aload_n 0, 1) := by decide +kernel
theorem dX5_workedOut_196 : decode cX5_workedOut 196 = .ok (.iload_n 2, 1) := by decide +kernel
theorem dX5_workedOut_197 : decode cX5_workedOut 197 = .ok (.iconst 2, 1) := by decide +kernel
theorem dX5_workedOut_198 : decode cX5_workedOut 198 = .ok (.iload_n 3, 1) := by decide +kernel
theorem dX5_workedOut_199 : decode cX5_workedOut 199 = .ok (.iconst 2, 1) := by decide +kernel
theorem dX5_workedOut_200 : decode cX5_workedOut 200 = .ok (.idiv, 1) := by decide +kernel
theorem dX5_workedOut_201 : decode cX5_workedOut 201 = .ok (.iload 4, 2) := by decide +kernel
theorem dX5_workedOut_203 : decode cX5_workedOut 203 = .ok (.invokevirtual 36, 3) := by decide +kernel
theorem dX5_workedOut_206 : decode cX5_workedOut 206 = .ok (.ireturn, 1) := by decide +kernel
theorem dX5_workedOut_207 : decode cX5_workedOut 207 = .ok (.aload_n 0, 1) := by decide +kernel
theorem dX5_workedOut_208 : decode cX5_workedOut 208 = .ok (.iload_n 2, 1) := by decide +kernel
theorem dX5_workedOut_209 : decode cX5_workedOut 209 = .ok (.iconst 0, 1) := by decide +kernel
theorem dX5_workedOut_210 : decode cX5_workedOut 210 = .ok (.iload_n 3, 1) := by decide +kernel
theorem dX5_workedOut_211 : decode cX5_workedOut 211 = .ok (.iload 4, 2) := by decide +kernel
theorem dX5_workedOut_213 : decode cX5_workedOut 213 = .ok (.invokevirtual 36, 3) := by decide +kernel
theorem dX5_workedOut_216 : decode cX5_workedOut 216 = .ok (.iconst 3, 1) := by decide +kernel
theorem dX5_workedOut_217 : decode cX5_workedOut 217 = .ok (.imul, 1) := by decide +kernel
theorem dX5_workedOut_218 : decode cX5_workedOut 218 = .ok (.ireturn, 1) := by decide +kernel
theorem dX5_workedOut_219 : decode cX5_workedOut 219 = .ok (.aload_n 0, 1) := by decide +kernel
theorem dX5_workedOut_220 : decode cX5_workedOut 220 = .ok (.iload_n 2, 1) := by decide +kernel
theorem dX5_workedOut_221 : decode cX5_workedOut 221 = .ok (.iconst 2, 1) := by decide +kernel
theorem dX5_workedOut_222 : decode cX5_workedOut 222 = .ok (.iload_n 3, 1) := by decide +kernel
theorem dX5_workedOut_223 : decode cX5_workedOut 223 = .ok (.iload 4, 2) := by decide +kernel
theorem dX5_workedOut_225 : decode cX5_workedOut 225 = .ok (.invokevirtual 36, 3) := by decide +kernel
theorem dX5_workedOut_228 : decode cX5_workedOut 228 = .ok (.aload_n 0, 1) := by decide +kernel
theorem dX5_workedOut_229 : decode cX5_workedOut 229 = .ok (.getfield 15, 3) := by decide +kernel
theorem dX5_workedOut_232 : decode cX5_workedOut 232 = .ok (.ixor, 1) := by decide +kernel
theorem dX5_workedOut_233 : decode cX5_workedOut 233 = .ok (.ireturn, 1) := by decide +kernel
theorem dX5_workedOut_234 : decode cX5_workedOut 234 = .ok (.aload_n 0, 1) := by decide +kernel
theorem dX5_workedOut_235 : decode cX5_workedOut 235 = .ok (.iload_n 2, 1) := by decide +kernel
theorem dX5_workedOut_236 : decode cX5_workedOut 236 = .ok (.iconst 1, 1) := by decide +kernel
theorem dX5_workedOut_237 : decode cX5_workedOut 237 = .ok (.iload_n 3, 1) := by decide +kernel
theorem dX5_workedOut_238 : decode cX5_workedOut 238 = .ok (.iconst 1, 1) := by decide +kernel
theorem dX5_workedOut_239 : decode cX5_workedOut 239 = .ok (.iadd, 1) := by decide +kernel
theorem dX5_workedOut_240 : decode cX5_workedOut 240 = .ok (.iload 4, 2) := by decide +kernel
theorem dX5_workedOut_242 : decode cX5_workedOut 242 = .ok (.invokevirtual 36, 3) := by decide +kernel
theorem dX5_workedOut_245 : decode cX5_workedOut 245 = .ok (.ireturn, 1) := by decide +kernel
theorem dX5_workedOut_246 : decode cX5_workedOut 246 = .ok (.bipush 9, 2) := by decide +kernel
theorem dX5_workedOut_248 : decode cX5_workedOut 248 = .ok (.ireturn, 1) := by decide +kernel
theorem dX5_workedOut_249 : decode cX5_workedOut 249 = .ok (.aload_n 0, 1) := by decide +kernel
theorem dX5_workedOut_250 : decode cX5_workedOut 250 = .ok (.iload_n 2, 1) := by decide +kernel
theorem dX5_workedOut_251 : decode cX5_workedOut 251 = .ok (.iconst 1, 1) := by decide +kernel
theorem dX5_workedOut_252 : decode cX5_workedOut 252 = .ok (.iload_n 3, 1) := by decide +kernel
theorem dX5_workedOut_253 : decode cX5_workedOut 253 = .ok (.iload 4, 2) := by decide +kernel
theorem dX5_workedOut_255 : decode cX5_workedOut 255 = .ok (.invokevirtual 36, 3) := by decide +kernel
theorem dX5_workedOut_258 : decode cX5_workedOut 258 = .ok (.aload_n 0, 1) := by decide +kernel
theorem dX5_workedOut_259 : decode cX5_workedOut 259 = .ok (.getfield 24, 3) := by decide +kernel
theorem dX5_workedOut_262 : decode cX5_workedOut 262 = .ok (.iadd, 1) := by decide +kernel
theorem dX5_workedOut_263 : decode cX5_workedOut 263 = .ok (.ireturn, 1) := by decide +kernel
theorem dX5_workedOut_264 : decode cX5_workedOut 264 = .ok (.iconst 0, 1) := by decide +kernel
theorem dX5_workedOut_265 : decode cX5_workedOut 265 = .ok (.ireturn, 1) := by decide +kernel
theorem dX5_partOf_0 : decode cX5_partOf 0 = .ok (.aload_n 0, 1) := by decide +kernel
theorem dX5_partOf_1 : decode cX5_partOf 1 = .ok (.getfield 24, 3) := by decide +kernel
theorem dX5_partOf_4 : decode cX5_partOf 4 = .ok (.aload_n 0, 1) := by decide +kernel
theorem dX5_partOf_5 : decode cX5_partOf 5 = .ok (.getfield 15, 3) := by decide +kernel
theorem dX5_partOf_8 : decode cX5_partOf 8 = .ok (.isub, 1) := by decide +kernel
theorem dX5_partOf_9 : decode cX5_partOf 9 = .ok (.istore_n 2, 1) := by decide +kernel
theorem dX5_partOf_10 : decode cX5_partOf 10 = .ok (.iload_n 2, 1) := by decide +kernel
theorem dX5_partOf_11 : decode cX5_partOf 11 = .ok (.ifCond .ne 10, 3) := by decide +kernel
theorem dX5_partOf_14 : decode cX5_partOf 14 = .ok (.aload_n 0, 1) := by decide +kernel
theorem dX5_partOf_15 : decode cX5_partOf 15 = .ok (.iconst 1, 1) := by decide +kernel
theorem dX5_partOf_16 : decode cX5_partOf 16 = .ok (.putfield 32, 3) := by decide +kernel
theorem dX5_partOf_19 : decode cX5_partOf 19 = .ok (.iconst 0, 1) := by decide +kernel
theorem dX5_partOf_20 : decode cX5_partOf 20 = .ok (.ireturn, 1) := by decide +kernel
theorem dX5_partOf_21 : decode cX5_partOf 21 = .ok (.iload_n 1, 1) := by decide +kernel
theorem dX5_partOf_22 : decode cX5_partOf 22 = .ok (.iload_n 2, 1) := by decide +kernel
theorem dX5_partOf_23 : decode cX5_partOf 23 = .ok (.idiv, 1) := by decide +kernel
theorem dX5_partOf_24 : decode cX5_partOf 24 = .ok (.ireturn, 1) := by decide +kernel
theorem dX5_partAndSips_0 : decode cX5_partAndSips 0 = .ok (.aload_n 0, 1) := by decide +kernel
theorem dX5_partAndSips_1 : decode cX5_partAndSips 1 = .ok (.iload_n 1, 1) := by decide +kernel
theorem dX5_partAndSips_2 : decode cX5_partAndSips 2 = .ok (.iconst 3, 1) := by decide +kernel
theorem dX5_partAndSips_3 : decode cX5_partAndSips 3 = .ok (.iload_n 2, 1) := by decide +kernel
theorem dX5_partAndSips_4 : decode cX5_partAndSips 4 = .ok (.iload_n 3, 1) := by decide +kernel
theorem dX5_partAndSips_5 : decode cX5_partAndSips 5 = .ok (.invokevirtual 36, 3) := by decide +kernel
theorem dX5_partAndSips_8 : decode cX5_partAndSips 8 = .ok (.istore 4, 2) := by decide +kernel
theorem dX5_partAndSips_10 : decode cX5_partAndSips 10 = .ok (.aload_n 0, 1) := by decide +kernel
theorem dX5_partAndSips_11 : decode cX5_partAndSips 11 = .ok (.getfield 32, 3) := by decide +kernel
theorem dX5_partAndSips_14 : decode cX5_partAndSips 14 = .ok (.ifCond .eq 7, 3) := by decide +kernel
theorem dX5_partAndSips_17 : decode cX5_partAndSips 17 = .ok (.iconst 0, 1) := by decide +kernel
theorem dX5_partAndSips_18 : decode cX5_partAndSips 18 = .ok (.goto 17, 3) := by decide +kernel
theorem dX5_partAndSips_21 : decode cX5_partAndSips 21 = .ok (.iload 4, 2) := by decide +kernel
theorem dX5_partAndSips_23 : decode cX5_partAndSips 23 = .ok (.aload_n 0, 1) := by decide +kernel
theorem dX5_partAndSips_24 : decode cX5_partAndSips 24 = .ok (.aload_n 0, 1) := by decide +kernel
theorem dX5_partAndSips_25 : decode cX5_partAndSips 25 = .ok (.getfield 28, 3) := by decide +kernel
theorem dX5_partAndSips_28 : decode cX5_partAndSips 28 = .ok (.iconst 1, 1) := by decide +kernel
theorem dX5_partAndSips_29 : decode cX5_partAndSips 29 = .ok (.iconst 1, 1) := by decide +kernel
theorem dX5_partAndSips_30 : decode cX5_partAndSips 30 = .ok (.iload_n 3, 1) := by decide +kernel
theorem dX5_partAndSips_31 : decode cX5_partAndSips 31 = .ok (.invokevirtual 36, 3) := by decide +kernel
theorem dX5_partAndSips_34 : decode cX5_partAndSips 34 = .ok (.iadd, 1) := by decide +kernel
theorem dX5_partAndSips_35 : decode cX5_partAndSips 35 = .ok (.ireturn, 1) := by decide +kernel
theorem dX6_init_0 : decode cX6_init 0 = .ok (.aload_n 0, 1) := by decide +kernel
theorem dX6_init_1 : decode cX6_init 1 = .ok (.invokespecial 3, 3) := by decide +kernel
theorem dX6_init_4 : decode cX6_init 4 = .ok (.aload_n 0, 1) := by decide +kernel
theorem dX6_init_5 : decode cX6_init 5 = .ok (.bipush 7, 2) := by decide +kernel
theorem dX6_init_7 : decode cX6_init 7 = .ok (.anewarray 9, 3) := by decide +kernel
theorem dX6_init_10 : decode cX6_init 10 = .ok (.putfield 11, 3) := by decide +kernel
theorem dX6_init_13 : decode cX6_init 13 = .ok (.aload_n 0, 1) := by decide +kernel
theorem dX6_init_14 : decode cX6_init 14 = .ok (.iconst 4, 1) := by decide +kernel
theorem dX6_init_15 : decode cX6_init 15 = .ok (.newarray .int, 2) := by decide +kernel
theorem dX6_init_17 : decode cX6_init 17 = .ok (.putfield 17, 3) := by decide +kernel
theorem dX6_init_20 : decode cX6_init 20 = .ok (.aload_n 0, 1) := by decide +kernel
theorem dX6_init_21 : decode cX6_init 21 = .ok (.iconst 4, 1) := by decide +kernel
theorem dX6_init_22 : decode cX6_init 22 = .ok (.newarray .int, 2) := by decide +kernel
theorem dX6_init_24 : decode cX6_init 24 = .ok (.putfield 21, 3) := by decide +kernel
theorem dX6_init_27 : decode cX6_init 27 = .ok (.aload_n 0, 1) := by decide +kernel
theorem dX6_init_28 : decode cX6_init 28 = .ok (.iconst 3, 1) := by decide +kernel
theorem dX6_init_29 : decode cX6_init 29 = .ok (.newarray .int, 2) := by decide +kernel
theorem dX6_init_31 : decode cX6_init 31 = .ok (.putfield 24, 3) := by decide +kernel
theorem dX6_init_34 : decode cX6_init 34 = .ok (.aload_n 0, 1) := by decide +kernel
theorem dX6_init_35 : decode cX6_init 35 = .ok (.iconst 1, 1) := by decide +kernel
theorem dX6_init_36 : decode cX6_init 36 = .ok (.putfield 27, 3) := by decide +kernel
theorem dX6_init_39 : decode cX6_init 39 = .ok (.aload_n 0, 1) := by decide +kernel
theorem dX6_init_40 : decode cX6_init 40 = .ok (.bipush 60, 2) := by decide +kernel
theorem dX6_init_42 : decode cX6_init 42 = .ok (.newarray .byte, 2) := by decide +kernel
theorem dX6_init_44 : decode cX6_init 44 = .ok (.putfield 31, 3) := by decide +kernel
theorem dX6_init_47 : decode cX6_init 47 = .ok (.aload_n 0, 1) := by decide +kernel
theorem dX6_init_48 : decode cX6_init 48 = .ok (.iconst 2, 1) := by decide +kernel
theorem dX6_init_49 : decode cX6_init 49 = .ok (.anewarray 35, 3) := by decide +kernel
theorem dX6_init_52 : decode cX6_init 52 = .ok (.putfield 37, 3) := by decide +kernel
theorem dX6_init_55 : decode cX6_init 55 = .ok (.aload_n 0, 1) := by decide +kernel
theorem dX6_init_56 : decode cX6_init 56 = .ok (.bipush 24, 2) := by decide +kernel
theorem dX6_init_58 : decode cX6_init 58 = .ok (.newarray .int, 2) := by decide +kernel
theorem dX6_init_60 : decode cX6_init 60 = .ok (.putfield 41, 3) := by decide +kernel
theorem dX6_init_63 : decode cX6_init 63 = .ok (.iconst 0, 1) := by decide +kernel
theorem dX6_init_64 : decode cX6_init 64 = .ok (.istore_n 1, 1) := by decide +kernel
theorem dX6_init_65 : decode cX6_init 65 = .ok (.iload_n 1, 1) := by decide +kernel
theorem dX6_init_66 : decode cX6_init 66 = .ok (.aload_n 0, 1) := by decide +kernel
theorem dX6_init_67 : decode cX6_init 67 = .ok (.getfield 11, 3) := by decide +kernel
theorem dX6_init_70 : decode cX6_init 70 = .ok (.arraylength, 1) := by decide +kernel
theorem dX6_init_71 : decode cX6_init 71 = .ok (.if_icmp .ge 22, 3) := by decide +kernel
theorem dX6_init_74 : decode cX6_init 74 = .ok (.aload_n 0, 1) := by decide +kernel
theorem dX6_init_75 : decode cX6_init 75 = .ok (.getfield 11, 3) := by decide +kernel
theorem dX6_init_78 : decode cX6_init 78 = .ok (.iload_n 1, 1) := by decide +kernel
theorem dX6_init_79 : decode cX6_init 79 = .ok (.new 9, 3) := by decide +kernel
theorem dX6_init_82 : decode cX6_init 82 = .ok (.dup, 1) := by decide +kernel
theorem dX6_init_83 : decode cX6_init 83 = .ok (.invokespecial 44, 3) := by decide +kernel
theorem dX6_init_86 : decode cX6_init 86 = .ok (.aastore, 1) := by decide +kernel
theorem dX6_init_87 : decode cX6_init 87 = .ok (.iinc 1 1, 3) := by decide +kernel
theorem dX6_init_90 : decode cX6_init 90 = .ok (.goto (-25), 3) := by decide +kernel
theorem dX6_init_93 : decode cX6_init 93 = .ok (.iconst 0, 1) := by decide +kernel
theorem dX6_init_94 : decode cX6_init 94 = .ok (.istore_n 1, 1) := by decide +kernel
theorem dX6_init_95 : decode cX6_init 95 = .ok (.iload_n 1, 1) := by decide +kernel
theorem dX6_init_96 : decode cX6_init 96 = .ok (.aload_n 0, 1) := by decide +kernel
theorem dX6_init_97 : decode cX6_init 97 = .ok (.getfield 37, 3) := by decide +kernel
theorem dX6_init_100 : decode cX6_init 100 = .ok (.arraylength, 1) := by decide +kernel
theorem dX6_init_101 : decode cX6_init 101 = .ok (.if_icmp .ge 22, 3) := by decide +kernel
theorem dX6_init_104 : decode cX6_init 104 = .ok (.aload_n 0, 1) := by decide +kernel
theorem dX6_init_105 : decode cX6_init 105 = .ok (.getfield 37, 3) := by decide +kernel
theorem dX6_init_108 : decode cX6_init 108 = .ok (.iload_n 1, 1) := by decide +kernel
theorem dX6_init_109 : decode cX6_init 109 = .ok (.new 35, 3) := by decide +kernel
theorem dX6_init_112 : decode cX6_init 112 = .ok (.dup, 1) := by decide +kernel
theorem dX6_init_113 : decode cX6_init 113 = .ok (.invokespecial 45, 3) := by decide +kernel
theorem dX6_init_116 : decode cX6_init 116 = .ok (.aastore, 1) := by decide +kernel
theorem dX6_init_117 : decode cX6_init 117 = .ok (.iinc 1 1, 3) := by decide +kernel
theorem dX6_init_120 : decode cX6_init 120 = .ok (.goto (-25), 3) := by decide +kernel
theorem dX6_init_123 : decode cX6_init 123 = .ok (.return_, 1) := by decide +kernel
theorem dX6_copyFrom_0 : decode cX6_copyFrom 0 = .ok (.iconst 0, 1) := by decide +kernel
theorem dX6_copyFrom_1 : decode cX6_copyFrom 1 = .ok (.istore_n 2, 1) := by decide +kernel
theorem dX6_copyFrom_2 : decode cX6_copyFrom 2 = .ok (.iload_n 2, 1) := by decide +kernel
theorem dX6_copyFrom_3 : decode cX6_copyFrom 3 = .ok (.aload_n 0, 1) := by decide +kernel
theorem dX6_copyFrom_4 : decode cX6_copyFrom 4 = .ok (.getfield 11, 3) := by decide +kernel
theorem dX6_copyFrom_7 : decode cX6_copyFrom 7 = .ok (.arraylength, 1) := by decide +kernel
theorem dX6_copyFrom_8 : decode cX6_copyFrom 8 = .ok (.if_icmp .ge 24, 3) := by decide +kernel
theorem dX6_copyFrom_11 : decode cX6_copyFrom 11 = .ok (.aload_n 0, 1) := by decide +kernel
theorem dX6_copyFrom_12 : decode cX6_copyFrom 12 = .ok (.getfield 11, 3) := by decide +kernel
theorem dX6_copyFrom_15 : decode cX6_copyFrom 15 = .ok (.iload_n 2, 1) := by decide +kernel
theorem dX6_copyFrom_16 : decode cX6_copyFrom 16 = .ok (.aaload, 1) := by decide +kernel
theorem dX6_copyFrom_17 : decode cX6_copyFrom 17 = .ok (.aload_n 1, 1) := by decide +kernel
theorem dX6_copyFrom_18 : decode cX6_copyFrom 18 = .ok (.getfield 11, 3) := by decide +kernel
theorem dX6_copyFrom_21 : decode cX6_copyFrom 21 = .ok (.iload_n 2, 1) := by decide +kernel
theorem dX6_copyFrom_22 : decode cX6_copyFrom 22 = .ok (.aaload, 1) := by decide +kernel
theorem dX6_copyFrom_23 : decode cX6_copyFrom 23 = .ok (.invokevirtual 46, 3) := by decide +kernel
theorem dX6_copyFrom_26 : decode cX6_copyFrom 26 = .ok (.iinc 2 1, 3) := by decide +kernel
theorem dX6_copyFrom_29 : decode cX6_copyFrom 29 = .ok (.goto (-27), 3) := by decide +kernel
theorem dX6_copyFrom_32 : decode cX6_copyFrom 32 = .ok (.iconst 0, 1) := by decide +kernel
theorem dX6_copyFrom_33 : decode cX6_copyFrom 33 = .ok (.istore_n 2, 1) := by decide +kernel
theorem dX6_copyFrom_34 : decode cX6_copyFrom 34 = .ok (.iload_n 2, 1) := by decide +kernel
theorem dX6_copyFrom_35 : decode cX6_copyFrom 35 = .ok (.aload_n 0, 1) := by decide +kernel
theorem dX6_copyFrom_36 : decode cX6_copyFrom 36 = .ok (.getfield 37, 3) := by decide +kernel
theorem dX6_copyFrom_39 : decode cX6_copyFrom 39 = .ok (.arraylength, 1) := by decide +kernel
theorem dX6_copyFrom_40 : decode cX6_copyFrom 40 = .ok (.if_icmp .ge 24, 3) := by decide +kernel
theorem dX6_copyFrom_43 : decode cX6_copyFrom 43 = .ok (.aload_n 0, 1) := by decide +kernel
theorem dX6_copyFrom_44 : decode cX6_copyFrom 44 = .ok (.getfield 37, 3) := by decide +kernel
theorem dX6_copyFrom_47 : decode cX6_copyFrom 47 = .ok (.iload_n 2, 1) := by decide +kernel
theorem dX6_copyFrom_48 : decode cX6_copyFrom 48 = .ok (.aaload, 1) := by decide +kernel
theorem dX6_copyFrom_49 : decode cX6_copyFrom 49 = .ok (.aload_n 1, 1) := by decide +kernel
theorem dX6_copyFrom_50 : decode cX6_copyFrom 50 = .ok (.getfield 37, 3) := by decide +kernel
theorem dX6_copyFrom_53 : decode cX6_copyFrom 53 = .ok (.iload_n 2, 1) := by decide +kernel
theorem dX6_copyFrom_54 : decode cX6_copyFrom 54 = .ok (.aaload, 1) := by decide +kernel
theorem dX6_copyFrom_55 : decode cX6_copyFrom 55 = .ok (.invokevirtual 50, 3) := by decide +kernel
theorem dX6_copyFrom_58 : decode cX6_copyFrom 58 = .ok (.iinc 2 1, 3) := by decide +kernel
theorem dX6_copyFrom_61 : decode cX6_copyFrom 61 = .ok (.goto (-27), 3) := by decide +kernel
theorem dX6_copyFrom_64 : decode cX6_copyFrom 64 = .ok (.aload_n 1, 1) := by decide +kernel
theorem dX6_copyFrom_65 : decode cX6_copyFrom 65 = .ok (.getfield 17, 3) := by decide +kernel
theorem dX6_copyFrom_68 : decode cX6_copyFrom 68 = .ok (.iconst 0, 1) := by decide +kernel
theorem dX6_copyFrom_69 : decode cX6_copyFrom 69 = .ok (.aload_n 0, 1) := by decide +kernel
theorem dX6_copyFrom_70 : decode cX6_copyFrom 70 = .ok (.getfield 17, 3) := by decide +kernel
theorem dX6_copyFrom_73 : decode cX6_copyFrom 73 = .ok (.iconst 0, 1) := by decide +kernel
theorem dX6_copyFrom_74 : decode cX6_copyFrom 74 = .ok (.aload_n 0, 1) := by decide +kernel
theorem dX6_copyFrom_75 : decode cX6_copyFrom 75 = .ok (.getfield 17, 3) := by decide +kernel
theorem dX6_copyFrom_78 : decode cX6_copyFrom 78 = .ok (.arraylength, 1) := by decide +kernel
theorem dX6_copyFrom_79 : decode cX6_copyFrom 79 = .ok (.invokestatic 53, 3) := by decide +kernel
theorem dX6_copyFrom_82 : decode cX6_copyFrom 82 = .ok (.aload_n 1, 1) := by decide +kernel
theorem dX6_copyFrom_83 : decode cX6_copyFrom 83 = .ok (.getfield 21, 3) := by decide +kernel
theorem dX6_copyFrom_86 : decode cX6_copyFrom 86 = .ok (.iconst 0, 1) := by decide +kernel
theorem dX6_copyFrom_87 : decode cX6_copyFrom 87 = .ok (.aload_n 0, 1) := by decide +kernel
theorem dX6_copyFrom_88 : decode cX6_copyFrom 88 = .ok (.getfield 21, 3) := by decide +kernel
theorem dX6_copyFrom_91 : decode cX6_copyFrom 91 = .ok (.iconst 0, 1) := by decide +kernel
theorem dX6_copyFrom_92 : decode cX6_copyFrom 92 = .ok (.aload_n 0, 1) := by decide +kernel
theorem dX6_copyFrom_93 : decode cX6_copyFrom 93 = .ok (.getfield 21, 3) := by decide +kernel
theorem dX6_copyFrom_96 : decode cX6_copyFrom 96 = .ok (.arraylength, 1) := by decide +kernel
theorem dX6_copyFrom_97 : decode cX6_copyFrom 97 = .ok (.invokestatic 53, 3) := by decide +kernel
theorem dX6_copyFrom_100 : decode cX6_copyFrom 100 = .ok (.aload_n 1, 1) := by decide +kernel
theorem dX6_copyFrom_101 : decode cX6_copyFrom 101 = .ok (.getfield 24, 3) := by decide +kernel
theorem dX6_copyFrom_104 : decode cX6_copyFrom 104 = .ok (.iconst 0, 1) := by decide +kernel
theorem dX6_copyFrom_105 : decode cX6_copyFrom 105 = .ok (.aload_n 0, 1) := by decide +kernel
theorem dX6_copyFrom_106 : decode cX6_copyFrom 106 = .ok (.getfield 24, 3) := by decide +kernel
theorem dX6_copyFrom_109 : decode cX6_copyFrom 109 = .ok (.iconst 0, 1) := by decide +kernel
theorem dX6_copyFrom_110 : decode cX6_copyFrom 110 = .ok (.aload_n 0, 1) := by decide +kernel
theorem dX6_copyFrom_111 : decode cX6_copyFrom 111 = .ok (.getfield 24, 3) := by decide +kernel
theorem dX6_copyFrom_114 : decode cX6_copyFrom 114 = .ok (.arraylength, 1) := by decide +kernel
theorem dX6_copyFrom_115 : decode cX6_copyFrom 115 = .ok (.invokestatic 53, 3) := by decide +kernel
theorem dX6_copyFrom_118 : decode cX6_copyFrom 118 = .ok (.aload_n 1, 1) := by decide +kernel
theorem dX6_copyFrom_119 : decode cX6_copyFrom 119 = .ok (.getfield 31, 3) := by decide +kernel
theorem dX6_copyFrom_122 : decode cX6_copyFrom 122 = .ok (.iconst 0, 1) := by decide +kernel
theorem dX6_copyFrom_123 : decode cX6_copyFrom 123 = .ok (.aload_n 0, 1) := by decide +kernel
theorem dX6_copyFrom_124 : decode cX6_copyFrom 124 = .ok (.getfield 31, 3) := by decide +kernel
theorem dX6_copyFrom_127 : decode cX6_copyFrom 127 = .ok (.iconst 0, 1) := by decide +kernel
theorem dX6_copyFrom_128 : decode cX6_copyFrom 128 = .ok (.aload_n 0, 1) := by decide +kernel
theorem dX6_copyFrom_129 : decode cX6_copyFrom 129 = .ok (.getfield 31, 3) := by decide +kernel
theorem dX6_copyFrom_132 : decode cX6_copyFrom 132 = .ok (.arraylength, 1) := by decide +kernel
theorem dX6_copyFrom_133 : decode cX6_copyFrom 133 = .ok (.invokestatic 53, 3) := by decide +kernel
theorem dX6_copyFrom_136 : decode cX6_copyFrom 136 = .ok (.aload_n 1, 1) := by decide +kernel
theorem dX6_copyFrom_137 : decode cX6_copyFrom 137 = .ok (.getfield 41, 3) := by decide +kernel
theorem dX6_copyFrom_140 : decode cX6_copyFrom 140 = .ok (.iconst 0, 1) := by decide +kernel
theorem dX6_copyFrom_141 : decode cX6_copyFrom 141 = .ok (.aload_n 0, 1) := by decide +kernel
theorem dX6_copyFrom_142 : decode cX6_copyFrom 142 = .ok (.getfield 41, 3) := by decide +kernel
theorem dX6_copyFrom_145 : decode cX6_copyFrom 145 = .ok (.iconst 0, 1) := by decide +kernel
theorem dX6_copyFrom_146 : decode cX6_copyFrom 146 = .ok (.aload_n 0, 1) := by decide +kernel
theorem dX6_copyFrom_147 : decode cX6_copyFrom 147 = .ok (.getfield 41, 3) := by decide +kernel
theorem dX6_copyFrom_150 : decode cX6_copyFrom 150 = .ok (.arraylength, 1) := by decide +kernel
theorem dX6_copyFrom_151 : decode cX6_copyFrom 151 = .ok (.invokestatic 53, 3) := by decide +kernel
theorem dX6_copyFrom_154 : decode cX6_copyFrom 154 = .ok (.aload_n 0, 1) := by decide +kernel
theorem dX6_copyFrom_155 : decode cX6_copyFrom 155 = .ok (.aload_n 1, 1) := by decide +kernel
theorem dX6_copyFrom_156 : decode cX6_copyFrom 156 = .ok (.getfield 59, 3) := by decide +kernel
theorem dX6_copyFrom_159 : decode cX6_copyFrom 159 = .ok (.putfield 59, 3) := by decide +kernel
theorem dX6_copyFrom_162 : decode cX6_copyFrom 162 = .ok (.aload_n 0, 1) := by decide +kernel
theorem dX6_copyFrom_163 : decode cX6_copyFrom 163 = .ok (.aload_n 1, 1) := by decide +kernel
theorem dX6_copyFrom_164 : decode cX6_copyFrom 164 = .ok (.getfield 62, 3) := by decide +kernel
theorem dX6_copyFrom_167 : decode cX6_copyFrom 167 = .ok (.putfield 62, 3) := by decide +kernel
theorem dX6_copyFrom_170 : decode cX6_copyFrom 170 = .ok (.aload_n 0, 1) := by decide +kernel
theorem dX6_copyFrom_171 : decode cX6_copyFrom 171 = .ok (.aload_n 1, 1) := by decide +kernel
theorem dX6_copyFrom_172 : decode cX6_copyFrom 172 = .ok (.getfield 65, 3) := by decide +kernel
theorem dX6_copyFrom_175 : decode cX6_copyFrom 175 = .ok (.putfield 65, 3) := by decide +kernel
theorem dX6_copyFrom_178 : decode cX6_copyFrom 178 = .ok (.aload_n 0, 1) := by decide +kernel
theorem dX6_copyFrom_179 : decode cX6_copyFrom 179 = .ok (.aload_n 1, 1) := by decide +kernel
theorem dX6_copyFrom_180 : decode cX6_copyFrom 180 = .ok (.getfield 68, 3) := by decide +kernel
theorem dX6_copyFrom_183 : decode cX6_copyFrom 183 = .ok (.putfield 68, 3) := by decide +kernel
theorem dX6_copyFrom_186 : decode cX6_copyFrom 186 = .ok (.aload_n 0, 1) := by decide +kernel
theorem dX6_copyFrom_187 : decode cX6_copyFrom 187 = .ok (.aload_n 1, 1) := by decide +kernel
theorem dX6_copyFrom_188 : decode cX6_copyFrom 188 = .ok (.getfield 27, 3) := by decide +kernel
theorem dX6_copyFrom_191 : decode cX6_copyFrom 191 = .ok (.putfield 27, 3) := by decide +kernel
theorem dX6_copyFrom_194 : decode cX6_copyFrom 194 = .ok (.aload_n 0, 1) := by decide +kernel
theorem dX6_copyFrom_195 : decode cX6_copyFrom 195 = .ok (.aload_n 1, 1) := by decide +kernel
theorem dX6_copyFrom_196 : decode cX6_copyFrom 196 = .ok (.getfield 71, 3) := by decide +kernel
theorem dX6_copyFrom_199 : decode cX6_copyFrom 199 = .ok (.putfield 71, 3) := by decide +kernel
theorem dX6_copyFrom_202 : decode cX6_copyFrom 202 = .ok (.aload_n 0, 1) := by decide +kernel
theorem dX6_copyFrom_203 : decode cX6_copyFrom 203 = .ok (.aload_n 1, 1) := by decide +kernel
theorem dX6_copyFrom_204 : decode cX6_copyFrom 204 = .ok (.getfield 74, 3) := by decide +kernel
theorem dX6_copyFrom_207 : decode cX6_copyFrom 207 = .ok (.putfield 74, 3) := by decide +kernel
theorem dX6_copyFrom_210 : decode cX6_copyFrom 210 = .ok (.return_, 1) := by decide +kernel
theorem dX6_allFarms_0 : decode cX6_allFarms 0 = .ok (.iconst 1, 1) := by decide +kernel
theorem dX6_allFarms_1 : decode cX6_allFarms 1 = .ok (.aload_n 0, 1) := by decide +kernel
theorem dX6_allFarms_2 : decode cX6_allFarms 2 = .ok (.getfield 59, 3) := by decide +kernel
theorem dX6_allFarms_5 : decode cX6_allFarms 5 = .ok (.ishl, 1) := by decide +kernel
theorem dX6_allFarms_6 : decode cX6_allFarms 6 = .ok (.iconst 1, 1) := by decide +kernel
theorem dX6_allFarms_7 : decode cX6_allFarms 7 = .ok (.isub, 1) := by decide +kernel
theorem dX6_allFarms_8 : decode cX6_allFarms 8 = .ok (.ireturn, 1) := by decide +kernel
theorem dX6_given_0 : decode cX6_given 0 = .ok (.iload_n 1, 1) := by decide +kernel
theorem dX6_given_1 : decode cX6_given 1 = .ok (.ifCond .ne 8, 3) := by decide +kernel
theorem dX6_given_4 : decode cX6_given 4 = .ok (.bipush 9, 2) := by decide +kernel
theorem dX6_given_6 : decode cX6_given 6 = .ok (.goto 6, 3) := by decide +kernel
theorem dX6_given_9 : decode cX6_given 9 = .ok (.sipush 999, 3) := by decide +kernel
theorem dX6_given_12 : decode cX6_given 12 = .ok (.istore 5, 2) := by decide +kernel
theorem dX6_given_14 : decode cX6_given 14 = .ok (.aload_n 0, 1) := by decide +kernel
theorem dX6_given_15 : decode cX6_given 15 = .ok (.getfield 37, 3) := by decide +kernel
theorem dX6_given_18 : decode cX6_given 18 = .ok (.iload_n 1, 1) := by decide +kernel
theorem dX6_given_19 : decode cX6_given 19 = .ok (.aaload, 1) := by decide +kernel
theorem dX6_given_20 : decode cX6_given 20 = .ok (.invokevirtual 77, 3) := by decide +kernel
theorem dX6_given_23 : decode cX6_given 23 = .ok (.ifCond .eq 19, 3) := by decide +kernel
theorem dX6_given_26 : decode cX6_given 26 = .ok (.aload_n 0, 1) := by decide +kernel
theorem dX6_given_27 : decode cX6_given 27 = .ok (.getfield 37, 3) := by decide +kernel
theorem dX6_given_30 : decode cX6_given 30 = .ok (.iload_n 1, 1) := by decide +kernel
theorem dX6_given_31 : decode cX6_given 31 = .ok (.aaload, 1) := by decide +kernel
theorem dX6_given_32 : decode cX6_given 32 = .ok (.iload_n 2, 1) := by decide +kernel
theorem dX6_given_33 : decode cX6_given 33 = .ok (.iload_n 3, 1) := by decide +kernel
theorem dX6_given_34 : decode cX6_given 34 = .ok (.iload 4, 2) := by decide +kernel
theorem dX6_given_36 : decode cX6_given 36 = .ok (.invokevirtual 81, 3) := by decide +kernel
theorem dX6_given_39 : decode cX6_given 39 = .ok (.goto 4, 3) := by decide +kernel
theorem dX6_given_42 : decode cX6_given 42 = .ok (.iload_n 2, 1) := by decide +kernel
theorem dX6_given_43 : decode cX6_given 43 = .ok (.istore 6, 2) := by decide +kernel
theorem dX6_given_45 : decode cX6_given 45 = .ok (.iconst 0, 1) := by decide +kernel
theorem dX6_given_46 : decode cX6_given 46 = .ok (.iload 5, 2) := by decide +kernel
theorem dX6_given_48 : decode cX6_given 48 = .ok (.iload 6, 2) := by decide +kernel
theorem dX6_given_50 : decode cX6_given 50 = .ok (.invokestatic 85, 3) := by decide +kernel
theorem dX6_given_53 : decode cX6_given 53 = .ok (.invokestatic 91, 3) := by decide +kernel
theorem dX6_given_56 : decode cX6_given 56 = .ok (.ireturn, 1) := by decide +kernel
theorem dX6_growthOf_0 : decode cX6_growthOf 0 = .ok (.aload_n 0, 1) := by decide +kernel
theorem dX6_growthOf_1 : decode cX6_growthOf 1 = .ok (.iconst 0, 1) := by decide +kernel
theorem dX6_growthOf_2 : decode cX6_growthOf 2 = .ok (.aload_n 1, 1) := by decide +kernel
theorem dX6_growthOf_3 : decode cX6_growthOf 3 = .ok (.iload_n 3, 1) := by decide +kernel
theorem dX6_growthOf_4 : decode cX6_growthOf 4 = .ok (.invokevirtual 94, 3) := by decide +kernel
theorem dX6_growthOf_7 : decode cX6_growthOf 7 = .ok (.iload_n 2, 1) := by decide +kernel
theorem dX6_growthOf_8 : decode cX6_growthOf 8 = .ok (.iload_n 3, 1) := by decide +kernel
theorem dX6_growthOf_9 : decode cX6_growthOf 9 = .ok (.bipush 24, 2) := by decide +kernel
theorem dX6_growthOf_11 : decode cX6_growthOf 11 = .ok (.irem, 1) := by decide +kernel
theorem dX6_growthOf_12 : decode cX6_growthOf 12 = .ok (.invokevirtual 98, 3) := by decide +kernel
theorem dX6_growthOf_15 : decode cX6_growthOf 15 = .ok (.ireturn, 1) := by decide +kernel
theorem dX6_payOf_0 : decode cX6_payOf 0 = .ok (.aload_n 0, 1) := by decide +kernel
theorem dX6_payOf_1 : decode cX6_payOf 1 = .ok (.iconst 1, 1) := by decide +kernel
theorem dX6_payOf_2 : decode cX6_payOf 2 = .ok (.aload_n 1, 1) := by decide +kernel
theorem dX6_payOf_3 : decode cX6_payOf 3 = .ok (.invokevirtual 102, 3) := by decide +kernel
theorem dX6_payOf_6 : decode cX6_payOf 6 = .ok (.aload_n 1, 1) := by decide +kernel
theorem dX6_payOf_7 : decode cX6_payOf 7 = .ok (.getfield 106, 3) := by decide +kernel
theorem dX6_payOf_10 : decode cX6_payOf 10 = .ok (.aload_n 1, 1) := by decide +kernel
theorem dX6_payOf_11 : decode cX6_payOf 11 = .ok (.getfield 109, 3) := by decide +kernel
theorem dX6_payOf_14 : decode cX6_payOf 14 = .ok (.invokevirtual 98, 3) := by decide +kernel
theorem dX6_payOf_17 : decode cX6_payOf 17 = .ok (.ireturn, 1) := by decide +kernel
theorem dX6_payOfSet_0 : decode cX6_payOfSet 0 = .ok (.iconst 0, 1) := by decide +kernel
theorem dX6_payOfSet_1 : decode cX6_payOfSet 1 = .ok (.istore_n 2, 1) := by decide +kernel
theorem dX6_payOfSet_2 : decode cX6_payOfSet 2 = .ok (.iconst 0, 1) := by decide +kernel
theorem dX6_payOfSet_3 : decode cX6_payOfSet 3 = .ok (.istore_n 3, 1) := by decide +kernel
theorem dX6_payOfSet_4 : decode cX6_payOfSet 4 = .ok (.iload_n 3, 1) := by decide +kernel
theorem dX6_payOfSet_5 : decode cX6_payOfSet 5 = .ok (.aload_n 0, 1) := by decide +kernel
theorem dX6_payOfSet_6 : decode cX6_payOfSet 6 = .ok (.getfield 59, 3) := by decide +kernel
theorem dX6_payOfSet_9 : decode cX6_payOfSet 9 = .ok (.if_icmp .ge 30, 3) := by decide +kernel
theorem dX6_payOfSet_12 : decode cX6_payOfSet 12 = .ok (.iload_n 1, 1) := by decide +kernel
theorem dX6_payOfSet_13 : decode cX6_payOfSet 13 = .ok (.iload_n 3, 1) := by decide +kernel
theorem dX6_payOfSet_14 : decode cX6_payOfSet 14 = .ok (.ishr, 1) := by decide +kernel
theorem dX6_payOfSet_15 : decode cX6_payOfSet 15 = .ok (.iconst 1, 1) := by decide +kernel
theorem dX6_payOfSet_16 : decode cX6_payOfSet 16 = .ok (.iand, 1) := by decide +kernel
theorem dX6_payOfSet_17 : decode cX6_payOfSet 17 = .ok (.ifCond .eq 16, 3) := by decide +kernel
theorem dX6_payOfSet_20 : decode cX6_payOfSet 20 = .ok (.iload_n 2, 1) := by decide +kernel
theorem dX6_payOfSet_21 : decode cX6_payOfSet 21 = .ok (.aload_n 0, 1) := by decide +kernel
theorem dX6_payOfSet_22 : decode cX6_payOfSet 22 = .ok (.aload_n 0, 1) := by decide +kernel
theorem dX6_payOfSet_23 : decode cX6_payOfSet 23 = .ok (.getfield 11, 3) := by decide +kernel
theorem dX6_payOfSet_26 : decode cX6_payOfSet 26 = .ok (.iload_n 3, 1) := by decide +kernel
theorem dX6_payOfSet_27 : decode cX6_payOfSet 27 = .ok (.aaload, 1) := by decide +kernel
theorem dX6_payOfSet_28 : decode cX6_payOfSet 28 = .ok (.invokevirtual 112, 3) := by decide +kernel
theorem dX6_payOfSet_31 : decode cX6_payOfSet 31 = .ok (.iadd, 1) := by decide +kernel
theorem dX6_payOfSet_32 : decode cX6_payOfSet 32 = .ok (.istore_n 2, 1) := by decide +kernel
theorem dX6_payOfSet_33 : decode cX6_payOfSet 33 = .ok (.iinc 3 1, 3) := by decide +kernel
theorem dX6_payOfSet_36 : decode cX6_payOfSet 36 = .ok (.goto (-32), 3) := by decide +kernel
theorem dX6_payOfSet_39 : decode cX6_payOfSet 39 = .ok (.iload_n 2, 1) := by decide +kernel
theorem dX6_payOfSet_40 : decode cX6_payOfSet 40 = .ok (.ireturn, 1) := by decide +kernel
theorem dX6_dryOfSet_0 : decode cX6_dryOfSet 0 = .ok (.iconst 0, 1) := by decide +kernel
theorem dX6_dryOfSet_1 : decode cX6_dryOfSet 1 = .ok (.istore_n 2, 1) := by decide +kernel
theorem dX6_dryOfSet_2 : decode cX6_dryOfSet 2 = .ok (.iconst 0, 1) := by decide +kernel
theorem dX6_dryOfSet_3 : decode cX6_dryOfSet 3 = .ok (.istore_n 3, 1) := by decide +kernel
theorem dX6_dryOfSet_4 : decode cX6_dryOfSet 4 = .ok (.iload_n 3, 1) := by decide +kernel
theorem dX6_dryOfSet_5 : decode cX6_dryOfSet 5 = .ok (.aload_n 0, 1) := by decide +kernel
theorem dX6_dryOfSet_6 : decode cX6_dryOfSet 6 = .ok (.getfield 59, 3) := by decide +kernel
theorem dX6_dryOfSet_9 : decode cX6_dryOfSet 9 = .ok (.if_icmp .ge 29, 3) := by decide +kernel
theorem dX6_dryOfSet_12 : decode cX6_dryOfSet 12 = .ok (.iload_n 1, 1) := by decide +kernel
theorem dX6_dryOfSet_13 : decode cX6_dryOfSet 13 = .ok (.iload_n 3, 1) := by decide +kernel
theorem dX6_dryOfSet_14 : decode cX6_dryOfSet 14 = .ok (.ishr, 1) := by decide +kernel
theorem dX6_dryOfSet_15 : decode cX6_dryOfSet 15 = .ok (.iconst 1, 1) := by decide +kernel
theorem dX6_dryOfSet_16 : decode cX6_dryOfSet 16 = .ok (.iand, 1) := by decide +kernel
theorem dX6_dryOfSet_17 : decode cX6_dryOfSet 17 = .ok (.ifCond .eq 15, 3) := by decide +kernel
theorem dX6_dryOfSet_20 : decode cX6_dryOfSet 20 = .ok (.iload_n 2, 1) := by decide +kernel
theorem dX6_dryOfSet_21 : decode cX6_dryOfSet 21 = .ok (.aload_n 0, 1) := by decide +kernel
theorem dX6_dryOfSet_22 : decode cX6_dryOfSet 22 = .ok (.getfield 11, 3) := by decide +kernel
theorem dX6_dryOfSet_25 : decode cX6_dryOfSet 25 = .ok (.iload_n 3, 1) := by decide +kernel
theorem dX6_dryOfSet_26 : decode cX6_dryOfSet 26 = .ok (.aaload, 1) := by decide +kernel
theorem dX6_dryOfSet_27 : decode cX6_dryOfSet 27 = .ok (.getfield 106, 3) := by decide +kernel
theorem dX6_dryOfSet_30 : decode cX6_dryOfSet 30 = .ok (.iadd, 1) := by decide +kernel
theorem dX6_dryOfSet_31 : decode cX6_dryOfSet 31 = .ok (.istore_n 2, 1) := by decide +kernel
theorem dX6_dryOfSet_32 : decode cX6_dryOfSet 32 = .ok (.iinc 3 1, 3) := by decide +kernel
theorem dX6_dryOfSet_35 : decode cX6_dryOfSet 35 = .ok (.goto (-31), 3) := by decide +kernel
theorem dX6_dryOfSet_38 : decode cX6_dryOfSet 38 = .ok (.iload_n 2, 1) := by decide +kernel
theorem dX6_dryOfSet_39 : decode cX6_dryOfSet 39 = .ok (.ireturn, 1) := by decide +kernel
theorem dX6_mayBeCarried_0 : decode cX6_mayBeCarried 0 = .ok (.aload_n 0, 1) := by decide +kernel
theorem dX6_mayBeCarried_1 : decode cX6_mayBeCarried 1 = .ok (.iload_n 2, 1) := by decide +kernel
theorem dX6_mayBeCarried_2 : decode cX6_mayBeCarried 2 = .ok (.invokevirtual 116, 3) := by decide +kernel
theorem dX6_mayBeCarried_5 : decode cX6_mayBeCarried 5 = .ok (.istore 4, 2) := by decide +kernel
theorem dX6_mayBeCarried_7 : decode cX6_mayBeCarried 7 = .ok (.iload 4, 2) := by decide +kernel
theorem dX6_mayBeCarried_9 : decode cX6_mayBeCarried 9 = .ok (.aload_n 0, 1) := by decide +kernel
theorem dX6_mayBeCarried_10 : decode cX6_mayBeCarried 10 = .ok (.getfield 17, 3) := by decide +kernel
theorem dX6_mayBeCarried_13 : decode cX6_mayBeCarried 13 = .ok (.iload_n 1, 1) := by decide +kernel
theorem dX6_mayBeCarried_14 : decode cX6_mayBeCarried 14 = .ok (.iaload, 1) := by decide +kernel
theorem dX6_mayBeCarried_15 : decode cX6_mayBeCarried 15 = .ok (.if_icmp .gt 18, 3) := by decide +kernel
theorem dX6_mayBeCarried_18 : decode cX6_mayBeCarried 18 = .ok (.iload 4, 2) := by decide +kernel
theorem dX6_mayBeCarried_20 : decode cX6_mayBeCarried 20 = .ok (.aload_n 0, 1) := by decide +kernel
theorem dX6_mayBeCarried_21 : decode cX6_mayBeCarried 21 = .ok (.getfield 24, 3) := by decide +kernel
theorem dX6_mayBeCarried_24 : decode cX6_mayBeCarried 24 = .ok (.iload_n 3, 1) := by decide +kernel
theorem dX6_mayBeCarried_25 : decode cX6_mayBeCarried 25 = .ok (.iaload, 1) := by decide +kernel
theorem dX6_mayBeCarried_26 : decode cX6_mayBeCarried 26 = .ok (.if_icmp .gt 7, 3) := by decide +kernel
theorem dX6_mayBeCarried_29 : decode cX6_mayBeCarried 29 = .ok (.iconst 1, 1) := by decide +kernel
theorem dX6_mayBeCarried_30 : decode cX6_mayBeCarried 30 = .ok (.goto 4, 3) := by decide +kernel
theorem dX6_mayBeCarried_33 : decode cX6_mayBeCarried 33 = .ok (.iconst 0, 1) := by decide +kernel
theorem dX6_mayBeCarried_34 : decode cX6_mayBeCarried 34 = .ok (.ireturn, 1) := by decide +kernel
theorem dX6_beCarried_0 : decode cX6_beCarried 0 = .ok (.aload_n 0, 1) := by decide +kernel
theorem dX6_beCarried_1 : decode cX6_beCarried 1 = .ok (.iload_n 2, 1) := by decide +kernel
theorem dX6_beCarried_2 : decode cX6_beCarried 2 = .ok (.invokevirtual 119, 3) := by decide +kernel
theorem dX6_beCarried_5 : decode cX6_beCarried 5 = .ok (.istore 4, 2) := by decide +kernel
theorem dX6_beCarried_7 : decode cX6_beCarried 7 = .ok (.aload_n 0, 1) := by decide +kernel
theorem dX6_beCarried_8 : decode cX6_beCarried 8 = .ok (.getfield 24, 3) := by decide +kernel
theorem dX6_beCarried_11 : decode cX6_beCarried 11 = .ok (.iload_n 3, 1) := by decide +kernel
theorem dX6_beCarried_12 : decode cX6_beCarried 12 = .ok (.dup2, 1) := by decide +kernel
theorem dX6_beCarried_13 : decode cX6_beCarried 13 = .ok (.iaload, 1) := by decide +kernel
theorem dX6_beCarried_14 : decode cX6_beCarried 14 = .ok (.aload_n 0, 1) := by decide +kernel
theorem dX6_beCarried_15 : decode cX6_beCarried 15 = .ok (.iload_n 2, 1) := by decide +kernel
theorem dX6_beCarried_16 : decode cX6_beCarried 16 = .ok (.invokevirtual 116, 3) := by decide +kernel
theorem dX6_beCarried_19 : decode cX6_beCarried 19 = .ok (.isub, 1) := by decide +kernel
theorem dX6_beCarried_20 : decode cX6_beCarried 20 = .ok (.iastore, 1) := by decide +kernel
theorem dX6_beCarried_21 : decode cX6_beCarried 21 = .ok (.aload_n 0, 1) := by decide +kernel
theorem dX6_beCarried_22 : decode cX6_beCarried 22 = .ok (.getfield 21, 3) := by decide +kernel
theorem dX6_beCarried_25 : decode cX6_beCarried 25 = .ok (.iload_n 1, 1) := by decide +kernel
theorem dX6_beCarried_26 : decode cX6_beCarried 26 = .ok (.ldc 122, 2) := by decide +kernel
theorem dX6_beCarried_28 : decode cX6_beCarried 28 = .ok (.aload_n 0, 1) := by decide +kernel
theorem dX6_beCarried_29 : decode cX6_beCarried 29 = .ok (.getfield 21, 3) := by decide +kernel
theorem dX6_beCarried_32 : decode cX6_beCarried 32 = .ok (.iload_n 1, 1) := by decide +kernel
theorem dX6_beCarried_33 : decode cX6_beCarried 33 = .ok (.iaload, 1) := by decide +kernel
theorem dX6_beCarried_34 : decode cX6_beCarried 34 = .ok (.iload 4, 2) := by decide +kernel
theorem dX6_beCarried_36 : decode cX6_beCarried 36 = .ok (.iadd, 1) := by decide +kernel
theorem dX6_beCarried_37 : decode cX6_beCarried 37 = .ok (.invokestatic 85, 3) := by decide +kernel
theorem dX6_beCarried_40 : decode cX6_beCarried 40 = .ok (.iastore, 1) := by decide +kernel
theorem dX6_beCarried_41 : decode cX6_beCarried 41 = .ok (.iconst 0, 1) := by decide +kernel
theorem dX6_beCarried_42 : decode cX6_beCarried 42 = .ok (.istore 5, 2) := by decide +kernel
theorem dX6_beCarried_44 : decode cX6_beCarried 44 = .ok (.iload 5, 2) := by decide +kernel
theorem dX6_beCarried_46 : decode cX6_beCarried 46 = .ok (.aload_n 0, 1) := by decide +kernel
theorem dX6_beCarried_47 : decode cX6_beCarried 47 = .ok (.getfield 59, 3) := by decide +kernel
theorem dX6_beCarried_50 : decode cX6_beCarried 50 = .ok (.if_icmp .ge 65, 3) := by decide +kernel
theorem dX6_beCarried_53 : decode cX6_beCarried 53 = .ok (.iload_n 2, 1) := by decide +kernel
theorem dX6_beCarried_54 : decode cX6_beCarried 54 = .ok (.iload 5, 2) := by decide +kernel
theorem dX6_beCarried_56 : decode cX6_beCarried 56 = .ok (.ishr, 1) := by decide +kernel
theorem dX6_beCarried_57 : decode cX6_beCarried 57 = .ok (.iconst 1, 1) := by decide +kernel
theorem dX6_beCarried_58 : decode cX6_beCarried 58 = .ok (.iand, 1) := by decide +kernel
theorem dX6_beCarried_59 : decode cX6_beCarried 59 = .ok (.ifCond .eq 50, 3) := by decide +kernel
theorem dX6_beCarried_62 : decode cX6_beCarried 62 = .ok (.aload_n 0, 1) := by decide +kernel
theorem dX6_beCarried_63 : decode cX6_beCarried 63 = .ok (.getfield 11, 3) := by decide +kernel
theorem dX6_beCarried_66 : decode cX6_beCarried 66 = .ok (.iload 5, 2) := by decide +kernel
theorem dX6_beCarried_68 : decode cX6_beCarried 68 = .ok (.aaload, 1) := by decide +kernel
theorem dX6_beCarried_69 : decode cX6_beCarried 69 = .ok (.ldc 122, 2) := by decide +kernel
theorem dX6_beCarried_71 : decode cX6_beCarried 71 = .ok (.aload_n 0, 1) := by decide +kernel
theorem dX6_beCarried_72 : decode cX6_beCarried 72 = .ok (.getfield 11, 3) := by decide +kernel
theorem dX6_beCarried_75 : decode cX6_beCarried 75 = .ok (.iload 5, 2) := by decide +kernel
theorem dX6_beCarried_77 : decode cX6_beCarried 77 = .ok (.aaload, 1) := by decide +kernel
theorem dX6_beCarried_78 : decode cX6_beCarried 78 = .ok (.getfield 123, 3) := by decide +kernel
theorem dX6_beCarried_81 : decode cX6_beCarried 81 = .ok (.aload_n 0, 1) := by decide +kernel
theorem dX6_beCarried_82 : decode cX6_beCarried 82 = .ok (.getfield 11, 3) := by decide +kernel
theorem dX6_beCarried_85 : decode cX6_beCarried 85 = .ok (.iload 5, 2) := by decide +kernel
theorem dX6_beCarried_87 : decode cX6_beCarried 87 = .ok (.aaload, 1) := by decide +kernel
theorem dX6_beCarried_88 : decode cX6_beCarried 88 = .ok (.getfield 106, 3) := by decide +kernel
theorem dX6_beCarried_91 : decode cX6_beCarried 91 = .ok (.iadd, 1) := by decide +kernel
theorem dX6_beCarried_92 : decode cX6_beCarried 92 = .ok (.invokestatic 85, 3) := by decide +kernel
theorem dX6_beCarried_95 : decode cX6_beCarried 95 = .ok (.putfield 123, 3) := by decide +kernel
theorem dX6_beCarried_98 : decode cX6_beCarried 98 = .ok (.aload_n 0, 1) := by decide +kernel
theorem dX6_beCarried_99 : decode cX6_beCarried 99 = .ok (.getfield 11, 3) := by decide +kernel
theorem dX6_beCarried_102 : decode cX6_beCarried 102 = .ok (.iload 5, 2) := by decide +kernel
theorem dX6_beCarried_104 : decode cX6_beCarried 104 = .ok (.aaload, 1) := by decide +kernel
theorem dX6_beCarried_105 : decode cX6_beCarried 105 = .ok (.iconst 0, 1) := by decide +kernel
theorem dX6_beCarried_106 : decode cX6_beCarried 106 = .ok (.putfield 106, 3) := by decide +kernel
theorem dX6_beCarried_109 : decode cX6_beCarried 109 = .ok (.iinc 5 1, 3) := by decide +kernel
theorem dX6_beCarried_112 : decode cX6_beCarried 112 = .ok (.goto (-68), 3) := by decide +kernel
theorem dX6_beCarried_115 : decode cX6_beCarried 115 = .ok (.iload 4, 2) := by decide +kernel
theorem dX6_beCarried_117 : decode cX6_beCarried 117 = .ok (.ireturn, 1) := by decide +kernel
theorem dX6_carryByDraws_0 : decode cX6_carryByDraws 0 = .ok (.aload_n 0, 1) := by decide +kernel
theorem dX6_carryByDraws_1 : decode cX6_carryByDraws 1 = .ok (.getfield 62, 3) := by decide +kernel
theorem dX6_carryByDraws_4 : decode cX6_carryByDraws 4 = .ok (.ifCond .eq 10, 3) := by decide +kernel
theorem dX6_carryByDraws_7 : decode cX6_carryByDraws 7 = .ok (.aload_n 0, 1) := by decide +kernel
theorem dX6_carryByDraws_8 : decode cX6_carryByDraws 8 = .ok (.getfield 59, 3) := by decide +kernel
theorem dX6_carryByDraws_11 : decode cX6_carryByDraws 11 = .ok (.ifCond .ne 5, 3) := by decide +kernel
theorem dX6_carryByDraws_14 : decode cX6_carryByDraws 14 = .ok (.iconst 0, 1) := by decide +kernel
theorem dX6_carryByDraws_15 : decode cX6_carryByDraws 15 = .ok (.ireturn, 1) := by decide +kernel
theorem dX6_carryByDraws_16 : decode cX6_carryByDraws 16 = .ok (.aload_n 0, 1) := by decide +kernel
theorem dX6_carryByDraws_17 : decode cX6_carryByDraws 17 = .ok (.invokevirtual 126, 3) := by decide +kernel
theorem dX6_carryByDraws_20 : decode cX6_carryByDraws 20 = .ok (.aload_n 0, 1) := by decide +kernel
theorem dX6_carryByDraws_21 : decode cX6_carryByDraws 21 = .ok (.getfield 62, 3) := by decide +kernel
theorem dX6_carryByDraws_24 : decode cX6_carryByDraws 24 = .ok (.irem, 1) := by decide +kernel
theorem dX6_carryByDraws_25 : decode cX6_carryByDraws 25 = .ok (.istore_n 1, 1) := by decide +kernel
theorem dX6_carryByDraws_26 : decode cX6_carryByDraws 26 = .ok (.aload_n 0, 1) := by decide +kernel
theorem dX6_carryByDraws_27 : decode cX6_carryByDraws 27 = .ok (.invokevirtual 126, 3) := by decide +kernel
theorem dX6_carryByDraws_30 : decode cX6_carryByDraws 30 = .ok (.iconst 1, 1) := by decide +kernel
theorem dX6_carryByDraws_31 : decode cX6_carryByDraws 31 = .ok (.aload_n 0, 1) := by decide +kernel
theorem dX6_carryByDraws_32 : decode cX6_carryByDraws 32 = .ok (.getfield 59, 3) := by decide +kernel
theorem dX6_carryByDraws_35 : decode cX6_carryByDraws 35 = .ok (.ishl, 1) := by decide +kernel
theorem dX6_carryByDraws_36 : decode cX6_carryByDraws 36 = .ok (.irem, 1) := by decide +kernel
theorem dX6_carryByDraws_37 : decode cX6_carryByDraws 37 = .ok (.istore_n 2, 1) := by decide +kernel
theorem dX6_carryByDraws_38 : decode cX6_carryByDraws 38 = .ok (.aload_n 0, 1) := by decide +kernel
theorem dX6_carryByDraws_39 : decode cX6_carryByDraws 39 = .ok (.invokevirtual 126, 3) := by decide +kernel
theorem dX6_carryByDraws_42 : decode cX6_carryByDraws 42 = .ok (.iconst 3, 1) := by decide +kernel
theorem dX6_carryByDraws_43 : decode cX6_carryByDraws 43 = .ok (.irem, 1) := by decide +kernel
theorem dX6_carryByDraws_44 : decode cX6_carryByDraws 44 = .ok (.istore_n 3, 1) := by decide +kernel
theorem dX6_carryByDraws_45 : decode cX6_carryByDraws 45 = .ok (.iload_n 2, 1) := by decide +kernel
theorem dX6_carryByDraws_46 : decode cX6_carryByDraws 46 = .ok (.ifCond .eq 23, 3) := by decide +kernel
theorem dX6_carryByDraws_49 : decode cX6_carryByDraws 49 = .ok (.aload_n 0, 1) := by decide +kernel
theorem dX6_carryByDraws_50 : decode cX6_carryByDraws 50 = .ok (.iload_n 1, 1) := by decide +kernel
theorem dX6_carryByDraws_51 : decode cX6_carryByDraws 51 = .ok (.iload_n 2, 1) := by decide +kernel
theorem dX6_carryByDraws_52 : decode cX6_carryByDraws 52 = .ok (.iload_n 3, 1) := by decide +kernel
theorem dX6_carryByDraws_53 : decode cX6_carryByDraws 53 = .ok (.invokevirtual 129, 3) := by decide +kernel
theorem dX6_carryByDraws_56 : decode cX6_carryByDraws 56 = .ok (.ifCond .eq 13, 3) := by decide +kernel
theorem dX6_carryByDraws_59 : decode cX6_carryByDraws 59 = .ok (.aload_n 0, 1) := by decide +kernel
theorem dX6_carryByDraws_60 : decode cX6_carryByDraws 60 = .ok (.iload_n 1, 1) := by decide +kernel
theorem dX6_carryByDraws_61 : decode cX6_carryByDraws 61 = .ok (.iload_n 2, 1) := by decide +kernel
theorem dX6_carryByDraws_62 : decode cX6_carryByDraws 62 = .ok (.iload_n 3, 1) := by decide +kernel
theorem dX6_carryByDraws_63 : decode cX6_carryByDraws 63 = .ok (.invokevirtual 133, 3) := by decide +kernel
theorem dX6_carryByDraws_66 : decode cX6_carryByDraws 66 = .ok (.goto 4, 3) := by decide +kernel
theorem dX6_carryByDraws_69 : decode cX6_carryByDraws 69 = .ok (.iconst 0, 1) := by decide +kernel
theorem dX6_carryByDraws_70 : decode cX6_carryByDraws 70 = .ok (.ireturn, 1) := by decide +kernel
theorem dX6_drawn_0 : decode cX6_drawn 0 = .ok (.aload_n 0, 1) := by decide +kernel
theorem dX6_drawn_1 : decode cX6_drawn 1 = .ok (.aload_n 0, 1) := by decide +kernel
theorem dX6_drawn_2 : decode cX6_drawn 2 = .ok (.getfield 27, 3) := by decide +kernel
theorem dX6_drawn_5 : decode cX6_drawn 5 = .ok (.ldc 136, 2) := by decide +kernel
theorem dX6_drawn_7 : decode cX6_drawn 7 = .ok (.imul, 1) := by decide +kernel
theorem dX6_drawn_8 : decode cX6_drawn 8 = .ok (.sipush 12345, 3) := by decide +kernel
theorem dX6_drawn_11 : decode cX6_drawn 11 = .ok (.iadd, 1) := by decide +kernel
theorem dX6_drawn_12 : decode cX6_drawn 12 = .ok (.putfield 27, 3) := by decide +kernel
theorem dX6_drawn_15 : decode cX6_drawn 15 = .ok (.aload_n 0, 1) := by decide +kernel
theorem dX6_drawn_16 : decode cX6_drawn 16 = .ok (.getfield 27, 3) := by decide +kernel
theorem dX6_drawn_19 : decode cX6_drawn 19 = .ok (.bipush 8, 2) := by decide +kernel
theorem dX6_drawn_21 : decode cX6_drawn 21 = .ok (.iushr, 1) := by decide +kernel
theorem dX6_drawn_22 : decode cX6_drawn 22 = .ok (.ireturn, 1) := by decide +kernel
theorem dX6_goOnAnHour_0 : decode cX6_goOnAnHour 0 = .ok (.iconst 0, 1) := by decide +kernel
theorem dX6_goOnAnHour_1 : decode cX6_goOnAnHour 1 = .ok (.istore_n 1, 1) := by decide +kernel
theorem dX6_goOnAnHour_2 : decode cX6_goOnAnHour 2 = .ok (.iload_n 1, 1) := by decide +kernel
theorem dX6_goOnAnHour_3 : decode cX6_goOnAnHour 3 = .ok (.aload_n 0, 1) := by decide +kernel
theorem dX6_goOnAnHour_4 : decode cX6_goOnAnHour 4 = .ok (.getfield 59, 3) := by decide +kernel
theorem dX6_goOnAnHour_7 : decode cX6_goOnAnHour 7 = .ok (.if_icmp .ge 68, 3) := by decide +kernel
theorem dX6_goOnAnHour_10 : decode cX6_goOnAnHour 10 = .ok (.aload_n 0, 1) := by decide +kernel
theorem dX6_goOnAnHour_11 : decode cX6_goOnAnHour 11 = .ok (.getfield 11, 3) := by decide +kernel
theorem dX6_goOnAnHour_14 : decode cX6_goOnAnHour 14 = .ok (.iload_n 1, 1) := by decide +kernel
theorem dX6_goOnAnHour_15 : decode cX6_goOnAnHour 15 = .ok (.aaload, 1) := by decide +kernel
theorem dX6_goOnAnHour_16 : decode cX6_goOnAnHour 16 = .ok (.astore_n 2, 1) := by decide +kernel
theorem dX6_goOnAnHour_17 : decode cX6_goOnAnHour 17 = .ok (.aload_n 2, 1) := by decide +kernel
theorem dX6_goOnAnHour_18 : decode cX6_goOnAnHour 18 = .ok (.dup, 1) := by decide +kernel
theorem dX6_goOnAnHour_19 : decode cX6_goOnAnHour 19 = .ok (.getfield 106, 3) := by decide +kernel
theorem dX6_goOnAnHour_22 : decode cX6_goOnAnHour 22 = .ok (.aload_n 0, 1) := by decide +kernel
theorem dX6_goOnAnHour_23 : decode cX6_goOnAnHour 23 = .ok (.aload_n 2, 1) := by decide +kernel
theorem dX6_goOnAnHour_24 : decode cX6_goOnAnHour 24 = .ok (.aload_n 2, 1) := by decide +kernel
theorem dX6_goOnAnHour_25 : decode cX6_goOnAnHour 25 = .ok (.getfield 106, 3) := by decide +kernel
theorem dX6_goOnAnHour_28 : decode cX6_goOnAnHour 28 = .ok (.aload_n 0, 1) := by decide +kernel
theorem dX6_goOnAnHour_29 : decode cX6_goOnAnHour 29 = .ok (.getfield 65, 3) := by decide +kernel
theorem dX6_goOnAnHour_32 : decode cX6_goOnAnHour 32 = .ok (.invokevirtual 137, 3) := by decide +kernel
theorem dX6_goOnAnHour_35 : decode cX6_goOnAnHour 35 = .ok (.iadd, 1) := by decide +kernel
theorem dX6_goOnAnHour_36 : decode cX6_goOnAnHour 36 = .ok (.putfield 106, 3) := by decide +kernel
theorem dX6_goOnAnHour_39 : decode cX6_goOnAnHour 39 = .ok (.aload_n 2, 1) := by decide +kernel
theorem dX6_goOnAnHour_40 : decode cX6_goOnAnHour 40 = .ok (.getfield 106, 3) := by decide +kernel
theorem dX6_goOnAnHour_43 : decode cX6_goOnAnHour 43 = .ok (.bipush 99, 2) := by decide +kernel
theorem dX6_goOnAnHour_45 : decode cX6_goOnAnHour 45 = .ok (.if_icmp .le 24, 3) := by decide +kernel
theorem dX6_goOnAnHour_48 : decode cX6_goOnAnHour 48 = .ok (.aload_n 2, 1) := by decide +kernel
theorem dX6_goOnAnHour_49 : decode cX6_goOnAnHour 49 = .ok (.bipush 99, 2) := by decide +kernel
theorem dX6_goOnAnHour_51 : decode cX6_goOnAnHour 51 = .ok (.putfield 106, 3) := by decide +kernel
theorem dX6_goOnAnHour_54 : decode cX6_goOnAnHour 54 = .ok (.aload_n 0, 1) := by decide +kernel
theorem dX6_goOnAnHour_55 : decode cX6_goOnAnHour 55 = .ok (.ldc 122, 2) := by decide +kernel
theorem dX6_goOnAnHour_57 : decode cX6_goOnAnHour 57 = .ok (.aload_n 0, 1) := by decide +kernel
theorem dX6_goOnAnHour_58 : decode cX6_goOnAnHour 58 = .ok (.getfield 68, 3) := by decide +kernel
theorem dX6_goOnAnHour_61 : decode cX6_goOnAnHour 61 = .ok (.iconst 1, 1) := by decide +kernel
theorem dX6_goOnAnHour_62 : decode cX6_goOnAnHour 62 = .ok (.iadd, 1) := by decide +kernel
theorem dX6_goOnAnHour_63 : decode cX6_goOnAnHour 63 = .ok (.invokestatic 85, 3) := by decide +kernel
theorem dX6_goOnAnHour_66 : decode cX6_goOnAnHour 66 = .ok (.putfield 68, 3) := by decide +kernel
theorem dX6_goOnAnHour_69 : decode cX6_goOnAnHour 69 = .ok (.iinc 1 1, 3) := by decide +kernel
theorem dX6_goOnAnHour_72 : decode cX6_goOnAnHour 72 = .ok (.goto (-70), 3) := by decide +kernel
theorem dX6_goOnAnHour_75 : decode cX6_goOnAnHour 75 = .ok (.iconst 0, 1) := by decide +kernel
theorem dX6_goOnAnHour_76 : decode cX6_goOnAnHour 76 = .ok (.istore_n 1, 1) := by decide +kernel
theorem dX6_goOnAnHour_77 : decode cX6_goOnAnHour 77 = .ok (.iload_n 1, 1) := by decide +kernel
theorem dX6_goOnAnHour_78 : decode cX6_goOnAnHour 78 = .ok (.iconst 3, 1) := by decide +kernel
theorem dX6_goOnAnHour_79 : decode cX6_goOnAnHour 79 = .ok (.if_icmp .ge 31, 3) := by decide +kernel
theorem dX6_goOnAnHour_82 : decode cX6_goOnAnHour 82 = .ok (.aload_n 0, 1) := by decide +kernel
theorem dX6_goOnAnHour_83 : decode cX6_goOnAnHour 83 = .ok (.getfield 24, 3) := by decide +kernel
theorem dX6_goOnAnHour_86 : decode cX6_goOnAnHour 86 = .ok (.iload_n 1, 1) := by decide +kernel
theorem dX6_goOnAnHour_87 : decode cX6_goOnAnHour 87 = .ok (.sipush 999, 3) := by decide +kernel
theorem dX6_goOnAnHour_90 : decode cX6_goOnAnHour 90 = .ok (.aload_n 0, 1) := by decide +kernel
theorem dX6_goOnAnHour_91 : decode cX6_goOnAnHour 91 = .ok (.getfield 24, 3) := by decide +kernel
theorem dX6_goOnAnHour_94 : decode cX6_goOnAnHour 94 = .ok (.iload_n 1, 1) := by decide +kernel
theorem dX6_goOnAnHour_95 : decode cX6_goOnAnHour 95 = .ok (.iaload, 1) := by decide +kernel
theorem dX6_goOnAnHour_96 : decode cX6_goOnAnHour 96 = .ok (.iload_n 1, 1) := by decide +kernel
theorem dX6_goOnAnHour_97 : decode cX6_goOnAnHour 97 = .ok (.iadd, 1) := by decide +kernel
theorem dX6_goOnAnHour_98 : decode cX6_goOnAnHour 98 = .ok (.iconst 1, 1) := by decide +kernel
theorem dX6_goOnAnHour_99 : decode cX6_goOnAnHour 99 = .ok (.iadd, 1) := by decide +kernel
theorem dX6_goOnAnHour_100 : decode cX6_goOnAnHour 100 = .ok (.invokestatic 85, 3) := by decide +kernel
theorem dX6_goOnAnHour_103 : decode cX6_goOnAnHour 103 = .ok (.iastore, 1) := by decide +kernel
theorem dX6_goOnAnHour_104 : decode cX6_goOnAnHour 104 = .ok (.iinc 1 1, 3) := by decide +kernel
theorem dX6_goOnAnHour_107 : decode cX6_goOnAnHour 107 = .ok (.goto (-30), 3) := by decide +kernel
theorem dX6_goOnAnHour_110 : decode cX6_goOnAnHour 110 = .ok (.aload_n 0, 1) := by decide +kernel
theorem dX6_goOnAnHour_111 : decode cX6_goOnAnHour 111 = .ok (.dup, 1) := by decide +kernel
theorem dX6_goOnAnHour_112 : decode cX6_goOnAnHour 112 = .ok (.getfield 65, 3) := by decide +kernel
theorem dX6_goOnAnHour_115 : decode cX6_goOnAnHour 115 = .ok (.iconst 1, 1) := by decide +kernel
theorem dX6_goOnAnHour_116 : decode cX6_goOnAnHour 116 = .ok (.iadd, 1) := by decide +kernel
theorem dX6_goOnAnHour_117 : decode cX6_goOnAnHour 117 = .ok (.putfield 65, 3) := by decide +kernel
theorem dX6_goOnAnHour_120 : decode cX6_goOnAnHour 120 = .ok (.return_, 1) := by decide +kernel
theorem dX7_init_0 : decode cX7_init 0 = .ok (.aload_n 0, 1) := by decide +kernel
theorem dX7_init_1 : decode cX7_init 1 = .ok (.invokespecial 1, 3) := by decide +kernel
theorem dX7_init_4 : decode cX7_init 4 = .ok (.aload_n 0, 1) := by decide +kernel
theorem dX7_init_5 : decode cX7_init 5 = .ok (.new 7, 3) := by decide +kernel
theorem dX7_init_8 : decode cX7_init 8 = .ok (.dup, 1) := by decide +kernel
theorem dX7_init_9 : decode cX7_init 9 = .ok (.invokespecial 9, 3) := by decide +kernel
theorem dX7_init_12 : decode cX7_init 12 = .ok (.putfield 10, 3) := by decide +kernel
theorem dX7_init_15 : decode cX7_init 15 = .ok (.aload_n 0, 1) := by decide +kernel
theorem dX7_init_16 : decode cX7_init 16 = .ok (.new 7, 3) := by decide +kernel
theorem dX7_init_19 : decode cX7_init 19 = .ok (.dup, 1) := by decide +kernel
theorem dX7_init_20 : decode cX7_init 20 = .ok (.invokespecial 9, 3) := by decide +kernel
theorem dX7_init_23 : decode cX7_init 23 = .ok (.putfield 16, 3) := by decide +kernel
theorem dX7_init_26 : decode cX7_init 26 = .ok (.aload_n 0, 1) := by decide +kernel
theorem dX7_init_27 : decode cX7_init 27 = .ok (.new 19, 3) := by decide +kernel
theorem dX7_init_30 : decode cX7_init 30 = .ok (.dup, 1) := by decide +kernel
theorem dX7_init_31 : decode cX7_init 31 = .ok (.aload_n 0, 1) := by decide +kernel
theorem dX7_init_32 : decode cX7_init 32 = .ok (.getfield 10, 3) := by decide +kernel
theorem dX7_init_35 : decode cX7_init 35 = .ok (.invokespecial 21, 3) := by decide +kernel
theorem dX7_init_38 : decode cX7_init 38 = .ok (.putfield 24, 3) := by decide +kernel
theorem dX7_init_41 : decode cX7_init 41 = .ok (.aload_n 0, 1) := by decide +kernel
theorem dX7_init_42 : decode cX7_init 42 = .ok (.new 28, 3) := by decide +kernel
theorem dX7_init_45 : decode cX7_init 45 = .ok (.dup, 1) := by decide +kernel
theorem dX7_init_46 : decode cX7_init 46 = .ok (.invokespecial 30, 3) := by decide +kernel
theorem dX7_init_49 : decode cX7_init 49 = .ok (.putfield 31, 3) := by decide +kernel
theorem dX7_init_52 : decode cX7_init 52 = .ok (.aload_n 0, 1) := by decide +kernel
theorem dX7_init_53 : decode cX7_init 53 = .ok (.new 35, 3) := by decide +kernel
theorem dX7_init_56 : decode cX7_init 56 = .ok (.dup, 1) := by decide +kernel
theorem dX7_init_57 : decode cX7_init 57 = .ok (.invokespecial 37, 3) := by decide +kernel
theorem dX7_init_60 : decode cX7_init 60 = .ok (.putfield 38, 3) := by decide +kernel
theorem dX7_init_63 : decode cX7_init 63 = .ok (.aload_n 0, 1) := by decide +kernel
theorem dX7_init_64 : decode cX7_init 64 = .ok (.iconst 4, 1) := by decide +kernel
theorem dX7_init_65 : decode cX7_init 65 = .ok (.anewarray 42, 3) := by decide +kernel
theorem dX7_init_68 : decode cX7_init 68 = .ok (.putfield 44, 3) := by decide +kernel
theorem dX7_init_71 : decode cX7_init 71 = .ok (.aload_n 0, 1) := by decide +kernel
theorem dX7_init_72 : decode cX7_init 72 = .ok (.bipush 7, 2) := by decide +kernel
theorem dX7_init_74 : decode cX7_init 74 = .ok (.newarray .int, 2) := by decide +kernel
theorem dX7_init_76 : decode cX7_init 76 = .ok (.putfield 48, 3) := by decide +kernel
theorem dX7_init_79 : decode cX7_init 79 = .ok (.iconst 0, 1) := by decide +kernel
theorem dX7_init_80 : decode cX7_init 80 = .ok (.istore_n 1, 1) := by decide +kernel
theorem dX7_init_81 : decode cX7_init 81 = .ok (.iload_n 1, 1) := by decide +kernel
theorem dX7_init_82 : decode cX7_init 82 = .ok (.aload_n 0, 1) := by decide +kernel
theorem dX7_init_83 : decode cX7_init 83 = .ok (.getfield 44, 3) := by decide +kernel
theorem dX7_init_86 : decode cX7_init 86 = .ok (.arraylength, 1) := by decide +kernel
theorem dX7_init_87 : decode cX7_init 87 = .ok (.if_icmp .ge 22, 3) := by decide +kernel
theorem dX7_init_90 : decode cX7_init 90 = .ok (.aload_n 0, 1) := by decide +kernel
theorem dX7_init_91 : decode cX7_init 91 = .ok (.getfield 44, 3) := by decide +kernel
theorem dX7_init_94 : decode cX7_init 94 = .ok (.iload_n 1, 1) := by decide +kernel
theorem dX7_init_95 : decode cX7_init 95 = .ok (.new 42, 3) := by decide +kernel
theorem dX7_init_98 : decode cX7_init 98 = .ok (.dup, 1) := by decide +kernel
theorem dX7_init_99 : decode cX7_init 99 = .ok (.invokespecial 52, 3) := by decide +kernel
theorem dX7_init_102 : decode cX7_init 102 = .ok (.aastore, 1) := by decide +kernel
theorem dX7_init_103 : decode cX7_init 103 = .ok (.iinc 1 1, 3) := by decide +kernel
theorem dX7_init_106 : decode cX7_init 106 = .ok (.goto (-25), 3) := by decide +kernel
theorem dX7_init_109 : decode cX7_init 109 = .ok (.return_, 1) := by decide +kernel
theorem dX7_farm_0 : decode cX7_farm 0 = .ok (.iload_n 1, 1) := by decide +kernel
theorem dX7_farm_1 : decode cX7_farm 1 = .ok (.invokestatic 53, 3) := by decide +kernel
theorem dX7_farm_4 : decode cX7_farm 4 = .ok (.ifCond .eq 23, 3) := by decide +kernel
theorem dX7_farm_7 : decode cX7_farm 7 = .ok (.iload_n 2, 1) := by decide +kernel
theorem dX7_farm_8 : decode cX7_farm 8 = .ok (.iconst 1, 1) := by decide +kernel
theorem dX7_farm_9 : decode cX7_farm 9 = .ok (.bipush 40, 2) := by decide +kernel
theorem dX7_farm_11 : decode cX7_farm 11 = .ok (.invokestatic 57, 3) := by decide +kernel
theorem dX7_farm_14 : decode cX7_farm 14 = .ok (.ifCond .eq 13, 3) := by decide +kernel
theorem dX7_farm_17 : decode cX7_farm 17 = .ok (.iload_n 3, 1) := by decide +kernel
theorem dX7_farm_18 : decode cX7_farm 18 = .ok (.iconst 0, 1) := by decide +kernel
theorem dX7_farm_19 : decode cX7_farm 19 = .ok (.bipush 30, 2) := by decide +kernel
theorem dX7_farm_21 : decode cX7_farm 21 = .ok (.invokestatic 57, 3) := by decide +kernel
theorem dX7_farm_24 : decode cX7_farm 24 = .ok (.ifCond .ne 9, 3) := by decide +kernel
theorem dX7_farm_27 : decode cX7_farm 27 = .ok (.aload_n 0, 1) := by decide +kernel
theorem dX7_farm_28 : decode cX7_farm 28 = .ok (.iconst 1, 1) := by decide +kernel
theorem dX7_farm_29 : decode cX7_farm 29 = .ok (.invokevirtual 61, 3) := by decide +kernel
theorem dX7_farm_32 : decode cX7_farm 32 = .ok (.ireturn, 1) := by decide +kernel
theorem dX7_farm_33 : decode cX7_farm 33 = .ok (.aload_n 0, 1) := by decide +kernel
theorem dX7_farm_34 : decode cX7_farm 34 = .ok (.getfield 10, 3) := by decide +kernel
theorem dX7_farm_37 : decode cX7_farm 37 = .ok (.getfield 65, 3) := by decide +kernel
theorem dX7_farm_40 : decode cX7_farm 40 = .ok (.bipush 7, 2) := by decide +kernel
theorem dX7_farm_42 : decode cX7_farm 42 = .ok (.if_icmp .lt 9, 3) := by decide +kernel
theorem dX7_farm_45 : decode cX7_farm 45 = .ok (.aload_n 0, 1) := by decide +kernel
theorem dX7_farm_46 : decode cX7_farm 46 = .ok (.iconst 4, 1) := by decide +kernel
theorem dX7_farm_47 : decode cX7_farm 47 = .ok (.invokevirtual 61, 3) := by decide +kernel
theorem dX7_farm_50 : decode cX7_farm 50 = .ok (.ireturn, 1) := by decide +kernel
theorem dX7_farm_51 : decode cX7_farm 51 = .ok (.aload_n 0, 1) := by decide +kernel
theorem dX7_farm_52 : decode cX7_farm 52 = .ok (.getfield 10, 3) := by decide +kernel
theorem dX7_farm_55 : decode cX7_farm 55 = .ok (.getfield 69, 3) := by decide +kernel
theorem dX7_farm_58 : decode cX7_farm 58 = .ok (.aload_n 0, 1) := by decide +kernel
theorem dX7_farm_59 : decode cX7_farm 59 = .ok (.getfield 10, 3) := by decide +kernel
theorem dX7_farm_62 : decode cX7_farm 62 = .ok (.getfield 65, 3) := by decide +kernel
theorem dX7_farm_65 : decode cX7_farm 65 = .ok (.aaload, 1) := by decide +kernel
theorem dX7_farm_66 : decode cX7_farm 66 = .ok (.iload_n 1, 1) := by decide +kernel
theorem dX7_farm_67 : decode cX7_farm 67 = .ok (.iload_n 2, 1) := by decide +kernel
theorem dX7_farm_68 : decode cX7_farm 68 = .ok (.iload_n 3, 1) := by decide +kernel
theorem dX7_farm_69 : decode cX7_farm 69 = .ok (.invokevirtual 73, 3) := by decide +kernel
theorem dX7_farm_72 : decode cX7_farm 72 = .ok (.aload_n 0, 1) := by decide +kernel
theorem dX7_farm_73 : decode cX7_farm 73 = .ok (.getfield 10, 3) := by decide +kernel
theorem dX7_farm_76 : decode cX7_farm 76 = .ok (.dup, 1) := by decide +kernel
theorem dX7_farm_77 : decode cX7_farm 77 = .ok (.getfield 65, 3) := by decide +kernel
theorem dX7_farm_80 : decode cX7_farm 80 = .ok (.iconst 1, 1) := by decide +kernel
theorem dX7_farm_81 : decode cX7_farm 81 = .ok (.iadd, 1) := by decide +kernel
theorem dX7_farm_82 : decode cX7_farm 82 = .ok (.putfield 65, 3) := by decide +kernel
theorem dX7_farm_85 : decode cX7_farm 85 = .ok (.aload_n 0, 1) := by decide +kernel
theorem dX7_farm_86 : decode cX7_farm 86 = .ok (.getfield 10, 3) := by decide +kernel
theorem dX7_farm_89 : decode cX7_farm 89 = .ok (.getfield 65, 3) := by decide +kernel
theorem dX7_farm_92 : decode cX7_farm 92 = .ok (.iconst 1, 1) := by decide +kernel
theorem dX7_farm_93 : decode cX7_farm 93 = .ok (.isub, 1) := by decide +kernel
theorem dX7_farm_94 : decode cX7_farm 94 = .ok (.ireturn, 1) := by decide +kernel
theorem dX7_farmIs_0 : decode cX7_farmIs 0 = .ok (.aload_n 0, 1) := by decide +kernel
theorem dX7_farmIs_1 : decode cX7_farmIs 1 = .ok (.iload_n 1, 1) := by decide +kernel
theorem dX7_farmIs_2 : decode cX7_farmIs 2 = .ok (.invokevirtual 79, 3) := by decide +kernel
theorem dX7_farmIs_5 : decode cX7_farmIs 5 = .ok (.ifCond .ne 9, 3) := by decide +kernel
theorem dX7_farmIs_8 : decode cX7_farmIs 8 = .ok (.aload_n 0, 1) := by decide +kernel
theorem dX7_farmIs_9 : decode cX7_farmIs 9 = .ok (.iconst 1, 1) := by decide +kernel
theorem dX7_farmIs_10 : decode cX7_farmIs 10 = .ok (.invokevirtual 61, 3) := by decide +kernel
theorem dX7_farmIs_13 : decode cX7_farmIs 13 = .ok (.ireturn, 1) := by decide +kernel
theorem dX7_farmIs_14 : decode cX7_farmIs 14 = .ok (.aload_n 0, 1) := by decide +kernel
theorem dX7_farmIs_15 : decode cX7_farmIs 15 = .ok (.getfield 10, 3) := by decide +kernel
theorem dX7_farmIs_18 : decode cX7_farmIs 18 = .ok (.getfield 69, 3) := by decide +kernel
theorem dX7_farmIs_21 : decode cX7_farmIs 21 = .ok (.iload_n 1, 1) := by decide +kernel
theorem dX7_farmIs_22 : decode cX7_farmIs 22 = .ok (.aaload, 1) := by decide +kernel
theorem dX7_farmIs_23 : decode cX7_farmIs 23 = .ok (.astore_n 3, 1) := by decide +kernel
theorem dX7_farmIs_24 : decode cX7_farmIs 24 = .ok (.iload_n 2, 1) := by decide +kernel
theorem dX7_farmIs_25 : decode cX7_farmIs 25 = .ok (.tableswitch 106 0 7 #[47, 52, 57, 62, 67, 72, 77, 97], 47) := by decide +kernel
theorem dX7_farmIs_72 : decode cX7_farmIs 72 = .ok (.aload_n 3, 1) := by decide +kernel
theorem dX7_farmIs_73 : decode cX7_farmIs 73 = .ok (.getfield 82, 3) := by decide +kernel
theorem dX7_farmIs_76 : decode cX7_farmIs 76 = .ok (.ireturn, 1) := by decide +kernel
theorem dX7_farmIs_77 : decode cX7_farmIs 77 = .ok (.aload_n 3, 1) := by decide +kernel
theorem dX7_farmIs_78 : decode cX7_farmIs 78 = .ok (.getfield 85, 3) := by decide +kernel
theorem dX7_farmIs_81 : decode cX7_farmIs 81 = .ok (.ireturn, 1) := by decide +kernel
theorem dX7_farmIs_82 : decode cX7_farmIs 82 = .ok (.aload_n 3, 1) := by decide +kernel
theorem dX7_farmIs_83 : decode cX7_farmIs 83 = .ok (.getfield 88, 3) := by decide +kernel
theorem dX7_farmIs_86 : decode cX7_farmIs 86 = .ok (.ireturn, 1) := by decide +kernel
theorem dX7_farmIs_87 : decode cX7_farmIs 87 = .ok (.aload_n 3, 1) := by decide +kernel
theorem dX7_farmIs_88 : decode cX7_farmIs 88 = .ok (.getfield 91, 3) := by decide +kernel
theorem dX7_farmIs_91 : decode cX7_farmIs 91 = .ok (.ireturn, 1) := by decide +kernel
theorem dX7_farmIs_92 : decode cX7_farmIs 92 = .ok (.aload_n 3, 1) := by decide +kernel
theorem dX7_farmIs_93 : decode cX7_farmIs 93 = .ok (.getfield 94, 3) := by decide +kernel
theorem dX7_farmIs_96 : decode cX7_farmIs 96 = .ok (.ireturn, 1) := by decide +kernel
theorem dX7_farmIs_97 : decode cX7_farmIs 97 = .ok (.aload_n 3, 1) := by decide +kernel
theorem dX7_farmIs_98 : decode cX7_farmIs 98 = .ok (.getfield 97, 3) := by decide +kernel
theorem dX7_farmIs_101 : decode cX7_farmIs 101 = .ok (.ireturn, 1) := by decide +kernel
theorem dX7_farmIs_102 : decode cX7_farmIs 102 = .ok (.aload_n 0, 1) := by decide +kernel
theorem dX7_farmIs_103 : decode cX7_farmIs 103 = .ok (.getfield 10, 3) := by decide +kernel
theorem dX7_farmIs_106 : decode cX7_farmIs 106 = .ok (.aload_n 3, 1) := by decide +kernel
theorem dX7_farmIs_107 : decode cX7_farmIs 107 = .ok (.aload_n 3, 1) := by decide +kernel
theorem dX7_farmIs_108 : decode cX7_farmIs 108 = .ok (.getfield 94, 3) := by decide +kernel
theorem dX7_farmIs_111 : decode cX7_farmIs 111 = .ok (.aload_n 0, 1) := by decide +kernel
theorem dX7_farmIs_112 : decode cX7_farmIs 112 = .ok (.getfield 10, 3) := by decide +kernel
theorem dX7_farmIs_115 : decode cX7_farmIs 115 = .ok (.getfield 100, 3) := by decide +kernel
theorem dX7_farmIs_118 : decode cX7_farmIs 118 = .ok (.invokevirtual 103, 3) := by decide +kernel
theorem dX7_farmIs_121 : decode cX7_farmIs 121 = .ok (.ireturn, 1) := by decide +kernel
theorem dX7_farmIs_122 : decode cX7_farmIs 122 = .ok (.aload_n 0, 1) := by decide +kernel
theorem dX7_farmIs_123 : decode cX7_farmIs 123 = .ok (.getfield 10, 3) := by decide +kernel
theorem dX7_farmIs_126 : decode cX7_farmIs 126 = .ok (.aload_n 3, 1) := by decide +kernel
theorem dX7_farmIs_127 : decode cX7_farmIs 127 = .ok (.invokevirtual 107, 3) := by decide +kernel
theorem dX7_farmIs_130 : decode cX7_farmIs 130 = .ok (.ireturn, 1) := by decide +kernel
theorem dX7_farmIs_131 : decode cX7_farmIs 131 = .ok (.aload_n 0, 1) := by decide +kernel
theorem dX7_farmIs_132 : decode cX7_farmIs 132 = .ok (.iconst 1, 1) := by decide +kernel
theorem dX7_farmIs_133 : decode cX7_farmIs 133 = .ok (.invokevirtual 61, 3) := by decide +kernel
theorem dX7_farmIs_136 : decode cX7_farmIs 136 = .ok (.ireturn, 1) := by decide +kernel
theorem dX7_become_0 : decode cX7_become 0 = .ok (.aload_n 0, 1) := by decide +kernel
theorem dX7_become_1 : decode cX7_become 1 = .ok (.iload_n 1, 1) := by decide +kernel
theorem dX7_become_2 : decode cX7_become 2 = .ok (.invokevirtual 79, 3) := by decide +kernel
theorem dX7_become_5 : decode cX7_become 5 = .ok (.ifCond .eq 10, 3) := by decide +kernel
theorem dX7_become_8 : decode cX7_become 8 = .ok (.iload_n 2, 1) := by decide +kernel
theorem dX7_become_9 : decode cX7_become 9 = .ok (.invokestatic 53, 3) := by decide +kernel
theorem dX7_become_12 : decode cX7_become 12 = .ok (.ifCond .ne 9, 3) := by decide +kernel
theorem dX7_become_15 : decode cX7_become 15 = .ok (.aload_n 0, 1) := by decide +kernel
theorem dX7_become_16 : decode cX7_become 16 = .ok (.iconst 1, 1) := by decide +kernel
theorem dX7_become_17 : decode cX7_become 17 = .ok (.invokevirtual 61, 3) := by decide +kernel
theorem dX7_become_20 : decode cX7_become 20 = .ok (.ireturn, 1) := by decide +kernel
theorem dX7_become_21 : decode cX7_become 21 = .ok (.aload_n 0, 1) := by decide +kernel
theorem dX7_become_22 : decode cX7_become 22 = .ok (.getfield 10, 3) := by decide +kernel
theorem dX7_become_25 : decode cX7_become 25 = .ok (.getfield 69, 3) := by decide +kernel
theorem dX7_become_28 : decode cX7_become 28 = .ok (.iload_n 1, 1) := by decide +kernel
theorem dX7_become_29 : decode cX7_become 29 = .ok (.aaload, 1) := by decide +kernel
theorem dX7_become_30 : decode cX7_become 30 = .ok (.getfield 82, 3) := by decide +kernel
theorem dX7_become_33 : decode cX7_become 33 = .ok (.istore_n 3, 1) := by decide +kernel
theorem dX7_become_34 : decode cX7_become 34 = .ok (.aload_n 0, 1) := by decide +kernel
theorem dX7_become_35 : decode cX7_become 35 = .ok (.getfield 10, 3) := by decide +kernel
theorem dX7_become_38 : decode cX7_become 38 = .ok (.getfield 69, 3) := by decide +kernel
theorem dX7_become_41 : decode cX7_become 41 = .ok (.iload_n 1, 1) := by decide +kernel
theorem dX7_become_42 : decode cX7_become 42 = .ok (.aaload, 1) := by decide +kernel
theorem dX7_become_43 : decode cX7_become 43 = .ok (.iload_n 2, 1) := by decide +kernel
theorem dX7_become_44 : decode cX7_become 44 = .ok (.invokevirtual 111, 3) := by decide +kernel
theorem dX7_become_47 : decode cX7_become 47 = .ok (.iload_n 3, 1) := by decide +kernel
theorem dX7_become_48 : decode cX7_become 48 = .ok (.ireturn, 1) := by decide +kernel
theorem dX7_as_0 : decode cX7_as 0 = .ok (.aload_n 0, 1) := by decide +kernel
theorem dX7_as_1 : decode cX7_as 1 = .ok (.iload_n 1, 1) := by decide +kernel
theorem dX7_as_2 : decode cX7_as 2 = .ok (.invokevirtual 79, 3) := by decide +kernel
theorem dX7_as_5 : decode cX7_as 5 = .ok (.ifCond .eq 13, 3) := by decide +kernel
theorem dX7_as_8 : decode cX7_as 8 = .ok (.iload_n 2, 1) := by decide +kernel
theorem dX7_as_9 : decode cX7_as 9 = .ok (.iconst 0, 1) := by decide +kernel
theorem dX7_as_10 : decode cX7_as 10 = .ok (.bipush 6, 2) := by decide +kernel
theorem dX7_as_12 : decode cX7_as 12 = .ok (.invokestatic 57, 3) := by decide +kernel
theorem dX7_as_15 : decode cX7_as 15 = .ok (.ifCond .ne 9, 3) := by decide +kernel
theorem dX7_as_18 : decode cX7_as 18 = .ok (.aload_n 0, 1) := by decide +kernel
theorem dX7_as_19 : decode cX7_as 19 = .ok (.iconst 1, 1) := by decide +kernel
theorem dX7_as_20 : decode cX7_as 20 = .ok (.invokevirtual 61, 3) := by decide +kernel
theorem dX7_as_23 : decode cX7_as 23 = .ok (.ireturn, 1) := by decide +kernel
theorem dX7_as_24 : decode cX7_as 24 = .ok (.aload_n 0, 1) := by decide +kernel
theorem dX7_as_25 : decode cX7_as 25 = .ok (.getfield 10, 3) := by decide +kernel
theorem dX7_as_28 : decode cX7_as 28 = .ok (.getfield 69, 3) := by decide +kernel
theorem dX7_as_31 : decode cX7_as 31 = .ok (.iload_n 1, 1) := by decide +kernel
theorem dX7_as_32 : decode cX7_as 32 = .ok (.aaload, 1) := by decide +kernel
theorem dX7_as_33 : decode cX7_as 33 = .ok (.getfield 82, 3) := by decide +kernel
theorem dX7_as_36 : decode cX7_as 36 = .ok (.iload_n 2, 1) := by decide +kernel
theorem dX7_as_37 : decode cX7_as 37 = .ok (.invokestatic 115, 3) := by decide +kernel
theorem dX7_as_40 : decode cX7_as 40 = .ok (.ifCond .ne 9, 3) := by decide +kernel
theorem dX7_as_43 : decode cX7_as 43 = .ok (.aload_n 0, 1) := by decide +kernel
theorem dX7_as_44 : decode cX7_as 44 = .ok (.iconst 5, 1) := by decide +kernel
theorem dX7_as_45 : decode cX7_as 45 = .ok (.invokevirtual 61, 3) := by decide +kernel
theorem dX7_as_48 : decode cX7_as 48 = .ok (.ireturn, 1) := by decide +kernel
theorem dX7_as_49 : decode cX7_as 49 = .ok (.aload_n 0, 1) := by decide +kernel
theorem dX7_as_50 : decode cX7_as 50 = .ok (.getfield 10, 3) := by decide +kernel
theorem dX7_as_53 : decode cX7_as 53 = .ok (.getfield 69, 3) := by decide +kernel
theorem dX7_as_56 : decode cX7_as 56 = .ok (.iload_n 1, 1) := by decide +kernel
theorem dX7_as_57 : decode cX7_as 57 = .ok (.aaload, 1) := by decide +kernel
theorem dX7_as_58 : decode cX7_as 58 = .ok (.getfield 85, 3) := by decide +kernel
theorem dX7_as_61 : decode cX7_as 61 = .ok (.ireturn, 1) := by decide +kernel
theorem dX7_parch_0 : decode cX7_parch 0 = .ok (.aload_n 0, 1) := by decide +kernel
theorem dX7_parch_1 : decode cX7_parch 1 = .ok (.iload_n 1, 1) := by decide +kernel
theorem dX7_parch_2 : decode cX7_parch 2 = .ok (.invokevirtual 79, 3) := by decide +kernel
theorem dX7_parch_5 : decode cX7_parch 5 = .ok (.ifCond .eq 13, 3) := by decide +kernel
theorem dX7_parch_8 : decode cX7_parch 8 = .ok (.iload_n 2, 1) := by decide +kernel
theorem dX7_parch_9 : decode cX7_parch 9 = .ok (.iconst 0, 1) := by decide +kernel
theorem dX7_parch_10 : decode cX7_parch 10 = .ok (.bipush 99, 2) := by decide +kernel
theorem dX7_parch_12 : decode cX7_parch 12 = .ok (.invokestatic 57, 3) := by decide +kernel
theorem dX7_parch_15 : decode cX7_parch 15 = .ok (.ifCond .ne 9, 3) := by decide +kernel
theorem dX7_parch_18 : decode cX7_parch 18 = .ok (.aload_n 0, 1) := by decide +kernel
theorem dX7_parch_19 : decode cX7_parch 19 = .ok (.iconst 1, 1) := by decide +kernel
theorem dX7_parch_20 : decode cX7_parch 20 = .ok (.invokevirtual 61, 3) := by decide +kernel
theorem dX7_parch_23 : decode cX7_parch 23 = .ok (.ireturn, 1) := by decide +kernel
theorem dX7_parch_24 : decode cX7_parch 24 = .ok (.aload_n 0, 1) := by decide +kernel
theorem dX7_parch_25 : decode cX7_parch 25 = .ok (.getfield 10, 3) := by decide +kernel
theorem dX7_parch_28 : decode cX7_parch 28 = .ok (.getfield 69, 3) := by decide +kernel
theorem dX7_parch_31 : decode cX7_parch 31 = .ok (.iload_n 1, 1) := by decide +kernel
theorem dX7_parch_32 : decode cX7_parch 32 = .ok (.aaload, 1) := by decide +kernel
theorem dX7_parch_33 : decode cX7_parch 33 = .ok (.getfield 94, 3) := by decide +kernel
theorem dX7_parch_36 : decode cX7_parch 36 = .ok (.istore_n 3, 1) := by decide +kernel
theorem dX7_parch_37 : decode cX7_parch 37 = .ok (.aload_n 0, 1) := by decide +kernel
theorem dX7_parch_38 : decode cX7_parch 38 = .ok (.getfield 10, 3) := by decide +kernel
theorem dX7_parch_41 : decode cX7_parch 41 = .ok (.getfield 69, 3) := by decide +kernel
theorem dX7_parch_44 : decode cX7_parch 44 = .ok (.iload_n 1, 1) := by decide +kernel
theorem dX7_parch_45 : decode cX7_parch 45 = .ok (.aaload, 1) := by decide +kernel
theorem dX7_parch_46 : decode cX7_parch 46 = .ok (.iload_n 2, 1) := by decide +kernel
theorem dX7_parch_47 : decode cX7_parch 47 = .ok (.putfield 94, 3) := by decide +kernel
theorem dX7_parch_50 : decode cX7_parch 50 = .ok (.iload_n 3, 1) := by decide +kernel
theorem dX7_parch_51 : decode cX7_parch 51 = .ok (.ireturn, 1) := by decide +kernel
theorem dX7_graze_0 : decode cX7_graze 0 = .ok (.aload_n 0, 1) := by decide +kernel
theorem dX7_graze_1 : decode cX7_graze 1 = .ok (.iload_n 1, 1) := by decide +kernel
theorem dX7_graze_2 : decode cX7_graze 2 = .ok (.invokevirtual 79, 3) := by decide +kernel
theorem dX7_graze_5 : decode cX7_graze 5 = .ok (.ifCond .eq 13, 3) := by decide +kernel
theorem dX7_graze_8 : decode cX7_graze 8 = .ok (.iload_n 2, 1) := by decide +kernel
theorem dX7_graze_9 : decode cX7_graze 9 = .ok (.iconst 0, 1) := by decide +kernel
theorem dX7_graze_10 : decode cX7_graze 10 = .ok (.bipush 30, 2) := by decide +kernel
theorem dX7_graze_12 : decode cX7_graze 12 = .ok (.invokestatic 57, 3) := by decide +kernel
theorem dX7_graze_15 : decode cX7_graze 15 = .ok (.ifCond .ne 9, 3) := by decide +kernel
theorem dX7_graze_18 : decode cX7_graze 18 = .ok (.aload_n 0, 1) := by decide +kernel
theorem dX7_graze_19 : decode cX7_graze 19 = .ok (.iconst 1, 1) := by decide +kernel
theorem dX7_graze_20 : decode cX7_graze 20 = .ok (.invokevirtual 61, 3) := by decide +kernel
theorem dX7_graze_23 : decode cX7_graze 23 = .ok (.ireturn, 1) := by decide +kernel
theorem dX7_graze_24 : decode cX7_graze 24 = .ok (.aload_n 0, 1) := by decide +kernel
theorem dX7_graze_25 : decode cX7_graze 25 = .ok (.getfield 10, 3) := by decide +kernel
theorem dX7_graze_28 : decode cX7_graze 28 = .ok (.getfield 69, 3) := by decide +kernel
theorem dX7_graze_31 : decode cX7_graze 31 = .ok (.iload_n 1, 1) := by decide +kernel
theorem dX7_graze_32 : decode cX7_graze 32 = .ok (.aaload, 1) := by decide +kernel
theorem dX7_graze_33 : decode cX7_graze 33 = .ok (.getfield 91, 3) := by decide +kernel
theorem dX7_graze_36 : decode cX7_graze 36 = .ok (.istore_n 3, 1) := by decide +kernel
theorem dX7_graze_37 : decode cX7_graze 37 = .ok (.aload_n 0, 1) := by decide +kernel
theorem dX7_graze_38 : decode cX7_graze 38 = .ok (.getfield 10, 3) := by decide +kernel
theorem dX7_graze_41 : decode cX7_graze 41 = .ok (.getfield 69, 3) := by decide +kernel
theorem dX7_graze_44 : decode cX7_graze 44 = .ok (.iload_n 1, 1) := by decide +kernel
theorem dX7_graze_45 : decode cX7_graze 45 = .ok (.aaload, 1) := by decide +kernel
theorem dX7_graze_46 : decode cX7_graze 46 = .ok (.iload_n 2, 1) := by decide +kernel
theorem dX7_graze_47 : decode cX7_graze 47 = .ok (.putfield 91, 3) := by decide +kernel
theorem dX7_graze_50 : decode cX7_graze 50 = .ok (.iload_n 3, 1) := by decide +kernel
theorem dX7_graze_51 : decode cX7_graze 51 = .ok (.ireturn, 1) := by decide +kernel
theorem dX7_carrier_0 : decode cX7_carrier 0 = .ok (.iload_n 1, 1) := by decide +kernel
theorem dX7_carrier_1 : decode cX7_carrier 1 = .ok (.iconst 1, 1) := by decide +kernel
theorem dX7_carrier_2 : decode cX7_carrier 2 = .ok (.sipush 300, 3) := by decide +kernel
theorem dX7_carrier_5 : decode cX7_carrier 5 = .ok (.invokestatic 57, 3) := by decide +kernel
theorem dX7_carrier_8 : decode cX7_carrier 8 = .ok (.ifCond .ne 9, 3) := by decide +kernel
theorem dX7_carrier_11 : decode cX7_carrier 11 = .ok (.aload_n 0, 1) := by decide +kernel
theorem dX7_carrier_12 : decode cX7_carrier 12 = .ok (.iconst 1, 1) := by decide +kernel
theorem dX7_carrier_13 : decode cX7_carrier 13 = .ok (.invokevirtual 61, 3) := by decide +kernel
theorem dX7_carrier_16 : decode cX7_carrier 16 = .ok (.ireturn, 1) := by decide +kernel
theorem dX7_carrier_17 : decode cX7_carrier 17 = .ok (.aload_n 0, 1) := by decide +kernel
theorem dX7_carrier_18 : decode cX7_carrier 18 = .ok (.getfield 10, 3) := by decide +kernel
theorem dX7_carrier_21 : decode cX7_carrier 21 = .ok (.getfield 119, 3) := by decide +kernel
theorem dX7_carrier_24 : decode cX7_carrier 24 = .ok (.iconst 4, 1) := by decide +kernel
theorem dX7_carrier_25 : decode cX7_carrier 25 = .ok (.if_icmp .lt 9, 3) := by decide +kernel
theorem dX7_carrier_28 : decode cX7_carrier 28 = .ok (.aload_n 0, 1) := by decide +kernel
theorem dX7_carrier_29 : decode cX7_carrier 29 = .ok (.iconst 4, 1) := by decide +kernel
theorem dX7_carrier_30 : decode cX7_carrier 30 = .ok (.invokevirtual 61, 3) := by decide +kernel
theorem dX7_carrier_33 : decode cX7_carrier 33 = .ok (.ireturn, 1) := by decide +kernel
theorem dX7_carrier_34 : decode cX7_carrier 34 = .ok (.aload_n 0, 1) := by decide +kernel
theorem dX7_carrier_35 : decode cX7_carrier 35 = .ok (.getfield 10, 3) := by decide +kernel
theorem dX7_carrier_38 : decode cX7_carrier 38 = .ok (.getfield 122, 3) := by decide +kernel
theorem dX7_carrier_41 : decode cX7_carrier 41 = .ok (.aload_n 0, 1) := by decide +kernel
theorem dX7_carrier_42 : decode cX7_carrier 42 = .ok (.getfield 10, 3) := by decide +kernel
theorem dX7_carrier_45 : decode cX7_carrier 45 = .ok (.getfield 119, 3) := by decide +kernel
theorem dX7_carrier_48 : decode cX7_carrier 48 = .ok (.iload_n 1, 1) := by decide +kernel
theorem dX7_carrier_49 : decode cX7_carrier 49 = .ok (.iastore, 1) := by decide +kernel
theorem dX7_carrier_50 : decode cX7_carrier 50 = .ok (.aload_n 0, 1) := by decide +kernel
theorem dX7_carrier_51 : decode cX7_carrier 51 = .ok (.getfield 10, 3) := by decide +kernel
theorem dX7_carrier_54 : decode cX7_carrier 54 = .ok (.getfield 125, 3) := by decide +kernel
theorem dX7_carrier_57 : decode cX7_carrier 57 = .ok (.aload_n 0, 1) := by decide +kernel
theorem dX7_carrier_58 : decode cX7_carrier 58 = .ok (.getfield 10, 3) := by decide +kernel
theorem dX7_carrier_61 : decode cX7_carrier 61 = .ok (.getfield 119, 3) := by decide +kernel
theorem dX7_carrier_64 : decode cX7_carrier 64 = .ok (.iconst 0, 1) := by decide +kernel
theorem dX7_carrier_65 : decode cX7_carrier 65 = .ok (.iastore, 1) := by decide +kernel
theorem dX7_carrier_66 : decode cX7_carrier 66 = .ok (.aload_n 0, 1) := by decide +kernel
theorem dX7_carrier_67 : decode cX7_carrier 67 = .ok (.getfield 10, 3) := by decide +kernel
theorem dX7_carrier_70 : decode cX7_carrier 70 = .ok (.dup, 1) := by decide +kernel
theorem dX7_carrier_71 : decode cX7_carrier 71 = .ok (.getfield 119, 3) := by decide +kernel
theorem dX7_carrier_74 : decode cX7_carrier 74 = .ok (.iconst 1, 1) := by decide +kernel
theorem dX7_carrier_75 : decode cX7_carrier 75 = .ok (.iadd, 1) := by decide +kernel
theorem dX7_carrier_76 : decode cX7_carrier 76 = .ok (.putfield 119, 3) := by decide +kernel
theorem dX7_carrier_79 : decode cX7_carrier 79 = .ok (.aload_n 0, 1) := by decide +kernel
theorem dX7_carrier_80 : decode cX7_carrier 80 = .ok (.getfield 10, 3) := by decide +kernel
theorem dX7_carrier_83 : decode cX7_carrier 83 = .ok (.getfield 119, 3) := by decide +kernel
theorem dX7_carrier_86 : decode cX7_carrier 86 = .ok (.iconst 1, 1) := by decide +kernel
theorem dX7_carrier_87 : decode cX7_carrier 87 = .ok (.isub, 1) := by decide +kernel
theorem dX7_carrier_88 : decode cX7_carrier 88 = .ok (.ireturn, 1) := by decide +kernel
theorem dX7_carrierIs_0 : decode cX7_carrierIs 0 = .ok (.aload_n 0, 1) := by decide +kernel
theorem dX7_carrierIs_1 : decode cX7_carrierIs 1 = .ok (.iload_n 1, 1) := by decide +kernel
theorem dX7_carrierIs_2 : decode cX7_carrierIs 2 = .ok (.invokevirtual 128, 3) := by decide +kernel
theorem dX7_carrierIs_5 : decode cX7_carrierIs 5 = .ok (.ifCond .eq 12, 3) := by decide +kernel
theorem dX7_carrierIs_8 : decode cX7_carrierIs 8 = .ok (.iload_n 2, 1) := by decide +kernel
theorem dX7_carrierIs_9 : decode cX7_carrierIs 9 = .ok (.iconst 0, 1) := by decide +kernel
theorem dX7_carrierIs_10 : decode cX7_carrierIs 10 = .ok (.iconst 1, 1) := by decide +kernel
theorem dX7_carrierIs_11 : decode cX7_carrierIs 11 = .ok (.invokestatic 57, 3) := by decide +kernel
theorem dX7_carrierIs_14 : decode cX7_carrierIs 14 = .ok (.ifCond .ne 9, 3) := by decide +kernel
theorem dX7_carrierIs_17 : decode cX7_carrierIs 17 = .ok (.aload_n 0, 1) := by decide +kernel
theorem dX7_carrierIs_18 : decode cX7_carrierIs 18 = .ok (.iconst 1, 1) := by decide +kernel
theorem dX7_carrierIs_19 : decode cX7_carrierIs 19 = .ok (.invokevirtual 61, 3) := by decide +kernel
theorem dX7_carrierIs_22 : decode cX7_carrierIs 22 = .ok (.ireturn, 1) := by decide +kernel
theorem dX7_carrierIs_23 : decode cX7_carrierIs 23 = .ok (.iload_n 2, 1) := by decide +kernel
theorem dX7_carrierIs_24 : decode cX7_carrierIs 24 = .ok (.ifCond .ne 15, 3) := by decide +kernel
theorem dX7_carrierIs_27 : decode cX7_carrierIs 27 = .ok (.aload_n 0, 1) := by decide +kernel
theorem dX7_carrierIs_28 : decode cX7_carrierIs 28 = .ok (.getfield 10, 3) := by decide +kernel
theorem dX7_carrierIs_31 : decode cX7_carrierIs 31 = .ok (.getfield 122, 3) := by decide +kernel
theorem dX7_carrierIs_34 : decode cX7_carrierIs 34 = .ok (.iload_n 1, 1) := by decide +kernel
theorem dX7_carrierIs_35 : decode cX7_carrierIs 35 = .ok (.iaload, 1) := by decide +kernel
theorem dX7_carrierIs_36 : decode cX7_carrierIs 36 = .ok (.goto 12, 3) := by decide +kernel
theorem dX7_carrierIs_39 : decode cX7_carrierIs 39 = .ok (.aload_n 0, 1) := by decide +kernel
theorem dX7_carrierIs_40 : decode cX7_carrierIs 40 = .ok (.getfield 10, 3) := by decide +kernel
theorem dX7_carrierIs_43 : decode cX7_carrierIs 43 = .ok (.getfield 125, 3) := by decide +kernel
theorem dX7_carrierIs_46 : decode cX7_carrierIs 46 = .ok (.iload_n 1, 1) := by decide +kernel
theorem dX7_carrierIs_47 : decode cX7_carrierIs 47 = .ok (.iaload, 1) := by decide +kernel
theorem dX7_carrierIs_48 : decode cX7_carrierIs 48 = .ok (.ireturn, 1) := by decide +kernel
theorem dX7_pool_0 : decode cX7_pool 0 = .ok (.iload_n 1, 1) := by decide +kernel
theorem dX7_pool_1 : decode cX7_pool 1 = .ok (.invokestatic 131, 3) := by decide +kernel
theorem dX7_pool_4 : decode cX7_pool 4 = .ok (.ifCond .eq 14, 3) := by decide +kernel
theorem dX7_pool_7 : decode cX7_pool 7 = .ok (.iload_n 2, 1) := by decide +kernel
theorem dX7_pool_8 : decode cX7_pool 8 = .ok (.iconst 0, 1) := by decide +kernel
theorem dX7_pool_9 : decode cX7_pool 9 = .ok (.sipush 999, 3) := by decide +kernel
theorem dX7_pool_12 : decode cX7_pool 12 = .ok (.invokestatic 57, 3) := by decide +kernel
theorem dX7_pool_15 : decode cX7_pool 15 = .ok (.ifCond .ne 9, 3) := by decide +kernel
theorem dX7_pool_18 : decode cX7_pool 18 = .ok (.aload_n 0, 1) := by decide +kernel
theorem dX7_pool_19 : decode cX7_pool 19 = .ok (.iconst 1, 1) := by decide +kernel
theorem dX7_pool_20 : decode cX7_pool 20 = .ok (.invokevirtual 61, 3) := by decide +kernel
theorem dX7_pool_23 : decode cX7_pool 23 = .ok (.ireturn, 1) := by decide +kernel
theorem dX7_pool_24 : decode cX7_pool 24 = .ok (.aload_n 0, 1) := by decide +kernel
theorem dX7_pool_25 : decode cX7_pool 25 = .ok (.getfield 10, 3) := by decide +kernel
theorem dX7_pool_28 : decode cX7_pool 28 = .ok (.getfield 134, 3) := by decide +kernel
theorem dX7_pool_31 : decode cX7_pool 31 = .ok (.iload_n 1, 1) := by decide +kernel
theorem dX7_pool_32 : decode cX7_pool 32 = .ok (.iaload, 1) := by decide +kernel
theorem dX7_pool_33 : decode cX7_pool 33 = .ok (.istore_n 3, 1) := by decide +kernel
theorem dX7_pool_34 : decode cX7_pool 34 = .ok (.aload_n 0, 1) := by decide +kernel
theorem dX7_pool_35 : decode cX7_pool 35 = .ok (.getfield 10, 3) := by decide +kernel
theorem dX7_pool_38 : decode cX7_pool 38 = .ok (.getfield 134, 3) := by decide +kernel
theorem dX7_pool_41 : decode cX7_pool 41 = .ok (.iload_n 1, 1) := by decide +kernel
theorem dX7_pool_42 : decode cX7_pool 42 = .ok (.iload_n 2, 1) := by decide +kernel
theorem dX7_pool_43 : decode cX7_pool 43 = .ok (.iastore, 1) := by decide +kernel
theorem dX7_pool_44 : decode cX7_pool 44 = .ok (.iload_n 3, 1) := by decide +kernel
theorem dX7_pool_45 : decode cX7_pool 45 = .ok (.ireturn, 1) := by decide +kernel
theorem dX7_swap_0 : decode cX7_swap 0 = .ok (.aload_n 0, 1) := by decide +kernel
theorem dX7_swap_1 : decode cX7_swap 1 = .ok (.iload_n 1, 1) := by decide +kernel
theorem dX7_swap_2 : decode cX7_swap 2 = .ok (.invokevirtual 79, 3) := by decide +kernel
theorem dX7_swap_5 : decode cX7_swap 5 = .ok (.ifCond .eq 16, 3) := by decide +kernel
theorem dX7_swap_8 : decode cX7_swap 8 = .ok (.aload_n 0, 1) := by decide +kernel
theorem dX7_swap_9 : decode cX7_swap 9 = .ok (.iload_n 2, 1) := by decide +kernel
theorem dX7_swap_10 : decode cX7_swap 10 = .ok (.invokevirtual 79, 3) := by decide +kernel
theorem dX7_swap_13 : decode cX7_swap 13 = .ok (.ifCond .eq 8, 3) := by decide +kernel
theorem dX7_swap_16 : decode cX7_swap 16 = .ok (.iload_n 1, 1) := by decide +kernel
theorem dX7_swap_17 : decode cX7_swap 17 = .ok (.iload_n 2, 1) := by decide +kernel
theorem dX7_swap_18 : decode cX7_swap 18 = .ok (.if_icmp .ne 9, 3) := by decide +kernel
theorem dX7_swap_21 : decode cX7_swap 21 = .ok (.aload_n 0, 1) := by decide +kernel
theorem dX7_swap_22 : decode cX7_swap 22 = .ok (.iconst 1, 1) := by decide +kernel
theorem dX7_swap_23 : decode cX7_swap 23 = .ok (.invokevirtual 61, 3) := by decide +kernel
theorem dX7_swap_26 : decode cX7_swap 26 = .ok (.ireturn, 1) := by decide +kernel
theorem dX7_swap_27 : decode cX7_swap 27 = .ok (.aload_n 0, 1) := by decide +kernel
theorem dX7_swap_28 : decode cX7_swap 28 = .ok (.getfield 10, 3) := by decide +kernel
theorem dX7_swap_31 : decode cX7_swap 31 = .ok (.getfield 69, 3) := by decide +kernel
theorem dX7_swap_34 : decode cX7_swap 34 = .ok (.iload_n 1, 1) := by decide +kernel
theorem dX7_swap_35 : decode cX7_swap 35 = .ok (.aaload, 1) := by decide +kernel
theorem dX7_swap_36 : decode cX7_swap 36 = .ok (.getfield 94, 3) := by decide +kernel
theorem dX7_swap_39 : decode cX7_swap 39 = .ok (.istore_n 3, 1) := by decide +kernel
theorem dX7_swap_40 : decode cX7_swap 40 = .ok (.aload_n 0, 1) := by decide +kernel
theorem dX7_swap_41 : decode cX7_swap 41 = .ok (.getfield 10, 3) := by decide +kernel
theorem dX7_swap_44 : decode cX7_swap 44 = .ok (.getfield 69, 3) := by decide +kernel
theorem dX7_swap_47 : decode cX7_swap 47 = .ok (.iload_n 1, 1) := by decide +kernel
theorem dX7_swap_48 : decode cX7_swap 48 = .ok (.aaload, 1) := by decide +kernel
theorem dX7_swap_49 : decode cX7_swap 49 = .ok (.aload_n 0, 1) := by decide +kernel
theorem dX7_swap_50 : decode cX7_swap 50 = .ok (.getfield 10, 3) := by decide +kernel
theorem dX7_swap_53 : decode cX7_swap 53 = .ok (.getfield 69, 3) := by decide +kernel
theorem dX7_swap_56 : decode cX7_swap 56 = .ok (.iload_n 2, 1) := by decide +kernel
theorem dX7_swap_57 : decode cX7_swap 57 = .ok (.aaload, 1) := by decide +kernel
theorem dX7_swap_58 : decode cX7_swap 58 = .ok (.getfield 94, 3) := by decide +kernel
theorem dX7_swap_61 : decode cX7_swap 61 = .ok (.putfield 94, 3) := by decide +kernel
theorem dX7_swap_64 : decode cX7_swap 64 = .ok (.aload_n 0, 1) := by decide +kernel
theorem dX7_swap_65 : decode cX7_swap 65 = .ok (.getfield 10, 3) := by decide +kernel
theorem dX7_swap_68 : decode cX7_swap 68 = .ok (.getfield 69, 3) := by decide +kernel
theorem dX7_swap_71 : decode cX7_swap 71 = .ok (.iload_n 2, 1) := by decide +kernel
theorem dX7_swap_72 : decode cX7_swap 72 = .ok (.aaload, 1) := by decide +kernel
theorem dX7_swap_73 : decode cX7_swap 73 = .ok (.iload_n 3, 1) := by decide +kernel
theorem dX7_swap_74 : decode cX7_swap 74 = .ok (.putfield 94, 3) := by decide +kernel
theorem dX7_swap_77 : decode cX7_swap 77 = .ok (.aload_n 0, 1) := by decide +kernel
theorem dX7_swap_78 : decode cX7_swap 78 = .ok (.getfield 10, 3) := by decide +kernel
theorem dX7_swap_81 : decode cX7_swap 81 = .ok (.getfield 69, 3) := by decide +kernel
theorem dX7_swap_84 : decode cX7_swap 84 = .ok (.iload_n 1, 1) := by decide +kernel
theorem dX7_swap_85 : decode cX7_swap 85 = .ok (.aaload, 1) := by decide +kernel
theorem dX7_swap_86 : decode cX7_swap 86 = .ok (.getfield 94, 3) := by decide +kernel
theorem dX7_swap_89 : decode cX7_swap 89 = .ok (.ireturn, 1) := by decide +kernel
theorem dX7_carry_0 : decode cX7_carry 0 = .ok (.aload_n 0, 1) := by decide +kernel
theorem dX7_carry_1 : decode cX7_carry 1 = .ok (.iload_n 1, 1) := by decide +kernel
theorem dX7_carry_2 : decode cX7_carry 2 = .ok (.invokevirtual 128, 3) := by decide +kernel
theorem dX7_carry_5 : decode cX7_carry 5 = .ok (.ifCond .eq 25, 3) := by decide +kernel
theorem dX7_carry_8 : decode cX7_carry 8 = .ok (.iload_n 2, 1) := by decide +kernel
theorem dX7_carry_9 : decode cX7_carry 9 = .ok (.iconst 1, 1) := by decide +kernel
theorem dX7_carry_10 : decode cX7_carry 10 = .ok (.aload_n 0, 1) := by decide +kernel
theorem dX7_carry_11 : decode cX7_carry 11 = .ok (.getfield 10, 3) := by decide +kernel
theorem dX7_carry_14 : decode cX7_carry 14 = .ok (.invokevirtual 137, 3) := by decide +kernel
theorem dX7_carry_17 : decode cX7_carry 17 = .ok (.invokestatic 57, 3) := by decide +kernel
theorem dX7_carry_20 : decode cX7_carry 20 = .ok (.ifCond .eq 10, 3) := by decide +kernel
theorem dX7_carry_23 : decode cX7_carry 23 = .ok (.iload_n 3, 1) := by decide +kernel
theorem dX7_carry_24 : decode cX7_carry 24 = .ok (.invokestatic 131, 3) := by decide +kernel
theorem dX7_carry_27 : decode cX7_carry 27 = .ok (.ifCond .ne 9, 3) := by decide +kernel
theorem dX7_carry_30 : decode cX7_carry 30 = .ok (.aload_n 0, 1) := by decide +kernel
theorem dX7_carry_31 : decode cX7_carry 31 = .ok (.iconst 1, 1) := by decide +kernel
theorem dX7_carry_32 : decode cX7_carry 32 = .ok (.invokevirtual 61, 3) := by decide +kernel
theorem dX7_carry_35 : decode cX7_carry 35 = .ok (.ireturn, 1) := by decide +kernel
theorem dX7_carry_36 : decode cX7_carry 36 = .ok (.aload_n 0, 1) := by decide +kernel
theorem dX7_carry_37 : decode cX7_carry 37 = .ok (.getfield 10, 3) := by decide +kernel
theorem dX7_carry_40 : decode cX7_carry 40 = .ok (.iload_n 1, 1) := by decide +kernel
theorem dX7_carry_41 : decode cX7_carry 41 = .ok (.iload_n 2, 1) := by decide +kernel
theorem dX7_carry_42 : decode cX7_carry 42 = .ok (.iload_n 3, 1) := by decide +kernel
theorem dX7_carry_43 : decode cX7_carry 43 = .ok (.invokevirtual 141, 3) := by decide +kernel
theorem dX7_carry_46 : decode cX7_carry 46 = .ok (.ifCond .ne 9, 3) := by decide +kernel
theorem dX7_carry_49 : decode cX7_carry 49 = .ok (.aload_n 0, 1) := by decide +kernel
theorem dX7_carry_50 : decode cX7_carry 50 = .ok (.iconst 3, 1) := by decide +kernel
theorem dX7_carry_51 : decode cX7_carry 51 = .ok (.invokevirtual 61, 3) := by decide +kernel
theorem dX7_carry_54 : decode cX7_carry 54 = .ok (.ireturn, 1) := by decide +kernel
theorem dX7_carry_55 : decode cX7_carry 55 = .ok (.aload_n 0, 1) := by decide +kernel
theorem dX7_carry_56 : decode cX7_carry 56 = .ok (.getfield 10, 3) := by decide +kernel
theorem dX7_carry_59 : decode cX7_carry 59 = .ok (.iload_n 1, 1) := by decide +kernel
theorem dX7_carry_60 : decode cX7_carry 60 = .ok (.iload_n 2, 1) := by decide +kernel
theorem dX7_carry_61 : decode cX7_carry 61 = .ok (.iload_n 3, 1) := by decide +kernel
theorem dX7_carry_62 : decode cX7_carry 62 = .ok (.invokevirtual 144, 3) := by decide +kernel
theorem dX7_carry_65 : decode cX7_carry 65 = .ok (.ireturn, 1) := by decide +kernel
theorem dX7_feed_0 : decode cX7_feed 0 = .ok (.iload_n 3, 1) := by decide +kernel
theorem dX7_feed_1 : decode cX7_feed 1 = .ok (.iconst 1, 1) := by decide +kernel
theorem dX7_feed_2 : decode cX7_feed 2 = .ok (.bipush 8, 2) := by decide +kernel
theorem dX7_feed_4 : decode cX7_feed 4 = .ok (.invokestatic 57, 3) := by decide +kernel
theorem dX7_feed_7 : decode cX7_feed 7 = .ok (.ifCond .ne 9, 3) := by decide +kernel
theorem dX7_feed_10 : decode cX7_feed 10 = .ok (.aload_n 0, 1) := by decide +kernel
theorem dX7_feed_11 : decode cX7_feed 11 = .ok (.iconst 1, 1) := by decide +kernel
theorem dX7_feed_12 : decode cX7_feed 12 = .ok (.invokevirtual 61, 3) := by decide +kernel
theorem dX7_feed_15 : decode cX7_feed 15 = .ok (.ireturn, 1) := by decide +kernel
theorem dX7_feed_16 : decode cX7_feed 16 = .ok (.aload_n 0, 1) := by decide +kernel
theorem dX7_feed_17 : decode cX7_feed 17 = .ok (.getfield 10, 3) := by decide +kernel
theorem dX7_feed_20 : decode cX7_feed 20 = .ok (.getfield 148, 3) := by decide +kernel
theorem dX7_feed_23 : decode cX7_feed 23 = .ok (.iload_n 3, 1) := by decide +kernel
theorem dX7_feed_24 : decode cX7_feed 24 = .ok (.iadd, 1) := by decide +kernel
theorem dX7_feed_25 : decode cX7_feed 25 = .ok (.bipush 60, 2) := by decide +kernel
theorem dX7_feed_27 : decode cX7_feed 27 = .ok (.if_icmp .le 9, 3) := by decide +kernel
theorem dX7_feed_30 : decode cX7_feed 30 = .ok (.aload_n 0, 1) := by decide +kernel
theorem dX7_feed_31 : decode cX7_feed 31 = .ok (.iconst 4, 1) := by decide +kernel
theorem dX7_feed_32 : decode cX7_feed 32 = .ok (.invokevirtual 61, 3) := by decide +kernel
theorem dX7_feed_35 : decode cX7_feed 35 = .ok (.ireturn, 1) := by decide +kernel
theorem dX7_feed_36 : decode cX7_feed 36 = .ok (.iconst 0, 1) := by decide +kernel
theorem dX7_feed_37 : decode cX7_feed 37 = .ok (.istore 4, 2) := by decide +kernel
theorem dX7_feed_39 : decode cX7_feed 39 = .ok (.iload 4, 2) := by decide +kernel
theorem dX7_feed_41 : decode cX7_feed 41 = .ok (.iload_n 3, 1) := by decide +kernel
theorem dX7_feed_42 : decode cX7_feed 42 = .ok (.if_icmp .ge 36, 3) := by decide +kernel
theorem dX7_feed_45 : decode cX7_feed 45 = .ok (.aload_n 0, 1) := by decide +kernel
theorem dX7_feed_46 : decode cX7_feed 46 = .ok (.getfield 10, 3) := by decide +kernel
theorem dX7_feed_49 : decode cX7_feed 49 = .ok (.getfield 151, 3) := by decide +kernel
theorem dX7_feed_52 : decode cX7_feed 52 = .ok (.aload_n 0, 1) := by decide +kernel
theorem dX7_feed_53 : decode cX7_feed 53 = .ok (.getfield 10, 3) := by decide +kernel
theorem dX7_feed_56 : decode cX7_feed 56 = .ok (.getfield 148, 3) := by decide +kernel
theorem dX7_feed_59 : decode cX7_feed 59 = .ok (.iload 4, 2) := by decide +kernel
theorem dX7_feed_61 : decode cX7_feed 61 = .ok (.iadd, 1) := by decide +kernel
theorem dX7_feed_62 : decode cX7_feed 62 = .ok (.lload_n 1, 1) := by decide +kernel
theorem dX7_feed_63 : decode cX7_feed 63 = .ok (.bipush 8, 2) := by decide +kernel
theorem dX7_feed_65 : decode cX7_feed 65 = .ok (.iload 4, 2) := by decide +kernel
theorem dX7_feed_67 : decode cX7_feed 67 = .ok (.imul, 1) := by decide +kernel
theorem dX7_feed_68 : decode cX7_feed 68 = .ok (.lushr, 1) := by decide +kernel
theorem dX7_feed_69 : decode cX7_feed 69 = .ok (.l2i, 1) := by decide +kernel
theorem dX7_feed_70 : decode cX7_feed 70 = .ok (.i2b, 1) := by decide +kernel
theorem dX7_feed_71 : decode cX7_feed 71 = .ok (.bastore, 1) := by decide +kernel
theorem dX7_feed_72 : decode cX7_feed 72 = .ok (.iinc 4 1, 3) := by decide +kernel
theorem dX7_feed_75 : decode cX7_feed 75 = .ok (.goto (-36), 3) := by decide +kernel
theorem dX7_feed_78 : decode cX7_feed 78 = .ok (.aload_n 0, 1) := by decide +kernel
theorem dX7_feed_79 : decode cX7_feed 79 = .ok (.getfield 10, 3) := by decide +kernel
theorem dX7_feed_82 : decode cX7_feed 82 = .ok (.dup, 1) := by decide +kernel
theorem dX7_feed_83 : decode cX7_feed 83 = .ok (.getfield 148, 3) := by decide +kernel
theorem dX7_feed_86 : decode cX7_feed 86 = .ok (.iload_n 3, 1) := by decide +kernel
theorem dX7_feed_87 : decode cX7_feed 87 = .ok (.iadd, 1) := by decide +kernel
theorem dX7_feed_88 : decode cX7_feed 88 = .ok (.putfield 148, 3) := by decide +kernel
theorem dX7_feed_91 : decode cX7_feed 91 = .ok (.aload_n 0, 1) := by decide +kernel
theorem dX7_feed_92 : decode cX7_feed 92 = .ok (.getfield 10, 3) := by decide +kernel
theorem dX7_feed_95 : decode cX7_feed 95 = .ok (.getfield 148, 3) := by decide +kernel
theorem dX7_feed_98 : decode cX7_feed 98 = .ok (.ireturn, 1) := by decide +kernel
theorem dX7_text_0 : decode cX7_text 0 = .ok (.iload_n 1, 1) := by decide +kernel
theorem dX7_text_1 : decode cX7_text 1 = .ok (.invokestatic 155, 3) := by decide +kernel
theorem dX7_text_4 : decode cX7_text 4 = .ok (.ifCond .ne 9, 3) := by decide +kernel
theorem dX7_text_7 : decode cX7_text 7 = .ok (.aload_n 0, 1) := by decide +kernel
theorem dX7_text_8 : decode cX7_text 8 = .ok (.iconst 1, 1) := by decide +kernel
theorem dX7_text_9 : decode cX7_text 9 = .ok (.invokevirtual 61, 3) := by decide +kernel
theorem dX7_text_12 : decode cX7_text 12 = .ok (.ireturn, 1) := by decide +kernel
theorem dX7_text_13 : decode cX7_text 13 = .ok (.aload_n 0, 1) := by decide +kernel
theorem dX7_text_14 : decode cX7_text 14 = .ok (.getfield 31, 3) := by decide +kernel
theorem dX7_text_17 : decode cX7_text 17 = .ok (.aload_n 0, 1) := by decide +kernel
theorem dX7_text_18 : decode cX7_text 18 = .ok (.getfield 10, 3) := by decide +kernel
theorem dX7_text_21 : decode cX7_text 21 = .ok (.getfield 151, 3) := by decide +kernel
theorem dX7_text_24 : decode cX7_text 24 = .ok (.aload_n 0, 1) := by decide +kernel
theorem dX7_text_25 : decode cX7_text 25 = .ok (.getfield 10, 3) := by decide +kernel
theorem dX7_text_28 : decode cX7_text 28 = .ok (.getfield 148, 3) := by decide +kernel
theorem dX7_text_31 : decode cX7_text 31 = .ok (.iload_n 1, 1) := by decide +kernel
theorem dX7_text_32 : decode cX7_text 32 = .ok (.invokestatic 158, 3) := by decide +kernel
theorem dX7_text_35 : decode cX7_text 35 = .ok (.invokevirtual 162, 3) := by decide +kernel
theorem dX7_text_38 : decode cX7_text 38 = .ok (.istore_n 2, 1) := by decide +kernel
theorem dX7_text_39 : decode cX7_text 39 = .ok (.aload_n 0, 1) := by decide +kernel
theorem dX7_text_40 : decode cX7_text 40 = .ok (.getfield 10, 3) := by decide +kernel
theorem dX7_text_43 : decode cX7_text 43 = .ok (.iconst 0, 1) := by decide +kernel
theorem dX7_text_44 : decode cX7_text 44 = .ok (.putfield 148, 3) := by decide +kernel
theorem dX7_text_47 : decode cX7_text 47 = .ok (.iload_n 2, 1) := by decide +kernel
theorem dX7_text_48 : decode cX7_text 48 = .ok (.ifCond .lt 8, 3) := by decide +kernel
theorem dX7_text_51 : decode cX7_text 51 = .ok (.bipush (-10), 2) := by decide +kernel
theorem dX7_text_53 : decode cX7_text 53 = .ok (.iload_n 2, 1) := by decide +kernel
theorem dX7_text_54 : decode cX7_text 54 = .ok (.isub, 1) := by decide +kernel
theorem dX7_text_55 : decode cX7_text 55 = .ok (.ireturn, 1) := by decide +kernel
theorem dX7_text_56 : decode cX7_text 56 = .ok (.aload_n 0, 1) := by decide +kernel
theorem dX7_text_57 : decode cX7_text 57 = .ok (.getfield 10, 3) := by decide +kernel
theorem dX7_text_60 : decode cX7_text 60 = .ok (.getfield 166, 3) := by decide +kernel
theorem dX7_text_63 : decode cX7_text 63 = .ok (.iload_n 1, 1) := by decide +kernel
theorem dX7_text_64 : decode cX7_text 64 = .ok (.aaload, 1) := by decide +kernel
theorem dX7_text_65 : decode cX7_text 65 = .ok (.aload_n 0, 1) := by decide +kernel
theorem dX7_text_66 : decode cX7_text 66 = .ok (.getfield 31, 3) := by decide +kernel
theorem dX7_text_69 : decode cX7_text 69 = .ok (.getfield 170, 3) := by decide +kernel
theorem dX7_text_72 : decode cX7_text 72 = .ok (.invokevirtual 174, 3) := by decide +kernel
theorem dX7_text_75 : decode cX7_text 75 = .ok (.iconst 1, 1) := by decide +kernel
theorem dX7_text_76 : decode cX7_text 76 = .ok (.ireturn, 1) := by decide +kernel
theorem dX7_untell_0 : decode cX7_untell 0 = .ok (.iload_n 1, 1) := by decide +kernel
theorem dX7_untell_1 : decode cX7_untell 1 = .ok (.invokestatic 155, 3) := by decide +kernel
theorem dX7_untell_4 : decode cX7_untell 4 = .ok (.ifCond .ne 9, 3) := by decide +kernel
theorem dX7_untell_7 : decode cX7_untell 7 = .ok (.aload_n 0, 1) := by decide +kernel
theorem dX7_untell_8 : decode cX7_untell 8 = .ok (.iconst 1, 1) := by decide +kernel
theorem dX7_untell_9 : decode cX7_untell 9 = .ok (.invokevirtual 61, 3) := by decide +kernel
theorem dX7_untell_12 : decode cX7_untell 12 = .ok (.ireturn, 1) := by decide +kernel
theorem dX7_untell_13 : decode cX7_untell 13 = .ok (.aload_n 0, 1) := by decide +kernel
theorem dX7_untell_14 : decode cX7_untell 14 = .ok (.getfield 10, 3) := by decide +kernel
theorem dX7_untell_17 : decode cX7_untell 17 = .ok (.getfield 166, 3) := by decide +kernel
theorem dX7_untell_20 : decode cX7_untell 20 = .ok (.iload_n 1, 1) := by decide +kernel
theorem dX7_untell_21 : decode cX7_untell 21 = .ok (.aaload, 1) := by decide +kernel
theorem dX7_untell_22 : decode cX7_untell 22 = .ok (.invokevirtual 180, 3) := by decide +kernel
theorem dX7_untell_25 : decode cX7_untell 25 = .ok (.ifCond .eq 7, 3) := by decide +kernel
theorem dX7_untell_28 : decode cX7_untell 28 = .ok (.iconst 1, 1) := by decide +kernel
theorem dX7_untell_29 : decode cX7_untell 29 = .ok (.goto 4, 3) := by decide +kernel
theorem dX7_untell_32 : decode cX7_untell 32 = .ok (.iconst 0, 1) := by decide +kernel
theorem dX7_untell_33 : decode cX7_untell 33 = .ok (.istore_n 2, 1) := by decide +kernel
theorem dX7_untell_34 : decode cX7_untell 34 = .ok (.aload_n 0, 1) := by decide +kernel
theorem dX7_untell_35 : decode cX7_untell 35 = .ok (.getfield 10, 3) := by decide +kernel
theorem dX7_untell_38 : decode cX7_untell 38 = .ok (.getfield 166, 3) := by decide +kernel
theorem dX7_untell_41 : decode cX7_untell 41 = .ok (.iload_n 1, 1) := by decide +kernel
theorem dX7_untell_42 : decode cX7_untell 42 = .ok (.aaload, 1) := by decide +kernel
theorem dX7_untell_43 : decode cX7_untell 43 = .ok (.invokevirtual 184, 3) := by decide +kernel
theorem dX7_untell_46 : decode cX7_untell 46 = .ok (.iload_n 2, 1) := by decide +kernel
theorem dX7_untell_47 : decode cX7_untell 47 = .ok (.ireturn, 1) := by decide +kernel
theorem dX7_law_0 : decode cX7_law 0 = .ok (.iload_n 1, 1) := by decide +kernel
theorem dX7_law_1 : decode cX7_law 1 = .ok (.invokestatic 155, 3) := by decide +kernel
theorem dX7_law_4 : decode cX7_law 4 = .ok (.ifCond .eq 18, 3) := by decide +kernel
theorem dX7_law_7 : decode cX7_law 7 = .ok (.aload_n 0, 1) := by decide +kernel
theorem dX7_law_8 : decode cX7_law 8 = .ok (.getfield 10, 3) := by decide +kernel
theorem dX7_law_11 : decode cX7_law 11 = .ok (.iload_n 1, 1) := by decide +kernel
theorem dX7_law_12 : decode cX7_law 12 = .ok (.iload_n 2, 1) := by decide +kernel
theorem dX7_law_13 : decode cX7_law 13 = .ok (.iload_n 3, 1) := by decide +kernel
theorem dX7_law_14 : decode cX7_law 14 = .ok (.iload 4, 2) := by decide +kernel
theorem dX7_law_16 : decode cX7_law 16 = .ok (.invokevirtual 187, 3) := by decide +kernel
theorem dX7_law_19 : decode cX7_law 19 = .ok (.goto 8, 3) := by decide +kernel
theorem dX7_law_22 : decode cX7_law 22 = .ok (.aload_n 0, 1) := by decide +kernel
theorem dX7_law_23 : decode cX7_law 23 = .ok (.iconst 1, 1) := by decide +kernel
theorem dX7_law_24 : decode cX7_law 24 = .ok (.invokevirtual 61, 3) := by decide +kernel
theorem dX7_law_27 : decode cX7_law 27 = .ok (.ireturn, 1) := by decide +kernel
theorem dX7_hours_0 : decode cX7_hours 0 = .ok (.iload_n 1, 1) := by decide +kernel
theorem dX7_hours_1 : decode cX7_hours 1 = .ok (.iconst 1, 1) := by decide +kernel
theorem dX7_hours_2 : decode cX7_hours 2 = .ok (.bipush 72, 2) := by decide +kernel
theorem dX7_hours_4 : decode cX7_hours 4 = .ok (.invokestatic 57, 3) := by decide +kernel
theorem dX7_hours_7 : decode cX7_hours 7 = .ok (.ifCond .ne 9, 3) := by decide +kernel
theorem dX7_hours_10 : decode cX7_hours 10 = .ok (.aload_n 0, 1) := by decide +kernel
theorem dX7_hours_11 : decode cX7_hours 11 = .ok (.iconst 1, 1) := by decide +kernel
theorem dX7_hours_12 : decode cX7_hours 12 = .ok (.invokevirtual 61, 3) := by decide +kernel
theorem dX7_hours_15 : decode cX7_hours 15 = .ok (.ireturn, 1) := by decide +kernel
theorem dX7_hours_16 : decode cX7_hours 16 = .ok (.aload_n 0, 1) := by decide +kernel
theorem dX7_hours_17 : decode cX7_hours 17 = .ok (.getfield 10, 3) := by decide +kernel
theorem dX7_hours_20 : decode cX7_hours 20 = .ok (.getfield 100, 3) := by decide +kernel
theorem dX7_hours_23 : decode cX7_hours 23 = .ok (.iload_n 1, 1) := by decide +kernel
theorem dX7_hours_24 : decode cX7_hours 24 = .ok (.iadd, 1) := by decide +kernel
theorem dX7_hours_25 : decode cX7_hours 25 = .ok (.sipush 9999, 3) := by decide +kernel
theorem dX7_hours_28 : decode cX7_hours 28 = .ok (.if_icmp .le 9, 3) := by decide +kernel
theorem dX7_hours_31 : decode cX7_hours 31 = .ok (.aload_n 0, 1) := by decide +kernel
theorem dX7_hours_32 : decode cX7_hours 32 = .ok (.iconst 3, 1) := by decide +kernel
theorem dX7_hours_33 : decode cX7_hours 33 = .ok (.invokevirtual 61, 3) := by decide +kernel
theorem dX7_hours_36 : decode cX7_hours 36 = .ok (.ireturn, 1) := by decide +kernel
theorem dX7_hours_37 : decode cX7_hours 37 = .ok (.iconst 0, 1) := by decide +kernel
theorem dX7_hours_38 : decode cX7_hours 38 = .ok (.istore_n 2, 1) := by decide +kernel
theorem dX7_hours_39 : decode cX7_hours 39 = .ok (.iload_n 2, 1) := by decide +kernel
theorem dX7_hours_40 : decode cX7_hours 40 = .ok (.iload_n 1, 1) := by decide +kernel
theorem dX7_hours_41 : decode cX7_hours 41 = .ok (.if_icmp .ge 16, 3) := by decide +kernel
theorem dX7_hours_44 : decode cX7_hours 44 = .ok (.aload_n 0, 1) := by decide +kernel
theorem dX7_hours_45 : decode cX7_hours 45 = .ok (.getfield 10, 3) := by decide +kernel
theorem dX7_hours_48 : decode cX7_hours 48 = .ok (.invokevirtual 191, 3) := by decide +kernel
theorem dX7_hours_51 : decode cX7_hours 51 = .ok (.iinc 2 1, 3) := by decide +kernel
theorem dX7_hours_54 : decode cX7_hours 54 = .ok (.goto (-15), 3) := by decide +kernel
theorem dX7_hours_57 : decode cX7_hours 57 = .ok (.aload_n 0, 1) := by decide +kernel
theorem dX7_hours_58 : decode cX7_hours 58 = .ok (.getfield 10, 3) := by decide +kernel
theorem dX7_hours_61 : decode cX7_hours 61 = .ok (.getfield 194, 3) := by decide +kernel
theorem dX7_hours_64 : decode cX7_hours 64 = .ok (.ireturn, 1) := by decide +kernel
theorem dX7_loose_0 : decode cX7_loose 0 = .ok (.iload_n 1, 1) := by decide +kernel
theorem dX7_loose_1 : decode cX7_loose 1 = .ok (.iconst 1, 1) := by decide +kernel
theorem dX7_loose_2 : decode cX7_loose 2 = .ok (.bipush 24, 2) := by decide +kernel
theorem dX7_loose_4 : decode cX7_loose 4 = .ok (.invokestatic 57, 3) := by decide +kernel
theorem dX7_loose_7 : decode cX7_loose 7 = .ok (.ifCond .ne 9, 3) := by decide +kernel
theorem dX7_loose_10 : decode cX7_loose 10 = .ok (.aload_n 0, 1) := by decide +kernel
theorem dX7_loose_11 : decode cX7_loose 11 = .ok (.iconst 1, 1) := by decide +kernel
theorem dX7_loose_12 : decode cX7_loose 12 = .ok (.invokevirtual 61, 3) := by decide +kernel
theorem dX7_loose_15 : decode cX7_loose 15 = .ok (.ireturn, 1) := by decide +kernel
theorem dX7_loose_16 : decode cX7_loose 16 = .ok (.aload_n 0, 1) := by decide +kernel
theorem dX7_loose_17 : decode cX7_loose 17 = .ok (.getfield 10, 3) := by decide +kernel
theorem dX7_loose_20 : decode cX7_loose 20 = .ok (.getfield 100, 3) := by decide +kernel
theorem dX7_loose_23 : decode cX7_loose 23 = .ok (.iload_n 1, 1) := by decide +kernel
theorem dX7_loose_24 : decode cX7_loose 24 = .ok (.iadd, 1) := by decide +kernel
theorem dX7_loose_25 : decode cX7_loose 25 = .ok (.sipush 9999, 3) := by decide +kernel
theorem dX7_loose_28 : decode cX7_loose 28 = .ok (.if_icmp .le 9, 3) := by decide +kernel
theorem dX7_loose_31 : decode cX7_loose 31 = .ok (.aload_n 0, 1) := by decide +kernel
theorem dX7_loose_32 : decode cX7_loose 32 = .ok (.iconst 3, 1) := by decide +kernel
theorem dX7_loose_33 : decode cX7_loose 33 = .ok (.invokevirtual 61, 3) := by decide +kernel
theorem dX7_loose_36 : decode cX7_loose 36 = .ok (.ireturn, 1) := by decide +kernel
theorem dX7_loose_37 : decode cX7_loose 37 = .ok (.iconst 0, 1) := by decide +kernel
theorem dX7_loose_38 : decode cX7_loose 38 = .ok (.istore_n 2, 1) := by decide +kernel
theorem dX7_loose_39 : decode cX7_loose 39 = .ok (.iconst 0, 1) := by decide +kernel
theorem dX7_loose_40 : decode cX7_loose 40 = .ok (.istore_n 3, 1) := by decide +kernel
theorem dX7_loose_41 : decode cX7_loose 41 = .ok (.iload_n 3, 1) := by decide +kernel
theorem dX7_loose_42 : decode cX7_loose 42 = .ok (.iload_n 1, 1) := by decide +kernel
theorem dX7_loose_43 : decode cX7_loose 43 = .ok (.if_icmp .ge 26, 3) := by decide +kernel
theorem dX7_loose_46 : decode cX7_loose 46 = .ok (.iload_n 2, 1) := by decide +kernel
theorem dX7_loose_47 : decode cX7_loose 47 = .ok (.aload_n 0, 1) := by decide +kernel
theorem dX7_loose_48 : decode cX7_loose 48 = .ok (.getfield 10, 3) := by decide +kernel
theorem dX7_loose_51 : decode cX7_loose 51 = .ok (.invokevirtual 197, 3) := by decide +kernel
theorem dX7_loose_54 : decode cX7_loose 54 = .ok (.iadd, 1) := by decide +kernel
theorem dX7_loose_55 : decode cX7_loose 55 = .ok (.istore_n 2, 1) := by decide +kernel
theorem dX7_loose_56 : decode cX7_loose 56 = .ok (.aload_n 0, 1) := by decide +kernel
theorem dX7_loose_57 : decode cX7_loose 57 = .ok (.getfield 10, 3) := by decide +kernel
theorem dX7_loose_60 : decode cX7_loose 60 = .ok (.invokevirtual 191, 3) := by decide +kernel
theorem dX7_loose_63 : decode cX7_loose 63 = .ok (.iinc 3 1, 3) := by decide +kernel
theorem dX7_loose_66 : decode cX7_loose 66 = .ok (.goto (-25), 3) := by decide +kernel
theorem dX7_loose_69 : decode cX7_loose 69 = .ok (.iload_n 2, 1) := by decide +kernel
theorem dX7_loose_70 : decode cX7_loose 70 = .ok (.ireturn, 1) := by decide +kernel
theorem dX7_hour_0 : decode cX7_hour 0 = .ok (.iload_n 1, 1) := by decide +kernel
theorem dX7_hour_1 : decode cX7_hour 1 = .ok (.iconst 0, 1) := by decide +kernel
theorem dX7_hour_2 : decode cX7_hour 2 = .ok (.sipush 9999, 3) := by decide +kernel
theorem dX7_hour_5 : decode cX7_hour 5 = .ok (.invokestatic 57, 3) := by decide +kernel
theorem dX7_hour_8 : decode cX7_hour 8 = .ok (.ifCond .ne 9, 3) := by decide +kernel
theorem dX7_hour_11 : decode cX7_hour 11 = .ok (.aload_n 0, 1) := by decide +kernel
theorem dX7_hour_12 : decode cX7_hour 12 = .ok (.iconst 1, 1) := by decide +kernel
theorem dX7_hour_13 : decode cX7_hour 13 = .ok (.invokevirtual 61, 3) := by decide +kernel
theorem dX7_hour_16 : decode cX7_hour 16 = .ok (.ireturn, 1) := by decide +kernel
theorem dX7_hour_17 : decode cX7_hour 17 = .ok (.aload_n 0, 1) := by decide +kernel
theorem dX7_hour_18 : decode cX7_hour 18 = .ok (.getfield 10, 3) := by decide +kernel
theorem dX7_hour_21 : decode cX7_hour 21 = .ok (.getfield 100, 3) := by decide +kernel
theorem dX7_hour_24 : decode cX7_hour 24 = .ok (.istore_n 2, 1) := by decide +kernel
theorem dX7_hour_25 : decode cX7_hour 25 = .ok (.aload_n 0, 1) := by decide +kernel
theorem dX7_hour_26 : decode cX7_hour 26 = .ok (.getfield 10, 3) := by decide +kernel
theorem dX7_hour_29 : decode cX7_hour 29 = .ok (.iload_n 1, 1) := by decide +kernel
theorem dX7_hour_30 : decode cX7_hour 30 = .ok (.putfield 100, 3) := by decide +kernel
theorem dX7_hour_33 : decode cX7_hour 33 = .ok (.iload_n 2, 1) := by decide +kernel
theorem dX7_hour_34 : decode cX7_hour 34 = .ok (.ireturn, 1) := by decide +kernel
theorem dX7_seed_0 : decode cX7_seed 0 = .ok (.aload_n 0, 1) := by decide +kernel
theorem dX7_seed_1 : decode cX7_seed 1 = .ok (.getfield 10, 3) := by decide +kernel
theorem dX7_seed_4 : decode cX7_seed 4 = .ok (.getfield 200, 3) := by decide +kernel
theorem dX7_seed_7 : decode cX7_seed 7 = .ok (.istore_n 2, 1) := by decide +kernel
theorem dX7_seed_8 : decode cX7_seed 8 = .ok (.aload_n 0, 1) := by decide +kernel
theorem dX7_seed_9 : decode cX7_seed 9 = .ok (.getfield 10, 3) := by decide +kernel
theorem dX7_seed_12 : decode cX7_seed 12 = .ok (.iload_n 1, 1) := by decide +kernel
theorem dX7_seed_13 : decode cX7_seed 13 = .ok (.putfield 200, 3) := by decide +kernel
theorem dX7_seed_16 : decode cX7_seed 16 = .ok (.iload_n 2, 1) := by decide +kernel
theorem dX7_seed_17 : decode cX7_seed 17 = .ok (.ireturn, 1) := by decide +kernel
theorem dX7_then_0 : decode cX7_then 0 = .ok (.aload_n 0, 1) := by decide +kernel
theorem dX7_then_1 : decode cX7_then 1 = .ok (.iload_n 1, 1) := by decide +kernel
theorem dX7_then_2 : decode cX7_then 2 = .ok (.invokevirtual 79, 3) := by decide +kernel
theorem dX7_then_5 : decode cX7_then 5 = .ok (.ifCond .eq 13, 3) := by decide +kernel
theorem dX7_then_8 : decode cX7_then 8 = .ok (.iload_n 2, 1) := by decide +kernel
theorem dX7_then_9 : decode cX7_then 9 = .ok (.iconst 0, 1) := by decide +kernel
theorem dX7_then_10 : decode cX7_then 10 = .ok (.bipush 72, 2) := by decide +kernel
theorem dX7_then_12 : decode cX7_then 12 = .ok (.invokestatic 57, 3) := by decide +kernel
theorem dX7_then_15 : decode cX7_then 15 = .ok (.ifCond .ne 9, 3) := by decide +kernel
theorem dX7_then_18 : decode cX7_then 18 = .ok (.aload_n 0, 1) := by decide +kernel
theorem dX7_then_19 : decode cX7_then 19 = .ok (.iconst 1, 1) := by decide +kernel
theorem dX7_then_20 : decode cX7_then 20 = .ok (.invokevirtual 61, 3) := by decide +kernel
theorem dX7_then_23 : decode cX7_then 23 = .ok (.ireturn, 1) := by decide +kernel
theorem dX7_then_24 : decode cX7_then 24 = .ok (.aload_n 0, 1) := by decide +kernel
theorem dX7_then_25 : decode cX7_then 25 = .ok (.getfield 24, 3) := by decide +kernel
theorem dX7_then_28 : decode cX7_then 28 = .ok (.iload_n 1, 1) := by decide +kernel
theorem dX7_then_29 : decode cX7_then 29 = .ok (.iload_n 2, 1) := by decide +kernel
theorem dX7_then_30 : decode cX7_then 30 = .ok (.invokevirtual 203, 3) := by decide +kernel
theorem dX7_then_33 : decode cX7_then 33 = .ok (.ireturn, 1) := by decide +kernel
theorem dX7_first_0 : decode cX7_first 0 = .ok (.iload_n 1, 1) := by decide +kernel
theorem dX7_first_1 : decode cX7_first 1 = .ok (.iconst 0, 1) := by decide +kernel
theorem dX7_first_2 : decode cX7_first 2 = .ok (.bipush 99, 2) := by decide +kernel
theorem dX7_first_4 : decode cX7_first 4 = .ok (.invokestatic 57, 3) := by decide +kernel
theorem dX7_first_7 : decode cX7_first 7 = .ok (.ifCond .eq 12, 3) := by decide +kernel
theorem dX7_first_10 : decode cX7_first 10 = .ok (.iload_n 2, 1) := by decide +kernel
theorem dX7_first_11 : decode cX7_first 11 = .ok (.iconst 0, 1) := by decide +kernel
theorem dX7_first_12 : decode cX7_first 12 = .ok (.iconst 1, 1) := by decide +kernel
theorem dX7_first_13 : decode cX7_first 13 = .ok (.invokestatic 57, 3) := by decide +kernel
theorem dX7_first_16 : decode cX7_first 16 = .ok (.ifCond .ne 9, 3) := by decide +kernel
theorem dX7_first_19 : decode cX7_first 19 = .ok (.aload_n 0, 1) := by decide +kernel
theorem dX7_first_20 : decode cX7_first 20 = .ok (.iconst 1, 1) := by decide +kernel
theorem dX7_first_21 : decode cX7_first 21 = .ok (.invokevirtual 61, 3) := by decide +kernel
theorem dX7_first_24 : decode cX7_first 24 = .ok (.ireturn, 1) := by decide +kernel
theorem dX7_first_25 : decode cX7_first 25 = .ok (.aload_n 0, 1) := by decide +kernel
theorem dX7_first_26 : decode cX7_first 26 = .ok (.getfield 24, 3) := by decide +kernel
theorem dX7_first_29 : decode cX7_first 29 = .ok (.iload_n 1, 1) := by decide +kernel
theorem dX7_first_30 : decode cX7_first 30 = .ok (.invokevirtual 207, 3) := by decide +kernel
theorem dX7_first_33 : decode cX7_first 33 = .ok (.istore_n 3, 1) := by decide +kernel
theorem dX7_first_34 : decode cX7_first 34 = .ok (.iload_n 3, 1) := by decide +kernel
theorem dX7_first_35 : decode cX7_first 35 = .ok (.ifCond .ge 9, 3) := by decide +kernel
theorem dX7_first_38 : decode cX7_first 38 = .ok (.aload_n 0, 1) := by decide +kernel
theorem dX7_first_39 : decode cX7_first 39 = .ok (.iconst 2, 1) := by decide +kernel
theorem dX7_first_40 : decode cX7_first 40 = .ok (.invokevirtual 61, 3) := by decide +kernel
theorem dX7_first_43 : decode cX7_first 43 = .ok (.ireturn, 1) := by decide +kernel
theorem dX7_first_44 : decode cX7_first 44 = .ok (.iload_n 2, 1) := by decide +kernel
theorem dX7_first_45 : decode cX7_first 45 = .ok (.ifCond .ne 14, 3) := by decide +kernel
theorem dX7_first_48 : decode cX7_first 48 = .ok (.aload_n 0, 1) := by decide +kernel
theorem dX7_first_49 : decode cX7_first 49 = .ok (.getfield 24, 3) := by decide +kernel
theorem dX7_first_52 : decode cX7_first 52 = .ok (.iload_n 1, 1) := by decide +kernel
theorem dX7_first_53 : decode cX7_first 53 = .ok (.invokevirtual 210, 3) := by decide +kernel
theorem dX7_first_56 : decode cX7_first 56 = .ok (.goto 4, 3) := by decide +kernel
theorem dX7_first_59 : decode cX7_first 59 = .ok (.iload_n 3, 1) := by decide +kernel
theorem dX7_first_60 : decode cX7_first 60 = .ok (.ireturn, 1) := by decide +kernel
theorem dX7_round_0 : decode cX7_round 0 = .ok (.aload_n 0, 1) := by decide +kernel
theorem dX7_round_1 : decode cX7_round 1 = .ok (.iload_n 1, 1) := by decide +kernel
theorem dX7_round_2 : decode cX7_round 2 = .ok (.invokevirtual 128, 3) := by decide +kernel
theorem dX7_round_5 : decode cX7_round 5 = .ok (.ifCond .eq 12, 3) := by decide +kernel
theorem dX7_round_8 : decode cX7_round 8 = .ok (.iload_n 2, 1) := by decide +kernel
theorem dX7_round_9 : decode cX7_round 9 = .ok (.iconst 0, 1) := by decide +kernel
theorem dX7_round_10 : decode cX7_round 10 = .ok (.iconst 1, 1) := by decide +kernel
theorem dX7_round_11 : decode cX7_round 11 = .ok (.invokestatic 57, 3) := by decide +kernel
theorem dX7_round_14 : decode cX7_round 14 = .ok (.ifCond .ne 9, 3) := by decide +kernel
theorem dX7_round_17 : decode cX7_round 17 = .ok (.aload_n 0, 1) := by decide +kernel
theorem dX7_round_18 : decode cX7_round 18 = .ok (.iconst 1, 1) := by decide +kernel
theorem dX7_round_19 : decode cX7_round 19 = .ok (.invokevirtual 61, 3) := by decide +kernel
theorem dX7_round_22 : decode cX7_round 22 = .ok (.ireturn, 1) := by decide +kernel
theorem dX7_round_23 : decode cX7_round 23 = .ok (.aload_n 0, 1) := by decide +kernel
theorem dX7_round_24 : decode cX7_round 24 = .ok (.getfield 24, 3) := by decide +kernel
theorem dX7_round_27 : decode cX7_round 27 = .ok (.aload_n 0, 1) := by decide +kernel
theorem dX7_round_28 : decode cX7_round 28 = .ok (.getfield 10, 3) := by decide +kernel
theorem dX7_round_31 : decode cX7_round 31 = .ok (.getfield 122, 3) := by decide +kernel
theorem dX7_round_34 : decode cX7_round 34 = .ok (.iload_n 1, 1) := by decide +kernel
theorem dX7_round_35 : decode cX7_round 35 = .ok (.iaload, 1) := by decide +kernel
theorem dX7_round_36 : decode cX7_round 36 = .ok (.invokevirtual 213, 3) := by decide +kernel
theorem dX7_round_39 : decode cX7_round 39 = .ok (.istore_n 3, 1) := by decide +kernel
theorem dX7_round_40 : decode cX7_round 40 = .ok (.iload_n 2, 1) := by decide +kernel
theorem dX7_round_41 : decode cX7_round 41 = .ok (.ifCond .ne 7, 3) := by decide +kernel
theorem dX7_round_44 : decode cX7_round 44 = .ok (.iload_n 3, 1) := by decide +kernel
theorem dX7_round_45 : decode cX7_round 45 = .ok (.goto 11, 3) := by decide +kernel
theorem dX7_round_48 : decode cX7_round 48 = .ok (.aload_n 0, 1) := by decide +kernel
theorem dX7_round_49 : decode cX7_round 49 = .ok (.getfield 10, 3) := by decide +kernel
theorem dX7_round_52 : decode cX7_round 52 = .ok (.iload_n 3, 1) := by decide +kernel
theorem dX7_round_53 : decode cX7_round 53 = .ok (.invokevirtual 216, 3) := by decide +kernel
theorem dX7_round_56 : decode cX7_round 56 = .ok (.ireturn, 1) := by decide +kernel
theorem dX7_fewest_0 : decode cX7_fewest 0 = .ok (.iload_n 1, 1) := by decide +kernel
theorem dX7_fewest_1 : decode cX7_fewest 1 = .ok (.iconst 0, 1) := by decide +kernel
theorem dX7_fewest_2 : decode cX7_fewest 2 = .ok (.bipush 99, 2) := by decide +kernel
theorem dX7_fewest_4 : decode cX7_fewest 4 = .ok (.invokestatic 57, 3) := by decide +kernel
theorem dX7_fewest_7 : decode cX7_fewest 7 = .ok (.ifCond .eq 13, 3) := by decide +kernel
theorem dX7_fewest_10 : decode cX7_fewest 10 = .ok (.iload_n 2, 1) := by decide +kernel
theorem dX7_fewest_11 : decode cX7_fewest 11 = .ok (.iconst (-1), 1) := by decide +kernel
theorem dX7_fewest_12 : decode cX7_fewest 12 = .ok (.bipush 6, 2) := by decide +kernel
theorem dX7_fewest_14 : decode cX7_fewest 14 = .ok (.invokestatic 57, 3) := by decide +kernel
theorem dX7_fewest_17 : decode cX7_fewest 17 = .ok (.ifCond .ne 9, 3) := by decide +kernel
theorem dX7_fewest_20 : decode cX7_fewest 20 = .ok (.aload_n 0, 1) := by decide +kernel
theorem dX7_fewest_21 : decode cX7_fewest 21 = .ok (.iconst 1, 1) := by decide +kernel
theorem dX7_fewest_22 : decode cX7_fewest 22 = .ok (.invokevirtual 61, 3) := by decide +kernel
theorem dX7_fewest_25 : decode cX7_fewest 25 = .ok (.ireturn, 1) := by decide +kernel
theorem dX7_fewest_26 : decode cX7_fewest 26 = .ok (.aload_n 0, 1) := by decide +kernel
theorem dX7_fewest_27 : decode cX7_fewest 27 = .ok (.getfield 24, 3) := by decide +kernel
theorem dX7_fewest_30 : decode cX7_fewest 30 = .ok (.iload_n 1, 1) := by decide +kernel
theorem dX7_fewest_31 : decode cX7_fewest 31 = .ok (.invokevirtual 219, 3) := by decide +kernel
theorem dX7_fewest_34 : decode cX7_fewest 34 = .ok (.istore_n 3, 1) := by decide +kernel
theorem dX7_fewest_35 : decode cX7_fewest 35 = .ok (.iload_n 3, 1) := by decide +kernel
theorem dX7_fewest_36 : decode cX7_fewest 36 = .ok (.ifCond .ge 9, 3) := by decide +kernel
theorem dX7_fewest_39 : decode cX7_fewest 39 = .ok (.aload_n 0, 1) := by decide +kernel
theorem dX7_fewest_40 : decode cX7_fewest 40 = .ok (.iconst 2, 1) := by decide +kernel
theorem dX7_fewest_41 : decode cX7_fewest 41 = .ok (.invokevirtual 61, 3) := by decide +kernel
theorem dX7_fewest_44 : decode cX7_fewest 44 = .ok (.ireturn, 1) := by decide +kernel
theorem dX7_fewest_45 : decode cX7_fewest 45 = .ok (.iload_n 2, 1) := by decide +kernel
theorem dX7_fewest_46 : decode cX7_fewest 46 = .ok (.ifCond .ge 7, 3) := by decide +kernel
theorem dX7_fewest_49 : decode cX7_fewest 49 = .ok (.iload_n 3, 1) := by decide +kernel
theorem dX7_fewest_50 : decode cX7_fewest 50 = .ok (.goto 11, 3) := by decide +kernel
theorem dX7_fewest_53 : decode cX7_fewest 53 = .ok (.aload_n 0, 1) := by decide +kernel
theorem dX7_fewest_54 : decode cX7_fewest 54 = .ok (.getfield 24, 3) := by decide +kernel
theorem dX7_fewest_57 : decode cX7_fewest 57 = .ok (.iload_n 2, 1) := by decide +kernel
theorem dX7_fewest_58 : decode cX7_fewest 58 = .ok (.invokevirtual 222, 3) := by decide +kernel
theorem dX7_fewest_61 : decode cX7_fewest 61 = .ok (.ireturn, 1) := by decide +kernel
theorem dX7_odds_0 : decode cX7_odds 0 = .ok (.aload_n 0, 1) := by decide +kernel
theorem dX7_odds_1 : decode cX7_odds 1 = .ok (.iload_n 1, 1) := by decide +kernel
theorem dX7_odds_2 : decode cX7_odds 2 = .ok (.invokevirtual 128, 3) := by decide +kernel
theorem dX7_odds_5 : decode cX7_odds 5 = .ok (.ifCond .eq 12, 3) := by decide +kernel
theorem dX7_odds_8 : decode cX7_odds 8 = .ok (.iload_n 2, 1) := by decide +kernel
theorem dX7_odds_9 : decode cX7_odds 9 = .ok (.iconst 0, 1) := by decide +kernel
theorem dX7_odds_10 : decode cX7_odds 10 = .ok (.iconst 1, 1) := by decide +kernel
theorem dX7_odds_11 : decode cX7_odds 11 = .ok (.invokestatic 57, 3) := by decide +kernel
theorem dX7_odds_14 : decode cX7_odds 14 = .ok (.ifCond .ne 9, 3) := by decide +kernel
theorem dX7_odds_17 : decode cX7_odds 17 = .ok (.aload_n 0, 1) := by decide +kernel
theorem dX7_odds_18 : decode cX7_odds 18 = .ok (.iconst 1, 1) := by decide +kernel
theorem dX7_odds_19 : decode cX7_odds 19 = .ok (.invokevirtual 61, 3) := by decide +kernel
theorem dX7_odds_22 : decode cX7_odds 22 = .ok (.ireturn, 1) := by decide +kernel
theorem dX7_odds_23 : decode cX7_odds 23 = .ok (.aload_n 0, 1) := by decide +kernel
theorem dX7_odds_24 : decode cX7_odds 24 = .ok (.getfield 10, 3) := by decide +kernel
theorem dX7_odds_27 : decode cX7_odds 27 = .ok (.getfield 65, 3) := by decide +kernel
theorem dX7_odds_30 : decode cX7_odds 30 = .ok (.ifCond .ne 9, 3) := by decide +kernel
theorem dX7_odds_33 : decode cX7_odds 33 = .ok (.aload_n 0, 1) := by decide +kernel
theorem dX7_odds_34 : decode cX7_odds 34 = .ok (.iconst 3, 1) := by decide +kernel
theorem dX7_odds_35 : decode cX7_odds 35 = .ok (.invokevirtual 61, 3) := by decide +kernel
theorem dX7_odds_38 : decode cX7_odds 38 = .ok (.ireturn, 1) := by decide +kernel
theorem dX7_odds_39 : decode cX7_odds 39 = .ok (.aload_n 0, 1) := by decide +kernel
theorem dX7_odds_40 : decode cX7_odds 40 = .ok (.getfield 24, 3) := by decide +kernel
theorem dX7_odds_43 : decode cX7_odds 43 = .ok (.aload_n 0, 1) := by decide +kernel
theorem dX7_odds_44 : decode cX7_odds 44 = .ok (.getfield 10, 3) := by decide +kernel
theorem dX7_odds_47 : decode cX7_odds 47 = .ok (.getfield 122, 3) := by decide +kernel
theorem dX7_odds_50 : decode cX7_odds 50 = .ok (.iload_n 1, 1) := by decide +kernel
theorem dX7_odds_51 : decode cX7_odds 51 = .ok (.iaload, 1) := by decide +kernel
theorem dX7_odds_52 : decode cX7_odds 52 = .ok (.invokevirtual 225, 3) := by decide +kernel
theorem dX7_odds_55 : decode cX7_odds 55 = .ok (.istore_n 3, 1) := by decide +kernel
theorem dX7_odds_56 : decode cX7_odds 56 = .ok (.aload_n 0, 1) := by decide +kernel
theorem dX7_odds_57 : decode cX7_odds 57 = .ok (.getfield 10, 3) := by decide +kernel
theorem dX7_odds_60 : decode cX7_odds 60 = .ok (.invokevirtual 137, 3) := by decide +kernel
theorem dX7_odds_63 : decode cX7_odds 63 = .ok (.istore 4, 2) := by decide +kernel
theorem dX7_odds_65 : decode cX7_odds 65 = .ok (.iload_n 3, 1) := by decide +kernel
theorem dX7_odds_66 : decode cX7_odds 66 = .ok (.iload 4, 2) := by decide +kernel
theorem dX7_odds_68 : decode cX7_odds 68 = .ok (.invokestatic 228, 3) := by decide +kernel
theorem dX7_odds_71 : decode cX7_odds 71 = .ok (.istore 5, 2) := by decide +kernel
theorem dX7_odds_73 : decode cX7_odds 73 = .ok (.iload_n 2, 1) := by decide +kernel
theorem dX7_odds_74 : decode cX7_odds 74 = .ok (.ifCond .ne 7, 3) := by decide +kernel
theorem dX7_odds_77 : decode cX7_odds 77 = .ok (.iload_n 3, 1) := by decide +kernel
theorem dX7_odds_78 : decode cX7_odds 78 = .ok (.goto 5, 3) := by decide +kernel
theorem dX7_odds_81 : decode cX7_odds 81 = .ok (.iload 4, 2) := by decide +kernel
theorem dX7_odds_83 : decode cX7_odds 83 = .ok (.iconst 1, 1) := by decide +kernel
theorem dX7_odds_84 : decode cX7_odds 84 = .ok (.iload 5, 2) := by decide +kernel
theorem dX7_odds_86 : decode cX7_odds 86 = .ok (.invokestatic 231, 3) := by decide +kernel
theorem dX7_odds_89 : decode cX7_odds 89 = .ok (.idiv, 1) := by decide +kernel
theorem dX7_odds_90 : decode cX7_odds 90 = .ok (.ireturn, 1) := by decide +kernel
theorem dX7_whose_0 : decode cX7_whose 0 = .ok (.iload_n 1, 1) := by decide +kernel
theorem dX7_whose_1 : decode cX7_whose 1 = .ok (.ifCond .lt 12, 3) := by decide +kernel
theorem dX7_whose_4 : decode cX7_whose 4 = .ok (.iload_n 2, 1) := by decide +kernel
theorem dX7_whose_5 : decode cX7_whose 5 = .ok (.iconst 0, 1) := by decide +kernel
theorem dX7_whose_6 : decode cX7_whose 6 = .ok (.iconst 1, 1) := by decide +kernel
theorem dX7_whose_7 : decode cX7_whose 7 = .ok (.invokestatic 57, 3) := by decide +kernel
theorem dX7_whose_10 : decode cX7_whose 10 = .ok (.ifCond .ne 9, 3) := by decide +kernel
theorem dX7_whose_13 : decode cX7_whose 13 = .ok (.aload_n 0, 1) := by decide +kernel
theorem dX7_whose_14 : decode cX7_whose 14 = .ok (.iconst 1, 1) := by decide +kernel
theorem dX7_whose_15 : decode cX7_whose 15 = .ok (.invokevirtual 61, 3) := by decide +kernel
theorem dX7_whose_18 : decode cX7_whose 18 = .ok (.ireturn, 1) := by decide +kernel
theorem dX7_whose_19 : decode cX7_whose 19 = .ok (.iload_n 2, 1) := by decide +kernel
theorem dX7_whose_20 : decode cX7_whose 20 = .ok (.ifCond .ne 12, 3) := by decide +kernel
theorem dX7_whose_23 : decode cX7_whose 23 = .ok (.aload_n 0, 1) := by decide +kernel
theorem dX7_whose_24 : decode cX7_whose 24 = .ok (.getfield 24, 3) := by decide +kernel
theorem dX7_whose_27 : decode cX7_whose 27 = .ok (.iload_n 1, 1) := by decide +kernel
theorem dX7_whose_28 : decode cX7_whose 28 = .ok (.invokevirtual 236, 3) := by decide +kernel
theorem dX7_whose_31 : decode cX7_whose 31 = .ok (.ireturn, 1) := by decide +kernel
theorem dX7_whose_32 : decode cX7_whose 32 = .ok (.aload_n 0, 1) := by decide +kernel
theorem dX7_whose_33 : decode cX7_whose 33 = .ok (.getfield 24, 3) := by decide +kernel
theorem dX7_whose_36 : decode cX7_whose 36 = .ok (.iload_n 1, 1) := by decide +kernel
theorem dX7_whose_37 : decode cX7_whose 37 = .ok (.invokevirtual 239, 3) := by decide +kernel
theorem dX7_whose_40 : decode cX7_whose 40 = .ok (.istore_n 3, 1) := by decide +kernel
theorem dX7_whose_41 : decode cX7_whose 41 = .ok (.iload_n 3, 1) := by decide +kernel
theorem dX7_whose_42 : decode cX7_whose 42 = .ok (.ifCond .ne 11, 3) := by decide +kernel
theorem dX7_whose_45 : decode cX7_whose 45 = .ok (.aload_n 0, 1) := by decide +kernel
theorem dX7_whose_46 : decode cX7_whose 46 = .ok (.iconst 2, 1) := by decide +kernel
theorem dX7_whose_47 : decode cX7_whose 47 = .ok (.invokevirtual 61, 3) := by decide +kernel
theorem dX7_whose_50 : decode cX7_whose 50 = .ok (.goto 4, 3) := by decide +kernel
theorem dX7_whose_53 : decode cX7_whose 53 = .ok (.iload_n 3, 1) := by decide +kernel
theorem dX7_whose_54 : decode cX7_whose 54 = .ok (.ireturn, 1) := by decide +kernel
theorem dX7_fits_0 : decode cX7_fits 0 = .ok (.iload_n 1, 1) := by decide +kernel
theorem dX7_fits_1 : decode cX7_fits 1 = .ok (.invokestatic 242, 3) := by decide +kernel
theorem dX7_fits_4 : decode cX7_fits 4 = .ok (.ifCond .ne 9, 3) := by decide +kernel
theorem dX7_fits_7 : decode cX7_fits 7 = .ok (.aload_n 0, 1) := by decide +kernel
theorem dX7_fits_8 : decode cX7_fits 8 = .ok (.iconst 1, 1) := by decide +kernel
theorem dX7_fits_9 : decode cX7_fits 9 = .ok (.invokevirtual 61, 3) := by decide +kernel
theorem dX7_fits_12 : decode cX7_fits 12 = .ok (.ireturn, 1) := by decide +kernel
theorem dX7_fits_13 : decode cX7_fits 13 = .ok (.aload_n 0, 1) := by decide +kernel
theorem dX7_fits_14 : decode cX7_fits 14 = .ok (.getfield 44, 3) := by decide +kernel
theorem dX7_fits_17 : decode cX7_fits 17 = .ok (.iload_n 1, 1) := by decide +kernel
theorem dX7_fits_18 : decode cX7_fits 18 = .ok (.aaload, 1) := by decide +kernel
theorem dX7_fits_19 : decode cX7_fits 19 = .ok (.invokevirtual 245, 3) := by decide +kernel
theorem dX7_fits_22 : decode cX7_fits 22 = .ok (.ifCond .eq 9, 3) := by decide +kernel
theorem dX7_fits_25 : decode cX7_fits 25 = .ok (.aload_n 0, 1) := by decide +kernel
theorem dX7_fits_26 : decode cX7_fits 26 = .ok (.iconst 2, 1) := by decide +kernel
theorem dX7_fits_27 : decode cX7_fits 27 = .ok (.invokevirtual 61, 3) := by decide +kernel
theorem dX7_fits_30 : decode cX7_fits 30 = .ok (.ireturn, 1) := by decide +kernel
theorem dX7_fits_31 : decode cX7_fits 31 = .ok (.aload_n 0, 1) := by decide +kernel
theorem dX7_fits_32 : decode cX7_fits 32 = .ok (.getfield 24, 3) := by decide +kernel
theorem dX7_fits_35 : decode cX7_fits 35 = .ok (.aload_n 0, 1) := by decide +kernel
theorem dX7_fits_36 : decode cX7_fits 36 = .ok (.getfield 44, 3) := by decide +kernel
theorem dX7_fits_39 : decode cX7_fits 39 = .ok (.iload_n 1, 1) := by decide +kernel
theorem dX7_fits_40 : decode cX7_fits 40 = .ok (.aaload, 1) := by decide +kernel
theorem dX7_fits_41 : decode cX7_fits 41 = .ok (.invokevirtual 248, 3) := by decide +kernel
theorem dX7_fits_44 : decode cX7_fits 44 = .ok (.istore_n 2, 1) := by decide +kernel
theorem dX7_fits_45 : decode cX7_fits 45 = .ok (.iload_n 2, 1) := by decide +kernel
theorem dX7_fits_46 : decode cX7_fits 46 = .ok (.ifCond .ge 11, 3) := by decide +kernel
theorem dX7_fits_49 : decode cX7_fits 49 = .ok (.aload_n 0, 1) := by decide +kernel
theorem dX7_fits_50 : decode cX7_fits 50 = .ok (.iconst 2, 1) := by decide +kernel
theorem dX7_fits_51 : decode cX7_fits 51 = .ok (.invokevirtual 61, 3) := by decide +kernel
theorem dX7_fits_54 : decode cX7_fits 54 = .ok (.goto 4, 3) := by decide +kernel
theorem dX7_fits_57 : decode cX7_fits 57 = .ok (.iload_n 2, 1) := by decide +kernel
theorem dX7_fits_58 : decode cX7_fits 58 = .ok (.ireturn, 1) := by decide +kernel
theorem dX7_voice_0 : decode cX7_voice 0 = .ok (.aload_n 0, 1) := by decide +kernel
theorem dX7_voice_1 : decode cX7_voice 1 = .ok (.iload_n 1, 1) := by decide +kernel
theorem dX7_voice_2 : decode cX7_voice 2 = .ok (.invokevirtual 79, 3) := by decide +kernel
theorem dX7_voice_5 : decode cX7_voice 5 = .ok (.ifCond .eq 12, 3) := by decide +kernel
theorem dX7_voice_8 : decode cX7_voice 8 = .ok (.iload_n 2, 1) := by decide +kernel
theorem dX7_voice_9 : decode cX7_voice 9 = .ok (.iconst 0, 1) := by decide +kernel
theorem dX7_voice_10 : decode cX7_voice 10 = .ok (.iconst 3, 1) := by decide +kernel
theorem dX7_voice_11 : decode cX7_voice 11 = .ok (.invokestatic 57, 3) := by decide +kernel
theorem dX7_voice_14 : decode cX7_voice 14 = .ok (.ifCond .ne 9, 3) := by decide +kernel
theorem dX7_voice_17 : decode cX7_voice 17 = .ok (.aload_n 0, 1) := by decide +kernel
theorem dX7_voice_18 : decode cX7_voice 18 = .ok (.iconst 1, 1) := by decide +kernel
theorem dX7_voice_19 : decode cX7_voice 19 = .ok (.invokevirtual 61, 3) := by decide +kernel
theorem dX7_voice_22 : decode cX7_voice 22 = .ok (.ireturn, 1) := by decide +kernel
theorem dX7_voice_23 : decode cX7_voice 23 = .ok (.aload_n 0, 1) := by decide +kernel
theorem dX7_voice_24 : decode cX7_voice 24 = .ok (.getfield 38, 3) := by decide +kernel
theorem dX7_voice_27 : decode cX7_voice 27 = .ok (.iload_n 1, 1) := by decide +kernel
theorem dX7_voice_28 : decode cX7_voice 28 = .ok (.aload_n 0, 1) := by decide +kernel
theorem dX7_voice_29 : decode cX7_voice 29 = .ok (.getfield 10, 3) := by decide +kernel
theorem dX7_voice_32 : decode cX7_voice 32 = .ok (.getfield 69, 3) := by decide +kernel
theorem dX7_voice_35 : decode cX7_voice 35 = .ok (.iload_n 1, 1) := by decide +kernel
theorem dX7_voice_36 : decode cX7_voice 36 = .ok (.aaload, 1) := by decide +kernel
theorem dX7_voice_37 : decode cX7_voice 37 = .ok (.iload_n 2, 1) := by decide +kernel
theorem dX7_voice_38 : decode cX7_voice 38 = .ok (.iload_n 3, 1) := by decide +kernel
theorem dX7_voice_39 : decode cX7_voice 39 = .ok (.invokevirtual 252, 3) := by decide +kernel
theorem dX7_voice_42 : decode cX7_voice 42 = .ok (.istore 4, 2) := by decide +kernel
theorem dX7_voice_44 : decode cX7_voice 44 = .ok (.aload_n 0, 1) := by decide +kernel
theorem dX7_voice_45 : decode cX7_voice 45 = .ok (.getfield 38, 3) := by decide +kernel
theorem dX7_voice_48 : decode cX7_voice 48 = .ok (.getfield 256, 3) := by decide +kernel
theorem dX7_voice_51 : decode cX7_voice 51 = .ok (.ifCond .eq 12, 3) := by decide +kernel
theorem dX7_voice_54 : decode cX7_voice 54 = .ok (.aload_n 0, 1) := by decide +kernel
theorem dX7_voice_55 : decode cX7_voice 55 = .ok (.bipush 6, 2) := by decide +kernel
theorem dX7_voice_57 : decode cX7_voice 57 = .ok (.invokevirtual 61, 3) := by decide +kernel
theorem dX7_voice_60 : decode cX7_voice 60 = .ok (.goto 5, 3) := by decide +kernel
theorem dX7_voice_63 : decode cX7_voice 63 = .ok (.iload 4, 2) := by decide +kernel
theorem dX7_voice_65 : decode cX7_voice 65 = .ok (.ireturn, 1) := by decide +kernel
theorem dX7_body_0 : decode cX7_body 0 = .ok (.iload_n 1, 1) := by decide +kernel
theorem dX7_body_1 : decode cX7_body 1 = .ok (.iconst 0, 1) := by decide +kernel
theorem dX7_body_2 : decode cX7_body 2 = .ok (.aload_n 0, 1) := by decide +kernel
theorem dX7_body_3 : decode cX7_body 3 = .ok (.getfield 38, 3) := by decide +kernel
theorem dX7_body_6 : decode cX7_body 6 = .ok (.getfield 260, 3) := by decide +kernel
theorem dX7_body_9 : decode cX7_body 9 = .ok (.iconst 1, 1) := by decide +kernel
theorem dX7_body_10 : decode cX7_body 10 = .ok (.isub, 1) := by decide +kernel
theorem dX7_body_11 : decode cX7_body 11 = .ok (.invokestatic 57, 3) := by decide +kernel
theorem dX7_body_14 : decode cX7_body 14 = .ok (.ifCond .eq 15, 3) := by decide +kernel
theorem dX7_body_17 : decode cX7_body 17 = .ok (.aload_n 0, 1) := by decide +kernel
theorem dX7_body_18 : decode cX7_body 18 = .ok (.getfield 38, 3) := by decide +kernel
theorem dX7_body_21 : decode cX7_body 21 = .ok (.getfield 263, 3) := by decide +kernel
theorem dX7_body_24 : decode cX7_body 24 = .ok (.iload_n 1, 1) := by decide +kernel
theorem dX7_body_25 : decode cX7_body 25 = .ok (.iaload, 1) := by decide +kernel
theorem dX7_body_26 : decode cX7_body 26 = .ok (.goto 8, 3) := by decide +kernel
theorem dX7_body_29 : decode cX7_body 29 = .ok (.aload_n 0, 1) := by decide +kernel
theorem dX7_body_30 : decode cX7_body 30 = .ok (.iconst 2, 1) := by decide +kernel
theorem dX7_body_31 : decode cX7_body 31 = .ok (.invokevirtual 61, 3) := by decide +kernel
theorem dX7_body_34 : decode cX7_body 34 = .ok (.ireturn, 1) := by decide +kernel
theorem dX7_sheet_0 : decode cX7_sheet 0 = .ok (.iload_n 1, 1) := by decide +kernel
theorem dX7_sheet_1 : decode cX7_sheet 1 = .ok (.invokestatic 242, 3) := by decide +kernel
theorem dX7_sheet_4 : decode cX7_sheet 4 = .ok (.ifCond .eq 25, 3) := by decide +kernel
theorem dX7_sheet_7 : decode cX7_sheet 7 = .ok (.iload_n 2, 1) := by decide +kernel
theorem dX7_sheet_8 : decode cX7_sheet 8 = .ok (.ifCond .eq 27, 3) := by decide +kernel
theorem dX7_sheet_11 : decode cX7_sheet 11 = .ok (.iload_n 2, 1) := by decide +kernel
theorem dX7_sheet_12 : decode cX7_sheet 12 = .ok (.bipush 8, 2) := by decide +kernel
theorem dX7_sheet_14 : decode cX7_sheet 14 = .ok (.if_icmp .eq 21, 3) := by decide +kernel
theorem dX7_sheet_17 : decode cX7_sheet 17 = .ok (.iload_n 2, 1) := by decide +kernel
theorem dX7_sheet_18 : decode cX7_sheet 18 = .ok (.bipush 16, 2) := by decide +kernel
theorem dX7_sheet_20 : decode cX7_sheet 20 = .ok (.if_icmp .eq 15, 3) := by decide +kernel
theorem dX7_sheet_23 : decode cX7_sheet 23 = .ok (.iload_n 2, 1) := by decide +kernel
theorem dX7_sheet_24 : decode cX7_sheet 24 = .ok (.bipush 32, 2) := by decide +kernel
theorem dX7_sheet_26 : decode cX7_sheet 26 = .ok (.if_icmp .eq 9, 3) := by decide +kernel
theorem dX7_sheet_29 : decode cX7_sheet 29 = .ok (.aload_n 0, 1) := by decide +kernel
theorem dX7_sheet_30 : decode cX7_sheet 30 = .ok (.iconst 1, 1) := by decide +kernel
theorem dX7_sheet_31 : decode cX7_sheet 31 = .ok (.invokevirtual 61, 3) := by decide +kernel
theorem dX7_sheet_34 : decode cX7_sheet 34 = .ok (.ireturn, 1) := by decide +kernel
theorem dX7_sheet_35 : decode cX7_sheet 35 = .ok (.iload_n 2, 1) := by decide +kernel
theorem dX7_sheet_36 : decode cX7_sheet 36 = .ok (.ifCond .ne 16, 3) := by decide +kernel
theorem dX7_sheet_39 : decode cX7_sheet 39 = .ok (.aload_n 0, 1) := by decide +kernel
theorem dX7_sheet_40 : decode cX7_sheet 40 = .ok (.getfield 44, 3) := by decide +kernel
theorem dX7_sheet_43 : decode cX7_sheet 43 = .ok (.iload_n 1, 1) := by decide +kernel
theorem dX7_sheet_44 : decode cX7_sheet 44 = .ok (.aaload, 1) := by decide +kernel
theorem dX7_sheet_45 : decode cX7_sheet 45 = .ok (.iconst 0, 1) := by decide +kernel
theorem dX7_sheet_46 : decode cX7_sheet 46 = .ok (.iconst 0, 1) := by decide +kernel
theorem dX7_sheet_47 : decode cX7_sheet 47 = .ok (.invokevirtual 266, 3) := by decide +kernel
theorem dX7_sheet_50 : decode cX7_sheet 50 = .ok (.iconst 1, 1) := by decide +kernel
theorem dX7_sheet_51 : decode cX7_sheet 51 = .ok (.ireturn, 1) := by decide +kernel
theorem dX7_sheet_52 : decode cX7_sheet 52 = .ok (.iload_n 3, 1) := by decide +kernel
theorem dX7_sheet_53 : decode cX7_sheet 53 = .ok (.ifCond .ge 9, 3) := by decide +kernel
theorem dX7_sheet_56 : decode cX7_sheet 56 = .ok (.aload_n 0, 1) := by decide +kernel
theorem dX7_sheet_57 : decode cX7_sheet 57 = .ok (.iconst 3, 1) := by decide +kernel
theorem dX7_sheet_58 : decode cX7_sheet 58 = .ok (.invokevirtual 61, 3) := by decide +kernel
theorem dX7_sheet_61 : decode cX7_sheet 61 = .ok (.ireturn, 1) := by decide +kernel
theorem dX7_sheet_62 : decode cX7_sheet 62 = .ok (.iload_n 3, 1) := by decide +kernel
theorem dX7_sheet_63 : decode cX7_sheet 63 = .ok (.bipush 24, 2) := by decide +kernel
theorem dX7_sheet_65 : decode cX7_sheet 65 = .ok (.if_icmp .le 9, 3) := by decide +kernel
theorem dX7_sheet_68 : decode cX7_sheet 68 = .ok (.aload_n 0, 1) := by decide +kernel
theorem dX7_sheet_69 : decode cX7_sheet 69 = .ok (.iconst 1, 1) := by decide +kernel
theorem dX7_sheet_70 : decode cX7_sheet 70 = .ok (.invokevirtual 61, 3) := by decide +kernel
theorem dX7_sheet_73 : decode cX7_sheet 73 = .ok (.ireturn, 1) := by decide +kernel
theorem dX7_sheet_74 : decode cX7_sheet 74 = .ok (.aload_n 0, 1) := by decide +kernel
theorem dX7_sheet_75 : decode cX7_sheet 75 = .ok (.getfield 44, 3) := by decide +kernel
theorem dX7_sheet_78 : decode cX7_sheet 78 = .ok (.iload_n 1, 1) := by decide +kernel
theorem dX7_sheet_79 : decode cX7_sheet 79 = .ok (.aaload, 1) := by decide +kernel
theorem dX7_sheet_80 : decode cX7_sheet 80 = .ok (.iload_n 2, 1) := by decide +kernel
theorem dX7_sheet_81 : decode cX7_sheet 81 = .ok (.iload_n 3, 1) := by decide +kernel
theorem dX7_sheet_82 : decode cX7_sheet 82 = .ok (.invokevirtual 266, 3) := by decide +kernel
theorem dX7_sheet_85 : decode cX7_sheet 85 = .ok (.iconst 1, 1) := by decide +kernel
theorem dX7_sheet_86 : decode cX7_sheet 86 = .ok (.ireturn, 1) := by decide +kernel
theorem dX7_put_0 : decode cX7_put 0 = .ok (.iload_n 1, 1) := by decide +kernel
theorem dX7_put_1 : decode cX7_put 1 = .ok (.invokestatic 242, 3) := by decide +kernel
theorem dX7_put_4 : decode cX7_put 4 = .ok (.ifCond .ne 9, 3) := by decide +kernel
theorem dX7_put_7 : decode cX7_put 7 = .ok (.aload_n 0, 1) := by decide +kernel
theorem dX7_put_8 : decode cX7_put 8 = .ok (.iconst 1, 1) := by decide +kernel
theorem dX7_put_9 : decode cX7_put 9 = .ok (.invokevirtual 61, 3) := by decide +kernel
theorem dX7_put_12 : decode cX7_put 12 = .ok (.ireturn, 1) := by decide +kernel
theorem dX7_put_13 : decode cX7_put 13 = .ok (.aload_n 0, 1) := by decide +kernel
theorem dX7_put_14 : decode cX7_put 14 = .ok (.getfield 44, 3) := by decide +kernel
theorem dX7_put_17 : decode cX7_put 17 = .ok (.iload_n 1, 1) := by decide +kernel
theorem dX7_put_18 : decode cX7_put 18 = .ok (.aaload, 1) := by decide +kernel
theorem dX7_put_19 : decode cX7_put 19 = .ok (.invokevirtual 245, 3) := by decide +kernel
theorem dX7_put_22 : decode cX7_put 22 = .ok (.ifCond .eq 9, 3) := by decide +kernel
theorem dX7_put_25 : decode cX7_put 25 = .ok (.aload_n 0, 1) := by decide +kernel
theorem dX7_put_26 : decode cX7_put 26 = .ok (.iconst 2, 1) := by decide +kernel
theorem dX7_put_27 : decode cX7_put 27 = .ok (.invokevirtual 61, 3) := by decide +kernel
theorem dX7_put_30 : decode cX7_put 30 = .ok (.ireturn, 1) := by decide +kernel
theorem dX7_put_31 : decode cX7_put 31 = .ok (.iload_n 2, 1) := by decide +kernel
theorem dX7_put_32 : decode cX7_put 32 = .ok (.iconst 0, 1) := by decide +kernel
theorem dX7_put_33 : decode cX7_put 33 = .ok (.aload_n 0, 1) := by decide +kernel
theorem dX7_put_34 : decode cX7_put 34 = .ok (.getfield 44, 3) := by decide +kernel
theorem dX7_put_37 : decode cX7_put 37 = .ok (.iload_n 1, 1) := by decide +kernel
theorem dX7_put_38 : decode cX7_put 38 = .ok (.aaload, 1) := by decide +kernel
theorem dX7_put_39 : decode cX7_put 39 = .ok (.getfield 269, 3) := by decide +kernel
theorem dX7_put_42 : decode cX7_put 42 = .ok (.iconst 1, 1) := by decide +kernel
theorem dX7_put_43 : decode cX7_put 43 = .ok (.isub, 1) := by decide +kernel
theorem dX7_put_44 : decode cX7_put 44 = .ok (.invokestatic 57, 3) := by decide +kernel
theorem dX7_put_47 : decode cX7_put 47 = .ok (.ifCond .ne 9, 3) := by decide +kernel
theorem dX7_put_50 : decode cX7_put 50 = .ok (.aload_n 0, 1) := by decide +kernel
theorem dX7_put_51 : decode cX7_put 51 = .ok (.iconst 1, 1) := by decide +kernel
theorem dX7_put_52 : decode cX7_put 52 = .ok (.invokevirtual 61, 3) := by decide +kernel
theorem dX7_put_55 : decode cX7_put 55 = .ok (.ireturn, 1) := by decide +kernel
theorem dX7_put_56 : decode cX7_put 56 = .ok (.aload_n 0, 1) := by decide +kernel
theorem dX7_put_57 : decode cX7_put 57 = .ok (.getfield 44, 3) := by decide +kernel
theorem dX7_put_60 : decode cX7_put 60 = .ok (.iload_n 1, 1) := by decide +kernel
theorem dX7_put_61 : decode cX7_put 61 = .ok (.aaload, 1) := by decide +kernel
theorem dX7_put_62 : decode cX7_put 62 = .ok (.iload_n 2, 1) := by decide +kernel
theorem dX7_put_63 : decode cX7_put 63 = .ok (.iload_n 3, 1) := by decide +kernel
theorem dX7_put_64 : decode cX7_put 64 = .ok (.invokevirtual 272, 3) := by decide +kernel
theorem dX7_put_67 : decode cX7_put 67 = .ok (.iconst 1, 1) := by decide +kernel
theorem dX7_put_68 : decode cX7_put 68 = .ok (.ireturn, 1) := by decide +kernel
theorem dX7_move_0 : decode cX7_move 0 = .ok (.iload_n 1, 1) := by decide +kernel
theorem dX7_move_1 : decode cX7_move 1 = .ok (.invokestatic 242, 3) := by decide +kernel
theorem dX7_move_4 : decode cX7_move 4 = .ok (.ifCond .eq 10, 3) := by decide +kernel
theorem dX7_move_7 : decode cX7_move 7 = .ok (.iload_n 3, 1) := by decide +kernel
theorem dX7_move_8 : decode cX7_move 8 = .ok (.invokestatic 242, 3) := by decide +kernel
theorem dX7_move_11 : decode cX7_move 11 = .ok (.ifCond .ne 9, 3) := by decide +kernel
theorem dX7_move_14 : decode cX7_move 14 = .ok (.aload_n 0, 1) := by decide +kernel
theorem dX7_move_15 : decode cX7_move 15 = .ok (.iconst 1, 1) := by decide +kernel
theorem dX7_move_16 : decode cX7_move 16 = .ok (.invokevirtual 61, 3) := by decide +kernel
theorem dX7_move_19 : decode cX7_move 19 = .ok (.ireturn, 1) := by decide +kernel
theorem dX7_move_20 : decode cX7_move 20 = .ok (.aload_n 0, 1) := by decide +kernel
theorem dX7_move_21 : decode cX7_move 21 = .ok (.getfield 44, 3) := by decide +kernel
theorem dX7_move_24 : decode cX7_move 24 = .ok (.iload_n 1, 1) := by decide +kernel
theorem dX7_move_25 : decode cX7_move 25 = .ok (.aaload, 1) := by decide +kernel
theorem dX7_move_26 : decode cX7_move 26 = .ok (.astore 6, 2) := by decide +kernel
theorem dX7_move_28 : decode cX7_move 28 = .ok (.aload_n 0, 1) := by decide +kernel
theorem dX7_move_29 : decode cX7_move 29 = .ok (.getfield 44, 3) := by decide +kernel
theorem dX7_move_32 : decode cX7_move 32 = .ok (.iload_n 3, 1) := by decide +kernel
theorem dX7_move_33 : decode cX7_move 33 = .ok (.aaload, 1) := by decide +kernel
theorem dX7_move_34 : decode cX7_move 34 = .ok (.astore 7, 2) := by decide +kernel
theorem dX7_move_36 : decode cX7_move 36 = .ok (.aload 6, 2) := by decide +kernel
theorem dX7_move_38 : decode cX7_move 38 = .ok (.invokevirtual 245, 3) := by decide +kernel
theorem dX7_move_41 : decode cX7_move 41 = .ok (.ifCond .ne 11, 3) := by decide +kernel
theorem dX7_move_44 : decode cX7_move 44 = .ok (.aload 7, 2) := by decide +kernel
theorem dX7_move_46 : decode cX7_move 46 = .ok (.invokevirtual 245, 3) := by decide +kernel
theorem dX7_move_49 : decode cX7_move 49 = .ok (.ifCond .eq 9, 3) := by decide +kernel
theorem dX7_move_52 : decode cX7_move 52 = .ok (.aload_n 0, 1) := by decide +kernel
theorem dX7_move_53 : decode cX7_move 53 = .ok (.iconst 2, 1) := by decide +kernel
theorem dX7_move_54 : decode cX7_move 54 = .ok (.invokevirtual 61, 3) := by decide +kernel
theorem dX7_move_57 : decode cX7_move 57 = .ok (.ireturn, 1) := by decide +kernel
theorem dX7_move_58 : decode cX7_move 58 = .ok (.aload 6, 2) := by decide +kernel
theorem dX7_move_60 : decode cX7_move 60 = .ok (.getfield 275, 3) := by decide +kernel
theorem dX7_move_63 : decode cX7_move 63 = .ok (.aload 7, 2) := by decide +kernel
theorem dX7_move_65 : decode cX7_move 65 = .ok (.getfield 275, 3) := by decide +kernel
theorem dX7_move_68 : decode cX7_move 68 = .ok (.if_icmp .eq 9, 3) := by decide +kernel
theorem dX7_move_71 : decode cX7_move 71 = .ok (.aload_n 0, 1) := by decide +kernel
theorem dX7_move_72 : decode cX7_move 72 = .ok (.iconst 5, 1) := by decide +kernel
theorem dX7_move_73 : decode cX7_move 73 = .ok (.invokevirtual 61, 3) := by decide +kernel
theorem dX7_move_76 : decode cX7_move 76 = .ok (.ireturn, 1) := by decide +kernel
theorem dX7_move_77 : decode cX7_move 77 = .ok (.aload 6, 2) := by decide +kernel
theorem dX7_move_79 : decode cX7_move 79 = .ok (.iload_n 2, 1) := by decide +kernel
theorem dX7_move_80 : decode cX7_move 80 = .ok (.iload 5, 2) := by decide +kernel
theorem dX7_move_82 : decode cX7_move 82 = .ok (.invokevirtual 278, 3) := by decide +kernel
theorem dX7_move_85 : decode cX7_move 85 = .ok (.ifCond .eq 15, 3) := by decide +kernel
theorem dX7_move_88 : decode cX7_move 88 = .ok (.aload 7, 2) := by decide +kernel
theorem dX7_move_90 : decode cX7_move 90 = .ok (.iload 4, 2) := by decide +kernel
theorem dX7_move_92 : decode cX7_move 92 = .ok (.iload 5, 2) := by decide +kernel
theorem dX7_move_94 : decode cX7_move 94 = .ok (.invokevirtual 278, 3) := by decide +kernel
theorem dX7_move_97 : decode cX7_move 97 = .ok (.ifCond .ne 9, 3) := by decide +kernel
theorem dX7_move_100 : decode cX7_move 100 = .ok (.aload_n 0, 1) := by decide +kernel
theorem dX7_move_101 : decode cX7_move 101 = .ok (.iconst 1, 1) := by decide +kernel
theorem dX7_move_102 : decode cX7_move 102 = .ok (.invokevirtual 61, 3) := by decide +kernel
theorem dX7_move_105 : decode cX7_move 105 = .ok (.ireturn, 1) := by decide +kernel
theorem dX7_move_106 : decode cX7_move 106 = .ok (.aload 6, 2) := by decide +kernel
theorem dX7_move_108 : decode cX7_move 108 = .ok (.getfield 281, 3) := by decide +kernel
theorem dX7_move_111 : decode cX7_move 111 = .ok (.iload_n 2, 1) := by decide +kernel
theorem dX7_move_112 : decode cX7_move 112 = .ok (.aload 7, 2) := by decide +kernel
theorem dX7_move_114 : decode cX7_move 114 = .ok (.getfield 281, 3) := by decide +kernel
theorem dX7_move_117 : decode cX7_move 117 = .ok (.iload 4, 2) := by decide +kernel
theorem dX7_move_119 : decode cX7_move 119 = .ok (.iload 5, 2) := by decide +kernel
theorem dX7_move_121 : decode cX7_move 121 = .ok (.invokestatic 284, 3) := by decide +kernel
theorem dX7_move_124 : decode cX7_move 124 = .ok (.iload 5, 2) := by decide +kernel
theorem dX7_move_126 : decode cX7_move 126 = .ok (.ireturn, 1) := by decide +kernel
theorem dX7_parches_0 : decode cX7_parches 0 = .ok (.iload_n 1, 1) := by decide +kernel
theorem dX7_parches_1 : decode cX7_parches 1 = .ok (.invokestatic 242, 3) := by decide +kernel
theorem dX7_parches_4 : decode cX7_parches 4 = .ok (.ifCond .ne 9, 3) := by decide +kernel
theorem dX7_parches_7 : decode cX7_parches 7 = .ok (.aload_n 0, 1) := by decide +kernel
theorem dX7_parches_8 : decode cX7_parches 8 = .ok (.iconst 1, 1) := by decide +kernel
theorem dX7_parches_9 : decode cX7_parches 9 = .ok (.invokevirtual 61, 3) := by decide +kernel
theorem dX7_parches_12 : decode cX7_parches 12 = .ok (.ireturn, 1) := by decide +kernel
theorem dX7_parches_13 : decode cX7_parches 13 = .ok (.aload_n 0, 1) := by decide +kernel
theorem dX7_parches_14 : decode cX7_parches 14 = .ok (.getfield 44, 3) := by decide +kernel
theorem dX7_parches_17 : decode cX7_parches 17 = .ok (.iload_n 1, 1) := by decide +kernel
theorem dX7_parches_18 : decode cX7_parches 18 = .ok (.aaload, 1) := by decide +kernel
theorem dX7_parches_19 : decode cX7_parches 19 = .ok (.astore_n 2, 1) := by decide +kernel
theorem dX7_parches_20 : decode cX7_parches 20 = .ok (.aload_n 2, 1) := by decide +kernel
theorem dX7_parches_21 : decode cX7_parches 21 = .ok (.invokevirtual 245, 3) := by decide +kernel
theorem dX7_parches_24 : decode cX7_parches 24 = .ok (.ifCond .eq 9, 3) := by decide +kernel
theorem dX7_parches_27 : decode cX7_parches 27 = .ok (.aload_n 0, 1) := by decide +kernel
theorem dX7_parches_28 : decode cX7_parches 28 = .ok (.iconst 2, 1) := by decide +kernel
theorem dX7_parches_29 : decode cX7_parches 29 = .ok (.invokevirtual 61, 3) := by decide +kernel
theorem dX7_parches_32 : decode cX7_parches 32 = .ok (.ireturn, 1) := by decide +kernel
theorem dX7_parches_33 : decode cX7_parches 33 = .ok (.aload_n 2, 1) := by decide +kernel
theorem dX7_parches_34 : decode cX7_parches 34 = .ok (.getfield 269, 3) := by decide +kernel
theorem dX7_parches_37 : decode cX7_parches 37 = .ok (.aload_n 0, 1) := by decide +kernel
theorem dX7_parches_38 : decode cX7_parches 38 = .ok (.getfield 10, 3) := by decide +kernel
theorem dX7_parches_41 : decode cX7_parches 41 = .ok (.getfield 65, 3) := by decide +kernel
theorem dX7_parches_44 : decode cX7_parches 44 = .ok (.invokestatic 290, 3) := by decide +kernel
theorem dX7_parches_47 : decode cX7_parches 47 = .ok (.istore_n 3, 1) := by decide +kernel
theorem dX7_parches_48 : decode cX7_parches 48 = .ok (.iconst 0, 1) := by decide +kernel
theorem dX7_parches_49 : decode cX7_parches 49 = .ok (.istore 4, 2) := by decide +kernel
theorem dX7_parches_51 : decode cX7_parches 51 = .ok (.iload 4, 2) := by decide +kernel
theorem dX7_parches_53 : decode cX7_parches 53 = .ok (.iload_n 3, 1) := by decide +kernel
theorem dX7_parches_54 : decode cX7_parches 54 = .ok (.if_icmp .ge 45, 3) := by decide +kernel
theorem dX7_parches_57 : decode cX7_parches 57 = .ok (.aload_n 2, 1) := by decide +kernel
theorem dX7_parches_58 : decode cX7_parches 58 = .ok (.getfield 281, 3) := by decide +kernel
theorem dX7_parches_61 : decode cX7_parches 61 = .ok (.iload 4, 2) := by decide +kernel
theorem dX7_parches_63 : decode cX7_parches 63 = .ok (.iaload, 1) := by decide +kernel
theorem dX7_parches_64 : decode cX7_parches 64 = .ok (.iconst 0, 1) := by decide +kernel
theorem dX7_parches_65 : decode cX7_parches 65 = .ok (.bipush 99, 2) := by decide +kernel
theorem dX7_parches_67 : decode cX7_parches 67 = .ok (.invokestatic 57, 3) := by decide +kernel
theorem dX7_parches_70 : decode cX7_parches 70 = .ok (.ifCond .eq 29, 3) := by decide +kernel
theorem dX7_parches_73 : decode cX7_parches 73 = .ok (.aload_n 0, 1) := by decide +kernel
theorem dX7_parches_74 : decode cX7_parches 74 = .ok (.getfield 10, 3) := by decide +kernel
theorem dX7_parches_77 : decode cX7_parches 77 = .ok (.getfield 69, 3) := by decide +kernel
theorem dX7_parches_80 : decode cX7_parches 80 = .ok (.iload 4, 2) := by decide +kernel
theorem dX7_parches_82 : decode cX7_parches 82 = .ok (.aaload, 1) := by decide +kernel
theorem dX7_parches_83 : decode cX7_parches 83 = .ok (.aload_n 2, 1) := by decide +kernel
theorem dX7_parches_84 : decode cX7_parches 84 = .ok (.getfield 281, 3) := by decide +kernel
theorem dX7_parches_87 : decode cX7_parches 87 = .ok (.iload 4, 2) := by decide +kernel
theorem dX7_parches_89 : decode cX7_parches 89 = .ok (.iaload, 1) := by decide +kernel
theorem dX7_parches_90 : decode cX7_parches 90 = .ok (.putfield 94, 3) := by decide +kernel
theorem dX7_parches_93 : decode cX7_parches 93 = .ok (.iinc 4 1, 3) := by decide +kernel
theorem dX7_parches_96 : decode cX7_parches 96 = .ok (.goto (-45), 3) := by decide +kernel
theorem dX7_parches_99 : decode cX7_parches 99 = .ok (.iload 4, 2) := by decide +kernel
theorem dX7_parches_101 : decode cX7_parches 101 = .ok (.ireturn, 1) := by decide +kernel
theorem dX7_judge_0 : decode cX7_judge 0 = .ok (.iload_n 1, 1) := by decide +kernel
theorem dX7_judge_1 : decode cX7_judge 1 = .ok (.invokestatic 242, 3) := by decide +kernel
theorem dX7_judge_4 : decode cX7_judge 4 = .ok (.ifCond .ne 9, 3) := by decide +kernel
theorem dX7_judge_7 : decode cX7_judge 7 = .ok (.aload_n 0, 1) := by decide +kernel
theorem dX7_judge_8 : decode cX7_judge 8 = .ok (.iconst 1, 1) := by decide +kernel
theorem dX7_judge_9 : decode cX7_judge 9 = .ok (.invokevirtual 61, 3) := by decide +kernel
theorem dX7_judge_12 : decode cX7_judge 12 = .ok (.ireturn, 1) := by decide +kernel
theorem dX7_judge_13 : decode cX7_judge 13 = .ok (.aload_n 0, 1) := by decide +kernel
theorem dX7_judge_14 : decode cX7_judge 14 = .ok (.getfield 44, 3) := by decide +kernel
theorem dX7_judge_17 : decode cX7_judge 17 = .ok (.iload_n 1, 1) := by decide +kernel
theorem dX7_judge_18 : decode cX7_judge 18 = .ok (.aaload, 1) := by decide +kernel
theorem dX7_judge_19 : decode cX7_judge 19 = .ok (.astore_n 2, 1) := by decide +kernel
theorem dX7_judge_20 : decode cX7_judge 20 = .ok (.aload_n 2, 1) := by decide +kernel
theorem dX7_judge_21 : decode cX7_judge 21 = .ok (.invokevirtual 245, 3) := by decide +kernel
theorem dX7_judge_24 : decode cX7_judge 24 = .ok (.ifCond .eq 9, 3) := by decide +kernel
theorem dX7_judge_27 : decode cX7_judge 27 = .ok (.aload_n 0, 1) := by decide +kernel
theorem dX7_judge_28 : decode cX7_judge 28 = .ok (.iconst 2, 1) := by decide +kernel
theorem dX7_judge_29 : decode cX7_judge 29 = .ok (.invokevirtual 61, 3) := by decide +kernel
theorem dX7_judge_32 : decode cX7_judge 32 = .ok (.ireturn, 1) := by decide +kernel
theorem dX7_judge_33 : decode cX7_judge 33 = .ok (.aload_n 2, 1) := by decide +kernel
theorem dX7_judge_34 : decode cX7_judge 34 = .ok (.getfield 269, 3) := by decide +kernel
theorem dX7_judge_37 : decode cX7_judge 37 = .ok (.aload_n 0, 1) := by decide +kernel
theorem dX7_judge_38 : decode cX7_judge 38 = .ok (.getfield 10, 3) := by decide +kernel
theorem dX7_judge_41 : decode cX7_judge 41 = .ok (.getfield 65, 3) := by decide +kernel
theorem dX7_judge_44 : decode cX7_judge 44 = .ok (.invokestatic 290, 3) := by decide +kernel
theorem dX7_judge_47 : decode cX7_judge 47 = .ok (.istore_n 3, 1) := by decide +kernel
theorem dX7_judge_48 : decode cX7_judge 48 = .ok (.iconst 0, 1) := by decide +kernel
theorem dX7_judge_49 : decode cX7_judge 49 = .ok (.istore 4, 2) := by decide +kernel
theorem dX7_judge_51 : decode cX7_judge 51 = .ok (.iload 4, 2) := by decide +kernel
theorem dX7_judge_53 : decode cX7_judge 53 = .ok (.iload_n 3, 1) := by decide +kernel
theorem dX7_judge_54 : decode cX7_judge 54 = .ok (.if_icmp .ge 36, 3) := by decide +kernel
theorem dX7_judge_57 : decode cX7_judge 57 = .ok (.aload_n 2, 1) := by decide +kernel
theorem dX7_judge_58 : decode cX7_judge 58 = .ok (.getfield 281, 3) := by decide +kernel
theorem dX7_judge_61 : decode cX7_judge 61 = .ok (.iload 4, 2) := by decide +kernel
theorem dX7_judge_63 : decode cX7_judge 63 = .ok (.iaload, 1) := by decide +kernel
theorem dX7_judge_64 : decode cX7_judge 64 = .ok (.aload_n 0, 1) := by decide +kernel
theorem dX7_judge_65 : decode cX7_judge 65 = .ok (.getfield 10, 3) := by decide +kernel
theorem dX7_judge_68 : decode cX7_judge 68 = .ok (.aload_n 0, 1) := by decide +kernel
theorem dX7_judge_69 : decode cX7_judge 69 = .ok (.getfield 10, 3) := by decide +kernel
theorem dX7_judge_72 : decode cX7_judge 72 = .ok (.getfield 69, 3) := by decide +kernel
theorem dX7_judge_75 : decode cX7_judge 75 = .ok (.iload 4, 2) := by decide +kernel
theorem dX7_judge_77 : decode cX7_judge 77 = .ok (.aaload, 1) := by decide +kernel
theorem dX7_judge_78 : decode cX7_judge 78 = .ok (.invokevirtual 107, 3) := by decide +kernel
theorem dX7_judge_81 : decode cX7_judge 81 = .ok (.if_icmp .ne 9, 3) := by decide +kernel
theorem dX7_judge_84 : decode cX7_judge 84 = .ok (.iinc 4 1, 3) := by decide +kernel
theorem dX7_judge_87 : decode cX7_judge 87 = .ok (.goto (-36), 3) := by decide +kernel
theorem dX7_judge_90 : decode cX7_judge 90 = .ok (.iload 4, 2) := by decide +kernel
theorem dX7_judge_92 : decode cX7_judge 92 = .ok (.ireturn, 1) := by decide +kernel
theorem dX7_image_0 : decode cX7_image 0 = .ok (.aload_n 0, 1) := by decide +kernel
theorem dX7_image_1 : decode cX7_image 1 = .ok (.getfield 16, 3) := by decide +kernel
theorem dX7_image_4 : decode cX7_image 4 = .ok (.aload_n 0, 1) := by decide +kernel
theorem dX7_image_5 : decode cX7_image 5 = .ok (.getfield 10, 3) := by decide +kernel
theorem dX7_image_8 : decode cX7_image 8 = .ok (.invokevirtual 293, 3) := by decide +kernel
theorem dX7_image_11 : decode cX7_image 11 = .ok (.aload_n 0, 1) := by decide +kernel
theorem dX7_image_12 : decode cX7_image 12 = .ok (.dup, 1) := by decide +kernel
theorem dX7_image_13 : decode cX7_image 13 = .ok (.getfield 295, 3) := by decide +kernel
theorem dX7_image_16 : decode cX7_image 16 = .ok (.iconst 1, 1) := by decide +kernel
theorem dX7_image_17 : decode cX7_image 17 = .ok (.iadd, 1) := by decide +kernel
theorem dX7_image_18 : decode cX7_image 18 = .ok (.putfield 295, 3) := by decide +kernel
theorem dX7_image_21 : decode cX7_image 21 = .ok (.aload_n 0, 1) := by decide +kernel
theorem dX7_image_22 : decode cX7_image 22 = .ok (.getfield 295, 3) := by decide +kernel
theorem dX7_image_25 : decode cX7_image 25 = .ok (.ireturn, 1) := by decide +kernel
theorem dX7_restore_0 : decode cX7_restore 0 = .ok (.aload_n 0, 1) := by decide +kernel
theorem dX7_restore_1 : decode cX7_restore 1 = .ok (.getfield 295, 3) := by decide +kernel
theorem dX7_restore_4 : decode cX7_restore 4 = .ok (.ifCond .ne 9, 3) := by decide +kernel
theorem dX7_restore_7 : decode cX7_restore 7 = .ok (.aload_n 0, 1) := by decide +kernel
theorem dX7_restore_8 : decode cX7_restore 8 = .ok (.iconst 2, 1) := by decide +kernel
theorem dX7_restore_9 : decode cX7_restore 9 = .ok (.invokevirtual 61, 3) := by decide +kernel
theorem dX7_restore_12 : decode cX7_restore 12 = .ok (.ireturn, 1) := by decide +kernel
theorem dX7_restore_13 : decode cX7_restore 13 = .ok (.aload_n 0, 1) := by decide +kernel
theorem dX7_restore_14 : decode cX7_restore 14 = .ok (.getfield 10, 3) := by decide +kernel
theorem dX7_restore_17 : decode cX7_restore 17 = .ok (.aload_n 0, 1) := by decide +kernel
theorem dX7_restore_18 : decode cX7_restore 18 = .ok (.getfield 16, 3) := by decide +kernel
theorem dX7_restore_21 : decode cX7_restore 21 = .ok (.invokevirtual 293, 3) := by decide +kernel
theorem dX7_restore_24 : decode cX7_restore 24 = .ok (.aload_n 0, 1) := by decide +kernel
theorem dX7_restore_25 : decode cX7_restore 25 = .ok (.getfield 10, 3) := by decide +kernel
theorem dX7_restore_28 : decode cX7_restore 28 = .ok (.getfield 100, 3) := by decide +kernel
theorem dX7_restore_31 : decode cX7_restore 31 = .ok (.ireturn, 1) := by decide +kernel
theorem dX7_tell_0 : decode cX7_tell 0 = .ok (.aload_n 0, 1) := by decide +kernel
theorem dX7_tell_1 : decode cX7_tell 1 = .ok (.getfield 10, 3) := by decide +kernel
theorem dX7_tell_4 : decode cX7_tell 4 = .ok (.getfield 298, 3) := by decide +kernel
theorem dX7_tell_7 : decode cX7_tell 7 = .ok (.bipush 24, 2) := by decide +kernel
theorem dX7_tell_9 : decode cX7_tell 9 = .ok (.if_icmp .lt 9, 3) := by decide +kernel
theorem dX7_tell_12 : decode cX7_tell 12 = .ok (.aload_n 0, 1) := by decide +kernel
theorem dX7_tell_13 : decode cX7_tell 13 = .ok (.iconst 4, 1) := by decide +kernel
theorem dX7_tell_14 : decode cX7_tell 14 = .ok (.invokevirtual 61, 3) := by decide +kernel
theorem dX7_tell_17 : decode cX7_tell 17 = .ok (.ireturn, 1) := by decide +kernel
theorem dX7_tell_18 : decode cX7_tell 18 = .ok (.aload_n 0, 1) := by decide +kernel
theorem dX7_tell_19 : decode cX7_tell 19 = .ok (.getfield 10, 3) := by decide +kernel
theorem dX7_tell_22 : decode cX7_tell 22 = .ok (.getfield 301, 3) := by decide +kernel
theorem dX7_tell_25 : decode cX7_tell 25 = .ok (.aload_n 0, 1) := by decide +kernel
theorem dX7_tell_26 : decode cX7_tell 26 = .ok (.getfield 10, 3) := by decide +kernel
theorem dX7_tell_29 : decode cX7_tell 29 = .ok (.getfield 298, 3) := by decide +kernel
theorem dX7_tell_32 : decode cX7_tell 32 = .ok (.iload_n 1, 1) := by decide +kernel
theorem dX7_tell_33 : decode cX7_tell 33 = .ok (.iastore, 1) := by decide +kernel
theorem dX7_tell_34 : decode cX7_tell 34 = .ok (.aload_n 0, 1) := by decide +kernel
theorem dX7_tell_35 : decode cX7_tell 35 = .ok (.getfield 10, 3) := by decide +kernel
theorem dX7_tell_38 : decode cX7_tell 38 = .ok (.dup, 1) := by decide +kernel
theorem dX7_tell_39 : decode cX7_tell 39 = .ok (.getfield 298, 3) := by decide +kernel
theorem dX7_tell_42 : decode cX7_tell 42 = .ok (.iconst 1, 1) := by decide +kernel
theorem dX7_tell_43 : decode cX7_tell 43 = .ok (.iadd, 1) := by decide +kernel
theorem dX7_tell_44 : decode cX7_tell 44 = .ok (.putfield 298, 3) := by decide +kernel
theorem dX7_tell_47 : decode cX7_tell 47 = .ok (.aload_n 0, 1) := by decide +kernel
theorem dX7_tell_48 : decode cX7_tell 48 = .ok (.getfield 10, 3) := by decide +kernel
theorem dX7_tell_51 : decode cX7_tell 51 = .ok (.getfield 298, 3) := by decide +kernel
theorem dX7_tell_54 : decode cX7_tell 54 = .ok (.ireturn, 1) := by decide +kernel
theorem dX7_check_0 : decode cX7_check 0 = .ok (.aload_n 0, 1) := by decide +kernel
theorem dX7_check_1 : decode cX7_check 1 = .ok (.getfield 10, 3) := by decide +kernel
theorem dX7_check_4 : decode cX7_check 4 = .ok (.getfield 298, 3) := by decide +kernel
theorem dX7_check_7 : decode cX7_check 7 = .ok (.istore_n 1, 1) := by decide +kernel
theorem dX7_check_8 : decode cX7_check 8 = .ok (.aload_n 0, 1) := by decide +kernel
theorem dX7_check_9 : decode cX7_check 9 = .ok (.getfield 10, 3) := by decide +kernel
theorem dX7_check_12 : decode cX7_check 12 = .ok (.iconst 0, 1) := by decide +kernel
theorem dX7_check_13 : decode cX7_check 13 = .ok (.putfield 298, 3) := by decide +kernel
theorem dX7_check_16 : decode cX7_check 16 = .ok (.iconst 0, 1) := by decide +kernel
theorem dX7_check_17 : decode cX7_check 17 = .ok (.istore_n 2, 1) := by decide +kernel
theorem dX7_check_18 : decode cX7_check 18 = .ok (.iload_n 2, 1) := by decide +kernel
theorem dX7_check_19 : decode cX7_check 19 = .ok (.iload_n 1, 1) := by decide +kernel
theorem dX7_check_20 : decode cX7_check 20 = .ok (.if_icmp .ge 45, 3) := by decide +kernel
theorem dX7_check_23 : decode cX7_check 23 = .ok (.iload_n 2, 1) := by decide +kernel
theorem dX7_check_24 : decode cX7_check 24 = .ok (.aload_n 0, 1) := by decide +kernel
theorem dX7_check_25 : decode cX7_check 25 = .ok (.getfield 10, 3) := by decide +kernel
theorem dX7_check_28 : decode cX7_check 28 = .ok (.getfield 119, 3) := by decide +kernel
theorem dX7_check_31 : decode cX7_check 31 = .ok (.if_icmp .ge 24, 3) := by decide +kernel
theorem dX7_check_34 : decode cX7_check 34 = .ok (.aload_n 0, 1) := by decide +kernel
theorem dX7_check_35 : decode cX7_check 35 = .ok (.getfield 10, 3) := by decide +kernel
theorem dX7_check_38 : decode cX7_check 38 = .ok (.getfield 301, 3) := by decide +kernel
theorem dX7_check_41 : decode cX7_check 41 = .ok (.iload_n 2, 1) := by decide +kernel
theorem dX7_check_42 : decode cX7_check 42 = .ok (.iaload, 1) := by decide +kernel
theorem dX7_check_43 : decode cX7_check 43 = .ok (.aload_n 0, 1) := by decide +kernel
theorem dX7_check_44 : decode cX7_check 44 = .ok (.getfield 10, 3) := by decide +kernel
theorem dX7_check_47 : decode cX7_check 47 = .ok (.getfield 125, 3) := by decide +kernel
theorem dX7_check_50 : decode cX7_check 50 = .ok (.iload_n 2, 1) := by decide +kernel
theorem dX7_check_51 : decode cX7_check 51 = .ok (.iaload, 1) := by decide +kernel
theorem dX7_check_52 : decode cX7_check 52 = .ok (.if_icmp .eq 7, 3) := by decide +kernel
theorem dX7_check_55 : decode cX7_check 55 = .ok (.iconst 1, 1) := by decide +kernel
theorem dX7_check_56 : decode cX7_check 56 = .ok (.iload_n 2, 1) := by decide +kernel
theorem dX7_check_57 : decode cX7_check 57 = .ok (.iadd, 1) := by decide +kernel
theorem dX7_check_58 : decode cX7_check 58 = .ok (.ireturn, 1) := by decide +kernel
theorem dX7_check_59 : decode cX7_check 59 = .ok (.iinc 2 1, 3) := by decide +kernel
theorem dX7_check_62 : decode cX7_check 62 = .ok (.goto (-44), 3) := by decide +kernel
theorem dX7_check_65 : decode cX7_check 65 = .ok (.iconst 0, 1) := by decide +kernel
theorem dX7_check_66 : decode cX7_check 66 = .ok (.ireturn, 1) := by decide +kernel
theorem dX7_count_0 : decode cX7_count 0 = .ok (.iload_n 1, 1) := by decide +kernel
theorem dX7_count_1 : decode cX7_count 1 = .ok (.tableswitch 111 0 7 #[47, 55, 63, 71, 79, 87, 95, 103], 47) := by decide +kernel
theorem dX7_count_48 : decode cX7_count 48 = .ok (.aload_n 0, 1) := by decide +kernel
theorem dX7_count_49 : decode cX7_count 49 = .ok (.getfield 10, 3) := by decide +kernel
theorem dX7_count_52 : decode cX7_count 52 = .ok (.getfield 65, 3) := by decide +kernel
theorem dX7_count_55 : decode cX7_count 55 = .ok (.ireturn, 1) := by decide +kernel
theorem dX7_count_56 : decode cX7_count 56 = .ok (.aload_n 0, 1) := by decide +kernel
theorem dX7_count_57 : decode cX7_count 57 = .ok (.getfield 10, 3) := by decide +kernel
theorem dX7_count_60 : decode cX7_count 60 = .ok (.getfield 119, 3) := by decide +kernel
theorem dX7_count_63 : decode cX7_count 63 = .ok (.ireturn, 1) := by decide +kernel
theorem dX7_count_64 : decode cX7_count 64 = .ok (.aload_n 0, 1) := by decide +kernel
theorem dX7_count_65 : decode cX7_count 65 = .ok (.getfield 10, 3) := by decide +kernel
theorem dX7_count_68 : decode cX7_count 68 = .ok (.getfield 100, 3) := by decide +kernel
theorem dX7_count_71 : decode cX7_count 71 = .ok (.ireturn, 1) := by decide +kernel
theorem dX7_count_72 : decode cX7_count 72 = .ok (.aload_n 0, 1) := by decide +kernel
theorem dX7_count_73 : decode cX7_count 73 = .ok (.getfield 10, 3) := by decide +kernel
theorem dX7_count_76 : decode cX7_count 76 = .ok (.getfield 194, 3) := by decide +kernel
theorem dX7_count_79 : decode cX7_count 79 = .ok (.ireturn, 1) := by decide +kernel
theorem dX7_count_80 : decode cX7_count 80 = .ok (.aload_n 0, 1) := by decide +kernel
theorem dX7_count_81 : decode cX7_count 81 = .ok (.getfield 10, 3) := by decide +kernel
theorem dX7_count_84 : decode cX7_count 84 = .ok (.getfield 148, 3) := by decide +kernel
theorem dX7_count_87 : decode cX7_count 87 = .ok (.ireturn, 1) := by decide +kernel
theorem dX7_count_88 : decode cX7_count 88 = .ok (.aload_n 0, 1) := by decide +kernel
theorem dX7_count_89 : decode cX7_count 89 = .ok (.getfield 10, 3) := by decide +kernel
theorem dX7_count_92 : decode cX7_count 92 = .ok (.getfield 298, 3) := by decide +kernel
theorem dX7_count_95 : decode cX7_count 95 = .ok (.ireturn, 1) := by decide +kernel
theorem dX7_count_96 : decode cX7_count 96 = .ok (.aload_n 0, 1) := by decide +kernel
theorem dX7_count_97 : decode cX7_count 97 = .ok (.getfield 38, 3) := by decide +kernel
theorem dX7_count_100 : decode cX7_count 100 = .ok (.getfield 260, 3) := by decide +kernel
theorem dX7_count_103 : decode cX7_count 103 = .ok (.ireturn, 1) := by decide +kernel
theorem dX7_count_104 : decode cX7_count 104 = .ok (.aload_n 0, 1) := by decide +kernel
theorem dX7_count_105 : decode cX7_count 105 = .ok (.getfield 10, 3) := by decide +kernel
theorem dX7_count_108 : decode cX7_count 108 = .ok (.getfield 200, 3) := by decide +kernel
theorem dX7_count_111 : decode cX7_count 111 = .ok (.ireturn, 1) := by decide +kernel
theorem dX7_count_112 : decode cX7_count 112 = .ok (.aload_n 0, 1) := by decide +kernel
theorem dX7_count_113 : decode cX7_count 113 = .ok (.iconst 1, 1) := by decide +kernel
theorem dX7_count_114 : decode cX7_count 114 = .ok (.invokevirtual 61, 3) := by decide +kernel
theorem dX7_count_117 : decode cX7_count 117 = .ok (.ireturn, 1) := by decide +kernel
theorem dX7_told_0 : decode cX7_told 0 = .ok (.iload_n 1, 1) := by decide +kernel
theorem dX7_told_1 : decode cX7_told 1 = .ok (.iconst 1, 1) := by decide +kernel
theorem dX7_told_2 : decode cX7_told 2 = .ok (.bipush 6, 2) := by decide +kernel
theorem dX7_told_4 : decode cX7_told 4 = .ok (.invokestatic 57, 3) := by decide +kernel
theorem dX7_told_7 : decode cX7_told 7 = .ok (.ifCond .eq 12, 3) := by decide +kernel
theorem dX7_told_10 : decode cX7_told 10 = .ok (.aload_n 0, 1) := by decide +kernel
theorem dX7_told_11 : decode cX7_told 11 = .ok (.getfield 48, 3) := by decide +kernel
theorem dX7_told_14 : decode cX7_told 14 = .ok (.iload_n 1, 1) := by decide +kernel
theorem dX7_told_15 : decode cX7_told 15 = .ok (.iaload, 1) := by decide +kernel
theorem dX7_told_16 : decode cX7_told 16 = .ok (.goto 8, 3) := by decide +kernel
theorem dX7_told_19 : decode cX7_told 19 = .ok (.aload_n 0, 1) := by decide +kernel
theorem dX7_told_20 : decode cX7_told 20 = .ok (.iconst 1, 1) := by decide +kernel
theorem dX7_told_21 : decode cX7_told 21 = .ok (.invokevirtual 61, 3) := by decide +kernel
theorem dX7_told_24 : decode cX7_told 24 = .ok (.ireturn, 1) := by decide +kernel
theorem dX7_refuse_0 : decode cX7_refuse 0 = .ok (.iload_n 1, 1) := by decide +kernel
theorem dX7_refuse_1 : decode cX7_refuse 1 = .ok (.iconst 1, 1) := by decide +kernel
theorem dX7_refuse_2 : decode cX7_refuse 2 = .ok (.bipush 6, 2) := by decide +kernel
theorem dX7_refuse_4 : decode cX7_refuse 4 = .ok (.invokestatic 57, 3) := by decide +kernel
theorem dX7_refuse_7 : decode cX7_refuse 7 = .ok (.ifCond .eq 13, 3) := by decide +kernel
theorem dX7_refuse_10 : decode cX7_refuse 10 = .ok (.aload_n 0, 1) := by decide +kernel
theorem dX7_refuse_11 : decode cX7_refuse 11 = .ok (.getfield 48, 3) := by decide +kernel
theorem dX7_refuse_14 : decode cX7_refuse 14 = .ok (.iload_n 1, 1) := by decide +kernel
theorem dX7_refuse_15 : decode cX7_refuse 15 = .ok (.dup2, 1) := by decide +kernel
theorem dX7_refuse_16 : decode cX7_refuse 16 = .ok (.iaload, 1) := by decide +kernel
theorem dX7_refuse_17 : decode cX7_refuse 17 = .ok (.iconst 1, 1) := by decide +kernel
theorem dX7_refuse_18 : decode cX7_refuse 18 = .ok (.iadd, 1) := by decide +kernel
theorem dX7_refuse_19 : decode cX7_refuse 19 = .ok (.iastore, 1) := by decide +kernel
theorem dX7_refuse_20 : decode cX7_refuse 20 = .ok (.ldc_w 304, 3) := by decide +kernel
theorem dX7_refuse_23 : decode cX7_refuse 23 = .ok (.iload_n 1, 1) := by decide +kernel
theorem dX7_refuse_24 : decode cX7_refuse 24 = .ok (.isub, 1) := by decide +kernel
theorem dX7_refuse_25 : decode cX7_refuse 25 = .ok (.ireturn, 1) := by decide +kernel
theorem dX7_isFarm_0 : decode cX7_isFarm 0 = .ok (.iload_n 1, 1) := by decide +kernel
theorem dX7_isFarm_1 : decode cX7_isFarm 1 = .ok (.iconst 0, 1) := by decide +kernel
theorem dX7_isFarm_2 : decode cX7_isFarm 2 = .ok (.aload_n 0, 1) := by decide +kernel
theorem dX7_isFarm_3 : decode cX7_isFarm 3 = .ok (.getfield 10, 3) := by decide +kernel
theorem dX7_isFarm_6 : decode cX7_isFarm 6 = .ok (.getfield 65, 3) := by decide +kernel
theorem dX7_isFarm_9 : decode cX7_isFarm 9 = .ok (.iconst 1, 1) := by decide +kernel
theorem dX7_isFarm_10 : decode cX7_isFarm 10 = .ok (.isub, 1) := by decide +kernel
theorem dX7_isFarm_11 : decode cX7_isFarm 11 = .ok (.invokestatic 57, 3) := by decide +kernel
theorem dX7_isFarm_14 : decode cX7_isFarm 14 = .ok (.ireturn, 1) := by decide +kernel
theorem dX7_isCarrier_0 : decode cX7_isCarrier 0 = .ok (.iload_n 1, 1) := by decide +kernel
theorem dX7_isCarrier_1 : decode cX7_isCarrier 1 = .ok (.iconst 0, 1) := by decide +kernel
theorem dX7_isCarrier_2 : decode cX7_isCarrier 2 = .ok (.aload_n 0, 1) := by decide +kernel
theorem dX7_isCarrier_3 : decode cX7_isCarrier 3 = .ok (.getfield 10, 3) := by decide +kernel
theorem dX7_isCarrier_6 : decode cX7_isCarrier 6 = .ok (.getfield 119, 3) := by decide +kernel
theorem dX7_isCarrier_9 : decode cX7_isCarrier 9 = .ok (.iconst 1, 1) := by decide +kernel
theorem dX7_isCarrier_10 : decode cX7_isCarrier 10 = .ok (.isub, 1) := by decide +kernel
theorem dX7_isCarrier_11 : decode cX7_isCarrier 11 = .ok (.invokestatic 57, 3) := by decide +kernel
theorem dX7_isCarrier_14 : decode cX7_isCarrier 14 = .ok (.ireturn, 1) := by decide +kernel
theorem dX7_isPool_0 : decode cX7_isPool 0 = .ok (.iload_n 0, 1) := by decide +kernel
theorem dX7_isPool_1 : decode cX7_isPool 1 = .ok (.iconst 0, 1) := by decide +kernel
theorem dX7_isPool_2 : decode cX7_isPool 2 = .ok (.iconst 2, 1) := by decide +kernel
theorem dX7_isPool_3 : decode cX7_isPool 3 = .ok (.invokestatic 57, 3) := by decide +kernel
theorem dX7_isPool_6 : decode cX7_isPool 6 = .ok (.ireturn, 1) := by decide +kernel
theorem dX7_isSheet_0 : decode cX7_isSheet 0 = .ok (.iload_n 0, 1) := by decide +kernel
theorem dX7_isSheet_1 : decode cX7_isSheet 1 = .ok (.iconst 0, 1) := by decide +kernel
theorem dX7_isSheet_2 : decode cX7_isSheet 2 = .ok (.iconst 3, 1) := by decide +kernel
theorem dX7_isSheet_3 : decode cX7_isSheet 3 = .ok (.invokestatic 57, 3) := by decide +kernel
theorem dX7_isSheet_6 : decode cX7_isSheet 6 = .ok (.ireturn, 1) := by decide +kernel
theorem dX7_isUse_0 : decode cX7_isUse 0 = .ok (.iload_n 0, 1) := by decide +kernel
theorem dX7_isUse_1 : decode cX7_isUse 1 = .ok (.ifCond .eq 8, 3) := by decide +kernel
theorem dX7_isUse_4 : decode cX7_isUse 4 = .ok (.iload_n 0, 1) := by decide +kernel
theorem dX7_isUse_5 : decode cX7_isUse 5 = .ok (.iconst 1, 1) := by decide +kernel
theorem dX7_isUse_6 : decode cX7_isUse 6 = .ok (.if_icmp .ne 7, 3) := by decide +kernel
theorem dX7_isUse_9 : decode cX7_isUse 9 = .ok (.iconst 1, 1) := by decide +kernel
theorem dX7_isUse_10 : decode cX7_isUse 10 = .ok (.goto 4, 3) := by decide +kernel
theorem dX7_isUse_13 : decode cX7_isUse 13 = .ok (.iconst 0, 1) := by decide +kernel
theorem dX7_isUse_14 : decode cX7_isUse 14 = .ok (.ireturn, 1) := by decide +kernel
theorem dX7_isKindAndM_0 : decode cX7_isKindAndM 0 = .ok (.iload_n 0, 1) := by decide +kernel
theorem dX7_isKindAndM_1 : decode cX7_isKindAndM 1 = .ok (.iconst 0, 1) := by decide +kernel
theorem dX7_isKindAndM_2 : decode cX7_isKindAndM 2 = .ok (.bipush 69, 2) := by decide +kernel
theorem dX7_isKindAndM_4 : decode cX7_isKindAndM 4 = .ok (.invokestatic 57, 3) := by decide +kernel
theorem dX7_isKindAndM_7 : decode cX7_isKindAndM 7 = .ok (.ireturn, 1) := by decide +kernel
theorem dX7_within_0 : decode cX7_within 0 = .ok (.iload_n 0, 1) := by decide +kernel
theorem dX7_within_1 : decode cX7_within 1 = .ok (.iload_n 1, 1) := by decide +kernel
theorem dX7_within_2 : decode cX7_within 2 = .ok (.if_icmp .lt 12, 3) := by decide +kernel
theorem dX7_within_5 : decode cX7_within 5 = .ok (.iload_n 0, 1) := by decide +kernel
theorem dX7_within_6 : decode cX7_within 6 = .ok (.iload_n 2, 1) := by decide +kernel
theorem dX7_within_7 : decode cX7_within 7 = .ok (.if_icmp .gt 7, 3) := by decide +kernel
theorem dX7_within_10 : decode cX7_within 10 = .ok (.iconst 1, 1) := by decide +kernel
theorem dX7_within_11 : decode cX7_within 11 = .ok (.goto 4, 3) := by decide +kernel
theorem dX7_within_14 : decode cX7_within 14 = .ok (.iconst 0, 1) := by decide +kernel
theorem dX7_within_15 : decode cX7_within 15 = .ok (.ireturn, 1) := by decide +kernel
theorem dX7_kindAbove_0 : decode cX7_kindAbove 0 = .ok (.iload_n 0, 1) := by decide +kernel
theorem dX7_kindAbove_1 : decode cX7_kindAbove 1 = .ok (.iconst 0, 1) := by decide +kernel
theorem dX7_kindAbove_2 : decode cX7_kindAbove 2 = .ok (.bipush 6, 2) := by decide +kernel
theorem dX7_kindAbove_4 : decode cX7_kindAbove 4 = .ok (.invokestatic 57, 3) := by decide +kernel
theorem dX7_kindAbove_7 : decode cX7_kindAbove 7 = .ok (.ifCond .eq 11, 3) := by decide +kernel
theorem dX7_kindAbove_10 : decode cX7_kindAbove 10 = .ok (.getstatic 305, 3) := by decide +kernel
theorem dX7_kindAbove_13 : decode cX7_kindAbove 13 = .ok (.iload_n 0, 1) := by decide +kernel
theorem dX7_kindAbove_14 : decode cX7_kindAbove 14 = .ok (.iaload, 1) := by decide +kernel
theorem dX7_kindAbove_15 : decode cX7_kindAbove 15 = .ok (.goto 4, 3) := by decide +kernel
theorem dX7_kindAbove_18 : decode cX7_kindAbove 18 = .ok (.iconst (-1), 1) := by decide +kernel
theorem dX7_kindAbove_19 : decode cX7_kindAbove 19 = .ok (.ireturn, 1) := by decide +kernel
theorem dX7_isOrUnder_0 : decode cX7_isOrUnder 0 = .ok (.iload_n 0, 1) := by decide +kernel
theorem dX7_isOrUnder_1 : decode cX7_isOrUnder 1 = .ok (.istore_n 2, 1) := by decide +kernel
theorem dX7_isOrUnder_2 : decode cX7_isOrUnder 2 = .ok (.iconst 0, 1) := by decide +kernel
theorem dX7_isOrUnder_3 : decode cX7_isOrUnder 3 = .ok (.istore_n 3, 1) := by decide +kernel
theorem dX7_isOrUnder_4 : decode cX7_isOrUnder 4 = .ok (.iload_n 3, 1) := by decide +kernel
theorem dX7_isOrUnder_5 : decode cX7_isOrUnder 5 = .ok (.bipush 7, 2) := by decide +kernel
theorem dX7_isOrUnder_7 : decode cX7_isOrUnder 7 = .ok (.if_icmp .ge 25, 3) := by decide +kernel
theorem dX7_isOrUnder_10 : decode cX7_isOrUnder 10 = .ok (.iload_n 2, 1) := by decide +kernel
theorem dX7_isOrUnder_11 : decode cX7_isOrUnder 11 = .ok (.ifCond .lt 21, 3) := by decide +kernel
theorem dX7_isOrUnder_14 : decode cX7_isOrUnder 14 = .ok (.iload_n 2, 1) := by decide +kernel
theorem dX7_isOrUnder_15 : decode cX7_isOrUnder 15 = .ok (.iload_n 1, 1) := by decide +kernel
theorem dX7_isOrUnder_16 : decode cX7_isOrUnder 16 = .ok (.if_icmp .ne 5, 3) := by decide +kernel
theorem dX7_isOrUnder_19 : decode cX7_isOrUnder 19 = .ok (.iconst 1, 1) := by decide +kernel
theorem dX7_isOrUnder_20 : decode cX7_isOrUnder 20 = .ok (.ireturn, 1) := by decide +kernel
theorem dX7_isOrUnder_21 : decode cX7_isOrUnder 21 = .ok (.iload_n 2, 1) := by decide +kernel
theorem dX7_isOrUnder_22 : decode cX7_isOrUnder 22 = .ok (.invokestatic 308, 3) := by decide +kernel
theorem dX7_isOrUnder_25 : decode cX7_isOrUnder 25 = .ok (.istore_n 2, 1) := by decide +kernel
theorem dX7_isOrUnder_26 : decode cX7_isOrUnder 26 = .ok (.iinc 3 1, 3) := by decide +kernel
theorem dX7_isOrUnder_29 : decode cX7_isOrUnder 29 = .ok (.goto (-25), 3) := by decide +kernel
theorem dX7_isOrUnder_32 : decode cX7_isOrUnder 32 = .ok (.iconst 0, 1) := by decide +kernel
theorem dX7_isOrUnder_33 : decode cX7_isOrUnder 33 = .ok (.ireturn, 1) := by decide +kernel
theorem dX7_namesOf_0 : decode cX7_namesOf 0 = .ok (.iload_n 0, 1) := by decide +kernel
theorem dX7_namesOf_1 : decode cX7_namesOf 1 = .ok (.ifCond .ne 9, 3) := by decide +kernel
theorem dX7_namesOf_4 : decode cX7_namesOf 4 = .ok (.ldc_w 311, 3) := by decide +kernel
theorem dX7_namesOf_7 : decode cX7_namesOf 7 = .ok (.goto 6, 3) := by decide +kernel
theorem dX7_namesOf_10 : decode cX7_namesOf 10 = .ok (.ldc_w 313, 3) := by decide +kernel
theorem dX7_namesOf_13 : decode cX7_namesOf 13 = .ok (.areturn, 1) := by decide +kernel
theorem dX7_commonDivisor_0 : decode cX7_commonDivisor 0 = .ok (.iload_n 0, 1) := by decide +kernel
theorem dX7_commonDivisor_1 : decode cX7_commonDivisor 1 = .ok (.istore_n 2, 1) := by decide +kernel
theorem dX7_commonDivisor_2 : decode cX7_commonDivisor 2 = .ok (.iload_n 1, 1) := by decide +kernel
theorem dX7_commonDivisor_3 : decode cX7_commonDivisor 3 = .ok (.istore_n 3, 1) := by decide +kernel
theorem dX7_commonDivisor_4 : decode cX7_commonDivisor 4 = .ok (.iconst 0, 1) := by decide +kernel
theorem dX7_commonDivisor_5 : decode cX7_commonDivisor 5 = .ok (.istore 4, 2) := by decide +kernel
theorem dX7_commonDivisor_7 : decode cX7_commonDivisor 7 = .ok (.iload 4, 2) := by decide +kernel
theorem dX7_commonDivisor_9 : decode cX7_commonDivisor 9 = .ok (.bipush 100, 2) := by decide +kernel
theorem dX7_commonDivisor_11 : decode cX7_commonDivisor 11 = .ok (.if_icmp .ge 23, 3) := by decide +kernel
theorem dX7_commonDivisor_14 : decode cX7_commonDivisor 14 = .ok (.iload_n 3, 1) := by decide +kernel
theorem dX7_commonDivisor_15 : decode cX7_commonDivisor 15 = .ok (.ifCond .le 19, 3) := by decide +kernel
theorem dX7_commonDivisor_18 : decode cX7_commonDivisor 18 = .ok (.iload_n 2, 1) := by decide +kernel
theorem dX7_commonDivisor_19 : decode cX7_commonDivisor 19 = .ok (.iload_n 3, 1) := by decide +kernel
theorem dX7_commonDivisor_20 : decode cX7_commonDivisor 20 = .ok (.irem, 1) := by decide +kernel
theorem dX7_commonDivisor_21 : decode cX7_commonDivisor 21 = .ok (.istore 5, 2) := by decide +kernel
theorem dX7_commonDivisor_23 : decode cX7_commonDivisor 23 = .ok (.iload_n 3, 1) := by decide +kernel
theorem dX7_commonDivisor_24 : decode cX7_commonDivisor 24 = .ok (.istore_n 2, 1) := by decide +kernel
theorem dX7_commonDivisor_25 : decode cX7_commonDivisor 25 = .ok (.iload 5, 2) := by decide +kernel
theorem dX7_commonDivisor_27 : decode cX7_commonDivisor 27 = .ok (.istore_n 3, 1) := by decide +kernel
theorem dX7_commonDivisor_28 : decode cX7_commonDivisor 28 = .ok (.iinc 4 1, 3) := by decide +kernel
theorem dX7_commonDivisor_31 : decode cX7_commonDivisor 31 = .ok (.goto (-24), 3) := by decide +kernel
theorem dX7_commonDivisor_34 : decode cX7_commonDivisor 34 = .ok (.iload_n 2, 1) := by decide +kernel
theorem dX7_commonDivisor_35 : decode cX7_commonDivisor 35 = .ok (.ireturn, 1) := by decide +kernel
end
section
theorem dX8_init_0 : decode cX8_init 0 = .ok (.aload_n 0, 1) := by decide +kernel
theorem dX8_init_1 : decode cX8_init 1 = .ok (.invokespecial 1, 3) := by decide +kernel
theorem dX8_init_4 : decode cX8_init 4 = .ok (.aload_n 0, 1) := by decide +kernel
theorem dX8_init_5 : decode cX8_init 5 = .ok (.sipush 394, 3) := by decide +kernel
theorem dX8_init_8 : decode cX8_init 8 = .ok (.newarray .int, 2) := by decide +kernel
theorem dX8_init_10 : decode cX8_init 10 = .ok (.putfield 7, 3) := by decide +kernel
theorem dX8_init_13 : decode cX8_init 13 = .ok (.aload_n 0, 1) := by decide +kernel
theorem dX8_init_14 : decode cX8_init 14 = .ok (.sipush 394, 3) := by decide +kernel
theorem dX8_init_17 : decode cX8_init 17 = .ok (.newarray .int, 2) := by decide +kernel
theorem dX8_init_19 : decode cX8_init 19 = .ok (.putfield 13, 3) := by decide +kernel
theorem dX8_init_22 : decode cX8_init 22 = .ok (.aload_n 0, 1) := by decide +kernel
theorem dX8_init_23 : decode cX8_init 23 = .ok (.bipush 60, 2) := by decide +kernel
theorem dX8_init_25 : decode cX8_init 25 = .ok (.newarray .int, 2) := by decide +kernel
theorem dX8_init_27 : decode cX8_init 27 = .ok (.putfield 16, 3) := by decide +kernel
theorem dX8_init_30 : decode cX8_init 30 = .ok (.aload_n 0, 1) := by decide +kernel
theorem dX8_init_31 : decode cX8_init 31 = .ok (.bipush 7, 2) := by decide +kernel
theorem dX8_init_33 : decode cX8_init 33 = .ok (.newarray .int, 2) := by decide +kernel
theorem dX8_init_35 : decode cX8_init 35 = .ok (.putfield 19, 3) := by decide +kernel
theorem dX8_init_38 : decode cX8_init 38 = .ok (.aload_n 0, 1) := by decide +kernel
theorem dX8_init_39 : decode cX8_init 39 = .ok (.bipush 124, 2) := by decide +kernel
theorem dX8_init_41 : decode cX8_init 41 = .ok (.newarray .int, 2) := by decide +kernel
theorem dX8_init_43 : decode cX8_init 43 = .ok (.putfield 22, 3) := by decide +kernel
theorem dX8_init_46 : decode cX8_init 46 = .ok (.aload_n 0, 1) := by decide +kernel
theorem dX8_init_47 : decode cX8_init 47 = .ok (.sipush 128, 3) := by decide +kernel
theorem dX8_init_50 : decode cX8_init 50 = .ok (.newarray .int, 2) := by decide +kernel
theorem dX8_init_52 : decode cX8_init 52 = .ok (.putfield 25, 3) := by decide +kernel
theorem dX8_init_55 : decode cX8_init 55 = .ok (.aload_n 0, 1) := by decide +kernel
theorem dX8_init_56 : decode cX8_init 56 = .ok (.bipush 64, 2) := by decide +kernel
theorem dX8_init_58 : decode cX8_init 58 = .ok (.newarray .int, 2) := by decide +kernel
theorem dX8_init_60 : decode cX8_init 60 = .ok (.putfield 28, 3) := by decide +kernel
theorem dX8_init_63 : decode cX8_init 63 = .ok (.aload_n 0, 1) := by decide +kernel
theorem dX8_init_64 : decode cX8_init 64 = .ok (.bipush 7, 2) := by decide +kernel
theorem dX8_init_66 : decode cX8_init 66 = .ok (.newarray .int, 2) := by decide +kernel
theorem dX8_init_68 : decode cX8_init 68 = .ok (.putfield 31, 3) := by decide +kernel
theorem dX8_init_71 : decode cX8_init 71 = .ok (.aload_n 0, 1) := by decide +kernel
theorem dX8_init_72 : decode cX8_init 72 = .ok (.bipush 7, 2) := by decide +kernel
theorem dX8_init_74 : decode cX8_init 74 = .ok (.newarray .int, 2) := by decide +kernel
theorem dX8_init_76 : decode cX8_init 76 = .ok (.putfield 34, 3) := by decide +kernel
theorem dX8_init_79 : decode cX8_init 79 = .ok (.aload_n 0, 1) := by decide +kernel
theorem dX8_init_80 : decode cX8_init 80 = .ok (.bipush 7, 2) := by decide +kernel
theorem dX8_init_82 : decode cX8_init 82 = .ok (.newarray .int, 2) := by decide +kernel
theorem dX8_init_84 : decode cX8_init 84 = .ok (.putfield 37, 3) := by decide +kernel
theorem dX8_init_87 : decode cX8_init 87 = .ok (.aload_n 0, 1) := by decide +kernel
theorem dX8_init_88 : decode cX8_init 88 = .ok (.iconst 4, 1) := by decide +kernel
theorem dX8_init_89 : decode cX8_init 89 = .ok (.newarray .int, 2) := by decide +kernel
theorem dX8_init_91 : decode cX8_init 91 = .ok (.putfield 40, 3) := by decide +kernel
theorem dX8_init_94 : decode cX8_init 94 = .ok (.aload_n 0, 1) := by decide +kernel
theorem dX8_init_95 : decode cX8_init 95 = .ok (.bipush 30, 2) := by decide +kernel
theorem dX8_init_97 : decode cX8_init 97 = .ok (.newarray .int, 2) := by decide +kernel
theorem dX8_init_99 : decode cX8_init 99 = .ok (.putfield 43, 3) := by decide +kernel
theorem dX8_init_102 : decode cX8_init 102 = .ok (.aload_n 0, 1) := by decide +kernel
theorem dX8_init_103 : decode cX8_init 103 = .ok (.iconst 4, 1) := by decide +kernel
theorem dX8_init_104 : decode cX8_init 104 = .ok (.newarray .int, 2) := by decide +kernel
theorem dX8_init_106 : decode cX8_init 106 = .ok (.putfield 46, 3) := by decide +kernel
theorem dX8_init_109 : decode cX8_init 109 = .ok (.aload_n 0, 1) := by decide +kernel
theorem dX8_init_110 : decode cX8_init 110 = .ok (.iconst 4, 1) := by decide +kernel
theorem dX8_init_111 : decode cX8_init 111 = .ok (.newarray .int, 2) := by decide +kernel
theorem dX8_init_113 : decode cX8_init 113 = .ok (.putfield 49, 3) := by decide +kernel
theorem dX8_init_116 : decode cX8_init 116 = .ok (.aload_n 0, 1) := by decide +kernel
theorem dX8_init_117 : decode cX8_init 117 = .ok (.bipush 96, 2) := by decide +kernel
theorem dX8_init_119 : decode cX8_init 119 = .ok (.newarray .int, 2) := by decide +kernel
theorem dX8_init_121 : decode cX8_init 121 = .ok (.putfield 52, 3) := by decide +kernel
theorem dX8_init_124 : decode cX8_init 124 = .ok (.aload_n 0, 1) := by decide +kernel
theorem dX8_init_125 : decode cX8_init 125 = .ok (.bipush 24, 2) := by decide +kernel
theorem dX8_init_127 : decode cX8_init 127 = .ok (.newarray .int, 2) := by decide +kernel
theorem dX8_init_129 : decode cX8_init 129 = .ok (.putfield 55, 3) := by decide +kernel
theorem dX8_init_132 : decode cX8_init 132 = .ok (.aload_n 0, 1) := by decide +kernel
theorem dX8_init_133 : decode cX8_init 133 = .ok (.getfield 7, 3) := by decide +kernel
theorem dX8_init_136 : decode cX8_init 136 = .ok (.iconst 2, 1) := by decide +kernel
theorem dX8_init_137 : decode cX8_init 137 = .ok (.iconst 1, 1) := by decide +kernel
theorem dX8_init_138 : decode cX8_init 138 = .ok (.iastore, 1) := by decide +kernel
theorem dX8_init_139 : decode cX8_init 139 = .ok (.return_, 1) := by decide +kernel
theorem dX8_error_0 : decode cX8_error 0 = .ok (.aload_n 0, 1) := by decide +kernel
theorem dX8_error_1 : decode cX8_error 1 = .ok (.getfield 19, 3) := by decide +kernel
theorem dX8_error_4 : decode cX8_error 4 = .ok (.iload_n 1, 1) := by decide +kernel
theorem dX8_error_5 : decode cX8_error 5 = .ok (.dup2, 1) := by decide +kernel
theorem dX8_error_6 : decode cX8_error 6 = .ok (.iaload, 1) := by decide +kernel
theorem dX8_error_7 : decode cX8_error 7 = .ok (.iconst 1, 1) := by decide +kernel
theorem dX8_error_8 : decode cX8_error 8 = .ok (.iadd, 1) := by decide +kernel
theorem dX8_error_9 : decode cX8_error 9 = .ok (.iastore, 1) := by decide +kernel
theorem dX8_error_10 : decode cX8_error 10 = .ok (.ldc 58, 2) := by decide +kernel
theorem dX8_error_12 : decode cX8_error 12 = .ok (.iload_n 1, 1) := by decide +kernel
theorem dX8_error_13 : decode cX8_error 13 = .ok (.isub, 1) := by decide +kernel
theorem dX8_error_14 : decode cX8_error 14 = .ok (.ireturn, 1) := by decide +kernel
theorem dX8_in_0 : decode cX8_in 0 = .ok (.iload_n 0, 1) := by decide +kernel
theorem dX8_in_1 : decode cX8_in 1 = .ok (.iload_n 1, 1) := by decide +kernel
theorem dX8_in_2 : decode cX8_in 2 = .ok (.if_icmp .lt 12, 3) := by decide +kernel
theorem dX8_in_5 : decode cX8_in 5 = .ok (.iload_n 0, 1) := by decide +kernel
theorem dX8_in_6 : decode cX8_in 6 = .ok (.iload_n 2, 1) := by decide +kernel
theorem dX8_in_7 : decode cX8_in 7 = .ok (.if_icmp .gt 7, 3) := by decide +kernel
theorem dX8_in_10 : decode cX8_in 10 = .ok (.iconst 1, 1) := by decide +kernel
theorem dX8_in_11 : decode cX8_in 11 = .ok (.goto 4, 3) := by decide +kernel
theorem dX8_in_14 : decode cX8_in 14 = .ok (.iconst 0, 1) := by decide +kernel
theorem dX8_in_15 : decode cX8_in 15 = .ok (.ireturn, 1) := by decide +kernel
theorem dX8_held_0 : decode cX8_held 0 = .ok (.iload_n 0, 1) := by decide +kernel
theorem dX8_held_1 : decode cX8_held 1 = .ok (.iload_n 1, 1) := by decide +kernel
theorem dX8_held_2 : decode cX8_held 2 = .ok (.if_icmp .ge 7, 3) := by decide +kernel
theorem dX8_held_5 : decode cX8_held 5 = .ok (.iload_n 1, 1) := by decide +kernel
theorem dX8_held_6 : decode cX8_held 6 = .ok (.goto 13, 3) := by decide +kernel
theorem dX8_held_9 : decode cX8_held 9 = .ok (.iload_n 0, 1) := by decide +kernel
theorem dX8_held_10 : decode cX8_held 10 = .ok (.iload_n 2, 1) := by decide +kernel
theorem dX8_held_11 : decode cX8_held 11 = .ok (.if_icmp .le 7, 3) := by decide +kernel
theorem dX8_held_14 : decode cX8_held 14 = .ok (.iload_n 2, 1) := by decide +kernel
theorem dX8_held_15 : decode cX8_held 15 = .ok (.goto 4, 3) := by decide +kernel
theorem dX8_held_18 : decode cX8_held 18 = .ok (.iload_n 0, 1) := by decide +kernel
theorem dX8_held_19 : decode cX8_held 19 = .ok (.ireturn, 1) := by decide +kernel
theorem dX8_copyAll_0 : decode cX8_copyAll 0 = .ok (.iconst 0, 1) := by decide +kernel
theorem dX8_copyAll_1 : decode cX8_copyAll 1 = .ok (.istore_n 2, 1) := by decide +kernel
theorem dX8_copyAll_2 : decode cX8_copyAll 2 = .ok (.iload_n 2, 1) := by decide +kernel
theorem dX8_copyAll_3 : decode cX8_copyAll 3 = .ok (.sipush 394, 3) := by decide +kernel
theorem dX8_copyAll_6 : decode cX8_copyAll 6 = .ok (.if_icmp .ge 15, 3) := by decide +kernel
theorem dX8_copyAll_9 : decode cX8_copyAll 9 = .ok (.aload_n 1, 1) := by decide +kernel
theorem dX8_copyAll_10 : decode cX8_copyAll 10 = .ok (.iload_n 2, 1) := by decide +kernel
theorem dX8_copyAll_11 : decode cX8_copyAll 11 = .ok (.aload_n 0, 1) := by decide +kernel
theorem dX8_copyAll_12 : decode cX8_copyAll 12 = .ok (.iload_n 2, 1) := by decide +kernel
theorem dX8_copyAll_13 : decode cX8_copyAll 13 = .ok (.iaload, 1) := by decide +kernel
theorem dX8_copyAll_14 : decode cX8_copyAll 14 = .ok (.iastore, 1) := by decide +kernel
theorem dX8_copyAll_15 : decode cX8_copyAll 15 = .ok (.iinc 2 1, 3) := by decide +kernel
theorem dX8_copyAll_18 : decode cX8_copyAll 18 = .ok (.goto (-16), 3) := by decide +kernel
theorem dX8_copyAll_21 : decode cX8_copyAll 21 = .ok (.return_, 1) := by decide +kernel
theorem dX8_layDown_0 : decode cX8_layDown 0 = .ok (.iconst 0, 1) := by decide +kernel
theorem dX8_layDown_1 : decode cX8_layDown 1 = .ok (.istore_n 1, 1) := by decide +kernel
theorem dX8_layDown_2 : decode cX8_layDown 2 = .ok (.iload_n 1, 1) := by decide +kernel
theorem dX8_layDown_3 : decode cX8_layDown 3 = .ok (.bipush 60, 2) := by decide +kernel
theorem dX8_layDown_5 : decode cX8_layDown 5 = .ok (.if_icmp .ge 21, 3) := by decide +kernel
theorem dX8_layDown_8 : decode cX8_layDown 8 = .ok (.aload_n 0, 1) := by decide +kernel
theorem dX8_layDown_9 : decode cX8_layDown 9 = .ok (.getfield 16, 3) := by decide +kernel
theorem dX8_layDown_12 : decode cX8_layDown 12 = .ok (.iload_n 1, 1) := by decide +kernel
theorem dX8_layDown_13 : decode cX8_layDown 13 = .ok (.aload_n 0, 1) := by decide +kernel
theorem dX8_layDown_14 : decode cX8_layDown 14 = .ok (.getfield 7, 3) := by decide +kernel
theorem dX8_layDown_17 : decode cX8_layDown 17 = .ok (.iload_n 1, 1) := by decide +kernel
theorem dX8_layDown_18 : decode cX8_layDown 18 = .ok (.iaload, 1) := by decide +kernel
theorem dX8_layDown_19 : decode cX8_layDown 19 = .ok (.iastore, 1) := by decide +kernel
theorem dX8_layDown_20 : decode cX8_layDown 20 = .ok (.iinc 1 1, 3) := by decide +kernel
theorem dX8_layDown_23 : decode cX8_layDown 23 = .ok (.goto (-21), 3) := by decide +kernel
theorem dX8_layDown_26 : decode cX8_layDown 26 = .ok (.return_, 1) := by decide +kernel
theorem dX8_layBack_0 : decode cX8_layBack 0 = .ok (.iconst 0, 1) := by decide +kernel
theorem dX8_layBack_1 : decode cX8_layBack 1 = .ok (.istore_n 1, 1) := by decide +kernel
theorem dX8_layBack_2 : decode cX8_layBack 2 = .ok (.iload_n 1, 1) := by decide +kernel
theorem dX8_layBack_3 : decode cX8_layBack 3 = .ok (.bipush 60, 2) := by decide +kernel
theorem dX8_layBack_5 : decode cX8_layBack 5 = .ok (.if_icmp .ge 21, 3) := by decide +kernel
theorem dX8_layBack_8 : decode cX8_layBack 8 = .ok (.aload_n 0, 1) := by decide +kernel
theorem dX8_layBack_9 : decode cX8_layBack 9 = .ok (.getfield 7, 3) := by decide +kernel
theorem dX8_layBack_12 : decode cX8_layBack 12 = .ok (.iload_n 1, 1) := by decide +kernel
theorem dX8_layBack_13 : decode cX8_layBack 13 = .ok (.aload_n 0, 1) := by decide +kernel
theorem dX8_layBack_14 : decode cX8_layBack 14 = .ok (.getfield 16, 3) := by decide +kernel
theorem dX8_layBack_17 : decode cX8_layBack 17 = .ok (.iload_n 1, 1) := by decide +kernel
theorem dX8_layBack_18 : decode cX8_layBack 18 = .ok (.iaload, 1) := by decide +kernel
theorem dX8_layBack_19 : decode cX8_layBack 19 = .ok (.iastore, 1) := by decide +kernel
theorem dX8_layBack_20 : decode cX8_layBack 20 = .ok (.iinc 1 1, 3) := by decide +kernel
theorem dX8_layBack_23 : decode cX8_layBack 23 = .ok (.goto (-21), 3) := by decide +kernel
theorem dX8_layBack_26 : decode cX8_layBack 26 = .ok (.return_, 1) := by decide +kernel
theorem dX8_isFarm_0 : decode cX8_isFarm 0 = .ok (.iload_n 1, 1) := by decide +kernel
theorem dX8_isFarm_1 : decode cX8_isFarm 1 = .ok (.iconst 0, 1) := by decide +kernel
theorem dX8_isFarm_2 : decode cX8_isFarm 2 = .ok (.aload_n 0, 1) := by decide +kernel
theorem dX8_isFarm_3 : decode cX8_isFarm 3 = .ok (.getfield 7, 3) := by decide +kernel
theorem dX8_isFarm_6 : decode cX8_isFarm 6 = .ok (.iconst 5, 1) := by decide +kernel
theorem dX8_isFarm_7 : decode cX8_isFarm 7 = .ok (.iaload, 1) := by decide +kernel
theorem dX8_isFarm_8 : decode cX8_isFarm 8 = .ok (.iconst 1, 1) := by decide +kernel
theorem dX8_isFarm_9 : decode cX8_isFarm 9 = .ok (.isub, 1) := by decide +kernel
theorem dX8_isFarm_10 : decode cX8_isFarm 10 = .ok (.invokestatic 59, 3) := by decide +kernel
theorem dX8_isFarm_13 : decode cX8_isFarm 13 = .ok (.ireturn, 1) := by decide +kernel
theorem dX8_isCarrier_0 : decode cX8_isCarrier 0 = .ok (.iload_n 1, 1) := by decide +kernel
theorem dX8_isCarrier_1 : decode cX8_isCarrier 1 = .ok (.iconst 0, 1) := by decide +kernel
theorem dX8_isCarrier_2 : decode cX8_isCarrier 2 = .ok (.aload_n 0, 1) := by decide +kernel
theorem dX8_isCarrier_3 : decode cX8_isCarrier 3 = .ok (.getfield 7, 3) := by decide +kernel
theorem dX8_isCarrier_6 : decode cX8_isCarrier 6 = .ok (.bipush 6, 2) := by decide +kernel
theorem dX8_isCarrier_8 : decode cX8_isCarrier 8 = .ok (.iaload, 1) := by decide +kernel
theorem dX8_isCarrier_9 : decode cX8_isCarrier 9 = .ok (.iconst 1, 1) := by decide +kernel
theorem dX8_isCarrier_10 : decode cX8_isCarrier 10 = .ok (.isub, 1) := by decide +kernel
theorem dX8_isCarrier_11 : decode cX8_isCarrier 11 = .ok (.invokestatic 59, 3) := by decide +kernel
theorem dX8_isCarrier_14 : decode cX8_isCarrier 14 = .ok (.ireturn, 1) := by decide +kernel
theorem dX8_its_0 : decode cX8_its 0 = .ok (.aload_n 0, 1) := by decide +kernel
theorem dX8_its_1 : decode cX8_its 1 = .ok (.getfield 7, 3) := by decide +kernel
theorem dX8_its_4 : decode cX8_its 4 = .ok (.bipush 10, 2) := by decide +kernel
theorem dX8_its_6 : decode cX8_its 6 = .ok (.bipush 6, 2) := by decide +kernel
theorem dX8_its_8 : decode cX8_its 8 = .ok (.iload_n 1, 1) := by decide +kernel
theorem dX8_its_9 : decode cX8_its 9 = .ok (.imul, 1) := by decide +kernel
theorem dX8_its_10 : decode cX8_its 10 = .ok (.iadd, 1) := by decide +kernel
theorem dX8_its_11 : decode cX8_its 11 = .ok (.iload_n 2, 1) := by decide +kernel
theorem dX8_its_12 : decode cX8_its 12 = .ok (.iadd, 1) := by decide +kernel
theorem dX8_its_13 : decode cX8_its 13 = .ok (.iaload, 1) := by decide +kernel
theorem dX8_its_14 : decode cX8_its 14 = .ok (.ireturn, 1) := by decide +kernel
theorem dX8_lays1_0 : decode cX8_lays1 0 = .ok (.aload_n 0, 1) := by decide +kernel
theorem dX8_lays1_1 : decode cX8_lays1 1 = .ok (.getfield 7, 3) := by decide +kernel
theorem dX8_lays1_4 : decode cX8_lays1 4 = .ok (.bipush 10, 2) := by decide +kernel
theorem dX8_lays1_6 : decode cX8_lays1 6 = .ok (.bipush 6, 2) := by decide +kernel
theorem dX8_lays1_8 : decode cX8_lays1 8 = .ok (.iload_n 1, 1) := by decide +kernel
theorem dX8_lays1_9 : decode cX8_lays1 9 = .ok (.imul, 1) := by decide +kernel
theorem dX8_lays1_10 : decode cX8_lays1 10 = .ok (.iadd, 1) := by decide +kernel
theorem dX8_lays1_11 : decode cX8_lays1 11 = .ok (.iload_n 2, 1) := by decide +kernel
theorem dX8_lays1_12 : decode cX8_lays1 12 = .ok (.iadd, 1) := by decide +kernel
theorem dX8_lays1_13 : decode cX8_lays1 13 = .ok (.iload_n 3, 1) := by decide +kernel
theorem dX8_lays1_14 : decode cX8_lays1 14 = .ok (.iastore, 1) := by decide +kernel
theorem dX8_lays1_15 : decode cX8_lays1 15 = .ok (.return_, 1) := by decide +kernel
theorem dX8_belly_0 : decode cX8_belly 0 = .ok (.aload_n 0, 1) := by decide +kernel
theorem dX8_belly_1 : decode cX8_belly 1 = .ok (.getfield 7, 3) := by decide +kernel
theorem dX8_belly_4 : decode cX8_belly 4 = .ok (.bipush 52, 2) := by decide +kernel
theorem dX8_belly_6 : decode cX8_belly 6 = .ok (.iconst 2, 1) := by decide +kernel
theorem dX8_belly_7 : decode cX8_belly 7 = .ok (.iload_n 1, 1) := by decide +kernel
theorem dX8_belly_8 : decode cX8_belly 8 = .ok (.imul, 1) := by decide +kernel
theorem dX8_belly_9 : decode cX8_belly 9 = .ok (.iadd, 1) := by decide +kernel
theorem dX8_belly_10 : decode cX8_belly 10 = .ok (.iaload, 1) := by decide +kernel
theorem dX8_belly_11 : decode cX8_belly 11 = .ok (.ireturn, 1) := by decide +kernel
theorem dX8_change1_0 : decode cX8_change1 0 = .ok (.aload_n 0, 1) := by decide +kernel
theorem dX8_change1_1 : decode cX8_change1 1 = .ok (.getfield 7, 3) := by decide +kernel
theorem dX8_change1_4 : decode cX8_change1 4 = .ok (.iload_n 1, 1) := by decide +kernel
theorem dX8_change1_5 : decode cX8_change1 5 = .ok (.iaload, 1) := by decide +kernel
theorem dX8_change1_6 : decode cX8_change1 6 = .ok (.istore_n 3, 1) := by decide +kernel
theorem dX8_change1_7 : decode cX8_change1 7 = .ok (.aload_n 0, 1) := by decide +kernel
theorem dX8_change1_8 : decode cX8_change1 8 = .ok (.getfield 7, 3) := by decide +kernel
theorem dX8_change1_11 : decode cX8_change1 11 = .ok (.iload_n 1, 1) := by decide +kernel
theorem dX8_change1_12 : decode cX8_change1 12 = .ok (.iload_n 2, 1) := by decide +kernel
theorem dX8_change1_13 : decode cX8_change1 13 = .ok (.iastore, 1) := by decide +kernel
theorem dX8_change1_14 : decode cX8_change1 14 = .ok (.iload_n 3, 1) := by decide +kernel
theorem dX8_change1_15 : decode cX8_change1 15 = .ok (.ireturn, 1) := by decide +kernel
theorem dX8_feed_0 : decode cX8_feed 0 = .ok (.iload_n 3, 1) := by decide +kernel
theorem dX8_feed_1 : decode cX8_feed 1 = .ok (.iconst 1, 1) := by decide +kernel
theorem dX8_feed_2 : decode cX8_feed 2 = .ok (.bipush 8, 2) := by decide +kernel
theorem dX8_feed_4 : decode cX8_feed 4 = .ok (.invokestatic 59, 3) := by decide +kernel
theorem dX8_feed_7 : decode cX8_feed 7 = .ok (.ifCond .ne 9, 3) := by decide +kernel
theorem dX8_feed_10 : decode cX8_feed 10 = .ok (.aload_n 0, 1) := by decide +kernel
theorem dX8_feed_11 : decode cX8_feed 11 = .ok (.iconst 1, 1) := by decide +kernel
theorem dX8_feed_12 : decode cX8_feed 12 = .ok (.invokevirtual 63, 3) := by decide +kernel
theorem dX8_feed_15 : decode cX8_feed 15 = .ok (.ireturn, 1) := by decide +kernel
theorem dX8_feed_16 : decode cX8_feed 16 = .ok (.aload_n 0, 1) := by decide +kernel
theorem dX8_feed_17 : decode cX8_feed 17 = .ok (.getfield 7, 3) := by decide +kernel
theorem dX8_feed_20 : decode cX8_feed 20 = .ok (.iconst 3, 1) := by decide +kernel
theorem dX8_feed_21 : decode cX8_feed 21 = .ok (.iaload, 1) := by decide +kernel
theorem dX8_feed_22 : decode cX8_feed 22 = .ok (.iload_n 3, 1) := by decide +kernel
theorem dX8_feed_23 : decode cX8_feed 23 = .ok (.iadd, 1) := by decide +kernel
theorem dX8_feed_24 : decode cX8_feed 24 = .ok (.bipush 60, 2) := by decide +kernel
theorem dX8_feed_26 : decode cX8_feed 26 = .ok (.if_icmp .le 9, 3) := by decide +kernel
theorem dX8_feed_29 : decode cX8_feed 29 = .ok (.aload_n 0, 1) := by decide +kernel
theorem dX8_feed_30 : decode cX8_feed 30 = .ok (.iconst 4, 1) := by decide +kernel
theorem dX8_feed_31 : decode cX8_feed 31 = .ok (.invokevirtual 63, 3) := by decide +kernel
theorem dX8_feed_34 : decode cX8_feed 34 = .ok (.ireturn, 1) := by decide +kernel
theorem dX8_feed_35 : decode cX8_feed 35 = .ok (.iconst 0, 1) := by decide +kernel
theorem dX8_feed_36 : decode cX8_feed 36 = .ok (.istore 4, 2) := by decide +kernel
theorem dX8_feed_38 : decode cX8_feed 38 = .ok (.iload 4, 2) := by decide +kernel
theorem dX8_feed_40 : decode cX8_feed 40 = .ok (.iload_n 3, 1) := by decide +kernel
theorem dX8_feed_41 : decode cX8_feed 41 = .ok (.if_icmp .ge 46, 3) := by decide +kernel
theorem dX8_feed_44 : decode cX8_feed 44 = .ok (.aload_n 0, 1) := by decide +kernel
theorem dX8_feed_45 : decode cX8_feed 45 = .ok (.getfield 7, 3) := by decide +kernel
theorem dX8_feed_48 : decode cX8_feed 48 = .ok (.sipush 310, 3) := by decide +kernel
theorem dX8_feed_51 : decode cX8_feed 51 = .ok (.aload_n 0, 1) := by decide +kernel
theorem dX8_feed_52 : decode cX8_feed 52 = .ok (.getfield 7, 3) := by decide +kernel
theorem dX8_feed_55 : decode cX8_feed 55 = .ok (.iconst 3, 1) := by decide +kernel
theorem dX8_feed_56 : decode cX8_feed 56 = .ok (.iaload, 1) := by decide +kernel
theorem dX8_feed_57 : decode cX8_feed 57 = .ok (.iadd, 1) := by decide +kernel
theorem dX8_feed_58 : decode cX8_feed 58 = .ok (.lload_n 1, 1) := by decide +kernel
theorem dX8_feed_59 : decode cX8_feed 59 = .ok (.bipush 8, 2) := by decide +kernel
theorem dX8_feed_61 : decode cX8_feed 61 = .ok (.iload 4, 2) := by decide +kernel
theorem dX8_feed_63 : decode cX8_feed 63 = .ok (.imul, 1) := by decide +kernel
theorem dX8_feed_64 : decode cX8_feed 64 = .ok (.lshr, 1) := by decide +kernel
theorem dX8_feed_65 : decode cX8_feed 65 = .ok (.ldc2_w 67, 3) := by decide +kernel
theorem dX8_feed_68 : decode cX8_feed 68 = .ok (.land, 1) := by decide +kernel
theorem dX8_feed_69 : decode cX8_feed 69 = .ok (.l2i, 1) := by decide +kernel
theorem dX8_feed_70 : decode cX8_feed 70 = .ok (.iastore, 1) := by decide +kernel
theorem dX8_feed_71 : decode cX8_feed 71 = .ok (.aload_n 0, 1) := by decide +kernel
theorem dX8_feed_72 : decode cX8_feed 72 = .ok (.getfield 7, 3) := by decide +kernel
theorem dX8_feed_75 : decode cX8_feed 75 = .ok (.iconst 3, 1) := by decide +kernel
theorem dX8_feed_76 : decode cX8_feed 76 = .ok (.dup2, 1) := by decide +kernel
theorem dX8_feed_77 : decode cX8_feed 77 = .ok (.iaload, 1) := by decide +kernel
theorem dX8_feed_78 : decode cX8_feed 78 = .ok (.iconst 1, 1) := by decide +kernel
theorem dX8_feed_79 : decode cX8_feed 79 = .ok (.iadd, 1) := by decide +kernel
theorem dX8_feed_80 : decode cX8_feed 80 = .ok (.iastore, 1) := by decide +kernel
theorem dX8_feed_81 : decode cX8_feed 81 = .ok (.iinc 4 1, 3) := by decide +kernel
theorem dX8_feed_84 : decode cX8_feed 84 = .ok (.goto (-46), 3) := by decide +kernel
theorem dX8_feed_87 : decode cX8_feed 87 = .ok (.aload_n 0, 1) := by decide +kernel
theorem dX8_feed_88 : decode cX8_feed 88 = .ok (.getfield 7, 3) := by decide +kernel
theorem dX8_feed_91 : decode cX8_feed 91 = .ok (.iconst 3, 1) := by decide +kernel
theorem dX8_feed_92 : decode cX8_feed 92 = .ok (.iaload, 1) := by decide +kernel
theorem dX8_feed_93 : decode cX8_feed 93 = .ok (.ireturn, 1) := by decide +kernel
theorem dX8_look_0 : decode cX8_look 0 = .ok (.aload_n 0, 1) := by decide +kernel
theorem dX8_look_1 : decode cX8_look 1 = .ok (.getfield 69, 3) := by decide +kernel
theorem dX8_look_4 : decode cX8_look 4 = .ok (.aload_n 0, 1) := by decide +kernel
theorem dX8_look_5 : decode cX8_look 5 = .ok (.getfield 7, 3) := by decide +kernel
theorem dX8_look_8 : decode cX8_look 8 = .ok (.iconst 3, 1) := by decide +kernel
theorem dX8_look_9 : decode cX8_look 9 = .ok (.iaload, 1) := by decide +kernel
theorem dX8_look_10 : decode cX8_look 10 = .ok (.if_icmp .ge 19, 3) := by decide +kernel
theorem dX8_look_13 : decode cX8_look 13 = .ok (.aload_n 0, 1) := by decide +kernel
theorem dX8_look_14 : decode cX8_look 14 = .ok (.getfield 7, 3) := by decide +kernel
theorem dX8_look_17 : decode cX8_look 17 = .ok (.sipush 310, 3) := by decide +kernel
theorem dX8_look_20 : decode cX8_look 20 = .ok (.aload_n 0, 1) := by decide +kernel
theorem dX8_look_21 : decode cX8_look 21 = .ok (.getfield 69, 3) := by decide +kernel
theorem dX8_look_24 : decode cX8_look 24 = .ok (.iadd, 1) := by decide +kernel
theorem dX8_look_25 : decode cX8_look 25 = .ok (.iaload, 1) := by decide +kernel
theorem dX8_look_26 : decode cX8_look 26 = .ok (.goto 4, 3) := by decide +kernel
theorem dX8_look_29 : decode cX8_look 29 = .ok (.iconst (-1), 1) := by decide +kernel
theorem dX8_look_30 : decode cX8_look 30 = .ok (.ireturn, 1) := by decide +kernel
theorem dX8_isName_0 : decode cX8_isName 0 = .ok (.iload_n 1, 1) := by decide +kernel
theorem dX8_isName_1 : decode cX8_isName 1 = .ok (.bipush 100, 2) := by decide +kernel
theorem dX8_isName_3 : decode cX8_isName 3 = .ok (.if_icmp .ne 5, 3) := by decide +kernel
theorem dX8_isName_6 : decode cX8_isName 6 = .ok (.iconst 1, 1) := by decide +kernel
theorem dX8_isName_7 : decode cX8_isName 7 = .ok (.ireturn, 1) := by decide +kernel
theorem dX8_isName_8 : decode cX8_isName 8 = .ok (.aload_n 0, 1) := by decide +kernel
theorem dX8_isName_9 : decode cX8_isName 9 = .ok (.getfield 73, 3) := by decide +kernel
theorem dX8_isName_12 : decode cX8_isName 12 = .ok (.ifCond .ne 23, 3) := by decide +kernel
theorem dX8_isName_15 : decode cX8_isName 15 = .ok (.iload_n 1, 1) := by decide +kernel
theorem dX8_isName_16 : decode cX8_isName 16 = .ok (.bipush 103, 2) := by decide +kernel
theorem dX8_isName_18 : decode cX8_isName 18 = .ok (.if_icmp .eq 9, 3) := by decide +kernel
theorem dX8_isName_21 : decode cX8_isName 21 = .ok (.iload_n 1, 1) := by decide +kernel
theorem dX8_isName_22 : decode cX8_isName 22 = .ok (.bipush 104, 2) := by decide +kernel
theorem dX8_isName_24 : decode cX8_isName 24 = .ok (.if_icmp .ne 7, 3) := by decide +kernel
theorem dX8_isName_27 : decode cX8_isName 27 = .ok (.iconst 1, 1) := by decide +kernel
theorem dX8_isName_28 : decode cX8_isName 28 = .ok (.goto 24, 3) := by decide +kernel
theorem dX8_isName_31 : decode cX8_isName 31 = .ok (.iconst 0, 1) := by decide +kernel
theorem dX8_isName_32 : decode cX8_isName 32 = .ok (.goto 20, 3) := by decide +kernel
theorem dX8_isName_35 : decode cX8_isName 35 = .ok (.iload_n 1, 1) := by decide +kernel
theorem dX8_isName_36 : decode cX8_isName 36 = .ok (.bipush 112, 2) := by decide +kernel
theorem dX8_isName_38 : decode cX8_isName 38 = .ok (.if_icmp .eq 9, 3) := by decide +kernel
theorem dX8_isName_41 : decode cX8_isName 41 = .ok (.iload_n 1, 1) := by decide +kernel
theorem dX8_isName_42 : decode cX8_isName 42 = .ok (.bipush 115, 2) := by decide +kernel
theorem dX8_isName_44 : decode cX8_isName 44 = .ok (.if_icmp .ne 7, 3) := by decide +kernel
theorem dX8_isName_47 : decode cX8_isName 47 = .ok (.iconst 1, 1) := by decide +kernel
theorem dX8_isName_48 : decode cX8_isName 48 = .ok (.goto 4, 3) := by decide +kernel
theorem dX8_isName_51 : decode cX8_isName 51 = .ok (.iconst 0, 1) := by decide +kernel
theorem dX8_isName_52 : decode cX8_isName 52 = .ok (.ireturn, 1) := by decide +kernel
theorem dX8_step1_0 : decode cX8_step1 0 = .ok (.aload_n 0, 1) := by decide +kernel
theorem dX8_step1_1 : decode cX8_step1 1 = .ok (.getfield 22, 3) := by decide +kernel
theorem dX8_step1_4 : decode cX8_step1 4 = .ok (.iconst 2, 1) := by decide +kernel
theorem dX8_step1_5 : decode cX8_step1 5 = .ok (.aload_n 0, 1) := by decide +kernel
theorem dX8_step1_6 : decode cX8_step1 6 = .ok (.getfield 76, 3) := by decide +kernel
theorem dX8_step1_9 : decode cX8_step1 9 = .ok (.imul, 1) := by decide +kernel
theorem dX8_step1_10 : decode cX8_step1 10 = .ok (.iload_n 1, 1) := by decide +kernel
theorem dX8_step1_11 : decode cX8_step1 11 = .ok (.iastore, 1) := by decide +kernel
theorem dX8_step1_12 : decode cX8_step1 12 = .ok (.aload_n 0, 1) := by decide +kernel
theorem dX8_step1_13 : decode cX8_step1 13 = .ok (.getfield 22, 3) := by decide +kernel
theorem dX8_step1_16 : decode cX8_step1 16 = .ok (.iconst 2, 1) := by decide +kernel
theorem dX8_step1_17 : decode cX8_step1 17 = .ok (.aload_n 0, 1) := by decide +kernel
theorem dX8_step1_18 : decode cX8_step1 18 = .ok (.getfield 76, 3) := by decide +kernel
theorem dX8_step1_21 : decode cX8_step1 21 = .ok (.imul, 1) := by decide +kernel
theorem dX8_step1_22 : decode cX8_step1 22 = .ok (.iconst 1, 1) := by decide +kernel
theorem dX8_step1_23 : decode cX8_step1 23 = .ok (.iadd, 1) := by decide +kernel
theorem dX8_step1_24 : decode cX8_step1 24 = .ok (.iload_n 2, 1) := by decide +kernel
theorem dX8_step1_25 : decode cX8_step1 25 = .ok (.iastore, 1) := by decide +kernel
theorem dX8_step1_26 : decode cX8_step1 26 = .ok (.aload_n 0, 1) := by decide +kernel
theorem dX8_step1_27 : decode cX8_step1 27 = .ok (.dup, 1) := by decide +kernel
theorem dX8_step1_28 : decode cX8_step1 28 = .ok (.getfield 76, 3) := by decide +kernel
theorem dX8_step1_31 : decode cX8_step1 31 = .ok (.iconst 1, 1) := by decide +kernel
theorem dX8_step1_32 : decode cX8_step1 32 = .ok (.iadd, 1) := by decide +kernel
theorem dX8_step1_33 : decode cX8_step1 33 = .ok (.putfield 76, 3) := by decide +kernel
theorem dX8_step1_36 : decode cX8_step1 36 = .ok (.return_, 1) := by decide +kernel
theorem dX8_whole_0 : decode cX8_whole 0 = .ok (.aload_n 0, 1) := by decide +kernel
theorem dX8_whole_1 : decode cX8_whole 1 = .ok (.invokevirtual 79, 3) := by decide +kernel
theorem dX8_whole_4 : decode cX8_whole 4 = .ok (.ifCond .ne 5, 3) := by decide +kernel
theorem dX8_whole_7 : decode cX8_whole 7 = .ok (.iconst 0, 1) := by decide +kernel
theorem dX8_whole_8 : decode cX8_whole 8 = .ok (.ireturn, 1) := by decide +kernel
theorem dX8_whole_9 : decode cX8_whole 9 = .ok (.aload_n 0, 1) := by decide +kernel
theorem dX8_whole_10 : decode cX8_whole 10 = .ok (.invokevirtual 83, 3) := by decide +kernel
theorem dX8_whole_13 : decode cX8_whole 13 = .ok (.bipush 124, 2) := by decide +kernel
theorem dX8_whole_15 : decode cX8_whole 15 = .ok (.if_icmp .ne 32, 3) := by decide +kernel
theorem dX8_whole_18 : decode cX8_whole 18 = .ok (.aload_n 0, 1) := by decide +kernel
theorem dX8_whole_19 : decode cX8_whole 19 = .ok (.dup, 1) := by decide +kernel
theorem dX8_whole_20 : decode cX8_whole 20 = .ok (.getfield 69, 3) := by decide +kernel
theorem dX8_whole_23 : decode cX8_whole 23 = .ok (.iconst 1, 1) := by decide +kernel
theorem dX8_whole_24 : decode cX8_whole 24 = .ok (.iadd, 1) := by decide +kernel
theorem dX8_whole_25 : decode cX8_whole 25 = .ok (.putfield 69, 3) := by decide +kernel
theorem dX8_whole_28 : decode cX8_whole 28 = .ok (.aload_n 0, 1) := by decide +kernel
theorem dX8_whole_29 : decode cX8_whole 29 = .ok (.invokevirtual 79, 3) := by decide +kernel
theorem dX8_whole_32 : decode cX8_whole 32 = .ok (.ifCond .ne 5, 3) := by decide +kernel
theorem dX8_whole_35 : decode cX8_whole 35 = .ok (.iconst 0, 1) := by decide +kernel
theorem dX8_whole_36 : decode cX8_whole 36 = .ok (.ireturn, 1) := by decide +kernel
theorem dX8_whole_37 : decode cX8_whole 37 = .ok (.aload_n 0, 1) := by decide +kernel
theorem dX8_whole_38 : decode cX8_whole 38 = .ok (.iconst 3, 1) := by decide +kernel
theorem dX8_whole_39 : decode cX8_whole 39 = .ok (.bipush 124, 2) := by decide +kernel
theorem dX8_whole_41 : decode cX8_whole 41 = .ok (.invokevirtual 87, 3) := by decide +kernel
theorem dX8_whole_44 : decode cX8_whole 44 = .ok (.goto (-35), 3) := by decide +kernel
theorem dX8_whole_47 : decode cX8_whole 47 = .ok (.iconst 1, 1) := by decide +kernel
theorem dX8_whole_48 : decode cX8_whole 48 = .ok (.ireturn, 1) := by decide +kernel
theorem dX8_both_0 : decode cX8_both 0 = .ok (.aload_n 0, 1) := by decide +kernel
theorem dX8_both_1 : decode cX8_both 1 = .ok (.invokevirtual 91, 3) := by decide +kernel
theorem dX8_both_4 : decode cX8_both 4 = .ok (.ifCond .ne 5, 3) := by decide +kernel
theorem dX8_both_7 : decode cX8_both 7 = .ok (.iconst 0, 1) := by decide +kernel
theorem dX8_both_8 : decode cX8_both 8 = .ok (.ireturn, 1) := by decide +kernel
theorem dX8_both_9 : decode cX8_both 9 = .ok (.aload_n 0, 1) := by decide +kernel
theorem dX8_both_10 : decode cX8_both 10 = .ok (.invokevirtual 83, 3) := by decide +kernel
theorem dX8_both_13 : decode cX8_both 13 = .ok (.bipush 38, 2) := by decide +kernel
theorem dX8_both_15 : decode cX8_both 15 = .ok (.if_icmp .ne 32, 3) := by decide +kernel
theorem dX8_both_18 : decode cX8_both 18 = .ok (.aload_n 0, 1) := by decide +kernel
theorem dX8_both_19 : decode cX8_both 19 = .ok (.dup, 1) := by decide +kernel
theorem dX8_both_20 : decode cX8_both 20 = .ok (.getfield 69, 3) := by decide +kernel
theorem dX8_both_23 : decode cX8_both 23 = .ok (.iconst 1, 1) := by decide +kernel
theorem dX8_both_24 : decode cX8_both 24 = .ok (.iadd, 1) := by decide +kernel
theorem dX8_both_25 : decode cX8_both 25 = .ok (.putfield 69, 3) := by decide +kernel
theorem dX8_both_28 : decode cX8_both 28 = .ok (.aload_n 0, 1) := by decide +kernel
theorem dX8_both_29 : decode cX8_both 29 = .ok (.invokevirtual 91, 3) := by decide +kernel
theorem dX8_both_32 : decode cX8_both 32 = .ok (.ifCond .ne 5, 3) := by decide +kernel
theorem dX8_both_35 : decode cX8_both 35 = .ok (.iconst 0, 1) := by decide +kernel
theorem dX8_both_36 : decode cX8_both 36 = .ok (.ireturn, 1) := by decide +kernel
theorem dX8_both_37 : decode cX8_both 37 = .ok (.aload_n 0, 1) := by decide +kernel
theorem dX8_both_38 : decode cX8_both 38 = .ok (.iconst 3, 1) := by decide +kernel
theorem dX8_both_39 : decode cX8_both 39 = .ok (.bipush 38, 2) := by decide +kernel
theorem dX8_both_41 : decode cX8_both 41 = .ok (.invokevirtual 87, 3) := by decide +kernel
theorem dX8_both_44 : decode cX8_both 44 = .ok (.goto (-35), 3) := by decide +kernel
theorem dX8_both_47 : decode cX8_both 47 = .ok (.iconst 1, 1) := by decide +kernel
theorem dX8_both_48 : decode cX8_both 48 = .ok (.ireturn, 1) := by decide +kernel
theorem dX8_compared_0 : decode cX8_compared 0 = .ok (.aload_n 0, 1) := by decide +kernel
theorem dX8_compared_1 : decode cX8_compared 1 = .ok (.invokevirtual 94, 3) := by decide +kernel
theorem dX8_compared_4 : decode cX8_compared 4 = .ok (.ifCond .ne 5, 3) := by decide +kernel
theorem dX8_compared_7 : decode cX8_compared 7 = .ok (.iconst 0, 1) := by decide +kernel
theorem dX8_compared_8 : decode cX8_compared 8 = .ok (.ireturn, 1) := by decide +kernel
theorem dX8_compared_9 : decode cX8_compared 9 = .ok (.aload_n 0, 1) := by decide +kernel
theorem dX8_compared_10 : decode cX8_compared 10 = .ok (.invokevirtual 83, 3) := by decide +kernel
theorem dX8_compared_13 : decode cX8_compared 13 = .ok (.istore_n 1, 1) := by decide +kernel
theorem dX8_compared_14 : decode cX8_compared 14 = .ok (.iload_n 1, 1) := by decide +kernel
theorem dX8_compared_15 : decode cX8_compared 15 = .ok (.bipush 60, 2) := by decide +kernel
theorem dX8_compared_17 : decode cX8_compared 17 = .ok (.if_icmp .eq 17, 3) := by decide +kernel
theorem dX8_compared_20 : decode cX8_compared 20 = .ok (.iload_n 1, 1) := by decide +kernel
theorem dX8_compared_21 : decode cX8_compared 21 = .ok (.bipush 61, 2) := by decide +kernel
theorem dX8_compared_23 : decode cX8_compared 23 = .ok (.if_icmp .eq 11, 3) := by decide +kernel
theorem dX8_compared_26 : decode cX8_compared 26 = .ok (.iload_n 1, 1) := by decide +kernel
theorem dX8_compared_27 : decode cX8_compared 27 = .ok (.bipush 62, 2) := by decide +kernel
theorem dX8_compared_29 : decode cX8_compared 29 = .ok (.if_icmp .eq 5, 3) := by decide +kernel
theorem dX8_compared_32 : decode cX8_compared 32 = .ok (.iconst 1, 1) := by decide +kernel
theorem dX8_compared_33 : decode cX8_compared 33 = .ok (.ireturn, 1) := by decide +kernel
theorem dX8_compared_34 : decode cX8_compared 34 = .ok (.aload_n 0, 1) := by decide +kernel
theorem dX8_compared_35 : decode cX8_compared 35 = .ok (.dup, 1) := by decide +kernel
theorem dX8_compared_36 : decode cX8_compared 36 = .ok (.getfield 69, 3) := by decide +kernel
theorem dX8_compared_39 : decode cX8_compared 39 = .ok (.iconst 1, 1) := by decide +kernel
theorem dX8_compared_40 : decode cX8_compared 40 = .ok (.iadd, 1) := by decide +kernel
theorem dX8_compared_41 : decode cX8_compared 41 = .ok (.putfield 69, 3) := by decide +kernel
theorem dX8_compared_44 : decode cX8_compared 44 = .ok (.aload_n 0, 1) := by decide +kernel
theorem dX8_compared_45 : decode cX8_compared 45 = .ok (.invokevirtual 94, 3) := by decide +kernel
theorem dX8_compared_48 : decode cX8_compared 48 = .ok (.ifCond .ne 5, 3) := by decide +kernel
theorem dX8_compared_51 : decode cX8_compared 51 = .ok (.iconst 0, 1) := by decide +kernel
theorem dX8_compared_52 : decode cX8_compared 52 = .ok (.ireturn, 1) := by decide +kernel
theorem dX8_compared_53 : decode cX8_compared 53 = .ok (.aload_n 0, 1) := by decide +kernel
theorem dX8_compared_54 : decode cX8_compared 54 = .ok (.iconst 3, 1) := by decide +kernel
theorem dX8_compared_55 : decode cX8_compared 55 = .ok (.iload_n 1, 1) := by decide +kernel
theorem dX8_compared_56 : decode cX8_compared 56 = .ok (.invokevirtual 87, 3) := by decide +kernel
theorem dX8_compared_59 : decode cX8_compared 59 = .ok (.iconst 1, 1) := by decide +kernel
theorem dX8_compared_60 : decode cX8_compared 60 = .ok (.ireturn, 1) := by decide +kernel
theorem dX8_sum_0 : decode cX8_sum 0 = .ok (.aload_n 0, 1) := by decide +kernel
theorem dX8_sum_1 : decode cX8_sum 1 = .ok (.invokevirtual 97, 3) := by decide +kernel
theorem dX8_sum_4 : decode cX8_sum 4 = .ok (.ifCond .ne 5, 3) := by decide +kernel
theorem dX8_sum_7 : decode cX8_sum 7 = .ok (.iconst 0, 1) := by decide +kernel
theorem dX8_sum_8 : decode cX8_sum 8 = .ok (.ireturn, 1) := by decide +kernel
theorem dX8_sum_9 : decode cX8_sum 9 = .ok (.aload_n 0, 1) := by decide +kernel
theorem dX8_sum_10 : decode cX8_sum 10 = .ok (.invokevirtual 83, 3) := by decide +kernel
theorem dX8_sum_13 : decode cX8_sum 13 = .ok (.bipush 43, 2) := by decide +kernel
theorem dX8_sum_15 : decode cX8_sum 15 = .ok (.if_icmp .eq 12, 3) := by decide +kernel
theorem dX8_sum_18 : decode cX8_sum 18 = .ok (.aload_n 0, 1) := by decide +kernel
theorem dX8_sum_19 : decode cX8_sum 19 = .ok (.invokevirtual 83, 3) := by decide +kernel
theorem dX8_sum_22 : decode cX8_sum 22 = .ok (.bipush 45, 2) := by decide +kernel
theorem dX8_sum_24 : decode cX8_sum 24 = .ok (.if_icmp .ne 36, 3) := by decide +kernel
theorem dX8_sum_27 : decode cX8_sum 27 = .ok (.aload_n 0, 1) := by decide +kernel
theorem dX8_sum_28 : decode cX8_sum 28 = .ok (.invokevirtual 83, 3) := by decide +kernel
theorem dX8_sum_31 : decode cX8_sum 31 = .ok (.istore_n 1, 1) := by decide +kernel
theorem dX8_sum_32 : decode cX8_sum 32 = .ok (.aload_n 0, 1) := by decide +kernel
theorem dX8_sum_33 : decode cX8_sum 33 = .ok (.dup, 1) := by decide +kernel
theorem dX8_sum_34 : decode cX8_sum 34 = .ok (.getfield 69, 3) := by decide +kernel
theorem dX8_sum_37 : decode cX8_sum 37 = .ok (.iconst 1, 1) := by decide +kernel
theorem dX8_sum_38 : decode cX8_sum 38 = .ok (.iadd, 1) := by decide +kernel
theorem dX8_sum_39 : decode cX8_sum 39 = .ok (.putfield 69, 3) := by decide +kernel
theorem dX8_sum_42 : decode cX8_sum 42 = .ok (.aload_n 0, 1) := by decide +kernel
theorem dX8_sum_43 : decode cX8_sum 43 = .ok (.invokevirtual 97, 3) := by decide +kernel
theorem dX8_sum_46 : decode cX8_sum 46 = .ok (.ifCond .ne 5, 3) := by decide +kernel
theorem dX8_sum_49 : decode cX8_sum 49 = .ok (.iconst 0, 1) := by decide +kernel
theorem dX8_sum_50 : decode cX8_sum 50 = .ok (.ireturn, 1) := by decide +kernel
theorem dX8_sum_51 : decode cX8_sum 51 = .ok (.aload_n 0, 1) := by decide +kernel
theorem dX8_sum_52 : decode cX8_sum 52 = .ok (.iconst 3, 1) := by decide +kernel
theorem dX8_sum_53 : decode cX8_sum 53 = .ok (.iload_n 1, 1) := by decide +kernel
theorem dX8_sum_54 : decode cX8_sum 54 = .ok (.invokevirtual 87, 3) := by decide +kernel
theorem dX8_sum_57 : decode cX8_sum 57 = .ok (.goto (-48), 3) := by decide +kernel
theorem dX8_sum_60 : decode cX8_sum 60 = .ok (.iconst 1, 1) := by decide +kernel
theorem dX8_sum_61 : decode cX8_sum 61 = .ok (.ireturn, 1) := by decide +kernel
theorem dX8_product_0 : decode cX8_product 0 = .ok (.aload_n 0, 1) := by decide +kernel
theorem dX8_product_1 : decode cX8_product 1 = .ok (.invokevirtual 100, 3) := by decide +kernel
theorem dX8_product_4 : decode cX8_product 4 = .ok (.ifCond .ne 5, 3) := by decide +kernel
theorem dX8_product_7 : decode cX8_product 7 = .ok (.iconst 0, 1) := by decide +kernel
theorem dX8_product_8 : decode cX8_product 8 = .ok (.ireturn, 1) := by decide +kernel
theorem dX8_product_9 : decode cX8_product 9 = .ok (.aload_n 0, 1) := by decide +kernel
theorem dX8_product_10 : decode cX8_product 10 = .ok (.invokevirtual 83, 3) := by decide +kernel
theorem dX8_product_13 : decode cX8_product 13 = .ok (.bipush 42, 2) := by decide +kernel
theorem dX8_product_15 : decode cX8_product 15 = .ok (.if_icmp .eq 21, 3) := by decide +kernel
theorem dX8_product_18 : decode cX8_product 18 = .ok (.aload_n 0, 1) := by decide +kernel
theorem dX8_product_19 : decode cX8_product 19 = .ok (.invokevirtual 83, 3) := by decide +kernel
theorem dX8_product_22 : decode cX8_product 22 = .ok (.bipush 47, 2) := by decide +kernel
theorem dX8_product_24 : decode cX8_product 24 = .ok (.if_icmp .eq 12, 3) := by decide +kernel
theorem dX8_product_27 : decode cX8_product 27 = .ok (.aload_n 0, 1) := by decide +kernel
theorem dX8_product_28 : decode cX8_product 28 = .ok (.invokevirtual 83, 3) := by decide +kernel
theorem dX8_product_31 : decode cX8_product 31 = .ok (.bipush 37, 2) := by decide +kernel
theorem dX8_product_33 : decode cX8_product 33 = .ok (.if_icmp .ne 36, 3) := by decide +kernel
theorem dX8_product_36 : decode cX8_product 36 = .ok (.aload_n 0, 1) := by decide +kernel
theorem dX8_product_37 : decode cX8_product 37 = .ok (.invokevirtual 83, 3) := by decide +kernel
theorem dX8_product_40 : decode cX8_product 40 = .ok (.istore_n 1, 1) := by decide +kernel
theorem dX8_product_41 : decode cX8_product 41 = .ok (.aload_n 0, 1) := by decide +kernel
theorem dX8_product_42 : decode cX8_product 42 = .ok (.dup, 1) := by decide +kernel
theorem dX8_product_43 : decode cX8_product 43 = .ok (.getfield 69, 3) := by decide +kernel
theorem dX8_product_46 : decode cX8_product 46 = .ok (.iconst 1, 1) := by decide +kernel
theorem dX8_product_47 : decode cX8_product 47 = .ok (.iadd, 1) := by decide +kernel
theorem dX8_product_48 : decode cX8_product 48 = .ok (.putfield 69, 3) := by decide +kernel
theorem dX8_product_51 : decode cX8_product 51 = .ok (.aload_n 0, 1) := by decide +kernel
theorem dX8_product_52 : decode cX8_product 52 = .ok (.invokevirtual 100, 3) := by decide +kernel
theorem dX8_product_55 : decode cX8_product 55 = .ok (.ifCond .ne 5, 3) := by decide +kernel
theorem dX8_product_58 : decode cX8_product 58 = .ok (.iconst 0, 1) := by decide +kernel
theorem dX8_product_59 : decode cX8_product 59 = .ok (.ireturn, 1) := by decide +kernel
theorem dX8_product_60 : decode cX8_product 60 = .ok (.aload_n 0, 1) := by decide +kernel
theorem dX8_product_61 : decode cX8_product 61 = .ok (.iconst 3, 1) := by decide +kernel
theorem dX8_product_62 : decode cX8_product 62 = .ok (.iload_n 1, 1) := by decide +kernel
theorem dX8_product_63 : decode cX8_product 63 = .ok (.invokevirtual 87, 3) := by decide +kernel
theorem dX8_product_66 : decode cX8_product 66 = .ok (.goto (-57), 3) := by decide +kernel
theorem dX8_product_69 : decode cX8_product 69 = .ok (.iconst 1, 1) := by decide +kernel
theorem dX8_product_70 : decode cX8_product 70 = .ok (.ireturn, 1) := by decide +kernel
theorem dX8_opens_0 : decode cX8_opens 0 = .ok (.aload_n 0, 1) := by decide +kernel
theorem dX8_opens_1 : decode cX8_opens 1 = .ok (.getfield 103, 3) := by decide +kernel
theorem dX8_opens_4 : decode cX8_opens 4 = .ok (.iconst 5, 1) := by decide +kernel
theorem dX8_opens_5 : decode cX8_opens 5 = .ok (.if_icmp .ne 5, 3) := by decide +kernel
theorem dX8_opens_8 : decode cX8_opens 8 = .ok (.iconst 0, 1) := by decide +kernel
theorem dX8_opens_9 : decode cX8_opens 9 = .ok (.ireturn, 1) := by decide +kernel
theorem dX8_opens_10 : decode cX8_opens 10 = .ok (.aload_n 0, 1) := by decide +kernel
theorem dX8_opens_11 : decode cX8_opens 11 = .ok (.dup, 1) := by decide +kernel
theorem dX8_opens_12 : decode cX8_opens 12 = .ok (.getfield 103, 3) := by decide +kernel
theorem dX8_opens_15 : decode cX8_opens 15 = .ok (.iconst 1, 1) := by decide +kernel
theorem dX8_opens_16 : decode cX8_opens 16 = .ok (.iadd, 1) := by decide +kernel
theorem dX8_opens_17 : decode cX8_opens 17 = .ok (.putfield 103, 3) := by decide +kernel
theorem dX8_opens_20 : decode cX8_opens 20 = .ok (.aload_n 0, 1) := by decide +kernel
theorem dX8_opens_21 : decode cX8_opens 21 = .ok (.dup, 1) := by decide +kernel
theorem dX8_opens_22 : decode cX8_opens 22 = .ok (.getfield 69, 3) := by decide +kernel
theorem dX8_opens_25 : decode cX8_opens 25 = .ok (.iconst 1, 1) := by decide +kernel
theorem dX8_opens_26 : decode cX8_opens 26 = .ok (.iadd, 1) := by decide +kernel
theorem dX8_opens_27 : decode cX8_opens 27 = .ok (.putfield 69, 3) := by decide +kernel
theorem dX8_opens_30 : decode cX8_opens 30 = .ok (.iconst 1, 1) := by decide +kernel
theorem dX8_opens_31 : decode cX8_opens 31 = .ok (.ireturn, 1) := by decide +kernel
theorem dX8_one_0 : decode cX8_one 0 = .ok (.aload_n 0, 1) := by decide +kernel
theorem dX8_one_1 : decode cX8_one 1 = .ok (.invokevirtual 83, 3) := by decide +kernel
theorem dX8_one_4 : decode cX8_one 4 = .ok (.istore_n 1, 1) := by decide +kernel
theorem dX8_one_5 : decode cX8_one 5 = .ok (.aload_n 0, 1) := by decide +kernel
theorem dX8_one_6 : decode cX8_one 6 = .ok (.iload_n 1, 1) := by decide +kernel
theorem dX8_one_7 : decode cX8_one 7 = .ok (.invokevirtual 106, 3) := by decide +kernel
theorem dX8_one_10 : decode cX8_one 10 = .ok (.ifCond .eq 21, 3) := by decide +kernel
theorem dX8_one_13 : decode cX8_one 13 = .ok (.aload_n 0, 1) := by decide +kernel
theorem dX8_one_14 : decode cX8_one 14 = .ok (.dup, 1) := by decide +kernel
theorem dX8_one_15 : decode cX8_one 15 = .ok (.getfield 69, 3) := by decide +kernel
theorem dX8_one_18 : decode cX8_one 18 = .ok (.iconst 1, 1) := by decide +kernel
theorem dX8_one_19 : decode cX8_one 19 = .ok (.iadd, 1) := by decide +kernel
theorem dX8_one_20 : decode cX8_one 20 = .ok (.putfield 69, 3) := by decide +kernel
theorem dX8_one_23 : decode cX8_one 23 = .ok (.aload_n 0, 1) := by decide +kernel
theorem dX8_one_24 : decode cX8_one 24 = .ok (.iconst 1, 1) := by decide +kernel
theorem dX8_one_25 : decode cX8_one 25 = .ok (.iload_n 1, 1) := by decide +kernel
theorem dX8_one_26 : decode cX8_one 26 = .ok (.invokevirtual 87, 3) := by decide +kernel
theorem dX8_one_29 : decode cX8_one 29 = .ok (.iconst 1, 1) := by decide +kernel
theorem dX8_one_30 : decode cX8_one 30 = .ok (.ireturn, 1) := by decide +kernel
theorem dX8_one_31 : decode cX8_one 31 = .ok (.iload_n 1, 1) := by decide +kernel
theorem dX8_one_32 : decode cX8_one 32 = .ok (.bipush 48, 2) := by decide +kernel
theorem dX8_one_34 : decode cX8_one 34 = .ok (.bipush 57, 2) := by decide +kernel
theorem dX8_one_36 : decode cX8_one 36 = .ok (.invokestatic 59, 3) := by decide +kernel
theorem dX8_one_39 : decode cX8_one 39 = .ok (.ifCond .eq 63, 3) := by decide +kernel
theorem dX8_one_42 : decode cX8_one 42 = .ok (.iconst 0, 1) := by decide +kernel
theorem dX8_one_43 : decode cX8_one 43 = .ok (.istore_n 2, 1) := by decide +kernel
theorem dX8_one_44 : decode cX8_one 44 = .ok (.iconst 0, 1) := by decide +kernel
theorem dX8_one_45 : decode cX8_one 45 = .ok (.istore_n 3, 1) := by decide +kernel
theorem dX8_one_46 : decode cX8_one 46 = .ok (.iload_n 3, 1) := by decide +kernel
theorem dX8_one_47 : decode cX8_one 47 = .ok (.iconst 4, 1) := by decide +kernel
theorem dX8_one_48 : decode cX8_one 48 = .ok (.if_icmp .ge 46, 3) := by decide +kernel
theorem dX8_one_51 : decode cX8_one 51 = .ok (.aload_n 0, 1) := by decide +kernel
theorem dX8_one_52 : decode cX8_one 52 = .ok (.invokevirtual 83, 3) := by decide +kernel
theorem dX8_one_55 : decode cX8_one 55 = .ok (.bipush 48, 2) := by decide +kernel
theorem dX8_one_57 : decode cX8_one 57 = .ok (.bipush 57, 2) := by decide +kernel
theorem dX8_one_59 : decode cX8_one 59 = .ok (.invokestatic 59, 3) := by decide +kernel
theorem dX8_one_62 : decode cX8_one 62 = .ok (.ifCond .eq 32, 3) := by decide +kernel
theorem dX8_one_65 : decode cX8_one 65 = .ok (.bipush 10, 2) := by decide +kernel
theorem dX8_one_67 : decode cX8_one 67 = .ok (.iload_n 2, 1) := by decide +kernel
theorem dX8_one_68 : decode cX8_one 68 = .ok (.imul, 1) := by decide +kernel
theorem dX8_one_69 : decode cX8_one 69 = .ok (.aload_n 0, 1) := by decide +kernel
theorem dX8_one_70 : decode cX8_one 70 = .ok (.invokevirtual 83, 3) := by decide +kernel
theorem dX8_one_73 : decode cX8_one 73 = .ok (.iadd, 1) := by decide +kernel
theorem dX8_one_74 : decode cX8_one 74 = .ok (.bipush 48, 2) := by decide +kernel
theorem dX8_one_76 : decode cX8_one 76 = .ok (.isub, 1) := by decide +kernel
theorem dX8_one_77 : decode cX8_one 77 = .ok (.istore_n 2, 1) := by decide +kernel
theorem dX8_one_78 : decode cX8_one 78 = .ok (.aload_n 0, 1) := by decide +kernel
theorem dX8_one_79 : decode cX8_one 79 = .ok (.dup, 1) := by decide +kernel
theorem dX8_one_80 : decode cX8_one 80 = .ok (.getfield 69, 3) := by decide +kernel
theorem dX8_one_83 : decode cX8_one 83 = .ok (.iconst 1, 1) := by decide +kernel
theorem dX8_one_84 : decode cX8_one 84 = .ok (.iadd, 1) := by decide +kernel
theorem dX8_one_85 : decode cX8_one 85 = .ok (.putfield 69, 3) := by decide +kernel
theorem dX8_one_88 : decode cX8_one 88 = .ok (.iinc 3 1, 3) := by decide +kernel
theorem dX8_one_91 : decode cX8_one 91 = .ok (.goto (-45), 3) := by decide +kernel
theorem dX8_one_94 : decode cX8_one 94 = .ok (.aload_n 0, 1) := by decide +kernel
theorem dX8_one_95 : decode cX8_one 95 = .ok (.iconst 0, 1) := by decide +kernel
theorem dX8_one_96 : decode cX8_one 96 = .ok (.iload_n 2, 1) := by decide +kernel
theorem dX8_one_97 : decode cX8_one 97 = .ok (.invokevirtual 87, 3) := by decide +kernel
theorem dX8_one_100 : decode cX8_one 100 = .ok (.iconst 1, 1) := by decide +kernel
theorem dX8_one_101 : decode cX8_one 101 = .ok (.ireturn, 1) := by decide +kernel
theorem dX8_one_102 : decode cX8_one 102 = .ok (.iload_n 1, 1) := by decide +kernel
theorem dX8_one_103 : decode cX8_one 103 = .ok (.bipush 33, 2) := by decide +kernel
theorem dX8_one_105 : decode cX8_one 105 = .ok (.if_icmp .ne 37, 3) := by decide +kernel
theorem dX8_one_108 : decode cX8_one 108 = .ok (.aload_n 0, 1) := by decide +kernel
theorem dX8_one_109 : decode cX8_one 109 = .ok (.invokevirtual 110, 3) := by decide +kernel
theorem dX8_one_112 : decode cX8_one 112 = .ok (.ifCond .eq 10, 3) := by decide +kernel
theorem dX8_one_115 : decode cX8_one 115 = .ok (.aload_n 0, 1) := by decide +kernel
theorem dX8_one_116 : decode cX8_one 116 = .ok (.invokevirtual 100, 3) := by decide +kernel
theorem dX8_one_119 : decode cX8_one 119 = .ok (.ifCond .ne 5, 3) := by decide +kernel
theorem dX8_one_122 : decode cX8_one 122 = .ok (.iconst 0, 1) := by decide +kernel
theorem dX8_one_123 : decode cX8_one 123 = .ok (.ireturn, 1) := by decide +kernel
theorem dX8_one_124 : decode cX8_one 124 = .ok (.aload_n 0, 1) := by decide +kernel
theorem dX8_one_125 : decode cX8_one 125 = .ok (.dup, 1) := by decide +kernel
theorem dX8_one_126 : decode cX8_one 126 = .ok (.getfield 103, 3) := by decide +kernel
theorem dX8_one_129 : decode cX8_one 129 = .ok (.iconst 1, 1) := by decide +kernel
theorem dX8_one_130 : decode cX8_one 130 = .ok (.isub, 1) := by decide +kernel
theorem dX8_one_131 : decode cX8_one 131 = .ok (.putfield 103, 3) := by decide +kernel
theorem dX8_one_134 : decode cX8_one 134 = .ok (.aload_n 0, 1) := by decide +kernel
theorem dX8_one_135 : decode cX8_one 135 = .ok (.iconst 2, 1) := by decide +kernel
theorem dX8_one_136 : decode cX8_one 136 = .ok (.iconst 0, 1) := by decide +kernel
theorem dX8_one_137 : decode cX8_one 137 = .ok (.invokevirtual 87, 3) := by decide +kernel
theorem dX8_one_140 : decode cX8_one 140 = .ok (.iconst 1, 1) := by decide +kernel
theorem dX8_one_141 : decode cX8_one 141 = .ok (.ireturn, 1) := by decide +kernel
theorem dX8_one_142 : decode cX8_one 142 = .ok (.iload_n 1, 1) := by decide +kernel
theorem dX8_one_143 : decode cX8_one 143 = .ok (.bipush 40, 2) := by decide +kernel
theorem dX8_one_145 : decode cX8_one 145 = .ok (.if_icmp .ne 26, 3) := by decide +kernel
theorem dX8_one_148 : decode cX8_one 148 = .ok (.aload_n 0, 1) := by decide +kernel
theorem dX8_one_149 : decode cX8_one 149 = .ok (.invokevirtual 110, 3) := by decide +kernel
theorem dX8_one_152 : decode cX8_one 152 = .ok (.ifCond .eq 19, 3) := by decide +kernel
theorem dX8_one_155 : decode cX8_one 155 = .ok (.aload_n 0, 1) := by decide +kernel
theorem dX8_one_156 : decode cX8_one 156 = .ok (.invokevirtual 113, 3) := by decide +kernel
theorem dX8_one_159 : decode cX8_one 159 = .ok (.ifCond .eq 12, 3) := by decide +kernel
theorem dX8_one_162 : decode cX8_one 162 = .ok (.aload_n 0, 1) := by decide +kernel
theorem dX8_one_163 : decode cX8_one 163 = .ok (.invokevirtual 83, 3) := by decide +kernel
theorem dX8_one_166 : decode cX8_one 166 = .ok (.bipush 41, 2) := by decide +kernel
theorem dX8_one_168 : decode cX8_one 168 = .ok (.if_icmp .eq 5, 3) := by decide +kernel
theorem dX8_one_171 : decode cX8_one 171 = .ok (.iconst 0, 1) := by decide +kernel
theorem dX8_one_172 : decode cX8_one 172 = .ok (.ireturn, 1) := by decide +kernel
theorem dX8_one_173 : decode cX8_one 173 = .ok (.aload_n 0, 1) := by decide +kernel
theorem dX8_one_174 : decode cX8_one 174 = .ok (.dup, 1) := by decide +kernel
theorem dX8_one_175 : decode cX8_one 175 = .ok (.getfield 69, 3) := by decide +kernel
theorem dX8_one_178 : decode cX8_one 178 = .ok (.iconst 1, 1) := by decide +kernel
theorem dX8_one_179 : decode cX8_one 179 = .ok (.iadd, 1) := by decide +kernel
theorem dX8_one_180 : decode cX8_one 180 = .ok (.putfield 69, 3) := by decide +kernel
theorem dX8_one_183 : decode cX8_one 183 = .ok (.aload_n 0, 1) := by decide +kernel
theorem dX8_one_184 : decode cX8_one 184 = .ok (.dup, 1) := by decide +kernel
theorem dX8_one_185 : decode cX8_one 185 = .ok (.getfield 103, 3) := by decide +kernel
theorem dX8_one_188 : decode cX8_one 188 = .ok (.iconst 1, 1) := by decide +kernel
theorem dX8_one_189 : decode cX8_one 189 = .ok (.isub, 1) := by decide +kernel
theorem dX8_one_190 : decode cX8_one 190 = .ok (.putfield 103, 3) := by decide +kernel
theorem dX8_one_193 : decode cX8_one 193 = .ok (.iconst 1, 1) := by decide +kernel
theorem dX8_one_194 : decode cX8_one 194 = .ok (.ireturn, 1) := by decide +kernel
theorem dX8_hasText_0 : decode cX8_hasText 0 = .ok (.aload_n 0, 1) := by decide +kernel
theorem dX8_hasText_1 : decode cX8_hasText 1 = .ok (.getfield 7, 3) := by decide +kernel
theorem dX8_hasText_4 : decode cX8_hasText 4 = .ok (.bipush 60, 2) := by decide +kernel
theorem dX8_hasText_6 : decode cX8_hasText 6 = .ok (.bipush 125, 2) := by decide +kernel
theorem dX8_hasText_8 : decode cX8_hasText 8 = .ok (.iload_n 1, 1) := by decide +kernel
theorem dX8_hasText_9 : decode cX8_hasText 9 = .ok (.imul, 1) := by decide +kernel
theorem dX8_hasText_10 : decode cX8_hasText 10 = .ok (.iadd, 1) := by decide +kernel
theorem dX8_hasText_11 : decode cX8_hasText 11 = .ok (.iaload, 1) := by decide +kernel
theorem dX8_hasText_12 : decode cX8_hasText 12 = .ok (.ifCond .le 7, 3) := by decide +kernel
theorem dX8_hasText_15 : decode cX8_hasText 15 = .ok (.iconst 1, 1) := by decide +kernel
theorem dX8_hasText_16 : decode cX8_hasText 16 = .ok (.goto 4, 3) := by decide +kernel
theorem dX8_hasText_19 : decode cX8_hasText 19 = .ok (.iconst 0, 1) := by decide +kernel
theorem dX8_hasText_20 : decode cX8_hasText 20 = .ok (.ireturn, 1) := by decide +kernel
theorem dX8_text_0 : decode cX8_text 0 = .ok (.iload_n 1, 1) := by decide +kernel
theorem dX8_text_1 : decode cX8_text 1 = .ok (.iconst 0, 1) := by decide +kernel
theorem dX8_text_2 : decode cX8_text 2 = .ok (.iconst 1, 1) := by decide +kernel
theorem dX8_text_3 : decode cX8_text 3 = .ok (.invokestatic 59, 3) := by decide +kernel
theorem dX8_text_6 : decode cX8_text 6 = .ok (.ifCond .ne 9, 3) := by decide +kernel
theorem dX8_text_9 : decode cX8_text 9 = .ok (.aload_n 0, 1) := by decide +kernel
theorem dX8_text_10 : decode cX8_text 10 = .ok (.iconst 1, 1) := by decide +kernel
theorem dX8_text_11 : decode cX8_text 11 = .ok (.invokevirtual 63, 3) := by decide +kernel
theorem dX8_text_14 : decode cX8_text 14 = .ok (.ireturn, 1) := by decide +kernel
theorem dX8_text_15 : decode cX8_text 15 = .ok (.aload_n 0, 1) := by decide +kernel
theorem dX8_text_16 : decode cX8_text 16 = .ok (.iload_n 1, 1) := by decide +kernel
theorem dX8_text_17 : decode cX8_text 17 = .ok (.putfield 73, 3) := by decide +kernel
theorem dX8_text_20 : decode cX8_text 20 = .ok (.aload_n 0, 1) := by decide +kernel
theorem dX8_text_21 : decode cX8_text 21 = .ok (.iconst 0, 1) := by decide +kernel
theorem dX8_text_22 : decode cX8_text 22 = .ok (.putfield 69, 3) := by decide +kernel
theorem dX8_text_25 : decode cX8_text 25 = .ok (.aload_n 0, 1) := by decide +kernel
theorem dX8_text_26 : decode cX8_text 26 = .ok (.iconst 0, 1) := by decide +kernel
theorem dX8_text_27 : decode cX8_text 27 = .ok (.putfield 103, 3) := by decide +kernel
theorem dX8_text_30 : decode cX8_text 30 = .ok (.aload_n 0, 1) := by decide +kernel
theorem dX8_text_31 : decode cX8_text 31 = .ok (.iconst 0, 1) := by decide +kernel
theorem dX8_text_32 : decode cX8_text 32 = .ok (.putfield 76, 3) := by decide +kernel
theorem dX8_text_35 : decode cX8_text 35 = .ok (.aload_n 0, 1) := by decide +kernel
theorem dX8_text_36 : decode cX8_text 36 = .ok (.invokevirtual 113, 3) := by decide +kernel
theorem dX8_text_39 : decode cX8_text 39 = .ok (.ifCond .eq 20, 3) := by decide +kernel
theorem dX8_text_42 : decode cX8_text 42 = .ok (.aload_n 0, 1) := by decide +kernel
theorem dX8_text_43 : decode cX8_text 43 = .ok (.getfield 69, 3) := by decide +kernel
theorem dX8_text_46 : decode cX8_text 46 = .ok (.aload_n 0, 1) := by decide +kernel
theorem dX8_text_47 : decode cX8_text 47 = .ok (.getfield 7, 3) := by decide +kernel
theorem dX8_text_50 : decode cX8_text 50 = .ok (.iconst 3, 1) := by decide +kernel
theorem dX8_text_51 : decode cX8_text 51 = .ok (.iaload, 1) := by decide +kernel
theorem dX8_text_52 : decode cX8_text 52 = .ok (.if_icmp .ne 7, 3) := by decide +kernel
theorem dX8_text_55 : decode cX8_text 55 = .ok (.iconst 1, 1) := by decide +kernel
theorem dX8_text_56 : decode cX8_text 56 = .ok (.goto 4, 3) := by decide +kernel
theorem dX8_text_59 : decode cX8_text 59 = .ok (.iconst 0, 1) := by decide +kernel
theorem dX8_text_60 : decode cX8_text 60 = .ok (.istore_n 2, 1) := by decide +kernel
theorem dX8_text_61 : decode cX8_text 61 = .ok (.aload_n 0, 1) := by decide +kernel
theorem dX8_text_62 : decode cX8_text 62 = .ok (.getfield 7, 3) := by decide +kernel
theorem dX8_text_65 : decode cX8_text 65 = .ok (.iconst 3, 1) := by decide +kernel
theorem dX8_text_66 : decode cX8_text 66 = .ok (.iconst 0, 1) := by decide +kernel
theorem dX8_text_67 : decode cX8_text 67 = .ok (.iastore, 1) := by decide +kernel
theorem dX8_text_68 : decode cX8_text 68 = .ok (.iload_n 2, 1) := by decide +kernel
theorem dX8_text_69 : decode cX8_text 69 = .ok (.ifCond .ne 11, 3) := by decide +kernel
theorem dX8_text_72 : decode cX8_text 72 = .ok (.bipush (-10), 2) := by decide +kernel
theorem dX8_text_74 : decode cX8_text 74 = .ok (.aload_n 0, 1) := by decide +kernel
theorem dX8_text_75 : decode cX8_text 75 = .ok (.getfield 69, 3) := by decide +kernel
theorem dX8_text_78 : decode cX8_text 78 = .ok (.isub, 1) := by decide +kernel
theorem dX8_text_79 : decode cX8_text 79 = .ok (.ireturn, 1) := by decide +kernel
theorem dX8_text_80 : decode cX8_text 80 = .ok (.bipush 60, 2) := by decide +kernel
theorem dX8_text_82 : decode cX8_text 82 = .ok (.bipush 125, 2) := by decide +kernel
theorem dX8_text_84 : decode cX8_text 84 = .ok (.iload_n 1, 1) := by decide +kernel
theorem dX8_text_85 : decode cX8_text 85 = .ok (.imul, 1) := by decide +kernel
theorem dX8_text_86 : decode cX8_text 86 = .ok (.iadd, 1) := by decide +kernel
theorem dX8_text_87 : decode cX8_text 87 = .ok (.istore_n 3, 1) := by decide +kernel
theorem dX8_text_88 : decode cX8_text 88 = .ok (.aload_n 0, 1) := by decide +kernel
theorem dX8_text_89 : decode cX8_text 89 = .ok (.getfield 7, 3) := by decide +kernel
theorem dX8_text_92 : decode cX8_text 92 = .ok (.iload_n 3, 1) := by decide +kernel
theorem dX8_text_93 : decode cX8_text 93 = .ok (.aload_n 0, 1) := by decide +kernel
theorem dX8_text_94 : decode cX8_text 94 = .ok (.getfield 76, 3) := by decide +kernel
theorem dX8_text_97 : decode cX8_text 97 = .ok (.iastore, 1) := by decide +kernel
theorem dX8_text_98 : decode cX8_text 98 = .ok (.iconst 0, 1) := by decide +kernel
theorem dX8_text_99 : decode cX8_text 99 = .ok (.istore 4, 2) := by decide +kernel
theorem dX8_text_101 : decode cX8_text 101 = .ok (.iload 4, 2) := by decide +kernel
theorem dX8_text_103 : decode cX8_text 103 = .ok (.iconst 2, 1) := by decide +kernel
theorem dX8_text_104 : decode cX8_text 104 = .ok (.aload_n 0, 1) := by decide +kernel
theorem dX8_text_105 : decode cX8_text 105 = .ok (.getfield 76, 3) := by decide +kernel
theorem dX8_text_108 : decode cX8_text 108 = .ok (.imul, 1) := by decide +kernel
theorem dX8_text_109 : decode cX8_text 109 = .ok (.if_icmp .ge 27, 3) := by decide +kernel
theorem dX8_text_112 : decode cX8_text 112 = .ok (.aload_n 0, 1) := by decide +kernel
theorem dX8_text_113 : decode cX8_text 113 = .ok (.getfield 7, 3) := by decide +kernel
theorem dX8_text_116 : decode cX8_text 116 = .ok (.iload_n 3, 1) := by decide +kernel
theorem dX8_text_117 : decode cX8_text 117 = .ok (.iconst 1, 1) := by decide +kernel
theorem dX8_text_118 : decode cX8_text 118 = .ok (.iadd, 1) := by decide +kernel
theorem dX8_text_119 : decode cX8_text 119 = .ok (.iload 4, 2) := by decide +kernel
theorem dX8_text_121 : decode cX8_text 121 = .ok (.iadd, 1) := by decide +kernel
theorem dX8_text_122 : decode cX8_text 122 = .ok (.aload_n 0, 1) := by decide +kernel
theorem dX8_text_123 : decode cX8_text 123 = .ok (.getfield 22, 3) := by decide +kernel
theorem dX8_text_126 : decode cX8_text 126 = .ok (.iload 4, 2) := by decide +kernel
theorem dX8_text_128 : decode cX8_text 128 = .ok (.iaload, 1) := by decide +kernel
theorem dX8_text_129 : decode cX8_text 129 = .ok (.iastore, 1) := by decide +kernel
theorem dX8_text_130 : decode cX8_text 130 = .ok (.iinc 4 1, 3) := by decide +kernel
theorem dX8_text_133 : decode cX8_text 133 = .ok (.goto (-32), 3) := by decide +kernel
theorem dX8_text_136 : decode cX8_text 136 = .ok (.iconst 1, 1) := by decide +kernel
theorem dX8_text_137 : decode cX8_text 137 = .ok (.ireturn, 1) := by decide +kernel
theorem dX8_untell_0 : decode cX8_untell 0 = .ok (.iload_n 1, 1) := by decide +kernel
theorem dX8_untell_1 : decode cX8_untell 1 = .ok (.iconst 0, 1) := by decide +kernel
theorem dX8_untell_2 : decode cX8_untell 2 = .ok (.iconst 1, 1) := by decide +kernel
theorem dX8_untell_3 : decode cX8_untell 3 = .ok (.invokestatic 59, 3) := by decide +kernel
theorem dX8_untell_6 : decode cX8_untell 6 = .ok (.ifCond .ne 9, 3) := by decide +kernel
theorem dX8_untell_9 : decode cX8_untell 9 = .ok (.aload_n 0, 1) := by decide +kernel
theorem dX8_untell_10 : decode cX8_untell 10 = .ok (.iconst 1, 1) := by decide +kernel
theorem dX8_untell_11 : decode cX8_untell 11 = .ok (.invokevirtual 63, 3) := by decide +kernel
theorem dX8_untell_14 : decode cX8_untell 14 = .ok (.ireturn, 1) := by decide +kernel
theorem dX8_untell_15 : decode cX8_untell 15 = .ok (.aload_n 0, 1) := by decide +kernel
theorem dX8_untell_16 : decode cX8_untell 16 = .ok (.iload_n 1, 1) := by decide +kernel
theorem dX8_untell_17 : decode cX8_untell 17 = .ok (.invokevirtual 116, 3) := by decide +kernel
theorem dX8_untell_20 : decode cX8_untell 20 = .ok (.ifCond .eq 7, 3) := by decide +kernel
theorem dX8_untell_23 : decode cX8_untell 23 = .ok (.iconst 1, 1) := by decide +kernel
theorem dX8_untell_24 : decode cX8_untell 24 = .ok (.goto 4, 3) := by decide +kernel
theorem dX8_untell_27 : decode cX8_untell 27 = .ok (.iconst 0, 1) := by decide +kernel
theorem dX8_untell_28 : decode cX8_untell 28 = .ok (.istore_n 2, 1) := by decide +kernel
theorem dX8_untell_29 : decode cX8_untell 29 = .ok (.aload_n 0, 1) := by decide +kernel
theorem dX8_untell_30 : decode cX8_untell 30 = .ok (.getfield 7, 3) := by decide +kernel
theorem dX8_untell_33 : decode cX8_untell 33 = .ok (.bipush 60, 2) := by decide +kernel
theorem dX8_untell_35 : decode cX8_untell 35 = .ok (.bipush 125, 2) := by decide +kernel
theorem dX8_untell_37 : decode cX8_untell 37 = .ok (.iload_n 1, 1) := by decide +kernel
theorem dX8_untell_38 : decode cX8_untell 38 = .ok (.imul, 1) := by decide +kernel
theorem dX8_untell_39 : decode cX8_untell 39 = .ok (.iadd, 1) := by decide +kernel
theorem dX8_untell_40 : decode cX8_untell 40 = .ok (.iconst 0, 1) := by decide +kernel
theorem dX8_untell_41 : decode cX8_untell 41 = .ok (.iastore, 1) := by decide +kernel
theorem dX8_untell_42 : decode cX8_untell 42 = .ok (.iload_n 2, 1) := by decide +kernel
theorem dX8_untell_43 : decode cX8_untell 43 = .ok (.ireturn, 1) := by decide +kernel
theorem dX8_joined_0 : decode cX8_joined 0 = .ok (.iload_n 0, 1) := by decide +kernel
theorem dX8_joined_1 : decode cX8_joined 1 = .ok (.tableswitch 217 37 62 #[153, 203, 217, 217, 217, 127, 119, 217, 123, 217, 131, 217, 217, 217, 217, 217, 217, 217, 217, 217, 217, 217, 217, 170, 192, 181], 119) := by decide +kernel
theorem dX8_joined_120 : decode cX8_joined 120 = .ok (.iload_n 1, 1) := by decide +kernel
theorem dX8_joined_121 : decode cX8_joined 121 = .ok (.iload_n 2, 1) := by decide +kernel
theorem dX8_joined_122 : decode cX8_joined 122 = .ok (.iadd, 1) := by decide +kernel
theorem dX8_joined_123 : decode cX8_joined 123 = .ok (.ireturn, 1) := by decide +kernel
theorem dX8_joined_124 : decode cX8_joined 124 = .ok (.iload_n 1, 1) := by decide +kernel
theorem dX8_joined_125 : decode cX8_joined 125 = .ok (.iload_n 2, 1) := by decide +kernel
theorem dX8_joined_126 : decode cX8_joined 126 = .ok (.isub, 1) := by decide +kernel
theorem dX8_joined_127 : decode cX8_joined 127 = .ok (.ireturn, 1) := by decide +kernel
theorem dX8_joined_128 : decode cX8_joined 128 = .ok (.iload_n 1, 1) := by decide +kernel
theorem dX8_joined_129 : decode cX8_joined 129 = .ok (.iload_n 2, 1) := by decide +kernel
theorem dX8_joined_130 : decode cX8_joined 130 = .ok (.imul, 1) := by decide +kernel
theorem dX8_joined_131 : decode cX8_joined 131 = .ok (.ireturn, 1) := by decide +kernel
theorem dX8_joined_132 : decode cX8_joined 132 = .ok (.iload_n 2, 1) := by decide +kernel
theorem dX8_joined_133 : decode cX8_joined 133 = .ok (.ifCond .ne 7, 3) := by decide +kernel
theorem dX8_joined_136 : decode cX8_joined 136 = .ok (.iconst 0, 1) := by decide +kernel
theorem dX8_joined_137 : decode cX8_joined 137 = .ok (.goto 16, 3) := by decide +kernel
theorem dX8_joined_140 : decode cX8_joined 140 = .ok (.iload_n 2, 1) := by decide +kernel
theorem dX8_joined_141 : decode cX8_joined 141 = .ok (.iconst (-1), 1) := by decide +kernel
theorem dX8_joined_142 : decode cX8_joined 142 = .ok (.if_icmp .ne 8, 3) := by decide +kernel
theorem dX8_joined_145 : decode cX8_joined 145 = .ok (.iload_n 1, 1) := by decide +kernel
theorem dX8_joined_146 : decode cX8_joined 146 = .ok (.ineg, 1) := by decide +kernel
theorem dX8_joined_147 : decode cX8_joined 147 = .ok (.goto 6, 3) := by decide +kernel
theorem dX8_joined_150 : decode cX8_joined 150 = .ok (.iload_n 1, 1) := by decide +kernel
theorem dX8_joined_151 : decode cX8_joined 151 = .ok (.iload_n 2, 1) := by decide +kernel
theorem dX8_joined_152 : decode cX8_joined 152 = .ok (.idiv, 1) := by decide +kernel
theorem dX8_joined_153 : decode cX8_joined 153 = .ok (.ireturn, 1) := by decide +kernel
theorem dX8_joined_154 : decode cX8_joined 154 = .ok (.iload_n 2, 1) := by decide +kernel
theorem dX8_joined_155 : decode cX8_joined 155 = .ok (.ifCond .eq 8, 3) := by decide +kernel
theorem dX8_joined_158 : decode cX8_joined 158 = .ok (.iload_n 2, 1) := by decide +kernel
theorem dX8_joined_159 : decode cX8_joined 159 = .ok (.iconst (-1), 1) := by decide +kernel
theorem dX8_joined_160 : decode cX8_joined 160 = .ok (.if_icmp .ne 7, 3) := by decide +kernel
theorem dX8_joined_163 : decode cX8_joined 163 = .ok (.iconst 0, 1) := by decide +kernel
theorem dX8_joined_164 : decode cX8_joined 164 = .ok (.goto 6, 3) := by decide +kernel
theorem dX8_joined_167 : decode cX8_joined 167 = .ok (.iload_n 1, 1) := by decide +kernel
theorem dX8_joined_168 : decode cX8_joined 168 = .ok (.iload_n 2, 1) := by decide +kernel
theorem dX8_joined_169 : decode cX8_joined 169 = .ok (.irem, 1) := by decide +kernel
theorem dX8_joined_170 : decode cX8_joined 170 = .ok (.ireturn, 1) := by decide +kernel
theorem dX8_joined_171 : decode cX8_joined 171 = .ok (.iload_n 1, 1) := by decide +kernel
theorem dX8_joined_172 : decode cX8_joined 172 = .ok (.iload_n 2, 1) := by decide +kernel
theorem dX8_joined_173 : decode cX8_joined 173 = .ok (.if_icmp .ge 7, 3) := by decide +kernel
theorem dX8_joined_176 : decode cX8_joined 176 = .ok (.iconst 1, 1) := by decide +kernel
theorem dX8_joined_177 : decode cX8_joined 177 = .ok (.goto 4, 3) := by decide +kernel
theorem dX8_joined_180 : decode cX8_joined 180 = .ok (.iconst 0, 1) := by decide +kernel
theorem dX8_joined_181 : decode cX8_joined 181 = .ok (.ireturn, 1) := by decide +kernel
theorem dX8_joined_182 : decode cX8_joined 182 = .ok (.iload_n 1, 1) := by decide +kernel
theorem dX8_joined_183 : decode cX8_joined 183 = .ok (.iload_n 2, 1) := by decide +kernel
theorem dX8_joined_184 : decode cX8_joined 184 = .ok (.if_icmp .le 7, 3) := by decide +kernel
theorem dX8_joined_187 : decode cX8_joined 187 = .ok (.iconst 1, 1) := by decide +kernel
theorem dX8_joined_188 : decode cX8_joined 188 = .ok (.goto 4, 3) := by decide +kernel
theorem dX8_joined_191 : decode cX8_joined 191 = .ok (.iconst 0, 1) := by decide +kernel
theorem dX8_joined_192 : decode cX8_joined 192 = .ok (.ireturn, 1) := by decide +kernel
theorem dX8_joined_193 : decode cX8_joined 193 = .ok (.iload_n 1, 1) := by decide +kernel
theorem dX8_joined_194 : decode cX8_joined 194 = .ok (.iload_n 2, 1) := by decide +kernel
theorem dX8_joined_195 : decode cX8_joined 195 = .ok (.if_icmp .ne 7, 3) := by decide +kernel
theorem dX8_joined_198 : decode cX8_joined 198 = .ok (.iconst 1, 1) := by decide +kernel
theorem dX8_joined_199 : decode cX8_joined 199 = .ok (.goto 4, 3) := by decide +kernel
theorem dX8_joined_202 : decode cX8_joined 202 = .ok (.iconst 0, 1) := by decide +kernel
theorem dX8_joined_203 : decode cX8_joined 203 = .ok (.ireturn, 1) := by decide +kernel
theorem dX8_joined_204 : decode cX8_joined 204 = .ok (.iload_n 1, 1) := by decide +kernel
theorem dX8_joined_205 : decode cX8_joined 205 = .ok (.ifCond .eq 11, 3) := by decide +kernel
theorem dX8_joined_208 : decode cX8_joined 208 = .ok (.iload_n 2, 1) := by decide +kernel
theorem dX8_joined_209 : decode cX8_joined 209 = .ok (.ifCond .eq 7, 3) := by decide +kernel
theorem dX8_joined_212 : decode cX8_joined 212 = .ok (.iconst 1, 1) := by decide +kernel
theorem dX8_joined_213 : decode cX8_joined 213 = .ok (.goto 4, 3) := by decide +kernel
theorem dX8_joined_216 : decode cX8_joined 216 = .ok (.iconst 0, 1) := by decide +kernel
theorem dX8_joined_217 : decode cX8_joined 217 = .ok (.ireturn, 1) := by decide +kernel
theorem dX8_joined_218 : decode cX8_joined 218 = .ok (.iload_n 1, 1) := by decide +kernel
theorem dX8_joined_219 : decode cX8_joined 219 = .ok (.ifCond .ne 7, 3) := by decide +kernel
theorem dX8_joined_222 : decode cX8_joined 222 = .ok (.iload_n 2, 1) := by decide +kernel
theorem dX8_joined_223 : decode cX8_joined 223 = .ok (.ifCond .eq 7, 3) := by decide +kernel
theorem dX8_joined_226 : decode cX8_joined 226 = .ok (.iconst 1, 1) := by decide +kernel
theorem dX8_joined_227 : decode cX8_joined 227 = .ok (.goto 4, 3) := by decide +kernel
theorem dX8_joined_230 : decode cX8_joined 230 = .ok (.iconst 0, 1) := by decide +kernel
theorem dX8_joined_231 : decode cX8_joined 231 = .ok (.ireturn, 1) := by decide +kernel
theorem dX8_worked_0 : decode cX8_worked 0 = .ok (.bipush 60, 2) := by decide +kernel
theorem dX8_worked_2 : decode cX8_worked 2 = .ok (.bipush 125, 2) := by decide +kernel
theorem dX8_worked_4 : decode cX8_worked 4 = .ok (.iload_n 1, 1) := by decide +kernel
theorem dX8_worked_5 : decode cX8_worked 5 = .ok (.imul, 1) := by decide +kernel
theorem dX8_worked_6 : decode cX8_worked 6 = .ok (.iadd, 1) := by decide +kernel
theorem dX8_worked_7 : decode cX8_worked 7 = .ok (.istore_n 2, 1) := by decide +kernel
theorem dX8_worked_8 : decode cX8_worked 8 = .ok (.iconst 0, 1) := by decide +kernel
theorem dX8_worked_9 : decode cX8_worked 9 = .ok (.istore_n 3, 1) := by decide +kernel
theorem dX8_worked_10 : decode cX8_worked 10 = .ok (.iconst 0, 1) := by decide +kernel
theorem dX8_worked_11 : decode cX8_worked 11 = .ok (.istore 4, 2) := by decide +kernel
theorem dX8_worked_13 : decode cX8_worked 13 = .ok (.iload 4, 2) := by decide +kernel
theorem dX8_worked_15 : decode cX8_worked 15 = .ok (.aload_n 0, 1) := by decide +kernel
theorem dX8_worked_16 : decode cX8_worked 16 = .ok (.getfield 7, 3) := by decide +kernel
theorem dX8_worked_19 : decode cX8_worked 19 = .ok (.iload_n 2, 1) := by decide +kernel
theorem dX8_worked_20 : decode cX8_worked 20 = .ok (.iaload, 1) := by decide +kernel
theorem dX8_worked_21 : decode cX8_worked 21 = .ok (.if_icmp .ge 142, 3) := by decide +kernel
theorem dX8_worked_24 : decode cX8_worked 24 = .ok (.aload_n 0, 1) := by decide +kernel
theorem dX8_worked_25 : decode cX8_worked 25 = .ok (.getfield 7, 3) := by decide +kernel
theorem dX8_worked_28 : decode cX8_worked 28 = .ok (.iload_n 2, 1) := by decide +kernel
theorem dX8_worked_29 : decode cX8_worked 29 = .ok (.iconst 1, 1) := by decide +kernel
theorem dX8_worked_30 : decode cX8_worked 30 = .ok (.iadd, 1) := by decide +kernel
theorem dX8_worked_31 : decode cX8_worked 31 = .ok (.iconst 2, 1) := by decide +kernel
theorem dX8_worked_32 : decode cX8_worked 32 = .ok (.iload 4, 2) := by decide +kernel
theorem dX8_worked_34 : decode cX8_worked 34 = .ok (.imul, 1) := by decide +kernel
theorem dX8_worked_35 : decode cX8_worked 35 = .ok (.iadd, 1) := by decide +kernel
theorem dX8_worked_36 : decode cX8_worked 36 = .ok (.iaload, 1) := by decide +kernel
theorem dX8_worked_37 : decode cX8_worked 37 = .ok (.istore 5, 2) := by decide +kernel
theorem dX8_worked_39 : decode cX8_worked 39 = .ok (.aload_n 0, 1) := by decide +kernel
theorem dX8_worked_40 : decode cX8_worked 40 = .ok (.getfield 7, 3) := by decide +kernel
theorem dX8_worked_43 : decode cX8_worked 43 = .ok (.iload_n 2, 1) := by decide +kernel
theorem dX8_worked_44 : decode cX8_worked 44 = .ok (.iconst 2, 1) := by decide +kernel
theorem dX8_worked_45 : decode cX8_worked 45 = .ok (.iadd, 1) := by decide +kernel
theorem dX8_worked_46 : decode cX8_worked 46 = .ok (.iconst 2, 1) := by decide +kernel
theorem dX8_worked_47 : decode cX8_worked 47 = .ok (.iload 4, 2) := by decide +kernel
theorem dX8_worked_49 : decode cX8_worked 49 = .ok (.imul, 1) := by decide +kernel
theorem dX8_worked_50 : decode cX8_worked 50 = .ok (.iadd, 1) := by decide +kernel
theorem dX8_worked_51 : decode cX8_worked 51 = .ok (.iaload, 1) := by decide +kernel
theorem dX8_worked_52 : decode cX8_worked 52 = .ok (.istore 6, 2) := by decide +kernel
theorem dX8_worked_54 : decode cX8_worked 54 = .ok (.iload 5, 2) := by decide +kernel
theorem dX8_worked_56 : decode cX8_worked 56 = .ok (.ifCond .eq 9, 3) := by decide +kernel
theorem dX8_worked_59 : decode cX8_worked 59 = .ok (.iload 5, 2) := by decide +kernel
theorem dX8_worked_61 : decode cX8_worked 61 = .ok (.iconst 1, 1) := by decide +kernel
theorem dX8_worked_62 : decode cX8_worked 62 = .ok (.if_icmp .ne 32, 3) := by decide +kernel
theorem dX8_worked_65 : decode cX8_worked 65 = .ok (.aload_n 0, 1) := by decide +kernel
theorem dX8_worked_66 : decode cX8_worked 66 = .ok (.getfield 28, 3) := by decide +kernel
theorem dX8_worked_69 : decode cX8_worked 69 = .ok (.iload_n 3, 1) := by decide +kernel
theorem dX8_worked_70 : decode cX8_worked 70 = .ok (.iload 5, 2) := by decide +kernel
theorem dX8_worked_72 : decode cX8_worked 72 = .ok (.ifCond .ne 8, 3) := by decide +kernel
theorem dX8_worked_75 : decode cX8_worked 75 = .ok (.iload 6, 2) := by decide +kernel
theorem dX8_worked_77 : decode cX8_worked 77 = .ok (.goto 10, 3) := by decide +kernel
theorem dX8_worked_80 : decode cX8_worked 80 = .ok (.aload_n 0, 1) := by decide +kernel
theorem dX8_worked_81 : decode cX8_worked 81 = .ok (.getfield 25, 3) := by decide +kernel
theorem dX8_worked_84 : decode cX8_worked 84 = .ok (.iload 6, 2) := by decide +kernel
theorem dX8_worked_86 : decode cX8_worked 86 = .ok (.iaload, 1) := by decide +kernel
theorem dX8_worked_87 : decode cX8_worked 87 = .ok (.iastore, 1) := by decide +kernel
theorem dX8_worked_88 : decode cX8_worked 88 = .ok (.iinc 3 1, 3) := by decide +kernel
theorem dX8_worked_91 : decode cX8_worked 91 = .ok (.goto 66, 3) := by decide +kernel
theorem dX8_worked_94 : decode cX8_worked 94 = .ok (.iload 5, 2) := by decide +kernel
theorem dX8_worked_96 : decode cX8_worked 96 = .ok (.iconst 2, 1) := by decide +kernel
theorem dX8_worked_97 : decode cX8_worked 97 = .ok (.if_icmp .ne 30, 3) := by decide +kernel
theorem dX8_worked_100 : decode cX8_worked 100 = .ok (.aload_n 0, 1) := by decide +kernel
theorem dX8_worked_101 : decode cX8_worked 101 = .ok (.getfield 28, 3) := by decide +kernel
theorem dX8_worked_104 : decode cX8_worked 104 = .ok (.iload_n 3, 1) := by decide +kernel
theorem dX8_worked_105 : decode cX8_worked 105 = .ok (.iconst 1, 1) := by decide +kernel
theorem dX8_worked_106 : decode cX8_worked 106 = .ok (.isub, 1) := by decide +kernel
theorem dX8_worked_107 : decode cX8_worked 107 = .ok (.aload_n 0, 1) := by decide +kernel
theorem dX8_worked_108 : decode cX8_worked 108 = .ok (.getfield 28, 3) := by decide +kernel
theorem dX8_worked_111 : decode cX8_worked 111 = .ok (.iload_n 3, 1) := by decide +kernel
theorem dX8_worked_112 : decode cX8_worked 112 = .ok (.iconst 1, 1) := by decide +kernel
theorem dX8_worked_113 : decode cX8_worked 113 = .ok (.isub, 1) := by decide +kernel
theorem dX8_worked_114 : decode cX8_worked 114 = .ok (.iaload, 1) := by decide +kernel
theorem dX8_worked_115 : decode cX8_worked 115 = .ok (.ifCond .ne 7, 3) := by decide +kernel
theorem dX8_worked_118 : decode cX8_worked 118 = .ok (.iconst 1, 1) := by decide +kernel
theorem dX8_worked_119 : decode cX8_worked 119 = .ok (.goto 4, 3) := by decide +kernel
theorem dX8_worked_122 : decode cX8_worked 122 = .ok (.iconst 0, 1) := by decide +kernel
theorem dX8_worked_123 : decode cX8_worked 123 = .ok (.iastore, 1) := by decide +kernel
theorem dX8_worked_124 : decode cX8_worked 124 = .ok (.goto 33, 3) := by decide +kernel
theorem dX8_worked_127 : decode cX8_worked 127 = .ok (.iinc 3 (-1), 3) := by decide +kernel
theorem dX8_worked_130 : decode cX8_worked 130 = .ok (.aload_n 0, 1) := by decide +kernel
theorem dX8_worked_131 : decode cX8_worked 131 = .ok (.getfield 28, 3) := by decide +kernel
theorem dX8_worked_134 : decode cX8_worked 134 = .ok (.iload_n 3, 1) := by decide +kernel
theorem dX8_worked_135 : decode cX8_worked 135 = .ok (.iconst 1, 1) := by decide +kernel
theorem dX8_worked_136 : decode cX8_worked 136 = .ok (.isub, 1) := by decide +kernel
theorem dX8_worked_137 : decode cX8_worked 137 = .ok (.iload 6, 2) := by decide +kernel
theorem dX8_worked_139 : decode cX8_worked 139 = .ok (.aload_n 0, 1) := by decide +kernel
theorem dX8_worked_140 : decode cX8_worked 140 = .ok (.getfield 28, 3) := by decide +kernel
theorem dX8_worked_143 : decode cX8_worked 143 = .ok (.iload_n 3, 1) := by decide +kernel
theorem dX8_worked_144 : decode cX8_worked 144 = .ok (.iconst 1, 1) := by decide +kernel
theorem dX8_worked_145 : decode cX8_worked 145 = .ok (.isub, 1) := by decide +kernel
theorem dX8_worked_146 : decode cX8_worked 146 = .ok (.iaload, 1) := by decide +kernel
theorem dX8_worked_147 : decode cX8_worked 147 = .ok (.aload_n 0, 1) := by decide +kernel
theorem dX8_worked_148 : decode cX8_worked 148 = .ok (.getfield 28, 3) := by decide +kernel
theorem dX8_worked_151 : decode cX8_worked 151 = .ok (.iload_n 3, 1) := by decide +kernel
theorem dX8_worked_152 : decode cX8_worked 152 = .ok (.iaload, 1) := by decide +kernel
theorem dX8_worked_153 : decode cX8_worked 153 = .ok (.invokestatic 119, 3) := by decide +kernel
theorem dX8_worked_156 : decode cX8_worked 156 = .ok (.iastore, 1) := by decide +kernel
theorem dX8_worked_157 : decode cX8_worked 157 = .ok (.iinc 4 1, 3) := by decide +kernel
theorem dX8_worked_160 : decode cX8_worked 160 = .ok (.goto (-147), 3) := by decide +kernel
theorem dX8_worked_163 : decode cX8_worked 163 = .ok (.aload_n 0, 1) := by decide +kernel
theorem dX8_worked_164 : decode cX8_worked 164 = .ok (.getfield 28, 3) := by decide +kernel
theorem dX8_worked_167 : decode cX8_worked 167 = .ok (.iconst 0, 1) := by decide +kernel
theorem dX8_worked_168 : decode cX8_worked 168 = .ok (.iaload, 1) := by decide +kernel
theorem dX8_worked_169 : decode cX8_worked 169 = .ok (.ireturn, 1) := by decide +kernel
theorem dX8_growsOf_0 : decode cX8_growsOf 0 = .ok (.iconst 1, 1) := by decide +kernel
theorem dX8_growsOf_1 : decode cX8_growsOf 1 = .ok (.aload_n 0, 1) := by decide +kernel
theorem dX8_growsOf_2 : decode cX8_growsOf 2 = .ok (.iload_n 1, 1) := by decide +kernel
theorem dX8_growsOf_3 : decode cX8_growsOf 3 = .ok (.iconst 1, 1) := by decide +kernel
theorem dX8_growsOf_4 : decode cX8_growsOf 4 = .ok (.invokevirtual 123, 3) := by decide +kernel
theorem dX8_growsOf_7 : decode cX8_growsOf 7 = .ok (.iconst 3, 1) := by decide +kernel
theorem dX8_growsOf_8 : decode cX8_growsOf 8 = .ok (.idiv, 1) := by decide +kernel
theorem dX8_growsOf_9 : decode cX8_growsOf 9 = .ok (.iadd, 1) := by decide +kernel
theorem dX8_growsOf_10 : decode cX8_growsOf 10 = .ok (.istore_n 2, 1) := by decide +kernel
theorem dX8_growsOf_11 : decode cX8_growsOf 11 = .ok (.aload_n 0, 1) := by decide +kernel
theorem dX8_growsOf_12 : decode cX8_growsOf 12 = .ok (.getfield 7, 3) := by decide +kernel
theorem dX8_growsOf_15 : decode cX8_growsOf 15 = .ok (.iconst 0, 1) := by decide +kernel
theorem dX8_growsOf_16 : decode cX8_growsOf 16 = .ok (.iaload, 1) := by decide +kernel
theorem dX8_growsOf_17 : decode cX8_growsOf 17 = .ok (.bipush 24, 2) := by decide +kernel
theorem dX8_growsOf_19 : decode cX8_growsOf 19 = .ok (.irem, 1) := by decide +kernel
theorem dX8_growsOf_20 : decode cX8_growsOf 20 = .ok (.istore_n 3, 1) := by decide +kernel
theorem dX8_growsOf_21 : decode cX8_growsOf 21 = .ok (.iload_n 3, 1) := by decide +kernel
theorem dX8_growsOf_22 : decode cX8_growsOf 22 = .ok (.bipush 7, 2) := by decide +kernel
theorem dX8_growsOf_24 : decode cX8_growsOf 24 = .ok (.if_icmp .le 15, 3) := by decide +kernel
theorem dX8_growsOf_27 : decode cX8_growsOf 27 = .ok (.iload_n 3, 1) := by decide +kernel
theorem dX8_growsOf_28 : decode cX8_growsOf 28 = .ok (.bipush 15, 2) := by decide +kernel
theorem dX8_growsOf_30 : decode cX8_growsOf 30 = .ok (.if_icmp .ge 9, 3) := by decide +kernel
theorem dX8_growsOf_33 : decode cX8_growsOf 33 = .ok (.iconst 2, 1) := by decide +kernel
theorem dX8_growsOf_34 : decode cX8_growsOf 34 = .ok (.iload_n 2, 1) := by decide +kernel
theorem dX8_growsOf_35 : decode cX8_growsOf 35 = .ok (.imul, 1) := by decide +kernel
theorem dX8_growsOf_36 : decode cX8_growsOf 36 = .ok (.goto 4, 3) := by decide +kernel
theorem dX8_growsOf_39 : decode cX8_growsOf 39 = .ok (.iload_n 2, 1) := by decide +kernel
theorem dX8_growsOf_40 : decode cX8_growsOf 40 = .ok (.istore 4, 2) := by decide +kernel
theorem dX8_growsOf_42 : decode cX8_growsOf 42 = .ok (.aload_n 0, 1) := by decide +kernel
theorem dX8_growsOf_43 : decode cX8_growsOf 43 = .ok (.iload_n 1, 1) := by decide +kernel
theorem dX8_growsOf_44 : decode cX8_growsOf 44 = .ok (.iconst 0, 1) := by decide +kernel
theorem dX8_growsOf_45 : decode cX8_growsOf 45 = .ok (.invokevirtual 123, 3) := by decide +kernel
theorem dX8_growsOf_48 : decode cX8_growsOf 48 = .ok (.tableswitch 98 1 6 #[40, 51, 98, 54, 72, 94], 40) := by decide +kernel
theorem dX8_growsOf_88 : decode cX8_growsOf 88 = .ok (.iload_n 2, 1) := by decide +kernel
theorem dX8_growsOf_89 : decode cX8_growsOf 89 = .ok (.aload_n 0, 1) := by decide +kernel
theorem dX8_growsOf_90 : decode cX8_growsOf 90 = .ok (.iload_n 1, 1) := by decide +kernel
theorem dX8_growsOf_91 : decode cX8_growsOf 91 = .ok (.iconst 3, 1) := by decide +kernel
theorem dX8_growsOf_92 : decode cX8_growsOf 92 = .ok (.invokevirtual 123, 3) := by decide +kernel
theorem dX8_growsOf_95 : decode cX8_growsOf 95 = .ok (.iconst 4, 1) := by decide +kernel
theorem dX8_growsOf_96 : decode cX8_growsOf 96 = .ok (.idiv, 1) := by decide +kernel
theorem dX8_growsOf_97 : decode cX8_growsOf 97 = .ok (.iadd, 1) := by decide +kernel
theorem dX8_growsOf_98 : decode cX8_growsOf 98 = .ok (.ireturn, 1) := by decide +kernel
theorem dX8_growsOf_99 : decode cX8_growsOf 99 = .ok (.iload 4, 2) := by decide +kernel
theorem dX8_growsOf_101 : decode cX8_growsOf 101 = .ok (.ireturn, 1) := by decide +kernel
theorem dX8_growsOf_102 : decode cX8_growsOf 102 = .ok (.iload_n 2, 1) := by decide +kernel
theorem dX8_growsOf_103 : decode cX8_growsOf 103 = .ok (.aload_n 0, 1) := by decide +kernel
theorem dX8_growsOf_104 : decode cX8_growsOf 104 = .ok (.iload_n 1, 1) := by decide +kernel
theorem dX8_growsOf_105 : decode cX8_growsOf 105 = .ok (.iconst 3, 1) := by decide +kernel
theorem dX8_growsOf_106 : decode cX8_growsOf 106 = .ok (.invokevirtual 123, 3) := by decide +kernel
theorem dX8_growsOf_109 : decode cX8_growsOf 109 = .ok (.iconst 4, 1) := by decide +kernel
theorem dX8_growsOf_110 : decode cX8_growsOf 110 = .ok (.idiv, 1) := by decide +kernel
theorem dX8_growsOf_111 : decode cX8_growsOf 111 = .ok (.iadd, 1) := by decide +kernel
theorem dX8_growsOf_112 : decode cX8_growsOf 112 = .ok (.aload_n 0, 1) := by decide +kernel
theorem dX8_growsOf_113 : decode cX8_growsOf 113 = .ok (.iload_n 1, 1) := by decide +kernel
theorem dX8_growsOf_114 : decode cX8_growsOf 114 = .ok (.iconst 1, 1) := by decide +kernel
theorem dX8_growsOf_115 : decode cX8_growsOf 115 = .ok (.invokevirtual 123, 3) := by decide +kernel
theorem dX8_growsOf_118 : decode cX8_growsOf 118 = .ok (.iadd, 1) := by decide +kernel
theorem dX8_growsOf_119 : decode cX8_growsOf 119 = .ok (.ireturn, 1) := by decide +kernel
theorem dX8_growsOf_120 : decode cX8_growsOf 120 = .ok (.aload_n 0, 1) := by decide +kernel
theorem dX8_growsOf_121 : decode cX8_growsOf 121 = .ok (.getfield 7, 3) := by decide +kernel
theorem dX8_growsOf_124 : decode cX8_growsOf 124 = .ok (.iconst 0, 1) := by decide +kernel
theorem dX8_growsOf_125 : decode cX8_growsOf 125 = .ok (.iaload, 1) := by decide +kernel
theorem dX8_growsOf_126 : decode cX8_growsOf 126 = .ok (.bipush 7, 2) := by decide +kernel
theorem dX8_growsOf_128 : decode cX8_growsOf 128 = .ok (.irem, 1) := by decide +kernel
theorem dX8_growsOf_129 : decode cX8_growsOf 129 = .ok (.ifCond .ne 10, 3) := by decide +kernel
theorem dX8_growsOf_132 : decode cX8_growsOf 132 = .ok (.iload 4, 2) := by decide +kernel
theorem dX8_growsOf_134 : decode cX8_growsOf 134 = .ok (.iconst 3, 1) := by decide +kernel
theorem dX8_growsOf_135 : decode cX8_growsOf 135 = .ok (.iadd, 1) := by decide +kernel
theorem dX8_growsOf_136 : decode cX8_growsOf 136 = .ok (.goto 5, 3) := by decide +kernel
theorem dX8_growsOf_139 : decode cX8_growsOf 139 = .ok (.iload 4, 2) := by decide +kernel
theorem dX8_growsOf_141 : decode cX8_growsOf 141 = .ok (.ireturn, 1) := by decide +kernel
theorem dX8_growsOf_142 : decode cX8_growsOf 142 = .ok (.iload_n 2, 1) := by decide +kernel
theorem dX8_growsOf_143 : decode cX8_growsOf 143 = .ok (.iconst 1, 1) := by decide +kernel
theorem dX8_growsOf_144 : decode cX8_growsOf 144 = .ok (.isub, 1) := by decide +kernel
theorem dX8_growsOf_145 : decode cX8_growsOf 145 = .ok (.ireturn, 1) := by decide +kernel
theorem dX8_growsOf_146 : decode cX8_growsOf 146 = .ok (.iload_n 2, 1) := by decide +kernel
theorem dX8_growsOf_147 : decode cX8_growsOf 147 = .ok (.ireturn, 1) := by decide +kernel
theorem dX8_paysOf_0 : decode cX8_paysOf 0 = .ok (.aload_n 0, 1) := by decide +kernel
theorem dX8_paysOf_1 : decode cX8_paysOf 1 = .ok (.iload_n 1, 1) := by decide +kernel
theorem dX8_paysOf_2 : decode cX8_paysOf 2 = .ok (.iconst 4, 1) := by decide +kernel
theorem dX8_paysOf_3 : decode cX8_paysOf 3 = .ok (.invokevirtual 123, 3) := by decide +kernel
theorem dX8_paysOf_6 : decode cX8_paysOf 6 = .ok (.aload_n 0, 1) := by decide +kernel
theorem dX8_paysOf_7 : decode cX8_paysOf 7 = .ok (.iload_n 1, 1) := by decide +kernel
theorem dX8_paysOf_8 : decode cX8_paysOf 8 = .ok (.iconst 2, 1) := by decide +kernel
theorem dX8_paysOf_9 : decode cX8_paysOf 9 = .ok (.invokevirtual 123, 3) := by decide +kernel
theorem dX8_paysOf_12 : decode cX8_paysOf 12 = .ok (.iadd, 1) := by decide +kernel
theorem dX8_paysOf_13 : decode cX8_paysOf 13 = .ok (.istore_n 2, 1) := by decide +kernel
theorem dX8_paysOf_14 : decode cX8_paysOf 14 = .ok (.aload_n 0, 1) := by decide +kernel
theorem dX8_paysOf_15 : decode cX8_paysOf 15 = .ok (.iload_n 1, 1) := by decide +kernel
theorem dX8_paysOf_16 : decode cX8_paysOf 16 = .ok (.iconst 0, 1) := by decide +kernel
theorem dX8_paysOf_17 : decode cX8_paysOf 17 = .ok (.invokevirtual 123, 3) := by decide +kernel
theorem dX8_paysOf_20 : decode cX8_paysOf 20 = .ok (.tableswitch 61 2 6 #[36, 40, 44, 48, 59], 36) := by decide +kernel
theorem dX8_paysOf_56 : decode cX8_paysOf 56 = .ok (.iload_n 2, 1) := by decide +kernel
theorem dX8_paysOf_57 : decode cX8_paysOf 57 = .ok (.iconst 2, 1) := by decide +kernel
theorem dX8_paysOf_58 : decode cX8_paysOf 58 = .ok (.idiv, 1) := by decide +kernel
theorem dX8_paysOf_59 : decode cX8_paysOf 59 = .ok (.ireturn, 1) := by decide +kernel
theorem dX8_paysOf_60 : decode cX8_paysOf 60 = .ok (.iconst 2, 1) := by decide +kernel
theorem dX8_paysOf_61 : decode cX8_paysOf 61 = .ok (.iload_n 2, 1) := by decide +kernel
theorem dX8_paysOf_62 : decode cX8_paysOf 62 = .ok (.imul, 1) := by decide +kernel
theorem dX8_paysOf_63 : decode cX8_paysOf 63 = .ok (.ireturn, 1) := by decide +kernel
theorem dX8_paysOf_64 : decode cX8_paysOf 64 = .ok (.iload_n 2, 1) := by decide +kernel
theorem dX8_paysOf_65 : decode cX8_paysOf 65 = .ok (.iconst 5, 1) := by decide +kernel
theorem dX8_paysOf_66 : decode cX8_paysOf 66 = .ok (.iadd, 1) := by decide +kernel
theorem dX8_paysOf_67 : decode cX8_paysOf 67 = .ok (.ireturn, 1) := by decide +kernel
theorem dX8_paysOf_68 : decode cX8_paysOf 68 = .ok (.iload_n 2, 1) := by decide +kernel
theorem dX8_paysOf_69 : decode cX8_paysOf 69 = .ok (.iconst 2, 1) := by decide +kernel
theorem dX8_paysOf_70 : decode cX8_paysOf 70 = .ok (.idiv, 1) := by decide +kernel
theorem dX8_paysOf_71 : decode cX8_paysOf 71 = .ok (.aload_n 0, 1) := by decide +kernel
theorem dX8_paysOf_72 : decode cX8_paysOf 72 = .ok (.iload_n 1, 1) := by decide +kernel
theorem dX8_paysOf_73 : decode cX8_paysOf 73 = .ok (.iconst 3, 1) := by decide +kernel
theorem dX8_paysOf_74 : decode cX8_paysOf 74 = .ok (.invokevirtual 123, 3) := by decide +kernel
theorem dX8_paysOf_77 : decode cX8_paysOf 77 = .ok (.iadd, 1) := by decide +kernel
theorem dX8_paysOf_78 : decode cX8_paysOf 78 = .ok (.ireturn, 1) := by decide +kernel
theorem dX8_paysOf_79 : decode cX8_paysOf 79 = .ok (.iconst 0, 1) := by decide +kernel
theorem dX8_paysOf_80 : decode cX8_paysOf 80 = .ok (.ireturn, 1) := by decide +kernel
theorem dX8_paysOf_81 : decode cX8_paysOf 81 = .ok (.iload_n 2, 1) := by decide +kernel
theorem dX8_paysOf_82 : decode cX8_paysOf 82 = .ok (.ireturn, 1) := by decide +kernel
theorem dX8_growthTold_0 : decode cX8_growthTold 0 = .ok (.aload_n 0, 1) := by decide +kernel
theorem dX8_growthTold_1 : decode cX8_growthTold 1 = .ok (.getfield 25, 3) := by decide +kernel
theorem dX8_growthTold_4 : decode cX8_growthTold 4 = .ok (.bipush 103, 2) := by decide +kernel
theorem dX8_growthTold_6 : decode cX8_growthTold 6 = .ok (.iload_n 1, 1) := by decide +kernel
theorem dX8_growthTold_7 : decode cX8_growthTold 7 = .ok (.iastore, 1) := by decide +kernel
theorem dX8_growthTold_8 : decode cX8_growthTold 8 = .ok (.aload_n 0, 1) := by decide +kernel
theorem dX8_growthTold_9 : decode cX8_growthTold 9 = .ok (.getfield 25, 3) := by decide +kernel
theorem dX8_growthTold_12 : decode cX8_growthTold 12 = .ok (.bipush 100, 2) := by decide +kernel
theorem dX8_growthTold_14 : decode cX8_growthTold 14 = .ok (.iload_n 2, 1) := by decide +kernel
theorem dX8_growthTold_15 : decode cX8_growthTold 15 = .ok (.iastore, 1) := by decide +kernel
theorem dX8_growthTold_16 : decode cX8_growthTold 16 = .ok (.aload_n 0, 1) := by decide +kernel
theorem dX8_growthTold_17 : decode cX8_growthTold 17 = .ok (.getfield 25, 3) := by decide +kernel
theorem dX8_growthTold_20 : decode cX8_growthTold 20 = .ok (.bipush 104, 2) := by decide +kernel
theorem dX8_growthTold_22 : decode cX8_growthTold 22 = .ok (.iload_n 3, 1) := by decide +kernel
theorem dX8_growthTold_23 : decode cX8_growthTold 23 = .ok (.iastore, 1) := by decide +kernel
theorem dX8_growthTold_24 : decode cX8_growthTold 24 = .ok (.aload_n 0, 1) := by decide +kernel
theorem dX8_growthTold_25 : decode cX8_growthTold 25 = .ok (.iconst 0, 1) := by decide +kernel
theorem dX8_growthTold_26 : decode cX8_growthTold 26 = .ok (.invokevirtual 116, 3) := by decide +kernel
theorem dX8_growthTold_29 : decode cX8_growthTold 29 = .ok (.ifCond .eq 11, 3) := by decide +kernel
theorem dX8_growthTold_32 : decode cX8_growthTold 32 = .ok (.aload_n 0, 1) := by decide +kernel
theorem dX8_growthTold_33 : decode cX8_growthTold 33 = .ok (.iconst 0, 1) := by decide +kernel
theorem dX8_growthTold_34 : decode cX8_growthTold 34 = .ok (.invokevirtual 127, 3) := by decide +kernel
theorem dX8_growthTold_37 : decode cX8_growthTold 37 = .ok (.goto 4, 3) := by decide +kernel
theorem dX8_growthTold_40 : decode cX8_growthTold 40 = .ok (.iload_n 1, 1) := by decide +kernel
theorem dX8_growthTold_41 : decode cX8_growthTold 41 = .ok (.iconst 0, 1) := by decide +kernel
theorem dX8_growthTold_42 : decode cX8_growthTold 42 = .ok (.bipush 9, 2) := by decide +kernel
theorem dX8_growthTold_44 : decode cX8_growthTold 44 = .ok (.invokestatic 130, 3) := by decide +kernel
theorem dX8_growthTold_47 : decode cX8_growthTold 47 = .ok (.ireturn, 1) := by decide +kernel
theorem dX8_payTold_0 : decode cX8_payTold 0 = .ok (.aload_n 0, 1) := by decide +kernel
theorem dX8_payTold_1 : decode cX8_payTold 1 = .ok (.getfield 25, 3) := by decide +kernel
theorem dX8_payTold_4 : decode cX8_payTold 4 = .ok (.bipush 112, 2) := by decide +kernel
theorem dX8_payTold_6 : decode cX8_payTold 6 = .ok (.iload_n 1, 1) := by decide +kernel
theorem dX8_payTold_7 : decode cX8_payTold 7 = .ok (.iastore, 1) := by decide +kernel
theorem dX8_payTold_8 : decode cX8_payTold 8 = .ok (.aload_n 0, 1) := by decide +kernel
theorem dX8_payTold_9 : decode cX8_payTold 9 = .ok (.getfield 25, 3) := by decide +kernel
theorem dX8_payTold_12 : decode cX8_payTold 12 = .ok (.bipush 100, 2) := by decide +kernel
theorem dX8_payTold_14 : decode cX8_payTold 14 = .ok (.iload_n 2, 1) := by decide +kernel
theorem dX8_payTold_15 : decode cX8_payTold 15 = .ok (.iastore, 1) := by decide +kernel
theorem dX8_payTold_16 : decode cX8_payTold 16 = .ok (.aload_n 0, 1) := by decide +kernel
theorem dX8_payTold_17 : decode cX8_payTold 17 = .ok (.getfield 25, 3) := by decide +kernel
theorem dX8_payTold_20 : decode cX8_payTold 20 = .ok (.bipush 115, 2) := by decide +kernel
theorem dX8_payTold_22 : decode cX8_payTold 22 = .ok (.iload_n 3, 1) := by decide +kernel
theorem dX8_payTold_23 : decode cX8_payTold 23 = .ok (.iastore, 1) := by decide +kernel
theorem dX8_payTold_24 : decode cX8_payTold 24 = .ok (.aload_n 0, 1) := by decide +kernel
theorem dX8_payTold_25 : decode cX8_payTold 25 = .ok (.iconst 1, 1) := by decide +kernel
theorem dX8_payTold_26 : decode cX8_payTold 26 = .ok (.invokevirtual 116, 3) := by decide +kernel
theorem dX8_payTold_29 : decode cX8_payTold 29 = .ok (.ifCond .eq 11, 3) := by decide +kernel
theorem dX8_payTold_32 : decode cX8_payTold 32 = .ok (.aload_n 0, 1) := by decide +kernel
theorem dX8_payTold_33 : decode cX8_payTold 33 = .ok (.iconst 1, 1) := by decide +kernel
theorem dX8_payTold_34 : decode cX8_payTold 34 = .ok (.invokevirtual 127, 3) := by decide +kernel
theorem dX8_payTold_37 : decode cX8_payTold 37 = .ok (.goto 4, 3) := by decide +kernel
theorem dX8_payTold_40 : decode cX8_payTold 40 = .ok (.iload_n 1, 1) := by decide +kernel
theorem dX8_payTold_41 : decode cX8_payTold 41 = .ok (.iconst 0, 1) := by decide +kernel
theorem dX8_payTold_42 : decode cX8_payTold 42 = .ok (.sipush 999, 3) := by decide +kernel
theorem dX8_payTold_45 : decode cX8_payTold 45 = .ok (.invokestatic 130, 3) := by decide +kernel
theorem dX8_payTold_48 : decode cX8_payTold 48 = .ok (.ireturn, 1) := by decide +kernel
theorem dX8_growthOf_0 : decode cX8_growthOf 0 = .ok (.aload_n 0, 1) := by decide +kernel
theorem dX8_growthOf_1 : decode cX8_growthOf 1 = .ok (.aload_n 0, 1) := by decide +kernel
theorem dX8_growthOf_2 : decode cX8_growthOf 2 = .ok (.iload_n 1, 1) := by decide +kernel
theorem dX8_growthOf_3 : decode cX8_growthOf 3 = .ok (.invokevirtual 133, 3) := by decide +kernel
theorem dX8_growthOf_6 : decode cX8_growthOf 6 = .ok (.aload_n 0, 1) := by decide +kernel
theorem dX8_growthOf_7 : decode cX8_growthOf 7 = .ok (.iload_n 1, 1) := by decide +kernel
theorem dX8_growthOf_8 : decode cX8_growthOf 8 = .ok (.iconst 4, 1) := by decide +kernel
theorem dX8_growthOf_9 : decode cX8_growthOf 9 = .ok (.invokevirtual 123, 3) := by decide +kernel
theorem dX8_growthOf_12 : decode cX8_growthOf 12 = .ok (.aload_n 0, 1) := by decide +kernel
theorem dX8_growthOf_13 : decode cX8_growthOf 13 = .ok (.getfield 7, 3) := by decide +kernel
theorem dX8_growthOf_16 : decode cX8_growthOf 16 = .ok (.iconst 0, 1) := by decide +kernel
theorem dX8_growthOf_17 : decode cX8_growthOf 17 = .ok (.iaload, 1) := by decide +kernel
theorem dX8_growthOf_18 : decode cX8_growthOf 18 = .ok (.bipush 24, 2) := by decide +kernel
theorem dX8_growthOf_20 : decode cX8_growthOf 20 = .ok (.irem, 1) := by decide +kernel
theorem dX8_growthOf_21 : decode cX8_growthOf 21 = .ok (.invokevirtual 136, 3) := by decide +kernel
theorem dX8_growthOf_24 : decode cX8_growthOf 24 = .ok (.ireturn, 1) := by decide +kernel
theorem dX8_payOf_0 : decode cX8_payOf 0 = .ok (.aload_n 0, 1) := by decide +kernel
theorem dX8_payOf_1 : decode cX8_payOf 1 = .ok (.aload_n 0, 1) := by decide +kernel
theorem dX8_payOf_2 : decode cX8_payOf 2 = .ok (.iload_n 1, 1) := by decide +kernel
theorem dX8_payOf_3 : decode cX8_payOf 3 = .ok (.invokevirtual 139, 3) := by decide +kernel
theorem dX8_payOf_6 : decode cX8_payOf 6 = .ok (.aload_n 0, 1) := by decide +kernel
theorem dX8_payOf_7 : decode cX8_payOf 7 = .ok (.iload_n 1, 1) := by decide +kernel
theorem dX8_payOf_8 : decode cX8_payOf 8 = .ok (.iconst 4, 1) := by decide +kernel
theorem dX8_payOf_9 : decode cX8_payOf 9 = .ok (.invokevirtual 123, 3) := by decide +kernel
theorem dX8_payOf_12 : decode cX8_payOf 12 = .ok (.aload_n 0, 1) := by decide +kernel
theorem dX8_payOf_13 : decode cX8_payOf 13 = .ok (.iload_n 1, 1) := by decide +kernel
theorem dX8_payOf_14 : decode cX8_payOf 14 = .ok (.iconst 2, 1) := by decide +kernel
theorem dX8_payOf_15 : decode cX8_payOf 15 = .ok (.invokevirtual 123, 3) := by decide +kernel
theorem dX8_payOf_18 : decode cX8_payOf 18 = .ok (.invokevirtual 142, 3) := by decide +kernel
theorem dX8_payOf_21 : decode cX8_payOf 21 = .ok (.ireturn, 1) := by decide +kernel
theorem dX8_anHour_0 : decode cX8_anHour 0 = .ok (.iconst 0, 1) := by decide +kernel
theorem dX8_anHour_1 : decode cX8_anHour 1 = .ok (.istore_n 1, 1) := by decide +kernel
theorem dX8_anHour_2 : decode cX8_anHour 2 = .ok (.iload_n 1, 1) := by decide +kernel
theorem dX8_anHour_3 : decode cX8_anHour 3 = .ok (.aload_n 0, 1) := by decide +kernel
theorem dX8_anHour_4 : decode cX8_anHour 4 = .ok (.getfield 7, 3) := by decide +kernel
theorem dX8_anHour_7 : decode cX8_anHour 7 = .ok (.iconst 5, 1) := by decide +kernel
theorem dX8_anHour_8 : decode cX8_anHour 8 = .ok (.iaload, 1) := by decide +kernel
theorem dX8_anHour_9 : decode cX8_anHour 9 = .ok (.if_icmp .ge 58, 3) := by decide +kernel
theorem dX8_anHour_12 : decode cX8_anHour 12 = .ok (.aload_n 0, 1) := by decide +kernel
theorem dX8_anHour_13 : decode cX8_anHour 13 = .ok (.iload_n 1, 1) := by decide +kernel
theorem dX8_anHour_14 : decode cX8_anHour 14 = .ok (.iconst 4, 1) := by decide +kernel
theorem dX8_anHour_15 : decode cX8_anHour 15 = .ok (.invokevirtual 123, 3) := by decide +kernel
theorem dX8_anHour_18 : decode cX8_anHour 18 = .ok (.aload_n 0, 1) := by decide +kernel
theorem dX8_anHour_19 : decode cX8_anHour 19 = .ok (.iload_n 1, 1) := by decide +kernel
theorem dX8_anHour_20 : decode cX8_anHour 20 = .ok (.invokevirtual 145, 3) := by decide +kernel
theorem dX8_anHour_23 : decode cX8_anHour 23 = .ok (.iadd, 1) := by decide +kernel
theorem dX8_anHour_24 : decode cX8_anHour 24 = .ok (.istore_n 2, 1) := by decide +kernel
theorem dX8_anHour_25 : decode cX8_anHour 25 = .ok (.iload_n 2, 1) := by decide +kernel
theorem dX8_anHour_26 : decode cX8_anHour 26 = .ok (.bipush 99, 2) := by decide +kernel
theorem dX8_anHour_28 : decode cX8_anHour 28 = .ok (.if_icmp .le 26, 3) := by decide +kernel
theorem dX8_anHour_31 : decode cX8_anHour 31 = .ok (.bipush 99, 2) := by decide +kernel
theorem dX8_anHour_33 : decode cX8_anHour 33 = .ok (.istore_n 2, 1) := by decide +kernel
theorem dX8_anHour_34 : decode cX8_anHour 34 = .ok (.aload_n 0, 1) := by decide +kernel
theorem dX8_anHour_35 : decode cX8_anHour 35 = .ok (.getfield 7, 3) := by decide +kernel
theorem dX8_anHour_38 : decode cX8_anHour 38 = .ok (.iconst 1, 1) := by decide +kernel
theorem dX8_anHour_39 : decode cX8_anHour 39 = .ok (.aload_n 0, 1) := by decide +kernel
theorem dX8_anHour_40 : decode cX8_anHour 40 = .ok (.getfield 7, 3) := by decide +kernel
theorem dX8_anHour_43 : decode cX8_anHour 43 = .ok (.iconst 1, 1) := by decide +kernel
theorem dX8_anHour_44 : decode cX8_anHour 44 = .ok (.iaload, 1) := by decide +kernel
theorem dX8_anHour_45 : decode cX8_anHour 45 = .ok (.iconst 1, 1) := by decide +kernel
theorem dX8_anHour_46 : decode cX8_anHour 46 = .ok (.iadd, 1) := by decide +kernel
theorem dX8_anHour_47 : decode cX8_anHour 47 = .ok (.iconst 0, 1) := by decide +kernel
theorem dX8_anHour_48 : decode cX8_anHour 48 = .ok (.ldc 148, 2) := by decide +kernel
theorem dX8_anHour_50 : decode cX8_anHour 50 = .ok (.invokestatic 130, 3) := by decide +kernel
theorem dX8_anHour_53 : decode cX8_anHour 53 = .ok (.iastore, 1) := by decide +kernel
theorem dX8_anHour_54 : decode cX8_anHour 54 = .ok (.aload_n 0, 1) := by decide +kernel
theorem dX8_anHour_55 : decode cX8_anHour 55 = .ok (.iload_n 1, 1) := by decide +kernel
theorem dX8_anHour_56 : decode cX8_anHour 56 = .ok (.iconst 4, 1) := by decide +kernel
theorem dX8_anHour_57 : decode cX8_anHour 57 = .ok (.iload_n 2, 1) := by decide +kernel
theorem dX8_anHour_58 : decode cX8_anHour 58 = .ok (.invokevirtual 149, 3) := by decide +kernel
theorem dX8_anHour_61 : decode cX8_anHour 61 = .ok (.iinc 1 1, 3) := by decide +kernel
theorem dX8_anHour_64 : decode cX8_anHour 64 = .ok (.goto (-62), 3) := by decide +kernel
theorem dX8_anHour_67 : decode cX8_anHour 67 = .ok (.iconst 0, 1) := by decide +kernel
theorem dX8_anHour_68 : decode cX8_anHour 68 = .ok (.istore_n 1, 1) := by decide +kernel
theorem dX8_anHour_69 : decode cX8_anHour 69 = .ok (.iload_n 1, 1) := by decide +kernel
theorem dX8_anHour_70 : decode cX8_anHour 70 = .ok (.iconst 3, 1) := by decide +kernel
theorem dX8_anHour_71 : decode cX8_anHour 71 = .ok (.if_icmp .ge 38, 3) := by decide +kernel
theorem dX8_anHour_74 : decode cX8_anHour 74 = .ok (.aload_n 0, 1) := by decide +kernel
theorem dX8_anHour_75 : decode cX8_anHour 75 = .ok (.getfield 7, 3) := by decide +kernel
theorem dX8_anHour_78 : decode cX8_anHour 78 = .ok (.bipush 7, 2) := by decide +kernel
theorem dX8_anHour_80 : decode cX8_anHour 80 = .ok (.iload_n 1, 1) := by decide +kernel
theorem dX8_anHour_81 : decode cX8_anHour 81 = .ok (.iadd, 1) := by decide +kernel
theorem dX8_anHour_82 : decode cX8_anHour 82 = .ok (.aload_n 0, 1) := by decide +kernel
theorem dX8_anHour_83 : decode cX8_anHour 83 = .ok (.getfield 7, 3) := by decide +kernel
theorem dX8_anHour_86 : decode cX8_anHour 86 = .ok (.bipush 7, 2) := by decide +kernel
theorem dX8_anHour_88 : decode cX8_anHour 88 = .ok (.iload_n 1, 1) := by decide +kernel
theorem dX8_anHour_89 : decode cX8_anHour 89 = .ok (.iadd, 1) := by decide +kernel
theorem dX8_anHour_90 : decode cX8_anHour 90 = .ok (.iaload, 1) := by decide +kernel
theorem dX8_anHour_91 : decode cX8_anHour 91 = .ok (.iload_n 1, 1) := by decide +kernel
theorem dX8_anHour_92 : decode cX8_anHour 92 = .ok (.iadd, 1) := by decide +kernel
theorem dX8_anHour_93 : decode cX8_anHour 93 = .ok (.iconst 1, 1) := by decide +kernel
theorem dX8_anHour_94 : decode cX8_anHour 94 = .ok (.iadd, 1) := by decide +kernel
theorem dX8_anHour_95 : decode cX8_anHour 95 = .ok (.iconst 0, 1) := by decide +kernel
theorem dX8_anHour_96 : decode cX8_anHour 96 = .ok (.sipush 999, 3) := by decide +kernel
theorem dX8_anHour_99 : decode cX8_anHour 99 = .ok (.invokestatic 130, 3) := by decide +kernel
theorem dX8_anHour_102 : decode cX8_anHour 102 = .ok (.iastore, 1) := by decide +kernel
theorem dX8_anHour_103 : decode cX8_anHour 103 = .ok (.iinc 1 1, 3) := by decide +kernel
theorem dX8_anHour_106 : decode cX8_anHour 106 = .ok (.goto (-37), 3) := by decide +kernel
theorem dX8_anHour_109 : decode cX8_anHour 109 = .ok (.aload_n 0, 1) := by decide +kernel
theorem dX8_anHour_110 : decode cX8_anHour 110 = .ok (.getfield 7, 3) := by decide +kernel
theorem dX8_anHour_113 : decode cX8_anHour 113 = .ok (.iconst 0, 1) := by decide +kernel
theorem dX8_anHour_114 : decode cX8_anHour 114 = .ok (.dup2, 1) := by decide +kernel
theorem dX8_anHour_115 : decode cX8_anHour 115 = .ok (.iaload, 1) := by decide +kernel
theorem dX8_anHour_116 : decode cX8_anHour 116 = .ok (.iconst 1, 1) := by decide +kernel
theorem dX8_anHour_117 : decode cX8_anHour 117 = .ok (.iadd, 1) := by decide +kernel
theorem dX8_anHour_118 : decode cX8_anHour 118 = .ok (.iastore, 1) := by decide +kernel
theorem dX8_anHour_119 : decode cX8_anHour 119 = .ok (.return_, 1) := by decide +kernel
theorem dX8_draw_0 : decode cX8_draw 0 = .ok (.aload_n 0, 1) := by decide +kernel
theorem dX8_draw_1 : decode cX8_draw 1 = .ok (.getfield 7, 3) := by decide +kernel
theorem dX8_draw_4 : decode cX8_draw 4 = .ok (.iconst 2, 1) := by decide +kernel
theorem dX8_draw_5 : decode cX8_draw 5 = .ok (.aload_n 0, 1) := by decide +kernel
theorem dX8_draw_6 : decode cX8_draw 6 = .ok (.getfield 7, 3) := by decide +kernel
theorem dX8_draw_9 : decode cX8_draw 9 = .ok (.iconst 2, 1) := by decide +kernel
theorem dX8_draw_10 : decode cX8_draw 10 = .ok (.iaload, 1) := by decide +kernel
theorem dX8_draw_11 : decode cX8_draw 11 = .ok (.ldc 153, 2) := by decide +kernel
theorem dX8_draw_13 : decode cX8_draw 13 = .ok (.imul, 1) := by decide +kernel
theorem dX8_draw_14 : decode cX8_draw 14 = .ok (.sipush 12345, 3) := by decide +kernel
theorem dX8_draw_17 : decode cX8_draw 17 = .ok (.iadd, 1) := by decide +kernel
theorem dX8_draw_18 : decode cX8_draw 18 = .ok (.iastore, 1) := by decide +kernel
theorem dX8_draw_19 : decode cX8_draw 19 = .ok (.aload_n 0, 1) := by decide +kernel
theorem dX8_draw_20 : decode cX8_draw 20 = .ok (.getfield 7, 3) := by decide +kernel
theorem dX8_draw_23 : decode cX8_draw 23 = .ok (.iconst 2, 1) := by decide +kernel
theorem dX8_draw_24 : decode cX8_draw 24 = .ok (.iaload, 1) := by decide +kernel
theorem dX8_draw_25 : decode cX8_draw 25 = .ok (.bipush 8, 2) := by decide +kernel
theorem dX8_draw_27 : decode cX8_draw 27 = .ok (.iushr, 1) := by decide +kernel
theorem dX8_draw_28 : decode cX8_draw 28 = .ok (.ireturn, 1) := by decide +kernel
theorem dX8_dryOf_0 : decode cX8_dryOf 0 = .ok (.iconst 0, 1) := by decide +kernel
theorem dX8_dryOf_1 : decode cX8_dryOf 1 = .ok (.istore_n 2, 1) := by decide +kernel
theorem dX8_dryOf_2 : decode cX8_dryOf 2 = .ok (.iconst 0, 1) := by decide +kernel
theorem dX8_dryOf_3 : decode cX8_dryOf 3 = .ok (.istore_n 3, 1) := by decide +kernel
theorem dX8_dryOf_4 : decode cX8_dryOf 4 = .ok (.iload_n 3, 1) := by decide +kernel
theorem dX8_dryOf_5 : decode cX8_dryOf 5 = .ok (.aload_n 0, 1) := by decide +kernel
theorem dX8_dryOf_6 : decode cX8_dryOf 6 = .ok (.getfield 7, 3) := by decide +kernel
theorem dX8_dryOf_9 : decode cX8_dryOf 9 = .ok (.iconst 5, 1) := by decide +kernel
theorem dX8_dryOf_10 : decode cX8_dryOf 10 = .ok (.iaload, 1) := by decide +kernel
theorem dX8_dryOf_11 : decode cX8_dryOf 11 = .ok (.if_icmp .ge 31, 3) := by decide +kernel
theorem dX8_dryOf_14 : decode cX8_dryOf 14 = .ok (.iload_n 2, 1) := by decide +kernel
theorem dX8_dryOf_15 : decode cX8_dryOf 15 = .ok (.iload_n 1, 1) := by decide +kernel
theorem dX8_dryOf_16 : decode cX8_dryOf 16 = .ok (.iload_n 3, 1) := by decide +kernel
theorem dX8_dryOf_17 : decode cX8_dryOf 17 = .ok (.ishr, 1) := by decide +kernel
theorem dX8_dryOf_18 : decode cX8_dryOf 18 = .ok (.iconst 1, 1) := by decide +kernel
theorem dX8_dryOf_19 : decode cX8_dryOf 19 = .ok (.iand, 1) := by decide +kernel
theorem dX8_dryOf_20 : decode cX8_dryOf 20 = .ok (.iconst 1, 1) := by decide +kernel
theorem dX8_dryOf_21 : decode cX8_dryOf 21 = .ok (.if_icmp .ne 12, 3) := by decide +kernel
theorem dX8_dryOf_24 : decode cX8_dryOf 24 = .ok (.aload_n 0, 1) := by decide +kernel
theorem dX8_dryOf_25 : decode cX8_dryOf 25 = .ok (.iload_n 3, 1) := by decide +kernel
theorem dX8_dryOf_26 : decode cX8_dryOf 26 = .ok (.iconst 4, 1) := by decide +kernel
theorem dX8_dryOf_27 : decode cX8_dryOf 27 = .ok (.invokevirtual 123, 3) := by decide +kernel
theorem dX8_dryOf_30 : decode cX8_dryOf 30 = .ok (.goto 4, 3) := by decide +kernel
theorem dX8_dryOf_33 : decode cX8_dryOf 33 = .ok (.iconst 0, 1) := by decide +kernel
theorem dX8_dryOf_34 : decode cX8_dryOf 34 = .ok (.iadd, 1) := by decide +kernel
theorem dX8_dryOf_35 : decode cX8_dryOf 35 = .ok (.istore_n 2, 1) := by decide +kernel
theorem dX8_dryOf_36 : decode cX8_dryOf 36 = .ok (.iinc 3 1, 3) := by decide +kernel
theorem dX8_dryOf_39 : decode cX8_dryOf 39 = .ok (.goto (-35), 3) := by decide +kernel
theorem dX8_dryOf_42 : decode cX8_dryOf 42 = .ok (.iload_n 2, 1) := by decide +kernel
theorem dX8_dryOf_43 : decode cX8_dryOf 43 = .ok (.ireturn, 1) := by decide +kernel
theorem dX8_mayCarry_0 : decode cX8_mayCarry 0 = .ok (.aload_n 0, 1) := by decide +kernel
theorem dX8_mayCarry_1 : decode cX8_mayCarry 1 = .ok (.iload_n 2, 1) := by decide +kernel
theorem dX8_mayCarry_2 : decode cX8_mayCarry 2 = .ok (.invokevirtual 154, 3) := by decide +kernel
theorem dX8_mayCarry_5 : decode cX8_mayCarry 5 = .ok (.istore 4, 2) := by decide +kernel
theorem dX8_mayCarry_7 : decode cX8_mayCarry 7 = .ok (.iload 4, 2) := by decide +kernel
theorem dX8_mayCarry_9 : decode cX8_mayCarry 9 = .ok (.aload_n 0, 1) := by decide +kernel
theorem dX8_mayCarry_10 : decode cX8_mayCarry 10 = .ok (.iload_n 1, 1) := by decide +kernel
theorem dX8_mayCarry_11 : decode cX8_mayCarry 11 = .ok (.invokevirtual 157, 3) := by decide +kernel
theorem dX8_mayCarry_14 : decode cX8_mayCarry 14 = .ok (.if_icmp .gt 21, 3) := by decide +kernel
theorem dX8_mayCarry_17 : decode cX8_mayCarry 17 = .ok (.iload 4, 2) := by decide +kernel
theorem dX8_mayCarry_19 : decode cX8_mayCarry 19 = .ok (.aload_n 0, 1) := by decide +kernel
theorem dX8_mayCarry_20 : decode cX8_mayCarry 20 = .ok (.getfield 7, 3) := by decide +kernel
theorem dX8_mayCarry_23 : decode cX8_mayCarry 23 = .ok (.bipush 7, 2) := by decide +kernel
theorem dX8_mayCarry_25 : decode cX8_mayCarry 25 = .ok (.iload_n 3, 1) := by decide +kernel
theorem dX8_mayCarry_26 : decode cX8_mayCarry 26 = .ok (.iadd, 1) := by decide +kernel
theorem dX8_mayCarry_27 : decode cX8_mayCarry 27 = .ok (.iaload, 1) := by decide +kernel
theorem dX8_mayCarry_28 : decode cX8_mayCarry 28 = .ok (.if_icmp .gt 7, 3) := by decide +kernel
theorem dX8_mayCarry_31 : decode cX8_mayCarry 31 = .ok (.iconst 1, 1) := by decide +kernel
theorem dX8_mayCarry_32 : decode cX8_mayCarry 32 = .ok (.goto 4, 3) := by decide +kernel
theorem dX8_mayCarry_35 : decode cX8_mayCarry 35 = .ok (.iconst 0, 1) := by decide +kernel
theorem dX8_mayCarry_36 : decode cX8_mayCarry 36 = .ok (.ireturn, 1) := by decide +kernel
theorem dX8_carries_0 : decode cX8_carries 0 = .ok (.iconst 0, 1) := by decide +kernel
theorem dX8_carries_1 : decode cX8_carries 1 = .ok (.istore 4, 2) := by decide +kernel
theorem dX8_carries_3 : decode cX8_carries 3 = .ok (.aload_n 0, 1) := by decide +kernel
theorem dX8_carries_4 : decode cX8_carries 4 = .ok (.getfield 7, 3) := by decide +kernel
theorem dX8_carries_7 : decode cX8_carries 7 = .ok (.bipush 7, 2) := by decide +kernel
theorem dX8_carries_9 : decode cX8_carries 9 = .ok (.iload_n 3, 1) := by decide +kernel
theorem dX8_carries_10 : decode cX8_carries 10 = .ok (.iadd, 1) := by decide +kernel
theorem dX8_carries_11 : decode cX8_carries 11 = .ok (.dup2, 1) := by decide +kernel
theorem dX8_carries_12 : decode cX8_carries 12 = .ok (.iaload, 1) := by decide +kernel
theorem dX8_carries_13 : decode cX8_carries 13 = .ok (.aload_n 0, 1) := by decide +kernel
theorem dX8_carries_14 : decode cX8_carries 14 = .ok (.iload_n 2, 1) := by decide +kernel
theorem dX8_carries_15 : decode cX8_carries 15 = .ok (.invokevirtual 154, 3) := by decide +kernel
theorem dX8_carries_18 : decode cX8_carries 18 = .ok (.isub, 1) := by decide +kernel
theorem dX8_carries_19 : decode cX8_carries 19 = .ok (.iastore, 1) := by decide +kernel
theorem dX8_carries_20 : decode cX8_carries 20 = .ok (.iconst 0, 1) := by decide +kernel
theorem dX8_carries_21 : decode cX8_carries 21 = .ok (.istore 5, 2) := by decide +kernel
theorem dX8_carries_23 : decode cX8_carries 23 = .ok (.iload 5, 2) := by decide +kernel
theorem dX8_carries_25 : decode cX8_carries 25 = .ok (.aload_n 0, 1) := by decide +kernel
theorem dX8_carries_26 : decode cX8_carries 26 = .ok (.getfield 7, 3) := by decide +kernel
theorem dX8_carries_29 : decode cX8_carries 29 = .ok (.iconst 5, 1) := by decide +kernel
theorem dX8_carries_30 : decode cX8_carries 30 = .ok (.iaload, 1) := by decide +kernel
theorem dX8_carries_31 : decode cX8_carries 31 = .ok (.if_icmp .ge 66, 3) := by decide +kernel
theorem dX8_carries_34 : decode cX8_carries 34 = .ok (.iload_n 2, 1) := by decide +kernel
theorem dX8_carries_35 : decode cX8_carries 35 = .ok (.iload 5, 2) := by decide +kernel
theorem dX8_carries_37 : decode cX8_carries 37 = .ok (.ishr, 1) := by decide +kernel
theorem dX8_carries_38 : decode cX8_carries 38 = .ok (.iconst 1, 1) := by decide +kernel
theorem dX8_carries_39 : decode cX8_carries 39 = .ok (.iand, 1) := by decide +kernel
theorem dX8_carries_40 : decode cX8_carries 40 = .ok (.iconst 1, 1) := by decide +kernel
theorem dX8_carries_41 : decode cX8_carries 41 = .ok (.if_icmp .ne 50, 3) := by decide +kernel
theorem dX8_carries_44 : decode cX8_carries 44 = .ok (.iload 4, 2) := by decide +kernel
theorem dX8_carries_46 : decode cX8_carries 46 = .ok (.aload_n 0, 1) := by decide +kernel
theorem dX8_carries_47 : decode cX8_carries 47 = .ok (.iload 5, 2) := by decide +kernel
theorem dX8_carries_49 : decode cX8_carries 49 = .ok (.invokevirtual 160, 3) := by decide +kernel
theorem dX8_carries_52 : decode cX8_carries 52 = .ok (.iadd, 1) := by decide +kernel
theorem dX8_carries_53 : decode cX8_carries 53 = .ok (.istore 4, 2) := by decide +kernel
theorem dX8_carries_55 : decode cX8_carries 55 = .ok (.aload_n 0, 1) := by decide +kernel
theorem dX8_carries_56 : decode cX8_carries 56 = .ok (.iload 5, 2) := by decide +kernel
theorem dX8_carries_58 : decode cX8_carries 58 = .ok (.iconst 5, 1) := by decide +kernel
theorem dX8_carries_59 : decode cX8_carries 59 = .ok (.aload_n 0, 1) := by decide +kernel
theorem dX8_carries_60 : decode cX8_carries 60 = .ok (.iload 5, 2) := by decide +kernel
theorem dX8_carries_62 : decode cX8_carries 62 = .ok (.iconst 5, 1) := by decide +kernel
theorem dX8_carries_63 : decode cX8_carries 63 = .ok (.invokevirtual 123, 3) := by decide +kernel
theorem dX8_carries_66 : decode cX8_carries 66 = .ok (.aload_n 0, 1) := by decide +kernel
theorem dX8_carries_67 : decode cX8_carries 67 = .ok (.iload 5, 2) := by decide +kernel
theorem dX8_carries_69 : decode cX8_carries 69 = .ok (.iconst 4, 1) := by decide +kernel
theorem dX8_carries_70 : decode cX8_carries 70 = .ok (.invokevirtual 123, 3) := by decide +kernel
theorem dX8_carries_73 : decode cX8_carries 73 = .ok (.iadd, 1) := by decide +kernel
theorem dX8_carries_74 : decode cX8_carries 74 = .ok (.iconst 0, 1) := by decide +kernel
theorem dX8_carries_75 : decode cX8_carries 75 = .ok (.ldc 148, 2) := by decide +kernel
theorem dX8_carries_77 : decode cX8_carries 77 = .ok (.invokestatic 130, 3) := by decide +kernel
theorem dX8_carries_80 : decode cX8_carries 80 = .ok (.invokevirtual 149, 3) := by decide +kernel
theorem dX8_carries_83 : decode cX8_carries 83 = .ok (.aload_n 0, 1) := by decide +kernel
theorem dX8_carries_84 : decode cX8_carries 84 = .ok (.iload 5, 2) := by decide +kernel
theorem dX8_carries_86 : decode cX8_carries 86 = .ok (.iconst 4, 1) := by decide +kernel
theorem dX8_carries_87 : decode cX8_carries 87 = .ok (.iconst 0, 1) := by decide +kernel
theorem dX8_carries_88 : decode cX8_carries 88 = .ok (.invokevirtual 149, 3) := by decide +kernel
theorem dX8_carries_91 : decode cX8_carries 91 = .ok (.iinc 5 1, 3) := by decide +kernel
theorem dX8_carries_94 : decode cX8_carries 94 = .ok (.goto (-71), 3) := by decide +kernel
theorem dX8_carries_97 : decode cX8_carries 97 = .ok (.aload_n 0, 1) := by decide +kernel
theorem dX8_carries_98 : decode cX8_carries 98 = .ok (.getfield 7, 3) := by decide +kernel
theorem dX8_carries_101 : decode cX8_carries 101 = .ok (.bipush 52, 2) := by decide +kernel
theorem dX8_carries_103 : decode cX8_carries 103 = .ok (.iconst 2, 1) := by decide +kernel
theorem dX8_carries_104 : decode cX8_carries 104 = .ok (.iload_n 1, 1) := by decide +kernel
theorem dX8_carries_105 : decode cX8_carries 105 = .ok (.imul, 1) := by decide +kernel
theorem dX8_carries_106 : decode cX8_carries 106 = .ok (.iadd, 1) := by decide +kernel
theorem dX8_carries_107 : decode cX8_carries 107 = .ok (.iconst 1, 1) := by decide +kernel
theorem dX8_carries_108 : decode cX8_carries 108 = .ok (.iadd, 1) := by decide +kernel
theorem dX8_carries_109 : decode cX8_carries 109 = .ok (.aload_n 0, 1) := by decide +kernel
theorem dX8_carries_110 : decode cX8_carries 110 = .ok (.getfield 7, 3) := by decide +kernel
theorem dX8_carries_113 : decode cX8_carries 113 = .ok (.bipush 52, 2) := by decide +kernel
theorem dX8_carries_115 : decode cX8_carries 115 = .ok (.iconst 2, 1) := by decide +kernel
theorem dX8_carries_116 : decode cX8_carries 116 = .ok (.iload_n 1, 1) := by decide +kernel
theorem dX8_carries_117 : decode cX8_carries 117 = .ok (.imul, 1) := by decide +kernel
theorem dX8_carries_118 : decode cX8_carries 118 = .ok (.iadd, 1) := by decide +kernel
theorem dX8_carries_119 : decode cX8_carries 119 = .ok (.iconst 1, 1) := by decide +kernel
theorem dX8_carries_120 : decode cX8_carries 120 = .ok (.iadd, 1) := by decide +kernel
theorem dX8_carries_121 : decode cX8_carries 121 = .ok (.iaload, 1) := by decide +kernel
theorem dX8_carries_122 : decode cX8_carries 122 = .ok (.iload 4, 2) := by decide +kernel
theorem dX8_carries_124 : decode cX8_carries 124 = .ok (.iadd, 1) := by decide +kernel
theorem dX8_carries_125 : decode cX8_carries 125 = .ok (.iconst 0, 1) := by decide +kernel
theorem dX8_carries_126 : decode cX8_carries 126 = .ok (.ldc 148, 2) := by decide +kernel
theorem dX8_carries_128 : decode cX8_carries 128 = .ok (.invokestatic 130, 3) := by decide +kernel
theorem dX8_carries_131 : decode cX8_carries 131 = .ok (.iastore, 1) := by decide +kernel
theorem dX8_carries_132 : decode cX8_carries 132 = .ok (.iload 4, 2) := by decide +kernel
theorem dX8_carries_134 : decode cX8_carries 134 = .ok (.ireturn, 1) := by decide +kernel
theorem dX8_isKind_0 : decode cX8_isKind 0 = .ok (.iload_n 0, 1) := by decide +kernel
theorem dX8_isKind_1 : decode cX8_isKind 1 = .ok (.iconst 0, 1) := by decide +kernel
theorem dX8_isKind_2 : decode cX8_isKind 2 = .ok (.bipush 69, 2) := by decide +kernel
theorem dX8_isKind_4 : decode cX8_isKind 4 = .ok (.invokestatic 59, 3) := by decide +kernel
theorem dX8_isKind_7 : decode cX8_isKind 7 = .ok (.ireturn, 1) := by decide +kernel
theorem dX8_farm_0 : decode cX8_farm 0 = .ok (.iload_n 1, 1) := by decide +kernel
theorem dX8_farm_1 : decode cX8_farm 1 = .ok (.invokestatic 163, 3) := by decide +kernel
theorem dX8_farm_4 : decode cX8_farm 4 = .ok (.ifCond .eq 23, 3) := by decide +kernel
theorem dX8_farm_7 : decode cX8_farm 7 = .ok (.iload_n 2, 1) := by decide +kernel
theorem dX8_farm_8 : decode cX8_farm 8 = .ok (.iconst 1, 1) := by decide +kernel
theorem dX8_farm_9 : decode cX8_farm 9 = .ok (.bipush 40, 2) := by decide +kernel
theorem dX8_farm_11 : decode cX8_farm 11 = .ok (.invokestatic 59, 3) := by decide +kernel
theorem dX8_farm_14 : decode cX8_farm 14 = .ok (.ifCond .eq 13, 3) := by decide +kernel
theorem dX8_farm_17 : decode cX8_farm 17 = .ok (.iload_n 3, 1) := by decide +kernel
theorem dX8_farm_18 : decode cX8_farm 18 = .ok (.iconst 0, 1) := by decide +kernel
theorem dX8_farm_19 : decode cX8_farm 19 = .ok (.bipush 30, 2) := by decide +kernel
theorem dX8_farm_21 : decode cX8_farm 21 = .ok (.invokestatic 59, 3) := by decide +kernel
theorem dX8_farm_24 : decode cX8_farm 24 = .ok (.ifCond .ne 9, 3) := by decide +kernel
theorem dX8_farm_27 : decode cX8_farm 27 = .ok (.aload_n 0, 1) := by decide +kernel
theorem dX8_farm_28 : decode cX8_farm 28 = .ok (.iconst 1, 1) := by decide +kernel
theorem dX8_farm_29 : decode cX8_farm 29 = .ok (.invokevirtual 63, 3) := by decide +kernel
theorem dX8_farm_32 : decode cX8_farm 32 = .ok (.ireturn, 1) := by decide +kernel
theorem dX8_farm_33 : decode cX8_farm 33 = .ok (.aload_n 0, 1) := by decide +kernel
theorem dX8_farm_34 : decode cX8_farm 34 = .ok (.getfield 7, 3) := by decide +kernel
theorem dX8_farm_37 : decode cX8_farm 37 = .ok (.iconst 5, 1) := by decide +kernel
theorem dX8_farm_38 : decode cX8_farm 38 = .ok (.iaload, 1) := by decide +kernel
theorem dX8_farm_39 : decode cX8_farm 39 = .ok (.bipush 7, 2) := by decide +kernel
theorem dX8_farm_41 : decode cX8_farm 41 = .ok (.if_icmp .ne 9, 3) := by decide +kernel
theorem dX8_farm_44 : decode cX8_farm 44 = .ok (.aload_n 0, 1) := by decide +kernel
theorem dX8_farm_45 : decode cX8_farm 45 = .ok (.iconst 4, 1) := by decide +kernel
theorem dX8_farm_46 : decode cX8_farm 46 = .ok (.invokevirtual 63, 3) := by decide +kernel
theorem dX8_farm_49 : decode cX8_farm 49 = .ok (.ireturn, 1) := by decide +kernel
theorem dX8_farm_50 : decode cX8_farm 50 = .ok (.aload_n 0, 1) := by decide +kernel
theorem dX8_farm_51 : decode cX8_farm 51 = .ok (.getfield 7, 3) := by decide +kernel
theorem dX8_farm_54 : decode cX8_farm 54 = .ok (.iconst 5, 1) := by decide +kernel
theorem dX8_farm_55 : decode cX8_farm 55 = .ok (.iaload, 1) := by decide +kernel
theorem dX8_farm_56 : decode cX8_farm 56 = .ok (.istore 4, 2) := by decide +kernel
theorem dX8_farm_58 : decode cX8_farm 58 = .ok (.aload_n 0, 1) := by decide +kernel
theorem dX8_farm_59 : decode cX8_farm 59 = .ok (.iload 4, 2) := by decide +kernel
theorem dX8_farm_61 : decode cX8_farm 61 = .ok (.iconst 0, 1) := by decide +kernel
theorem dX8_farm_62 : decode cX8_farm 62 = .ok (.iload_n 1, 1) := by decide +kernel
theorem dX8_farm_63 : decode cX8_farm 63 = .ok (.bipush 10, 2) := by decide +kernel
theorem dX8_farm_65 : decode cX8_farm 65 = .ok (.idiv, 1) := by decide +kernel
theorem dX8_farm_66 : decode cX8_farm 66 = .ok (.invokevirtual 149, 3) := by decide +kernel
theorem dX8_farm_69 : decode cX8_farm 69 = .ok (.aload_n 0, 1) := by decide +kernel
theorem dX8_farm_70 : decode cX8_farm 70 = .ok (.iload 4, 2) := by decide +kernel
theorem dX8_farm_72 : decode cX8_farm 72 = .ok (.iconst 1, 1) := by decide +kernel
theorem dX8_farm_73 : decode cX8_farm 73 = .ok (.iload_n 1, 1) := by decide +kernel
theorem dX8_farm_74 : decode cX8_farm 74 = .ok (.bipush 10, 2) := by decide +kernel
theorem dX8_farm_76 : decode cX8_farm 76 = .ok (.irem, 1) := by decide +kernel
theorem dX8_farm_77 : decode cX8_farm 77 = .ok (.invokevirtual 149, 3) := by decide +kernel
theorem dX8_farm_80 : decode cX8_farm 80 = .ok (.aload_n 0, 1) := by decide +kernel
theorem dX8_farm_81 : decode cX8_farm 81 = .ok (.iload 4, 2) := by decide +kernel
theorem dX8_farm_83 : decode cX8_farm 83 = .ok (.iconst 2, 1) := by decide +kernel
theorem dX8_farm_84 : decode cX8_farm 84 = .ok (.iload_n 2, 1) := by decide +kernel
theorem dX8_farm_85 : decode cX8_farm 85 = .ok (.invokevirtual 149, 3) := by decide +kernel
theorem dX8_farm_88 : decode cX8_farm 88 = .ok (.aload_n 0, 1) := by decide +kernel
theorem dX8_farm_89 : decode cX8_farm 89 = .ok (.iload 4, 2) := by decide +kernel
theorem dX8_farm_91 : decode cX8_farm 91 = .ok (.iconst 3, 1) := by decide +kernel
theorem dX8_farm_92 : decode cX8_farm 92 = .ok (.iload_n 3, 1) := by decide +kernel
theorem dX8_farm_93 : decode cX8_farm 93 = .ok (.invokevirtual 149, 3) := by decide +kernel
theorem dX8_farm_96 : decode cX8_farm 96 = .ok (.aload_n 0, 1) := by decide +kernel
theorem dX8_farm_97 : decode cX8_farm 97 = .ok (.iload 4, 2) := by decide +kernel
theorem dX8_farm_99 : decode cX8_farm 99 = .ok (.iconst 4, 1) := by decide +kernel
theorem dX8_farm_100 : decode cX8_farm 100 = .ok (.iconst 0, 1) := by decide +kernel
theorem dX8_farm_101 : decode cX8_farm 101 = .ok (.invokevirtual 149, 3) := by decide +kernel
theorem dX8_farm_104 : decode cX8_farm 104 = .ok (.aload_n 0, 1) := by decide +kernel
theorem dX8_farm_105 : decode cX8_farm 105 = .ok (.iload 4, 2) := by decide +kernel
theorem dX8_farm_107 : decode cX8_farm 107 = .ok (.iconst 5, 1) := by decide +kernel
theorem dX8_farm_108 : decode cX8_farm 108 = .ok (.iconst 0, 1) := by decide +kernel
theorem dX8_farm_109 : decode cX8_farm 109 = .ok (.invokevirtual 149, 3) := by decide +kernel
theorem dX8_farm_112 : decode cX8_farm 112 = .ok (.aload_n 0, 1) := by decide +kernel
theorem dX8_farm_113 : decode cX8_farm 113 = .ok (.getfield 7, 3) := by decide +kernel
theorem dX8_farm_116 : decode cX8_farm 116 = .ok (.iconst 5, 1) := by decide +kernel
theorem dX8_farm_117 : decode cX8_farm 117 = .ok (.dup2, 1) := by decide +kernel
theorem dX8_farm_118 : decode cX8_farm 118 = .ok (.iaload, 1) := by decide +kernel
theorem dX8_farm_119 : decode cX8_farm 119 = .ok (.iconst 1, 1) := by decide +kernel
theorem dX8_farm_120 : decode cX8_farm 120 = .ok (.iadd, 1) := by decide +kernel
theorem dX8_farm_121 : decode cX8_farm 121 = .ok (.iastore, 1) := by decide +kernel
theorem dX8_farm_122 : decode cX8_farm 122 = .ok (.iload 4, 2) := by decide +kernel
theorem dX8_farm_124 : decode cX8_farm 124 = .ok (.ireturn, 1) := by decide +kernel
theorem dX8_farmIs_0 : decode cX8_farmIs 0 = .ok (.aload_n 0, 1) := by decide +kernel
theorem dX8_farmIs_1 : decode cX8_farmIs 1 = .ok (.iload_n 1, 1) := by decide +kernel
theorem dX8_farmIs_2 : decode cX8_farmIs 2 = .ok (.invokevirtual 166, 3) := by decide +kernel
theorem dX8_farmIs_5 : decode cX8_farmIs 5 = .ok (.ifCond .eq 13, 3) := by decide +kernel
theorem dX8_farmIs_8 : decode cX8_farmIs 8 = .ok (.iload_n 2, 1) := by decide +kernel
theorem dX8_farmIs_9 : decode cX8_farmIs 9 = .ok (.iconst 0, 1) := by decide +kernel
theorem dX8_farmIs_10 : decode cX8_farmIs 10 = .ok (.bipush 7, 2) := by decide +kernel
theorem dX8_farmIs_12 : decode cX8_farmIs 12 = .ok (.invokestatic 59, 3) := by decide +kernel
theorem dX8_farmIs_15 : decode cX8_farmIs 15 = .ok (.ifCond .ne 9, 3) := by decide +kernel
theorem dX8_farmIs_18 : decode cX8_farmIs 18 = .ok (.aload_n 0, 1) := by decide +kernel
theorem dX8_farmIs_19 : decode cX8_farmIs 19 = .ok (.iconst 1, 1) := by decide +kernel
theorem dX8_farmIs_20 : decode cX8_farmIs 20 = .ok (.invokevirtual 63, 3) := by decide +kernel
theorem dX8_farmIs_23 : decode cX8_farmIs 23 = .ok (.ireturn, 1) := by decide +kernel
theorem dX8_farmIs_24 : decode cX8_farmIs 24 = .ok (.iload_n 2, 1) := by decide +kernel
theorem dX8_farmIs_25 : decode cX8_farmIs 25 = .ok (.bipush 6, 2) := by decide +kernel
theorem dX8_farmIs_27 : decode cX8_farmIs 27 = .ok (.if_icmp .ge 12, 3) := by decide +kernel
theorem dX8_farmIs_30 : decode cX8_farmIs 30 = .ok (.aload_n 0, 1) := by decide +kernel
theorem dX8_farmIs_31 : decode cX8_farmIs 31 = .ok (.iload_n 1, 1) := by decide +kernel
theorem dX8_farmIs_32 : decode cX8_farmIs 32 = .ok (.iload_n 2, 1) := by decide +kernel
theorem dX8_farmIs_33 : decode cX8_farmIs 33 = .ok (.invokevirtual 123, 3) := by decide +kernel
theorem dX8_farmIs_36 : decode cX8_farmIs 36 = .ok (.goto 22, 3) := by decide +kernel
theorem dX8_farmIs_39 : decode cX8_farmIs 39 = .ok (.iload_n 2, 1) := by decide +kernel
theorem dX8_farmIs_40 : decode cX8_farmIs 40 = .ok (.bipush 6, 2) := by decide +kernel
theorem dX8_farmIs_42 : decode cX8_farmIs 42 = .ok (.if_icmp .ne 11, 3) := by decide +kernel
theorem dX8_farmIs_45 : decode cX8_farmIs 45 = .ok (.aload_n 0, 1) := by decide +kernel
theorem dX8_farmIs_46 : decode cX8_farmIs 46 = .ok (.iload_n 1, 1) := by decide +kernel
theorem dX8_farmIs_47 : decode cX8_farmIs 47 = .ok (.invokevirtual 145, 3) := by decide +kernel
theorem dX8_farmIs_50 : decode cX8_farmIs 50 = .ok (.goto 8, 3) := by decide +kernel
theorem dX8_farmIs_53 : decode cX8_farmIs 53 = .ok (.aload_n 0, 1) := by decide +kernel
theorem dX8_farmIs_54 : decode cX8_farmIs 54 = .ok (.iload_n 1, 1) := by decide +kernel
theorem dX8_farmIs_55 : decode cX8_farmIs 55 = .ok (.invokevirtual 160, 3) := by decide +kernel
theorem dX8_farmIs_58 : decode cX8_farmIs 58 = .ok (.ireturn, 1) := by decide +kernel
theorem dX8_become_0 : decode cX8_become 0 = .ok (.aload_n 0, 1) := by decide +kernel
theorem dX8_become_1 : decode cX8_become 1 = .ok (.iload_n 1, 1) := by decide +kernel
theorem dX8_become_2 : decode cX8_become 2 = .ok (.invokevirtual 166, 3) := by decide +kernel
theorem dX8_become_5 : decode cX8_become 5 = .ok (.ifCond .eq 10, 3) := by decide +kernel
theorem dX8_become_8 : decode cX8_become 8 = .ok (.iload_n 2, 1) := by decide +kernel
theorem dX8_become_9 : decode cX8_become 9 = .ok (.invokestatic 163, 3) := by decide +kernel
theorem dX8_become_12 : decode cX8_become 12 = .ok (.ifCond .ne 9, 3) := by decide +kernel
theorem dX8_become_15 : decode cX8_become 15 = .ok (.aload_n 0, 1) := by decide +kernel
theorem dX8_become_16 : decode cX8_become 16 = .ok (.iconst 1, 1) := by decide +kernel
theorem dX8_become_17 : decode cX8_become 17 = .ok (.invokevirtual 63, 3) := by decide +kernel
theorem dX8_become_20 : decode cX8_become 20 = .ok (.ireturn, 1) := by decide +kernel
theorem dX8_become_21 : decode cX8_become 21 = .ok (.aload_n 0, 1) := by decide +kernel
theorem dX8_become_22 : decode cX8_become 22 = .ok (.iload_n 1, 1) := by decide +kernel
theorem dX8_become_23 : decode cX8_become 23 = .ok (.iconst 1, 1) := by decide +kernel
theorem dX8_become_24 : decode cX8_become 24 = .ok (.iload_n 2, 1) := by decide +kernel
theorem dX8_become_25 : decode cX8_become 25 = .ok (.bipush 10, 2) := by decide +kernel
theorem dX8_become_27 : decode cX8_become 27 = .ok (.irem, 1) := by decide +kernel
theorem dX8_become_28 : decode cX8_become 28 = .ok (.invokevirtual 149, 3) := by decide +kernel
theorem dX8_become_31 : decode cX8_become 31 = .ok (.aload_n 0, 1) := by decide +kernel
theorem dX8_become_32 : decode cX8_become 32 = .ok (.bipush 10, 2) := by decide +kernel
theorem dX8_become_34 : decode cX8_become 34 = .ok (.bipush 6, 2) := by decide +kernel
theorem dX8_become_36 : decode cX8_become 36 = .ok (.iload_n 1, 1) := by decide +kernel
theorem dX8_become_37 : decode cX8_become 37 = .ok (.imul, 1) := by decide +kernel
theorem dX8_become_38 : decode cX8_become 38 = .ok (.iadd, 1) := by decide +kernel
theorem dX8_become_39 : decode cX8_become 39 = .ok (.iconst 0, 1) := by decide +kernel
theorem dX8_become_40 : decode cX8_become 40 = .ok (.iadd, 1) := by decide +kernel
theorem dX8_become_41 : decode cX8_become 41 = .ok (.iload_n 2, 1) := by decide +kernel
theorem dX8_become_42 : decode cX8_become 42 = .ok (.bipush 10, 2) := by decide +kernel
theorem dX8_become_44 : decode cX8_become 44 = .ok (.idiv, 1) := by decide +kernel
theorem dX8_become_45 : decode cX8_become 45 = .ok (.invokevirtual 169, 3) := by decide +kernel
theorem dX8_become_48 : decode cX8_become 48 = .ok (.ireturn, 1) := by decide +kernel
theorem dX8_as_0 : decode cX8_as 0 = .ok (.aload_n 0, 1) := by decide +kernel
theorem dX8_as_1 : decode cX8_as 1 = .ok (.iload_n 1, 1) := by decide +kernel
theorem dX8_as_2 : decode cX8_as 2 = .ok (.invokevirtual 166, 3) := by decide +kernel
theorem dX8_as_5 : decode cX8_as 5 = .ok (.ifCond .eq 13, 3) := by decide +kernel
theorem dX8_as_8 : decode cX8_as 8 = .ok (.iload_n 2, 1) := by decide +kernel
theorem dX8_as_9 : decode cX8_as 9 = .ok (.iconst 0, 1) := by decide +kernel
theorem dX8_as_10 : decode cX8_as 10 = .ok (.bipush 6, 2) := by decide +kernel
theorem dX8_as_12 : decode cX8_as 12 = .ok (.invokestatic 59, 3) := by decide +kernel
theorem dX8_as_15 : decode cX8_as 15 = .ok (.ifCond .ne 9, 3) := by decide +kernel
theorem dX8_as_18 : decode cX8_as 18 = .ok (.aload_n 0, 1) := by decide +kernel
theorem dX8_as_19 : decode cX8_as 19 = .ok (.iconst 1, 1) := by decide +kernel
theorem dX8_as_20 : decode cX8_as 20 = .ok (.invokevirtual 63, 3) := by decide +kernel
theorem dX8_as_23 : decode cX8_as 23 = .ok (.ireturn, 1) := by decide +kernel
theorem dX8_as_24 : decode cX8_as 24 = .ok (.aload_n 0, 1) := by decide +kernel
theorem dX8_as_25 : decode cX8_as 25 = .ok (.iload_n 1, 1) := by decide +kernel
theorem dX8_as_26 : decode cX8_as 26 = .ok (.iconst 0, 1) := by decide +kernel
theorem dX8_as_27 : decode cX8_as 27 = .ok (.invokevirtual 123, 3) := by decide +kernel
theorem dX8_as_30 : decode cX8_as 30 = .ok (.istore_n 3, 1) := by decide +kernel
theorem dX8_as_31 : decode cX8_as 31 = .ok (.iload_n 3, 1) := by decide +kernel
theorem dX8_as_32 : decode cX8_as 32 = .ok (.iload_n 2, 1) := by decide +kernel
theorem dX8_as_33 : decode cX8_as 33 = .ok (.if_icmp .eq 15, 3) := by decide +kernel
theorem dX8_as_36 : decode cX8_as 36 = .ok (.iload_n 3, 1) := by decide +kernel
theorem dX8_as_37 : decode cX8_as 37 = .ok (.ifCond .eq 11, 3) := by decide +kernel
theorem dX8_as_40 : decode cX8_as 40 = .ok (.iload_n 3, 1) := by decide +kernel
theorem dX8_as_41 : decode cX8_as 41 = .ok (.invokestatic 172, 3) := by decide +kernel
theorem dX8_as_44 : decode cX8_as 44 = .ok (.istore_n 3, 1) := by decide +kernel
theorem dX8_as_45 : decode cX8_as 45 = .ok (.goto (-14), 3) := by decide +kernel
theorem dX8_as_48 : decode cX8_as 48 = .ok (.iload_n 3, 1) := by decide +kernel
theorem dX8_as_49 : decode cX8_as 49 = .ok (.iload_n 2, 1) := by decide +kernel
theorem dX8_as_50 : decode cX8_as 50 = .ok (.if_icmp .ne 12, 3) := by decide +kernel
theorem dX8_as_53 : decode cX8_as 53 = .ok (.aload_n 0, 1) := by decide +kernel
theorem dX8_as_54 : decode cX8_as 54 = .ok (.iload_n 1, 1) := by decide +kernel
theorem dX8_as_55 : decode cX8_as 55 = .ok (.iconst 1, 1) := by decide +kernel
theorem dX8_as_56 : decode cX8_as 56 = .ok (.invokevirtual 123, 3) := by decide +kernel
theorem dX8_as_59 : decode cX8_as 59 = .ok (.goto 8, 3) := by decide +kernel
theorem dX8_as_62 : decode cX8_as 62 = .ok (.aload_n 0, 1) := by decide +kernel
theorem dX8_as_63 : decode cX8_as 63 = .ok (.iconst 5, 1) := by decide +kernel
theorem dX8_as_64 : decode cX8_as 64 = .ok (.invokevirtual 63, 3) := by decide +kernel
theorem dX8_as_67 : decode cX8_as 67 = .ok (.ireturn, 1) := by decide +kernel
theorem dX8_parch_0 : decode cX8_parch 0 = .ok (.aload_n 0, 1) := by decide +kernel
theorem dX8_parch_1 : decode cX8_parch 1 = .ok (.iload_n 1, 1) := by decide +kernel
theorem dX8_parch_2 : decode cX8_parch 2 = .ok (.invokevirtual 166, 3) := by decide +kernel
theorem dX8_parch_5 : decode cX8_parch 5 = .ok (.ifCond .eq 30, 3) := by decide +kernel
theorem dX8_parch_8 : decode cX8_parch 8 = .ok (.iload_n 2, 1) := by decide +kernel
theorem dX8_parch_9 : decode cX8_parch 9 = .ok (.iconst 0, 1) := by decide +kernel
theorem dX8_parch_10 : decode cX8_parch 10 = .ok (.bipush 99, 2) := by decide +kernel
theorem dX8_parch_12 : decode cX8_parch 12 = .ok (.invokestatic 59, 3) := by decide +kernel
theorem dX8_parch_15 : decode cX8_parch 15 = .ok (.ifCond .eq 20, 3) := by decide +kernel
theorem dX8_parch_18 : decode cX8_parch 18 = .ok (.aload_n 0, 1) := by decide +kernel
theorem dX8_parch_19 : decode cX8_parch 19 = .ok (.bipush 10, 2) := by decide +kernel
theorem dX8_parch_21 : decode cX8_parch 21 = .ok (.bipush 6, 2) := by decide +kernel
theorem dX8_parch_23 : decode cX8_parch 23 = .ok (.iload_n 1, 1) := by decide +kernel
theorem dX8_parch_24 : decode cX8_parch 24 = .ok (.imul, 1) := by decide +kernel
theorem dX8_parch_25 : decode cX8_parch 25 = .ok (.iadd, 1) := by decide +kernel
theorem dX8_parch_26 : decode cX8_parch 26 = .ok (.iconst 4, 1) := by decide +kernel
theorem dX8_parch_27 : decode cX8_parch 27 = .ok (.iadd, 1) := by decide +kernel
theorem dX8_parch_28 : decode cX8_parch 28 = .ok (.iload_n 2, 1) := by decide +kernel
theorem dX8_parch_29 : decode cX8_parch 29 = .ok (.invokevirtual 169, 3) := by decide +kernel
theorem dX8_parch_32 : decode cX8_parch 32 = .ok (.goto 8, 3) := by decide +kernel
theorem dX8_parch_35 : decode cX8_parch 35 = .ok (.aload_n 0, 1) := by decide +kernel
theorem dX8_parch_36 : decode cX8_parch 36 = .ok (.iconst 1, 1) := by decide +kernel
theorem dX8_parch_37 : decode cX8_parch 37 = .ok (.invokevirtual 63, 3) := by decide +kernel
theorem dX8_parch_40 : decode cX8_parch 40 = .ok (.ireturn, 1) := by decide +kernel
theorem dX8_graze_0 : decode cX8_graze 0 = .ok (.aload_n 0, 1) := by decide +kernel
theorem dX8_graze_1 : decode cX8_graze 1 = .ok (.iload_n 1, 1) := by decide +kernel
theorem dX8_graze_2 : decode cX8_graze 2 = .ok (.invokevirtual 166, 3) := by decide +kernel
theorem dX8_graze_5 : decode cX8_graze 5 = .ok (.ifCond .eq 30, 3) := by decide +kernel
theorem dX8_graze_8 : decode cX8_graze 8 = .ok (.iload_n 2, 1) := by decide +kernel
theorem dX8_graze_9 : decode cX8_graze 9 = .ok (.iconst 0, 1) := by decide +kernel
theorem dX8_graze_10 : decode cX8_graze 10 = .ok (.bipush 30, 2) := by decide +kernel
theorem dX8_graze_12 : decode cX8_graze 12 = .ok (.invokestatic 59, 3) := by decide +kernel
theorem dX8_graze_15 : decode cX8_graze 15 = .ok (.ifCond .eq 20, 3) := by decide +kernel
theorem dX8_graze_18 : decode cX8_graze 18 = .ok (.aload_n 0, 1) := by decide +kernel
theorem dX8_graze_19 : decode cX8_graze 19 = .ok (.bipush 10, 2) := by decide +kernel
theorem dX8_graze_21 : decode cX8_graze 21 = .ok (.bipush 6, 2) := by decide +kernel
theorem dX8_graze_23 : decode cX8_graze 23 = .ok (.iload_n 1, 1) := by decide +kernel
theorem dX8_graze_24 : decode cX8_graze 24 = .ok (.imul, 1) := by decide +kernel
theorem dX8_graze_25 : decode cX8_graze 25 = .ok (.iadd, 1) := by decide +kernel
theorem dX8_graze_26 : decode cX8_graze 26 = .ok (.iconst 3, 1) := by decide +kernel
theorem dX8_graze_27 : decode cX8_graze 27 = .ok (.iadd, 1) := by decide +kernel
theorem dX8_graze_28 : decode cX8_graze 28 = .ok (.iload_n 2, 1) := by decide +kernel
theorem dX8_graze_29 : decode cX8_graze 29 = .ok (.invokevirtual 169, 3) := by decide +kernel
theorem dX8_graze_32 : decode cX8_graze 32 = .ok (.goto 8, 3) := by decide +kernel
theorem dX8_graze_35 : decode cX8_graze 35 = .ok (.aload_n 0, 1) := by decide +kernel
theorem dX8_graze_36 : decode cX8_graze 36 = .ok (.iconst 1, 1) := by decide +kernel
theorem dX8_graze_37 : decode cX8_graze 37 = .ok (.invokevirtual 63, 3) := by decide +kernel
theorem dX8_graze_40 : decode cX8_graze 40 = .ok (.ireturn, 1) := by decide +kernel
theorem dX8_carrier_0 : decode cX8_carrier 0 = .ok (.iload_n 1, 1) := by decide +kernel
theorem dX8_carrier_1 : decode cX8_carrier 1 = .ok (.iconst 1, 1) := by decide +kernel
theorem dX8_carrier_2 : decode cX8_carrier 2 = .ok (.sipush 300, 3) := by decide +kernel
theorem dX8_carrier_5 : decode cX8_carrier 5 = .ok (.invokestatic 59, 3) := by decide +kernel
theorem dX8_carrier_8 : decode cX8_carrier 8 = .ok (.ifCond .ne 9, 3) := by decide +kernel
theorem dX8_carrier_11 : decode cX8_carrier 11 = .ok (.aload_n 0, 1) := by decide +kernel
theorem dX8_carrier_12 : decode cX8_carrier 12 = .ok (.iconst 1, 1) := by decide +kernel
theorem dX8_carrier_13 : decode cX8_carrier 13 = .ok (.invokevirtual 63, 3) := by decide +kernel
theorem dX8_carrier_16 : decode cX8_carrier 16 = .ok (.ireturn, 1) := by decide +kernel
theorem dX8_carrier_17 : decode cX8_carrier 17 = .ok (.aload_n 0, 1) := by decide +kernel
theorem dX8_carrier_18 : decode cX8_carrier 18 = .ok (.getfield 7, 3) := by decide +kernel
theorem dX8_carrier_21 : decode cX8_carrier 21 = .ok (.bipush 6, 2) := by decide +kernel
theorem dX8_carrier_23 : decode cX8_carrier 23 = .ok (.iaload, 1) := by decide +kernel
theorem dX8_carrier_24 : decode cX8_carrier 24 = .ok (.iconst 4, 1) := by decide +kernel
theorem dX8_carrier_25 : decode cX8_carrier 25 = .ok (.if_icmp .ne 9, 3) := by decide +kernel
theorem dX8_carrier_28 : decode cX8_carrier 28 = .ok (.aload_n 0, 1) := by decide +kernel
theorem dX8_carrier_29 : decode cX8_carrier 29 = .ok (.iconst 4, 1) := by decide +kernel
theorem dX8_carrier_30 : decode cX8_carrier 30 = .ok (.invokevirtual 63, 3) := by decide +kernel
theorem dX8_carrier_33 : decode cX8_carrier 33 = .ok (.ireturn, 1) := by decide +kernel
theorem dX8_carrier_34 : decode cX8_carrier 34 = .ok (.aload_n 0, 1) := by decide +kernel
theorem dX8_carrier_35 : decode cX8_carrier 35 = .ok (.getfield 7, 3) := by decide +kernel
theorem dX8_carrier_38 : decode cX8_carrier 38 = .ok (.bipush 6, 2) := by decide +kernel
theorem dX8_carrier_40 : decode cX8_carrier 40 = .ok (.iaload, 1) := by decide +kernel
theorem dX8_carrier_41 : decode cX8_carrier 41 = .ok (.istore_n 2, 1) := by decide +kernel
theorem dX8_carrier_42 : decode cX8_carrier 42 = .ok (.aload_n 0, 1) := by decide +kernel
theorem dX8_carrier_43 : decode cX8_carrier 43 = .ok (.getfield 7, 3) := by decide +kernel
theorem dX8_carrier_46 : decode cX8_carrier 46 = .ok (.bipush 52, 2) := by decide +kernel
theorem dX8_carrier_48 : decode cX8_carrier 48 = .ok (.iconst 2, 1) := by decide +kernel
theorem dX8_carrier_49 : decode cX8_carrier 49 = .ok (.iload_n 2, 1) := by decide +kernel
theorem dX8_carrier_50 : decode cX8_carrier 50 = .ok (.imul, 1) := by decide +kernel
theorem dX8_carrier_51 : decode cX8_carrier 51 = .ok (.iadd, 1) := by decide +kernel
theorem dX8_carrier_52 : decode cX8_carrier 52 = .ok (.iload_n 1, 1) := by decide +kernel
theorem dX8_carrier_53 : decode cX8_carrier 53 = .ok (.iastore, 1) := by decide +kernel
theorem dX8_carrier_54 : decode cX8_carrier 54 = .ok (.aload_n 0, 1) := by decide +kernel
theorem dX8_carrier_55 : decode cX8_carrier 55 = .ok (.getfield 7, 3) := by decide +kernel
theorem dX8_carrier_58 : decode cX8_carrier 58 = .ok (.bipush 52, 2) := by decide +kernel
theorem dX8_carrier_60 : decode cX8_carrier 60 = .ok (.iconst 2, 1) := by decide +kernel
theorem dX8_carrier_61 : decode cX8_carrier 61 = .ok (.iload_n 2, 1) := by decide +kernel
theorem dX8_carrier_62 : decode cX8_carrier 62 = .ok (.imul, 1) := by decide +kernel
theorem dX8_carrier_63 : decode cX8_carrier 63 = .ok (.iadd, 1) := by decide +kernel
theorem dX8_carrier_64 : decode cX8_carrier 64 = .ok (.iconst 1, 1) := by decide +kernel
theorem dX8_carrier_65 : decode cX8_carrier 65 = .ok (.iadd, 1) := by decide +kernel
theorem dX8_carrier_66 : decode cX8_carrier 66 = .ok (.iconst 0, 1) := by decide +kernel
theorem dX8_carrier_67 : decode cX8_carrier 67 = .ok (.iastore, 1) := by decide +kernel
theorem dX8_carrier_68 : decode cX8_carrier 68 = .ok (.aload_n 0, 1) := by decide +kernel
theorem dX8_carrier_69 : decode cX8_carrier 69 = .ok (.getfield 7, 3) := by decide +kernel
theorem dX8_carrier_72 : decode cX8_carrier 72 = .ok (.bipush 6, 2) := by decide +kernel
theorem dX8_carrier_74 : decode cX8_carrier 74 = .ok (.dup2, 1) := by decide +kernel
theorem dX8_carrier_75 : decode cX8_carrier 75 = .ok (.iaload, 1) := by decide +kernel
theorem dX8_carrier_76 : decode cX8_carrier 76 = .ok (.iconst 1, 1) := by decide +kernel
theorem dX8_carrier_77 : decode cX8_carrier 77 = .ok (.iadd, 1) := by decide +kernel
theorem dX8_carrier_78 : decode cX8_carrier 78 = .ok (.iastore, 1) := by decide +kernel
theorem dX8_carrier_79 : decode cX8_carrier 79 = .ok (.iload_n 2, 1) := by decide +kernel
theorem dX8_carrier_80 : decode cX8_carrier 80 = .ok (.ireturn, 1) := by decide +kernel
theorem dX8_carrierIs_0 : decode cX8_carrierIs 0 = .ok (.aload_n 0, 1) := by decide +kernel
theorem dX8_carrierIs_1 : decode cX8_carrierIs 1 = .ok (.iload_n 1, 1) := by decide +kernel
theorem dX8_carrierIs_2 : decode cX8_carrierIs 2 = .ok (.invokevirtual 175, 3) := by decide +kernel
theorem dX8_carrierIs_5 : decode cX8_carrierIs 5 = .ok (.ifCond .eq 28, 3) := by decide +kernel
theorem dX8_carrierIs_8 : decode cX8_carrierIs 8 = .ok (.iload_n 2, 1) := by decide +kernel
theorem dX8_carrierIs_9 : decode cX8_carrierIs 9 = .ok (.iconst 0, 1) := by decide +kernel
theorem dX8_carrierIs_10 : decode cX8_carrierIs 10 = .ok (.iconst 1, 1) := by decide +kernel
theorem dX8_carrierIs_11 : decode cX8_carrierIs 11 = .ok (.invokestatic 59, 3) := by decide +kernel
theorem dX8_carrierIs_14 : decode cX8_carrierIs 14 = .ok (.ifCond .eq 19, 3) := by decide +kernel
theorem dX8_carrierIs_17 : decode cX8_carrierIs 17 = .ok (.aload_n 0, 1) := by decide +kernel
theorem dX8_carrierIs_18 : decode cX8_carrierIs 18 = .ok (.getfield 7, 3) := by decide +kernel
theorem dX8_carrierIs_21 : decode cX8_carrierIs 21 = .ok (.bipush 52, 2) := by decide +kernel
theorem dX8_carrierIs_23 : decode cX8_carrierIs 23 = .ok (.iconst 2, 1) := by decide +kernel
theorem dX8_carrierIs_24 : decode cX8_carrierIs 24 = .ok (.iload_n 1, 1) := by decide +kernel
theorem dX8_carrierIs_25 : decode cX8_carrierIs 25 = .ok (.imul, 1) := by decide +kernel
theorem dX8_carrierIs_26 : decode cX8_carrierIs 26 = .ok (.iadd, 1) := by decide +kernel
theorem dX8_carrierIs_27 : decode cX8_carrierIs 27 = .ok (.iload_n 2, 1) := by decide +kernel
theorem dX8_carrierIs_28 : decode cX8_carrierIs 28 = .ok (.iadd, 1) := by decide +kernel
theorem dX8_carrierIs_29 : decode cX8_carrierIs 29 = .ok (.iaload, 1) := by decide +kernel
theorem dX8_carrierIs_30 : decode cX8_carrierIs 30 = .ok (.goto 8, 3) := by decide +kernel
theorem dX8_carrierIs_33 : decode cX8_carrierIs 33 = .ok (.aload_n 0, 1) := by decide +kernel
theorem dX8_carrierIs_34 : decode cX8_carrierIs 34 = .ok (.iconst 1, 1) := by decide +kernel
theorem dX8_carrierIs_35 : decode cX8_carrierIs 35 = .ok (.invokevirtual 63, 3) := by decide +kernel
theorem dX8_carrierIs_38 : decode cX8_carrierIs 38 = .ok (.ireturn, 1) := by decide +kernel
theorem dX8_pool_0 : decode cX8_pool 0 = .ok (.iload_n 1, 1) := by decide +kernel
theorem dX8_pool_1 : decode cX8_pool 1 = .ok (.iconst 0, 1) := by decide +kernel
theorem dX8_pool_2 : decode cX8_pool 2 = .ok (.iconst 2, 1) := by decide +kernel
theorem dX8_pool_3 : decode cX8_pool 3 = .ok (.invokestatic 59, 3) := by decide +kernel
theorem dX8_pool_6 : decode cX8_pool 6 = .ok (.ifCond .eq 26, 3) := by decide +kernel
theorem dX8_pool_9 : decode cX8_pool 9 = .ok (.iload_n 2, 1) := by decide +kernel
theorem dX8_pool_10 : decode cX8_pool 10 = .ok (.iconst 0, 1) := by decide +kernel
theorem dX8_pool_11 : decode cX8_pool 11 = .ok (.sipush 999, 3) := by decide +kernel
theorem dX8_pool_14 : decode cX8_pool 14 = .ok (.invokestatic 59, 3) := by decide +kernel
theorem dX8_pool_17 : decode cX8_pool 17 = .ok (.ifCond .eq 15, 3) := by decide +kernel
theorem dX8_pool_20 : decode cX8_pool 20 = .ok (.aload_n 0, 1) := by decide +kernel
theorem dX8_pool_21 : decode cX8_pool 21 = .ok (.bipush 7, 2) := by decide +kernel
theorem dX8_pool_23 : decode cX8_pool 23 = .ok (.iload_n 1, 1) := by decide +kernel
theorem dX8_pool_24 : decode cX8_pool 24 = .ok (.iadd, 1) := by decide +kernel
theorem dX8_pool_25 : decode cX8_pool 25 = .ok (.iload_n 2, 1) := by decide +kernel
theorem dX8_pool_26 : decode cX8_pool 26 = .ok (.invokevirtual 169, 3) := by decide +kernel
theorem dX8_pool_29 : decode cX8_pool 29 = .ok (.goto 8, 3) := by decide +kernel
theorem dX8_pool_32 : decode cX8_pool 32 = .ok (.aload_n 0, 1) := by decide +kernel
theorem dX8_pool_33 : decode cX8_pool 33 = .ok (.iconst 1, 1) := by decide +kernel
theorem dX8_pool_34 : decode cX8_pool 34 = .ok (.invokevirtual 63, 3) := by decide +kernel
theorem dX8_pool_37 : decode cX8_pool 37 = .ok (.ireturn, 1) := by decide +kernel
theorem dX8_swap_0 : decode cX8_swap 0 = .ok (.aload_n 0, 1) := by decide +kernel
theorem dX8_swap_1 : decode cX8_swap 1 = .ok (.iload_n 1, 1) := by decide +kernel
theorem dX8_swap_2 : decode cX8_swap 2 = .ok (.invokevirtual 166, 3) := by decide +kernel
theorem dX8_swap_5 : decode cX8_swap 5 = .ok (.ifCond .eq 16, 3) := by decide +kernel
theorem dX8_swap_8 : decode cX8_swap 8 = .ok (.aload_n 0, 1) := by decide +kernel
theorem dX8_swap_9 : decode cX8_swap 9 = .ok (.iload_n 2, 1) := by decide +kernel
theorem dX8_swap_10 : decode cX8_swap 10 = .ok (.invokevirtual 166, 3) := by decide +kernel
theorem dX8_swap_13 : decode cX8_swap 13 = .ok (.ifCond .eq 8, 3) := by decide +kernel
theorem dX8_swap_16 : decode cX8_swap 16 = .ok (.iload_n 1, 1) := by decide +kernel
theorem dX8_swap_17 : decode cX8_swap 17 = .ok (.iload_n 2, 1) := by decide +kernel
theorem dX8_swap_18 : decode cX8_swap 18 = .ok (.if_icmp .ne 9, 3) := by decide +kernel
theorem dX8_swap_21 : decode cX8_swap 21 = .ok (.aload_n 0, 1) := by decide +kernel
theorem dX8_swap_22 : decode cX8_swap 22 = .ok (.iconst 1, 1) := by decide +kernel
theorem dX8_swap_23 : decode cX8_swap 23 = .ok (.invokevirtual 63, 3) := by decide +kernel
theorem dX8_swap_26 : decode cX8_swap 26 = .ok (.ireturn, 1) := by decide +kernel
theorem dX8_swap_27 : decode cX8_swap 27 = .ok (.aload_n 0, 1) := by decide +kernel
theorem dX8_swap_28 : decode cX8_swap 28 = .ok (.iload_n 1, 1) := by decide +kernel
theorem dX8_swap_29 : decode cX8_swap 29 = .ok (.iconst 4, 1) := by decide +kernel
theorem dX8_swap_30 : decode cX8_swap 30 = .ok (.invokevirtual 123, 3) := by decide +kernel
theorem dX8_swap_33 : decode cX8_swap 33 = .ok (.istore_n 3, 1) := by decide +kernel
theorem dX8_swap_34 : decode cX8_swap 34 = .ok (.aload_n 0, 1) := by decide +kernel
theorem dX8_swap_35 : decode cX8_swap 35 = .ok (.iload_n 1, 1) := by decide +kernel
theorem dX8_swap_36 : decode cX8_swap 36 = .ok (.iconst 4, 1) := by decide +kernel
theorem dX8_swap_37 : decode cX8_swap 37 = .ok (.aload_n 0, 1) := by decide +kernel
theorem dX8_swap_38 : decode cX8_swap 38 = .ok (.iload_n 2, 1) := by decide +kernel
theorem dX8_swap_39 : decode cX8_swap 39 = .ok (.iconst 4, 1) := by decide +kernel
theorem dX8_swap_40 : decode cX8_swap 40 = .ok (.invokevirtual 123, 3) := by decide +kernel
theorem dX8_swap_43 : decode cX8_swap 43 = .ok (.invokevirtual 149, 3) := by decide +kernel
theorem dX8_swap_46 : decode cX8_swap 46 = .ok (.aload_n 0, 1) := by decide +kernel
theorem dX8_swap_47 : decode cX8_swap 47 = .ok (.iload_n 2, 1) := by decide +kernel
theorem dX8_swap_48 : decode cX8_swap 48 = .ok (.iconst 4, 1) := by decide +kernel
theorem dX8_swap_49 : decode cX8_swap 49 = .ok (.iload_n 3, 1) := by decide +kernel
theorem dX8_swap_50 : decode cX8_swap 50 = .ok (.invokevirtual 149, 3) := by decide +kernel
theorem dX8_swap_53 : decode cX8_swap 53 = .ok (.aload_n 0, 1) := by decide +kernel
theorem dX8_swap_54 : decode cX8_swap 54 = .ok (.iload_n 1, 1) := by decide +kernel
theorem dX8_swap_55 : decode cX8_swap 55 = .ok (.iconst 4, 1) := by decide +kernel
theorem dX8_swap_56 : decode cX8_swap 56 = .ok (.invokevirtual 123, 3) := by decide +kernel
theorem dX8_swap_59 : decode cX8_swap 59 = .ok (.ireturn, 1) := by decide +kernel
theorem dX8_carry_0 : decode cX8_carry 0 = .ok (.aload_n 0, 1) := by decide +kernel
theorem dX8_carry_1 : decode cX8_carry 1 = .ok (.iload_n 1, 1) := by decide +kernel
theorem dX8_carry_2 : decode cX8_carry 2 = .ok (.invokevirtual 175, 3) := by decide +kernel
theorem dX8_carry_5 : decode cX8_carry 5 = .ok (.ifCond .eq 30, 3) := by decide +kernel
theorem dX8_carry_8 : decode cX8_carry 8 = .ok (.iload_n 2, 1) := by decide +kernel
theorem dX8_carry_9 : decode cX8_carry 9 = .ok (.iconst 1, 1) := by decide +kernel
theorem dX8_carry_10 : decode cX8_carry 10 = .ok (.iconst 1, 1) := by decide +kernel
theorem dX8_carry_11 : decode cX8_carry 11 = .ok (.aload_n 0, 1) := by decide +kernel
theorem dX8_carry_12 : decode cX8_carry 12 = .ok (.getfield 7, 3) := by decide +kernel
theorem dX8_carry_15 : decode cX8_carry 15 = .ok (.iconst 5, 1) := by decide +kernel
theorem dX8_carry_16 : decode cX8_carry 16 = .ok (.iaload, 1) := by decide +kernel
theorem dX8_carry_17 : decode cX8_carry 17 = .ok (.ishl, 1) := by decide +kernel
theorem dX8_carry_18 : decode cX8_carry 18 = .ok (.iconst 1, 1) := by decide +kernel
theorem dX8_carry_19 : decode cX8_carry 19 = .ok (.isub, 1) := by decide +kernel
theorem dX8_carry_20 : decode cX8_carry 20 = .ok (.invokestatic 59, 3) := by decide +kernel
theorem dX8_carry_23 : decode cX8_carry 23 = .ok (.ifCond .eq 12, 3) := by decide +kernel
theorem dX8_carry_26 : decode cX8_carry 26 = .ok (.iload_n 3, 1) := by decide +kernel
theorem dX8_carry_27 : decode cX8_carry 27 = .ok (.iconst 0, 1) := by decide +kernel
theorem dX8_carry_28 : decode cX8_carry 28 = .ok (.iconst 2, 1) := by decide +kernel
theorem dX8_carry_29 : decode cX8_carry 29 = .ok (.invokestatic 59, 3) := by decide +kernel
theorem dX8_carry_32 : decode cX8_carry 32 = .ok (.ifCond .ne 9, 3) := by decide +kernel
theorem dX8_carry_35 : decode cX8_carry 35 = .ok (.aload_n 0, 1) := by decide +kernel
theorem dX8_carry_36 : decode cX8_carry 36 = .ok (.iconst 1, 1) := by decide +kernel
theorem dX8_carry_37 : decode cX8_carry 37 = .ok (.invokevirtual 63, 3) := by decide +kernel
theorem dX8_carry_40 : decode cX8_carry 40 = .ok (.ireturn, 1) := by decide +kernel
theorem dX8_carry_41 : decode cX8_carry 41 = .ok (.aload_n 0, 1) := by decide +kernel
theorem dX8_carry_42 : decode cX8_carry 42 = .ok (.iload_n 1, 1) := by decide +kernel
theorem dX8_carry_43 : decode cX8_carry 43 = .ok (.iload_n 2, 1) := by decide +kernel
theorem dX8_carry_44 : decode cX8_carry 44 = .ok (.iload_n 3, 1) := by decide +kernel
theorem dX8_carry_45 : decode cX8_carry 45 = .ok (.invokevirtual 178, 3) := by decide +kernel
theorem dX8_carry_48 : decode cX8_carry 48 = .ok (.ifCond .eq 13, 3) := by decide +kernel
theorem dX8_carry_51 : decode cX8_carry 51 = .ok (.aload_n 0, 1) := by decide +kernel
theorem dX8_carry_52 : decode cX8_carry 52 = .ok (.iload_n 1, 1) := by decide +kernel
theorem dX8_carry_53 : decode cX8_carry 53 = .ok (.iload_n 2, 1) := by decide +kernel
theorem dX8_carry_54 : decode cX8_carry 54 = .ok (.iload_n 3, 1) := by decide +kernel
theorem dX8_carry_55 : decode cX8_carry 55 = .ok (.invokevirtual 181, 3) := by decide +kernel
theorem dX8_carry_58 : decode cX8_carry 58 = .ok (.goto 8, 3) := by decide +kernel
theorem dX8_carry_61 : decode cX8_carry 61 = .ok (.aload_n 0, 1) := by decide +kernel
theorem dX8_carry_62 : decode cX8_carry 62 = .ok (.iconst 3, 1) := by decide +kernel
theorem dX8_carry_63 : decode cX8_carry 63 = .ok (.invokevirtual 63, 3) := by decide +kernel
theorem dX8_carry_66 : decode cX8_carry 66 = .ok (.ireturn, 1) := by decide +kernel
theorem dX8_law_0 : decode cX8_law 0 = .ok (.iload_n 1, 1) := by decide +kernel
theorem dX8_law_1 : decode cX8_law 1 = .ok (.iconst 0, 1) := by decide +kernel
theorem dX8_law_2 : decode cX8_law 2 = .ok (.iconst 1, 1) := by decide +kernel
theorem dX8_law_3 : decode cX8_law 3 = .ok (.invokestatic 59, 3) := by decide +kernel
theorem dX8_law_6 : decode cX8_law 6 = .ok (.ifCond .ne 9, 3) := by decide +kernel
theorem dX8_law_9 : decode cX8_law 9 = .ok (.aload_n 0, 1) := by decide +kernel
theorem dX8_law_10 : decode cX8_law 10 = .ok (.iconst 1, 1) := by decide +kernel
theorem dX8_law_11 : decode cX8_law 11 = .ok (.invokevirtual 63, 3) := by decide +kernel
theorem dX8_law_14 : decode cX8_law 14 = .ok (.ireturn, 1) := by decide +kernel
theorem dX8_law_15 : decode cX8_law 15 = .ok (.iload_n 1, 1) := by decide +kernel
theorem dX8_law_16 : decode cX8_law 16 = .ok (.ifCond .ne 14, 3) := by decide +kernel
theorem dX8_law_19 : decode cX8_law 19 = .ok (.aload_n 0, 1) := by decide +kernel
theorem dX8_law_20 : decode cX8_law 20 = .ok (.iload_n 2, 1) := by decide +kernel
theorem dX8_law_21 : decode cX8_law 21 = .ok (.iload_n 3, 1) := by decide +kernel
theorem dX8_law_22 : decode cX8_law 22 = .ok (.iload 4, 2) := by decide +kernel
theorem dX8_law_24 : decode cX8_law 24 = .ok (.invokevirtual 136, 3) := by decide +kernel
theorem dX8_law_27 : decode cX8_law 27 = .ok (.goto 11, 3) := by decide +kernel
theorem dX8_law_30 : decode cX8_law 30 = .ok (.aload_n 0, 1) := by decide +kernel
theorem dX8_law_31 : decode cX8_law 31 = .ok (.iload_n 2, 1) := by decide +kernel
theorem dX8_law_32 : decode cX8_law 32 = .ok (.iload_n 3, 1) := by decide +kernel
theorem dX8_law_33 : decode cX8_law 33 = .ok (.iload 4, 2) := by decide +kernel
theorem dX8_law_35 : decode cX8_law 35 = .ok (.invokevirtual 142, 3) := by decide +kernel
theorem dX8_law_38 : decode cX8_law 38 = .ok (.ireturn, 1) := by decide +kernel
theorem dX8_whyNot_0 : decode cX8_whyNot 0 = .ok (.iload_n 1, 1) := by decide +kernel
theorem dX8_whyNot_1 : decode cX8_whyNot 1 = .ok (.iconst 1, 1) := by decide +kernel
theorem dX8_whyNot_2 : decode cX8_whyNot 2 = .ok (.iload_n 2, 1) := by decide +kernel
theorem dX8_whyNot_3 : decode cX8_whyNot 3 = .ok (.invokestatic 59, 3) := by decide +kernel
theorem dX8_whyNot_6 : decode cX8_whyNot 6 = .ok (.ifCond .ne 7, 3) := by decide +kernel
theorem dX8_whyNot_9 : decode cX8_whyNot 9 = .ok (.iconst 1, 1) := by decide +kernel
theorem dX8_whyNot_10 : decode cX8_whyNot 10 = .ok (.goto 22, 3) := by decide +kernel
theorem dX8_whyNot_13 : decode cX8_whyNot 13 = .ok (.aload_n 0, 1) := by decide +kernel
theorem dX8_whyNot_14 : decode cX8_whyNot 14 = .ok (.getfield 7, 3) := by decide +kernel
theorem dX8_whyNot_17 : decode cX8_whyNot 17 = .ok (.iconst 0, 1) := by decide +kernel
theorem dX8_whyNot_18 : decode cX8_whyNot 18 = .ok (.iaload, 1) := by decide +kernel
theorem dX8_whyNot_19 : decode cX8_whyNot 19 = .ok (.iload_n 1, 1) := by decide +kernel
theorem dX8_whyNot_20 : decode cX8_whyNot 20 = .ok (.iadd, 1) := by decide +kernel
theorem dX8_whyNot_21 : decode cX8_whyNot 21 = .ok (.sipush 9999, 3) := by decide +kernel
theorem dX8_whyNot_24 : decode cX8_whyNot 24 = .ok (.if_icmp .le 7, 3) := by decide +kernel
theorem dX8_whyNot_27 : decode cX8_whyNot 27 = .ok (.iconst 3, 1) := by decide +kernel
theorem dX8_whyNot_28 : decode cX8_whyNot 28 = .ok (.goto 4, 3) := by decide +kernel
theorem dX8_whyNot_31 : decode cX8_whyNot 31 = .ok (.iconst 0, 1) := by decide +kernel
theorem dX8_whyNot_32 : decode cX8_whyNot 32 = .ok (.ireturn, 1) := by decide +kernel
theorem dX8_hours_0 : decode cX8_hours 0 = .ok (.aload_n 0, 1) := by decide +kernel
theorem dX8_hours_1 : decode cX8_hours 1 = .ok (.iload_n 1, 1) := by decide +kernel
theorem dX8_hours_2 : decode cX8_hours 2 = .ok (.bipush 72, 2) := by decide +kernel
theorem dX8_hours_4 : decode cX8_hours 4 = .ok (.invokevirtual 184, 3) := by decide +kernel
theorem dX8_hours_7 : decode cX8_hours 7 = .ok (.istore_n 2, 1) := by decide +kernel
theorem dX8_hours_8 : decode cX8_hours 8 = .ok (.iload_n 2, 1) := by decide +kernel
theorem dX8_hours_9 : decode cX8_hours 9 = .ok (.ifCond .eq 9, 3) := by decide +kernel
theorem dX8_hours_12 : decode cX8_hours 12 = .ok (.aload_n 0, 1) := by decide +kernel
theorem dX8_hours_13 : decode cX8_hours 13 = .ok (.iload_n 2, 1) := by decide +kernel
theorem dX8_hours_14 : decode cX8_hours 14 = .ok (.invokevirtual 63, 3) := by decide +kernel
theorem dX8_hours_17 : decode cX8_hours 17 = .ok (.ireturn, 1) := by decide +kernel
theorem dX8_hours_18 : decode cX8_hours 18 = .ok (.iconst 0, 1) := by decide +kernel
theorem dX8_hours_19 : decode cX8_hours 19 = .ok (.istore_n 3, 1) := by decide +kernel
theorem dX8_hours_20 : decode cX8_hours 20 = .ok (.iload_n 3, 1) := by decide +kernel
theorem dX8_hours_21 : decode cX8_hours 21 = .ok (.iload_n 1, 1) := by decide +kernel
theorem dX8_hours_22 : decode cX8_hours 22 = .ok (.if_icmp .ge 13, 3) := by decide +kernel
theorem dX8_hours_25 : decode cX8_hours 25 = .ok (.aload_n 0, 1) := by decide +kernel
theorem dX8_hours_26 : decode cX8_hours 26 = .ok (.invokevirtual 187, 3) := by decide +kernel
theorem dX8_hours_29 : decode cX8_hours 29 = .ok (.iinc 3 1, 3) := by decide +kernel
theorem dX8_hours_32 : decode cX8_hours 32 = .ok (.goto (-12), 3) := by decide +kernel
theorem dX8_hours_35 : decode cX8_hours 35 = .ok (.aload_n 0, 1) := by decide +kernel
theorem dX8_hours_36 : decode cX8_hours 36 = .ok (.getfield 7, 3) := by decide +kernel
theorem dX8_hours_39 : decode cX8_hours 39 = .ok (.iconst 1, 1) := by decide +kernel
theorem dX8_hours_40 : decode cX8_hours 40 = .ok (.iaload, 1) := by decide +kernel
theorem dX8_hours_41 : decode cX8_hours 41 = .ok (.ireturn, 1) := by decide +kernel
theorem dX8_errand_0 : decode cX8_errand 0 = .ok (.aload_n 0, 1) := by decide +kernel
theorem dX8_errand_1 : decode cX8_errand 1 = .ok (.getfield 7, 3) := by decide +kernel
theorem dX8_errand_4 : decode cX8_errand 4 = .ok (.bipush 6, 2) := by decide +kernel
theorem dX8_errand_6 : decode cX8_errand 6 = .ok (.iaload, 1) := by decide +kernel
theorem dX8_errand_7 : decode cX8_errand 7 = .ok (.ifCond .eq 12, 3) := by decide +kernel
theorem dX8_errand_10 : decode cX8_errand 10 = .ok (.aload_n 0, 1) := by decide +kernel
theorem dX8_errand_11 : decode cX8_errand 11 = .ok (.getfield 7, 3) := by decide +kernel
theorem dX8_errand_14 : decode cX8_errand 14 = .ok (.iconst 5, 1) := by decide +kernel
theorem dX8_errand_15 : decode cX8_errand 15 = .ok (.iaload, 1) := by decide +kernel
theorem dX8_errand_16 : decode cX8_errand 16 = .ok (.ifCond .ne 5, 3) := by decide +kernel
theorem dX8_errand_19 : decode cX8_errand 19 = .ok (.iconst 0, 1) := by decide +kernel
theorem dX8_errand_20 : decode cX8_errand 20 = .ok (.ireturn, 1) := by decide +kernel
theorem dX8_errand_21 : decode cX8_errand 21 = .ok (.aload_n 0, 1) := by decide +kernel
theorem dX8_errand_22 : decode cX8_errand 22 = .ok (.invokevirtual 190, 3) := by decide +kernel
theorem dX8_errand_25 : decode cX8_errand 25 = .ok (.aload_n 0, 1) := by decide +kernel
theorem dX8_errand_26 : decode cX8_errand 26 = .ok (.getfield 7, 3) := by decide +kernel
theorem dX8_errand_29 : decode cX8_errand 29 = .ok (.bipush 6, 2) := by decide +kernel
theorem dX8_errand_31 : decode cX8_errand 31 = .ok (.iaload, 1) := by decide +kernel
theorem dX8_errand_32 : decode cX8_errand 32 = .ok (.irem, 1) := by decide +kernel
theorem dX8_errand_33 : decode cX8_errand 33 = .ok (.istore_n 1, 1) := by decide +kernel
theorem dX8_errand_34 : decode cX8_errand 34 = .ok (.aload_n 0, 1) := by decide +kernel
theorem dX8_errand_35 : decode cX8_errand 35 = .ok (.invokevirtual 190, 3) := by decide +kernel
theorem dX8_errand_38 : decode cX8_errand 38 = .ok (.iconst 1, 1) := by decide +kernel
theorem dX8_errand_39 : decode cX8_errand 39 = .ok (.aload_n 0, 1) := by decide +kernel
theorem dX8_errand_40 : decode cX8_errand 40 = .ok (.getfield 7, 3) := by decide +kernel
theorem dX8_errand_43 : decode cX8_errand 43 = .ok (.iconst 5, 1) := by decide +kernel
theorem dX8_errand_44 : decode cX8_errand 44 = .ok (.iaload, 1) := by decide +kernel
theorem dX8_errand_45 : decode cX8_errand 45 = .ok (.ishl, 1) := by decide +kernel
theorem dX8_errand_46 : decode cX8_errand 46 = .ok (.irem, 1) := by decide +kernel
theorem dX8_errand_47 : decode cX8_errand 47 = .ok (.istore_n 2, 1) := by decide +kernel
theorem dX8_errand_48 : decode cX8_errand 48 = .ok (.aload_n 0, 1) := by decide +kernel
theorem dX8_errand_49 : decode cX8_errand 49 = .ok (.invokevirtual 190, 3) := by decide +kernel
theorem dX8_errand_52 : decode cX8_errand 52 = .ok (.iconst 3, 1) := by decide +kernel
theorem dX8_errand_53 : decode cX8_errand 53 = .ok (.irem, 1) := by decide +kernel
theorem dX8_errand_54 : decode cX8_errand 54 = .ok (.istore_n 3, 1) := by decide +kernel
theorem dX8_errand_55 : decode cX8_errand 55 = .ok (.iload_n 2, 1) := by decide +kernel
theorem dX8_errand_56 : decode cX8_errand 56 = .ok (.ifCond .le 23, 3) := by decide +kernel
theorem dX8_errand_59 : decode cX8_errand 59 = .ok (.aload_n 0, 1) := by decide +kernel
theorem dX8_errand_60 : decode cX8_errand 60 = .ok (.iload_n 1, 1) := by decide +kernel
theorem dX8_errand_61 : decode cX8_errand 61 = .ok (.iload_n 2, 1) := by decide +kernel
theorem dX8_errand_62 : decode cX8_errand 62 = .ok (.iload_n 3, 1) := by decide +kernel
theorem dX8_errand_63 : decode cX8_errand 63 = .ok (.invokevirtual 178, 3) := by decide +kernel
theorem dX8_errand_66 : decode cX8_errand 66 = .ok (.ifCond .eq 13, 3) := by decide +kernel
theorem dX8_errand_69 : decode cX8_errand 69 = .ok (.aload_n 0, 1) := by decide +kernel
theorem dX8_errand_70 : decode cX8_errand 70 = .ok (.iload_n 1, 1) := by decide +kernel
theorem dX8_errand_71 : decode cX8_errand 71 = .ok (.iload_n 2, 1) := by decide +kernel
theorem dX8_errand_72 : decode cX8_errand 72 = .ok (.iload_n 3, 1) := by decide +kernel
theorem dX8_errand_73 : decode cX8_errand 73 = .ok (.invokevirtual 181, 3) := by decide +kernel
theorem dX8_errand_76 : decode cX8_errand 76 = .ok (.goto 4, 3) := by decide +kernel
theorem dX8_errand_79 : decode cX8_errand 79 = .ok (.iconst 0, 1) := by decide +kernel
theorem dX8_errand_80 : decode cX8_errand 80 = .ok (.ireturn, 1) := by decide +kernel
theorem dX8_loose_0 : decode cX8_loose 0 = .ok (.aload_n 0, 1) := by decide +kernel
theorem dX8_loose_1 : decode cX8_loose 1 = .ok (.iload_n 1, 1) := by decide +kernel
theorem dX8_loose_2 : decode cX8_loose 2 = .ok (.bipush 24, 2) := by decide +kernel
theorem dX8_loose_4 : decode cX8_loose 4 = .ok (.invokevirtual 184, 3) := by decide +kernel
theorem dX8_loose_7 : decode cX8_loose 7 = .ok (.istore_n 2, 1) := by decide +kernel
theorem dX8_loose_8 : decode cX8_loose 8 = .ok (.iload_n 2, 1) := by decide +kernel
theorem dX8_loose_9 : decode cX8_loose 9 = .ok (.ifCond .eq 9, 3) := by decide +kernel
theorem dX8_loose_12 : decode cX8_loose 12 = .ok (.aload_n 0, 1) := by decide +kernel
theorem dX8_loose_13 : decode cX8_loose 13 = .ok (.iload_n 2, 1) := by decide +kernel
theorem dX8_loose_14 : decode cX8_loose 14 = .ok (.invokevirtual 63, 3) := by decide +kernel
theorem dX8_loose_17 : decode cX8_loose 17 = .ok (.ireturn, 1) := by decide +kernel
theorem dX8_loose_18 : decode cX8_loose 18 = .ok (.iconst 0, 1) := by decide +kernel
theorem dX8_loose_19 : decode cX8_loose 19 = .ok (.istore_n 3, 1) := by decide +kernel
theorem dX8_loose_20 : decode cX8_loose 20 = .ok (.iconst 0, 1) := by decide +kernel
theorem dX8_loose_21 : decode cX8_loose 21 = .ok (.istore 4, 2) := by decide +kernel
theorem dX8_loose_23 : decode cX8_loose 23 = .ok (.iload 4, 2) := by decide +kernel
theorem dX8_loose_25 : decode cX8_loose 25 = .ok (.iload_n 1, 1) := by decide +kernel
theorem dX8_loose_26 : decode cX8_loose 26 = .ok (.if_icmp .ge 20, 3) := by decide +kernel
theorem dX8_loose_29 : decode cX8_loose 29 = .ok (.iload_n 3, 1) := by decide +kernel
theorem dX8_loose_30 : decode cX8_loose 30 = .ok (.aload_n 0, 1) := by decide +kernel
theorem dX8_loose_31 : decode cX8_loose 31 = .ok (.invokevirtual 193, 3) := by decide +kernel
theorem dX8_loose_34 : decode cX8_loose 34 = .ok (.iadd, 1) := by decide +kernel
theorem dX8_loose_35 : decode cX8_loose 35 = .ok (.istore_n 3, 1) := by decide +kernel
theorem dX8_loose_36 : decode cX8_loose 36 = .ok (.aload_n 0, 1) := by decide +kernel
theorem dX8_loose_37 : decode cX8_loose 37 = .ok (.invokevirtual 187, 3) := by decide +kernel
theorem dX8_loose_40 : decode cX8_loose 40 = .ok (.iinc 4 1, 3) := by decide +kernel
theorem dX8_loose_43 : decode cX8_loose 43 = .ok (.goto (-20), 3) := by decide +kernel
theorem dX8_loose_46 : decode cX8_loose 46 = .ok (.iload_n 3, 1) := by decide +kernel
theorem dX8_loose_47 : decode cX8_loose 47 = .ok (.ireturn, 1) := by decide +kernel
theorem dX8_hour_0 : decode cX8_hour 0 = .ok (.iload_n 1, 1) := by decide +kernel
theorem dX8_hour_1 : decode cX8_hour 1 = .ok (.iconst 0, 1) := by decide +kernel
theorem dX8_hour_2 : decode cX8_hour 2 = .ok (.sipush 9999, 3) := by decide +kernel
theorem dX8_hour_5 : decode cX8_hour 5 = .ok (.invokestatic 59, 3) := by decide +kernel
theorem dX8_hour_8 : decode cX8_hour 8 = .ok (.ifCond .eq 12, 3) := by decide +kernel
theorem dX8_hour_11 : decode cX8_hour 11 = .ok (.aload_n 0, 1) := by decide +kernel
theorem dX8_hour_12 : decode cX8_hour 12 = .ok (.iconst 0, 1) := by decide +kernel
theorem dX8_hour_13 : decode cX8_hour 13 = .ok (.iload_n 1, 1) := by decide +kernel
theorem dX8_hour_14 : decode cX8_hour 14 = .ok (.invokevirtual 169, 3) := by decide +kernel
theorem dX8_hour_17 : decode cX8_hour 17 = .ok (.goto 8, 3) := by decide +kernel
theorem dX8_hour_20 : decode cX8_hour 20 = .ok (.aload_n 0, 1) := by decide +kernel
theorem dX8_hour_21 : decode cX8_hour 21 = .ok (.iconst 1, 1) := by decide +kernel
theorem dX8_hour_22 : decode cX8_hour 22 = .ok (.invokevirtual 63, 3) := by decide +kernel
theorem dX8_hour_25 : decode cX8_hour 25 = .ok (.ireturn, 1) := by decide +kernel
theorem dX8_seed_0 : decode cX8_seed 0 = .ok (.aload_n 0, 1) := by decide +kernel
theorem dX8_seed_1 : decode cX8_seed 1 = .ok (.iconst 2, 1) := by decide +kernel
theorem dX8_seed_2 : decode cX8_seed 2 = .ok (.iload_n 1, 1) := by decide +kernel
theorem dX8_seed_3 : decode cX8_seed 3 = .ok (.invokevirtual 169, 3) := by decide +kernel
theorem dX8_seed_6 : decode cX8_seed 6 = .ok (.ireturn, 1) := by decide +kernel
theorem dX8_then_0 : decode cX8_then 0 = .ok (.aload_n 0, 1) := by decide +kernel
theorem dX8_then_1 : decode cX8_then 1 = .ok (.iload_n 1, 1) := by decide +kernel
theorem dX8_then_2 : decode cX8_then 2 = .ok (.invokevirtual 166, 3) := by decide +kernel
theorem dX8_then_5 : decode cX8_then 5 = .ok (.ifCond .eq 13, 3) := by decide +kernel
theorem dX8_then_8 : decode cX8_then 8 = .ok (.iload_n 2, 1) := by decide +kernel
theorem dX8_then_9 : decode cX8_then 9 = .ok (.iconst 0, 1) := by decide +kernel
theorem dX8_then_10 : decode cX8_then 10 = .ok (.bipush 72, 2) := by decide +kernel
theorem dX8_then_12 : decode cX8_then 12 = .ok (.invokestatic 59, 3) := by decide +kernel
theorem dX8_then_15 : decode cX8_then 15 = .ok (.ifCond .ne 9, 3) := by decide +kernel
theorem dX8_then_18 : decode cX8_then 18 = .ok (.aload_n 0, 1) := by decide +kernel
theorem dX8_then_19 : decode cX8_then 19 = .ok (.iconst 1, 1) := by decide +kernel
theorem dX8_then_20 : decode cX8_then 20 = .ok (.invokevirtual 63, 3) := by decide +kernel
theorem dX8_then_23 : decode cX8_then 23 = .ok (.ireturn, 1) := by decide +kernel
theorem dX8_then_24 : decode cX8_then 24 = .ok (.aload_n 0, 1) := by decide +kernel
theorem dX8_then_25 : decode cX8_then 25 = .ok (.invokevirtual 196, 3) := by decide +kernel
theorem dX8_then_28 : decode cX8_then 28 = .ok (.iconst 0, 1) := by decide +kernel
theorem dX8_then_29 : decode cX8_then 29 = .ok (.istore_n 3, 1) := by decide +kernel
theorem dX8_then_30 : decode cX8_then 30 = .ok (.iload_n 3, 1) := by decide +kernel
theorem dX8_then_31 : decode cX8_then 31 = .ok (.iload_n 2, 1) := by decide +kernel
theorem dX8_then_32 : decode cX8_then 32 = .ok (.if_icmp .ge 13, 3) := by decide +kernel
theorem dX8_then_35 : decode cX8_then 35 = .ok (.aload_n 0, 1) := by decide +kernel
theorem dX8_then_36 : decode cX8_then 36 = .ok (.invokevirtual 187, 3) := by decide +kernel
theorem dX8_then_39 : decode cX8_then 39 = .ok (.iinc 3 1, 3) := by decide +kernel
theorem dX8_then_42 : decode cX8_then 42 = .ok (.goto (-12), 3) := by decide +kernel
theorem dX8_then_45 : decode cX8_then 45 = .ok (.aload_n 0, 1) := by decide +kernel
theorem dX8_then_46 : decode cX8_then 46 = .ok (.iload_n 1, 1) := by decide +kernel
theorem dX8_then_47 : decode cX8_then 47 = .ok (.iconst 4, 1) := by decide +kernel
theorem dX8_then_48 : decode cX8_then 48 = .ok (.invokevirtual 123, 3) := by decide +kernel
theorem dX8_then_51 : decode cX8_then 51 = .ok (.istore_n 3, 1) := by decide +kernel
theorem dX8_then_52 : decode cX8_then 52 = .ok (.aload_n 0, 1) := by decide +kernel
theorem dX8_then_53 : decode cX8_then 53 = .ok (.invokevirtual 199, 3) := by decide +kernel
theorem dX8_then_56 : decode cX8_then 56 = .ok (.iload_n 3, 1) := by decide +kernel
theorem dX8_then_57 : decode cX8_then 57 = .ok (.ireturn, 1) := by decide +kernel
theorem dX8_drier_0 : decode cX8_drier 0 = .ok (.iconst (-1), 1) := by decide +kernel
theorem dX8_drier_1 : decode cX8_drier 1 = .ok (.istore_n 2, 1) := by decide +kernel
theorem dX8_drier_2 : decode cX8_drier 2 = .ok (.aload_n 0, 1) := by decide +kernel
theorem dX8_drier_3 : decode cX8_drier 3 = .ok (.getfield 7, 3) := by decide +kernel
theorem dX8_drier_6 : decode cX8_drier 6 = .ok (.iconst 5, 1) := by decide +kernel
theorem dX8_drier_7 : decode cX8_drier 7 = .ok (.iaload, 1) := by decide +kernel
theorem dX8_drier_8 : decode cX8_drier 8 = .ok (.iconst 1, 1) := by decide +kernel
theorem dX8_drier_9 : decode cX8_drier 9 = .ok (.isub, 1) := by decide +kernel
theorem dX8_drier_10 : decode cX8_drier 10 = .ok (.istore_n 3, 1) := by decide +kernel
theorem dX8_drier_11 : decode cX8_drier 11 = .ok (.iload_n 3, 1) := by decide +kernel
theorem dX8_drier_12 : decode cX8_drier 12 = .ok (.ifCond .lt 25, 3) := by decide +kernel
theorem dX8_drier_15 : decode cX8_drier 15 = .ok (.aload_n 0, 1) := by decide +kernel
theorem dX8_drier_16 : decode cX8_drier 16 = .ok (.iload_n 3, 1) := by decide +kernel
theorem dX8_drier_17 : decode cX8_drier 17 = .ok (.iconst 4, 1) := by decide +kernel
theorem dX8_drier_18 : decode cX8_drier 18 = .ok (.invokevirtual 123, 3) := by decide +kernel
theorem dX8_drier_21 : decode cX8_drier 21 = .ok (.iload_n 1, 1) := by decide +kernel
theorem dX8_drier_22 : decode cX8_drier 22 = .ok (.if_icmp .le 7, 3) := by decide +kernel
theorem dX8_drier_25 : decode cX8_drier 25 = .ok (.iload_n 3, 1) := by decide +kernel
theorem dX8_drier_26 : decode cX8_drier 26 = .ok (.goto 4, 3) := by decide +kernel
theorem dX8_drier_29 : decode cX8_drier 29 = .ok (.iload_n 2, 1) := by decide +kernel
theorem dX8_drier_30 : decode cX8_drier 30 = .ok (.istore_n 2, 1) := by decide +kernel
theorem dX8_drier_31 : decode cX8_drier 31 = .ok (.iinc 3 (-1), 3) := by decide +kernel
theorem dX8_drier_34 : decode cX8_drier 34 = .ok (.goto (-23), 3) := by decide +kernel
theorem dX8_drier_37 : decode cX8_drier 37 = .ok (.iload_n 2, 1) := by decide +kernel
theorem dX8_drier_38 : decode cX8_drier 38 = .ok (.ireturn, 1) := by decide +kernel
theorem dX8_first_0 : decode cX8_first 0 = .ok (.iload_n 1, 1) := by decide +kernel
theorem dX8_first_1 : decode cX8_first 1 = .ok (.iconst 0, 1) := by decide +kernel
theorem dX8_first_2 : decode cX8_first 2 = .ok (.bipush 99, 2) := by decide +kernel
theorem dX8_first_4 : decode cX8_first 4 = .ok (.invokestatic 59, 3) := by decide +kernel
theorem dX8_first_7 : decode cX8_first 7 = .ok (.ifCond .eq 12, 3) := by decide +kernel
theorem dX8_first_10 : decode cX8_first 10 = .ok (.iload_n 2, 1) := by decide +kernel
theorem dX8_first_11 : decode cX8_first 11 = .ok (.iconst 0, 1) := by decide +kernel
theorem dX8_first_12 : decode cX8_first 12 = .ok (.iconst 1, 1) := by decide +kernel
theorem dX8_first_13 : decode cX8_first 13 = .ok (.invokestatic 59, 3) := by decide +kernel
theorem dX8_first_16 : decode cX8_first 16 = .ok (.ifCond .ne 9, 3) := by decide +kernel
theorem dX8_first_19 : decode cX8_first 19 = .ok (.aload_n 0, 1) := by decide +kernel
theorem dX8_first_20 : decode cX8_first 20 = .ok (.iconst 1, 1) := by decide +kernel
theorem dX8_first_21 : decode cX8_first 21 = .ok (.invokevirtual 63, 3) := by decide +kernel
theorem dX8_first_24 : decode cX8_first 24 = .ok (.ireturn, 1) := by decide +kernel
theorem dX8_first_25 : decode cX8_first 25 = .ok (.aload_n 0, 1) := by decide +kernel
theorem dX8_first_26 : decode cX8_first 26 = .ok (.invokevirtual 196, 3) := by decide +kernel
theorem dX8_first_29 : decode cX8_first 29 = .ok (.iconst 0, 1) := by decide +kernel
theorem dX8_first_30 : decode cX8_first 30 = .ok (.istore_n 3, 1) := by decide +kernel
theorem dX8_first_31 : decode cX8_first 31 = .ok (.iload_n 3, 1) := by decide +kernel
theorem dX8_first_32 : decode cX8_first 32 = .ok (.bipush 72, 2) := by decide +kernel
theorem dX8_first_34 : decode cX8_first 34 = .ok (.if_icmp .gt 22, 3) := by decide +kernel
theorem dX8_first_37 : decode cX8_first 37 = .ok (.aload_n 0, 1) := by decide +kernel
theorem dX8_first_38 : decode cX8_first 38 = .ok (.iload_n 1, 1) := by decide +kernel
theorem dX8_first_39 : decode cX8_first 39 = .ok (.invokevirtual 202, 3) := by decide +kernel
theorem dX8_first_42 : decode cX8_first 42 = .ok (.iconst (-1), 1) := by decide +kernel
theorem dX8_first_43 : decode cX8_first 43 = .ok (.if_icmp .ne 13, 3) := by decide +kernel
theorem dX8_first_46 : decode cX8_first 46 = .ok (.aload_n 0, 1) := by decide +kernel
theorem dX8_first_47 : decode cX8_first 47 = .ok (.invokevirtual 187, 3) := by decide +kernel
theorem dX8_first_50 : decode cX8_first 50 = .ok (.iinc 3 1, 3) := by decide +kernel
theorem dX8_first_53 : decode cX8_first 53 = .ok (.goto (-22), 3) := by decide +kernel
theorem dX8_first_56 : decode cX8_first 56 = .ok (.aload_n 0, 1) := by decide +kernel
theorem dX8_first_57 : decode cX8_first 57 = .ok (.iload_n 1, 1) := by decide +kernel
theorem dX8_first_58 : decode cX8_first 58 = .ok (.invokevirtual 202, 3) := by decide +kernel
theorem dX8_first_61 : decode cX8_first 61 = .ok (.istore 4, 2) := by decide +kernel
theorem dX8_first_63 : decode cX8_first 63 = .ok (.aload_n 0, 1) := by decide +kernel
theorem dX8_first_64 : decode cX8_first 64 = .ok (.invokevirtual 199, 3) := by decide +kernel
theorem dX8_first_67 : decode cX8_first 67 = .ok (.iload_n 3, 1) := by decide +kernel
theorem dX8_first_68 : decode cX8_first 68 = .ok (.bipush 72, 2) := by decide +kernel
theorem dX8_first_70 : decode cX8_first 70 = .ok (.if_icmp .le 11, 3) := by decide +kernel
theorem dX8_first_73 : decode cX8_first 73 = .ok (.aload_n 0, 1) := by decide +kernel
theorem dX8_first_74 : decode cX8_first 74 = .ok (.iconst 2, 1) := by decide +kernel
theorem dX8_first_75 : decode cX8_first 75 = .ok (.invokevirtual 63, 3) := by decide +kernel
theorem dX8_first_78 : decode cX8_first 78 = .ok (.goto 13, 3) := by decide +kernel
theorem dX8_first_81 : decode cX8_first 81 = .ok (.iload_n 2, 1) := by decide +kernel
theorem dX8_first_82 : decode cX8_first 82 = .ok (.ifCond .ne 8, 3) := by decide +kernel
theorem dX8_first_85 : decode cX8_first 85 = .ok (.iload 4, 2) := by decide +kernel
theorem dX8_first_87 : decode cX8_first 87 = .ok (.goto 4, 3) := by decide +kernel
theorem dX8_first_90 : decode cX8_first 90 = .ok (.iload_n 3, 1) := by decide +kernel
theorem dX8_first_91 : decode cX8_first 91 = .ok (.ireturn, 1) := by decide +kernel
theorem dX8_round_0 : decode cX8_round 0 = .ok (.aload_n 0, 1) := by decide +kernel
theorem dX8_round_1 : decode cX8_round 1 = .ok (.iload_n 1, 1) := by decide +kernel
theorem dX8_round_2 : decode cX8_round 2 = .ok (.invokevirtual 175, 3) := by decide +kernel
theorem dX8_round_5 : decode cX8_round 5 = .ok (.ifCond .eq 12, 3) := by decide +kernel
theorem dX8_round_8 : decode cX8_round 8 = .ok (.iload_n 2, 1) := by decide +kernel
theorem dX8_round_9 : decode cX8_round 9 = .ok (.iconst 0, 1) := by decide +kernel
theorem dX8_round_10 : decode cX8_round 10 = .ok (.iconst 1, 1) := by decide +kernel
theorem dX8_round_11 : decode cX8_round 11 = .ok (.invokestatic 59, 3) := by decide +kernel
theorem dX8_round_14 : decode cX8_round 14 = .ok (.ifCond .ne 9, 3) := by decide +kernel
theorem dX8_round_17 : decode cX8_round 17 = .ok (.aload_n 0, 1) := by decide +kernel
theorem dX8_round_18 : decode cX8_round 18 = .ok (.iconst 1, 1) := by decide +kernel
theorem dX8_round_19 : decode cX8_round 19 = .ok (.invokevirtual 63, 3) := by decide +kernel
theorem dX8_round_22 : decode cX8_round 22 = .ok (.ireturn, 1) := by decide +kernel
theorem dX8_round_23 : decode cX8_round 23 = .ok (.iconst 0, 1) := by decide +kernel
theorem dX8_round_24 : decode cX8_round 24 = .ok (.istore_n 3, 1) := by decide +kernel
theorem dX8_round_25 : decode cX8_round 25 = .ok (.iload_n 3, 1) := by decide +kernel
theorem dX8_round_26 : decode cX8_round 26 = .ok (.aload_n 0, 1) := by decide +kernel
theorem dX8_round_27 : decode cX8_round 27 = .ok (.getfield 7, 3) := by decide +kernel
theorem dX8_round_30 : decode cX8_round 30 = .ok (.iconst 5, 1) := by decide +kernel
theorem dX8_round_31 : decode cX8_round 31 = .ok (.iaload, 1) := by decide +kernel
theorem dX8_round_32 : decode cX8_round 32 = .ok (.if_icmp .ge 20, 3) := by decide +kernel
theorem dX8_round_35 : decode cX8_round 35 = .ok (.aload_n 0, 1) := by decide +kernel
theorem dX8_round_36 : decode cX8_round 36 = .ok (.getfield 31, 3) := by decide +kernel
theorem dX8_round_39 : decode cX8_round 39 = .ok (.iload_n 3, 1) := by decide +kernel
theorem dX8_round_40 : decode cX8_round 40 = .ok (.aload_n 0, 1) := by decide +kernel
theorem dX8_round_41 : decode cX8_round 41 = .ok (.iload_n 3, 1) := by decide +kernel
theorem dX8_round_42 : decode cX8_round 42 = .ok (.invokevirtual 160, 3) := by decide +kernel
theorem dX8_round_45 : decode cX8_round 45 = .ok (.iastore, 1) := by decide +kernel
theorem dX8_round_46 : decode cX8_round 46 = .ok (.iinc 3 1, 3) := by decide +kernel
theorem dX8_round_49 : decode cX8_round 49 = .ok (.goto (-24), 3) := by decide +kernel
theorem dX8_round_52 : decode cX8_round 52 = .ok (.iconst 0, 1) := by decide +kernel
theorem dX8_round_53 : decode cX8_round 53 = .ok (.istore_n 3, 1) := by decide +kernel
theorem dX8_round_54 : decode cX8_round 54 = .ok (.iconst 0, 1) := by decide +kernel
theorem dX8_round_55 : decode cX8_round 55 = .ok (.istore 4, 2) := by decide +kernel
theorem dX8_round_57 : decode cX8_round 57 = .ok (.iconst 1, 1) := by decide +kernel
theorem dX8_round_58 : decode cX8_round 58 = .ok (.istore 5, 2) := by decide +kernel
theorem dX8_round_60 : decode cX8_round 60 = .ok (.iload 5, 2) := by decide +kernel
theorem dX8_round_62 : decode cX8_round 62 = .ok (.iconst 1, 1) := by decide +kernel
theorem dX8_round_63 : decode cX8_round 63 = .ok (.aload_n 0, 1) := by decide +kernel
theorem dX8_round_64 : decode cX8_round 64 = .ok (.getfield 7, 3) := by decide +kernel
theorem dX8_round_67 : decode cX8_round 67 = .ok (.iconst 5, 1) := by decide +kernel
theorem dX8_round_68 : decode cX8_round 68 = .ok (.iaload, 1) := by decide +kernel
theorem dX8_round_69 : decode cX8_round 69 = .ok (.ishl, 1) := by decide +kernel
theorem dX8_round_70 : decode cX8_round 70 = .ok (.if_icmp .ge 87, 3) := by decide +kernel
theorem dX8_round_73 : decode cX8_round 73 = .ok (.iconst 0, 1) := by decide +kernel
theorem dX8_round_74 : decode cX8_round 74 = .ok (.istore 6, 2) := by decide +kernel
theorem dX8_round_76 : decode cX8_round 76 = .ok (.iconst 0, 1) := by decide +kernel
theorem dX8_round_77 : decode cX8_round 77 = .ok (.istore 7, 2) := by decide +kernel
theorem dX8_round_79 : decode cX8_round 79 = .ok (.iload 7, 2) := by decide +kernel
theorem dX8_round_81 : decode cX8_round 81 = .ok (.aload_n 0, 1) := by decide +kernel
theorem dX8_round_82 : decode cX8_round 82 = .ok (.getfield 7, 3) := by decide +kernel
theorem dX8_round_85 : decode cX8_round 85 = .ok (.iconst 5, 1) := by decide +kernel
theorem dX8_round_86 : decode cX8_round 86 = .ok (.iaload, 1) := by decide +kernel
theorem dX8_round_87 : decode cX8_round 87 = .ok (.if_icmp .ge 36, 3) := by decide +kernel
theorem dX8_round_90 : decode cX8_round 90 = .ok (.iload 6, 2) := by decide +kernel
theorem dX8_round_92 : decode cX8_round 92 = .ok (.iload 5, 2) := by decide +kernel
theorem dX8_round_94 : decode cX8_round 94 = .ok (.iload 7, 2) := by decide +kernel
theorem dX8_round_96 : decode cX8_round 96 = .ok (.ishr, 1) := by decide +kernel
theorem dX8_round_97 : decode cX8_round 97 = .ok (.iconst 1, 1) := by decide +kernel
theorem dX8_round_98 : decode cX8_round 98 = .ok (.iand, 1) := by decide +kernel
theorem dX8_round_99 : decode cX8_round 99 = .ok (.iconst 1, 1) := by decide +kernel
theorem dX8_round_100 : decode cX8_round 100 = .ok (.if_icmp .ne 13, 3) := by decide +kernel
theorem dX8_round_103 : decode cX8_round 103 = .ok (.aload_n 0, 1) := by decide +kernel
theorem dX8_round_104 : decode cX8_round 104 = .ok (.getfield 31, 3) := by decide +kernel
theorem dX8_round_107 : decode cX8_round 107 = .ok (.iload 7, 2) := by decide +kernel
theorem dX8_round_109 : decode cX8_round 109 = .ok (.iaload, 1) := by decide +kernel
theorem dX8_round_110 : decode cX8_round 110 = .ok (.goto 4, 3) := by decide +kernel
theorem dX8_round_113 : decode cX8_round 113 = .ok (.iconst 0, 1) := by decide +kernel
theorem dX8_round_114 : decode cX8_round 114 = .ok (.iadd, 1) := by decide +kernel
theorem dX8_round_115 : decode cX8_round 115 = .ok (.istore 6, 2) := by decide +kernel
theorem dX8_round_117 : decode cX8_round 117 = .ok (.iinc 7 1, 3) := by decide +kernel
theorem dX8_round_120 : decode cX8_round 120 = .ok (.goto (-41), 3) := by decide +kernel
theorem dX8_round_123 : decode cX8_round 123 = .ok (.iload 6, 2) := by decide +kernel
theorem dX8_round_125 : decode cX8_round 125 = .ok (.iload 4, 2) := by decide +kernel
theorem dX8_round_127 : decode cX8_round 127 = .ok (.if_icmp .le 24, 3) := by decide +kernel
theorem dX8_round_130 : decode cX8_round 130 = .ok (.aload_n 0, 1) := by decide +kernel
theorem dX8_round_131 : decode cX8_round 131 = .ok (.iload 5, 2) := by decide +kernel
theorem dX8_round_133 : decode cX8_round 133 = .ok (.invokevirtual 154, 3) := by decide +kernel
theorem dX8_round_136 : decode cX8_round 136 = .ok (.aload_n 0, 1) := by decide +kernel
theorem dX8_round_137 : decode cX8_round 137 = .ok (.iload_n 1, 1) := by decide +kernel
theorem dX8_round_138 : decode cX8_round 138 = .ok (.invokevirtual 157, 3) := by decide +kernel
theorem dX8_round_141 : decode cX8_round 141 = .ok (.if_icmp .gt 10, 3) := by decide +kernel
theorem dX8_round_144 : decode cX8_round 144 = .ok (.iload 5, 2) := by decide +kernel
theorem dX8_round_146 : decode cX8_round 146 = .ok (.istore_n 3, 1) := by decide +kernel
theorem dX8_round_147 : decode cX8_round 147 = .ok (.iload 6, 2) := by decide +kernel
theorem dX8_round_149 : decode cX8_round 149 = .ok (.istore 4, 2) := by decide +kernel
theorem dX8_round_151 : decode cX8_round 151 = .ok (.iinc 5 1, 3) := by decide +kernel
theorem dX8_round_154 : decode cX8_round 154 = .ok (.goto (-94), 3) := by decide +kernel
theorem dX8_round_157 : decode cX8_round 157 = .ok (.iload_n 2, 1) := by decide +kernel
theorem dX8_round_158 : decode cX8_round 158 = .ok (.ifCond .ne 7, 3) := by decide +kernel
theorem dX8_round_161 : decode cX8_round 161 = .ok (.iload_n 3, 1) := by decide +kernel
theorem dX8_round_162 : decode cX8_round 162 = .ok (.goto 5, 3) := by decide +kernel
theorem dX8_round_165 : decode cX8_round 165 = .ok (.iload 4, 2) := by decide +kernel
theorem dX8_round_167 : decode cX8_round 167 = .ok (.ireturn, 1) := by decide +kernel
theorem dX8_goes_0 : decode cX8_goes 0 = .ok (.aload_n 0, 1) := by decide +kernel
theorem dX8_goes_1 : decode cX8_goes 1 = .ok (.getfield 205, 3) := by decide +kernel
theorem dX8_goes_4 : decode cX8_goes 4 = .ok (.iconst (-1), 1) := by decide +kernel
theorem dX8_goes_5 : decode cX8_goes 5 = .ok (.if_icmp .eq 12, 3) := by decide +kernel
theorem dX8_goes_8 : decode cX8_goes 8 = .ok (.iload_n 3, 1) := by decide +kernel
theorem dX8_goes_9 : decode cX8_goes 9 = .ok (.aload_n 0, 1) := by decide +kernel
theorem dX8_goes_10 : decode cX8_goes 10 = .ok (.getfield 205, 3) := by decide +kernel
theorem dX8_goes_13 : decode cX8_goes 13 = .ok (.if_icmp .lt 4, 3) := by decide +kernel
theorem dX8_goes_16 : decode cX8_goes 16 = .ok (.return_, 1) := by decide +kernel
theorem dX8_goes_17 : decode cX8_goes 17 = .ok (.iload_n 1, 1) := by decide +kernel
theorem dX8_goes_18 : decode cX8_goes 18 = .ok (.aload_n 0, 1) := by decide +kernel
theorem dX8_goes_19 : decode cX8_goes 19 = .ok (.getfield 7, 3) := by decide +kernel
theorem dX8_goes_22 : decode cX8_goes 22 = .ok (.iconst 5, 1) := by decide +kernel
theorem dX8_goes_23 : decode cX8_goes 23 = .ok (.iaload, 1) := by decide +kernel
theorem dX8_goes_24 : decode cX8_goes 24 = .ok (.if_icmp .ne 38, 3) := by decide +kernel
theorem dX8_goes_27 : decode cX8_goes 27 = .ok (.aload_n 0, 1) := by decide +kernel
theorem dX8_goes_28 : decode cX8_goes 28 = .ok (.iload_n 3, 1) := by decide +kernel
theorem dX8_goes_29 : decode cX8_goes 29 = .ok (.putfield 205, 3) := by decide +kernel
theorem dX8_goes_32 : decode cX8_goes 32 = .ok (.iconst 0, 1) := by decide +kernel
theorem dX8_goes_33 : decode cX8_goes 33 = .ok (.istore 4, 2) := by decide +kernel
theorem dX8_goes_35 : decode cX8_goes 35 = .ok (.iload 4, 2) := by decide +kernel
theorem dX8_goes_37 : decode cX8_goes 37 = .ok (.iload_n 1, 1) := by decide +kernel
theorem dX8_goes_38 : decode cX8_goes 38 = .ok (.if_icmp .ge 23, 3) := by decide +kernel
theorem dX8_goes_41 : decode cX8_goes 41 = .ok (.aload_n 0, 1) := by decide +kernel
theorem dX8_goes_42 : decode cX8_goes 42 = .ok (.getfield 37, 3) := by decide +kernel
theorem dX8_goes_45 : decode cX8_goes 45 = .ok (.iload 4, 2) := by decide +kernel
theorem dX8_goes_47 : decode cX8_goes 47 = .ok (.aload_n 0, 1) := by decide +kernel
theorem dX8_goes_48 : decode cX8_goes 48 = .ok (.getfield 34, 3) := by decide +kernel
theorem dX8_goes_51 : decode cX8_goes 51 = .ok (.iload 4, 2) := by decide +kernel
theorem dX8_goes_53 : decode cX8_goes 53 = .ok (.iaload, 1) := by decide +kernel
theorem dX8_goes_54 : decode cX8_goes 54 = .ok (.iastore, 1) := by decide +kernel
theorem dX8_goes_55 : decode cX8_goes 55 = .ok (.iinc 4 1, 3) := by decide +kernel
theorem dX8_goes_58 : decode cX8_goes 58 = .ok (.goto (-23), 3) := by decide +kernel
theorem dX8_goes_61 : decode cX8_goes 61 = .ok (.return_, 1) := by decide +kernel
theorem dX8_goes_62 : decode cX8_goes 62 = .ok (.aload_n 0, 1) := by decide +kernel
theorem dX8_goes_63 : decode cX8_goes 63 = .ok (.iload_n 1, 1) := by decide +kernel
theorem dX8_goes_64 : decode cX8_goes 64 = .ok (.iconst 4, 1) := by decide +kernel
theorem dX8_goes_65 : decode cX8_goes 65 = .ok (.invokevirtual 123, 3) := by decide +kernel
theorem dX8_goes_68 : decode cX8_goes 68 = .ok (.istore 4, 2) := by decide +kernel
theorem dX8_goes_70 : decode cX8_goes 70 = .ok (.iload 4, 2) := by decide +kernel
theorem dX8_goes_72 : decode cX8_goes 72 = .ok (.iload_n 2, 1) := by decide +kernel
theorem dX8_goes_73 : decode cX8_goes 73 = .ok (.if_icmp .gt 20, 3) := by decide +kernel
theorem dX8_goes_76 : decode cX8_goes 76 = .ok (.aload_n 0, 1) := by decide +kernel
theorem dX8_goes_77 : decode cX8_goes 77 = .ok (.getfield 34, 3) := by decide +kernel
theorem dX8_goes_80 : decode cX8_goes 80 = .ok (.iload_n 1, 1) := by decide +kernel
theorem dX8_goes_81 : decode cX8_goes 81 = .ok (.iconst (-1), 1) := by decide +kernel
theorem dX8_goes_82 : decode cX8_goes 82 = .ok (.iastore, 1) := by decide +kernel
theorem dX8_goes_83 : decode cX8_goes 83 = .ok (.aload_n 0, 1) := by decide +kernel
theorem dX8_goes_84 : decode cX8_goes 84 = .ok (.iload_n 1, 1) := by decide +kernel
theorem dX8_goes_85 : decode cX8_goes 85 = .ok (.iconst 1, 1) := by decide +kernel
theorem dX8_goes_86 : decode cX8_goes 86 = .ok (.iadd, 1) := by decide +kernel
theorem dX8_goes_87 : decode cX8_goes 87 = .ok (.iload_n 2, 1) := by decide +kernel
theorem dX8_goes_88 : decode cX8_goes 88 = .ok (.iload_n 3, 1) := by decide +kernel
theorem dX8_goes_89 : decode cX8_goes 89 = .ok (.invokevirtual 208, 3) := by decide +kernel
theorem dX8_goes_92 : decode cX8_goes 92 = .ok (.return_, 1) := by decide +kernel
theorem dX8_goes_93 : decode cX8_goes 93 = .ok (.iconst 0, 1) := by decide +kernel
theorem dX8_goes_94 : decode cX8_goes 94 = .ok (.istore 5, 2) := by decide +kernel
theorem dX8_goes_96 : decode cX8_goes 96 = .ok (.iload 5, 2) := by decide +kernel
theorem dX8_goes_98 : decode cX8_goes 98 = .ok (.aload_n 0, 1) := by decide +kernel
theorem dX8_goes_99 : decode cX8_goes 99 = .ok (.getfield 7, 3) := by decide +kernel
theorem dX8_goes_102 : decode cX8_goes 102 = .ok (.bipush 6, 2) := by decide +kernel
theorem dX8_goes_104 : decode cX8_goes 104 = .ok (.iaload, 1) := by decide +kernel
theorem dX8_goes_105 : decode cX8_goes 105 = .ok (.if_icmp .ge 89, 3) := by decide +kernel
theorem dX8_goes_108 : decode cX8_goes 108 = .ok (.aload_n 0, 1) := by decide +kernel
theorem dX8_goes_109 : decode cX8_goes 109 = .ok (.getfield 40, 3) := by decide +kernel
theorem dX8_goes_112 : decode cX8_goes 112 = .ok (.iload 5, 2) := by decide +kernel
theorem dX8_goes_114 : decode cX8_goes 114 = .ok (.iaload, 1) := by decide +kernel
theorem dX8_goes_115 : decode cX8_goes 115 = .ok (.iload 4, 2) := by decide +kernel
theorem dX8_goes_117 : decode cX8_goes 117 = .ok (.iadd, 1) := by decide +kernel
theorem dX8_goes_118 : decode cX8_goes 118 = .ok (.aload_n 0, 1) := by decide +kernel
theorem dX8_goes_119 : decode cX8_goes 119 = .ok (.iload 5, 2) := by decide +kernel
theorem dX8_goes_121 : decode cX8_goes 121 = .ok (.invokevirtual 157, 3) := by decide +kernel
theorem dX8_goes_124 : decode cX8_goes 124 = .ok (.if_icmp .gt 64, 3) := by decide +kernel
theorem dX8_goes_127 : decode cX8_goes 127 = .ok (.aload_n 0, 1) := by decide +kernel
theorem dX8_goes_128 : decode cX8_goes 128 = .ok (.getfield 40, 3) := by decide +kernel
theorem dX8_goes_131 : decode cX8_goes 131 = .ok (.iload 5, 2) := by decide +kernel
theorem dX8_goes_133 : decode cX8_goes 133 = .ok (.iaload, 1) := by decide +kernel
theorem dX8_goes_134 : decode cX8_goes 134 = .ok (.ifCond .ne 7, 3) := by decide +kernel
theorem dX8_goes_137 : decode cX8_goes 137 = .ok (.iconst 1, 1) := by decide +kernel
theorem dX8_goes_138 : decode cX8_goes 138 = .ok (.goto 4, 3) := by decide +kernel
theorem dX8_goes_141 : decode cX8_goes 141 = .ok (.iconst 0, 1) := by decide +kernel
theorem dX8_goes_142 : decode cX8_goes 142 = .ok (.istore 6, 2) := by decide +kernel
theorem dX8_goes_144 : decode cX8_goes 144 = .ok (.aload_n 0, 1) := by decide +kernel
theorem dX8_goes_145 : decode cX8_goes 145 = .ok (.getfield 34, 3) := by decide +kernel
theorem dX8_goes_148 : decode cX8_goes 148 = .ok (.iload_n 1, 1) := by decide +kernel
theorem dX8_goes_149 : decode cX8_goes 149 = .ok (.iload 5, 2) := by decide +kernel
theorem dX8_goes_151 : decode cX8_goes 151 = .ok (.iastore, 1) := by decide +kernel
theorem dX8_goes_152 : decode cX8_goes 152 = .ok (.aload_n 0, 1) := by decide +kernel
theorem dX8_goes_153 : decode cX8_goes 153 = .ok (.getfield 40, 3) := by decide +kernel
theorem dX8_goes_156 : decode cX8_goes 156 = .ok (.iload 5, 2) := by decide +kernel
theorem dX8_goes_158 : decode cX8_goes 158 = .ok (.dup2, 1) := by decide +kernel
theorem dX8_goes_159 : decode cX8_goes 159 = .ok (.iaload, 1) := by decide +kernel
theorem dX8_goes_160 : decode cX8_goes 160 = .ok (.iload 4, 2) := by decide +kernel
theorem dX8_goes_162 : decode cX8_goes 162 = .ok (.iadd, 1) := by decide +kernel
theorem dX8_goes_163 : decode cX8_goes 163 = .ok (.iastore, 1) := by decide +kernel
theorem dX8_goes_164 : decode cX8_goes 164 = .ok (.aload_n 0, 1) := by decide +kernel
theorem dX8_goes_165 : decode cX8_goes 165 = .ok (.iload_n 1, 1) := by decide +kernel
theorem dX8_goes_166 : decode cX8_goes 166 = .ok (.iconst 1, 1) := by decide +kernel
theorem dX8_goes_167 : decode cX8_goes 167 = .ok (.iadd, 1) := by decide +kernel
theorem dX8_goes_168 : decode cX8_goes 168 = .ok (.iload_n 2, 1) := by decide +kernel
theorem dX8_goes_169 : decode cX8_goes 169 = .ok (.iload_n 3, 1) := by decide +kernel
theorem dX8_goes_170 : decode cX8_goes 170 = .ok (.iload 6, 2) := by decide +kernel
theorem dX8_goes_172 : decode cX8_goes 172 = .ok (.iadd, 1) := by decide +kernel
theorem dX8_goes_173 : decode cX8_goes 173 = .ok (.invokevirtual 208, 3) := by decide +kernel
theorem dX8_goes_176 : decode cX8_goes 176 = .ok (.aload_n 0, 1) := by decide +kernel
theorem dX8_goes_177 : decode cX8_goes 177 = .ok (.getfield 40, 3) := by decide +kernel
theorem dX8_goes_180 : decode cX8_goes 180 = .ok (.iload 5, 2) := by decide +kernel
theorem dX8_goes_182 : decode cX8_goes 182 = .ok (.dup2, 1) := by decide +kernel
theorem dX8_goes_183 : decode cX8_goes 183 = .ok (.iaload, 1) := by decide +kernel
theorem dX8_goes_184 : decode cX8_goes 184 = .ok (.iload 4, 2) := by decide +kernel
theorem dX8_goes_186 : decode cX8_goes 186 = .ok (.isub, 1) := by decide +kernel
theorem dX8_goes_187 : decode cX8_goes 187 = .ok (.iastore, 1) := by decide +kernel
theorem dX8_goes_188 : decode cX8_goes 188 = .ok (.iinc 5 1, 3) := by decide +kernel
theorem dX8_goes_191 : decode cX8_goes 191 = .ok (.goto (-95), 3) := by decide +kernel
theorem dX8_goes_194 : decode cX8_goes 194 = .ok (.return_, 1) := by decide +kernel
theorem dX8_fewest_0 : decode cX8_fewest 0 = .ok (.iload_n 1, 1) := by decide +kernel
theorem dX8_fewest_1 : decode cX8_fewest 1 = .ok (.iconst 0, 1) := by decide +kernel
theorem dX8_fewest_2 : decode cX8_fewest 2 = .ok (.bipush 99, 2) := by decide +kernel
theorem dX8_fewest_4 : decode cX8_fewest 4 = .ok (.invokestatic 59, 3) := by decide +kernel
theorem dX8_fewest_7 : decode cX8_fewest 7 = .ok (.ifCond .eq 13, 3) := by decide +kernel
theorem dX8_fewest_10 : decode cX8_fewest 10 = .ok (.iload_n 2, 1) := by decide +kernel
theorem dX8_fewest_11 : decode cX8_fewest 11 = .ok (.iconst (-1), 1) := by decide +kernel
theorem dX8_fewest_12 : decode cX8_fewest 12 = .ok (.bipush 6, 2) := by decide +kernel
theorem dX8_fewest_14 : decode cX8_fewest 14 = .ok (.invokestatic 59, 3) := by decide +kernel
theorem dX8_fewest_17 : decode cX8_fewest 17 = .ok (.ifCond .ne 9, 3) := by decide +kernel
theorem dX8_fewest_20 : decode cX8_fewest 20 = .ok (.aload_n 0, 1) := by decide +kernel
theorem dX8_fewest_21 : decode cX8_fewest 21 = .ok (.iconst 1, 1) := by decide +kernel
theorem dX8_fewest_22 : decode cX8_fewest 22 = .ok (.invokevirtual 63, 3) := by decide +kernel
theorem dX8_fewest_25 : decode cX8_fewest 25 = .ok (.ireturn, 1) := by decide +kernel
theorem dX8_fewest_26 : decode cX8_fewest 26 = .ok (.iconst 0, 1) := by decide +kernel
theorem dX8_fewest_27 : decode cX8_fewest 27 = .ok (.istore_n 3, 1) := by decide +kernel
theorem dX8_fewest_28 : decode cX8_fewest 28 = .ok (.iload_n 3, 1) := by decide +kernel
theorem dX8_fewest_29 : decode cX8_fewest 29 = .ok (.iconst 4, 1) := by decide +kernel
theorem dX8_fewest_30 : decode cX8_fewest 30 = .ok (.if_icmp .ge 16, 3) := by decide +kernel
theorem dX8_fewest_33 : decode cX8_fewest 33 = .ok (.aload_n 0, 1) := by decide +kernel
theorem dX8_fewest_34 : decode cX8_fewest 34 = .ok (.getfield 40, 3) := by decide +kernel
theorem dX8_fewest_37 : decode cX8_fewest 37 = .ok (.iload_n 3, 1) := by decide +kernel
theorem dX8_fewest_38 : decode cX8_fewest 38 = .ok (.iconst 0, 1) := by decide +kernel
theorem dX8_fewest_39 : decode cX8_fewest 39 = .ok (.iastore, 1) := by decide +kernel
theorem dX8_fewest_40 : decode cX8_fewest 40 = .ok (.iinc 3 1, 3) := by decide +kernel
theorem dX8_fewest_43 : decode cX8_fewest 43 = .ok (.goto (-15), 3) := by decide +kernel
theorem dX8_fewest_46 : decode cX8_fewest 46 = .ok (.aload_n 0, 1) := by decide +kernel
theorem dX8_fewest_47 : decode cX8_fewest 47 = .ok (.iconst (-1), 1) := by decide +kernel
theorem dX8_fewest_48 : decode cX8_fewest 48 = .ok (.putfield 205, 3) := by decide +kernel
theorem dX8_fewest_51 : decode cX8_fewest 51 = .ok (.aload_n 0, 1) := by decide +kernel
theorem dX8_fewest_52 : decode cX8_fewest 52 = .ok (.iconst 0, 1) := by decide +kernel
theorem dX8_fewest_53 : decode cX8_fewest 53 = .ok (.iload_n 1, 1) := by decide +kernel
theorem dX8_fewest_54 : decode cX8_fewest 54 = .ok (.iconst 0, 1) := by decide +kernel
theorem dX8_fewest_55 : decode cX8_fewest 55 = .ok (.invokevirtual 208, 3) := by decide +kernel
theorem dX8_fewest_58 : decode cX8_fewest 58 = .ok (.aload_n 0, 1) := by decide +kernel
theorem dX8_fewest_59 : decode cX8_fewest 59 = .ok (.getfield 205, 3) := by decide +kernel
theorem dX8_fewest_62 : decode cX8_fewest 62 = .ok (.iconst (-1), 1) := by decide +kernel
theorem dX8_fewest_63 : decode cX8_fewest 63 = .ok (.if_icmp .ne 9, 3) := by decide +kernel
theorem dX8_fewest_66 : decode cX8_fewest 66 = .ok (.aload_n 0, 1) := by decide +kernel
theorem dX8_fewest_67 : decode cX8_fewest 67 = .ok (.iconst 2, 1) := by decide +kernel
theorem dX8_fewest_68 : decode cX8_fewest 68 = .ok (.invokevirtual 63, 3) := by decide +kernel
theorem dX8_fewest_71 : decode cX8_fewest 71 = .ok (.ireturn, 1) := by decide +kernel
theorem dX8_fewest_72 : decode cX8_fewest 72 = .ok (.iload_n 2, 1) := by decide +kernel
theorem dX8_fewest_73 : decode cX8_fewest 73 = .ok (.iconst (-1), 1) := by decide +kernel
theorem dX8_fewest_74 : decode cX8_fewest 74 = .ok (.if_icmp .ne 10, 3) := by decide +kernel
theorem dX8_fewest_77 : decode cX8_fewest 77 = .ok (.aload_n 0, 1) := by decide +kernel
theorem dX8_fewest_78 : decode cX8_fewest 78 = .ok (.getfield 205, 3) := by decide +kernel
theorem dX8_fewest_81 : decode cX8_fewest 81 = .ok (.goto 23, 3) := by decide +kernel
theorem dX8_fewest_84 : decode cX8_fewest 84 = .ok (.iload_n 2, 1) := by decide +kernel
theorem dX8_fewest_85 : decode cX8_fewest 85 = .ok (.aload_n 0, 1) := by decide +kernel
theorem dX8_fewest_86 : decode cX8_fewest 86 = .ok (.getfield 7, 3) := by decide +kernel
theorem dX8_fewest_89 : decode cX8_fewest 89 = .ok (.iconst 5, 1) := by decide +kernel
theorem dX8_fewest_90 : decode cX8_fewest 90 = .ok (.iaload, 1) := by decide +kernel
theorem dX8_fewest_91 : decode cX8_fewest 91 = .ok (.if_icmp .ge 12, 3) := by decide +kernel
theorem dX8_fewest_94 : decode cX8_fewest 94 = .ok (.aload_n 0, 1) := by decide +kernel
theorem dX8_fewest_95 : decode cX8_fewest 95 = .ok (.getfield 37, 3) := by decide +kernel
theorem dX8_fewest_98 : decode cX8_fewest 98 = .ok (.iload_n 2, 1) := by decide +kernel
theorem dX8_fewest_99 : decode cX8_fewest 99 = .ok (.iaload, 1) := by decide +kernel
theorem dX8_fewest_100 : decode cX8_fewest 100 = .ok (.goto 4, 3) := by decide +kernel
theorem dX8_fewest_103 : decode cX8_fewest 103 = .ok (.iconst (-1), 1) := by decide +kernel
theorem dX8_fewest_104 : decode cX8_fewest 104 = .ok (.ireturn, 1) := by decide +kernel
theorem dX8_divisor_0 : decode cX8_divisor 0 = .ok (.iload_n 0, 1) := by decide +kernel
theorem dX8_divisor_1 : decode cX8_divisor 1 = .ok (.istore_n 2, 1) := by decide +kernel
theorem dX8_divisor_2 : decode cX8_divisor 2 = .ok (.iload_n 1, 1) := by decide +kernel
theorem dX8_divisor_3 : decode cX8_divisor 3 = .ok (.istore_n 3, 1) := by decide +kernel
theorem dX8_divisor_4 : decode cX8_divisor 4 = .ok (.iload_n 3, 1) := by decide +kernel
theorem dX8_divisor_5 : decode cX8_divisor 5 = .ok (.ifCond .eq 16, 3) := by decide +kernel
theorem dX8_divisor_8 : decode cX8_divisor 8 = .ok (.iload_n 2, 1) := by decide +kernel
theorem dX8_divisor_9 : decode cX8_divisor 9 = .ok (.iload_n 3, 1) := by decide +kernel
theorem dX8_divisor_10 : decode cX8_divisor 10 = .ok (.irem, 1) := by decide +kernel
theorem dX8_divisor_11 : decode cX8_divisor 11 = .ok (.istore 4, 2) := by decide +kernel
theorem dX8_divisor_13 : decode cX8_divisor 13 = .ok (.iload_n 3, 1) := by decide +kernel
theorem dX8_divisor_14 : decode cX8_divisor 14 = .ok (.istore_n 2, 1) := by decide +kernel
theorem dX8_divisor_15 : decode cX8_divisor 15 = .ok (.iload 4, 2) := by decide +kernel
theorem dX8_divisor_17 : decode cX8_divisor 17 = .ok (.istore_n 3, 1) := by decide +kernel
theorem dX8_divisor_18 : decode cX8_divisor 18 = .ok (.goto (-14), 3) := by decide +kernel
theorem dX8_divisor_21 : decode cX8_divisor 21 = .ok (.iload_n 2, 1) := by decide +kernel
theorem dX8_divisor_22 : decode cX8_divisor 22 = .ok (.ireturn, 1) := by decide +kernel
theorem dX8_odds_0 : decode cX8_odds 0 = .ok (.aload_n 0, 1) := by decide +kernel
theorem dX8_odds_1 : decode cX8_odds 1 = .ok (.iload_n 1, 1) := by decide +kernel
theorem dX8_odds_2 : decode cX8_odds 2 = .ok (.invokevirtual 175, 3) := by decide +kernel
theorem dX8_odds_5 : decode cX8_odds 5 = .ok (.ifCond .eq 12, 3) := by decide +kernel
theorem dX8_odds_8 : decode cX8_odds 8 = .ok (.iload_n 2, 1) := by decide +kernel
theorem dX8_odds_9 : decode cX8_odds 9 = .ok (.iconst 0, 1) := by decide +kernel
theorem dX8_odds_10 : decode cX8_odds 10 = .ok (.iconst 1, 1) := by decide +kernel
theorem dX8_odds_11 : decode cX8_odds 11 = .ok (.invokestatic 59, 3) := by decide +kernel
theorem dX8_odds_14 : decode cX8_odds 14 = .ok (.ifCond .ne 9, 3) := by decide +kernel
theorem dX8_odds_17 : decode cX8_odds 17 = .ok (.aload_n 0, 1) := by decide +kernel
theorem dX8_odds_18 : decode cX8_odds 18 = .ok (.iconst 1, 1) := by decide +kernel
theorem dX8_odds_19 : decode cX8_odds 19 = .ok (.invokevirtual 63, 3) := by decide +kernel
theorem dX8_odds_22 : decode cX8_odds 22 = .ok (.ireturn, 1) := by decide +kernel
theorem dX8_odds_23 : decode cX8_odds 23 = .ok (.aload_n 0, 1) := by decide +kernel
theorem dX8_odds_24 : decode cX8_odds 24 = .ok (.getfield 7, 3) := by decide +kernel
theorem dX8_odds_27 : decode cX8_odds 27 = .ok (.iconst 5, 1) := by decide +kernel
theorem dX8_odds_28 : decode cX8_odds 28 = .ok (.iaload, 1) := by decide +kernel
theorem dX8_odds_29 : decode cX8_odds 29 = .ok (.ifCond .ne 9, 3) := by decide +kernel
theorem dX8_odds_32 : decode cX8_odds 32 = .ok (.aload_n 0, 1) := by decide +kernel
theorem dX8_odds_33 : decode cX8_odds 33 = .ok (.iconst 3, 1) := by decide +kernel
theorem dX8_odds_34 : decode cX8_odds 34 = .ok (.invokevirtual 63, 3) := by decide +kernel
theorem dX8_odds_37 : decode cX8_odds 37 = .ok (.ireturn, 1) := by decide +kernel
theorem dX8_odds_38 : decode cX8_odds 38 = .ok (.iconst 1, 1) := by decide +kernel
theorem dX8_odds_39 : decode cX8_odds 39 = .ok (.aload_n 0, 1) := by decide +kernel
theorem dX8_odds_40 : decode cX8_odds 40 = .ok (.getfield 7, 3) := by decide +kernel
theorem dX8_odds_43 : decode cX8_odds 43 = .ok (.iconst 5, 1) := by decide +kernel
theorem dX8_odds_44 : decode cX8_odds 44 = .ok (.iaload, 1) := by decide +kernel
theorem dX8_odds_45 : decode cX8_odds 45 = .ok (.ishl, 1) := by decide +kernel
theorem dX8_odds_46 : decode cX8_odds 46 = .ok (.iconst 1, 1) := by decide +kernel
theorem dX8_odds_47 : decode cX8_odds 47 = .ok (.isub, 1) := by decide +kernel
theorem dX8_odds_48 : decode cX8_odds 48 = .ok (.istore_n 3, 1) := by decide +kernel
theorem dX8_odds_49 : decode cX8_odds 49 = .ok (.iconst 0, 1) := by decide +kernel
theorem dX8_odds_50 : decode cX8_odds 50 = .ok (.istore 4, 2) := by decide +kernel
theorem dX8_odds_52 : decode cX8_odds 52 = .ok (.iconst 1, 1) := by decide +kernel
theorem dX8_odds_53 : decode cX8_odds 53 = .ok (.istore 5, 2) := by decide +kernel
theorem dX8_odds_55 : decode cX8_odds 55 = .ok (.iload 5, 2) := by decide +kernel
theorem dX8_odds_57 : decode cX8_odds 57 = .ok (.iload_n 3, 1) := by decide +kernel
theorem dX8_odds_58 : decode cX8_odds 58 = .ok (.if_icmp .gt 33, 3) := by decide +kernel
theorem dX8_odds_61 : decode cX8_odds 61 = .ok (.iload 4, 2) := by decide +kernel
theorem dX8_odds_63 : decode cX8_odds 63 = .ok (.aload_n 0, 1) := by decide +kernel
theorem dX8_odds_64 : decode cX8_odds 64 = .ok (.iload 5, 2) := by decide +kernel
theorem dX8_odds_66 : decode cX8_odds 66 = .ok (.invokevirtual 154, 3) := by decide +kernel
theorem dX8_odds_69 : decode cX8_odds 69 = .ok (.aload_n 0, 1) := by decide +kernel
theorem dX8_odds_70 : decode cX8_odds 70 = .ok (.iload_n 1, 1) := by decide +kernel
theorem dX8_odds_71 : decode cX8_odds 71 = .ok (.invokevirtual 157, 3) := by decide +kernel
theorem dX8_odds_74 : decode cX8_odds 74 = .ok (.if_icmp .gt 7, 3) := by decide +kernel
theorem dX8_odds_77 : decode cX8_odds 77 = .ok (.iconst 1, 1) := by decide +kernel
theorem dX8_odds_78 : decode cX8_odds 78 = .ok (.goto 4, 3) := by decide +kernel
theorem dX8_odds_81 : decode cX8_odds 81 = .ok (.iconst 0, 1) := by decide +kernel
theorem dX8_odds_82 : decode cX8_odds 82 = .ok (.iadd, 1) := by decide +kernel
theorem dX8_odds_83 : decode cX8_odds 83 = .ok (.istore 4, 2) := by decide +kernel
theorem dX8_odds_85 : decode cX8_odds 85 = .ok (.iinc 5 1, 3) := by decide +kernel
theorem dX8_odds_88 : decode cX8_odds 88 = .ok (.goto (-33), 3) := by decide +kernel
theorem dX8_odds_91 : decode cX8_odds 91 = .ok (.iload 4, 2) := by decide +kernel
theorem dX8_odds_93 : decode cX8_odds 93 = .ok (.iload_n 3, 1) := by decide +kernel
theorem dX8_odds_94 : decode cX8_odds 94 = .ok (.invokestatic 211, 3) := by decide +kernel
theorem dX8_odds_97 : decode cX8_odds 97 = .ok (.istore 5, 2) := by decide +kernel
theorem dX8_odds_99 : decode cX8_odds 99 = .ok (.iload_n 2, 1) := by decide +kernel
theorem dX8_odds_100 : decode cX8_odds 100 = .ok (.ifCond .ne 11, 3) := by decide +kernel
theorem dX8_odds_103 : decode cX8_odds 103 = .ok (.iload 4, 2) := by decide +kernel
theorem dX8_odds_105 : decode cX8_odds 105 = .ok (.iload 5, 2) := by decide +kernel
theorem dX8_odds_107 : decode cX8_odds 107 = .ok (.idiv, 1) := by decide +kernel
theorem dX8_odds_108 : decode cX8_odds 108 = .ok (.goto 7, 3) := by decide +kernel
theorem dX8_odds_111 : decode cX8_odds 111 = .ok (.iload_n 3, 1) := by decide +kernel
theorem dX8_odds_112 : decode cX8_odds 112 = .ok (.iload 5, 2) := by decide +kernel
theorem dX8_odds_114 : decode cX8_odds 114 = .ok (.idiv, 1) := by decide +kernel
theorem dX8_odds_115 : decode cX8_odds 115 = .ok (.ireturn, 1) := by decide +kernel
theorem dX8_whose_0 : decode cX8_whose 0 = .ok (.iload_n 1, 1) := by decide +kernel
theorem dX8_whose_1 : decode cX8_whose 1 = .ok (.ifCond .lt 12, 3) := by decide +kernel
theorem dX8_whose_4 : decode cX8_whose 4 = .ok (.iload_n 2, 1) := by decide +kernel
theorem dX8_whose_5 : decode cX8_whose 5 = .ok (.iconst 0, 1) := by decide +kernel
theorem dX8_whose_6 : decode cX8_whose 6 = .ok (.iconst 1, 1) := by decide +kernel
theorem dX8_whose_7 : decode cX8_whose 7 = .ok (.invokestatic 59, 3) := by decide +kernel
theorem dX8_whose_10 : decode cX8_whose 10 = .ok (.ifCond .ne 9, 3) := by decide +kernel
theorem dX8_whose_13 : decode cX8_whose 13 = .ok (.aload_n 0, 1) := by decide +kernel
theorem dX8_whose_14 : decode cX8_whose 14 = .ok (.iconst 1, 1) := by decide +kernel
theorem dX8_whose_15 : decode cX8_whose 15 = .ok (.invokevirtual 63, 3) := by decide +kernel
theorem dX8_whose_18 : decode cX8_whose 18 = .ok (.ireturn, 1) := by decide +kernel
theorem dX8_whose_19 : decode cX8_whose 19 = .ok (.iconst 0, 1) := by decide +kernel
theorem dX8_whose_20 : decode cX8_whose 20 = .ok (.istore_n 3, 1) := by decide +kernel
theorem dX8_whose_21 : decode cX8_whose 21 = .ok (.iconst (-1), 1) := by decide +kernel
theorem dX8_whose_22 : decode cX8_whose 22 = .ok (.istore 4, 2) := by decide +kernel
theorem dX8_whose_24 : decode cX8_whose 24 = .ok (.iconst 1, 1) := by decide +kernel
theorem dX8_whose_25 : decode cX8_whose 25 = .ok (.aload_n 0, 1) := by decide +kernel
theorem dX8_whose_26 : decode cX8_whose 26 = .ok (.getfield 7, 3) := by decide +kernel
theorem dX8_whose_29 : decode cX8_whose 29 = .ok (.iconst 5, 1) := by decide +kernel
theorem dX8_whose_30 : decode cX8_whose 30 = .ok (.iaload, 1) := by decide +kernel
theorem dX8_whose_31 : decode cX8_whose 31 = .ok (.ishl, 1) := by decide +kernel
theorem dX8_whose_32 : decode cX8_whose 32 = .ok (.iconst 1, 1) := by decide +kernel
theorem dX8_whose_33 : decode cX8_whose 33 = .ok (.isub, 1) := by decide +kernel
theorem dX8_whose_34 : decode cX8_whose 34 = .ok (.istore 5, 2) := by decide +kernel
theorem dX8_whose_36 : decode cX8_whose 36 = .ok (.iload 5, 2) := by decide +kernel
theorem dX8_whose_38 : decode cX8_whose 38 = .ok (.ifCond .le 53, 3) := by decide +kernel
theorem dX8_whose_41 : decode cX8_whose 41 = .ok (.aload_n 0, 1) := by decide +kernel
theorem dX8_whose_42 : decode cX8_whose 42 = .ok (.iload 5, 2) := by decide +kernel
theorem dX8_whose_44 : decode cX8_whose 44 = .ok (.invokevirtual 154, 3) := by decide +kernel
theorem dX8_whose_47 : decode cX8_whose 47 = .ok (.iload_n 1, 1) := by decide +kernel
theorem dX8_whose_48 : decode cX8_whose 48 = .ok (.if_icmp .ne 7, 3) := by decide +kernel
theorem dX8_whose_51 : decode cX8_whose 51 = .ok (.iconst 1, 1) := by decide +kernel
theorem dX8_whose_52 : decode cX8_whose 52 = .ok (.goto 4, 3) := by decide +kernel
theorem dX8_whose_55 : decode cX8_whose 55 = .ok (.iconst 0, 1) := by decide +kernel
theorem dX8_whose_56 : decode cX8_whose 56 = .ok (.istore 6, 2) := by decide +kernel
theorem dX8_whose_58 : decode cX8_whose 58 = .ok (.iload_n 3, 1) := by decide +kernel
theorem dX8_whose_59 : decode cX8_whose 59 = .ok (.iload 6, 2) := by decide +kernel
theorem dX8_whose_61 : decode cX8_whose 61 = .ok (.ifCond .eq 7, 3) := by decide +kernel
theorem dX8_whose_64 : decode cX8_whose 64 = .ok (.iconst 1, 1) := by decide +kernel
theorem dX8_whose_65 : decode cX8_whose 65 = .ok (.goto 4, 3) := by decide +kernel
theorem dX8_whose_68 : decode cX8_whose 68 = .ok (.iconst 0, 1) := by decide +kernel
theorem dX8_whose_69 : decode cX8_whose 69 = .ok (.iadd, 1) := by decide +kernel
theorem dX8_whose_70 : decode cX8_whose 70 = .ok (.istore_n 3, 1) := by decide +kernel
theorem dX8_whose_71 : decode cX8_whose 71 = .ok (.iload 6, 2) := by decide +kernel
theorem dX8_whose_73 : decode cX8_whose 73 = .ok (.ifCond .eq 8, 3) := by decide +kernel
theorem dX8_whose_76 : decode cX8_whose 76 = .ok (.iload 5, 2) := by decide +kernel
theorem dX8_whose_78 : decode cX8_whose 78 = .ok (.goto 5, 3) := by decide +kernel
theorem dX8_whose_81 : decode cX8_whose 81 = .ok (.iload 4, 2) := by decide +kernel
theorem dX8_whose_83 : decode cX8_whose 83 = .ok (.istore 4, 2) := by decide +kernel
theorem dX8_whose_85 : decode cX8_whose 85 = .ok (.iinc 5 (-1), 3) := by decide +kernel
theorem dX8_whose_88 : decode cX8_whose 88 = .ok (.goto (-52), 3) := by decide +kernel
theorem dX8_whose_91 : decode cX8_whose 91 = .ok (.iload_n 2, 1) := by decide +kernel
theorem dX8_whose_92 : decode cX8_whose 92 = .ok (.ifCond .ne 7, 3) := by decide +kernel
theorem dX8_whose_95 : decode cX8_whose 95 = .ok (.iload_n 3, 1) := by decide +kernel
theorem dX8_whose_96 : decode cX8_whose 96 = .ok (.goto 19, 3) := by decide +kernel
theorem dX8_whose_99 : decode cX8_whose 99 = .ok (.iload 4, 2) := by decide +kernel
theorem dX8_whose_101 : decode cX8_whose 101 = .ok (.iconst (-1), 1) := by decide +kernel
theorem dX8_whose_102 : decode cX8_whose 102 = .ok (.if_icmp .ne 11, 3) := by decide +kernel
theorem dX8_whose_105 : decode cX8_whose 105 = .ok (.aload_n 0, 1) := by decide +kernel
theorem dX8_whose_106 : decode cX8_whose 106 = .ok (.iconst 2, 1) := by decide +kernel
theorem dX8_whose_107 : decode cX8_whose 107 = .ok (.invokevirtual 63, 3) := by decide +kernel
theorem dX8_whose_110 : decode cX8_whose 110 = .ok (.goto 5, 3) := by decide +kernel
theorem dX8_whose_113 : decode cX8_whose 113 = .ok (.iload 4, 2) := by decide +kernel
theorem dX8_whose_115 : decode cX8_whose 115 = .ok (.ireturn, 1) := by decide +kernel
theorem dX8_areDrySo_0 : decode cX8_areDrySo 0 = .ok (.aload_n 0, 1) := by decide +kernel
theorem dX8_areDrySo_1 : decode cX8_areDrySo 1 = .ok (.getfield 49, 3) := by decide +kernel
theorem dX8_areDrySo_4 : decode cX8_areDrySo 4 = .ok (.iload_n 1, 1) := by decide +kernel
theorem dX8_areDrySo_5 : decode cX8_areDrySo 5 = .ok (.iaload, 1) := by decide +kernel
theorem dX8_areDrySo_6 : decode cX8_areDrySo 6 = .ok (.aload_n 0, 1) := by decide +kernel
theorem dX8_areDrySo_7 : decode cX8_areDrySo 7 = .ok (.getfield 7, 3) := by decide +kernel
theorem dX8_areDrySo_10 : decode cX8_areDrySo 10 = .ok (.iconst 5, 1) := by decide +kernel
theorem dX8_areDrySo_11 : decode cX8_areDrySo 11 = .ok (.iaload, 1) := by decide +kernel
theorem dX8_areDrySo_12 : decode cX8_areDrySo 12 = .ok (.if_icmp .gt 7, 3) := by decide +kernel
theorem dX8_areDrySo_15 : decode cX8_areDrySo 15 = .ok (.iconst 1, 1) := by decide +kernel
theorem dX8_areDrySo_16 : decode cX8_areDrySo 16 = .ok (.goto 4, 3) := by decide +kernel
theorem dX8_areDrySo_19 : decode cX8_areDrySo 19 = .ok (.iconst 0, 1) := by decide +kernel
theorem dX8_areDrySo_20 : decode cX8_areDrySo 20 = .ok (.istore_n 2, 1) := by decide +kernel
theorem dX8_areDrySo_21 : decode cX8_areDrySo 21 = .ok (.iconst 0, 1) := by decide +kernel
theorem dX8_areDrySo_22 : decode cX8_areDrySo 22 = .ok (.istore_n 3, 1) := by decide +kernel
theorem dX8_areDrySo_23 : decode cX8_areDrySo 23 = .ok (.iload_n 3, 1) := by decide +kernel
theorem dX8_areDrySo_24 : decode cX8_areDrySo 24 = .ok (.aload_n 0, 1) := by decide +kernel
theorem dX8_areDrySo_25 : decode cX8_areDrySo 25 = .ok (.getfield 49, 3) := by decide +kernel
theorem dX8_areDrySo_28 : decode cX8_areDrySo 28 = .ok (.iload_n 1, 1) := by decide +kernel
theorem dX8_areDrySo_29 : decode cX8_areDrySo 29 = .ok (.iaload, 1) := by decide +kernel
theorem dX8_areDrySo_30 : decode cX8_areDrySo 30 = .ok (.if_icmp .ge 39, 3) := by decide +kernel
theorem dX8_areDrySo_33 : decode cX8_areDrySo 33 = .ok (.iload_n 2, 1) := by decide +kernel
theorem dX8_areDrySo_34 : decode cX8_areDrySo 34 = .ok (.ifCond .eq 35, 3) := by decide +kernel
theorem dX8_areDrySo_37 : decode cX8_areDrySo 37 = .ok (.aload_n 0, 1) := by decide +kernel
theorem dX8_areDrySo_38 : decode cX8_areDrySo 38 = .ok (.iload_n 3, 1) := by decide +kernel
theorem dX8_areDrySo_39 : decode cX8_areDrySo 39 = .ok (.iconst 4, 1) := by decide +kernel
theorem dX8_areDrySo_40 : decode cX8_areDrySo 40 = .ok (.invokevirtual 123, 3) := by decide +kernel
theorem dX8_areDrySo_43 : decode cX8_areDrySo 43 = .ok (.aload_n 0, 1) := by decide +kernel
theorem dX8_areDrySo_44 : decode cX8_areDrySo 44 = .ok (.getfield 52, 3) := by decide +kernel
theorem dX8_areDrySo_47 : decode cX8_areDrySo 47 = .ok (.bipush 24, 2) := by decide +kernel
theorem dX8_areDrySo_49 : decode cX8_areDrySo 49 = .ok (.iload_n 1, 1) := by decide +kernel
theorem dX8_areDrySo_50 : decode cX8_areDrySo 50 = .ok (.imul, 1) := by decide +kernel
theorem dX8_areDrySo_51 : decode cX8_areDrySo 51 = .ok (.iload_n 3, 1) := by decide +kernel
theorem dX8_areDrySo_52 : decode cX8_areDrySo 52 = .ok (.iadd, 1) := by decide +kernel
theorem dX8_areDrySo_53 : decode cX8_areDrySo 53 = .ok (.iaload, 1) := by decide +kernel
theorem dX8_areDrySo_54 : decode cX8_areDrySo 54 = .ok (.if_icmp .ne 7, 3) := by decide +kernel
theorem dX8_areDrySo_57 : decode cX8_areDrySo 57 = .ok (.iconst 1, 1) := by decide +kernel
theorem dX8_areDrySo_58 : decode cX8_areDrySo 58 = .ok (.goto 4, 3) := by decide +kernel
theorem dX8_areDrySo_61 : decode cX8_areDrySo 61 = .ok (.iconst 0, 1) := by decide +kernel
theorem dX8_areDrySo_62 : decode cX8_areDrySo 62 = .ok (.istore_n 2, 1) := by decide +kernel
theorem dX8_areDrySo_63 : decode cX8_areDrySo 63 = .ok (.iinc 3 1, 3) := by decide +kernel
theorem dX8_areDrySo_66 : decode cX8_areDrySo 66 = .ok (.goto (-43), 3) := by decide +kernel
theorem dX8_areDrySo_69 : decode cX8_areDrySo 69 = .ok (.iload_n 2, 1) := by decide +kernel
theorem dX8_areDrySo_70 : decode cX8_areDrySo 70 = .ok (.ireturn, 1) := by decide +kernel
theorem dX8_fits_0 : decode cX8_fits 0 = .ok (.aload_n 0, 1) := by decide +kernel
theorem dX8_fits_1 : decode cX8_fits 1 = .ok (.iload_n 1, 1) := by decide +kernel
theorem dX8_fits_2 : decode cX8_fits 2 = .ok (.invokevirtual 214, 3) := by decide +kernel
theorem dX8_fits_5 : decode cX8_fits 5 = .ok (.istore_n 2, 1) := by decide +kernel
theorem dX8_fits_6 : decode cX8_fits 6 = .ok (.iload_n 2, 1) := by decide +kernel
theorem dX8_fits_7 : decode cX8_fits 7 = .ok (.ifCond .eq 9, 3) := by decide +kernel
theorem dX8_fits_10 : decode cX8_fits 10 = .ok (.aload_n 0, 1) := by decide +kernel
theorem dX8_fits_11 : decode cX8_fits 11 = .ok (.iload_n 2, 1) := by decide +kernel
theorem dX8_fits_12 : decode cX8_fits 12 = .ok (.invokevirtual 63, 3) := by decide +kernel
theorem dX8_fits_15 : decode cX8_fits 15 = .ok (.ireturn, 1) := by decide +kernel
theorem dX8_fits_16 : decode cX8_fits 16 = .ok (.aload_n 0, 1) := by decide +kernel
theorem dX8_fits_17 : decode cX8_fits 17 = .ok (.invokevirtual 196, 3) := by decide +kernel
theorem dX8_fits_20 : decode cX8_fits 20 = .ok (.iconst 0, 1) := by decide +kernel
theorem dX8_fits_21 : decode cX8_fits 21 = .ok (.istore_n 3, 1) := by decide +kernel
theorem dX8_fits_22 : decode cX8_fits 22 = .ok (.iload_n 3, 1) := by decide +kernel
theorem dX8_fits_23 : decode cX8_fits 23 = .ok (.bipush 72, 2) := by decide +kernel
theorem dX8_fits_25 : decode cX8_fits 25 = .ok (.if_icmp .gt 21, 3) := by decide +kernel
theorem dX8_fits_28 : decode cX8_fits 28 = .ok (.aload_n 0, 1) := by decide +kernel
theorem dX8_fits_29 : decode cX8_fits 29 = .ok (.iload_n 1, 1) := by decide +kernel
theorem dX8_fits_30 : decode cX8_fits 30 = .ok (.invokevirtual 217, 3) := by decide +kernel
theorem dX8_fits_33 : decode cX8_fits 33 = .ok (.ifCond .ne 13, 3) := by decide +kernel
theorem dX8_fits_36 : decode cX8_fits 36 = .ok (.aload_n 0, 1) := by decide +kernel
theorem dX8_fits_37 : decode cX8_fits 37 = .ok (.invokevirtual 187, 3) := by decide +kernel
theorem dX8_fits_40 : decode cX8_fits 40 = .ok (.iinc 3 1, 3) := by decide +kernel
theorem dX8_fits_43 : decode cX8_fits 43 = .ok (.goto (-21), 3) := by decide +kernel
theorem dX8_fits_46 : decode cX8_fits 46 = .ok (.aload_n 0, 1) := by decide +kernel
theorem dX8_fits_47 : decode cX8_fits 47 = .ok (.invokevirtual 199, 3) := by decide +kernel
theorem dX8_fits_50 : decode cX8_fits 50 = .ok (.iload_n 3, 1) := by decide +kernel
theorem dX8_fits_51 : decode cX8_fits 51 = .ok (.bipush 72, 2) := by decide +kernel
theorem dX8_fits_53 : decode cX8_fits 53 = .ok (.if_icmp .le 11, 3) := by decide +kernel
theorem dX8_fits_56 : decode cX8_fits 56 = .ok (.aload_n 0, 1) := by decide +kernel
theorem dX8_fits_57 : decode cX8_fits 57 = .ok (.iconst 2, 1) := by decide +kernel
theorem dX8_fits_58 : decode cX8_fits 58 = .ok (.invokevirtual 63, 3) := by decide +kernel
theorem dX8_fits_61 : decode cX8_fits 61 = .ok (.goto 4, 3) := by decide +kernel
theorem dX8_fits_64 : decode cX8_fits 64 = .ok (.iload_n 3, 1) := by decide +kernel
theorem dX8_fits_65 : decode cX8_fits 65 = .ok (.ireturn, 1) := by decide +kernel
theorem dX8_starts_0 : decode cX8_starts 0 = .ok (.aload_n 0, 1) := by decide +kernel
theorem dX8_starts_1 : decode cX8_starts 1 = .ok (.getfield 220, 3) := by decide +kernel
theorem dX8_starts_4 : decode cX8_starts 4 = .ok (.bipush 30, 2) := by decide +kernel
theorem dX8_starts_6 : decode cX8_starts 6 = .ok (.if_icmp .ge 23, 3) := by decide +kernel
theorem dX8_starts_9 : decode cX8_starts 9 = .ok (.aload_n 0, 1) := by decide +kernel
theorem dX8_starts_10 : decode cX8_starts 10 = .ok (.getfield 43, 3) := by decide +kernel
theorem dX8_starts_13 : decode cX8_starts 13 = .ok (.aload_n 0, 1) := by decide +kernel
theorem dX8_starts_14 : decode cX8_starts 14 = .ok (.getfield 220, 3) := by decide +kernel
theorem dX8_starts_17 : decode cX8_starts 17 = .ok (.iload_n 1, 1) := by decide +kernel
theorem dX8_starts_18 : decode cX8_starts 18 = .ok (.iastore, 1) := by decide +kernel
theorem dX8_starts_19 : decode cX8_starts 19 = .ok (.aload_n 0, 1) := by decide +kernel
theorem dX8_starts_20 : decode cX8_starts 20 = .ok (.dup, 1) := by decide +kernel
theorem dX8_starts_21 : decode cX8_starts 21 = .ok (.getfield 220, 3) := by decide +kernel
theorem dX8_starts_24 : decode cX8_starts 24 = .ok (.iconst 1, 1) := by decide +kernel
theorem dX8_starts_25 : decode cX8_starts 25 = .ok (.iadd, 1) := by decide +kernel
theorem dX8_starts_26 : decode cX8_starts 26 = .ok (.putfield 220, 3) := by decide +kernel
theorem dX8_starts_29 : decode cX8_starts 29 = .ok (.return_, 1) := by decide +kernel
theorem dX8_above_0 : decode cX8_above 0 = .ok (.iload_n 0, 1) := by decide +kernel
theorem dX8_above_1 : decode cX8_above 1 = .ok (.iconst 4, 1) := by decide +kernel
theorem dX8_above_2 : decode cX8_above 2 = .ok (.if_icmp .ne 7, 3) := by decide +kernel
theorem dX8_above_5 : decode cX8_above 5 = .ok (.iconst 1, 1) := by decide +kernel
theorem dX8_above_6 : decode cX8_above 6 = .ok (.goto 13, 3) := by decide +kernel
theorem dX8_above_9 : decode cX8_above 9 = .ok (.iload_n 0, 1) := by decide +kernel
theorem dX8_above_10 : decode cX8_above 10 = .ok (.iconst 5, 1) := by decide +kernel
theorem dX8_above_11 : decode cX8_above 11 = .ok (.if_icmp .ne 7, 3) := by decide +kernel
theorem dX8_above_14 : decode cX8_above 14 = .ok (.iconst 2, 1) := by decide +kernel
theorem dX8_above_15 : decode cX8_above 15 = .ok (.goto 4, 3) := by decide +kernel
theorem dX8_above_18 : decode cX8_above 18 = .ok (.iconst 0, 1) := by decide +kernel
theorem dX8_above_19 : decode cX8_above 19 = .ok (.ireturn, 1) := by decide +kernel
theorem dX8_kindNow_0 : decode cX8_kindNow 0 = .ok (.aload_n 0, 1) := by decide +kernel
theorem dX8_kindNow_1 : decode cX8_kindNow 1 = .ok (.aload_n 0, 1) := by decide +kernel
theorem dX8_kindNow_2 : decode cX8_kindNow 2 = .ok (.getfield 223, 3) := by decide +kernel
theorem dX8_kindNow_5 : decode cX8_kindNow 5 = .ok (.iconst 0, 1) := by decide +kernel
theorem dX8_kindNow_6 : decode cX8_kindNow 6 = .ok (.invokevirtual 123, 3) := by decide +kernel
theorem dX8_kindNow_9 : decode cX8_kindNow 9 = .ok (.ireturn, 1) := by decide +kernel
theorem dX8_mNow_0 : decode cX8_mNow 0 = .ok (.aload_n 0, 1) := by decide +kernel
theorem dX8_mNow_1 : decode cX8_mNow 1 = .ok (.aload_n 0, 1) := by decide +kernel
theorem dX8_mNow_2 : decode cX8_mNow 2 = .ok (.getfield 223, 3) := by decide +kernel
theorem dX8_mNow_5 : decode cX8_mNow 5 = .ok (.iconst 1, 1) := by decide +kernel
theorem dX8_mNow_6 : decode cX8_mNow 6 = .ok (.invokevirtual 123, 3) := by decide +kernel
theorem dX8_mNow_9 : decode cX8_mNow 9 = .ok (.ireturn, 1) := by decide +kernel
theorem dX8_gulpsAs_0 : decode cX8_gulpsAs 0 = .ok (.iload_n 1, 1) := by decide +kernel
theorem dX8_gulpsAs_1 : decode cX8_gulpsAs 1 = .ok (.tableswitch 101 0 6 #[43, 56, 101, 101, 74, 101, 92], 43) := by decide +kernel
theorem dX8_gulpsAs_44 : decode cX8_gulpsAs 44 = .ok (.aload_n 0, 1) := by decide +kernel
theorem dX8_gulpsAs_45 : decode cX8_gulpsAs 45 = .ok (.bipush 10, 2) := by decide +kernel
theorem dX8_gulpsAs_47 : decode cX8_gulpsAs 47 = .ok (.invokevirtual 226, 3) := by decide +kernel
theorem dX8_gulpsAs_50 : decode cX8_gulpsAs 50 = .ok (.iload_n 2, 1) := by decide +kernel
theorem dX8_gulpsAs_51 : decode cX8_gulpsAs 51 = .ok (.aload_n 0, 1) := by decide +kernel
theorem dX8_gulpsAs_52 : decode cX8_gulpsAs 52 = .ok (.getfield 223, 3) := by decide +kernel
theorem dX8_gulpsAs_55 : decode cX8_gulpsAs 55 = .ok (.iadd, 1) := by decide +kernel
theorem dX8_gulpsAs_56 : decode cX8_gulpsAs 56 = .ok (.ireturn, 1) := by decide +kernel
theorem dX8_gulpsAs_57 : decode cX8_gulpsAs 57 = .ok (.aload_n 0, 1) := by decide +kernel
theorem dX8_gulpsAs_58 : decode cX8_gulpsAs 58 = .ok (.bipush 20, 2) := by decide +kernel
theorem dX8_gulpsAs_60 : decode cX8_gulpsAs 60 = .ok (.invokevirtual 226, 3) := by decide +kernel
theorem dX8_gulpsAs_63 : decode cX8_gulpsAs 63 = .ok (.aload_n 0, 1) := by decide +kernel
theorem dX8_gulpsAs_64 : decode cX8_gulpsAs 64 = .ok (.iconst 1, 1) := by decide +kernel
theorem dX8_gulpsAs_65 : decode cX8_gulpsAs 65 = .ok (.invokestatic 172, 3) := by decide +kernel
theorem dX8_gulpsAs_68 : decode cX8_gulpsAs 68 = .ok (.iload_n 2, 1) := by decide +kernel
theorem dX8_gulpsAs_69 : decode cX8_gulpsAs 69 = .ok (.invokevirtual 230, 3) := by decide +kernel
theorem dX8_gulpsAs_72 : decode cX8_gulpsAs 72 = .ok (.iconst 4, 1) := by decide +kernel
theorem dX8_gulpsAs_73 : decode cX8_gulpsAs 73 = .ok (.isub, 1) := by decide +kernel
theorem dX8_gulpsAs_74 : decode cX8_gulpsAs 74 = .ok (.ireturn, 1) := by decide +kernel
theorem dX8_gulpsAs_75 : decode cX8_gulpsAs 75 = .ok (.aload_n 0, 1) := by decide +kernel
theorem dX8_gulpsAs_76 : decode cX8_gulpsAs 76 = .ok (.bipush 50, 2) := by decide +kernel
theorem dX8_gulpsAs_78 : decode cX8_gulpsAs 78 = .ok (.invokevirtual 226, 3) := by decide +kernel
theorem dX8_gulpsAs_81 : decode cX8_gulpsAs 81 = .ok (.aload_n 0, 1) := by decide +kernel
theorem dX8_gulpsAs_82 : decode cX8_gulpsAs 82 = .ok (.iconst 4, 1) := by decide +kernel
theorem dX8_gulpsAs_83 : decode cX8_gulpsAs 83 = .ok (.invokestatic 172, 3) := by decide +kernel
theorem dX8_gulpsAs_86 : decode cX8_gulpsAs 86 = .ok (.iload_n 2, 1) := by decide +kernel
theorem dX8_gulpsAs_87 : decode cX8_gulpsAs 87 = .ok (.invokevirtual 230, 3) := by decide +kernel
theorem dX8_gulpsAs_90 : decode cX8_gulpsAs 90 = .ok (.iconst 3, 1) := by decide +kernel
theorem dX8_gulpsAs_91 : decode cX8_gulpsAs 91 = .ok (.imul, 1) := by decide +kernel
theorem dX8_gulpsAs_92 : decode cX8_gulpsAs 92 = .ok (.ireturn, 1) := by decide +kernel
theorem dX8_gulpsAs_93 : decode cX8_gulpsAs 93 = .ok (.aload_n 0, 1) := by decide +kernel
theorem dX8_gulpsAs_94 : decode cX8_gulpsAs 94 = .ok (.bipush 70, 2) := by decide +kernel
theorem dX8_gulpsAs_96 : decode cX8_gulpsAs 96 = .ok (.invokevirtual 226, 3) := by decide +kernel
theorem dX8_gulpsAs_99 : decode cX8_gulpsAs 99 = .ok (.bipush 9, 2) := by decide +kernel
theorem dX8_gulpsAs_101 : decode cX8_gulpsAs 101 = .ok (.ireturn, 1) := by decide +kernel
theorem dX8_gulpsAs_102 : decode cX8_gulpsAs 102 = .ok (.aload_n 0, 1) := by decide +kernel
theorem dX8_gulpsAs_103 : decode cX8_gulpsAs 103 = .ok (.iload_n 1, 1) := by decide +kernel
theorem dX8_gulpsAs_104 : decode cX8_gulpsAs 104 = .ok (.invokestatic 172, 3) := by decide +kernel
theorem dX8_gulpsAs_107 : decode cX8_gulpsAs 107 = .ok (.iload_n 2, 1) := by decide +kernel
theorem dX8_gulpsAs_108 : decode cX8_gulpsAs 108 = .ok (.invokevirtual 230, 3) := by decide +kernel
theorem dX8_gulpsAs_111 : decode cX8_gulpsAs 111 = .ok (.ireturn, 1) := by decide +kernel
theorem dX8_sipsAs_0 : decode cX8_sipsAs 0 = .ok (.iload_n 1, 1) := by decide +kernel
theorem dX8_sipsAs_1 : decode cX8_sipsAs 1 = .ok (.tableswitch 119 0 6 #[43, 119, 61, 119, 119, 79, 97], 43) := by decide +kernel
theorem dX8_sipsAs_44 : decode cX8_sipsAs 44 = .ok (.aload_n 0, 1) := by decide +kernel
theorem dX8_sipsAs_45 : decode cX8_sipsAs 45 = .ok (.bipush 11, 2) := by decide +kernel
theorem dX8_sipsAs_47 : decode cX8_sipsAs 47 = .ok (.invokevirtual 226, 3) := by decide +kernel
theorem dX8_sipsAs_50 : decode cX8_sipsAs 50 = .ok (.aload_n 0, 1) := by decide +kernel
theorem dX8_sipsAs_51 : decode cX8_sipsAs 51 = .ok (.aload_n 0, 1) := by decide +kernel
theorem dX8_sipsAs_52 : decode cX8_sipsAs 52 = .ok (.invokevirtual 233, 3) := by decide +kernel
theorem dX8_sipsAs_55 : decode cX8_sipsAs 55 = .ok (.iload_n 2, 1) := by decide +kernel
theorem dX8_sipsAs_56 : decode cX8_sipsAs 56 = .ok (.invokevirtual 230, 3) := by decide +kernel
theorem dX8_sipsAs_59 : decode cX8_sipsAs 59 = .ok (.iconst 2, 1) := by decide +kernel
theorem dX8_sipsAs_60 : decode cX8_sipsAs 60 = .ok (.imul, 1) := by decide +kernel
theorem dX8_sipsAs_61 : decode cX8_sipsAs 61 = .ok (.ireturn, 1) := by decide +kernel
theorem dX8_sipsAs_62 : decode cX8_sipsAs 62 = .ok (.aload_n 0, 1) := by decide +kernel
theorem dX8_sipsAs_63 : decode cX8_sipsAs 63 = .ok (.bipush 30, 2) := by decide +kernel
theorem dX8_sipsAs_65 : decode cX8_sipsAs 65 = .ok (.invokevirtual 226, 3) := by decide +kernel
theorem dX8_sipsAs_68 : decode cX8_sipsAs 68 = .ok (.iconst 0, 1) := by decide +kernel
theorem dX8_sipsAs_69 : decode cX8_sipsAs 69 = .ok (.aload_n 0, 1) := by decide +kernel
theorem dX8_sipsAs_70 : decode cX8_sipsAs 70 = .ok (.iconst 2, 1) := by decide +kernel
theorem dX8_sipsAs_71 : decode cX8_sipsAs 71 = .ok (.invokestatic 172, 3) := by decide +kernel
theorem dX8_sipsAs_74 : decode cX8_sipsAs 74 = .ok (.iload_n 2, 1) := by decide +kernel
theorem dX8_sipsAs_75 : decode cX8_sipsAs 75 = .ok (.invokevirtual 236, 3) := by decide +kernel
theorem dX8_sipsAs_78 : decode cX8_sipsAs 78 = .ok (.isub, 1) := by decide +kernel
theorem dX8_sipsAs_79 : decode cX8_sipsAs 79 = .ok (.ireturn, 1) := by decide +kernel
theorem dX8_sipsAs_80 : decode cX8_sipsAs 80 = .ok (.aload_n 0, 1) := by decide +kernel
theorem dX8_sipsAs_81 : decode cX8_sipsAs 81 = .ok (.bipush 60, 2) := by decide +kernel
theorem dX8_sipsAs_83 : decode cX8_sipsAs 83 = .ok (.invokevirtual 226, 3) := by decide +kernel
theorem dX8_sipsAs_86 : decode cX8_sipsAs 86 = .ok (.aload_n 0, 1) := by decide +kernel
theorem dX8_sipsAs_87 : decode cX8_sipsAs 87 = .ok (.iconst 5, 1) := by decide +kernel
theorem dX8_sipsAs_88 : decode cX8_sipsAs 88 = .ok (.invokestatic 172, 3) := by decide +kernel
theorem dX8_sipsAs_91 : decode cX8_sipsAs 91 = .ok (.iload_n 2, 1) := by decide +kernel
theorem dX8_sipsAs_92 : decode cX8_sipsAs 92 = .ok (.iconst 1, 1) := by decide +kernel
theorem dX8_sipsAs_93 : decode cX8_sipsAs 93 = .ok (.iadd, 1) := by decide +kernel
theorem dX8_sipsAs_94 : decode cX8_sipsAs 94 = .ok (.invokevirtual 236, 3) := by decide +kernel
theorem dX8_sipsAs_97 : decode cX8_sipsAs 97 = .ok (.ireturn, 1) := by decide +kernel
theorem dX8_sipsAs_98 : decode cX8_sipsAs 98 = .ok (.aload_n 0, 1) := by decide +kernel
theorem dX8_sipsAs_99 : decode cX8_sipsAs 99 = .ok (.bipush 71, 2) := by decide +kernel
theorem dX8_sipsAs_101 : decode cX8_sipsAs 101 = .ok (.invokevirtual 226, 3) := by decide +kernel
theorem dX8_sipsAs_104 : decode cX8_sipsAs 104 = .ok (.aload_n 0, 1) := by decide +kernel
theorem dX8_sipsAs_105 : decode cX8_sipsAs 105 = .ok (.bipush 6, 2) := by decide +kernel
theorem dX8_sipsAs_107 : decode cX8_sipsAs 107 = .ok (.invokestatic 172, 3) := by decide +kernel
theorem dX8_sipsAs_110 : decode cX8_sipsAs 110 = .ok (.iload_n 2, 1) := by decide +kernel
theorem dX8_sipsAs_111 : decode cX8_sipsAs 111 = .ok (.invokevirtual 236, 3) := by decide +kernel
theorem dX8_sipsAs_114 : decode cX8_sipsAs 114 = .ok (.aload_n 0, 1) := by decide +kernel
theorem dX8_sipsAs_115 : decode cX8_sipsAs 115 = .ok (.invokevirtual 239, 3) := by decide +kernel
theorem dX8_sipsAs_118 : decode cX8_sipsAs 118 = .ok (.iadd, 1) := by decide +kernel
theorem dX8_sipsAs_119 : decode cX8_sipsAs 119 = .ok (.ireturn, 1) := by decide +kernel
theorem dX8_sipsAs_120 : decode cX8_sipsAs 120 = .ok (.aload_n 0, 1) := by decide +kernel
theorem dX8_sipsAs_121 : decode cX8_sipsAs 121 = .ok (.iload_n 1, 1) := by decide +kernel
theorem dX8_sipsAs_122 : decode cX8_sipsAs 122 = .ok (.invokestatic 172, 3) := by decide +kernel
theorem dX8_sipsAs_125 : decode cX8_sipsAs 125 = .ok (.iload_n 2, 1) := by decide +kernel
theorem dX8_sipsAs_126 : decode cX8_sipsAs 126 = .ok (.invokevirtual 236, 3) := by decide +kernel
theorem dX8_sipsAs_129 : decode cX8_sipsAs 129 = .ok (.ireturn, 1) := by decide +kernel
theorem dX8_sighsAs_0 : decode cX8_sighsAs 0 = .ok (.iload_n 1, 1) := by decide +kernel
theorem dX8_sighsAs_1 : decode cX8_sighsAs 1 = .ok (.tableswitch 95 0 4 #[35, 95, 95, 56, 74], 35) := by decide +kernel
theorem dX8_sighsAs_36 : decode cX8_sighsAs 36 = .ok (.aload_n 0, 1) := by decide +kernel
theorem dX8_sighsAs_37 : decode cX8_sighsAs 37 = .ok (.bipush 12, 2) := by decide +kernel
theorem dX8_sighsAs_39 : decode cX8_sighsAs 39 = .ok (.invokevirtual 226, 3) := by decide +kernel
theorem dX8_sighsAs_42 : decode cX8_sighsAs 42 = .ok (.aload_n 0, 1) := by decide +kernel
theorem dX8_sighsAs_43 : decode cX8_sighsAs 43 = .ok (.aload_n 0, 1) := by decide +kernel
theorem dX8_sighsAs_44 : decode cX8_sighsAs 44 = .ok (.invokevirtual 233, 3) := by decide +kernel
theorem dX8_sighsAs_47 : decode cX8_sighsAs 47 = .ok (.iload_n 2, 1) := by decide +kernel
theorem dX8_sighsAs_48 : decode cX8_sighsAs 48 = .ok (.invokevirtual 236, 3) := by decide +kernel
theorem dX8_sighsAs_51 : decode cX8_sighsAs 51 = .ok (.aload_n 0, 1) := by decide +kernel
theorem dX8_sighsAs_52 : decode cX8_sighsAs 52 = .ok (.invokevirtual 239, 3) := by decide +kernel
theorem dX8_sighsAs_55 : decode cX8_sighsAs 55 = .ok (.isub, 1) := by decide +kernel
theorem dX8_sighsAs_56 : decode cX8_sighsAs 56 = .ok (.ireturn, 1) := by decide +kernel
theorem dX8_sighsAs_57 : decode cX8_sighsAs 57 = .ok (.aload_n 0, 1) := by decide +kernel
theorem dX8_sighsAs_58 : decode cX8_sighsAs 58 = .ok (.bipush 40, 2) := by decide +kernel
theorem dX8_sighsAs_60 : decode cX8_sighsAs 60 = .ok (.invokevirtual 226, 3) := by decide +kernel
theorem dX8_sighsAs_63 : decode cX8_sighsAs 63 = .ok (.aload_n 0, 1) := by decide +kernel
theorem dX8_sighsAs_64 : decode cX8_sighsAs 64 = .ok (.iconst 3, 1) := by decide +kernel
theorem dX8_sighsAs_65 : decode cX8_sighsAs 65 = .ok (.invokestatic 172, 3) := by decide +kernel
theorem dX8_sighsAs_68 : decode cX8_sighsAs 68 = .ok (.iload_n 2, 1) := by decide +kernel
theorem dX8_sighsAs_69 : decode cX8_sighsAs 69 = .ok (.iconst 2, 1) := by decide +kernel
theorem dX8_sighsAs_70 : decode cX8_sighsAs 70 = .ok (.idiv, 1) := by decide +kernel
theorem dX8_sighsAs_71 : decode cX8_sighsAs 71 = .ok (.invokevirtual 242, 3) := by decide +kernel
theorem dX8_sighsAs_74 : decode cX8_sighsAs 74 = .ok (.ireturn, 1) := by decide +kernel
theorem dX8_sighsAs_75 : decode cX8_sighsAs 75 = .ok (.aload_n 0, 1) := by decide +kernel
theorem dX8_sighsAs_76 : decode cX8_sighsAs 76 = .ok (.bipush 51, 2) := by decide +kernel
theorem dX8_sighsAs_78 : decode cX8_sighsAs 78 = .ok (.invokevirtual 226, 3) := by decide +kernel
theorem dX8_sighsAs_81 : decode cX8_sighsAs 81 = .ok (.aload_n 0, 1) := by decide +kernel
theorem dX8_sighsAs_82 : decode cX8_sighsAs 82 = .ok (.iconst 4, 1) := by decide +kernel
theorem dX8_sighsAs_83 : decode cX8_sighsAs 83 = .ok (.invokestatic 172, 3) := by decide +kernel
theorem dX8_sighsAs_86 : decode cX8_sighsAs 86 = .ok (.iload_n 2, 1) := by decide +kernel
theorem dX8_sighsAs_87 : decode cX8_sighsAs 87 = .ok (.invokevirtual 242, 3) := by decide +kernel
theorem dX8_sighsAs_90 : decode cX8_sighsAs 90 = .ok (.aload_n 0, 1) := by decide +kernel
theorem dX8_sighsAs_91 : decode cX8_sighsAs 91 = .ok (.getfield 223, 3) := by decide +kernel
theorem dX8_sighsAs_94 : decode cX8_sighsAs 94 = .ok (.ixor, 1) := by decide +kernel
theorem dX8_sighsAs_95 : decode cX8_sighsAs 95 = .ok (.ireturn, 1) := by decide +kernel
theorem dX8_sighsAs_96 : decode cX8_sighsAs 96 = .ok (.aload_n 0, 1) := by decide +kernel
theorem dX8_sighsAs_97 : decode cX8_sighsAs 97 = .ok (.iload_n 1, 1) := by decide +kernel
theorem dX8_sighsAs_98 : decode cX8_sighsAs 98 = .ok (.invokestatic 172, 3) := by decide +kernel
theorem dX8_sighsAs_101 : decode cX8_sighsAs 101 = .ok (.iload_n 2, 1) := by decide +kernel
theorem dX8_sighsAs_102 : decode cX8_sighsAs 102 = .ok (.invokevirtual 242, 3) := by decide +kernel
theorem dX8_sighsAs_105 : decode cX8_sighsAs 105 = .ok (.ireturn, 1) := by decide +kernel
theorem dX8_partsAs_0 : decode cX8_partsAs 0 = .ok (.iload_n 1, 1) := by decide +kernel
theorem dX8_partsAs_1 : decode cX8_partsAs 1 = .ok (.lookupswitch 119 #[(0, 27), (1, 78)], 27) := by decide +kernel
theorem dX8_partsAs_28 : decode cX8_partsAs 28 = .ok (.aload_n 0, 1) := by decide +kernel
theorem dX8_partsAs_29 : decode cX8_partsAs 29 = .ok (.bipush 13, 2) := by decide +kernel
theorem dX8_partsAs_31 : decode cX8_partsAs 31 = .ok (.invokevirtual 226, 3) := by decide +kernel
theorem dX8_partsAs_34 : decode cX8_partsAs 34 = .ok (.aload_n 0, 1) := by decide +kernel
theorem dX8_partsAs_35 : decode cX8_partsAs 35 = .ok (.invokevirtual 239, 3) := by decide +kernel
theorem dX8_partsAs_38 : decode cX8_partsAs 38 = .ok (.aload_n 0, 1) := by decide +kernel
theorem dX8_partsAs_39 : decode cX8_partsAs 39 = .ok (.getfield 223, 3) := by decide +kernel
theorem dX8_partsAs_42 : decode cX8_partsAs 42 = .ok (.isub, 1) := by decide +kernel
theorem dX8_partsAs_43 : decode cX8_partsAs 43 = .ok (.istore_n 3, 1) := by decide +kernel
theorem dX8_partsAs_44 : decode cX8_partsAs 44 = .ok (.aload_n 0, 1) := by decide +kernel
theorem dX8_partsAs_45 : decode cX8_partsAs 45 = .ok (.iload_n 3, 1) := by decide +kernel
theorem dX8_partsAs_46 : decode cX8_partsAs 46 = .ok (.ifCond .ne 7, 3) := by decide +kernel
theorem dX8_partsAs_49 : decode cX8_partsAs 49 = .ok (.iconst 1, 1) := by decide +kernel
theorem dX8_partsAs_50 : decode cX8_partsAs 50 = .ok (.goto 4, 3) := by decide +kernel
theorem dX8_partsAs_53 : decode cX8_partsAs 53 = .ok (.iconst 0, 1) := by decide +kernel
theorem dX8_partsAs_54 : decode cX8_partsAs 54 = .ok (.putfield 245, 3) := by decide +kernel
theorem dX8_partsAs_57 : decode cX8_partsAs 57 = .ok (.iload_n 3, 1) := by decide +kernel
theorem dX8_partsAs_58 : decode cX8_partsAs 58 = .ok (.ifCond .ne 7, 3) := by decide +kernel
theorem dX8_partsAs_61 : decode cX8_partsAs 61 = .ok (.iconst 0, 1) := by decide +kernel
theorem dX8_partsAs_62 : decode cX8_partsAs 62 = .ok (.goto 16, 3) := by decide +kernel
theorem dX8_partsAs_65 : decode cX8_partsAs 65 = .ok (.iload_n 3, 1) := by decide +kernel
theorem dX8_partsAs_66 : decode cX8_partsAs 66 = .ok (.iconst (-1), 1) := by decide +kernel
theorem dX8_partsAs_67 : decode cX8_partsAs 67 = .ok (.if_icmp .ne 8, 3) := by decide +kernel
theorem dX8_partsAs_70 : decode cX8_partsAs 70 = .ok (.iload_n 2, 1) := by decide +kernel
theorem dX8_partsAs_71 : decode cX8_partsAs 71 = .ok (.ineg, 1) := by decide +kernel
theorem dX8_partsAs_72 : decode cX8_partsAs 72 = .ok (.goto 6, 3) := by decide +kernel
theorem dX8_partsAs_75 : decode cX8_partsAs 75 = .ok (.iload_n 2, 1) := by decide +kernel
theorem dX8_partsAs_76 : decode cX8_partsAs 76 = .ok (.iload_n 3, 1) := by decide +kernel
theorem dX8_partsAs_77 : decode cX8_partsAs 77 = .ok (.idiv, 1) := by decide +kernel
theorem dX8_partsAs_78 : decode cX8_partsAs 78 = .ok (.ireturn, 1) := by decide +kernel
theorem dX8_partsAs_79 : decode cX8_partsAs 79 = .ok (.aload_n 0, 1) := by decide +kernel
theorem dX8_partsAs_80 : decode cX8_partsAs 80 = .ok (.bipush 21, 2) := by decide +kernel
theorem dX8_partsAs_82 : decode cX8_partsAs 82 = .ok (.invokevirtual 226, 3) := by decide +kernel
theorem dX8_partsAs_85 : decode cX8_partsAs 85 = .ok (.aload_n 0, 1) := by decide +kernel
theorem dX8_partsAs_86 : decode cX8_partsAs 86 = .ok (.iconst 1, 1) := by decide +kernel
theorem dX8_partsAs_87 : decode cX8_partsAs 87 = .ok (.invokestatic 172, 3) := by decide +kernel
theorem dX8_partsAs_90 : decode cX8_partsAs 90 = .ok (.iload_n 2, 1) := by decide +kernel
theorem dX8_partsAs_91 : decode cX8_partsAs 91 = .ok (.invokevirtual 249, 3) := by decide +kernel
theorem dX8_partsAs_94 : decode cX8_partsAs 94 = .ok (.istore 4, 2) := by decide +kernel
theorem dX8_partsAs_96 : decode cX8_partsAs 96 = .ok (.aload_n 0, 1) := by decide +kernel
theorem dX8_partsAs_97 : decode cX8_partsAs 97 = .ok (.getfield 245, 3) := by decide +kernel
theorem dX8_partsAs_100 : decode cX8_partsAs 100 = .ok (.ifCond .eq 7, 3) := by decide +kernel
theorem dX8_partsAs_103 : decode cX8_partsAs 103 = .ok (.iconst 0, 1) := by decide +kernel
theorem dX8_partsAs_104 : decode cX8_partsAs 104 = .ok (.goto 15, 3) := by decide +kernel
theorem dX8_partsAs_107 : decode cX8_partsAs 107 = .ok (.iload 4, 2) := by decide +kernel
theorem dX8_partsAs_109 : decode cX8_partsAs 109 = .ok (.aload_n 0, 1) := by decide +kernel
theorem dX8_partsAs_110 : decode cX8_partsAs 110 = .ok (.aload_n 0, 1) := by decide +kernel
theorem dX8_partsAs_111 : decode cX8_partsAs 111 = .ok (.invokevirtual 233, 3) := by decide +kernel
theorem dX8_partsAs_114 : decode cX8_partsAs 114 = .ok (.iconst 1, 1) := by decide +kernel
theorem dX8_partsAs_115 : decode cX8_partsAs 115 = .ok (.invokevirtual 236, 3) := by decide +kernel
theorem dX8_partsAs_118 : decode cX8_partsAs 118 = .ok (.iadd, 1) := by decide +kernel
theorem dX8_partsAs_119 : decode cX8_partsAs 119 = .ok (.ireturn, 1) := by decide +kernel
theorem dX8_partsAs_120 : decode cX8_partsAs 120 = .ok (.aload_n 0, 1) := by decide +kernel
theorem dX8_partsAs_121 : decode cX8_partsAs 121 = .ok (.iload_n 1, 1) := by decide +kernel
theorem dX8_partsAs_122 : decode cX8_partsAs 122 = .ok (.invokestatic 172, 3) := by decide +kernel
theorem dX8_partsAs_125 : decode cX8_partsAs 125 = .ok (.iload_n 2, 1) := by decide +kernel
theorem dX8_partsAs_126 : decode cX8_partsAs 126 = .ok (.invokevirtual 249, 3) := by decide +kernel
theorem dX8_partsAs_129 : decode cX8_partsAs 129 = .ok (.ireturn, 1) := by decide +kernel
theorem dX8_voice_0 : decode cX8_voice 0 = .ok (.aload_n 0, 1) := by decide +kernel
theorem dX8_voice_1 : decode cX8_voice 1 = .ok (.iload_n 1, 1) := by decide +kernel
theorem dX8_voice_2 : decode cX8_voice 2 = .ok (.invokevirtual 166, 3) := by decide +kernel
theorem dX8_voice_5 : decode cX8_voice 5 = .ok (.ifCond .eq 12, 3) := by decide +kernel
theorem dX8_voice_8 : decode cX8_voice 8 = .ok (.iload_n 2, 1) := by decide +kernel
theorem dX8_voice_9 : decode cX8_voice 9 = .ok (.iconst 0, 1) := by decide +kernel
theorem dX8_voice_10 : decode cX8_voice 10 = .ok (.iconst 3, 1) := by decide +kernel
theorem dX8_voice_11 : decode cX8_voice 11 = .ok (.invokestatic 59, 3) := by decide +kernel
theorem dX8_voice_14 : decode cX8_voice 14 = .ok (.ifCond .ne 9, 3) := by decide +kernel
theorem dX8_voice_17 : decode cX8_voice 17 = .ok (.aload_n 0, 1) := by decide +kernel
theorem dX8_voice_18 : decode cX8_voice 18 = .ok (.iconst 1, 1) := by decide +kernel
theorem dX8_voice_19 : decode cX8_voice 19 = .ok (.invokevirtual 63, 3) := by decide +kernel
theorem dX8_voice_22 : decode cX8_voice 22 = .ok (.ireturn, 1) := by decide +kernel
theorem dX8_voice_23 : decode cX8_voice 23 = .ok (.aload_n 0, 1) := by decide +kernel
theorem dX8_voice_24 : decode cX8_voice 24 = .ok (.iconst 0, 1) := by decide +kernel
theorem dX8_voice_25 : decode cX8_voice 25 = .ok (.putfield 220, 3) := by decide +kernel
theorem dX8_voice_28 : decode cX8_voice 28 = .ok (.aload_n 0, 1) := by decide +kernel
theorem dX8_voice_29 : decode cX8_voice 29 = .ok (.iload_n 1, 1) := by decide +kernel
theorem dX8_voice_30 : decode cX8_voice 30 = .ok (.putfield 223, 3) := by decide +kernel
theorem dX8_voice_33 : decode cX8_voice 33 = .ok (.aload_n 0, 1) := by decide +kernel
theorem dX8_voice_34 : decode cX8_voice 34 = .ok (.iconst 0, 1) := by decide +kernel
theorem dX8_voice_35 : decode cX8_voice 35 = .ok (.putfield 245, 3) := by decide +kernel
theorem dX8_voice_38 : decode cX8_voice 38 = .ok (.aload_n 0, 1) := by decide +kernel
theorem dX8_voice_39 : decode cX8_voice 39 = .ok (.invokevirtual 233, 3) := by decide +kernel
theorem dX8_voice_42 : decode cX8_voice 42 = .ok (.istore 4, 2) := by decide +kernel
theorem dX8_voice_44 : decode cX8_voice 44 = .ok (.iload_n 2, 1) := by decide +kernel
theorem dX8_voice_45 : decode cX8_voice 45 = .ok (.ifCond .ne 13, 3) := by decide +kernel
theorem dX8_voice_48 : decode cX8_voice 48 = .ok (.aload_n 0, 1) := by decide +kernel
theorem dX8_voice_49 : decode cX8_voice 49 = .ok (.iload 4, 2) := by decide +kernel
theorem dX8_voice_51 : decode cX8_voice 51 = .ok (.iload_n 3, 1) := by decide +kernel
theorem dX8_voice_52 : decode cX8_voice 52 = .ok (.invokevirtual 230, 3) := by decide +kernel
theorem dX8_voice_55 : decode cX8_voice 55 = .ok (.goto 40, 3) := by decide +kernel
theorem dX8_voice_58 : decode cX8_voice 58 = .ok (.iload_n 2, 1) := by decide +kernel
theorem dX8_voice_59 : decode cX8_voice 59 = .ok (.iconst 1, 1) := by decide +kernel
theorem dX8_voice_60 : decode cX8_voice 60 = .ok (.if_icmp .ne 13, 3) := by decide +kernel
theorem dX8_voice_63 : decode cX8_voice 63 = .ok (.aload_n 0, 1) := by decide +kernel
theorem dX8_voice_64 : decode cX8_voice 64 = .ok (.iload 4, 2) := by decide +kernel
theorem dX8_voice_66 : decode cX8_voice 66 = .ok (.iload_n 3, 1) := by decide +kernel
theorem dX8_voice_67 : decode cX8_voice 67 = .ok (.invokevirtual 236, 3) := by decide +kernel
theorem dX8_voice_70 : decode cX8_voice 70 = .ok (.goto 25, 3) := by decide +kernel
theorem dX8_voice_73 : decode cX8_voice 73 = .ok (.iload_n 2, 1) := by decide +kernel
theorem dX8_voice_74 : decode cX8_voice 74 = .ok (.iconst 2, 1) := by decide +kernel
theorem dX8_voice_75 : decode cX8_voice 75 = .ok (.if_icmp .ne 13, 3) := by decide +kernel
theorem dX8_voice_78 : decode cX8_voice 78 = .ok (.aload_n 0, 1) := by decide +kernel
theorem dX8_voice_79 : decode cX8_voice 79 = .ok (.iload 4, 2) := by decide +kernel
theorem dX8_voice_81 : decode cX8_voice 81 = .ok (.iload_n 3, 1) := by decide +kernel
theorem dX8_voice_82 : decode cX8_voice 82 = .ok (.invokevirtual 242, 3) := by decide +kernel
theorem dX8_voice_85 : decode cX8_voice 85 = .ok (.goto 10, 3) := by decide +kernel
theorem dX8_voice_88 : decode cX8_voice 88 = .ok (.aload_n 0, 1) := by decide +kernel
theorem dX8_voice_89 : decode cX8_voice 89 = .ok (.iload 4, 2) := by decide +kernel
theorem dX8_voice_91 : decode cX8_voice 91 = .ok (.iload_n 3, 1) := by decide +kernel
theorem dX8_voice_92 : decode cX8_voice 92 = .ok (.invokevirtual 249, 3) := by decide +kernel
theorem dX8_voice_95 : decode cX8_voice 95 = .ok (.istore 5, 2) := by decide +kernel
theorem dX8_voice_97 : decode cX8_voice 97 = .ok (.aload_n 0, 1) := by decide +kernel
theorem dX8_voice_98 : decode cX8_voice 98 = .ok (.getfield 245, 3) := by decide +kernel
theorem dX8_voice_101 : decode cX8_voice 101 = .ok (.ifCond .eq 12, 3) := by decide +kernel
theorem dX8_voice_104 : decode cX8_voice 104 = .ok (.aload_n 0, 1) := by decide +kernel
theorem dX8_voice_105 : decode cX8_voice 105 = .ok (.bipush 6, 2) := by decide +kernel
theorem dX8_voice_107 : decode cX8_voice 107 = .ok (.invokevirtual 63, 3) := by decide +kernel
theorem dX8_voice_110 : decode cX8_voice 110 = .ok (.goto 5, 3) := by decide +kernel
theorem dX8_voice_113 : decode cX8_voice 113 = .ok (.iload 5, 2) := by decide +kernel
theorem dX8_voice_115 : decode cX8_voice 115 = .ok (.ireturn, 1) := by decide +kernel
theorem dX8_body_0 : decode cX8_body 0 = .ok (.iload_n 1, 1) := by decide +kernel
theorem dX8_body_1 : decode cX8_body 1 = .ok (.iconst 0, 1) := by decide +kernel
theorem dX8_body_2 : decode cX8_body 2 = .ok (.aload_n 0, 1) := by decide +kernel
theorem dX8_body_3 : decode cX8_body 3 = .ok (.getfield 220, 3) := by decide +kernel
theorem dX8_body_6 : decode cX8_body 6 = .ok (.iconst 1, 1) := by decide +kernel
theorem dX8_body_7 : decode cX8_body 7 = .ok (.isub, 1) := by decide +kernel
theorem dX8_body_8 : decode cX8_body 8 = .ok (.invokestatic 59, 3) := by decide +kernel
theorem dX8_body_11 : decode cX8_body 11 = .ok (.ifCond .eq 12, 3) := by decide +kernel
theorem dX8_body_14 : decode cX8_body 14 = .ok (.aload_n 0, 1) := by decide +kernel
theorem dX8_body_15 : decode cX8_body 15 = .ok (.getfield 43, 3) := by decide +kernel
theorem dX8_body_18 : decode cX8_body 18 = .ok (.iload_n 1, 1) := by decide +kernel
theorem dX8_body_19 : decode cX8_body 19 = .ok (.iaload, 1) := by decide +kernel
theorem dX8_body_20 : decode cX8_body 20 = .ok (.goto 8, 3) := by decide +kernel
theorem dX8_body_23 : decode cX8_body 23 = .ok (.aload_n 0, 1) := by decide +kernel
theorem dX8_body_24 : decode cX8_body 24 = .ok (.iconst 2, 1) := by decide +kernel
theorem dX8_body_25 : decode cX8_body 25 = .ok (.invokevirtual 63, 3) := by decide +kernel
theorem dX8_body_28 : decode cX8_body 28 = .ok (.ireturn, 1) := by decide +kernel
theorem dX8_isSheet_0 : decode cX8_isSheet 0 = .ok (.iload_n 0, 1) := by decide +kernel
theorem dX8_isSheet_1 : decode cX8_isSheet 1 = .ok (.iconst 0, 1) := by decide +kernel
theorem dX8_isSheet_2 : decode cX8_isSheet 2 = .ok (.iconst 3, 1) := by decide +kernel
theorem dX8_isSheet_3 : decode cX8_isSheet 3 = .ok (.invokestatic 59, 3) := by decide +kernel
theorem dX8_isSheet_6 : decode cX8_isSheet 6 = .ok (.ireturn, 1) := by decide +kernel
theorem dX8_sheet_0 : decode cX8_sheet 0 = .ok (.iload_n 1, 1) := by decide +kernel
theorem dX8_sheet_1 : decode cX8_sheet 1 = .ok (.invokestatic 252, 3) := by decide +kernel
theorem dX8_sheet_4 : decode cX8_sheet 4 = .ok (.ifCond .eq 25, 3) := by decide +kernel
theorem dX8_sheet_7 : decode cX8_sheet 7 = .ok (.iload_n 2, 1) := by decide +kernel
theorem dX8_sheet_8 : decode cX8_sheet 8 = .ok (.ifCond .eq 27, 3) := by decide +kernel
theorem dX8_sheet_11 : decode cX8_sheet 11 = .ok (.iload_n 2, 1) := by decide +kernel
theorem dX8_sheet_12 : decode cX8_sheet 12 = .ok (.bipush 8, 2) := by decide +kernel
theorem dX8_sheet_14 : decode cX8_sheet 14 = .ok (.if_icmp .eq 21, 3) := by decide +kernel
theorem dX8_sheet_17 : decode cX8_sheet 17 = .ok (.iload_n 2, 1) := by decide +kernel
theorem dX8_sheet_18 : decode cX8_sheet 18 = .ok (.bipush 16, 2) := by decide +kernel
theorem dX8_sheet_20 : decode cX8_sheet 20 = .ok (.if_icmp .eq 15, 3) := by decide +kernel
theorem dX8_sheet_23 : decode cX8_sheet 23 = .ok (.iload_n 2, 1) := by decide +kernel
theorem dX8_sheet_24 : decode cX8_sheet 24 = .ok (.bipush 32, 2) := by decide +kernel
theorem dX8_sheet_26 : decode cX8_sheet 26 = .ok (.if_icmp .eq 9, 3) := by decide +kernel
theorem dX8_sheet_29 : decode cX8_sheet 29 = .ok (.aload_n 0, 1) := by decide +kernel
theorem dX8_sheet_30 : decode cX8_sheet 30 = .ok (.iconst 1, 1) := by decide +kernel
theorem dX8_sheet_31 : decode cX8_sheet 31 = .ok (.invokevirtual 63, 3) := by decide +kernel
theorem dX8_sheet_34 : decode cX8_sheet 34 = .ok (.ireturn, 1) := by decide +kernel
theorem dX8_sheet_35 : decode cX8_sheet 35 = .ok (.iload_n 2, 1) := by decide +kernel
theorem dX8_sheet_36 : decode cX8_sheet 36 = .ok (.ifCond .eq 13, 3) := by decide +kernel
theorem dX8_sheet_39 : decode cX8_sheet 39 = .ok (.iload_n 3, 1) := by decide +kernel
theorem dX8_sheet_40 : decode cX8_sheet 40 = .ok (.ifCond .ge 9, 3) := by decide +kernel
theorem dX8_sheet_43 : decode cX8_sheet 43 = .ok (.aload_n 0, 1) := by decide +kernel
theorem dX8_sheet_44 : decode cX8_sheet 44 = .ok (.iconst 3, 1) := by decide +kernel
theorem dX8_sheet_45 : decode cX8_sheet 45 = .ok (.invokevirtual 63, 3) := by decide +kernel
theorem dX8_sheet_48 : decode cX8_sheet 48 = .ok (.ireturn, 1) := by decide +kernel
theorem dX8_sheet_49 : decode cX8_sheet 49 = .ok (.iload_n 2, 1) := by decide +kernel
theorem dX8_sheet_50 : decode cX8_sheet 50 = .ok (.ifCond .eq 15, 3) := by decide +kernel
theorem dX8_sheet_53 : decode cX8_sheet 53 = .ok (.iload_n 3, 1) := by decide +kernel
theorem dX8_sheet_54 : decode cX8_sheet 54 = .ok (.bipush 24, 2) := by decide +kernel
theorem dX8_sheet_56 : decode cX8_sheet 56 = .ok (.if_icmp .le 9, 3) := by decide +kernel
theorem dX8_sheet_59 : decode cX8_sheet 59 = .ok (.aload_n 0, 1) := by decide +kernel
theorem dX8_sheet_60 : decode cX8_sheet 60 = .ok (.iconst 1, 1) := by decide +kernel
theorem dX8_sheet_61 : decode cX8_sheet 61 = .ok (.invokevirtual 63, 3) := by decide +kernel
theorem dX8_sheet_64 : decode cX8_sheet 64 = .ok (.ireturn, 1) := by decide +kernel
theorem dX8_sheet_65 : decode cX8_sheet 65 = .ok (.aload_n 0, 1) := by decide +kernel
theorem dX8_sheet_66 : decode cX8_sheet 66 = .ok (.getfield 46, 3) := by decide +kernel
theorem dX8_sheet_69 : decode cX8_sheet 69 = .ok (.iload_n 1, 1) := by decide +kernel
theorem dX8_sheet_70 : decode cX8_sheet 70 = .ok (.iload_n 2, 1) := by decide +kernel
theorem dX8_sheet_71 : decode cX8_sheet 71 = .ok (.iastore, 1) := by decide +kernel
theorem dX8_sheet_72 : decode cX8_sheet 72 = .ok (.aload_n 0, 1) := by decide +kernel
theorem dX8_sheet_73 : decode cX8_sheet 73 = .ok (.getfield 49, 3) := by decide +kernel
theorem dX8_sheet_76 : decode cX8_sheet 76 = .ok (.iload_n 1, 1) := by decide +kernel
theorem dX8_sheet_77 : decode cX8_sheet 77 = .ok (.iload_n 2, 1) := by decide +kernel
theorem dX8_sheet_78 : decode cX8_sheet 78 = .ok (.ifCond .ne 7, 3) := by decide +kernel
theorem dX8_sheet_81 : decode cX8_sheet 81 = .ok (.iconst 0, 1) := by decide +kernel
theorem dX8_sheet_82 : decode cX8_sheet 82 = .ok (.goto 4, 3) := by decide +kernel
theorem dX8_sheet_85 : decode cX8_sheet 85 = .ok (.iload_n 3, 1) := by decide +kernel
theorem dX8_sheet_86 : decode cX8_sheet 86 = .ok (.iastore, 1) := by decide +kernel
theorem dX8_sheet_87 : decode cX8_sheet 87 = .ok (.iconst 0, 1) := by decide +kernel
theorem dX8_sheet_88 : decode cX8_sheet 88 = .ok (.istore 4, 2) := by decide +kernel
theorem dX8_sheet_90 : decode cX8_sheet 90 = .ok (.iload 4, 2) := by decide +kernel
theorem dX8_sheet_92 : decode cX8_sheet 92 = .ok (.bipush 24, 2) := by decide +kernel
theorem dX8_sheet_94 : decode cX8_sheet 94 = .ok (.if_icmp .ge 22, 3) := by decide +kernel
theorem dX8_sheet_97 : decode cX8_sheet 97 = .ok (.aload_n 0, 1) := by decide +kernel
theorem dX8_sheet_98 : decode cX8_sheet 98 = .ok (.getfield 52, 3) := by decide +kernel
theorem dX8_sheet_101 : decode cX8_sheet 101 = .ok (.bipush 24, 2) := by decide +kernel
theorem dX8_sheet_103 : decode cX8_sheet 103 = .ok (.iload_n 1, 1) := by decide +kernel
theorem dX8_sheet_104 : decode cX8_sheet 104 = .ok (.imul, 1) := by decide +kernel
theorem dX8_sheet_105 : decode cX8_sheet 105 = .ok (.iload 4, 2) := by decide +kernel
theorem dX8_sheet_107 : decode cX8_sheet 107 = .ok (.iadd, 1) := by decide +kernel
theorem dX8_sheet_108 : decode cX8_sheet 108 = .ok (.iconst 0, 1) := by decide +kernel
theorem dX8_sheet_109 : decode cX8_sheet 109 = .ok (.iastore, 1) := by decide +kernel
theorem dX8_sheet_110 : decode cX8_sheet 110 = .ok (.iinc 4 1, 3) := by decide +kernel
theorem dX8_sheet_113 : decode cX8_sheet 113 = .ok (.goto (-23), 3) := by decide +kernel
theorem dX8_sheet_116 : decode cX8_sheet 116 = .ok (.iconst 1, 1) := by decide +kernel
theorem dX8_sheet_117 : decode cX8_sheet 117 = .ok (.ireturn, 1) := by decide +kernel
theorem dX8_put_0 : decode cX8_put 0 = .ok (.iload_n 1, 1) := by decide +kernel
theorem dX8_put_1 : decode cX8_put 1 = .ok (.invokestatic 252, 3) := by decide +kernel
theorem dX8_put_4 : decode cX8_put 4 = .ok (.ifCond .ne 9, 3) := by decide +kernel
theorem dX8_put_7 : decode cX8_put 7 = .ok (.aload_n 0, 1) := by decide +kernel
theorem dX8_put_8 : decode cX8_put 8 = .ok (.iconst 1, 1) := by decide +kernel
theorem dX8_put_9 : decode cX8_put 9 = .ok (.invokevirtual 63, 3) := by decide +kernel
theorem dX8_put_12 : decode cX8_put 12 = .ok (.ireturn, 1) := by decide +kernel
theorem dX8_put_13 : decode cX8_put 13 = .ok (.aload_n 0, 1) := by decide +kernel
theorem dX8_put_14 : decode cX8_put 14 = .ok (.getfield 46, 3) := by decide +kernel
theorem dX8_put_17 : decode cX8_put 17 = .ok (.iload_n 1, 1) := by decide +kernel
theorem dX8_put_18 : decode cX8_put 18 = .ok (.iaload, 1) := by decide +kernel
theorem dX8_put_19 : decode cX8_put 19 = .ok (.ifCond .ne 9, 3) := by decide +kernel
theorem dX8_put_22 : decode cX8_put 22 = .ok (.aload_n 0, 1) := by decide +kernel
theorem dX8_put_23 : decode cX8_put 23 = .ok (.iconst 2, 1) := by decide +kernel
theorem dX8_put_24 : decode cX8_put 24 = .ok (.invokevirtual 63, 3) := by decide +kernel
theorem dX8_put_27 : decode cX8_put 27 = .ok (.ireturn, 1) := by decide +kernel
theorem dX8_put_28 : decode cX8_put 28 = .ok (.iload_n 2, 1) := by decide +kernel
theorem dX8_put_29 : decode cX8_put 29 = .ok (.iconst 0, 1) := by decide +kernel
theorem dX8_put_30 : decode cX8_put 30 = .ok (.aload_n 0, 1) := by decide +kernel
theorem dX8_put_31 : decode cX8_put 31 = .ok (.getfield 49, 3) := by decide +kernel
theorem dX8_put_34 : decode cX8_put 34 = .ok (.iload_n 1, 1) := by decide +kernel
theorem dX8_put_35 : decode cX8_put 35 = .ok (.iaload, 1) := by decide +kernel
theorem dX8_put_36 : decode cX8_put 36 = .ok (.iconst 1, 1) := by decide +kernel
theorem dX8_put_37 : decode cX8_put 37 = .ok (.isub, 1) := by decide +kernel
theorem dX8_put_38 : decode cX8_put 38 = .ok (.invokestatic 59, 3) := by decide +kernel
theorem dX8_put_41 : decode cX8_put 41 = .ok (.ifCond .ne 9, 3) := by decide +kernel
theorem dX8_put_44 : decode cX8_put 44 = .ok (.aload_n 0, 1) := by decide +kernel
theorem dX8_put_45 : decode cX8_put 45 = .ok (.iconst 1, 1) := by decide +kernel
theorem dX8_put_46 : decode cX8_put 46 = .ok (.invokevirtual 63, 3) := by decide +kernel
theorem dX8_put_49 : decode cX8_put 49 = .ok (.ireturn, 1) := by decide +kernel
theorem dX8_put_50 : decode cX8_put 50 = .ok (.bipush 32, 2) := by decide +kernel
theorem dX8_put_52 : decode cX8_put 52 = .ok (.aload_n 0, 1) := by decide +kernel
theorem dX8_put_53 : decode cX8_put 53 = .ok (.getfield 46, 3) := by decide +kernel
theorem dX8_put_56 : decode cX8_put 56 = .ok (.iload_n 1, 1) := by decide +kernel
theorem dX8_put_57 : decode cX8_put 57 = .ok (.iaload, 1) := by decide +kernel
theorem dX8_put_58 : decode cX8_put 58 = .ok (.isub, 1) := by decide +kernel
theorem dX8_put_59 : decode cX8_put 59 = .ok (.istore 4, 2) := by decide +kernel
theorem dX8_put_61 : decode cX8_put 61 = .ok (.aload_n 0, 1) := by decide +kernel
theorem dX8_put_62 : decode cX8_put 62 = .ok (.getfield 52, 3) := by decide +kernel
theorem dX8_put_65 : decode cX8_put 65 = .ok (.bipush 24, 2) := by decide +kernel
theorem dX8_put_67 : decode cX8_put 67 = .ok (.iload_n 1, 1) := by decide +kernel
theorem dX8_put_68 : decode cX8_put 68 = .ok (.imul, 1) := by decide +kernel
theorem dX8_put_69 : decode cX8_put 69 = .ok (.iload_n 2, 1) := by decide +kernel
theorem dX8_put_70 : decode cX8_put 70 = .ok (.iadd, 1) := by decide +kernel
theorem dX8_put_71 : decode cX8_put 71 = .ok (.iload_n 3, 1) := by decide +kernel
theorem dX8_put_72 : decode cX8_put 72 = .ok (.iload 4, 2) := by decide +kernel
theorem dX8_put_74 : decode cX8_put 74 = .ok (.ishl, 1) := by decide +kernel
theorem dX8_put_75 : decode cX8_put 75 = .ok (.iload 4, 2) := by decide +kernel
theorem dX8_put_77 : decode cX8_put 77 = .ok (.ishr, 1) := by decide +kernel
theorem dX8_put_78 : decode cX8_put 78 = .ok (.iastore, 1) := by decide +kernel
theorem dX8_put_79 : decode cX8_put 79 = .ok (.iconst 1, 1) := by decide +kernel
theorem dX8_put_80 : decode cX8_put 80 = .ok (.ireturn, 1) := by decide +kernel
theorem dX8_move_0 : decode cX8_move 0 = .ok (.iload_n 1, 1) := by decide +kernel
theorem dX8_move_1 : decode cX8_move 1 = .ok (.invokestatic 252, 3) := by decide +kernel
theorem dX8_move_4 : decode cX8_move 4 = .ok (.ifCond .eq 10, 3) := by decide +kernel
theorem dX8_move_7 : decode cX8_move 7 = .ok (.iload_n 3, 1) := by decide +kernel
theorem dX8_move_8 : decode cX8_move 8 = .ok (.invokestatic 252, 3) := by decide +kernel
theorem dX8_move_11 : decode cX8_move 11 = .ok (.ifCond .ne 9, 3) := by decide +kernel
theorem dX8_move_14 : decode cX8_move 14 = .ok (.aload_n 0, 1) := by decide +kernel
theorem dX8_move_15 : decode cX8_move 15 = .ok (.iconst 1, 1) := by decide +kernel
theorem dX8_move_16 : decode cX8_move 16 = .ok (.invokevirtual 63, 3) := by decide +kernel
theorem dX8_move_19 : decode cX8_move 19 = .ok (.ireturn, 1) := by decide +kernel
theorem dX8_move_20 : decode cX8_move 20 = .ok (.aload_n 0, 1) := by decide +kernel
theorem dX8_move_21 : decode cX8_move 21 = .ok (.getfield 46, 3) := by decide +kernel
theorem dX8_move_24 : decode cX8_move 24 = .ok (.iload_n 1, 1) := by decide +kernel
theorem dX8_move_25 : decode cX8_move 25 = .ok (.iaload, 1) := by decide +kernel
theorem dX8_move_26 : decode cX8_move 26 = .ok (.ifCond .eq 12, 3) := by decide +kernel
theorem dX8_move_29 : decode cX8_move 29 = .ok (.aload_n 0, 1) := by decide +kernel
theorem dX8_move_30 : decode cX8_move 30 = .ok (.getfield 46, 3) := by decide +kernel
theorem dX8_move_33 : decode cX8_move 33 = .ok (.iload_n 3, 1) := by decide +kernel
theorem dX8_move_34 : decode cX8_move 34 = .ok (.iaload, 1) := by decide +kernel
theorem dX8_move_35 : decode cX8_move 35 = .ok (.ifCond .ne 9, 3) := by decide +kernel
theorem dX8_move_38 : decode cX8_move 38 = .ok (.aload_n 0, 1) := by decide +kernel
theorem dX8_move_39 : decode cX8_move 39 = .ok (.iconst 2, 1) := by decide +kernel
theorem dX8_move_40 : decode cX8_move 40 = .ok (.invokevirtual 63, 3) := by decide +kernel
theorem dX8_move_43 : decode cX8_move 43 = .ok (.ireturn, 1) := by decide +kernel
theorem dX8_move_44 : decode cX8_move 44 = .ok (.aload_n 0, 1) := by decide +kernel
theorem dX8_move_45 : decode cX8_move 45 = .ok (.getfield 46, 3) := by decide +kernel
theorem dX8_move_48 : decode cX8_move 48 = .ok (.iload_n 1, 1) := by decide +kernel
theorem dX8_move_49 : decode cX8_move 49 = .ok (.iaload, 1) := by decide +kernel
theorem dX8_move_50 : decode cX8_move 50 = .ok (.aload_n 0, 1) := by decide +kernel
theorem dX8_move_51 : decode cX8_move 51 = .ok (.getfield 46, 3) := by decide +kernel
theorem dX8_move_54 : decode cX8_move 54 = .ok (.iload_n 3, 1) := by decide +kernel
theorem dX8_move_55 : decode cX8_move 55 = .ok (.iaload, 1) := by decide +kernel
theorem dX8_move_56 : decode cX8_move 56 = .ok (.if_icmp .eq 9, 3) := by decide +kernel
theorem dX8_move_59 : decode cX8_move 59 = .ok (.aload_n 0, 1) := by decide +kernel
theorem dX8_move_60 : decode cX8_move 60 = .ok (.iconst 5, 1) := by decide +kernel
theorem dX8_move_61 : decode cX8_move 61 = .ok (.invokevirtual 63, 3) := by decide +kernel
theorem dX8_move_64 : decode cX8_move 64 = .ok (.ireturn, 1) := by decide +kernel
theorem dX8_move_65 : decode cX8_move 65 = .ok (.iload 5, 2) := by decide +kernel
theorem dX8_move_67 : decode cX8_move 67 = .ok (.ifCond .lt 39, 3) := by decide +kernel
theorem dX8_move_70 : decode cX8_move 70 = .ok (.iload_n 2, 1) := by decide +kernel
theorem dX8_move_71 : decode cX8_move 71 = .ok (.ifCond .lt 35, 3) := by decide +kernel
theorem dX8_move_74 : decode cX8_move 74 = .ok (.iload 4, 2) := by decide +kernel
theorem dX8_move_76 : decode cX8_move 76 = .ok (.ifCond .lt 30, 3) := by decide +kernel
theorem dX8_move_79 : decode cX8_move 79 = .ok (.iload_n 2, 1) := by decide +kernel
theorem dX8_move_80 : decode cX8_move 80 = .ok (.aload_n 0, 1) := by decide +kernel
theorem dX8_move_81 : decode cX8_move 81 = .ok (.getfield 49, 3) := by decide +kernel
theorem dX8_move_84 : decode cX8_move 84 = .ok (.iload_n 1, 1) := by decide +kernel
theorem dX8_move_85 : decode cX8_move 85 = .ok (.iaload, 1) := by decide +kernel
theorem dX8_move_86 : decode cX8_move 86 = .ok (.iload 5, 2) := by decide +kernel
theorem dX8_move_88 : decode cX8_move 88 = .ok (.isub, 1) := by decide +kernel
theorem dX8_move_89 : decode cX8_move 89 = .ok (.if_icmp .gt 17, 3) := by decide +kernel
theorem dX8_move_92 : decode cX8_move 92 = .ok (.iload 4, 2) := by decide +kernel
theorem dX8_move_94 : decode cX8_move 94 = .ok (.aload_n 0, 1) := by decide +kernel
theorem dX8_move_95 : decode cX8_move 95 = .ok (.getfield 49, 3) := by decide +kernel
theorem dX8_move_98 : decode cX8_move 98 = .ok (.iload_n 3, 1) := by decide +kernel
theorem dX8_move_99 : decode cX8_move 99 = .ok (.iaload, 1) := by decide +kernel
theorem dX8_move_100 : decode cX8_move 100 = .ok (.iload 5, 2) := by decide +kernel
theorem dX8_move_102 : decode cX8_move 102 = .ok (.isub, 1) := by decide +kernel
theorem dX8_move_103 : decode cX8_move 103 = .ok (.if_icmp .le 9, 3) := by decide +kernel
theorem dX8_move_106 : decode cX8_move 106 = .ok (.aload_n 0, 1) := by decide +kernel
theorem dX8_move_107 : decode cX8_move 107 = .ok (.iconst 1, 1) := by decide +kernel
theorem dX8_move_108 : decode cX8_move 108 = .ok (.invokevirtual 63, 3) := by decide +kernel
theorem dX8_move_111 : decode cX8_move 111 = .ok (.ireturn, 1) := by decide +kernel
theorem dX8_move_112 : decode cX8_move 112 = .ok (.iconst 0, 1) := by decide +kernel
theorem dX8_move_113 : decode cX8_move 113 = .ok (.istore 6, 2) := by decide +kernel
theorem dX8_move_115 : decode cX8_move 115 = .ok (.iload 6, 2) := by decide +kernel
theorem dX8_move_117 : decode cX8_move 117 = .ok (.iload 5, 2) := by decide +kernel
theorem dX8_move_119 : decode cX8_move 119 = .ok (.if_icmp .ge 30, 3) := by decide +kernel
theorem dX8_move_122 : decode cX8_move 122 = .ok (.aload_n 0, 1) := by decide +kernel
theorem dX8_move_123 : decode cX8_move 123 = .ok (.getfield 55, 3) := by decide +kernel
theorem dX8_move_126 : decode cX8_move 126 = .ok (.iload 6, 2) := by decide +kernel
theorem dX8_move_128 : decode cX8_move 128 = .ok (.aload_n 0, 1) := by decide +kernel
theorem dX8_move_129 : decode cX8_move 129 = .ok (.getfield 52, 3) := by decide +kernel
theorem dX8_move_132 : decode cX8_move 132 = .ok (.bipush 24, 2) := by decide +kernel
theorem dX8_move_134 : decode cX8_move 134 = .ok (.iload_n 1, 1) := by decide +kernel
theorem dX8_move_135 : decode cX8_move 135 = .ok (.imul, 1) := by decide +kernel
theorem dX8_move_136 : decode cX8_move 136 = .ok (.iload_n 2, 1) := by decide +kernel
theorem dX8_move_137 : decode cX8_move 137 = .ok (.iadd, 1) := by decide +kernel
theorem dX8_move_138 : decode cX8_move 138 = .ok (.iload 6, 2) := by decide +kernel
theorem dX8_move_140 : decode cX8_move 140 = .ok (.iadd, 1) := by decide +kernel
theorem dX8_move_141 : decode cX8_move 141 = .ok (.iaload, 1) := by decide +kernel
theorem dX8_move_142 : decode cX8_move 142 = .ok (.iastore, 1) := by decide +kernel
theorem dX8_move_143 : decode cX8_move 143 = .ok (.iinc 6 1, 3) := by decide +kernel
theorem dX8_move_146 : decode cX8_move 146 = .ok (.goto (-31), 3) := by decide +kernel
theorem dX8_move_149 : decode cX8_move 149 = .ok (.iconst 0, 1) := by decide +kernel
theorem dX8_move_150 : decode cX8_move 150 = .ok (.istore 6, 2) := by decide +kernel
theorem dX8_move_152 : decode cX8_move 152 = .ok (.iload 6, 2) := by decide +kernel
theorem dX8_move_154 : decode cX8_move 154 = .ok (.iload 5, 2) := by decide +kernel
theorem dX8_move_156 : decode cX8_move 156 = .ok (.if_icmp .ge 31, 3) := by decide +kernel
theorem dX8_move_159 : decode cX8_move 159 = .ok (.aload_n 0, 1) := by decide +kernel
theorem dX8_move_160 : decode cX8_move 160 = .ok (.getfield 52, 3) := by decide +kernel
theorem dX8_move_163 : decode cX8_move 163 = .ok (.bipush 24, 2) := by decide +kernel
theorem dX8_move_165 : decode cX8_move 165 = .ok (.iload_n 3, 1) := by decide +kernel
theorem dX8_move_166 : decode cX8_move 166 = .ok (.imul, 1) := by decide +kernel
theorem dX8_move_167 : decode cX8_move 167 = .ok (.iload 4, 2) := by decide +kernel
theorem dX8_move_169 : decode cX8_move 169 = .ok (.iadd, 1) := by decide +kernel
theorem dX8_move_170 : decode cX8_move 170 = .ok (.iload 6, 2) := by decide +kernel
theorem dX8_move_172 : decode cX8_move 172 = .ok (.iadd, 1) := by decide +kernel
theorem dX8_move_173 : decode cX8_move 173 = .ok (.aload_n 0, 1) := by decide +kernel
theorem dX8_move_174 : decode cX8_move 174 = .ok (.getfield 55, 3) := by decide +kernel
theorem dX8_move_177 : decode cX8_move 177 = .ok (.iload 6, 2) := by decide +kernel
theorem dX8_move_179 : decode cX8_move 179 = .ok (.iaload, 1) := by decide +kernel
theorem dX8_move_180 : decode cX8_move 180 = .ok (.iastore, 1) := by decide +kernel
theorem dX8_move_181 : decode cX8_move 181 = .ok (.iinc 6 1, 3) := by decide +kernel
theorem dX8_move_184 : decode cX8_move 184 = .ok (.goto (-32), 3) := by decide +kernel
theorem dX8_move_187 : decode cX8_move 187 = .ok (.iload 5, 2) := by decide +kernel
theorem dX8_move_189 : decode cX8_move 189 = .ok (.ireturn, 1) := by decide +kernel
theorem dX8_lacks_0 : decode cX8_lacks 0 = .ok (.iload_n 1, 1) := by decide +kernel
theorem dX8_lacks_1 : decode cX8_lacks 1 = .ok (.invokestatic 252, 3) := by decide +kernel
theorem dX8_lacks_4 : decode cX8_lacks 4 = .ok (.ifCond .ne 7, 3) := by decide +kernel
theorem dX8_lacks_7 : decode cX8_lacks 7 = .ok (.iconst 1, 1) := by decide +kernel
theorem dX8_lacks_8 : decode cX8_lacks 8 = .ok (.goto 17, 3) := by decide +kernel
theorem dX8_lacks_11 : decode cX8_lacks 11 = .ok (.aload_n 0, 1) := by decide +kernel
theorem dX8_lacks_12 : decode cX8_lacks 12 = .ok (.getfield 46, 3) := by decide +kernel
theorem dX8_lacks_15 : decode cX8_lacks 15 = .ok (.iload_n 1, 1) := by decide +kernel
theorem dX8_lacks_16 : decode cX8_lacks 16 = .ok (.iaload, 1) := by decide +kernel
theorem dX8_lacks_17 : decode cX8_lacks 17 = .ok (.ifCond .ne 7, 3) := by decide +kernel
theorem dX8_lacks_20 : decode cX8_lacks 20 = .ok (.iconst 2, 1) := by decide +kernel
theorem dX8_lacks_21 : decode cX8_lacks 21 = .ok (.goto 4, 3) := by decide +kernel
theorem dX8_lacks_24 : decode cX8_lacks 24 = .ok (.iconst 0, 1) := by decide +kernel
theorem dX8_lacks_25 : decode cX8_lacks 25 = .ok (.ireturn, 1) := by decide +kernel
theorem dX8_parches_0 : decode cX8_parches 0 = .ok (.aload_n 0, 1) := by decide +kernel
theorem dX8_parches_1 : decode cX8_parches 1 = .ok (.iload_n 1, 1) := by decide +kernel
theorem dX8_parches_2 : decode cX8_parches 2 = .ok (.invokevirtual 214, 3) := by decide +kernel
theorem dX8_parches_5 : decode cX8_parches 5 = .ok (.istore_n 2, 1) := by decide +kernel
theorem dX8_parches_6 : decode cX8_parches 6 = .ok (.iload_n 2, 1) := by decide +kernel
theorem dX8_parches_7 : decode cX8_parches 7 = .ok (.ifCond .eq 9, 3) := by decide +kernel
theorem dX8_parches_10 : decode cX8_parches 10 = .ok (.aload_n 0, 1) := by decide +kernel
theorem dX8_parches_11 : decode cX8_parches 11 = .ok (.iload_n 2, 1) := by decide +kernel
theorem dX8_parches_12 : decode cX8_parches 12 = .ok (.invokevirtual 63, 3) := by decide +kernel
theorem dX8_parches_15 : decode cX8_parches 15 = .ok (.ireturn, 1) := by decide +kernel
theorem dX8_parches_16 : decode cX8_parches 16 = .ok (.iconst 0, 1) := by decide +kernel
theorem dX8_parches_17 : decode cX8_parches 17 = .ok (.istore_n 3, 1) := by decide +kernel
theorem dX8_parches_18 : decode cX8_parches 18 = .ok (.iload_n 3, 1) := by decide +kernel
theorem dX8_parches_19 : decode cX8_parches 19 = .ok (.aload_n 0, 1) := by decide +kernel
theorem dX8_parches_20 : decode cX8_parches 20 = .ok (.getfield 49, 3) := by decide +kernel
theorem dX8_parches_23 : decode cX8_parches 23 = .ok (.iload_n 1, 1) := by decide +kernel
theorem dX8_parches_24 : decode cX8_parches 24 = .ok (.iaload, 1) := by decide +kernel
theorem dX8_parches_25 : decode cX8_parches 25 = .ok (.if_icmp .ge 54, 3) := by decide +kernel
theorem dX8_parches_28 : decode cX8_parches 28 = .ok (.aload_n 0, 1) := by decide +kernel
theorem dX8_parches_29 : decode cX8_parches 29 = .ok (.iload_n 3, 1) := by decide +kernel
theorem dX8_parches_30 : decode cX8_parches 30 = .ok (.invokevirtual 166, 3) := by decide +kernel
theorem dX8_parches_33 : decode cX8_parches 33 = .ok (.ifCond .eq 46, 3) := by decide +kernel
theorem dX8_parches_36 : decode cX8_parches 36 = .ok (.aload_n 0, 1) := by decide +kernel
theorem dX8_parches_37 : decode cX8_parches 37 = .ok (.getfield 52, 3) := by decide +kernel
theorem dX8_parches_40 : decode cX8_parches 40 = .ok (.bipush 24, 2) := by decide +kernel
theorem dX8_parches_42 : decode cX8_parches 42 = .ok (.iload_n 1, 1) := by decide +kernel
theorem dX8_parches_43 : decode cX8_parches 43 = .ok (.imul, 1) := by decide +kernel
theorem dX8_parches_44 : decode cX8_parches 44 = .ok (.iload_n 3, 1) := by decide +kernel
theorem dX8_parches_45 : decode cX8_parches 45 = .ok (.iadd, 1) := by decide +kernel
theorem dX8_parches_46 : decode cX8_parches 46 = .ok (.iaload, 1) := by decide +kernel
theorem dX8_parches_47 : decode cX8_parches 47 = .ok (.iconst 0, 1) := by decide +kernel
theorem dX8_parches_48 : decode cX8_parches 48 = .ok (.bipush 99, 2) := by decide +kernel
theorem dX8_parches_50 : decode cX8_parches 50 = .ok (.invokestatic 59, 3) := by decide +kernel
theorem dX8_parches_53 : decode cX8_parches 53 = .ok (.ifCond .eq 26, 3) := by decide +kernel
theorem dX8_parches_56 : decode cX8_parches 56 = .ok (.aload_n 0, 1) := by decide +kernel
theorem dX8_parches_57 : decode cX8_parches 57 = .ok (.iload_n 3, 1) := by decide +kernel
theorem dX8_parches_58 : decode cX8_parches 58 = .ok (.iconst 4, 1) := by decide +kernel
theorem dX8_parches_59 : decode cX8_parches 59 = .ok (.aload_n 0, 1) := by decide +kernel
theorem dX8_parches_60 : decode cX8_parches 60 = .ok (.getfield 52, 3) := by decide +kernel
theorem dX8_parches_63 : decode cX8_parches 63 = .ok (.bipush 24, 2) := by decide +kernel
theorem dX8_parches_65 : decode cX8_parches 65 = .ok (.iload_n 1, 1) := by decide +kernel
theorem dX8_parches_66 : decode cX8_parches 66 = .ok (.imul, 1) := by decide +kernel
theorem dX8_parches_67 : decode cX8_parches 67 = .ok (.iload_n 3, 1) := by decide +kernel
theorem dX8_parches_68 : decode cX8_parches 68 = .ok (.iadd, 1) := by decide +kernel
theorem dX8_parches_69 : decode cX8_parches 69 = .ok (.iaload, 1) := by decide +kernel
theorem dX8_parches_70 : decode cX8_parches 70 = .ok (.invokevirtual 149, 3) := by decide +kernel
theorem dX8_parches_73 : decode cX8_parches 73 = .ok (.iinc 3 1, 3) := by decide +kernel
theorem dX8_parches_76 : decode cX8_parches 76 = .ok (.goto (-58), 3) := by decide +kernel
theorem dX8_parches_79 : decode cX8_parches 79 = .ok (.iload_n 3, 1) := by decide +kernel
theorem dX8_parches_80 : decode cX8_parches 80 = .ok (.ireturn, 1) := by decide +kernel
theorem dX8_judge_0 : decode cX8_judge 0 = .ok (.aload_n 0, 1) := by decide +kernel
theorem dX8_judge_1 : decode cX8_judge 1 = .ok (.iload_n 1, 1) := by decide +kernel
theorem dX8_judge_2 : decode cX8_judge 2 = .ok (.invokevirtual 214, 3) := by decide +kernel
theorem dX8_judge_5 : decode cX8_judge 5 = .ok (.istore_n 2, 1) := by decide +kernel
theorem dX8_judge_6 : decode cX8_judge 6 = .ok (.iload_n 2, 1) := by decide +kernel
theorem dX8_judge_7 : decode cX8_judge 7 = .ok (.ifCond .eq 9, 3) := by decide +kernel
theorem dX8_judge_10 : decode cX8_judge 10 = .ok (.aload_n 0, 1) := by decide +kernel
theorem dX8_judge_11 : decode cX8_judge 11 = .ok (.iload_n 2, 1) := by decide +kernel
theorem dX8_judge_12 : decode cX8_judge 12 = .ok (.invokevirtual 63, 3) := by decide +kernel
theorem dX8_judge_15 : decode cX8_judge 15 = .ok (.ireturn, 1) := by decide +kernel
theorem dX8_judge_16 : decode cX8_judge 16 = .ok (.iconst 0, 1) := by decide +kernel
theorem dX8_judge_17 : decode cX8_judge 17 = .ok (.istore_n 3, 1) := by decide +kernel
theorem dX8_judge_18 : decode cX8_judge 18 = .ok (.iload_n 3, 1) := by decide +kernel
theorem dX8_judge_19 : decode cX8_judge 19 = .ok (.aload_n 0, 1) := by decide +kernel
theorem dX8_judge_20 : decode cX8_judge 20 = .ok (.getfield 49, 3) := by decide +kernel
theorem dX8_judge_23 : decode cX8_judge 23 = .ok (.iload_n 1, 1) := by decide +kernel
theorem dX8_judge_24 : decode cX8_judge 24 = .ok (.iaload, 1) := by decide +kernel
theorem dX8_judge_25 : decode cX8_judge 25 = .ok (.if_icmp .ge 36, 3) := by decide +kernel
theorem dX8_judge_28 : decode cX8_judge 28 = .ok (.aload_n 0, 1) := by decide +kernel
theorem dX8_judge_29 : decode cX8_judge 29 = .ok (.iload_n 3, 1) := by decide +kernel
theorem dX8_judge_30 : decode cX8_judge 30 = .ok (.invokevirtual 166, 3) := by decide +kernel
theorem dX8_judge_33 : decode cX8_judge 33 = .ok (.ifCond .eq 28, 3) := by decide +kernel
theorem dX8_judge_36 : decode cX8_judge 36 = .ok (.aload_n 0, 1) := by decide +kernel
theorem dX8_judge_37 : decode cX8_judge 37 = .ok (.iload_n 3, 1) := by decide +kernel
theorem dX8_judge_38 : decode cX8_judge 38 = .ok (.invokevirtual 160, 3) := by decide +kernel
theorem dX8_judge_41 : decode cX8_judge 41 = .ok (.aload_n 0, 1) := by decide +kernel
theorem dX8_judge_42 : decode cX8_judge 42 = .ok (.getfield 52, 3) := by decide +kernel
theorem dX8_judge_45 : decode cX8_judge 45 = .ok (.bipush 24, 2) := by decide +kernel
theorem dX8_judge_47 : decode cX8_judge 47 = .ok (.iload_n 1, 1) := by decide +kernel
theorem dX8_judge_48 : decode cX8_judge 48 = .ok (.imul, 1) := by decide +kernel
theorem dX8_judge_49 : decode cX8_judge 49 = .ok (.iload_n 3, 1) := by decide +kernel
theorem dX8_judge_50 : decode cX8_judge 50 = .ok (.iadd, 1) := by decide +kernel
theorem dX8_judge_51 : decode cX8_judge 51 = .ok (.iaload, 1) := by decide +kernel
theorem dX8_judge_52 : decode cX8_judge 52 = .ok (.if_icmp .ne 9, 3) := by decide +kernel
theorem dX8_judge_55 : decode cX8_judge 55 = .ok (.iinc 3 1, 3) := by decide +kernel
theorem dX8_judge_58 : decode cX8_judge 58 = .ok (.goto (-40), 3) := by decide +kernel
theorem dX8_judge_61 : decode cX8_judge 61 = .ok (.iload_n 3, 1) := by decide +kernel
theorem dX8_judge_62 : decode cX8_judge 62 = .ok (.ireturn, 1) := by decide +kernel
theorem dX8_image_0 : decode cX8_image 0 = .ok (.aload_n 0, 1) := by decide +kernel
theorem dX8_image_1 : decode cX8_image 1 = .ok (.getfield 7, 3) := by decide +kernel
theorem dX8_image_4 : decode cX8_image 4 = .ok (.aload_n 0, 1) := by decide +kernel
theorem dX8_image_5 : decode cX8_image 5 = .ok (.getfield 13, 3) := by decide +kernel
theorem dX8_image_8 : decode cX8_image 8 = .ok (.invokestatic 255, 3) := by decide +kernel
theorem dX8_image_11 : decode cX8_image 11 = .ok (.aload_n 0, 1) := by decide +kernel
theorem dX8_image_12 : decode cX8_image 12 = .ok (.dup, 1) := by decide +kernel
theorem dX8_image_13 : decode cX8_image 13 = .ok (.getfield 259, 3) := by decide +kernel
theorem dX8_image_16 : decode cX8_image 16 = .ok (.iconst 1, 1) := by decide +kernel
theorem dX8_image_17 : decode cX8_image 17 = .ok (.iadd, 1) := by decide +kernel
theorem dX8_image_18 : decode cX8_image 18 = .ok (.putfield 259, 3) := by decide +kernel
theorem dX8_image_21 : decode cX8_image 21 = .ok (.aload_n 0, 1) := by decide +kernel
theorem dX8_image_22 : decode cX8_image 22 = .ok (.getfield 259, 3) := by decide +kernel
theorem dX8_image_25 : decode cX8_image 25 = .ok (.ireturn, 1) := by decide +kernel
theorem dX8_restore_0 : decode cX8_restore 0 = .ok (.aload_n 0, 1) := by decide +kernel
theorem dX8_restore_1 : decode cX8_restore 1 = .ok (.getfield 259, 3) := by decide +kernel
theorem dX8_restore_4 : decode cX8_restore 4 = .ok (.ifCond .ne 9, 3) := by decide +kernel
theorem dX8_restore_7 : decode cX8_restore 7 = .ok (.aload_n 0, 1) := by decide +kernel
theorem dX8_restore_8 : decode cX8_restore 8 = .ok (.iconst 2, 1) := by decide +kernel
theorem dX8_restore_9 : decode cX8_restore 9 = .ok (.invokevirtual 63, 3) := by decide +kernel
theorem dX8_restore_12 : decode cX8_restore 12 = .ok (.ireturn, 1) := by decide +kernel
theorem dX8_restore_13 : decode cX8_restore 13 = .ok (.aload_n 0, 1) := by decide +kernel
theorem dX8_restore_14 : decode cX8_restore 14 = .ok (.getfield 13, 3) := by decide +kernel
theorem dX8_restore_17 : decode cX8_restore 17 = .ok (.aload_n 0, 1) := by decide +kernel
theorem dX8_restore_18 : decode cX8_restore 18 = .ok (.getfield 7, 3) := by decide +kernel
theorem dX8_restore_21 : decode cX8_restore 21 = .ok (.invokestatic 255, 3) := by decide +kernel
theorem dX8_restore_24 : decode cX8_restore 24 = .ok (.aload_n 0, 1) := by decide +kernel
theorem dX8_restore_25 : decode cX8_restore 25 = .ok (.getfield 7, 3) := by decide +kernel
theorem dX8_restore_28 : decode cX8_restore 28 = .ok (.iconst 0, 1) := by decide +kernel
theorem dX8_restore_29 : decode cX8_restore 29 = .ok (.iaload, 1) := by decide +kernel
theorem dX8_restore_30 : decode cX8_restore 30 = .ok (.ireturn, 1) := by decide +kernel
theorem dX8_tell_0 : decode cX8_tell 0 = .ok (.aload_n 0, 1) := by decide +kernel
theorem dX8_tell_1 : decode cX8_tell 1 = .ok (.getfield 7, 3) := by decide +kernel
theorem dX8_tell_4 : decode cX8_tell 4 = .ok (.iconst 4, 1) := by decide +kernel
theorem dX8_tell_5 : decode cX8_tell 5 = .ok (.iaload, 1) := by decide +kernel
theorem dX8_tell_6 : decode cX8_tell 6 = .ok (.bipush 24, 2) := by decide +kernel
theorem dX8_tell_8 : decode cX8_tell 8 = .ok (.if_icmp .ne 9, 3) := by decide +kernel
theorem dX8_tell_11 : decode cX8_tell 11 = .ok (.aload_n 0, 1) := by decide +kernel
theorem dX8_tell_12 : decode cX8_tell 12 = .ok (.iconst 4, 1) := by decide +kernel
theorem dX8_tell_13 : decode cX8_tell 13 = .ok (.invokevirtual 63, 3) := by decide +kernel
theorem dX8_tell_16 : decode cX8_tell 16 = .ok (.ireturn, 1) := by decide +kernel
theorem dX8_tell_17 : decode cX8_tell 17 = .ok (.aload_n 0, 1) := by decide +kernel
theorem dX8_tell_18 : decode cX8_tell 18 = .ok (.getfield 7, 3) := by decide +kernel
theorem dX8_tell_21 : decode cX8_tell 21 = .ok (.sipush 370, 3) := by decide +kernel
theorem dX8_tell_24 : decode cX8_tell 24 = .ok (.aload_n 0, 1) := by decide +kernel
theorem dX8_tell_25 : decode cX8_tell 25 = .ok (.getfield 7, 3) := by decide +kernel
theorem dX8_tell_28 : decode cX8_tell 28 = .ok (.iconst 4, 1) := by decide +kernel
theorem dX8_tell_29 : decode cX8_tell 29 = .ok (.iaload, 1) := by decide +kernel
theorem dX8_tell_30 : decode cX8_tell 30 = .ok (.iadd, 1) := by decide +kernel
theorem dX8_tell_31 : decode cX8_tell 31 = .ok (.iload_n 1, 1) := by decide +kernel
theorem dX8_tell_32 : decode cX8_tell 32 = .ok (.iastore, 1) := by decide +kernel
theorem dX8_tell_33 : decode cX8_tell 33 = .ok (.aload_n 0, 1) := by decide +kernel
theorem dX8_tell_34 : decode cX8_tell 34 = .ok (.getfield 7, 3) := by decide +kernel
theorem dX8_tell_37 : decode cX8_tell 37 = .ok (.iconst 4, 1) := by decide +kernel
theorem dX8_tell_38 : decode cX8_tell 38 = .ok (.dup2, 1) := by decide +kernel
theorem dX8_tell_39 : decode cX8_tell 39 = .ok (.iaload, 1) := by decide +kernel
theorem dX8_tell_40 : decode cX8_tell 40 = .ok (.iconst 1, 1) := by decide +kernel
theorem dX8_tell_41 : decode cX8_tell 41 = .ok (.iadd, 1) := by decide +kernel
theorem dX8_tell_42 : decode cX8_tell 42 = .ok (.iastore, 1) := by decide +kernel
theorem dX8_tell_43 : decode cX8_tell 43 = .ok (.aload_n 0, 1) := by decide +kernel
theorem dX8_tell_44 : decode cX8_tell 44 = .ok (.getfield 7, 3) := by decide +kernel
theorem dX8_tell_47 : decode cX8_tell 47 = .ok (.iconst 4, 1) := by decide +kernel
theorem dX8_tell_48 : decode cX8_tell 48 = .ok (.iaload, 1) := by decide +kernel
theorem dX8_tell_49 : decode cX8_tell 49 = .ok (.ireturn, 1) := by decide +kernel
theorem dX8_check_0 : decode cX8_check 0 = .ok (.aload_n 0, 1) := by decide +kernel
theorem dX8_check_1 : decode cX8_check 1 = .ok (.getfield 7, 3) := by decide +kernel
theorem dX8_check_4 : decode cX8_check 4 = .ok (.iconst 4, 1) := by decide +kernel
theorem dX8_check_5 : decode cX8_check 5 = .ok (.iaload, 1) := by decide +kernel
theorem dX8_check_6 : decode cX8_check 6 = .ok (.istore_n 1, 1) := by decide +kernel
theorem dX8_check_7 : decode cX8_check 7 = .ok (.aload_n 0, 1) := by decide +kernel
theorem dX8_check_8 : decode cX8_check 8 = .ok (.getfield 7, 3) := by decide +kernel
theorem dX8_check_11 : decode cX8_check 11 = .ok (.iconst 4, 1) := by decide +kernel
theorem dX8_check_12 : decode cX8_check 12 = .ok (.iconst 0, 1) := by decide +kernel
theorem dX8_check_13 : decode cX8_check 13 = .ok (.iastore, 1) := by decide +kernel
theorem dX8_check_14 : decode cX8_check 14 = .ok (.iconst 0, 1) := by decide +kernel
theorem dX8_check_15 : decode cX8_check 15 = .ok (.istore_n 2, 1) := by decide +kernel
theorem dX8_check_16 : decode cX8_check 16 = .ok (.iload_n 2, 1) := by decide +kernel
theorem dX8_check_17 : decode cX8_check 17 = .ok (.iload_n 1, 1) := by decide +kernel
theorem dX8_check_18 : decode cX8_check 18 = .ok (.if_icmp .ge 47, 3) := by decide +kernel
theorem dX8_check_21 : decode cX8_check 21 = .ok (.aload_n 0, 1) := by decide +kernel
theorem dX8_check_22 : decode cX8_check 22 = .ok (.iload_n 2, 1) := by decide +kernel
theorem dX8_check_23 : decode cX8_check 23 = .ok (.invokevirtual 175, 3) := by decide +kernel
theorem dX8_check_26 : decode cX8_check 26 = .ok (.ifCond .eq 29, 3) := by decide +kernel
theorem dX8_check_29 : decode cX8_check 29 = .ok (.aload_n 0, 1) := by decide +kernel
theorem dX8_check_30 : decode cX8_check 30 = .ok (.getfield 7, 3) := by decide +kernel
theorem dX8_check_33 : decode cX8_check 33 = .ok (.sipush 370, 3) := by decide +kernel
theorem dX8_check_36 : decode cX8_check 36 = .ok (.iload_n 2, 1) := by decide +kernel
theorem dX8_check_37 : decode cX8_check 37 = .ok (.iadd, 1) := by decide +kernel
theorem dX8_check_38 : decode cX8_check 38 = .ok (.iaload, 1) := by decide +kernel
theorem dX8_check_39 : decode cX8_check 39 = .ok (.aload_n 0, 1) := by decide +kernel
theorem dX8_check_40 : decode cX8_check 40 = .ok (.getfield 7, 3) := by decide +kernel
theorem dX8_check_43 : decode cX8_check 43 = .ok (.bipush 52, 2) := by decide +kernel
theorem dX8_check_45 : decode cX8_check 45 = .ok (.iconst 2, 1) := by decide +kernel
theorem dX8_check_46 : decode cX8_check 46 = .ok (.iload_n 2, 1) := by decide +kernel
theorem dX8_check_47 : decode cX8_check 47 = .ok (.imul, 1) := by decide +kernel
theorem dX8_check_48 : decode cX8_check 48 = .ok (.iadd, 1) := by decide +kernel
theorem dX8_check_49 : decode cX8_check 49 = .ok (.iconst 1, 1) := by decide +kernel
theorem dX8_check_50 : decode cX8_check 50 = .ok (.iadd, 1) := by decide +kernel
theorem dX8_check_51 : decode cX8_check 51 = .ok (.iaload, 1) := by decide +kernel
theorem dX8_check_52 : decode cX8_check 52 = .ok (.if_icmp .eq 7, 3) := by decide +kernel
theorem dX8_check_55 : decode cX8_check 55 = .ok (.iconst 1, 1) := by decide +kernel
theorem dX8_check_56 : decode cX8_check 56 = .ok (.iload_n 2, 1) := by decide +kernel
theorem dX8_check_57 : decode cX8_check 57 = .ok (.iadd, 1) := by decide +kernel
theorem dX8_check_58 : decode cX8_check 58 = .ok (.ireturn, 1) := by decide +kernel
theorem dX8_check_59 : decode cX8_check 59 = .ok (.iinc 2 1, 3) := by decide +kernel
theorem dX8_check_62 : decode cX8_check 62 = .ok (.goto (-46), 3) := by decide +kernel
theorem dX8_check_65 : decode cX8_check 65 = .ok (.iconst 0, 1) := by decide +kernel
theorem dX8_check_66 : decode cX8_check 66 = .ok (.ireturn, 1) := by decide +kernel
theorem dX8_count_0 : decode cX8_count 0 = .ok (.iload_n 1, 1) := by decide +kernel
theorem dX8_count_1 : decode cX8_count 1 = .ok (.tableswitch 102 0 7 #[47, 54, 62, 69, 76, 83, 90, 95], 47) := by decide +kernel
theorem dX8_count_48 : decode cX8_count 48 = .ok (.aload_n 0, 1) := by decide +kernel
theorem dX8_count_49 : decode cX8_count 49 = .ok (.getfield 7, 3) := by decide +kernel
theorem dX8_count_52 : decode cX8_count 52 = .ok (.iconst 5, 1) := by decide +kernel
theorem dX8_count_53 : decode cX8_count 53 = .ok (.iaload, 1) := by decide +kernel
theorem dX8_count_54 : decode cX8_count 54 = .ok (.ireturn, 1) := by decide +kernel
theorem dX8_count_55 : decode cX8_count 55 = .ok (.aload_n 0, 1) := by decide +kernel
theorem dX8_count_56 : decode cX8_count 56 = .ok (.getfield 7, 3) := by decide +kernel
theorem dX8_count_59 : decode cX8_count 59 = .ok (.bipush 6, 2) := by decide +kernel
theorem dX8_count_61 : decode cX8_count 61 = .ok (.iaload, 1) := by decide +kernel
theorem dX8_count_62 : decode cX8_count 62 = .ok (.ireturn, 1) := by decide +kernel
theorem dX8_count_63 : decode cX8_count 63 = .ok (.aload_n 0, 1) := by decide +kernel
theorem dX8_count_64 : decode cX8_count 64 = .ok (.getfield 7, 3) := by decide +kernel
theorem dX8_count_67 : decode cX8_count 67 = .ok (.iconst 0, 1) := by decide +kernel
theorem dX8_count_68 : decode cX8_count 68 = .ok (.iaload, 1) := by decide +kernel
theorem dX8_count_69 : decode cX8_count 69 = .ok (.ireturn, 1) := by decide +kernel
theorem dX8_count_70 : decode cX8_count 70 = .ok (.aload_n 0, 1) := by decide +kernel
theorem dX8_count_71 : decode cX8_count 71 = .ok (.getfield 7, 3) := by decide +kernel
theorem dX8_count_74 : decode cX8_count 74 = .ok (.iconst 1, 1) := by decide +kernel
theorem dX8_count_75 : decode cX8_count 75 = .ok (.iaload, 1) := by decide +kernel
theorem dX8_count_76 : decode cX8_count 76 = .ok (.ireturn, 1) := by decide +kernel
theorem dX8_count_77 : decode cX8_count 77 = .ok (.aload_n 0, 1) := by decide +kernel
theorem dX8_count_78 : decode cX8_count 78 = .ok (.getfield 7, 3) := by decide +kernel
theorem dX8_count_81 : decode cX8_count 81 = .ok (.iconst 3, 1) := by decide +kernel
theorem dX8_count_82 : decode cX8_count 82 = .ok (.iaload, 1) := by decide +kernel
theorem dX8_count_83 : decode cX8_count 83 = .ok (.ireturn, 1) := by decide +kernel
theorem dX8_count_84 : decode cX8_count 84 = .ok (.aload_n 0, 1) := by decide +kernel
theorem dX8_count_85 : decode cX8_count 85 = .ok (.getfield 7, 3) := by decide +kernel
theorem dX8_count_88 : decode cX8_count 88 = .ok (.iconst 4, 1) := by decide +kernel
theorem dX8_count_89 : decode cX8_count 89 = .ok (.iaload, 1) := by decide +kernel
theorem dX8_count_90 : decode cX8_count 90 = .ok (.ireturn, 1) := by decide +kernel
theorem dX8_count_91 : decode cX8_count 91 = .ok (.aload_n 0, 1) := by decide +kernel
theorem dX8_count_92 : decode cX8_count 92 = .ok (.getfield 220, 3) := by decide +kernel
theorem dX8_count_95 : decode cX8_count 95 = .ok (.ireturn, 1) := by decide +kernel
theorem dX8_count_96 : decode cX8_count 96 = .ok (.aload_n 0, 1) := by decide +kernel
theorem dX8_count_97 : decode cX8_count 97 = .ok (.getfield 7, 3) := by decide +kernel
theorem dX8_count_100 : decode cX8_count 100 = .ok (.iconst 2, 1) := by decide +kernel
theorem dX8_count_101 : decode cX8_count 101 = .ok (.iaload, 1) := by decide +kernel
theorem dX8_count_102 : decode cX8_count 102 = .ok (.ireturn, 1) := by decide +kernel
theorem dX8_count_103 : decode cX8_count 103 = .ok (.aload_n 0, 1) := by decide +kernel
theorem dX8_count_104 : decode cX8_count 104 = .ok (.iconst 1, 1) := by decide +kernel
theorem dX8_count_105 : decode cX8_count 105 = .ok (.invokevirtual 63, 3) := by decide +kernel
theorem dX8_count_108 : decode cX8_count 108 = .ok (.ireturn, 1) := by decide +kernel
theorem dX8_told_0 : decode cX8_told 0 = .ok (.iload_n 1, 1) := by decide +kernel
theorem dX8_told_1 : decode cX8_told 1 = .ok (.iconst 1, 1) := by decide +kernel
theorem dX8_told_2 : decode cX8_told 2 = .ok (.bipush 6, 2) := by decide +kernel
theorem dX8_told_4 : decode cX8_told 4 = .ok (.invokestatic 59, 3) := by decide +kernel
theorem dX8_told_7 : decode cX8_told 7 = .ok (.ifCond .eq 12, 3) := by decide +kernel
theorem dX8_told_10 : decode cX8_told 10 = .ok (.aload_n 0, 1) := by decide +kernel
theorem dX8_told_11 : decode cX8_told 11 = .ok (.getfield 19, 3) := by decide +kernel
theorem dX8_told_14 : decode cX8_told 14 = .ok (.iload_n 1, 1) := by decide +kernel
theorem dX8_told_15 : decode cX8_told 15 = .ok (.iaload, 1) := by decide +kernel
theorem dX8_told_16 : decode cX8_told 16 = .ok (.goto 8, 3) := by decide +kernel
theorem dX8_told_19 : decode cX8_told 19 = .ok (.aload_n 0, 1) := by decide +kernel
theorem dX8_told_20 : decode cX8_told 20 = .ok (.iconst 1, 1) := by decide +kernel
theorem dX8_told_21 : decode cX8_told 21 = .ok (.invokevirtual 63, 3) := by decide +kernel
theorem dX8_told_24 : decode cX8_told 24 = .ok (.ireturn, 1) := by decide +kernel
end
section
theorem dJ6_bitCount_0f7a4_0 : decode cJ6_bitCount_0f7a4 0 = .ok (.iload_n 0, 1) := by decide +kernel
theorem dJ6_bitCount_0f7a4_1 : decode cJ6_bitCount_0f7a4 1 = .ok (.iload_n 0, 1) := by decide +kernel
theorem dJ6_bitCount_0f7a4_2 : decode cJ6_bitCount_0f7a4 2 = .ok (.iconst 1, 1) := by decide +kernel
theorem dJ6_bitCount_0f7a4_3 : decode cJ6_bitCount_0f7a4 3 = .ok (.iushr, 1) := by decide +kernel
theorem dJ6_bitCount_0f7a4_4 : decode cJ6_bitCount_0f7a4 4 = .ok (.ldc_w 265, 3) := by decide +kernel
theorem dJ6_bitCount_0f7a4_7 : decode cJ6_bitCount_0f7a4 7 = .ok (.iand, 1) := by decide +kernel
theorem dJ6_bitCount_0f7a4_8 : decode cJ6_bitCount_0f7a4 8 = .ok (.isub, 1) := by decide +kernel
theorem dJ6_bitCount_0f7a4_9 : decode cJ6_bitCount_0f7a4 9 = .ok (.istore_n 0, 1) := by decide +kernel
theorem dJ6_bitCount_0f7a4_10 : decode cJ6_bitCount_0f7a4 10 = .ok (.iload_n 0, 1) := by decide +kernel
theorem dJ6_bitCount_0f7a4_11 : decode cJ6_bitCount_0f7a4 11 = .ok (.ldc_w 266, 3) := by decide +kernel
theorem dJ6_bitCount_0f7a4_14 : decode cJ6_bitCount_0f7a4 14 = .ok (.iand, 1) := by decide +kernel
theorem dJ6_bitCount_0f7a4_15 : decode cJ6_bitCount_0f7a4 15 = .ok (.iload_n 0, 1) := by decide +kernel
theorem dJ6_bitCount_0f7a4_16 : decode cJ6_bitCount_0f7a4 16 = .ok (.iconst 2, 1) := by decide +kernel
theorem dJ6_bitCount_0f7a4_17 : decode cJ6_bitCount_0f7a4 17 = .ok (.iushr, 1) := by decide +kernel
theorem dJ6_bitCount_0f7a4_18 : decode cJ6_bitCount_0f7a4 18 = .ok (.ldc_w 266, 3) := by decide +kernel
theorem dJ6_bitCount_0f7a4_21 : decode cJ6_bitCount_0f7a4 21 = .ok (.iand, 1) := by decide +kernel
theorem dJ6_bitCount_0f7a4_22 : decode cJ6_bitCount_0f7a4 22 = .ok (.iadd, 1) := by decide +kernel
theorem dJ6_bitCount_0f7a4_23 : decode cJ6_bitCount_0f7a4 23 = .ok (.istore_n 0, 1) := by decide +kernel
theorem dJ6_bitCount_0f7a4_24 : decode cJ6_bitCount_0f7a4 24 = .ok (.iload_n 0, 1) := by decide +kernel
theorem dJ6_bitCount_0f7a4_25 : decode cJ6_bitCount_0f7a4 25 = .ok (.iload_n 0, 1) := by decide +kernel
theorem dJ6_bitCount_0f7a4_26 : decode cJ6_bitCount_0f7a4 26 = .ok (.iconst 4, 1) := by decide +kernel
theorem dJ6_bitCount_0f7a4_27 : decode cJ6_bitCount_0f7a4 27 = .ok (.iushr, 1) := by decide +kernel
theorem dJ6_bitCount_0f7a4_28 : decode cJ6_bitCount_0f7a4 28 = .ok (.iadd, 1) := by decide +kernel
theorem dJ6_bitCount_0f7a4_29 : decode cJ6_bitCount_0f7a4 29 = .ok (.ldc_w 267, 3) := by decide +kernel
theorem dJ6_bitCount_0f7a4_32 : decode cJ6_bitCount_0f7a4 32 = .ok (.iand, 1) := by decide +kernel
theorem dJ6_bitCount_0f7a4_33 : decode cJ6_bitCount_0f7a4 33 = .ok (.istore_n 0, 1) := by decide +kernel
theorem dJ6_bitCount_0f7a4_34 : decode cJ6_bitCount_0f7a4 34 = .ok (.iload_n 0, 1) := by decide +kernel
theorem dJ6_bitCount_0f7a4_35 : decode cJ6_bitCount_0f7a4 35 = .ok (.iload_n 0, 1) := by decide +kernel
theorem dJ6_bitCount_0f7a4_36 : decode cJ6_bitCount_0f7a4 36 = .ok (.bipush 8, 2) := by decide +kernel
theorem dJ6_bitCount_0f7a4_38 : decode cJ6_bitCount_0f7a4 38 = .ok (.iushr, 1) := by decide +kernel
theorem dJ6_bitCount_0f7a4_39 : decode cJ6_bitCount_0f7a4 39 = .ok (.iadd, 1) := by decide +kernel
theorem dJ6_bitCount_0f7a4_40 : decode cJ6_bitCount_0f7a4 40 = .ok (.istore_n 0, 1) := by decide +kernel
theorem dJ6_bitCount_0f7a4_41 : decode cJ6_bitCount_0f7a4 41 = .ok (.iload_n 0, 1) := by decide +kernel
theorem dJ6_bitCount_0f7a4_42 : decode cJ6_bitCount_0f7a4 42 = .ok (.iload_n 0, 1) := by decide +kernel
theorem dJ6_bitCount_0f7a4_43 : decode cJ6_bitCount_0f7a4 43 = .ok (.bipush 16, 2) := by decide +kernel
theorem dJ6_bitCount_0f7a4_45 : decode cJ6_bitCount_0f7a4 45 = .ok (.iushr, 1) := by decide +kernel
theorem dJ6_bitCount_0f7a4_46 : decode cJ6_bitCount_0f7a4 46 = .ok (.iadd, 1) := by decide +kernel
theorem dJ6_bitCount_0f7a4_47 : decode cJ6_bitCount_0f7a4 47 = .ok (.istore_n 0, 1) := by decide +kernel
theorem dJ6_bitCount_0f7a4_48 : decode cJ6_bitCount_0f7a4 48 = .ok (.iload_n 0, 1) := by decide +kernel
theorem dJ6_bitCount_0f7a4_49 : decode cJ6_bitCount_0f7a4 49 = .ok (.bipush 63, 2) := by decide +kernel
theorem dJ6_bitCount_0f7a4_51 : decode cJ6_bitCount_0f7a4 51 = .ok (.iand, 1) := by decide +kernel
theorem dJ6_bitCount_0f7a4_52 : decode cJ6_bitCount_0f7a4 52 = .ok (.ireturn, 1) := by decide +kernel
theorem dJ9_max_7cf53_0 : decode cJ9_max_7cf53 0 = .ok (.iload_n 0, 1) := by decide +kernel
theorem dJ9_max_7cf53_1 : decode cJ9_max_7cf53 1 = .ok (.iload_n 1, 1) := by decide +kernel
theorem dJ9_max_7cf53_2 : decode cJ9_max_7cf53 2 = .ok (.if_icmp .lt 7, 3) := by decide +kernel
theorem dJ9_max_7cf53_5 : decode cJ9_max_7cf53 5 = .ok (.iload_n 0, 1) := by decide +kernel
theorem dJ9_max_7cf53_6 : decode cJ9_max_7cf53 6 = .ok (.goto 4, 3) := by decide +kernel
theorem dJ9_max_7cf53_9 : decode cJ9_max_7cf53 9 = .ok (.iload_n 1, 1) := by decide +kernel
theorem dJ9_max_7cf53_10 : decode cJ9_max_7cf53 10 = .ok (.ireturn, 1) := by decide +kernel
theorem dJ9_min_7cf53_0 : decode cJ9_min_7cf53 0 = .ok (.iload_n 0, 1) := by decide +kernel
theorem dJ9_min_7cf53_1 : decode cJ9_min_7cf53 1 = .ok (.iload_n 1, 1) := by decide +kernel
theorem dJ9_min_7cf53_2 : decode cJ9_min_7cf53 2 = .ok (.if_icmp .gt 7, 3) := by decide +kernel
theorem dJ9_min_7cf53_5 : decode cJ9_min_7cf53 5 = .ok (.iload_n 0, 1) := by decide +kernel
theorem dJ9_min_7cf53_6 : decode cJ9_min_7cf53 6 = .ok (.goto 4, 3) := by decide +kernel
theorem dJ9_min_7cf53_9 : decode cJ9_min_7cf53 9 = .ok (.iload_n 1, 1) := by decide +kernel
theorem dJ9_min_7cf53_10 : decode cJ9_min_7cf53 10 = .ok (.ireturn, 1) := by decide +kernel
theorem dJ0_length_8abf5_0 : decode cJ0_length_8abf5 0 = .ok (.aload_n 0, 1) := by decide +kernel
theorem dJ0_length_8abf5_1 : decode cJ0_length_8abf5 1 = .ok (.getfield 9, 3) := by decide +kernel
theorem dJ0_length_8abf5_4 : decode cJ0_length_8abf5 4 = .ok (.arraylength, 1) := by decide +kernel
theorem dJ0_length_8abf5_5 : decode cJ0_length_8abf5 5 = .ok (.aload_n 0, 1) := by decide +kernel
theorem dJ0_length_8abf5_6 : decode cJ0_length_8abf5 6 = .ok (.invokevirtual 335, 3) := by decide +kernel
theorem dJ0_length_8abf5_9 : decode cJ0_length_8abf5 9 = .ok (.ishr, 1) := by decide +kernel
theorem dJ0_length_8abf5_10 : decode cJ0_length_8abf5 10 = .ok (.ireturn, 1) := by decide +kernel
theorem dJ0_indexOf_0f7a4_0 : decode cJ0_indexOf_0f7a4 0 = .ok (.aload_n 0, 1) := by decide +kernel
theorem dJ0_indexOf_0f7a4_1 : decode cJ0_indexOf_0f7a4 1 = .ok (.iload_n 1, 1) := by decide +kernel
theorem dJ0_indexOf_0f7a4_2 : decode cJ0_indexOf_0f7a4 2 = .ok (.iconst 0, 1) := by decide +kernel
theorem dJ0_indexOf_0f7a4_3 : decode cJ0_indexOf_0f7a4 3 = .ok (.invokevirtual 633, 3) := by decide +kernel
theorem dJ0_indexOf_0f7a4_6 : decode cJ0_indexOf_0f7a4 6 = .ok (.ireturn, 1) := by decide +kernel
theorem dJ0_indexOf_7cf53_0 : decode cJ0_indexOf_7cf53 0 = .ok (.aload_n 0, 1) := by decide +kernel
theorem dJ0_indexOf_7cf53_1 : decode cJ0_indexOf_7cf53 1 = .ok (.invokevirtual 492, 3) := by decide +kernel
theorem dJ0_indexOf_7cf53_4 : decode cJ0_indexOf_7cf53 4 = .ok (.ifCond .eq 19, 3) := by decide +kernel
theorem dJ0_indexOf_7cf53_7 : decode cJ0_indexOf_7cf53 7 = .ok (.aload_n 0, 1) := by decide +kernel
theorem dJ0_indexOf_7cf53_8 : decode cJ0_indexOf_7cf53 8 = .ok (.getfield 9, 3) := by decide +kernel
theorem dJ0_indexOf_7cf53_11 : decode cJ0_indexOf_7cf53 11 = .ok (.iload_n 1, 1) := by decide +kernel
theorem dJ0_indexOf_7cf53_12 : decode cJ0_indexOf_7cf53 12 = .ok (.iload_n 2, 1) := by decide +kernel
theorem dJ0_indexOf_7cf53_13 : decode cJ0_indexOf_7cf53 13 = .ok (.aload_n 0, 1) := by decide +kernel
theorem dJ0_indexOf_7cf53_14 : decode cJ0_indexOf_7cf53 14 = .ok (.invokevirtual 505, 3) := by decide +kernel
theorem dJ0_indexOf_7cf53_17 : decode cJ0_indexOf_7cf53 17 = .ok (.invokestatic 637, 3) := by decide +kernel
theorem dJ0_indexOf_7cf53_20 : decode cJ0_indexOf_7cf53 20 = .ok (.goto 16, 3) := by decide +kernel
theorem dJ0_indexOf_7cf53_23 : decode cJ0_indexOf_7cf53 23 = .ok (.aload_n 0, 1) := by decide +kernel
theorem dJ0_indexOf_7cf53_24 : decode cJ0_indexOf_7cf53 24 = .ok (.getfield 9, 3) := by decide +kernel
theorem dJ0_indexOf_7cf53_27 : decode cJ0_indexOf_7cf53 27 = .ok (.iload_n 1, 1) := by decide +kernel
theorem dJ0_indexOf_7cf53_28 : decode cJ0_indexOf_7cf53 28 = .ok (.iload_n 2, 1) := by decide +kernel
theorem dJ0_indexOf_7cf53_29 : decode cJ0_indexOf_7cf53 29 = .ok (.aload_n 0, 1) := by decide +kernel
theorem dJ0_indexOf_7cf53_30 : decode cJ0_indexOf_7cf53 30 = .ok (.invokevirtual 505, 3) := by decide +kernel
theorem dJ0_indexOf_7cf53_33 : decode cJ0_indexOf_7cf53 33 = .ok (.invokestatic 640, 3) := by decide +kernel
theorem dJ0_indexOf_7cf53_36 : decode cJ0_indexOf_7cf53 36 = .ok (.ireturn, 1) := by decide +kernel
theorem dJ0_coder_7d493_0 : decode cJ0_coder_7d493 0 = .ok (.getstatic 38, 3) := by decide +kernel
theorem dJ0_coder_7d493_3 : decode cJ0_coder_7d493 3 = .ok (.ifCond .eq 10, 3) := by decide +kernel
theorem dJ0_coder_7d493_6 : decode cJ0_coder_7d493 6 = .ok (.aload_n 0, 1) := by decide +kernel
theorem dJ0_coder_7d493_7 : decode cJ0_coder_7d493 7 = .ok (.getfield 15, 3) := by decide +kernel
theorem dJ0_coder_7d493_10 : decode cJ0_coder_7d493 10 = .ok (.goto 4, 3) := by decide +kernel
theorem dJ0_coder_7d493_13 : decode cJ0_coder_7d493 13 = .ok (.iconst 1, 1) := by decide +kernel
theorem dJ0_coder_7d493_14 : decode cJ0_coder_7d493 14 = .ok (.ireturn, 1) := by decide +kernel
theorem dJ0_isLatin1_aae02_0 : decode cJ0_isLatin1_aae02 0 = .ok (.getstatic 38, 3) := by decide +kernel
theorem dJ0_isLatin1_aae02_3 : decode cJ0_isLatin1_aae02 3 = .ok (.ifCond .eq 14, 3) := by decide +kernel
theorem dJ0_isLatin1_aae02_6 : decode cJ0_isLatin1_aae02 6 = .ok (.aload_n 0, 1) := by decide +kernel
theorem dJ0_isLatin1_aae02_7 : decode cJ0_isLatin1_aae02 7 = .ok (.getfield 15, 3) := by decide +kernel
theorem dJ0_isLatin1_aae02_10 : decode cJ0_isLatin1_aae02 10 = .ok (.ifCond .ne 7, 3) := by decide +kernel
theorem dJ0_isLatin1_aae02_13 : decode cJ0_isLatin1_aae02 13 = .ok (.iconst 1, 1) := by decide +kernel
theorem dJ0_isLatin1_aae02_14 : decode cJ0_isLatin1_aae02 14 = .ok (.goto 4, 3) := by decide +kernel
theorem dJ0_isLatin1_aae02_17 : decode cJ0_isLatin1_aae02 17 = .ok (.iconst 0, 1) := by decide +kernel
theorem dJ0_isLatin1_aae02_18 : decode cJ0_isLatin1_aae02 18 = .ok (.ireturn, 1) := by decide +kernel
theorem dJ0_checkBoundsBeginEnd_23922_0 : decode cJ0_checkBoundsBeginEnd_23922 0 = .ok (.iload_n 0, 1) := by decide +kernel
theorem dJ0_checkBoundsBeginEnd_23922_1 : decode cJ0_checkBoundsBeginEnd_23922 1 = .ok (.iload_n 1, 1) := by decide +kernel
theorem dJ0_checkBoundsBeginEnd_23922_2 : decode cJ0_checkBoundsBeginEnd_23922 2 = .ok (.iload_n 2, 1) := by decide +kernel
theorem dJ0_checkBoundsBeginEnd_23922_3 : decode cJ0_checkBoundsBeginEnd_23922 3 = .ok (.getstatic 1053, 3) := by decide +kernel
theorem dJ0_checkBoundsBeginEnd_23922_6 : decode cJ0_checkBoundsBeginEnd_23922 6 = .ok (.invokestatic 1062, 3) := by decide +kernel
theorem dJ0_checkBoundsBeginEnd_23922_9 : decode cJ0_checkBoundsBeginEnd_23922 9 = .ok (.pop, 1) := by decide +kernel
theorem dJ0_checkBoundsBeginEnd_23922_10 : decode cJ0_checkBoundsBeginEnd_23922 10 = .ok (.return_, 1) := by decide +kernel
theorem dJ1_canEncode_9a6ad_0 : decode cJ1_canEncode_9a6ad 0 = .ok (.iload_n 0, 1) := by decide +kernel
theorem dJ1_canEncode_9a6ad_1 : decode cJ1_canEncode_9a6ad 1 = .ok (.ifCond .lt 14, 3) := by decide +kernel
theorem dJ1_canEncode_9a6ad_4 : decode cJ1_canEncode_9a6ad 4 = .ok (.iload_n 0, 1) := by decide +kernel
theorem dJ1_canEncode_9a6ad_5 : decode cJ1_canEncode_9a6ad 5 = .ok (.sipush 255, 3) := by decide +kernel
theorem dJ1_canEncode_9a6ad_8 : decode cJ1_canEncode_9a6ad 8 = .ok (.if_icmp .gt 7, 3) := by decide +kernel
theorem dJ1_canEncode_9a6ad_11 : decode cJ1_canEncode_9a6ad 11 = .ok (.iconst 1, 1) := by decide +kernel
theorem dJ1_canEncode_9a6ad_12 : decode cJ1_canEncode_9a6ad 12 = .ok (.goto 4, 3) := by decide +kernel
theorem dJ1_canEncode_9a6ad_15 : decode cJ1_canEncode_9a6ad 15 = .ok (.iconst 0, 1) := by decide +kernel
theorem dJ1_canEncode_9a6ad_16 : decode cJ1_canEncode_9a6ad 16 = .ok (.ireturn, 1) := by decide +kernel
theorem dJ1_indexOf_4cfef_0 : decode cJ1_indexOf_4cfef 0 = .ok (.iload_n 1, 1) := by decide +kernel
theorem dJ1_indexOf_4cfef_1 : decode cJ1_indexOf_4cfef 1 = .ok (.invokestatic 88, 3) := by decide +kernel
theorem dJ1_indexOf_4cfef_4 : decode cJ1_indexOf_4cfef 4 = .ok (.ifCond .ne 5, 3) := by decide +kernel
theorem dJ1_indexOf_4cfef_7 : decode cJ1_indexOf_4cfef 7 = .ok (.iconst (-1), 1) := by decide +kernel
theorem dJ1_indexOf_4cfef_8 : decode cJ1_indexOf_4cfef 8 = .ok (.ireturn, 1) := by decide +kernel
theorem dJ1_indexOf_4cfef_9 : decode cJ1_indexOf_4cfef 9 = .ok (.iload_n 2, 1) := by decide +kernel
theorem dJ1_indexOf_4cfef_10 : decode cJ1_indexOf_4cfef 10 = .ok (.iconst 0, 1) := by decide +kernel
theorem dJ1_indexOf_4cfef_11 : decode cJ1_indexOf_4cfef 11 = .ok (.invokestatic 92, 3) := by decide +kernel
theorem dJ1_indexOf_4cfef_14 : decode cJ1_indexOf_4cfef 14 = .ok (.istore_n 2, 1) := by decide +kernel
theorem dJ1_indexOf_4cfef_15 : decode cJ1_indexOf_4cfef 15 = .ok (.iload_n 3, 1) := by decide +kernel
theorem dJ1_indexOf_4cfef_16 : decode cJ1_indexOf_4cfef 16 = .ok (.aload_n 0, 1) := by decide +kernel
theorem dJ1_indexOf_4cfef_17 : decode cJ1_indexOf_4cfef 17 = .ok (.arraylength, 1) := by decide +kernel
theorem dJ1_indexOf_4cfef_18 : decode cJ1_indexOf_4cfef 18 = .ok (.invokestatic 38, 3) := by decide +kernel
theorem dJ1_indexOf_4cfef_21 : decode cJ1_indexOf_4cfef 21 = .ok (.istore_n 3, 1) := by decide +kernel
theorem dJ1_indexOf_4cfef_22 : decode cJ1_indexOf_4cfef 22 = .ok (.iload_n 2, 1) := by decide +kernel
theorem dJ1_indexOf_4cfef_23 : decode cJ1_indexOf_4cfef 23 = .ok (.iload_n 3, 1) := by decide +kernel
theorem dJ1_indexOf_4cfef_24 : decode cJ1_indexOf_4cfef 24 = .ok (.if_icmp .lt 5, 3) := by decide +kernel
theorem dJ1_indexOf_4cfef_27 : decode cJ1_indexOf_4cfef 27 = .ok (.iconst (-1), 1) := by decide +kernel
theorem dJ1_indexOf_4cfef_28 : decode cJ1_indexOf_4cfef 28 = .ok (.ireturn, 1) := by decide +kernel
theorem dJ1_indexOf_4cfef_29 : decode cJ1_indexOf_4cfef 29 = .ok (.aload_n 0, 1) := by decide +kernel
theorem dJ1_indexOf_4cfef_30 : decode cJ1_indexOf_4cfef 30 = .ok (.iload_n 1, 1) := by decide +kernel
theorem dJ1_indexOf_4cfef_31 : decode cJ1_indexOf_4cfef 31 = .ok (.iload_n 2, 1) := by decide +kernel
theorem dJ1_indexOf_4cfef_32 : decode cJ1_indexOf_4cfef 32 = .ok (.iload_n 3, 1) := by decide +kernel
theorem dJ1_indexOf_4cfef_33 : decode cJ1_indexOf_4cfef 33 = .ok (.invokestatic 95, 3) := by decide +kernel
theorem dJ1_indexOf_4cfef_36 : decode cJ1_indexOf_4cfef 36 = .ok (.ireturn, 1) := by decide +kernel
theorem dJ1_indexOfChar_4cfef_0 : decode cJ1_indexOfChar_4cfef 0 = .ok (.iload_n 1, 1) := by decide +kernel
theorem dJ1_indexOfChar_4cfef_1 : decode cJ1_indexOfChar_4cfef 1 = .ok (.i2b, 1) := by decide +kernel
theorem dJ1_indexOfChar_4cfef_2 : decode cJ1_indexOfChar_4cfef 2 = .ok (.istore 4, 2) := by decide +kernel
theorem dJ1_indexOfChar_4cfef_4 : decode cJ1_indexOfChar_4cfef 4 = .ok (.iload_n 2, 1) := by decide +kernel
theorem dJ1_indexOfChar_4cfef_5 : decode cJ1_indexOfChar_4cfef 5 = .ok (.istore 5, 2) := by decide +kernel
theorem dJ1_indexOfChar_4cfef_7 : decode cJ1_indexOfChar_4cfef 7 = .ok (.iload 5, 2) := by decide +kernel
theorem dJ1_indexOfChar_4cfef_9 : decode cJ1_indexOfChar_4cfef 9 = .ok (.iload_n 3, 1) := by decide +kernel
theorem dJ1_indexOfChar_4cfef_10 : decode cJ1_indexOfChar_4cfef 10 = .ok (.if_icmp .ge 21, 3) := by decide +kernel
theorem dJ1_indexOfChar_4cfef_13 : decode cJ1_indexOfChar_4cfef 13 = .ok (.aload_n 0, 1) := by decide +kernel
theorem dJ1_indexOfChar_4cfef_14 : decode cJ1_indexOfChar_4cfef 14 = .ok (.iload 5, 2) := by decide +kernel
theorem dJ1_indexOfChar_4cfef_16 : decode cJ1_indexOfChar_4cfef 16 = .ok (.baload, 1) := by decide +kernel
theorem dJ1_indexOfChar_4cfef_17 : decode cJ1_indexOfChar_4cfef 17 = .ok (.iload 4, 2) := by decide +kernel
theorem dJ1_indexOfChar_4cfef_19 : decode cJ1_indexOfChar_4cfef 19 = .ok (.if_icmp .ne 6, 3) := by decide +kernel
theorem dJ1_indexOfChar_4cfef_22 : decode cJ1_indexOfChar_4cfef 22 = .ok (.iload 5, 2) := by decide +kernel
theorem dJ1_indexOfChar_4cfef_24 : decode cJ1_indexOfChar_4cfef 24 = .ok (.ireturn, 1) := by decide +kernel
theorem dJ1_indexOfChar_4cfef_25 : decode cJ1_indexOfChar_4cfef 25 = .ok (.iinc 5 1, 3) := by decide +kernel
theorem dJ1_indexOfChar_4cfef_28 : decode cJ1_indexOfChar_4cfef 28 = .ok (.goto (-21), 3) := by decide +kernel
theorem dJ1_indexOfChar_4cfef_31 : decode cJ1_indexOfChar_4cfef 31 = .ok (.iconst (-1), 1) := by decide +kernel
theorem dJ1_indexOfChar_4cfef_32 : decode cJ1_indexOfChar_4cfef 32 = .ok (.ireturn, 1) := by decide +kernel
theorem dL_law_0 : decode cL_law 0 = .ok (.new 7, 3) := by decide +kernel
theorem dL_law_3 : decode cL_law 3 = .ok (.dup, 1) := by decide +kernel
theorem dL_law_4 : decode cL_law 4 = .ok (.invokespecial 9, 3) := by decide +kernel
theorem dL_law_7 : decode cL_law 7 = .ok (.astore_n 1, 1) := by decide +kernel
theorem dL_law_8 : decode cL_law 8 = .ok (.new 10, 3) := by decide +kernel
theorem dL_law_11 : decode cL_law 11 = .ok (.dup, 1) := by decide +kernel
theorem dL_law_12 : decode cL_law 12 = .ok (.invokespecial 12, 3) := by decide +kernel
theorem dL_law_15 : decode cL_law 15 = .ok (.astore_n 2, 1) := by decide +kernel
theorem dL_law_16 : decode cL_law 16 = .ok (.iconst 0, 1) := by decide +kernel
theorem dL_law_17 : decode cL_law 17 = .ok (.istore_n 3, 1) := by decide +kernel
theorem dL_law_18 : decode cL_law 18 = .ok (.iload_n 3, 1) := by decide +kernel
theorem dL_law_19 : decode cL_law 19 = .ok (.aload_n 0, 1) := by decide +kernel
theorem dL_law_20 : decode cL_law 20 = .ok (.arraylength, 1) := by decide +kernel
theorem dL_law_21 : decode cL_law 21 = .ok (.bipush 6, 2) := by decide +kernel
theorem dL_law_23 : decode cL_law 23 = .ok (.isub, 1) := by decide +kernel
theorem dL_law_24 : decode cL_law 24 = .ok (.if_icmp .gt 1403, 3) := by decide +kernel
theorem dL_law_27 : decode cL_law 27 = .ok (.aload_n 0, 1) := by decide +kernel
theorem dL_law_28 : decode cL_law 28 = .ok (.iload_n 3, 1) := by decide +kernel
theorem dL_law_29 : decode cL_law 29 = .ok (.iaload, 1) := by decide +kernel
theorem dL_law_30 : decode cL_law 30 = .ok (.bipush 63, 2) := by decide +kernel
theorem dL_law_32 : decode cL_law 32 = .ok (.iand, 1) := by decide +kernel
theorem dL_law_33 : decode cL_law 33 = .ok (.tableswitch 1388 0 38 #[171, 214, 247, 280, 313, 346, 379, 402, 435, 468, 501, 544, 607, 630, 653, 706, 729, 752, 775, 798, 831, 864, 897, 930, 963, 996, 1019, 1062, 1085, 1128, 1171, 1234, 1257, 1280, 1293, 1306, 1329, 1342, 1365], 171) := by decide +kernel
theorem dL_law_204 : decode cL_law 204 = .ok (.aload_n 1, 1) := by decide +kernel
theorem dL_law_205 : decode cL_law 205 = .ok (.aload_n 0, 1) := by decide +kernel
theorem dL_law_206 : decode cL_law 206 = .ok (.iload_n 3, 1) := by decide +kernel
theorem dL_law_207 : decode cL_law 207 = .ok (.iconst 1, 1) := by decide +kernel
theorem dL_law_208 : decode cL_law 208 = .ok (.iadd, 1) := by decide +kernel
theorem dL_law_209 : decode cL_law 209 = .ok (.iaload, 1) := by decide +kernel
theorem dL_law_210 : decode cL_law 210 = .ok (.aload_n 0, 1) := by decide +kernel
theorem dL_law_211 : decode cL_law 211 = .ok (.iload_n 3, 1) := by decide +kernel
theorem dL_law_212 : decode cL_law 212 = .ok (.iconst 2, 1) := by decide +kernel
theorem dL_law_213 : decode cL_law 213 = .ok (.iadd, 1) := by decide +kernel
theorem dL_law_214 : decode cL_law 214 = .ok (.iaload, 1) := by decide +kernel
theorem dL_law_215 : decode cL_law 215 = .ok (.aload_n 0, 1) := by decide +kernel
theorem dL_law_216 : decode cL_law 216 = .ok (.iload_n 3, 1) := by decide +kernel
theorem dL_law_217 : decode cL_law 217 = .ok (.iconst 3, 1) := by decide +kernel
theorem dL_law_218 : decode cL_law 218 = .ok (.iadd, 1) := by decide +kernel
theorem dL_law_219 : decode cL_law 219 = .ok (.iaload, 1) := by decide +kernel
theorem dL_law_220 : decode cL_law 220 = .ok (.invokevirtual 13, 3) := by decide +kernel
theorem dL_law_223 : decode cL_law 223 = .ok (.aload_n 2, 1) := by decide +kernel
theorem dL_law_224 : decode cL_law 224 = .ok (.aload_n 0, 1) := by decide +kernel
theorem dL_law_225 : decode cL_law 225 = .ok (.iload_n 3, 1) := by decide +kernel
theorem dL_law_226 : decode cL_law 226 = .ok (.iconst 1, 1) := by decide +kernel
theorem dL_law_227 : decode cL_law 227 = .ok (.iadd, 1) := by decide +kernel
theorem dL_law_228 : decode cL_law 228 = .ok (.iaload, 1) := by decide +kernel
theorem dL_law_229 : decode cL_law 229 = .ok (.aload_n 0, 1) := by decide +kernel
theorem dL_law_230 : decode cL_law 230 = .ok (.iload_n 3, 1) := by decide +kernel
theorem dL_law_231 : decode cL_law 231 = .ok (.iconst 2, 1) := by decide +kernel
theorem dL_law_232 : decode cL_law 232 = .ok (.iadd, 1) := by decide +kernel
theorem dL_law_233 : decode cL_law 233 = .ok (.iaload, 1) := by decide +kernel
theorem dL_law_234 : decode cL_law 234 = .ok (.aload_n 0, 1) := by decide +kernel
theorem dL_law_235 : decode cL_law 235 = .ok (.iload_n 3, 1) := by decide +kernel
theorem dL_law_236 : decode cL_law 236 = .ok (.iconst 3, 1) := by decide +kernel
theorem dL_law_237 : decode cL_law 237 = .ok (.iadd, 1) := by decide +kernel
theorem dL_law_238 : decode cL_law 238 = .ok (.iaload, 1) := by decide +kernel
theorem dL_law_239 : decode cL_law 239 = .ok (.invokevirtual 17, 3) := by decide +kernel
theorem dL_law_242 : decode cL_law 242 = .ok (.if_icmp .eq 1179, 3) := by decide +kernel
theorem dL_law_245 : decode cL_law 245 = .ok (.iconst 0, 1) := by decide +kernel
theorem dL_law_246 : decode cL_law 246 = .ok (.ireturn, 1) := by decide +kernel
theorem dL_law_247 : decode cL_law 247 = .ok (.aload_n 1, 1) := by decide +kernel
theorem dL_law_248 : decode cL_law 248 = .ok (.aload_n 0, 1) := by decide +kernel
theorem dL_law_249 : decode cL_law 249 = .ok (.iload_n 3, 1) := by decide +kernel
theorem dL_law_250 : decode cL_law 250 = .ok (.iconst 1, 1) := by decide +kernel
theorem dL_law_251 : decode cL_law 251 = .ok (.iadd, 1) := by decide +kernel
theorem dL_law_252 : decode cL_law 252 = .ok (.iaload, 1) := by decide +kernel
theorem dL_law_253 : decode cL_law 253 = .ok (.aload_n 0, 1) := by decide +kernel
theorem dL_law_254 : decode cL_law 254 = .ok (.iload_n 3, 1) := by decide +kernel
theorem dL_law_255 : decode cL_law 255 = .ok (.iconst 2, 1) := by decide +kernel
theorem dL_law_256 : decode cL_law 256 = .ok (.iadd, 1) := by decide +kernel
theorem dL_law_257 : decode cL_law 257 = .ok (.iaload, 1) := by decide +kernel
theorem dL_law_258 : decode cL_law 258 = .ok (.invokevirtual 18, 3) := by decide +kernel
theorem dL_law_261 : decode cL_law 261 = .ok (.aload_n 2, 1) := by decide +kernel
theorem dL_law_262 : decode cL_law 262 = .ok (.aload_n 0, 1) := by decide +kernel
theorem dL_law_263 : decode cL_law 263 = .ok (.iload_n 3, 1) := by decide +kernel
theorem dL_law_264 : decode cL_law 264 = .ok (.iconst 1, 1) := by decide +kernel
theorem dL_law_265 : decode cL_law 265 = .ok (.iadd, 1) := by decide +kernel
theorem dL_law_266 : decode cL_law 266 = .ok (.iaload, 1) := by decide +kernel
theorem dL_law_267 : decode cL_law 267 = .ok (.aload_n 0, 1) := by decide +kernel
theorem dL_law_268 : decode cL_law 268 = .ok (.iload_n 3, 1) := by decide +kernel
theorem dL_law_269 : decode cL_law 269 = .ok (.iconst 2, 1) := by decide +kernel
theorem dL_law_270 : decode cL_law 270 = .ok (.iadd, 1) := by decide +kernel
theorem dL_law_271 : decode cL_law 271 = .ok (.iaload, 1) := by decide +kernel
theorem dL_law_272 : decode cL_law 272 = .ok (.invokevirtual 22, 3) := by decide +kernel
theorem dL_law_275 : decode cL_law 275 = .ok (.if_icmp .eq 1146, 3) := by decide +kernel
theorem dL_law_278 : decode cL_law 278 = .ok (.iconst 0, 1) := by decide +kernel
theorem dL_law_279 : decode cL_law 279 = .ok (.ireturn, 1) := by decide +kernel
theorem dL_law_280 : decode cL_law 280 = .ok (.aload_n 1, 1) := by decide +kernel
theorem dL_law_281 : decode cL_law 281 = .ok (.aload_n 0, 1) := by decide +kernel
theorem dL_law_282 : decode cL_law 282 = .ok (.iload_n 3, 1) := by decide +kernel
theorem dL_law_283 : decode cL_law 283 = .ok (.iconst 1, 1) := by decide +kernel
theorem dL_law_284 : decode cL_law 284 = .ok (.iadd, 1) := by decide +kernel
theorem dL_law_285 : decode cL_law 285 = .ok (.iaload, 1) := by decide +kernel
theorem dL_law_286 : decode cL_law 286 = .ok (.aload_n 0, 1) := by decide +kernel
theorem dL_law_287 : decode cL_law 287 = .ok (.iload_n 3, 1) := by decide +kernel
theorem dL_law_288 : decode cL_law 288 = .ok (.iconst 2, 1) := by decide +kernel
theorem dL_law_289 : decode cL_law 289 = .ok (.iadd, 1) := by decide +kernel
theorem dL_law_290 : decode cL_law 290 = .ok (.iaload, 1) := by decide +kernel
theorem dL_law_291 : decode cL_law 291 = .ok (.invokevirtual 23, 3) := by decide +kernel
theorem dL_law_294 : decode cL_law 294 = .ok (.aload_n 2, 1) := by decide +kernel
theorem dL_law_295 : decode cL_law 295 = .ok (.aload_n 0, 1) := by decide +kernel
theorem dL_law_296 : decode cL_law 296 = .ok (.iload_n 3, 1) := by decide +kernel
theorem dL_law_297 : decode cL_law 297 = .ok (.iconst 1, 1) := by decide +kernel
theorem dL_law_298 : decode cL_law 298 = .ok (.iadd, 1) := by decide +kernel
theorem dL_law_299 : decode cL_law 299 = .ok (.iaload, 1) := by decide +kernel
theorem dL_law_300 : decode cL_law 300 = .ok (.aload_n 0, 1) := by decide +kernel
theorem dL_law_301 : decode cL_law 301 = .ok (.iload_n 3, 1) := by decide +kernel
theorem dL_law_302 : decode cL_law 302 = .ok (.iconst 2, 1) := by decide +kernel
theorem dL_law_303 : decode cL_law 303 = .ok (.iadd, 1) := by decide +kernel
theorem dL_law_304 : decode cL_law 304 = .ok (.iaload, 1) := by decide +kernel
theorem dL_law_305 : decode cL_law 305 = .ok (.invokevirtual 26, 3) := by decide +kernel
theorem dL_law_308 : decode cL_law 308 = .ok (.if_icmp .eq 1113, 3) := by decide +kernel
theorem dL_law_311 : decode cL_law 311 = .ok (.iconst 0, 1) := by decide +kernel
theorem dL_law_312 : decode cL_law 312 = .ok (.ireturn, 1) := by decide +kernel
theorem dL_law_313 : decode cL_law 313 = .ok (.aload_n 1, 1) := by decide +kernel
theorem dL_law_314 : decode cL_law 314 = .ok (.aload_n 0, 1) := by decide +kernel
theorem dL_law_315 : decode cL_law 315 = .ok (.iload_n 3, 1) := by decide +kernel
theorem dL_law_316 : decode cL_law 316 = .ok (.iconst 1, 1) := by decide +kernel
theorem dL_law_317 : decode cL_law 317 = .ok (.iadd, 1) := by decide +kernel
theorem dL_law_318 : decode cL_law 318 = .ok (.iaload, 1) := by decide +kernel
theorem dL_law_319 : decode cL_law 319 = .ok (.aload_n 0, 1) := by decide +kernel
theorem dL_law_320 : decode cL_law 320 = .ok (.iload_n 3, 1) := by decide +kernel
theorem dL_law_321 : decode cL_law 321 = .ok (.iconst 2, 1) := by decide +kernel
theorem dL_law_322 : decode cL_law 322 = .ok (.iadd, 1) := by decide +kernel
theorem dL_law_323 : decode cL_law 323 = .ok (.iaload, 1) := by decide +kernel
theorem dL_law_324 : decode cL_law 324 = .ok (.invokevirtual 27, 3) := by decide +kernel
theorem dL_law_327 : decode cL_law 327 = .ok (.aload_n 2, 1) := by decide +kernel
theorem dL_law_328 : decode cL_law 328 = .ok (.aload_n 0, 1) := by decide +kernel
theorem dL_law_329 : decode cL_law 329 = .ok (.iload_n 3, 1) := by decide +kernel
theorem dL_law_330 : decode cL_law 330 = .ok (.iconst 1, 1) := by decide +kernel
theorem dL_law_331 : decode cL_law 331 = .ok (.iadd, 1) := by decide +kernel
theorem dL_law_332 : decode cL_law 332 = .ok (.iaload, 1) := by decide +kernel
theorem dL_law_333 : decode cL_law 333 = .ok (.aload_n 0, 1) := by decide +kernel
theorem dL_law_334 : decode cL_law 334 = .ok (.iload_n 3, 1) := by decide +kernel
theorem dL_law_335 : decode cL_law 335 = .ok (.iconst 2, 1) := by decide +kernel
theorem dL_law_336 : decode cL_law 336 = .ok (.iadd, 1) := by decide +kernel
theorem dL_law_337 : decode cL_law 337 = .ok (.iaload, 1) := by decide +kernel
theorem dL_law_338 : decode cL_law 338 = .ok (.invokevirtual 30, 3) := by decide +kernel
theorem dL_law_341 : decode cL_law 341 = .ok (.if_icmp .eq 1080, 3) := by decide +kernel
theorem dL_law_344 : decode cL_law 344 = .ok (.iconst 0, 1) := by decide +kernel
theorem dL_law_345 : decode cL_law 345 = .ok (.ireturn, 1) := by decide +kernel
theorem dL_law_346 : decode cL_law 346 = .ok (.aload_n 1, 1) := by decide +kernel
theorem dL_law_347 : decode cL_law 347 = .ok (.aload_n 0, 1) := by decide +kernel
theorem dL_law_348 : decode cL_law 348 = .ok (.iload_n 3, 1) := by decide +kernel
theorem dL_law_349 : decode cL_law 349 = .ok (.iconst 1, 1) := by decide +kernel
theorem dL_law_350 : decode cL_law 350 = .ok (.iadd, 1) := by decide +kernel
theorem dL_law_351 : decode cL_law 351 = .ok (.iaload, 1) := by decide +kernel
theorem dL_law_352 : decode cL_law 352 = .ok (.aload_n 0, 1) := by decide +kernel
theorem dL_law_353 : decode cL_law 353 = .ok (.iload_n 3, 1) := by decide +kernel
theorem dL_law_354 : decode cL_law 354 = .ok (.iconst 2, 1) := by decide +kernel
theorem dL_law_355 : decode cL_law 355 = .ok (.iadd, 1) := by decide +kernel
theorem dL_law_356 : decode cL_law 356 = .ok (.iaload, 1) := by decide +kernel
theorem dL_law_357 : decode cL_law 357 = .ok (.invokevirtual 31, 3) := by decide +kernel
theorem dL_law_360 : decode cL_law 360 = .ok (.aload_n 2, 1) := by decide +kernel
theorem dL_law_361 : decode cL_law 361 = .ok (.aload_n 0, 1) := by decide +kernel
theorem dL_law_362 : decode cL_law 362 = .ok (.iload_n 3, 1) := by decide +kernel
theorem dL_law_363 : decode cL_law 363 = .ok (.iconst 1, 1) := by decide +kernel
theorem dL_law_364 : decode cL_law 364 = .ok (.iadd, 1) := by decide +kernel
theorem dL_law_365 : decode cL_law 365 = .ok (.iaload, 1) := by decide +kernel
theorem dL_law_366 : decode cL_law 366 = .ok (.aload_n 0, 1) := by decide +kernel
theorem dL_law_367 : decode cL_law 367 = .ok (.iload_n 3, 1) := by decide +kernel
theorem dL_law_368 : decode cL_law 368 = .ok (.iconst 2, 1) := by decide +kernel
theorem dL_law_369 : decode cL_law 369 = .ok (.iadd, 1) := by decide +kernel
theorem dL_law_370 : decode cL_law 370 = .ok (.iaload, 1) := by decide +kernel
theorem dL_law_371 : decode cL_law 371 = .ok (.invokevirtual 34, 3) := by decide +kernel
theorem dL_law_374 : decode cL_law 374 = .ok (.if_icmp .eq 1047, 3) := by decide +kernel
theorem dL_law_377 : decode cL_law 377 = .ok (.iconst 0, 1) := by decide +kernel
theorem dL_law_378 : decode cL_law 378 = .ok (.ireturn, 1) := by decide +kernel
theorem dL_law_379 : decode cL_law 379 = .ok (.aload_n 1, 1) := by decide +kernel
theorem dL_law_380 : decode cL_law 380 = .ok (.aload_n 0, 1) := by decide +kernel
theorem dL_law_381 : decode cL_law 381 = .ok (.iload_n 3, 1) := by decide +kernel
theorem dL_law_382 : decode cL_law 382 = .ok (.iconst 1, 1) := by decide +kernel
theorem dL_law_383 : decode cL_law 383 = .ok (.iadd, 1) := by decide +kernel
theorem dL_law_384 : decode cL_law 384 = .ok (.iaload, 1) := by decide +kernel
theorem dL_law_385 : decode cL_law 385 = .ok (.aload_n 0, 1) := by decide +kernel
theorem dL_law_386 : decode cL_law 386 = .ok (.iload_n 3, 1) := by decide +kernel
theorem dL_law_387 : decode cL_law 387 = .ok (.iconst 2, 1) := by decide +kernel
theorem dL_law_388 : decode cL_law 388 = .ok (.iadd, 1) := by decide +kernel
theorem dL_law_389 : decode cL_law 389 = .ok (.iaload, 1) := by decide +kernel
theorem dL_law_390 : decode cL_law 390 = .ok (.invokevirtual 35, 3) := by decide +kernel
theorem dL_law_393 : decode cL_law 393 = .ok (.aload_n 2, 1) := by decide +kernel
theorem dL_law_394 : decode cL_law 394 = .ok (.aload_n 0, 1) := by decide +kernel
theorem dL_law_395 : decode cL_law 395 = .ok (.iload_n 3, 1) := by decide +kernel
theorem dL_law_396 : decode cL_law 396 = .ok (.iconst 1, 1) := by decide +kernel
theorem dL_law_397 : decode cL_law 397 = .ok (.iadd, 1) := by decide +kernel
theorem dL_law_398 : decode cL_law 398 = .ok (.iaload, 1) := by decide +kernel
theorem dL_law_399 : decode cL_law 399 = .ok (.aload_n 0, 1) := by decide +kernel
theorem dL_law_400 : decode cL_law 400 = .ok (.iload_n 3, 1) := by decide +kernel
theorem dL_law_401 : decode cL_law 401 = .ok (.iconst 2, 1) := by decide +kernel
theorem dL_law_402 : decode cL_law 402 = .ok (.iadd, 1) := by decide +kernel
theorem dL_law_403 : decode cL_law 403 = .ok (.iaload, 1) := by decide +kernel
theorem dL_law_404 : decode cL_law 404 = .ok (.invokevirtual 38, 3) := by decide +kernel
theorem dL_law_407 : decode cL_law 407 = .ok (.if_icmp .eq 1014, 3) := by decide +kernel
theorem dL_law_410 : decode cL_law 410 = .ok (.iconst 0, 1) := by decide +kernel
theorem dL_law_411 : decode cL_law 411 = .ok (.ireturn, 1) := by decide +kernel
theorem dL_law_412 : decode cL_law 412 = .ok (.aload_n 1, 1) := by decide +kernel
theorem dL_law_413 : decode cL_law 413 = .ok (.aload_n 0, 1) := by decide +kernel
theorem dL_law_414 : decode cL_law 414 = .ok (.iload_n 3, 1) := by decide +kernel
theorem dL_law_415 : decode cL_law 415 = .ok (.iconst 1, 1) := by decide +kernel
theorem dL_law_416 : decode cL_law 416 = .ok (.iadd, 1) := by decide +kernel
theorem dL_law_417 : decode cL_law 417 = .ok (.iaload, 1) := by decide +kernel
theorem dL_law_418 : decode cL_law 418 = .ok (.invokevirtual 39, 3) := by decide +kernel
theorem dL_law_421 : decode cL_law 421 = .ok (.aload_n 2, 1) := by decide +kernel
theorem dL_law_422 : decode cL_law 422 = .ok (.aload_n 0, 1) := by decide +kernel
theorem dL_law_423 : decode cL_law 423 = .ok (.iload_n 3, 1) := by decide +kernel
theorem dL_law_424 : decode cL_law 424 = .ok (.iconst 1, 1) := by decide +kernel
theorem dL_law_425 : decode cL_law 425 = .ok (.iadd, 1) := by decide +kernel
theorem dL_law_426 : decode cL_law 426 = .ok (.iaload, 1) := by decide +kernel
theorem dL_law_427 : decode cL_law 427 = .ok (.invokevirtual 43, 3) := by decide +kernel
theorem dL_law_430 : decode cL_law 430 = .ok (.if_icmp .eq 991, 3) := by decide +kernel
theorem dL_law_433 : decode cL_law 433 = .ok (.iconst 0, 1) := by decide +kernel
theorem dL_law_434 : decode cL_law 434 = .ok (.ireturn, 1) := by decide +kernel
theorem dL_law_435 : decode cL_law 435 = .ok (.aload_n 1, 1) := by decide +kernel
theorem dL_law_436 : decode cL_law 436 = .ok (.aload_n 0, 1) := by decide +kernel
theorem dL_law_437 : decode cL_law 437 = .ok (.iload_n 3, 1) := by decide +kernel
theorem dL_law_438 : decode cL_law 438 = .ok (.iconst 1, 1) := by decide +kernel
theorem dL_law_439 : decode cL_law 439 = .ok (.iadd, 1) := by decide +kernel
theorem dL_law_440 : decode cL_law 440 = .ok (.iaload, 1) := by decide +kernel
theorem dL_law_441 : decode cL_law 441 = .ok (.aload_n 0, 1) := by decide +kernel
theorem dL_law_442 : decode cL_law 442 = .ok (.iload_n 3, 1) := by decide +kernel
theorem dL_law_443 : decode cL_law 443 = .ok (.iconst 2, 1) := by decide +kernel
theorem dL_law_444 : decode cL_law 444 = .ok (.iadd, 1) := by decide +kernel
theorem dL_law_445 : decode cL_law 445 = .ok (.iaload, 1) := by decide +kernel
theorem dL_law_446 : decode cL_law 446 = .ok (.invokevirtual 44, 3) := by decide +kernel
theorem dL_law_449 : decode cL_law 449 = .ok (.aload_n 2, 1) := by decide +kernel
theorem dL_law_450 : decode cL_law 450 = .ok (.aload_n 0, 1) := by decide +kernel
theorem dL_law_451 : decode cL_law 451 = .ok (.iload_n 3, 1) := by decide +kernel
theorem dL_law_452 : decode cL_law 452 = .ok (.iconst 1, 1) := by decide +kernel
theorem dL_law_453 : decode cL_law 453 = .ok (.iadd, 1) := by decide +kernel
theorem dL_law_454 : decode cL_law 454 = .ok (.iaload, 1) := by decide +kernel
theorem dL_law_455 : decode cL_law 455 = .ok (.aload_n 0, 1) := by decide +kernel
theorem dL_law_456 : decode cL_law 456 = .ok (.iload_n 3, 1) := by decide +kernel
theorem dL_law_457 : decode cL_law 457 = .ok (.iconst 2, 1) := by decide +kernel
theorem dL_law_458 : decode cL_law 458 = .ok (.iadd, 1) := by decide +kernel
theorem dL_law_459 : decode cL_law 459 = .ok (.iaload, 1) := by decide +kernel
theorem dL_law_460 : decode cL_law 460 = .ok (.invokevirtual 47, 3) := by decide +kernel
theorem dL_law_463 : decode cL_law 463 = .ok (.if_icmp .eq 958, 3) := by decide +kernel
theorem dL_law_466 : decode cL_law 466 = .ok (.iconst 0, 1) := by decide +kernel
theorem dL_law_467 : decode cL_law 467 = .ok (.ireturn, 1) := by decide +kernel
theorem dL_law_468 : decode cL_law 468 = .ok (.aload_n 1, 1) := by decide +kernel
theorem dL_law_469 : decode cL_law 469 = .ok (.aload_n 0, 1) := by decide +kernel
theorem dL_law_470 : decode cL_law 470 = .ok (.iload_n 3, 1) := by decide +kernel
theorem dL_law_471 : decode cL_law 471 = .ok (.iconst 1, 1) := by decide +kernel
theorem dL_law_472 : decode cL_law 472 = .ok (.iadd, 1) := by decide +kernel
theorem dL_law_473 : decode cL_law 473 = .ok (.iaload, 1) := by decide +kernel
theorem dL_law_474 : decode cL_law 474 = .ok (.aload_n 0, 1) := by decide +kernel
theorem dL_law_475 : decode cL_law 475 = .ok (.iload_n 3, 1) := by decide +kernel
theorem dL_law_476 : decode cL_law 476 = .ok (.iconst 2, 1) := by decide +kernel
theorem dL_law_477 : decode cL_law 477 = .ok (.iadd, 1) := by decide +kernel
theorem dL_law_478 : decode cL_law 478 = .ok (.iaload, 1) := by decide +kernel
theorem dL_law_479 : decode cL_law 479 = .ok (.invokevirtual 48, 3) := by decide +kernel
theorem dL_law_482 : decode cL_law 482 = .ok (.aload_n 2, 1) := by decide +kernel
theorem dL_law_483 : decode cL_law 483 = .ok (.aload_n 0, 1) := by decide +kernel
theorem dL_law_484 : decode cL_law 484 = .ok (.iload_n 3, 1) := by decide +kernel
theorem dL_law_485 : decode cL_law 485 = .ok (.iconst 1, 1) := by decide +kernel
theorem dL_law_486 : decode cL_law 486 = .ok (.iadd, 1) := by decide +kernel
theorem dL_law_487 : decode cL_law 487 = .ok (.iaload, 1) := by decide +kernel
theorem dL_law_488 : decode cL_law 488 = .ok (.aload_n 0, 1) := by decide +kernel
theorem dL_law_489 : decode cL_law 489 = .ok (.iload_n 3, 1) := by decide +kernel
theorem dL_law_490 : decode cL_law 490 = .ok (.iconst 2, 1) := by decide +kernel
theorem dL_law_491 : decode cL_law 491 = .ok (.iadd, 1) := by decide +kernel
theorem dL_law_492 : decode cL_law 492 = .ok (.iaload, 1) := by decide +kernel
theorem dL_law_493 : decode cL_law 493 = .ok (.invokevirtual 51, 3) := by decide +kernel
theorem dL_law_496 : decode cL_law 496 = .ok (.if_icmp .eq 925, 3) := by decide +kernel
theorem dL_law_499 : decode cL_law 499 = .ok (.iconst 0, 1) := by decide +kernel
theorem dL_law_500 : decode cL_law 500 = .ok (.ireturn, 1) := by decide +kernel
theorem dL_law_501 : decode cL_law 501 = .ok (.aload_n 1, 1) := by decide +kernel
theorem dL_law_502 : decode cL_law 502 = .ok (.aload_n 0, 1) := by decide +kernel
theorem dL_law_503 : decode cL_law 503 = .ok (.iload_n 3, 1) := by decide +kernel
theorem dL_law_504 : decode cL_law 504 = .ok (.iconst 1, 1) := by decide +kernel
theorem dL_law_505 : decode cL_law 505 = .ok (.iadd, 1) := by decide +kernel
theorem dL_law_506 : decode cL_law 506 = .ok (.iaload, 1) := by decide +kernel
theorem dL_law_507 : decode cL_law 507 = .ok (.aload_n 0, 1) := by decide +kernel
theorem dL_law_508 : decode cL_law 508 = .ok (.iload_n 3, 1) := by decide +kernel
theorem dL_law_509 : decode cL_law 509 = .ok (.iconst 2, 1) := by decide +kernel
theorem dL_law_510 : decode cL_law 510 = .ok (.iadd, 1) := by decide +kernel
theorem dL_law_511 : decode cL_law 511 = .ok (.iaload, 1) := by decide +kernel
theorem dL_law_512 : decode cL_law 512 = .ok (.invokevirtual 52, 3) := by decide +kernel
theorem dL_law_515 : decode cL_law 515 = .ok (.aload_n 2, 1) := by decide +kernel
theorem dL_law_516 : decode cL_law 516 = .ok (.aload_n 0, 1) := by decide +kernel
theorem dL_law_517 : decode cL_law 517 = .ok (.iload_n 3, 1) := by decide +kernel
theorem dL_law_518 : decode cL_law 518 = .ok (.iconst 1, 1) := by decide +kernel
theorem dL_law_519 : decode cL_law 519 = .ok (.iadd, 1) := by decide +kernel
theorem dL_law_520 : decode cL_law 520 = .ok (.iaload, 1) := by decide +kernel
theorem dL_law_521 : decode cL_law 521 = .ok (.aload_n 0, 1) := by decide +kernel
theorem dL_law_522 : decode cL_law 522 = .ok (.iload_n 3, 1) := by decide +kernel
theorem dL_law_523 : decode cL_law 523 = .ok (.iconst 2, 1) := by decide +kernel
theorem dL_law_524 : decode cL_law 524 = .ok (.iadd, 1) := by decide +kernel
theorem dL_law_525 : decode cL_law 525 = .ok (.iaload, 1) := by decide +kernel
theorem dL_law_526 : decode cL_law 526 = .ok (.invokevirtual 55, 3) := by decide +kernel
theorem dL_law_529 : decode cL_law 529 = .ok (.if_icmp .eq 892, 3) := by decide +kernel
theorem dL_law_532 : decode cL_law 532 = .ok (.iconst 0, 1) := by decide +kernel
theorem dL_law_533 : decode cL_law 533 = .ok (.ireturn, 1) := by decide +kernel
theorem dL_law_534 : decode cL_law 534 = .ok (.aload_n 1, 1) := by decide +kernel
theorem dL_law_535 : decode cL_law 535 = .ok (.aload_n 0, 1) := by decide +kernel
theorem dL_law_536 : decode cL_law 536 = .ok (.iload_n 3, 1) := by decide +kernel
theorem dL_law_537 : decode cL_law 537 = .ok (.iconst 1, 1) := by decide +kernel
theorem dL_law_538 : decode cL_law 538 = .ok (.iadd, 1) := by decide +kernel
theorem dL_law_539 : decode cL_law 539 = .ok (.iaload, 1) := by decide +kernel
theorem dL_law_540 : decode cL_law 540 = .ok (.aload_n 0, 1) := by decide +kernel
theorem dL_law_541 : decode cL_law 541 = .ok (.iload_n 3, 1) := by decide +kernel
theorem dL_law_542 : decode cL_law 542 = .ok (.iconst 2, 1) := by decide +kernel
theorem dL_law_543 : decode cL_law 543 = .ok (.iadd, 1) := by decide +kernel
theorem dL_law_544 : decode cL_law 544 = .ok (.iaload, 1) := by decide +kernel
theorem dL_law_545 : decode cL_law 545 = .ok (.aload_n 0, 1) := by decide +kernel
theorem dL_law_546 : decode cL_law 546 = .ok (.iload_n 3, 1) := by decide +kernel
theorem dL_law_547 : decode cL_law 547 = .ok (.iconst 3, 1) := by decide +kernel
theorem dL_law_548 : decode cL_law 548 = .ok (.iadd, 1) := by decide +kernel
theorem dL_law_549 : decode cL_law 549 = .ok (.iaload, 1) := by decide +kernel
theorem dL_law_550 : decode cL_law 550 = .ok (.invokevirtual 56, 3) := by decide +kernel
theorem dL_law_553 : decode cL_law 553 = .ok (.aload_n 2, 1) := by decide +kernel
theorem dL_law_554 : decode cL_law 554 = .ok (.aload_n 0, 1) := by decide +kernel
theorem dL_law_555 : decode cL_law 555 = .ok (.iload_n 3, 1) := by decide +kernel
theorem dL_law_556 : decode cL_law 556 = .ok (.iconst 1, 1) := by decide +kernel
theorem dL_law_557 : decode cL_law 557 = .ok (.iadd, 1) := by decide +kernel
theorem dL_law_558 : decode cL_law 558 = .ok (.iaload, 1) := by decide +kernel
theorem dL_law_559 : decode cL_law 559 = .ok (.aload_n 0, 1) := by decide +kernel
theorem dL_law_560 : decode cL_law 560 = .ok (.iload_n 3, 1) := by decide +kernel
theorem dL_law_561 : decode cL_law 561 = .ok (.iconst 2, 1) := by decide +kernel
theorem dL_law_562 : decode cL_law 562 = .ok (.iadd, 1) := by decide +kernel
theorem dL_law_563 : decode cL_law 563 = .ok (.iaload, 1) := by decide +kernel
theorem dL_law_564 : decode cL_law 564 = .ok (.aload_n 0, 1) := by decide +kernel
theorem dL_law_565 : decode cL_law 565 = .ok (.iload_n 3, 1) := by decide +kernel
theorem dL_law_566 : decode cL_law 566 = .ok (.iconst 3, 1) := by decide +kernel
theorem dL_law_567 : decode cL_law 567 = .ok (.iadd, 1) := by decide +kernel
theorem dL_law_568 : decode cL_law 568 = .ok (.iaload, 1) := by decide +kernel
theorem dL_law_569 : decode cL_law 569 = .ok (.invokevirtual 59, 3) := by decide +kernel
theorem dL_law_572 : decode cL_law 572 = .ok (.if_icmp .eq 849, 3) := by decide +kernel
theorem dL_law_575 : decode cL_law 575 = .ok (.iconst 0, 1) := by decide +kernel
theorem dL_law_576 : decode cL_law 576 = .ok (.ireturn, 1) := by decide +kernel
theorem dL_law_577 : decode cL_law 577 = .ok (.aload_n 1, 1) := by decide +kernel
theorem dL_law_578 : decode cL_law 578 = .ok (.aload_n 0, 1) := by decide +kernel
theorem dL_law_579 : decode cL_law 579 = .ok (.iload_n 3, 1) := by decide +kernel
theorem dL_law_580 : decode cL_law 580 = .ok (.iconst 1, 1) := by decide +kernel
theorem dL_law_581 : decode cL_law 581 = .ok (.iadd, 1) := by decide +kernel
theorem dL_law_582 : decode cL_law 582 = .ok (.iaload, 1) := by decide +kernel
theorem dL_law_583 : decode cL_law 583 = .ok (.i2l, 1) := by decide +kernel
theorem dL_law_584 : decode cL_law 584 = .ok (.bipush 32, 2) := by decide +kernel
theorem dL_law_586 : decode cL_law 586 = .ok (.lshl, 1) := by decide +kernel
theorem dL_law_587 : decode cL_law 587 = .ok (.aload_n 0, 1) := by decide +kernel
theorem dL_law_588 : decode cL_law 588 = .ok (.iload_n 3, 1) := by decide +kernel
theorem dL_law_589 : decode cL_law 589 = .ok (.iconst 2, 1) := by decide +kernel
theorem dL_law_590 : decode cL_law 590 = .ok (.iadd, 1) := by decide +kernel
theorem dL_law_591 : decode cL_law 591 = .ok (.iaload, 1) := by decide +kernel
theorem dL_law_592 : decode cL_law 592 = .ok (.i2l, 1) := by decide +kernel
theorem dL_law_593 : decode cL_law 593 = .ok (.ldc2_w 60, 3) := by decide +kernel
theorem dL_law_596 : decode cL_law 596 = .ok (.land, 1) := by decide +kernel
theorem dL_law_597 : decode cL_law 597 = .ok (.lor, 1) := by decide +kernel
theorem dL_law_598 : decode cL_law 598 = .ok (.aload_n 0, 1) := by decide +kernel
theorem dL_law_599 : decode cL_law 599 = .ok (.iload_n 3, 1) := by decide +kernel
theorem dL_law_600 : decode cL_law 600 = .ok (.iconst 3, 1) := by decide +kernel
theorem dL_law_601 : decode cL_law 601 = .ok (.iadd, 1) := by decide +kernel
theorem dL_law_602 : decode cL_law 602 = .ok (.iaload, 1) := by decide +kernel
theorem dL_law_603 : decode cL_law 603 = .ok (.invokevirtual 62, 3) := by decide +kernel
theorem dL_law_606 : decode cL_law 606 = .ok (.aload_n 2, 1) := by decide +kernel
theorem dL_law_607 : decode cL_law 607 = .ok (.aload_n 0, 1) := by decide +kernel
theorem dL_law_608 : decode cL_law 608 = .ok (.iload_n 3, 1) := by decide +kernel
theorem dL_law_609 : decode cL_law 609 = .ok (.iconst 1, 1) := by decide +kernel
theorem dL_law_610 : decode cL_law 610 = .ok (.iadd, 1) := by decide +kernel
theorem dL_law_611 : decode cL_law 611 = .ok (.iaload, 1) := by decide +kernel
theorem dL_law_612 : decode cL_law 612 = .ok (.i2l, 1) := by decide +kernel
theorem dL_law_613 : decode cL_law 613 = .ok (.bipush 32, 2) := by decide +kernel
theorem dL_law_615 : decode cL_law 615 = .ok (.lshl, 1) := by decide +kernel
theorem dL_law_616 : decode cL_law 616 = .ok (.aload_n 0, 1) := by decide +kernel
theorem dL_law_617 : decode cL_law 617 = .ok (.iload_n 3, 1) := by decide +kernel
theorem dL_law_618 : decode cL_law 618 = .ok (.iconst 2, 1) := by decide +kernel
theorem dL_law_619 : decode cL_law 619 = .ok (.iadd, 1) := by decide +kernel
theorem dL_law_620 : decode cL_law 620 = .ok (.iaload, 1) := by decide +kernel
theorem dL_law_621 : decode cL_law 621 = .ok (.i2l, 1) := by decide +kernel
theorem dL_law_622 : decode cL_law 622 = .ok (.ldc2_w 60, 3) := by decide +kernel
theorem dL_law_625 : decode cL_law 625 = .ok (.land, 1) := by decide +kernel
theorem dL_law_626 : decode cL_law 626 = .ok (.lor, 1) := by decide +kernel
theorem dL_law_627 : decode cL_law 627 = .ok (.aload_n 0, 1) := by decide +kernel
theorem dL_law_628 : decode cL_law 628 = .ok (.iload_n 3, 1) := by decide +kernel
theorem dL_law_629 : decode cL_law 629 = .ok (.iconst 3, 1) := by decide +kernel
theorem dL_law_630 : decode cL_law 630 = .ok (.iadd, 1) := by decide +kernel
theorem dL_law_631 : decode cL_law 631 = .ok (.iaload, 1) := by decide +kernel
theorem dL_law_632 : decode cL_law 632 = .ok (.invokevirtual 66, 3) := by decide +kernel
theorem dL_law_635 : decode cL_law 635 = .ok (.if_icmp .eq 786, 3) := by decide +kernel
theorem dL_law_638 : decode cL_law 638 = .ok (.iconst 0, 1) := by decide +kernel
theorem dL_law_639 : decode cL_law 639 = .ok (.ireturn, 1) := by decide +kernel
theorem dL_law_640 : decode cL_law 640 = .ok (.aload_n 1, 1) := by decide +kernel
theorem dL_law_641 : decode cL_law 641 = .ok (.aload_n 0, 1) := by decide +kernel
theorem dL_law_642 : decode cL_law 642 = .ok (.iload_n 3, 1) := by decide +kernel
theorem dL_law_643 : decode cL_law 643 = .ok (.iconst 1, 1) := by decide +kernel
theorem dL_law_644 : decode cL_law 644 = .ok (.iadd, 1) := by decide +kernel
theorem dL_law_645 : decode cL_law 645 = .ok (.iaload, 1) := by decide +kernel
theorem dL_law_646 : decode cL_law 646 = .ok (.invokevirtual 67, 3) := by decide +kernel
theorem dL_law_649 : decode cL_law 649 = .ok (.aload_n 2, 1) := by decide +kernel
theorem dL_law_650 : decode cL_law 650 = .ok (.aload_n 0, 1) := by decide +kernel
theorem dL_law_651 : decode cL_law 651 = .ok (.iload_n 3, 1) := by decide +kernel
theorem dL_law_652 : decode cL_law 652 = .ok (.iconst 1, 1) := by decide +kernel
theorem dL_law_653 : decode cL_law 653 = .ok (.iadd, 1) := by decide +kernel
theorem dL_law_654 : decode cL_law 654 = .ok (.iaload, 1) := by decide +kernel
theorem dL_law_655 : decode cL_law 655 = .ok (.invokevirtual 70, 3) := by decide +kernel
theorem dL_law_658 : decode cL_law 658 = .ok (.if_icmp .eq 763, 3) := by decide +kernel
theorem dL_law_661 : decode cL_law 661 = .ok (.iconst 0, 1) := by decide +kernel
theorem dL_law_662 : decode cL_law 662 = .ok (.ireturn, 1) := by decide +kernel
theorem dL_law_663 : decode cL_law 663 = .ok (.aload_n 1, 1) := by decide +kernel
theorem dL_law_664 : decode cL_law 664 = .ok (.aload_n 0, 1) := by decide +kernel
theorem dL_law_665 : decode cL_law 665 = .ok (.iload_n 3, 1) := by decide +kernel
theorem dL_law_666 : decode cL_law 666 = .ok (.iconst 1, 1) := by decide +kernel
theorem dL_law_667 : decode cL_law 667 = .ok (.iadd, 1) := by decide +kernel
theorem dL_law_668 : decode cL_law 668 = .ok (.iaload, 1) := by decide +kernel
theorem dL_law_669 : decode cL_law 669 = .ok (.invokevirtual 71, 3) := by decide +kernel
theorem dL_law_672 : decode cL_law 672 = .ok (.aload_n 2, 1) := by decide +kernel
theorem dL_law_673 : decode cL_law 673 = .ok (.aload_n 0, 1) := by decide +kernel
theorem dL_law_674 : decode cL_law 674 = .ok (.iload_n 3, 1) := by decide +kernel
theorem dL_law_675 : decode cL_law 675 = .ok (.iconst 1, 1) := by decide +kernel
theorem dL_law_676 : decode cL_law 676 = .ok (.iadd, 1) := by decide +kernel
theorem dL_law_677 : decode cL_law 677 = .ok (.iaload, 1) := by decide +kernel
theorem dL_law_678 : decode cL_law 678 = .ok (.invokevirtual 74, 3) := by decide +kernel
theorem dL_law_681 : decode cL_law 681 = .ok (.if_icmp .eq 740, 3) := by decide +kernel
theorem dL_law_684 : decode cL_law 684 = .ok (.iconst 0, 1) := by decide +kernel
theorem dL_law_685 : decode cL_law 685 = .ok (.ireturn, 1) := by decide +kernel
theorem dL_law_686 : decode cL_law 686 = .ok (.aload_n 1, 1) := by decide +kernel
theorem dL_law_687 : decode cL_law 687 = .ok (.aload_n 0, 1) := by decide +kernel
theorem dL_law_688 : decode cL_law 688 = .ok (.iload_n 3, 1) := by decide +kernel
theorem dL_law_689 : decode cL_law 689 = .ok (.iconst 1, 1) := by decide +kernel
theorem dL_law_690 : decode cL_law 690 = .ok (.iadd, 1) := by decide +kernel
theorem dL_law_691 : decode cL_law 691 = .ok (.iaload, 1) := by decide +kernel
theorem dL_law_692 : decode cL_law 692 = .ok (.aload_n 0, 1) := by decide +kernel
theorem dL_law_693 : decode cL_law 693 = .ok (.iload_n 3, 1) := by decide +kernel
theorem dL_law_694 : decode cL_law 694 = .ok (.iconst 2, 1) := by decide +kernel
theorem dL_law_695 : decode cL_law 695 = .ok (.iadd, 1) := by decide +kernel
theorem dL_law_696 : decode cL_law 696 = .ok (.iaload, 1) := by decide +kernel
theorem dL_law_697 : decode cL_law 697 = .ok (.aload_n 0, 1) := by decide +kernel
theorem dL_law_698 : decode cL_law 698 = .ok (.iload_n 3, 1) := by decide +kernel
theorem dL_law_699 : decode cL_law 699 = .ok (.iconst 3, 1) := by decide +kernel
theorem dL_law_700 : decode cL_law 700 = .ok (.iadd, 1) := by decide +kernel
theorem dL_law_701 : decode cL_law 701 = .ok (.iaload, 1) := by decide +kernel
theorem dL_law_702 : decode cL_law 702 = .ok (.aload_n 0, 1) := by decide +kernel
theorem dL_law_703 : decode cL_law 703 = .ok (.iload_n 3, 1) := by decide +kernel
theorem dL_law_704 : decode cL_law 704 = .ok (.iconst 4, 1) := by decide +kernel
theorem dL_law_705 : decode cL_law 705 = .ok (.iadd, 1) := by decide +kernel
theorem dL_law_706 : decode cL_law 706 = .ok (.iaload, 1) := by decide +kernel
theorem dL_law_707 : decode cL_law 707 = .ok (.invokevirtual 75, 3) := by decide +kernel
theorem dL_law_710 : decode cL_law 710 = .ok (.aload_n 2, 1) := by decide +kernel
theorem dL_law_711 : decode cL_law 711 = .ok (.aload_n 0, 1) := by decide +kernel
theorem dL_law_712 : decode cL_law 712 = .ok (.iload_n 3, 1) := by decide +kernel
theorem dL_law_713 : decode cL_law 713 = .ok (.iconst 1, 1) := by decide +kernel
theorem dL_law_714 : decode cL_law 714 = .ok (.iadd, 1) := by decide +kernel
theorem dL_law_715 : decode cL_law 715 = .ok (.iaload, 1) := by decide +kernel
theorem dL_law_716 : decode cL_law 716 = .ok (.aload_n 0, 1) := by decide +kernel
theorem dL_law_717 : decode cL_law 717 = .ok (.iload_n 3, 1) := by decide +kernel
theorem dL_law_718 : decode cL_law 718 = .ok (.iconst 2, 1) := by decide +kernel
theorem dL_law_719 : decode cL_law 719 = .ok (.iadd, 1) := by decide +kernel
theorem dL_law_720 : decode cL_law 720 = .ok (.iaload, 1) := by decide +kernel
theorem dL_law_721 : decode cL_law 721 = .ok (.aload_n 0, 1) := by decide +kernel
theorem dL_law_722 : decode cL_law 722 = .ok (.iload_n 3, 1) := by decide +kernel
theorem dL_law_723 : decode cL_law 723 = .ok (.iconst 3, 1) := by decide +kernel
theorem dL_law_724 : decode cL_law 724 = .ok (.iadd, 1) := by decide +kernel
theorem dL_law_725 : decode cL_law 725 = .ok (.iaload, 1) := by decide +kernel
theorem dL_law_726 : decode cL_law 726 = .ok (.aload_n 0, 1) := by decide +kernel
theorem dL_law_727 : decode cL_law 727 = .ok (.iload_n 3, 1) := by decide +kernel
theorem dL_law_728 : decode cL_law 728 = .ok (.iconst 4, 1) := by decide +kernel
theorem dL_law_729 : decode cL_law 729 = .ok (.iadd, 1) := by decide +kernel
theorem dL_law_730 : decode cL_law 730 = .ok (.iaload, 1) := by decide +kernel
theorem dL_law_731 : decode cL_law 731 = .ok (.invokevirtual 79, 3) := by decide +kernel
theorem dL_law_734 : decode cL_law 734 = .ok (.if_icmp .eq 687, 3) := by decide +kernel
theorem dL_law_737 : decode cL_law 737 = .ok (.iconst 0, 1) := by decide +kernel
theorem dL_law_738 : decode cL_law 738 = .ok (.ireturn, 1) := by decide +kernel
theorem dL_law_739 : decode cL_law 739 = .ok (.aload_n 1, 1) := by decide +kernel
theorem dL_law_740 : decode cL_law 740 = .ok (.aload_n 0, 1) := by decide +kernel
theorem dL_law_741 : decode cL_law 741 = .ok (.iload_n 3, 1) := by decide +kernel
theorem dL_law_742 : decode cL_law 742 = .ok (.iconst 1, 1) := by decide +kernel
theorem dL_law_743 : decode cL_law 743 = .ok (.iadd, 1) := by decide +kernel
theorem dL_law_744 : decode cL_law 744 = .ok (.iaload, 1) := by decide +kernel
theorem dL_law_745 : decode cL_law 745 = .ok (.invokevirtual 80, 3) := by decide +kernel
theorem dL_law_748 : decode cL_law 748 = .ok (.aload_n 2, 1) := by decide +kernel
theorem dL_law_749 : decode cL_law 749 = .ok (.aload_n 0, 1) := by decide +kernel
theorem dL_law_750 : decode cL_law 750 = .ok (.iload_n 3, 1) := by decide +kernel
theorem dL_law_751 : decode cL_law 751 = .ok (.iconst 1, 1) := by decide +kernel
theorem dL_law_752 : decode cL_law 752 = .ok (.iadd, 1) := by decide +kernel
theorem dL_law_753 : decode cL_law 753 = .ok (.iaload, 1) := by decide +kernel
theorem dL_law_754 : decode cL_law 754 = .ok (.invokevirtual 83, 3) := by decide +kernel
theorem dL_law_757 : decode cL_law 757 = .ok (.if_icmp .eq 664, 3) := by decide +kernel
theorem dL_law_760 : decode cL_law 760 = .ok (.iconst 0, 1) := by decide +kernel
theorem dL_law_761 : decode cL_law 761 = .ok (.ireturn, 1) := by decide +kernel
theorem dL_law_762 : decode cL_law 762 = .ok (.aload_n 1, 1) := by decide +kernel
theorem dL_law_763 : decode cL_law 763 = .ok (.aload_n 0, 1) := by decide +kernel
theorem dL_law_764 : decode cL_law 764 = .ok (.iload_n 3, 1) := by decide +kernel
theorem dL_law_765 : decode cL_law 765 = .ok (.iconst 1, 1) := by decide +kernel
theorem dL_law_766 : decode cL_law 766 = .ok (.iadd, 1) := by decide +kernel
theorem dL_law_767 : decode cL_law 767 = .ok (.iaload, 1) := by decide +kernel
theorem dL_law_768 : decode cL_law 768 = .ok (.invokevirtual 84, 3) := by decide +kernel
theorem dL_law_771 : decode cL_law 771 = .ok (.aload_n 2, 1) := by decide +kernel
theorem dL_law_772 : decode cL_law 772 = .ok (.aload_n 0, 1) := by decide +kernel
theorem dL_law_773 : decode cL_law 773 = .ok (.iload_n 3, 1) := by decide +kernel
theorem dL_law_774 : decode cL_law 774 = .ok (.iconst 1, 1) := by decide +kernel
theorem dL_law_775 : decode cL_law 775 = .ok (.iadd, 1) := by decide +kernel
theorem dL_law_776 : decode cL_law 776 = .ok (.iaload, 1) := by decide +kernel
theorem dL_law_777 : decode cL_law 777 = .ok (.invokevirtual 87, 3) := by decide +kernel
theorem dL_law_780 : decode cL_law 780 = .ok (.if_icmp .eq 641, 3) := by decide +kernel
theorem dL_law_783 : decode cL_law 783 = .ok (.iconst 0, 1) := by decide +kernel
theorem dL_law_784 : decode cL_law 784 = .ok (.ireturn, 1) := by decide +kernel
theorem dL_law_785 : decode cL_law 785 = .ok (.aload_n 1, 1) := by decide +kernel
theorem dL_law_786 : decode cL_law 786 = .ok (.aload_n 0, 1) := by decide +kernel
theorem dL_law_787 : decode cL_law 787 = .ok (.iload_n 3, 1) := by decide +kernel
theorem dL_law_788 : decode cL_law 788 = .ok (.iconst 1, 1) := by decide +kernel
theorem dL_law_789 : decode cL_law 789 = .ok (.iadd, 1) := by decide +kernel
theorem dL_law_790 : decode cL_law 790 = .ok (.iaload, 1) := by decide +kernel
theorem dL_law_791 : decode cL_law 791 = .ok (.invokevirtual 88, 3) := by decide +kernel
theorem dL_law_794 : decode cL_law 794 = .ok (.aload_n 2, 1) := by decide +kernel
theorem dL_law_795 : decode cL_law 795 = .ok (.aload_n 0, 1) := by decide +kernel
theorem dL_law_796 : decode cL_law 796 = .ok (.iload_n 3, 1) := by decide +kernel
theorem dL_law_797 : decode cL_law 797 = .ok (.iconst 1, 1) := by decide +kernel
theorem dL_law_798 : decode cL_law 798 = .ok (.iadd, 1) := by decide +kernel
theorem dL_law_799 : decode cL_law 799 = .ok (.iaload, 1) := by decide +kernel
theorem dL_law_800 : decode cL_law 800 = .ok (.invokevirtual 91, 3) := by decide +kernel
theorem dL_law_803 : decode cL_law 803 = .ok (.if_icmp .eq 618, 3) := by decide +kernel
theorem dL_law_806 : decode cL_law 806 = .ok (.iconst 0, 1) := by decide +kernel
theorem dL_law_807 : decode cL_law 807 = .ok (.ireturn, 1) := by decide +kernel
theorem dL_law_808 : decode cL_law 808 = .ok (.aload_n 1, 1) := by decide +kernel
theorem dL_law_809 : decode cL_law 809 = .ok (.aload_n 0, 1) := by decide +kernel
theorem dL_law_810 : decode cL_law 810 = .ok (.iload_n 3, 1) := by decide +kernel
theorem dL_law_811 : decode cL_law 811 = .ok (.iconst 1, 1) := by decide +kernel
theorem dL_law_812 : decode cL_law 812 = .ok (.iadd, 1) := by decide +kernel
theorem dL_law_813 : decode cL_law 813 = .ok (.iaload, 1) := by decide +kernel
theorem dL_law_814 : decode cL_law 814 = .ok (.invokevirtual 92, 3) := by decide +kernel
theorem dL_law_817 : decode cL_law 817 = .ok (.aload_n 2, 1) := by decide +kernel
theorem dL_law_818 : decode cL_law 818 = .ok (.aload_n 0, 1) := by decide +kernel
theorem dL_law_819 : decode cL_law 819 = .ok (.iload_n 3, 1) := by decide +kernel
theorem dL_law_820 : decode cL_law 820 = .ok (.iconst 1, 1) := by decide +kernel
theorem dL_law_821 : decode cL_law 821 = .ok (.iadd, 1) := by decide +kernel
theorem dL_law_822 : decode cL_law 822 = .ok (.iaload, 1) := by decide +kernel
theorem dL_law_823 : decode cL_law 823 = .ok (.invokevirtual 95, 3) := by decide +kernel
theorem dL_law_826 : decode cL_law 826 = .ok (.if_icmp .eq 595, 3) := by decide +kernel
theorem dL_law_829 : decode cL_law 829 = .ok (.iconst 0, 1) := by decide +kernel
theorem dL_law_830 : decode cL_law 830 = .ok (.ireturn, 1) := by decide +kernel
theorem dL_law_831 : decode cL_law 831 = .ok (.aload_n 1, 1) := by decide +kernel
theorem dL_law_832 : decode cL_law 832 = .ok (.aload_n 0, 1) := by decide +kernel
theorem dL_law_833 : decode cL_law 833 = .ok (.iload_n 3, 1) := by decide +kernel
theorem dL_law_834 : decode cL_law 834 = .ok (.iconst 1, 1) := by decide +kernel
theorem dL_law_835 : decode cL_law 835 = .ok (.iadd, 1) := by decide +kernel
theorem dL_law_836 : decode cL_law 836 = .ok (.iaload, 1) := by decide +kernel
theorem dL_law_837 : decode cL_law 837 = .ok (.aload_n 0, 1) := by decide +kernel
theorem dL_law_838 : decode cL_law 838 = .ok (.iload_n 3, 1) := by decide +kernel
theorem dL_law_839 : decode cL_law 839 = .ok (.iconst 2, 1) := by decide +kernel
theorem dL_law_840 : decode cL_law 840 = .ok (.iadd, 1) := by decide +kernel
theorem dL_law_841 : decode cL_law 841 = .ok (.iaload, 1) := by decide +kernel
theorem dL_law_842 : decode cL_law 842 = .ok (.invokevirtual 96, 3) := by decide +kernel
theorem dL_law_845 : decode cL_law 845 = .ok (.aload_n 2, 1) := by decide +kernel
theorem dL_law_846 : decode cL_law 846 = .ok (.aload_n 0, 1) := by decide +kernel
theorem dL_law_847 : decode cL_law 847 = .ok (.iload_n 3, 1) := by decide +kernel
theorem dL_law_848 : decode cL_law 848 = .ok (.iconst 1, 1) := by decide +kernel
theorem dL_law_849 : decode cL_law 849 = .ok (.iadd, 1) := by decide +kernel
theorem dL_law_850 : decode cL_law 850 = .ok (.iaload, 1) := by decide +kernel
theorem dL_law_851 : decode cL_law 851 = .ok (.aload_n 0, 1) := by decide +kernel
theorem dL_law_852 : decode cL_law 852 = .ok (.iload_n 3, 1) := by decide +kernel
theorem dL_law_853 : decode cL_law 853 = .ok (.iconst 2, 1) := by decide +kernel
theorem dL_law_854 : decode cL_law 854 = .ok (.iadd, 1) := by decide +kernel
theorem dL_law_855 : decode cL_law 855 = .ok (.iaload, 1) := by decide +kernel
theorem dL_law_856 : decode cL_law 856 = .ok (.invokevirtual 99, 3) := by decide +kernel
theorem dL_law_859 : decode cL_law 859 = .ok (.if_icmp .eq 562, 3) := by decide +kernel
theorem dL_law_862 : decode cL_law 862 = .ok (.iconst 0, 1) := by decide +kernel
theorem dL_law_863 : decode cL_law 863 = .ok (.ireturn, 1) := by decide +kernel
theorem dL_law_864 : decode cL_law 864 = .ok (.aload_n 1, 1) := by decide +kernel
theorem dL_law_865 : decode cL_law 865 = .ok (.aload_n 0, 1) := by decide +kernel
theorem dL_law_866 : decode cL_law 866 = .ok (.iload_n 3, 1) := by decide +kernel
theorem dL_law_867 : decode cL_law 867 = .ok (.iconst 1, 1) := by decide +kernel
theorem dL_law_868 : decode cL_law 868 = .ok (.iadd, 1) := by decide +kernel
theorem dL_law_869 : decode cL_law 869 = .ok (.iaload, 1) := by decide +kernel
theorem dL_law_870 : decode cL_law 870 = .ok (.aload_n 0, 1) := by decide +kernel
theorem dL_law_871 : decode cL_law 871 = .ok (.iload_n 3, 1) := by decide +kernel
theorem dL_law_872 : decode cL_law 872 = .ok (.iconst 2, 1) := by decide +kernel
theorem dL_law_873 : decode cL_law 873 = .ok (.iadd, 1) := by decide +kernel
theorem dL_law_874 : decode cL_law 874 = .ok (.iaload, 1) := by decide +kernel
theorem dL_law_875 : decode cL_law 875 = .ok (.invokevirtual 100, 3) := by decide +kernel
theorem dL_law_878 : decode cL_law 878 = .ok (.aload_n 2, 1) := by decide +kernel
theorem dL_law_879 : decode cL_law 879 = .ok (.aload_n 0, 1) := by decide +kernel
theorem dL_law_880 : decode cL_law 880 = .ok (.iload_n 3, 1) := by decide +kernel
theorem dL_law_881 : decode cL_law 881 = .ok (.iconst 1, 1) := by decide +kernel
theorem dL_law_882 : decode cL_law 882 = .ok (.iadd, 1) := by decide +kernel
theorem dL_law_883 : decode cL_law 883 = .ok (.iaload, 1) := by decide +kernel
theorem dL_law_884 : decode cL_law 884 = .ok (.aload_n 0, 1) := by decide +kernel
theorem dL_law_885 : decode cL_law 885 = .ok (.iload_n 3, 1) := by decide +kernel
theorem dL_law_886 : decode cL_law 886 = .ok (.iconst 2, 1) := by decide +kernel
theorem dL_law_887 : decode cL_law 887 = .ok (.iadd, 1) := by decide +kernel
theorem dL_law_888 : decode cL_law 888 = .ok (.iaload, 1) := by decide +kernel
theorem dL_law_889 : decode cL_law 889 = .ok (.invokevirtual 103, 3) := by decide +kernel
theorem dL_law_892 : decode cL_law 892 = .ok (.if_icmp .eq 529, 3) := by decide +kernel
theorem dL_law_895 : decode cL_law 895 = .ok (.iconst 0, 1) := by decide +kernel
theorem dL_law_896 : decode cL_law 896 = .ok (.ireturn, 1) := by decide +kernel
theorem dL_law_897 : decode cL_law 897 = .ok (.aload_n 1, 1) := by decide +kernel
theorem dL_law_898 : decode cL_law 898 = .ok (.aload_n 0, 1) := by decide +kernel
theorem dL_law_899 : decode cL_law 899 = .ok (.iload_n 3, 1) := by decide +kernel
theorem dL_law_900 : decode cL_law 900 = .ok (.iconst 1, 1) := by decide +kernel
theorem dL_law_901 : decode cL_law 901 = .ok (.iadd, 1) := by decide +kernel
theorem dL_law_902 : decode cL_law 902 = .ok (.iaload, 1) := by decide +kernel
theorem dL_law_903 : decode cL_law 903 = .ok (.aload_n 0, 1) := by decide +kernel
theorem dL_law_904 : decode cL_law 904 = .ok (.iload_n 3, 1) := by decide +kernel
theorem dL_law_905 : decode cL_law 905 = .ok (.iconst 2, 1) := by decide +kernel
theorem dL_law_906 : decode cL_law 906 = .ok (.iadd, 1) := by decide +kernel
theorem dL_law_907 : decode cL_law 907 = .ok (.iaload, 1) := by decide +kernel
theorem dL_law_908 : decode cL_law 908 = .ok (.invokevirtual 104, 3) := by decide +kernel
theorem dL_law_911 : decode cL_law 911 = .ok (.aload_n 2, 1) := by decide +kernel
theorem dL_law_912 : decode cL_law 912 = .ok (.aload_n 0, 1) := by decide +kernel
theorem dL_law_913 : decode cL_law 913 = .ok (.iload_n 3, 1) := by decide +kernel
theorem dL_law_914 : decode cL_law 914 = .ok (.iconst 1, 1) := by decide +kernel
theorem dL_law_915 : decode cL_law 915 = .ok (.iadd, 1) := by decide +kernel
theorem dL_law_916 : decode cL_law 916 = .ok (.iaload, 1) := by decide +kernel
theorem dL_law_917 : decode cL_law 917 = .ok (.aload_n 0, 1) := by decide +kernel
theorem dL_law_918 : decode cL_law 918 = .ok (.iload_n 3, 1) := by decide +kernel
theorem dL_law_919 : decode cL_law 919 = .ok (.iconst 2, 1) := by decide +kernel
theorem dL_law_920 : decode cL_law 920 = .ok (.iadd, 1) := by decide +kernel
theorem dL_law_921 : decode cL_law 921 = .ok (.iaload, 1) := by decide +kernel
theorem dL_law_922 : decode cL_law 922 = .ok (.invokevirtual 107, 3) := by decide +kernel
theorem dL_law_925 : decode cL_law 925 = .ok (.if_icmp .eq 496, 3) := by decide +kernel
theorem dL_law_928 : decode cL_law 928 = .ok (.iconst 0, 1) := by decide +kernel
theorem dL_law_929 : decode cL_law 929 = .ok (.ireturn, 1) := by decide +kernel
theorem dL_law_930 : decode cL_law 930 = .ok (.aload_n 1, 1) := by decide +kernel
theorem dL_law_931 : decode cL_law 931 = .ok (.aload_n 0, 1) := by decide +kernel
theorem dL_law_932 : decode cL_law 932 = .ok (.iload_n 3, 1) := by decide +kernel
theorem dL_law_933 : decode cL_law 933 = .ok (.iconst 1, 1) := by decide +kernel
theorem dL_law_934 : decode cL_law 934 = .ok (.iadd, 1) := by decide +kernel
theorem dL_law_935 : decode cL_law 935 = .ok (.iaload, 1) := by decide +kernel
theorem dL_law_936 : decode cL_law 936 = .ok (.aload_n 0, 1) := by decide +kernel
theorem dL_law_937 : decode cL_law 937 = .ok (.iload_n 3, 1) := by decide +kernel
theorem dL_law_938 : decode cL_law 938 = .ok (.iconst 2, 1) := by decide +kernel
theorem dL_law_939 : decode cL_law 939 = .ok (.iadd, 1) := by decide +kernel
theorem dL_law_940 : decode cL_law 940 = .ok (.iaload, 1) := by decide +kernel
theorem dL_law_941 : decode cL_law 941 = .ok (.invokevirtual 108, 3) := by decide +kernel
theorem dL_law_944 : decode cL_law 944 = .ok (.aload_n 2, 1) := by decide +kernel
theorem dL_law_945 : decode cL_law 945 = .ok (.aload_n 0, 1) := by decide +kernel
theorem dL_law_946 : decode cL_law 946 = .ok (.iload_n 3, 1) := by decide +kernel
theorem dL_law_947 : decode cL_law 947 = .ok (.iconst 1, 1) := by decide +kernel
theorem dL_law_948 : decode cL_law 948 = .ok (.iadd, 1) := by decide +kernel
theorem dL_law_949 : decode cL_law 949 = .ok (.iaload, 1) := by decide +kernel
theorem dL_law_950 : decode cL_law 950 = .ok (.aload_n 0, 1) := by decide +kernel
theorem dL_law_951 : decode cL_law 951 = .ok (.iload_n 3, 1) := by decide +kernel
theorem dL_law_952 : decode cL_law 952 = .ok (.iconst 2, 1) := by decide +kernel
theorem dL_law_953 : decode cL_law 953 = .ok (.iadd, 1) := by decide +kernel
theorem dL_law_954 : decode cL_law 954 = .ok (.iaload, 1) := by decide +kernel
theorem dL_law_955 : decode cL_law 955 = .ok (.invokevirtual 111, 3) := by decide +kernel
theorem dL_law_958 : decode cL_law 958 = .ok (.if_icmp .eq 463, 3) := by decide +kernel
theorem dL_law_961 : decode cL_law 961 = .ok (.iconst 0, 1) := by decide +kernel
theorem dL_law_962 : decode cL_law 962 = .ok (.ireturn, 1) := by decide +kernel
theorem dL_law_963 : decode cL_law 963 = .ok (.aload_n 1, 1) := by decide +kernel
theorem dL_law_964 : decode cL_law 964 = .ok (.aload_n 0, 1) := by decide +kernel
theorem dL_law_965 : decode cL_law 965 = .ok (.iload_n 3, 1) := by decide +kernel
theorem dL_law_966 : decode cL_law 966 = .ok (.iconst 1, 1) := by decide +kernel
theorem dL_law_967 : decode cL_law 967 = .ok (.iadd, 1) := by decide +kernel
theorem dL_law_968 : decode cL_law 968 = .ok (.iaload, 1) := by decide +kernel
theorem dL_law_969 : decode cL_law 969 = .ok (.aload_n 0, 1) := by decide +kernel
theorem dL_law_970 : decode cL_law 970 = .ok (.iload_n 3, 1) := by decide +kernel
theorem dL_law_971 : decode cL_law 971 = .ok (.iconst 2, 1) := by decide +kernel
theorem dL_law_972 : decode cL_law 972 = .ok (.iadd, 1) := by decide +kernel
theorem dL_law_973 : decode cL_law 973 = .ok (.iaload, 1) := by decide +kernel
theorem dL_law_974 : decode cL_law 974 = .ok (.invokevirtual 112, 3) := by decide +kernel
theorem dL_law_977 : decode cL_law 977 = .ok (.aload_n 2, 1) := by decide +kernel
theorem dL_law_978 : decode cL_law 978 = .ok (.aload_n 0, 1) := by decide +kernel
theorem dL_law_979 : decode cL_law 979 = .ok (.iload_n 3, 1) := by decide +kernel
theorem dL_law_980 : decode cL_law 980 = .ok (.iconst 1, 1) := by decide +kernel
theorem dL_law_981 : decode cL_law 981 = .ok (.iadd, 1) := by decide +kernel
theorem dL_law_982 : decode cL_law 982 = .ok (.iaload, 1) := by decide +kernel
theorem dL_law_983 : decode cL_law 983 = .ok (.aload_n 0, 1) := by decide +kernel
theorem dL_law_984 : decode cL_law 984 = .ok (.iload_n 3, 1) := by decide +kernel
theorem dL_law_985 : decode cL_law 985 = .ok (.iconst 2, 1) := by decide +kernel
theorem dL_law_986 : decode cL_law 986 = .ok (.iadd, 1) := by decide +kernel
theorem dL_law_987 : decode cL_law 987 = .ok (.iaload, 1) := by decide +kernel
theorem dL_law_988 : decode cL_law 988 = .ok (.invokevirtual 115, 3) := by decide +kernel
theorem dL_law_991 : decode cL_law 991 = .ok (.if_icmp .eq 430, 3) := by decide +kernel
theorem dL_law_994 : decode cL_law 994 = .ok (.iconst 0, 1) := by decide +kernel
theorem dL_law_995 : decode cL_law 995 = .ok (.ireturn, 1) := by decide +kernel
theorem dL_law_996 : decode cL_law 996 = .ok (.aload_n 1, 1) := by decide +kernel
theorem dL_law_997 : decode cL_law 997 = .ok (.aload_n 0, 1) := by decide +kernel
theorem dL_law_998 : decode cL_law 998 = .ok (.iload_n 3, 1) := by decide +kernel
theorem dL_law_999 : decode cL_law 999 = .ok (.iconst 1, 1) := by decide +kernel
theorem dL_law_1000 : decode cL_law 1000 = .ok (.iadd, 1) := by decide +kernel
theorem dL_law_1001 : decode cL_law 1001 = .ok (.iaload, 1) := by decide +kernel
theorem dL_law_1002 : decode cL_law 1002 = .ok (.aload_n 0, 1) := by decide +kernel
theorem dL_law_1003 : decode cL_law 1003 = .ok (.iload_n 3, 1) := by decide +kernel
theorem dL_law_1004 : decode cL_law 1004 = .ok (.iconst 2, 1) := by decide +kernel
theorem dL_law_1005 : decode cL_law 1005 = .ok (.iadd, 1) := by decide +kernel
theorem dL_law_1006 : decode cL_law 1006 = .ok (.iaload, 1) := by decide +kernel
theorem dL_law_1007 : decode cL_law 1007 = .ok (.invokevirtual 116, 3) := by decide +kernel
theorem dL_law_1010 : decode cL_law 1010 = .ok (.aload_n 2, 1) := by decide +kernel
theorem dL_law_1011 : decode cL_law 1011 = .ok (.aload_n 0, 1) := by decide +kernel
theorem dL_law_1012 : decode cL_law 1012 = .ok (.iload_n 3, 1) := by decide +kernel
theorem dL_law_1013 : decode cL_law 1013 = .ok (.iconst 1, 1) := by decide +kernel
theorem dL_law_1014 : decode cL_law 1014 = .ok (.iadd, 1) := by decide +kernel
theorem dL_law_1015 : decode cL_law 1015 = .ok (.iaload, 1) := by decide +kernel
theorem dL_law_1016 : decode cL_law 1016 = .ok (.aload_n 0, 1) := by decide +kernel
theorem dL_law_1017 : decode cL_law 1017 = .ok (.iload_n 3, 1) := by decide +kernel
theorem dL_law_1018 : decode cL_law 1018 = .ok (.iconst 2, 1) := by decide +kernel
theorem dL_law_1019 : decode cL_law 1019 = .ok (.iadd, 1) := by decide +kernel
theorem dL_law_1020 : decode cL_law 1020 = .ok (.iaload, 1) := by decide +kernel
theorem dL_law_1021 : decode cL_law 1021 = .ok (.invokevirtual 119, 3) := by decide +kernel
theorem dL_law_1024 : decode cL_law 1024 = .ok (.if_icmp .eq 397, 3) := by decide +kernel
theorem dL_law_1027 : decode cL_law 1027 = .ok (.iconst 0, 1) := by decide +kernel
theorem dL_law_1028 : decode cL_law 1028 = .ok (.ireturn, 1) := by decide +kernel
theorem dL_law_1029 : decode cL_law 1029 = .ok (.aload_n 1, 1) := by decide +kernel
theorem dL_law_1030 : decode cL_law 1030 = .ok (.aload_n 0, 1) := by decide +kernel
theorem dL_law_1031 : decode cL_law 1031 = .ok (.iload_n 3, 1) := by decide +kernel
theorem dL_law_1032 : decode cL_law 1032 = .ok (.iconst 1, 1) := by decide +kernel
theorem dL_law_1033 : decode cL_law 1033 = .ok (.iadd, 1) := by decide +kernel
theorem dL_law_1034 : decode cL_law 1034 = .ok (.iaload, 1) := by decide +kernel
theorem dL_law_1035 : decode cL_law 1035 = .ok (.invokevirtual 120, 3) := by decide +kernel
theorem dL_law_1038 : decode cL_law 1038 = .ok (.aload_n 2, 1) := by decide +kernel
theorem dL_law_1039 : decode cL_law 1039 = .ok (.aload_n 0, 1) := by decide +kernel
theorem dL_law_1040 : decode cL_law 1040 = .ok (.iload_n 3, 1) := by decide +kernel
theorem dL_law_1041 : decode cL_law 1041 = .ok (.iconst 1, 1) := by decide +kernel
theorem dL_law_1042 : decode cL_law 1042 = .ok (.iadd, 1) := by decide +kernel
theorem dL_law_1043 : decode cL_law 1043 = .ok (.iaload, 1) := by decide +kernel
theorem dL_law_1044 : decode cL_law 1044 = .ok (.invokevirtual 123, 3) := by decide +kernel
theorem dL_law_1047 : decode cL_law 1047 = .ok (.if_icmp .eq 374, 3) := by decide +kernel
theorem dL_law_1050 : decode cL_law 1050 = .ok (.iconst 0, 1) := by decide +kernel
theorem dL_law_1051 : decode cL_law 1051 = .ok (.ireturn, 1) := by decide +kernel
theorem dL_law_1052 : decode cL_law 1052 = .ok (.aload_n 1, 1) := by decide +kernel
theorem dL_law_1053 : decode cL_law 1053 = .ok (.aload_n 0, 1) := by decide +kernel
theorem dL_law_1054 : decode cL_law 1054 = .ok (.iload_n 3, 1) := by decide +kernel
theorem dL_law_1055 : decode cL_law 1055 = .ok (.iconst 1, 1) := by decide +kernel
theorem dL_law_1056 : decode cL_law 1056 = .ok (.iadd, 1) := by decide +kernel
theorem dL_law_1057 : decode cL_law 1057 = .ok (.iaload, 1) := by decide +kernel
theorem dL_law_1058 : decode cL_law 1058 = .ok (.aload_n 0, 1) := by decide +kernel
theorem dL_law_1059 : decode cL_law 1059 = .ok (.iload_n 3, 1) := by decide +kernel
theorem dL_law_1060 : decode cL_law 1060 = .ok (.iconst 2, 1) := by decide +kernel
theorem dL_law_1061 : decode cL_law 1061 = .ok (.iadd, 1) := by decide +kernel
theorem dL_law_1062 : decode cL_law 1062 = .ok (.iaload, 1) := by decide +kernel
theorem dL_law_1063 : decode cL_law 1063 = .ok (.aload_n 0, 1) := by decide +kernel
theorem dL_law_1064 : decode cL_law 1064 = .ok (.iload_n 3, 1) := by decide +kernel
theorem dL_law_1065 : decode cL_law 1065 = .ok (.iconst 3, 1) := by decide +kernel
theorem dL_law_1066 : decode cL_law 1066 = .ok (.iadd, 1) := by decide +kernel
theorem dL_law_1067 : decode cL_law 1067 = .ok (.iaload, 1) := by decide +kernel
theorem dL_law_1068 : decode cL_law 1068 = .ok (.invokevirtual 124, 3) := by decide +kernel
theorem dL_law_1071 : decode cL_law 1071 = .ok (.aload_n 2, 1) := by decide +kernel
theorem dL_law_1072 : decode cL_law 1072 = .ok (.aload_n 0, 1) := by decide +kernel
theorem dL_law_1073 : decode cL_law 1073 = .ok (.iload_n 3, 1) := by decide +kernel
theorem dL_law_1074 : decode cL_law 1074 = .ok (.iconst 1, 1) := by decide +kernel
theorem dL_law_1075 : decode cL_law 1075 = .ok (.iadd, 1) := by decide +kernel
theorem dL_law_1076 : decode cL_law 1076 = .ok (.iaload, 1) := by decide +kernel
theorem dL_law_1077 : decode cL_law 1077 = .ok (.aload_n 0, 1) := by decide +kernel
theorem dL_law_1078 : decode cL_law 1078 = .ok (.iload_n 3, 1) := by decide +kernel
theorem dL_law_1079 : decode cL_law 1079 = .ok (.iconst 2, 1) := by decide +kernel
theorem dL_law_1080 : decode cL_law 1080 = .ok (.iadd, 1) := by decide +kernel
theorem dL_law_1081 : decode cL_law 1081 = .ok (.iaload, 1) := by decide +kernel
theorem dL_law_1082 : decode cL_law 1082 = .ok (.aload_n 0, 1) := by decide +kernel
theorem dL_law_1083 : decode cL_law 1083 = .ok (.iload_n 3, 1) := by decide +kernel
theorem dL_law_1084 : decode cL_law 1084 = .ok (.iconst 3, 1) := by decide +kernel
theorem dL_law_1085 : decode cL_law 1085 = .ok (.iadd, 1) := by decide +kernel
theorem dL_law_1086 : decode cL_law 1086 = .ok (.iaload, 1) := by decide +kernel
theorem dL_law_1087 : decode cL_law 1087 = .ok (.invokevirtual 127, 3) := by decide +kernel
theorem dL_law_1090 : decode cL_law 1090 = .ok (.if_icmp .eq 331, 3) := by decide +kernel
theorem dL_law_1093 : decode cL_law 1093 = .ok (.iconst 0, 1) := by decide +kernel
theorem dL_law_1094 : decode cL_law 1094 = .ok (.ireturn, 1) := by decide +kernel
theorem dL_law_1095 : decode cL_law 1095 = .ok (.aload_n 1, 1) := by decide +kernel
theorem dL_law_1096 : decode cL_law 1096 = .ok (.aload_n 0, 1) := by decide +kernel
theorem dL_law_1097 : decode cL_law 1097 = .ok (.iload_n 3, 1) := by decide +kernel
theorem dL_law_1098 : decode cL_law 1098 = .ok (.iconst 1, 1) := by decide +kernel
theorem dL_law_1099 : decode cL_law 1099 = .ok (.iadd, 1) := by decide +kernel
theorem dL_law_1100 : decode cL_law 1100 = .ok (.iaload, 1) := by decide +kernel
theorem dL_law_1101 : decode cL_law 1101 = .ok (.invokevirtual 128, 3) := by decide +kernel
theorem dL_law_1104 : decode cL_law 1104 = .ok (.aload_n 2, 1) := by decide +kernel
theorem dL_law_1105 : decode cL_law 1105 = .ok (.aload_n 0, 1) := by decide +kernel
theorem dL_law_1106 : decode cL_law 1106 = .ok (.iload_n 3, 1) := by decide +kernel
theorem dL_law_1107 : decode cL_law 1107 = .ok (.iconst 1, 1) := by decide +kernel
theorem dL_law_1108 : decode cL_law 1108 = .ok (.iadd, 1) := by decide +kernel
theorem dL_law_1109 : decode cL_law 1109 = .ok (.iaload, 1) := by decide +kernel
theorem dL_law_1110 : decode cL_law 1110 = .ok (.invokevirtual 131, 3) := by decide +kernel
theorem dL_law_1113 : decode cL_law 1113 = .ok (.if_icmp .eq 308, 3) := by decide +kernel
theorem dL_law_1116 : decode cL_law 1116 = .ok (.iconst 0, 1) := by decide +kernel
theorem dL_law_1117 : decode cL_law 1117 = .ok (.ireturn, 1) := by decide +kernel
theorem dL_law_1118 : decode cL_law 1118 = .ok (.aload_n 1, 1) := by decide +kernel
theorem dL_law_1119 : decode cL_law 1119 = .ok (.aload_n 0, 1) := by decide +kernel
theorem dL_law_1120 : decode cL_law 1120 = .ok (.iload_n 3, 1) := by decide +kernel
theorem dL_law_1121 : decode cL_law 1121 = .ok (.iconst 1, 1) := by decide +kernel
theorem dL_law_1122 : decode cL_law 1122 = .ok (.iadd, 1) := by decide +kernel
theorem dL_law_1123 : decode cL_law 1123 = .ok (.iaload, 1) := by decide +kernel
theorem dL_law_1124 : decode cL_law 1124 = .ok (.aload_n 0, 1) := by decide +kernel
theorem dL_law_1125 : decode cL_law 1125 = .ok (.iload_n 3, 1) := by decide +kernel
theorem dL_law_1126 : decode cL_law 1126 = .ok (.iconst 2, 1) := by decide +kernel
theorem dL_law_1127 : decode cL_law 1127 = .ok (.iadd, 1) := by decide +kernel
theorem dL_law_1128 : decode cL_law 1128 = .ok (.iaload, 1) := by decide +kernel
theorem dL_law_1129 : decode cL_law 1129 = .ok (.aload_n 0, 1) := by decide +kernel
theorem dL_law_1130 : decode cL_law 1130 = .ok (.iload_n 3, 1) := by decide +kernel
theorem dL_law_1131 : decode cL_law 1131 = .ok (.iconst 3, 1) := by decide +kernel
theorem dL_law_1132 : decode cL_law 1132 = .ok (.iadd, 1) := by decide +kernel
theorem dL_law_1133 : decode cL_law 1133 = .ok (.iaload, 1) := by decide +kernel
theorem dL_law_1134 : decode cL_law 1134 = .ok (.invokevirtual 132, 3) := by decide +kernel
theorem dL_law_1137 : decode cL_law 1137 = .ok (.aload_n 2, 1) := by decide +kernel
theorem dL_law_1138 : decode cL_law 1138 = .ok (.aload_n 0, 1) := by decide +kernel
theorem dL_law_1139 : decode cL_law 1139 = .ok (.iload_n 3, 1) := by decide +kernel
theorem dL_law_1140 : decode cL_law 1140 = .ok (.iconst 1, 1) := by decide +kernel
theorem dL_law_1141 : decode cL_law 1141 = .ok (.iadd, 1) := by decide +kernel
theorem dL_law_1142 : decode cL_law 1142 = .ok (.iaload, 1) := by decide +kernel
theorem dL_law_1143 : decode cL_law 1143 = .ok (.aload_n 0, 1) := by decide +kernel
theorem dL_law_1144 : decode cL_law 1144 = .ok (.iload_n 3, 1) := by decide +kernel
theorem dL_law_1145 : decode cL_law 1145 = .ok (.iconst 2, 1) := by decide +kernel
theorem dL_law_1146 : decode cL_law 1146 = .ok (.iadd, 1) := by decide +kernel
theorem dL_law_1147 : decode cL_law 1147 = .ok (.iaload, 1) := by decide +kernel
theorem dL_law_1148 : decode cL_law 1148 = .ok (.aload_n 0, 1) := by decide +kernel
theorem dL_law_1149 : decode cL_law 1149 = .ok (.iload_n 3, 1) := by decide +kernel
theorem dL_law_1150 : decode cL_law 1150 = .ok (.iconst 3, 1) := by decide +kernel
theorem dL_law_1151 : decode cL_law 1151 = .ok (.iadd, 1) := by decide +kernel
theorem dL_law_1152 : decode cL_law 1152 = .ok (.iaload, 1) := by decide +kernel
theorem dL_law_1153 : decode cL_law 1153 = .ok (.invokevirtual 135, 3) := by decide +kernel
theorem dL_law_1156 : decode cL_law 1156 = .ok (.if_icmp .eq 265, 3) := by decide +kernel
theorem dL_law_1159 : decode cL_law 1159 = .ok (.iconst 0, 1) := by decide +kernel
theorem dL_law_1160 : decode cL_law 1160 = .ok (.ireturn, 1) := by decide +kernel
theorem dL_law_1161 : decode cL_law 1161 = .ok (.aload_n 1, 1) := by decide +kernel
theorem dL_law_1162 : decode cL_law 1162 = .ok (.aload_n 0, 1) := by decide +kernel
theorem dL_law_1163 : decode cL_law 1163 = .ok (.iload_n 3, 1) := by decide +kernel
theorem dL_law_1164 : decode cL_law 1164 = .ok (.iconst 1, 1) := by decide +kernel
theorem dL_law_1165 : decode cL_law 1165 = .ok (.iadd, 1) := by decide +kernel
theorem dL_law_1166 : decode cL_law 1166 = .ok (.iaload, 1) := by decide +kernel
theorem dL_law_1167 : decode cL_law 1167 = .ok (.aload_n 0, 1) := by decide +kernel
theorem dL_law_1168 : decode cL_law 1168 = .ok (.iload_n 3, 1) := by decide +kernel
theorem dL_law_1169 : decode cL_law 1169 = .ok (.iconst 2, 1) := by decide +kernel
theorem dL_law_1170 : decode cL_law 1170 = .ok (.iadd, 1) := by decide +kernel
theorem dL_law_1171 : decode cL_law 1171 = .ok (.iaload, 1) := by decide +kernel
theorem dL_law_1172 : decode cL_law 1172 = .ok (.aload_n 0, 1) := by decide +kernel
theorem dL_law_1173 : decode cL_law 1173 = .ok (.iload_n 3, 1) := by decide +kernel
theorem dL_law_1174 : decode cL_law 1174 = .ok (.iconst 3, 1) := by decide +kernel
theorem dL_law_1175 : decode cL_law 1175 = .ok (.iadd, 1) := by decide +kernel
theorem dL_law_1176 : decode cL_law 1176 = .ok (.iaload, 1) := by decide +kernel
theorem dL_law_1177 : decode cL_law 1177 = .ok (.invokevirtual 136, 3) := by decide +kernel
theorem dL_law_1180 : decode cL_law 1180 = .ok (.aload_n 2, 1) := by decide +kernel
theorem dL_law_1181 : decode cL_law 1181 = .ok (.aload_n 0, 1) := by decide +kernel
theorem dL_law_1182 : decode cL_law 1182 = .ok (.iload_n 3, 1) := by decide +kernel
theorem dL_law_1183 : decode cL_law 1183 = .ok (.iconst 1, 1) := by decide +kernel
theorem dL_law_1184 : decode cL_law 1184 = .ok (.iadd, 1) := by decide +kernel
theorem dL_law_1185 : decode cL_law 1185 = .ok (.iaload, 1) := by decide +kernel
theorem dL_law_1186 : decode cL_law 1186 = .ok (.aload_n 0, 1) := by decide +kernel
theorem dL_law_1187 : decode cL_law 1187 = .ok (.iload_n 3, 1) := by decide +kernel
theorem dL_law_1188 : decode cL_law 1188 = .ok (.iconst 2, 1) := by decide +kernel
theorem dL_law_1189 : decode cL_law 1189 = .ok (.iadd, 1) := by decide +kernel
theorem dL_law_1190 : decode cL_law 1190 = .ok (.iaload, 1) := by decide +kernel
theorem dL_law_1191 : decode cL_law 1191 = .ok (.aload_n 0, 1) := by decide +kernel
theorem dL_law_1192 : decode cL_law 1192 = .ok (.iload_n 3, 1) := by decide +kernel
theorem dL_law_1193 : decode cL_law 1193 = .ok (.iconst 3, 1) := by decide +kernel
theorem dL_law_1194 : decode cL_law 1194 = .ok (.iadd, 1) := by decide +kernel
theorem dL_law_1195 : decode cL_law 1195 = .ok (.iaload, 1) := by decide +kernel
theorem dL_law_1196 : decode cL_law 1196 = .ok (.invokevirtual 139, 3) := by decide +kernel
theorem dL_law_1199 : decode cL_law 1199 = .ok (.if_icmp .eq 222, 3) := by decide +kernel
theorem dL_law_1202 : decode cL_law 1202 = .ok (.iconst 0, 1) := by decide +kernel
theorem dL_law_1203 : decode cL_law 1203 = .ok (.ireturn, 1) := by decide +kernel
theorem dL_law_1204 : decode cL_law 1204 = .ok (.aload_n 1, 1) := by decide +kernel
theorem dL_law_1205 : decode cL_law 1205 = .ok (.aload_n 0, 1) := by decide +kernel
theorem dL_law_1206 : decode cL_law 1206 = .ok (.iload_n 3, 1) := by decide +kernel
theorem dL_law_1207 : decode cL_law 1207 = .ok (.iconst 1, 1) := by decide +kernel
theorem dL_law_1208 : decode cL_law 1208 = .ok (.iadd, 1) := by decide +kernel
theorem dL_law_1209 : decode cL_law 1209 = .ok (.iaload, 1) := by decide +kernel
theorem dL_law_1210 : decode cL_law 1210 = .ok (.aload_n 0, 1) := by decide +kernel
theorem dL_law_1211 : decode cL_law 1211 = .ok (.iload_n 3, 1) := by decide +kernel
theorem dL_law_1212 : decode cL_law 1212 = .ok (.iconst 2, 1) := by decide +kernel
theorem dL_law_1213 : decode cL_law 1213 = .ok (.iadd, 1) := by decide +kernel
theorem dL_law_1214 : decode cL_law 1214 = .ok (.iaload, 1) := by decide +kernel
theorem dL_law_1215 : decode cL_law 1215 = .ok (.aload_n 0, 1) := by decide +kernel
theorem dL_law_1216 : decode cL_law 1216 = .ok (.iload_n 3, 1) := by decide +kernel
theorem dL_law_1217 : decode cL_law 1217 = .ok (.iconst 3, 1) := by decide +kernel
theorem dL_law_1218 : decode cL_law 1218 = .ok (.iadd, 1) := by decide +kernel
theorem dL_law_1219 : decode cL_law 1219 = .ok (.iaload, 1) := by decide +kernel
theorem dL_law_1220 : decode cL_law 1220 = .ok (.aload_n 0, 1) := by decide +kernel
theorem dL_law_1221 : decode cL_law 1221 = .ok (.iload_n 3, 1) := by decide +kernel
theorem dL_law_1222 : decode cL_law 1222 = .ok (.iconst 4, 1) := by decide +kernel
theorem dL_law_1223 : decode cL_law 1223 = .ok (.iadd, 1) := by decide +kernel
theorem dL_law_1224 : decode cL_law 1224 = .ok (.iaload, 1) := by decide +kernel
theorem dL_law_1225 : decode cL_law 1225 = .ok (.aload_n 0, 1) := by decide +kernel
theorem dL_law_1226 : decode cL_law 1226 = .ok (.iload_n 3, 1) := by decide +kernel
theorem dL_law_1227 : decode cL_law 1227 = .ok (.iconst 5, 1) := by decide +kernel
theorem dL_law_1228 : decode cL_law 1228 = .ok (.iadd, 1) := by decide +kernel
theorem dL_law_1229 : decode cL_law 1229 = .ok (.iaload, 1) := by decide +kernel
theorem dL_law_1230 : decode cL_law 1230 = .ok (.invokevirtual 140, 3) := by decide +kernel
theorem dL_law_1233 : decode cL_law 1233 = .ok (.aload_n 2, 1) := by decide +kernel
theorem dL_law_1234 : decode cL_law 1234 = .ok (.aload_n 0, 1) := by decide +kernel
theorem dL_law_1235 : decode cL_law 1235 = .ok (.iload_n 3, 1) := by decide +kernel
theorem dL_law_1236 : decode cL_law 1236 = .ok (.iconst 1, 1) := by decide +kernel
theorem dL_law_1237 : decode cL_law 1237 = .ok (.iadd, 1) := by decide +kernel
theorem dL_law_1238 : decode cL_law 1238 = .ok (.iaload, 1) := by decide +kernel
theorem dL_law_1239 : decode cL_law 1239 = .ok (.aload_n 0, 1) := by decide +kernel
theorem dL_law_1240 : decode cL_law 1240 = .ok (.iload_n 3, 1) := by decide +kernel
theorem dL_law_1241 : decode cL_law 1241 = .ok (.iconst 2, 1) := by decide +kernel
theorem dL_law_1242 : decode cL_law 1242 = .ok (.iadd, 1) := by decide +kernel
theorem dL_law_1243 : decode cL_law 1243 = .ok (.iaload, 1) := by decide +kernel
theorem dL_law_1244 : decode cL_law 1244 = .ok (.aload_n 0, 1) := by decide +kernel
theorem dL_law_1245 : decode cL_law 1245 = .ok (.iload_n 3, 1) := by decide +kernel
theorem dL_law_1246 : decode cL_law 1246 = .ok (.iconst 3, 1) := by decide +kernel
theorem dL_law_1247 : decode cL_law 1247 = .ok (.iadd, 1) := by decide +kernel
theorem dL_law_1248 : decode cL_law 1248 = .ok (.iaload, 1) := by decide +kernel
theorem dL_law_1249 : decode cL_law 1249 = .ok (.aload_n 0, 1) := by decide +kernel
theorem dL_law_1250 : decode cL_law 1250 = .ok (.iload_n 3, 1) := by decide +kernel
theorem dL_law_1251 : decode cL_law 1251 = .ok (.iconst 4, 1) := by decide +kernel
theorem dL_law_1252 : decode cL_law 1252 = .ok (.iadd, 1) := by decide +kernel
theorem dL_law_1253 : decode cL_law 1253 = .ok (.iaload, 1) := by decide +kernel
theorem dL_law_1254 : decode cL_law 1254 = .ok (.aload_n 0, 1) := by decide +kernel
theorem dL_law_1255 : decode cL_law 1255 = .ok (.iload_n 3, 1) := by decide +kernel
theorem dL_law_1256 : decode cL_law 1256 = .ok (.iconst 5, 1) := by decide +kernel
theorem dL_law_1257 : decode cL_law 1257 = .ok (.iadd, 1) := by decide +kernel
theorem dL_law_1258 : decode cL_law 1258 = .ok (.iaload, 1) := by decide +kernel
theorem dL_law_1259 : decode cL_law 1259 = .ok (.invokevirtual 144, 3) := by decide +kernel
theorem dL_law_1262 : decode cL_law 1262 = .ok (.if_icmp .eq 159, 3) := by decide +kernel
theorem dL_law_1265 : decode cL_law 1265 = .ok (.iconst 0, 1) := by decide +kernel
theorem dL_law_1266 : decode cL_law 1266 = .ok (.ireturn, 1) := by decide +kernel
theorem dL_law_1267 : decode cL_law 1267 = .ok (.aload_n 1, 1) := by decide +kernel
theorem dL_law_1268 : decode cL_law 1268 = .ok (.aload_n 0, 1) := by decide +kernel
theorem dL_law_1269 : decode cL_law 1269 = .ok (.iload_n 3, 1) := by decide +kernel
theorem dL_law_1270 : decode cL_law 1270 = .ok (.iconst 1, 1) := by decide +kernel
theorem dL_law_1271 : decode cL_law 1271 = .ok (.iadd, 1) := by decide +kernel
theorem dL_law_1272 : decode cL_law 1272 = .ok (.iaload, 1) := by decide +kernel
theorem dL_law_1273 : decode cL_law 1273 = .ok (.invokevirtual 145, 3) := by decide +kernel
theorem dL_law_1276 : decode cL_law 1276 = .ok (.aload_n 2, 1) := by decide +kernel
theorem dL_law_1277 : decode cL_law 1277 = .ok (.aload_n 0, 1) := by decide +kernel
theorem dL_law_1278 : decode cL_law 1278 = .ok (.iload_n 3, 1) := by decide +kernel
theorem dL_law_1279 : decode cL_law 1279 = .ok (.iconst 1, 1) := by decide +kernel
theorem dL_law_1280 : decode cL_law 1280 = .ok (.iadd, 1) := by decide +kernel
theorem dL_law_1281 : decode cL_law 1281 = .ok (.iaload, 1) := by decide +kernel
theorem dL_law_1282 : decode cL_law 1282 = .ok (.invokevirtual 148, 3) := by decide +kernel
theorem dL_law_1285 : decode cL_law 1285 = .ok (.if_icmp .eq 136, 3) := by decide +kernel
theorem dL_law_1288 : decode cL_law 1288 = .ok (.iconst 0, 1) := by decide +kernel
theorem dL_law_1289 : decode cL_law 1289 = .ok (.ireturn, 1) := by decide +kernel
theorem dL_law_1290 : decode cL_law 1290 = .ok (.aload_n 1, 1) := by decide +kernel
theorem dL_law_1291 : decode cL_law 1291 = .ok (.aload_n 0, 1) := by decide +kernel
theorem dL_law_1292 : decode cL_law 1292 = .ok (.iload_n 3, 1) := by decide +kernel
theorem dL_law_1293 : decode cL_law 1293 = .ok (.iconst 1, 1) := by decide +kernel
theorem dL_law_1294 : decode cL_law 1294 = .ok (.iadd, 1) := by decide +kernel
theorem dL_law_1295 : decode cL_law 1295 = .ok (.iaload, 1) := by decide +kernel
theorem dL_law_1296 : decode cL_law 1296 = .ok (.invokevirtual 149, 3) := by decide +kernel
theorem dL_law_1299 : decode cL_law 1299 = .ok (.aload_n 2, 1) := by decide +kernel
theorem dL_law_1300 : decode cL_law 1300 = .ok (.aload_n 0, 1) := by decide +kernel
theorem dL_law_1301 : decode cL_law 1301 = .ok (.iload_n 3, 1) := by decide +kernel
theorem dL_law_1302 : decode cL_law 1302 = .ok (.iconst 1, 1) := by decide +kernel
theorem dL_law_1303 : decode cL_law 1303 = .ok (.iadd, 1) := by decide +kernel
theorem dL_law_1304 : decode cL_law 1304 = .ok (.iaload, 1) := by decide +kernel
theorem dL_law_1305 : decode cL_law 1305 = .ok (.invokevirtual 152, 3) := by decide +kernel
theorem dL_law_1308 : decode cL_law 1308 = .ok (.if_icmp .eq 113, 3) := by decide +kernel
theorem dL_law_1311 : decode cL_law 1311 = .ok (.iconst 0, 1) := by decide +kernel
theorem dL_law_1312 : decode cL_law 1312 = .ok (.ireturn, 1) := by decide +kernel
theorem dL_law_1313 : decode cL_law 1313 = .ok (.aload_n 1, 1) := by decide +kernel
theorem dL_law_1314 : decode cL_law 1314 = .ok (.invokevirtual 153, 3) := by decide +kernel
theorem dL_law_1317 : decode cL_law 1317 = .ok (.aload_n 2, 1) := by decide +kernel
theorem dL_law_1318 : decode cL_law 1318 = .ok (.invokevirtual 157, 3) := by decide +kernel
theorem dL_law_1321 : decode cL_law 1321 = .ok (.if_icmp .eq 100, 3) := by decide +kernel
theorem dL_law_1324 : decode cL_law 1324 = .ok (.iconst 0, 1) := by decide +kernel
theorem dL_law_1325 : decode cL_law 1325 = .ok (.ireturn, 1) := by decide +kernel
theorem dL_law_1326 : decode cL_law 1326 = .ok (.aload_n 1, 1) := by decide +kernel
theorem dL_law_1327 : decode cL_law 1327 = .ok (.invokevirtual 158, 3) := by decide +kernel
theorem dL_law_1330 : decode cL_law 1330 = .ok (.aload_n 2, 1) := by decide +kernel
theorem dL_law_1331 : decode cL_law 1331 = .ok (.invokevirtual 161, 3) := by decide +kernel
theorem dL_law_1334 : decode cL_law 1334 = .ok (.if_icmp .eq 87, 3) := by decide +kernel
theorem dL_law_1337 : decode cL_law 1337 = .ok (.iconst 0, 1) := by decide +kernel
theorem dL_law_1338 : decode cL_law 1338 = .ok (.ireturn, 1) := by decide +kernel
theorem dL_law_1339 : decode cL_law 1339 = .ok (.aload_n 1, 1) := by decide +kernel
theorem dL_law_1340 : decode cL_law 1340 = .ok (.aload_n 0, 1) := by decide +kernel
theorem dL_law_1341 : decode cL_law 1341 = .ok (.iload_n 3, 1) := by decide +kernel
theorem dL_law_1342 : decode cL_law 1342 = .ok (.iconst 1, 1) := by decide +kernel
theorem dL_law_1343 : decode cL_law 1343 = .ok (.iadd, 1) := by decide +kernel
theorem dL_law_1344 : decode cL_law 1344 = .ok (.iaload, 1) := by decide +kernel
theorem dL_law_1345 : decode cL_law 1345 = .ok (.invokevirtual 162, 3) := by decide +kernel
theorem dL_law_1348 : decode cL_law 1348 = .ok (.aload_n 2, 1) := by decide +kernel
theorem dL_law_1349 : decode cL_law 1349 = .ok (.aload_n 0, 1) := by decide +kernel
theorem dL_law_1350 : decode cL_law 1350 = .ok (.iload_n 3, 1) := by decide +kernel
theorem dL_law_1351 : decode cL_law 1351 = .ok (.iconst 1, 1) := by decide +kernel
theorem dL_law_1352 : decode cL_law 1352 = .ok (.iadd, 1) := by decide +kernel
theorem dL_law_1353 : decode cL_law 1353 = .ok (.iaload, 1) := by decide +kernel
theorem dL_law_1354 : decode cL_law 1354 = .ok (.invokevirtual 165, 3) := by decide +kernel
theorem dL_law_1357 : decode cL_law 1357 = .ok (.if_icmp .eq 64, 3) := by decide +kernel
theorem dL_law_1360 : decode cL_law 1360 = .ok (.iconst 0, 1) := by decide +kernel
theorem dL_law_1361 : decode cL_law 1361 = .ok (.ireturn, 1) := by decide +kernel
theorem dL_law_1362 : decode cL_law 1362 = .ok (.aload_n 1, 1) := by decide +kernel
theorem dL_law_1363 : decode cL_law 1363 = .ok (.invokevirtual 166, 3) := by decide +kernel
theorem dL_law_1366 : decode cL_law 1366 = .ok (.aload_n 2, 1) := by decide +kernel
theorem dL_law_1367 : decode cL_law 1367 = .ok (.invokevirtual 169, 3) := by decide +kernel
theorem dL_law_1370 : decode cL_law 1370 = .ok (.if_icmp .eq 51, 3) := by decide +kernel
theorem dL_law_1373 : decode cL_law 1373 = .ok (.iconst 0, 1) := by decide +kernel
theorem dL_law_1374 : decode cL_law 1374 = .ok (.ireturn, 1) := by decide +kernel
theorem dL_law_1375 : decode cL_law 1375 = .ok (.aload_n 1, 1) := by decide +kernel
theorem dL_law_1376 : decode cL_law 1376 = .ok (.aload_n 0, 1) := by decide +kernel
theorem dL_law_1377 : decode cL_law 1377 = .ok (.iload_n 3, 1) := by decide +kernel
theorem dL_law_1378 : decode cL_law 1378 = .ok (.iconst 1, 1) := by decide +kernel
theorem dL_law_1379 : decode cL_law 1379 = .ok (.iadd, 1) := by decide +kernel
theorem dL_law_1380 : decode cL_law 1380 = .ok (.iaload, 1) := by decide +kernel
theorem dL_law_1381 : decode cL_law 1381 = .ok (.invokevirtual 170, 3) := by decide +kernel
theorem dL_law_1384 : decode cL_law 1384 = .ok (.aload_n 2, 1) := by decide +kernel
theorem dL_law_1385 : decode cL_law 1385 = .ok (.aload_n 0, 1) := by decide +kernel
theorem dL_law_1386 : decode cL_law 1386 = .ok (.iload_n 3, 1) := by decide +kernel
theorem dL_law_1387 : decode cL_law 1387 = .ok (.iconst 1, 1) := by decide +kernel
theorem dL_law_1388 : decode cL_law 1388 = .ok (.iadd, 1) := by decide +kernel
theorem dL_law_1389 : decode cL_law 1389 = .ok (.iaload, 1) := by decide +kernel
theorem dL_law_1390 : decode cL_law 1390 = .ok (.invokevirtual 173, 3) := by decide +kernel
theorem dL_law_1393 : decode cL_law 1393 = .ok (.if_icmp .eq 28, 3) := by decide +kernel
theorem dL_law_1396 : decode cL_law 1396 = .ok (.iconst 0, 1) := by decide +kernel
theorem dL_law_1397 : decode cL_law 1397 = .ok (.ireturn, 1) := by decide +kernel
theorem dL_law_1398 : decode cL_law 1398 = .ok (.aload_n 1, 1) := by decide +kernel
theorem dL_law_1399 : decode cL_law 1399 = .ok (.aload_n 0, 1) := by decide +kernel
theorem dL_law_1400 : decode cL_law 1400 = .ok (.iload_n 3, 1) := by decide +kernel
theorem dL_law_1401 : decode cL_law 1401 = .ok (.iconst 1, 1) := by decide +kernel
theorem dL_law_1402 : decode cL_law 1402 = .ok (.iadd, 1) := by decide +kernel
theorem dL_law_1403 : decode cL_law 1403 = .ok (.iaload, 1) := by decide +kernel
theorem dL_law_1404 : decode cL_law 1404 = .ok (.invokevirtual 174, 3) := by decide +kernel
theorem dL_law_1407 : decode cL_law 1407 = .ok (.aload_n 2, 1) := by decide +kernel
theorem dL_law_1408 : decode cL_law 1408 = .ok (.aload_n 0, 1) := by decide +kernel
theorem dL_law_1409 : decode cL_law 1409 = .ok (.iload_n 3, 1) := by decide +kernel
theorem dL_law_1410 : decode cL_law 1410 = .ok (.iconst 1, 1) := by decide +kernel
theorem dL_law_1411 : decode cL_law 1411 = .ok (.iadd, 1) := by decide +kernel
theorem dL_law_1412 : decode cL_law 1412 = .ok (.iaload, 1) := by decide +kernel
theorem dL_law_1413 : decode cL_law 1413 = .ok (.invokevirtual 177, 3) := by decide +kernel
theorem dL_law_1416 : decode cL_law 1416 = .ok (.if_icmp .eq 5, 3) := by decide +kernel
theorem dL_law_1419 : decode cL_law 1419 = .ok (.iconst 0, 1) := by decide +kernel
theorem dL_law_1420 : decode cL_law 1420 = .ok (.ireturn, 1) := by decide +kernel
theorem dL_law_1421 : decode cL_law 1421 = .ok (.iinc 3 6, 3) := by decide +kernel
theorem dL_law_1424 : decode cL_law 1424 = .ok (.goto (-1406), 3) := by decide +kernel
theorem dL_law_1427 : decode cL_law 1427 = .ok (.iconst 1, 1) := by decide +kernel
theorem dL_law_1428 : decode cL_law 1428 = .ok (.ireturn, 1) := by decide +kernel
end
section
-- THE PURE PICTURE: every cell of the two systems by a small number; its ints in one function of (cell, place)
abbrev S_ : Type := Nat → Nat → Int32
def up (σ : S_) (a k : Nat) (v : Int32) : S_ := fun b j => if b = a then (if j = k then v else σ b j) else σ b j
/-- a method: name, bytes, locals, answer -/
abbrev MM : Type := MethodName × ByteArray × Nat × Option FieldType
/-- what is the same in a whole run: launch, classes' numbers, arrays' classes, addresses, the first new address, the script -/
abbrev GT : Type := Launch × va_G × (Nat → ClassId) × (Nat → Nat) × Nat × Nat × (Nat → Int32)
abbrev gl (g : GT) : Launch := g.1
abbrev gD (g : GT) : va_G := g.2.1
abbrev gcA (g : GT) : Nat → ClassId := g.2.2.1
abbrev gad (g : GT) : Nat → Nat := g.2.2.2.1
abbrev gb (g : GT) : Nat := g.2.2.2.2.1
abbrev gL (g : GT) : Nat := g.2.2.2.2.2.1
abbrev gx (g : GT) : Nat → Int32 := g.2.2.2.2.2.2
abbrev gA (g : GT) : Nat → Prop := fun q => gb g ≤ q
def clsL : List vw_C := [(RX0, TX0, 6), (RX1, TX1, 5), (RX2, TX2, 3), (RX3, TX3, 4), (RX4, TX4, 6), (RX5, TX5, 6), (RX6, TX6, 14), (RX7, TX7, 8), (RX8, TX8, 25)]
/-- a class's fields: 0 an int, 1 a cell (always the same), 2 a String constant -/
def fT (ci : Nat) : List Nat := ([[0,0,0,0,0,0], [1,1,0,0,2], [1,0,0], [1,1,1,0], [1,1,1,1,1,0], [1,0,0,0,0,0], [1,0,1,1,0,1,0,0,0,1,0,1,1,0], [1,1,1,1,1,1,1,0], [1,1,1,0,1,0,0,0,0,1,1,1,1,1,1,1,0,0,1,0,0,1,1,1,1]] : List (List Nat)).getD ci []
/-- the cells: (0, n) ints, (1, n) bytes, (2, n) cells of a class, (3, c) an object of class c -/
def tC : List (Nat × Nat) := [
  (3,7), (2,4), (0,7), (3,4), (0,7), (0,4), (0,7), (0,7),
  (3,6), (2,7), (0,4), (0,4), (0,3), (1,60), (2,2), (0,24), (3,0), (3,0), (3,0), (3,0), (3,0), (3,0), (3,0), (3,3), (0,60), (0,60), (0,60), (3,3), (0,60), (0,60), (0,60),
  (3,6), (2,7), (0,4), (0,4), (0,3), (1,60), (2,2), (0,24), (3,0), (3,0), (3,0), (3,0), (3,0), (3,0), (3,0), (3,3), (0,60), (0,60), (0,60), (3,3), (0,60), (0,60), (0,60),
  (3,1), (0,60), (3,3), (0,60), (0,60), (0,60), (3,5), (0,30), (3,2), (0,24), (3,2), (0,24), (3,2), (0,24), (3,2), (0,24),
  (3,8), (0,394), (0,394), (0,60), (0,7), (0,124), (0,128), (0,64), (0,7), (0,7), (0,7), (0,4), (0,30), (0,4), (0,4), (0,96), (0,24)]
/-- which cell a place of a cell holds -/
def rf (a k : Nat) : Nat := (match a with
  | 0 => [8, 31, 3, 54, 60, 1, 2]
  | 1 => [62, 64, 66, 68]
  | 3 => [8, 4, 5, 6, 7]
  | 8 => [9, 0, 10, 11, 0, 12, 0, 0, 0, 13, 0, 14, 15]
  | 9 => [16, 17, 18, 19, 20, 21, 22]
  | 14 => [23, 27]
  | 23 => [24, 25, 26]
  | 27 => [28, 29, 30]
  | 31 => [32, 0, 33, 34, 0, 35, 0, 0, 0, 36, 0, 37, 38]
  | 32 => [39, 40, 41, 42, 43, 44, 45]
  | 37 => [46, 50]
  | 46 => [47, 48, 49]
  | 50 => [51, 52, 53]
  | 54 => [56, 55]
  | 56 => [57, 58, 59]
  | 60 => [61]
  | 62 => [63]
  | 64 => [65]
  | 66 => [67]
  | 68 => [69]
  | 70 => [71, 72, 73, 0, 74, 0, 0, 0, 0, 75, 76, 77, 78, 79, 80, 81, 0, 0, 82, 0, 0, 83, 84, 85, 86]
  | _ => ([] : List Nat)).getD k 0
/-- the class of a row of cells -/
def rcl (a : Nat) : String := if a = 1 then RX2 else if a = 9 ∨ a = 32 then RX0 else RX3
def aty (a : Nat) : Option FieldType := match tC[a]? with
  | some (0, _) => some .int
  | some (1, _) => some .byte
  | some (2, _) => some (.object (rcl a))
  | _ => none
def vV (g : GT) (σ : S_) (a k t : Nat) : Value := if t = 0 then .int (σ a k) else if t = 1 then .ref (gad g (rf a k)) else .ref (gad g (100 + (σ a k).toNatClampNeg))
def cel (g : GT) (σ : S_) (a : Nat) : va_E := match tC[a]? with
  | some (0, n) => .inl (gcA g a, n, .inl (σ a))
  | some (1, n) => .inl (gcA g a, n, .inl (fun i => vp_nar .byte (σ a i)))
  | some (2, n) => .inl (gcA g a, n, .inr (.inr (.inr (.inr (fun i => some (gad g (rf a i)))))))
  | some (_, c) => .inr (c, (List.range (fT c).length).map (fun k => vV g σ a k ((fT c).getD k 0)))
  | none => .inr (0, [])
def cws (g : GT) (σ : S_) : va_W := (List.range 87).map (fun k => (gad g k, cel g σ k))
def tr (g : GT) : Value → Value
  | .ref k => .ref (gad g k)
  | v => v
def stL (g : GT) (i : Nat) : Nat := if i = 0 then 7 else if i = 1 then 28 else gL g
def kab : List Int32 := [-1, 0, 0, 0, 1, 2, 0]
def bdy : List Int32 := [10, 11, 12, 13, 20, 0, 0, 21, 0, 30, 0, 0, 0, 0, 40, 0, 50, 0, 51, 0, 0, 60, 0, 0, 70, 71, 0, 0]
def stF (g : GT) (i : Nat) : Nat → Int32 := if i = 0 then (fun j => kab.getD j 0) else if i = 1 then (fun j => bdy.getD j 0) else gx g
def sLen : List Nat := [0, 3, 3]
def sByt : List (List Int32) := [[], [103, 100, 104], [112, 100, 115]]
def AD (g : GT) : Prop := (∀ i j, i < 87 → j < 87 → gad g i = gad g j → i = j) ∧ ∀ k, k < 87 → gb g ≤ gad g k
def KN (g : GT) (U : State) : Prop := (∀ (c : Nat) (q : vw_C), clsL[c]? = some q → u_Kn U q.1 q.2.1 q.2.2 ((gD g).1 c) ((gD g).2 c)) ∧ ∀ (a : Nat) (ty : FieldType), aty a = some ty → ArrOfT U (gcA g a) ty ∧ va_RA U (gcA g a) ty
def STh (g : GT) (U : State) (H : Heap) : Prop :=
  vk_S 3 sLen sByt (fun i => gad g (100 + i)) (fun i => gad g (110 + i)) (gA g) U H ∧ va_Z "java/lang/String" "COMPACT_STRINGS" "Z" (.int 1) (gA g) U H ∧ va_Z "ThirstPay" "KIND_ABOVE" "[I" (.ref (gad g 120)) (gA g) U H ∧ va_Z "ThirstPay$Voices" "BODIES" "[I" (.ref (gad g 121)) (gA g) U H ∧ ∀ i, i < 3 → va_T .int (gad g (120 + i)) (stL g i) (fun j => .int (stF g i j)) (gA g) U H
def STk (g : GT) (U : State) : Prop := vk_R RX7 311 "gdh" (gad g 101) U ∧ vk_R RX7 313 "pds" (gad g 102) U
def RU (g : GT) (σ : S_) (U : State) : Prop := AD g ∧ va_P (gD g) clsL (cws g σ) U.heap ∧ KN g U ∧ STh g U U.heap ∧ STk g U
theorem KN.moved {g : GT} {u U : State} (hvm : u.vm.Alike U.vm) (h : KN g u) : KN g U := ⟨fun c q hq => u_Kn_moved hvm (h.1 c q hq), fun a ty ha => ⟨arrOfT_moved hvm (h.2 a ty ha).1, (h.2 a ty ha).2.moved hvm⟩⟩
theorem STh.moved {g : GT} {u U : State} {H : Heap} (hvm : u.vm.Alike U.vm) (h : STh g u H) : STh g U H := ⟨h.1.moved hvm, h.2.1.moved hvm, h.2.2.1.moved hvm, h.2.2.2.1.moved hvm, fun i hi => (h.2.2.2.2 i hi).moved hvm⟩
theorem STh.kept {g : GT} {U : State} {H H1 : Heap} (h : STh g U H) (hq : ∀ a : Nat, a < H.size → ¬ gA g a → H1[a]? = H[a]?) : STh g U H1 := ⟨h.1.kept hq, h.2.1.kept hq, h.2.2.1.kept hq, h.2.2.2.1.kept hq, fun i hi => (h.2.2.2.2 i hi).kept hq⟩
theorem STk.warm {g : GT} {s U : State} (hW : s.WarmedH U.vm) (h : STk g s) : STk g U := ⟨h.1.warm hW, h.2.warm hW⟩
theorem STk.same {g : GT} {u U : State} (hv : U.vm = u.vm) (h : STk g u) : STk g U := ⟨h.1.same hv, h.2.same hv⟩
-- the world's cells by their numbers
theorem cws_at (g : GT) (σ : S_) {k : Nat} (hk : k < 87) : (cws g σ)[k]? = some (gad g k, cel g σ k) := by
  unfold cws
  rw [List.getElem?_map, List.getElem?_range hk]
  rfl
theorem cws_len (g : GT) (σ : S_) : (cws g σ).length = 87 := by simp [cws]
theorem cws_set (g : GT) {σ τ : S_} {k : Nat} (hk : k < 87) (h : ∀ j, j ≠ k → cel g σ j = cel g τ j) : (cws g σ).set k (gad g k, cel g τ k) = cws g τ := by
  apply List.ext_getElem?
  intro j
  by_cases hj : j = k
  · subst hj
    rw [List.getElem?_set_self (by rw [cws_len]; exact hk), cws_at g τ hk]
  · rw [List.getElem?_set_ne (Ne.symm hj)]
    by_cases hj2 : j < 87
    · rw [cws_at g σ hj2, cws_at g τ hj2, h j hj]
    · rw [List.getElem?_eq_none (by rw [cws_len]; omega), List.getElem?_eq_none (by rw [cws_len]; omega)]
theorem cel_up_ne (g : GT) (σ : S_) {a k : Nat} {v : Int32} {j : Nat} (h : j ≠ a) : cel g σ j = cel g (up σ a k v) j := by
  have e : (up σ a k v) j = σ j := by funext i; simp [up, h]
  unfold cel vV
  rw [e]
theorem va_D_cws {g : GT} (h : AD g) (σ : S_) : va_D (gA g) (cws g σ) := by
  refine ⟨fun i j p q hi hj hpq => ?_, fun k q hk => ?_⟩
  · have li := (List.getElem?_eq_some_iff.mp hi).1
    have lj := (List.getElem?_eq_some_iff.mp hj).1
    rw [cws_len] at li lj
    rw [cws_at g σ li] at hi
    rw [cws_at g σ lj] at hj
    cases hi
    cases hj
    exact h.1 i j li lj hpq
  · have lk := (List.getElem?_eq_some_iff.mp hk).1
    rw [cws_len] at lk
    rw [cws_at g σ lk] at hk
    cases hk
    exact h.2 k lk
theorem KN.K {g : GT} {s : State} (h : KN g s) : va_K (gD g) clsL [] s := ⟨h.1, fun k q hk => by simp at hk⟩
theorem KN.K1 {g : GT} {s : State} (h : KN g s) {a : Nat} {ty : FieldType} (ha : aty a = some ty) : va_K (gD g) clsL [(gcA g a, ty)] s := by
  refine ⟨h.1, fun k q hk => ?_⟩
  match k, hk with
  | 0, hk => cases hk; exact h.2 a ty ha
  | k + 1, hk => simp at hk
theorem KN.K2 {g : GT} {s : State} (h : KN g s) {a b : Nat} {ty tz : FieldType} (ha : aty a = some ty) (hb : aty b = some tz) : va_K (gD g) clsL [(gcA g a, ty), (gcA g b, tz)] s := by
  refine ⟨h.1, fun k q hk => ?_⟩
  match k, hk with
  | 0, hk => cases hk; exact h.2 a ty ha
  | 1, hk => cases hk; exact h.2 b tz hb
  | k + 2, hk => simp at hk
/-- locals: the values by their places; .null stands for none -/
def lvl (g : GT) : Nat → List Value → List (Nat × Value)
  | _, [] => []
  | i, .null :: t => lvl g (i + 1) t
  | i, v :: t => (i, tr g v) :: lvl g (i + 1) t
def Rm (d : Nat) : Room := { frames := d, cells := 0, slots := 0, locals := 40 * d }
def QM (g : GT) (ret : Option FieldType) (Z : Value → S_ → Prop) : Array Value → State → Outcome → State → Prop := match ret with
  | none => va_Qv (fun u => Z .null u) (fun u t => va_P (gD g) clsL (cws g u) t.heap) (gA g)
  | some (.object _) => va_Qr (fun u : S_ × Nat => Z (.ref u.2) u.1) (fun u a t => a = gad g u.2 ∧ va_P (gD g) clsL (cws g u.1) t.heap) (gA g)
  | some _ => va_Qi (fun r u => Z (.int r) u) (fun u t => va_P (gD g) clsL (cws g u) t.heap) (gA g)
/-- THE CONTRACT: from the picture σ, with these arguments, the method ends; answer and picture behind it are in Z -/
def CT (g : GT) (d : Nat) (M : MM) (as : List Value) (σ : S_) (Z : Value → S_ → Prop) : Prop :=
  Met (gl g) M.1 (Cond.code M.1 M.2.1 M.2.2.1 M.2.2.2 :: lw_g) (Rm d) (va_Pc (as.map (tr g)) (RU g σ)) (QM g M.2.2.2 Z) 0 0 (gA g)
def IR (M : MM) (pc : Nat) (v : Value) : Prop := match v with
  | .int x => decode M.2.1 pc = .ok (.ireturn, 1) ∧ ∃ ty, M.2.2.2 = some ty ∧ narrow ty (.int x) = .int x ∧ ∀ n, ty ≠ .object n
  | .null => decode M.2.1 pc = .ok (.return_, 1) ∧ M.2.2.2 = none
  | .ref _ => decode M.2.1 pc = .ok (.areturn, 1) ∧ ∃ n, M.2.2.2 = some (.object n)
  | _ => False
def rv (g : GT) (v : Value) : List Value := match v with
  | .null => []
  | v => [tr g v]
/-- a method's frame: what is known of the machine -/
def CX (g : GT) (d : Nat) (M : MM) (p : Program) (R : Room) (s : State) (m : MethodId) (args : Array Value) (c : Code) (cells slots : Nat) : Prop :=
  p.tables.exec = Jvm.exec ∧ c.code = M.2.1 ∧ c.maxLocals = M.2.2.1 ∧ s.vm.findClass M.1.cls = some m.cls ∧ (∀ w ∈ lw_g, w.before args s = true) ∧ AD g ∧ KN g s ∧ STh g s s.heap ∧ STk g s ∧ (d ≤ R.frames ∧ 40 * d ≤ R.locals) ∧ (cells ≤ R.cells ∧ slots ≤ R.slots)
/-- from this place of a method, with these locals, this stack and this picture, the method comes to its end, with Z -/
def J (g : GT) (d : Nat) (M : MM) (Z : Value → S_ → Prop) (pc : Nat) (ls st : List Value) (σ : S_) : Prop :=
  ∀ (p : Program) (e : Env) (R : Room) (s : State) (m : MethodId) (args : Array Value) (below : List Frame) (meth : Method) (c : Code) (H : Heap) (locs : List Loc) (cells slots : Nat) (Q : State → Prop) (arr : Array Slot),
    CX g d M p R s m args c cells slots → va_S (gA g) s.heap H locs → va_P (gD g) clsL (cws g σ) H → lv_has arr M.2.2.1 (lvl g 0 ls) →
    (∀ (pc' : Nat) (arr' : Array Slot) (v : Value) (H' : Heap) (locs' : List Loc) (τ : S_), Z v τ → IR M pc' v → va_S (gA g) s.heap H' locs' → va_P (gD g) clsL (cws g τ) H' → W p (gl g) e R s m args below meth c H' locs' cells slots Q (F0 m pc' arr' (rv g v))) →
    W p (gl g) e R s m args below meth c H locs cells slots Q (F0 m pc arr (st.map (tr g)))
theorem J.mono {g : GT} {d : Nat} {M : MM} {Z Z' : Value → S_ → Prop} {pc : Nat} {ls st : List Value} {σ : S_} (h : J g d M Z pc ls st σ) (hz : ∀ v τ, Z v τ → Z' v τ) : J g d M Z' pc ls st σ :=
  fun p e R s m args below meth c H locs cells slots Q arr C hS hP hl K => h p e R s m args below meth c H locs cells slots Q arr C hS hP hl (fun pc' arr' v H' locs' τ z => K pc' arr' v H' locs' τ (hz v τ z))
theorem lvl_mem {g : GT} {v : Value} (hv : v ≠ .null) : ∀ (ls : List Value) (i o : Nat), ls[i]? = some v → (i + o, tr g v) ∈ lvl g o ls := by
  intro ls
  induction ls with
  | nil => intro i o h; simp at h
  | cons w t ih =>
    intro i o h
    cases i with
    | zero =>
      simp at h
      subst h
      cases w <;> first | exact absurd rfl hv | simp [lvl]
    | succ i =>
      have h2 := ih i (o + 1) (by simpa using h)
      rw [show i + (o + 1) = i + 1 + o by omega] at h2
      cases w <;> simp [lvl, h2]
theorem lvl_at {g : GT} {arr : Array Slot} {nL : Nat} {ls : List Value} (h : lv_has arr nL (lvl g 0 ls)) {i : Nat} {v : Value} (hv : v ≠ .null) (hi : ls[i]? = some v) : arr[i]? = some (.val (tr g v)) := by
  have := h.2.2 _ (lvl_mem (g := g) hv ls i 0 hi)
  simpa using this
end
section
section JR
variable {g : GT} {d : Nat} {M : MM} {Z : Value → S_ → Prop} {pc q : Nat} {ls st : List Value} {σ : S_}
theorem lvl_in {g : GT} {z : Nat × Value} : ∀ (ls : List Value) (o : Nat), z ∈ lvl g o ls → ∃ j v, ls[j]? = some v ∧ v ≠ .null ∧ z = (j + o, tr g v) := by
  intro ls
  induction ls with
  | nil => intro o h; simp [lvl] at h
  | cons w t ih =>
    intro o h
    by_cases hw : w = .null
    · subst hw
      obtain ⟨j, v, h1, h2, h3⟩ := ih (o + 1) h
      exact ⟨j + 1, v, by simpa using h1, h2, by rw [h3]; congr 1; omega⟩
    · have h' : z ∈ (o, tr g w) :: lvl g (o + 1) t := by
        cases w <;> first | exact absurd rfl hw | exact h
      rcases List.mem_cons.mp h' with h | h
      · exact ⟨0, w, rfl, hw, by rw [h]; simp⟩
      · obtain ⟨j, v, h1, h2, h3⟩ := ih (o + 1) h
        exact ⟨j + 1, v, by simpa using h1, h2, by rw [h3]; congr 1; omega⟩
theorem tr_cat (g : GT) (v : Value) : (tr g v).category = v.category := by cases v <;> rfl
theorem tr_cats (g : GT) (st : List Value) : ((st.map (tr g)).map fun v => v.category).sum = (st.map fun v => v.category).sum := by
  rw [List.map_map]
  congr 1
  apply List.map_congr_left
  intro v _
  exact tr_cat g v
/-- no long stands just ahead of place i -/
def nlg (ls : List Value) (i : Nat) : Prop := ∀ j v, j + 1 = i → ls[j]? = some v → v.category ≠ 2
theorem lvl_store {g : GT} {arr : Array Slot} {nL i : Nat} {ls : List Value} {x : Value} (hL : nlg ls i) (h : lv_has arr nL ((i, tr g x) :: (lvl g 0 ls).filter (fun q => !(q.1 == i) && !(q.1 + 1 == i && q.2.category == 2)))) : lv_has arr nL (lvl g 0 (ls.set i x)) := by
  refine ⟨h.1, h.2.1, fun z hz => h.2.2 z ?_⟩
  obtain ⟨j, v, h1, h2, h3⟩ := lvl_in _ _ hz
  rw [Nat.add_zero] at h3
  by_cases hj : j = i
  · subst hj
    have hlt : j < ls.length := by
      have := (List.getElem?_eq_some_iff.mp h1).1
      simpa using this
    rw [List.getElem?_set_self hlt] at h1
    cases h1
    rw [h3]
    exact List.mem_cons_self
  · rw [List.getElem?_set_ne (Ne.symm hj)] at h1
    refine List.mem_cons_of_mem _ (List.mem_filter.mpr ⟨?_, ?_⟩)
    · have := lvl_mem (g := g) h2 ls j 0 h1
      rw [h3]
      simpa using this
    · rw [h3]
      have : ¬ (j + 1 = i ∧ (tr g v).category = 2) := fun q => hL j v q.1 h1 (by rw [← tr_cat g v]; exact q.2)
      simp [hj]
      by_cases e : j + 1 = i
      · exact Or.inr (fun q => this ⟨e, q⟩)
      · exact Or.inl e
theorem lvl_pos {g : GT} {ls : List Value} {i : Nat} {v : Value} (hv : v ≠ .null) (hi : ls[i]? = some v) : ∃ k : Nat, (lvl g 0 ls)[k]? = some (i, tr g v) := by
  have := lvl_mem (g := g) hv ls i 0 hi
  obtain ⟨k, hk⟩ := List.getElem?_of_mem this
  exact ⟨k, by simpa using hk⟩

theorem j_iload_n {k : Fin 4} {x : Int32} (hdg : decode M.2.1 pc = .ok (.iload_n k, 1)) (hq : pc + 1 = q) (hl : ls[(k : Nat)]? = some (.int x)) (h : J g d M Z q ls (.int x :: st) σ) : J g d M Z pc ls st σ := by
  subst hq
  intro p e R s m args below meth c H locs cells slots Q arr C hS hP hv K
  exact lv_iload_n C.1 C.2.1 hdg rfl (lvl_at hv (by simp) hl) (h p e R s m args below meth c H locs cells slots Q arr C hS hP hv K)
theorem j_iload {i : Nat} {x : Int32} (hdg : decode M.2.1 pc = .ok (.iload i, 2)) (hq : pc + 2 = q) (hl : ls[i]? = some (.int x)) (h : J g d M Z q ls (.int x :: st) σ) : J g d M Z pc ls st σ := by
  subst hq
  intro p e R s m args below meth c H locs cells slots Q arr C hS hP hv K
  exact lv_iload C.1 C.2.1 hdg (lvl_at hv (by simp) hl) (h p e R s m args below meth c H locs cells slots Q arr C hS hP hv K)
theorem j_aload_n {k : Fin 4} {x : Nat} (hdg : decode M.2.1 pc = .ok (.aload_n k, 1)) (hq : pc + 1 = q) (hl : ls[(k : Nat)]? = some (.ref x)) (h : J g d M Z q ls (.ref x :: st) σ) : J g d M Z pc ls st σ := by
  subst hq
  intro p e R s m args below meth c H locs cells slots Q arr C hS hP hv K
  exact lv_aload_n C.1 C.2.1 hdg rfl (lvl_at hv (by simp) hl) (h p e R s m args below meth c H locs cells slots Q arr C hS hP hv K)
theorem j_aload {i : Nat} {x : Nat} (hdg : decode M.2.1 pc = .ok (.aload i, 2)) (hq : pc + 2 = q) (hl : ls[i]? = some (.ref x)) (h : J g d M Z q ls (.ref x :: st) σ) : J g d M Z pc ls st σ := by
  subst hq
  intro p e R s m args below meth c H locs cells slots Q arr C hS hP hv K
  exact lv_aload C.1 C.2.1 hdg (lvl_at hv (by simp) hl) (h p e R s m args below meth c H locs cells slots Q arr C hS hP hv K)
theorem j_lload_n {k : Fin 4} {x : Int64} (hdg : decode M.2.1 pc = .ok (.lload_n k, 1)) (hq : pc + 1 = q) (hl : ls[(k : Nat)]? = some (.long x)) (h : J g d M Z q ls (.long x :: st) σ) : J g d M Z pc ls st σ := by
  subst hq
  intro p e R s m args below meth c H locs cells slots Q arr C hS hP hv K
  exact lv_lload_n C.1 C.2.1 hdg rfl (lvl_at hv (by simp) hl) (h p e R s m args below meth c H locs cells slots Q arr C hS hP hv K)
theorem j_istore_n {k : Fin 4} {x : Int32} (hdg : decode M.2.1 pc = .ok (.istore_n k, 1)) (hq : pc + 1 = q) (hn : (k : Nat) < M.2.2.1) (hL : nlg ls k) (h : J g d M Z q (ls.set k (.int x)) st σ) : J g d M Z pc ls (.int x :: st) σ := by
  subst hq
  intro p e R s m args below meth c H locs cells slots Q arr C hS hP hv K
  exact lv_istore_n C.1 C.2.1 hdg rfl hv hn rfl (fun arr' hv' => h p e R s m args below meth c H locs cells slots Q arr' C hS hP (lvl_store hL hv') K)
theorem j_istore {i : Nat} {x : Int32} (hdg : decode M.2.1 pc = .ok (.istore i, 2)) (hq : pc + 2 = q) (hn : i < M.2.2.1) (hL : nlg ls i) (h : J g d M Z q (ls.set i (.int x)) st σ) : J g d M Z pc ls (.int x :: st) σ := by
  subst hq
  intro p e R s m args below meth c H locs cells slots Q arr C hS hP hv K
  exact lv_istore C.1 C.2.1 hdg hv hn rfl (fun arr' hv' => h p e R s m args below meth c H locs cells slots Q arr' C hS hP (lvl_store hL hv') K)
theorem j_astore_n {k : Fin 4} {x : Nat} (hdg : decode M.2.1 pc = .ok (.astore_n k, 1)) (hq : pc + 1 = q) (hn : (k : Nat) < M.2.2.1) (hL : nlg ls k) (h : J g d M Z q (ls.set k (.ref x)) st σ) : J g d M Z pc ls (.ref x :: st) σ := by
  subst hq
  intro p e R s m args below meth c H locs cells slots Q arr C hS hP hv K
  exact lv_astore_n C.1 C.2.1 hdg rfl hv hn rfl (fun arr' hv' => h p e R s m args below meth c H locs cells slots Q arr' C hS hP (lvl_store hL hv') K)
theorem j_astore {i : Nat} {x : Nat} (hdg : decode M.2.1 pc = .ok (.astore i, 2)) (hq : pc + 2 = q) (hn : i < M.2.2.1) (hL : nlg ls i) (h : J g d M Z q (ls.set i (.ref x)) st σ) : J g d M Z pc ls (.ref x :: st) σ := by
  subst hq
  intro p e R s m args below meth c H locs cells slots Q arr C hS hP hv K
  exact lv_astore C.1 C.2.1 hdg hv hn rfl (fun arr' hv' => h p e R s m args below meth c H locs cells slots Q arr' C hS hP (lvl_store hL hv') K)
theorem j_iinc {i : Nat} {n : Int} {x : Int32} (hdg : decode M.2.1 pc = .ok (.iinc i n, 3)) (hq : pc + 3 = q) (hl : ls[i]? = some (.int x)) (hn : i < M.2.2.1) (hL : nlg ls i) (h : J g d M Z q (ls.set i (.int (x + Int32.ofInt n))) st σ) : J g d M Z pc ls st σ := by
  subst hq
  intro p e R s m args below meth c H locs cells slots Q arr C hS hP hv K
  obtain ⟨k, hk⟩ := lvl_pos (g := g) (by simp) hl
  exact lv_iinc C.1 C.2.1 hdg hv hk rfl hn rfl (fun arr' hv' => h p e R s m args below meth c H locs cells slots Q arr' C hS hP (lvl_store (x := .int (x + Int32.ofInt n)) hL hv') K)
theorem j_iconst {n : Int} {v : Int32} (hdg : decode M.2.1 pc = .ok (.iconst n, 1)) (hq : pc + 1 = q) (hv0 : Int32.ofInt n = v) (h : J g d M Z q ls (.int v :: st) σ) : J g d M Z pc ls st σ := by
  subst hq
  intro p e R s m args below meth c H locs cells slots Q arr C hS hP hv K
  exact lv_iconst C.1 C.2.1 hdg hv0 (h p e R s m args below meth c H locs cells slots Q arr C hS hP hv K)
theorem j_bipush {n : Int} {v : Int32} (hdg : decode M.2.1 pc = .ok (.bipush n, 2)) (hq : pc + 2 = q) (hv0 : (Int8.ofInt n).toInt32 = v) (h : J g d M Z q ls (.int v :: st) σ) : J g d M Z pc ls st σ := by
  subst hq
  intro p e R s m args below meth c H locs cells slots Q arr C hS hP hv K
  exact lv_bipush C.1 C.2.1 hdg hv0 (h p e R s m args below meth c H locs cells slots Q arr C hS hP hv K)
theorem j_sipush {n : Int} {v : Int32} (hdg : decode M.2.1 pc = .ok (.sipush n, 3)) (hq : pc + 3 = q) (hv0 : (Int16.ofInt n).toInt32 = v) (h : J g d M Z q ls (.int v :: st) σ) : J g d M Z pc ls st σ := by
  subst hq
  intro p e R s m args below meth c H locs cells slots Q arr C hS hP hv K
  exact lv_sipush C.1 C.2.1 hdg hv0 (h p e R s m args below meth c H locs cells slots Q arr C hS hP hv K)
theorem j_ldc {i : Nat} {v : Int32} (hw : Cond.constant M.1.cls i v ∈ lw_g) (hdg : decode M.2.1 pc = .ok (.ldc i, 2)) (hq : pc + 2 = q) (h : J g d M Z q ls (.int v :: st) σ) : J g d M Z pc ls st σ := by
  subst hq
  intro p e R s m args below meth c H locs cells slots Q arr C hS hP hv K
  exact lv_ldc C.1 C.2.1 C.2.2.2.1 (C.2.2.2.2.1 _ hw) hdg (h p e R s m args below meth c H locs cells slots Q arr C hS hP hv K)
theorem j_ldcw {i : Nat} {v : Int32} (hw : Cond.constant M.1.cls i v ∈ lw_g) (hdg : decode M.2.1 pc = .ok (.ldc_w i, 3)) (hq : pc + 3 = q) (h : J g d M Z q ls (.int v :: st) σ) : J g d M Z pc ls st σ := by
  subst hq
  intro p e R s m args below meth c H locs cells slots Q arr C hS hP hv K
  exact lv_ldcw C.1 C.2.1 C.2.2.2.1 (C.2.2.2.2.1 _ hw) hdg (h p e R s m args below meth c H locs cells slots Q arr C hS hP hv K)
theorem j_ldc2 {i : Nat} {v : Int64} (hw : Cond.constantLong M.1.cls i v ∈ lw_g) (hdg : decode M.2.1 pc = .ok (.ldc2_w i, 3)) (hq : pc + 3 = q) (h : J g d M Z q ls (.long v :: st) σ) : J g d M Z pc ls st σ := by
  subst hq
  intro p e R s m args below meth c H locs cells slots Q arr C hS hP hv K
  exact lv_ldc2 C.1 C.2.1 C.2.2.2.1 (C.2.2.2.2.1 _ hw) hdg (h p e R s m args below meth c H locs cells slots Q arr C hS hP hv K)
theorem lw_ldcwS {p : Program} {l : Launch} {e : Env} {R : Room} {s : State} {m : MethodId} {args : Array Value} {below : List Frame} {meth : Method} {c : Code} {H : Heap} {locs : List Loc} {cells slots : Nat} {Q : State → Prop} {cc : ByteArray} {pc : Nat} {ls : Array Slot} {rest : List Value}
    (hexec : p.tables.exec = Jvm.exec) (hb : c.code = cc) {own tx : String} {index a : Nat} (hown : s.vm.findClass own = some m.cls) (hZ : vk_R own index tx a s) (hdg : decode cc pc = .ok (.ldc_w index, 3))
    (k : W p l e R s m args below meth c H locs cells slots Q (F0 m (pc + 3) ls (.ref a :: rest))) : W p l e R s m args below meth c H locs cells slots Q (F0 m pc ls rest) := by
  intro T hT X
  obtain ⟨t, a1, b1⟩ := k T hT X
  obtain ⟨k0, cf, i, a', hk, hcf, hcp, -, hr, hev'⟩ := Cond.stringRef_spec hown hZ.1
  cases hZ.2.symm.trans hev'
  obtain ⟨k', hk', he⟩ := X.warmed.alike.2.2 _ _ hk
  have hr' : k'.resolved[index]? = some (some (.string a)) := by
    rcases X.warmed.entry hk hk' index with h | ⟨h, -⟩
    · rw [h]; exact hr
    · rw [hr] at h; cases h
  refine ⟨t, ?_, b1⟩
  jvm_step X.here [hexec, hb, hdg, ldc_w.wp_string (e := e) (s := T) (f := F0 m pc ls rest) X.here.top hk' (by rw [he]; exact hcf) hcp hr']
  exact a1
theorem j_ldcS_gdh (hc : M.1.cls = RX7) (hdg : decode M.2.1 pc = .ok (.ldc_w 311, 3)) (hq : pc + 3 = q) (h : J g d M Z q ls (.ref 101 :: st) σ) : J g d M Z pc ls st σ := by
  subst hq
  intro p e R s m args below meth c H locs cells slots Q arr C hS hP hv K
  exact lw_ldcwS C.1 C.2.1 (own := RX7) (by rw [← hc]; exact C.2.2.2.1) C.2.2.2.2.2.2.2.2.1.1 hdg (h p e R s m args below meth c H locs cells slots Q arr C hS hP hv K)
theorem j_ldcS_pds (hc : M.1.cls = RX7) (hdg : decode M.2.1 pc = .ok (.ldc_w 313, 3)) (hq : pc + 3 = q) (h : J g d M Z q ls (.ref 102 :: st) σ) : J g d M Z pc ls st σ := by
  subst hq
  intro p e R s m args below meth c H locs cells slots Q arr C hS hP hv K
  exact lw_ldcwS C.1 C.2.1 (own := RX7) (by rw [← hc]; exact C.2.2.2.1) C.2.2.2.2.2.2.2.2.1.2 hdg (h p e R s m args below meth c H locs cells slots Q arr C hS hP hv K)
theorem j_iadd {x y : Int32} (hdg : decode M.2.1 pc = .ok (.iadd, 1)) (hq : pc + 1 = q) (h : J g d M Z q ls (.int (x + y) :: st) σ) : J g d M Z pc ls (.int y :: .int x :: st) σ := by
  subst hq
  intro p e R s m args below meth c H locs cells slots Q arr C hS hP hv K
  exact lv_iadd C.1 C.2.1 hdg (h p e R s m args below meth c H locs cells slots Q arr C hS hP hv K)
theorem j_isub {x y : Int32} (hdg : decode M.2.1 pc = .ok (.isub, 1)) (hq : pc + 1 = q) (h : J g d M Z q ls (.int (x - y) :: st) σ) : J g d M Z pc ls (.int y :: .int x :: st) σ := by
  subst hq
  intro p e R s m args below meth c H locs cells slots Q arr C hS hP hv K
  exact lv_isub C.1 C.2.1 hdg (h p e R s m args below meth c H locs cells slots Q arr C hS hP hv K)
theorem j_imul {x y : Int32} (hdg : decode M.2.1 pc = .ok (.imul, 1)) (hq : pc + 1 = q) (h : J g d M Z q ls (.int (x * y) :: st) σ) : J g d M Z pc ls (.int y :: .int x :: st) σ := by
  subst hq
  intro p e R s m args below meth c H locs cells slots Q arr C hS hP hv K
  exact lv_imul C.1 C.2.1 hdg (h p e R s m args below meth c H locs cells slots Q arr C hS hP hv K)
theorem j_iand {x y : Int32} (hdg : decode M.2.1 pc = .ok (.iand, 1)) (hq : pc + 1 = q) (h : J g d M Z q ls (.int (x &&& y) :: st) σ) : J g d M Z pc ls (.int y :: .int x :: st) σ := by
  subst hq
  intro p e R s m args below meth c H locs cells slots Q arr C hS hP hv K
  exact lv_iand C.1 C.2.1 hdg (h p e R s m args below meth c H locs cells slots Q arr C hS hP hv K)
theorem j_ior {x y : Int32} (hdg : decode M.2.1 pc = .ok (.ior, 1)) (hq : pc + 1 = q) (h : J g d M Z q ls (.int (x ||| y) :: st) σ) : J g d M Z pc ls (.int y :: .int x :: st) σ := by
  subst hq
  intro p e R s m args below meth c H locs cells slots Q arr C hS hP hv K
  exact lv_ior C.1 C.2.1 hdg (h p e R s m args below meth c H locs cells slots Q arr C hS hP hv K)
theorem j_ixor {x y : Int32} (hdg : decode M.2.1 pc = .ok (.ixor, 1)) (hq : pc + 1 = q) (h : J g d M Z q ls (.int (x ^^^ y) :: st) σ) : J g d M Z pc ls (.int y :: .int x :: st) σ := by
  subst hq
  intro p e R s m args below meth c H locs cells slots Q arr C hS hP hv K
  exact lv_ixor C.1 C.2.1 hdg (h p e R s m args below meth c H locs cells slots Q arr C hS hP hv K)
theorem j_ishl {x y : Int32} (hdg : decode M.2.1 pc = .ok (.ishl, 1)) (hq : pc + 1 = q) (h : J g d M Z q ls (.int (x <<< (y &&& 31)) :: st) σ) : J g d M Z pc ls (.int y :: .int x :: st) σ := by
  subst hq
  intro p e R s m args below meth c H locs cells slots Q arr C hS hP hv K
  exact lv_ishl C.1 C.2.1 hdg (h p e R s m args below meth c H locs cells slots Q arr C hS hP hv K)
theorem j_ishr {x y : Int32} (hdg : decode M.2.1 pc = .ok (.ishr, 1)) (hq : pc + 1 = q) (h : J g d M Z q ls (.int (x >>> (y &&& 31)) :: st) σ) : J g d M Z pc ls (.int y :: .int x :: st) σ := by
  subst hq
  intro p e R s m args below meth c H locs cells slots Q arr C hS hP hv K
  exact lv_ishr C.1 C.2.1 hdg (h p e R s m args below meth c H locs cells slots Q arr C hS hP hv K)
theorem j_iushr {x y : Int32} (hdg : decode M.2.1 pc = .ok (.iushr, 1)) (hq : pc + 1 = q) (h : J g d M Z q ls (.int ((x.toUInt32 >>> (y.toUInt32 &&& Int32.toUInt32 31)).toInt32) :: st) σ) : J g d M Z pc ls (.int y :: .int x :: st) σ := by
  subst hq
  intro p e R s m args below meth c H locs cells slots Q arr C hS hP hv K
  exact lv_iushr C.1 C.2.1 hdg rfl (h p e R s m args below meth c H locs cells slots Q arr C hS hP hv K)
theorem j_idiv {x y : Int32} (hdg : decode M.2.1 pc = .ok (.idiv, 1)) (hq : pc + 1 = q) (hne : ¬ y = 0) (h : J g d M Z q ls (.int (x / y) :: st) σ) : J g d M Z pc ls (.int y :: .int x :: st) σ := by
  subst hq
  intro p e R s m args below meth c H locs cells slots Q arr C hS hP hv K
  exact lv_idiv C.1 C.2.1 hdg hne (h p e R s m args below meth c H locs cells slots Q arr C hS hP hv K)
theorem j_irem {x y : Int32} (hdg : decode M.2.1 pc = .ok (.irem, 1)) (hq : pc + 1 = q) (hne : ¬ y = 0) (h : J g d M Z q ls (.int (x - x / y * y) :: st) σ) : J g d M Z pc ls (.int y :: .int x :: st) σ := by
  subst hq
  intro p e R s m args below meth c H locs cells slots Q arr C hS hP hv K
  exact lv_irem C.1 C.2.1 hdg hne (h p e R s m args below meth c H locs cells slots Q arr C hS hP hv K)
theorem j_ineg {x : Int32} (hdg : decode M.2.1 pc = .ok (.ineg, 1)) (hq : pc + 1 = q) (h : J g d M Z q ls (.int (-x) :: st) σ) : J g d M Z pc ls (.int x :: st) σ := by
  subst hq
  intro p e R s m args below meth c H locs cells slots Q arr C hS hP hv K
  exact lv_ineg C.1 C.2.1 hdg (h p e R s m args below meth c H locs cells slots Q arr C hS hP hv K)
theorem j_i2l {x : Int32} (hdg : decode M.2.1 pc = .ok (.i2l, 1)) (hq : pc + 1 = q) (h : J g d M Z q ls (.long x.toInt64 :: st) σ) : J g d M Z pc ls (.int x :: st) σ := by
  subst hq
  intro p e R s m args below meth c H locs cells slots Q arr C hS hP hv K
  exact lv_i2l C.1 C.2.1 hdg rfl (h p e R s m args below meth c H locs cells slots Q arr C hS hP hv K)
theorem j_l2i {x : Int64} (hdg : decode M.2.1 pc = .ok (.l2i, 1)) (hq : pc + 1 = q) (h : J g d M Z q ls (.int x.toInt32 :: st) σ) : J g d M Z pc ls (.long x :: st) σ := by
  subst hq
  intro p e R s m args below meth c H locs cells slots Q arr C hS hP hv K
  exact lv_l2i C.1 C.2.1 hdg rfl (h p e R s m args below meth c H locs cells slots Q arr C hS hP hv K)
theorem j_i2b {x : Int32} (hdg : decode M.2.1 pc = .ok (.i2b, 1)) (hq : pc + 1 = q) (h : J g d M Z q ls (.int x.toInt8.toInt32 :: st) σ) : J g d M Z pc ls (.int x :: st) σ := by
  subst hq
  intro p e R s m args below meth c H locs cells slots Q arr C hS hP hv K
  exact lv_i2b C.1 C.2.1 hdg rfl (h p e R s m args below meth c H locs cells slots Q arr C hS hP hv K)
theorem j_i2s {x : Int32} (hdg : decode M.2.1 pc = .ok (.i2s, 1)) (hq : pc + 1 = q) (h : J g d M Z q ls (.int x.toInt16.toInt32 :: st) σ) : J g d M Z pc ls (.int x :: st) σ := by
  subst hq
  intro p e R s m args below meth c H locs cells slots Q arr C hS hP hv K
  exact lv_i2s C.1 C.2.1 hdg rfl (h p e R s m args below meth c H locs cells slots Q arr C hS hP hv K)
theorem j_i2c {x : Int32} (hdg : decode M.2.1 pc = .ok (.i2c, 1)) (hq : pc + 1 = q) (h : J g d M Z q ls (.int (x.toUInt32 % 65536).toInt32 :: st) σ) : J g d M Z pc ls (.int x :: st) σ := by
  subst hq
  intro p e R s m args below meth c H locs cells slots Q arr C hS hP hv K
  exact lv_i2c C.1 C.2.1 hdg rfl (h p e R s m args below meth c H locs cells slots Q arr C hS hP hv K)
theorem j_land {x y : Int64} (hdg : decode M.2.1 pc = .ok (.land, 1)) (hq : pc + 1 = q) (h : J g d M Z q ls (.long (x &&& y) :: st) σ) : J g d M Z pc ls (.long y :: .long x :: st) σ := by
  subst hq
  intro p e R s m args below meth c H locs cells slots Q arr C hS hP hv K
  exact lv_land C.1 C.2.1 hdg (h p e R s m args below meth c H locs cells slots Q arr C hS hP hv K)
theorem j_lor {x y : Int64} (hdg : decode M.2.1 pc = .ok (.lor, 1)) (hq : pc + 1 = q) (h : J g d M Z q ls (.long (x ||| y) :: st) σ) : J g d M Z pc ls (.long y :: .long x :: st) σ := by
  subst hq
  intro p e R s m args below meth c H locs cells slots Q arr C hS hP hv K
  exact lv_lor C.1 C.2.1 hdg (h p e R s m args below meth c H locs cells slots Q arr C hS hP hv K)
theorem j_lshl {x : Int64} {y : Int32} (hdg : decode M.2.1 pc = .ok (.lshl, 1)) (hq : pc + 1 = q) (h : J g d M Z q ls (.long (x <<< (y.toInt64 &&& 63)) :: st) σ) : J g d M Z pc ls (.int y :: .long x :: st) σ := by
  subst hq
  intro p e R s m args below meth c H locs cells slots Q arr C hS hP hv K
  exact lv_lshl C.1 C.2.1 hdg rfl (h p e R s m args below meth c H locs cells slots Q arr C hS hP hv K)
theorem j_lshr {x : Int64} {y : Int32} (hdg : decode M.2.1 pc = .ok (.lshr, 1)) (hq : pc + 1 = q) (h : J g d M Z q ls (.long (x >>> (y.toInt64 &&& 63)) :: st) σ) : J g d M Z pc ls (.int y :: .long x :: st) σ := by
  subst hq
  intro p e R s m args below meth c H locs cells slots Q arr C hS hP hv K
  exact lv_lshr C.1 C.2.1 hdg rfl (h p e R s m args below meth c H locs cells slots Q arr C hS hP hv K)
theorem j_lushr {x : Int64} {y : Int32} (hdg : decode M.2.1 pc = .ok (.lushr, 1)) (hq : pc + 1 = q) (h : J g d M Z q ls (.long ((x.toUInt64 >>> (y.toInt64.toUInt64 &&& Int64.toUInt64 63)).toInt64) :: st) σ) : J g d M Z pc ls (.int y :: .long x :: st) σ := by
  subst hq
  intro p e R s m args below meth c H locs cells slots Q arr C hS hP hv K
  exact lv_lushr C.1 C.2.1 hdg rfl (h p e R s m args below meth c H locs cells slots Q arr C hS hP hv K)
theorem j_dup {v : Value} (hdg : decode M.2.1 pc = .ok (.dup, 1)) (hq : pc + 1 = q) (hc : v.category = 1) (h : J g d M Z q ls (v :: v :: st) σ) : J g d M Z pc ls (v :: st) σ := by
  subst hq
  intro p e R s m args below meth c H locs cells slots Q arr C hS hP hv K
  exact lv_dup C.1 C.2.1 hdg (by rw [tr_cat]; exact hc) (h p e R s m args below meth c H locs cells slots Q arr C hS hP hv K)
theorem j_dup2 {v w : Value} (hdg : decode M.2.1 pc = .ok (.dup2, 1)) (hq : pc + 1 = q) (hc : v.category = 1) (hc2 : w.category = 1) (h : J g d M Z q ls (v :: w :: v :: w :: st) σ) : J g d M Z pc ls (v :: w :: st) σ := by
  subst hq
  intro p e R s m args below meth c H locs cells slots Q arr C hS hP hv K
  exact lv_dup2_11 C.1 C.2.1 hdg (by rw [tr_cat]; exact hc) (by rw [tr_cat]; exact hc2) (h p e R s m args below meth c H locs cells slots Q arr C hS hP hv K)
theorem j_goto {off : Int} (hdg : decode M.2.1 pc = .ok (.goto off, 3)) (hq : (pc : Int) + off = (q : Int)) (h : J g d M Z q ls st σ) : J g d M Z pc ls st σ := by
  intro p e R s m args below meth c H locs cells slots Q arr C hS hP hv K
  exact lv_goto C.1 C.2.1 hdg hq (h p e R s m args below meth c H locs cells slots Q arr C hS hP hv K)
theorem j_icmp_eq {x y : Int32} {off : Int} {t : Nat} (hdg : decode M.2.1 pc = .ok (.if_icmp .eq off, 3)) (ht : (pc : Int) + off = (t : Int)) (hq : pc + 3 = q) (kt : x = y → J g d M Z t ls st σ) (kf : ¬ x = y → J g d M Z q ls st σ) : J g d M Z pc ls (.int y :: .int x :: st) σ := by
  subst hq
  intro p e R s m args below meth c H locs cells slots Q arr C hS hP hv K
  exact lv_icmp_eq C.1 C.2.1 hdg ht (fun z => kt z p e R s m args below meth c H locs cells slots Q arr C hS hP hv K) (fun z => kf z p e R s m args below meth c H locs cells slots Q arr C hS hP hv K)
theorem j_if_eq {x : Int32} {off : Int} {t : Nat} (hdg : decode M.2.1 pc = .ok (.ifCond .eq off, 3)) (ht : (pc : Int) + off = (t : Int)) (hq : pc + 3 = q) (kt : x = 0 → J g d M Z t ls st σ) (kf : ¬ x = 0 → J g d M Z q ls st σ) : J g d M Z pc ls (.int x :: st) σ := by
  subst hq
  intro p e R s m args below meth c H locs cells slots Q arr C hS hP hv K
  exact lv_if_eq C.1 C.2.1 hdg ht (fun z => kt z p e R s m args below meth c H locs cells slots Q arr C hS hP hv K) (fun z => kf z p e R s m args below meth c H locs cells slots Q arr C hS hP hv K)
theorem j_icmp_ne {x y : Int32} {off : Int} {t : Nat} (hdg : decode M.2.1 pc = .ok (.if_icmp .ne off, 3)) (ht : (pc : Int) + off = (t : Int)) (hq : pc + 3 = q) (kt : ¬ x = y → J g d M Z t ls st σ) (kf : x = y → J g d M Z q ls st σ) : J g d M Z pc ls (.int y :: .int x :: st) σ := by
  subst hq
  intro p e R s m args below meth c H locs cells slots Q arr C hS hP hv K
  exact lv_icmp_ne C.1 C.2.1 hdg ht (fun z => kt z p e R s m args below meth c H locs cells slots Q arr C hS hP hv K) (fun z => kf z p e R s m args below meth c H locs cells slots Q arr C hS hP hv K)
theorem j_if_ne {x : Int32} {off : Int} {t : Nat} (hdg : decode M.2.1 pc = .ok (.ifCond .ne off, 3)) (ht : (pc : Int) + off = (t : Int)) (hq : pc + 3 = q) (kt : ¬ x = 0 → J g d M Z t ls st σ) (kf : x = 0 → J g d M Z q ls st σ) : J g d M Z pc ls (.int x :: st) σ := by
  subst hq
  intro p e R s m args below meth c H locs cells slots Q arr C hS hP hv K
  exact lv_if_ne C.1 C.2.1 hdg ht (fun z => kt z p e R s m args below meth c H locs cells slots Q arr C hS hP hv K) (fun z => kf z p e R s m args below meth c H locs cells slots Q arr C hS hP hv K)
theorem j_icmp_lt {x y : Int32} {off : Int} {t : Nat} (hdg : decode M.2.1 pc = .ok (.if_icmp .lt off, 3)) (ht : (pc : Int) + off = (t : Int)) (hq : pc + 3 = q) (kt : x < y → J g d M Z t ls st σ) (kf : ¬ x < y → J g d M Z q ls st σ) : J g d M Z pc ls (.int y :: .int x :: st) σ := by
  subst hq
  intro p e R s m args below meth c H locs cells slots Q arr C hS hP hv K
  exact lv_icmp_lt C.1 C.2.1 hdg ht (fun z => kt z p e R s m args below meth c H locs cells slots Q arr C hS hP hv K) (fun z => kf z p e R s m args below meth c H locs cells slots Q arr C hS hP hv K)
theorem j_if_lt {x : Int32} {off : Int} {t : Nat} (hdg : decode M.2.1 pc = .ok (.ifCond .lt off, 3)) (ht : (pc : Int) + off = (t : Int)) (hq : pc + 3 = q) (kt : x < 0 → J g d M Z t ls st σ) (kf : ¬ x < 0 → J g d M Z q ls st σ) : J g d M Z pc ls (.int x :: st) σ := by
  subst hq
  intro p e R s m args below meth c H locs cells slots Q arr C hS hP hv K
  exact lv_if_lt C.1 C.2.1 hdg ht (fun z => kt z p e R s m args below meth c H locs cells slots Q arr C hS hP hv K) (fun z => kf z p e R s m args below meth c H locs cells slots Q arr C hS hP hv K)
theorem j_icmp_ge {x y : Int32} {off : Int} {t : Nat} (hdg : decode M.2.1 pc = .ok (.if_icmp .ge off, 3)) (ht : (pc : Int) + off = (t : Int)) (hq : pc + 3 = q) (kt : y ≤ x → J g d M Z t ls st σ) (kf : ¬ y ≤ x → J g d M Z q ls st σ) : J g d M Z pc ls (.int y :: .int x :: st) σ := by
  subst hq
  intro p e R s m args below meth c H locs cells slots Q arr C hS hP hv K
  exact lv_icmp_ge C.1 C.2.1 hdg ht (fun z => kt z p e R s m args below meth c H locs cells slots Q arr C hS hP hv K) (fun z => kf z p e R s m args below meth c H locs cells slots Q arr C hS hP hv K)
theorem j_if_ge {x : Int32} {off : Int} {t : Nat} (hdg : decode M.2.1 pc = .ok (.ifCond .ge off, 3)) (ht : (pc : Int) + off = (t : Int)) (hq : pc + 3 = q) (kt : 0 ≤ x → J g d M Z t ls st σ) (kf : ¬ 0 ≤ x → J g d M Z q ls st σ) : J g d M Z pc ls (.int x :: st) σ := by
  subst hq
  intro p e R s m args below meth c H locs cells slots Q arr C hS hP hv K
  exact lv_if_ge C.1 C.2.1 hdg ht (fun z => kt z p e R s m args below meth c H locs cells slots Q arr C hS hP hv K) (fun z => kf z p e R s m args below meth c H locs cells slots Q arr C hS hP hv K)
theorem j_icmp_gt {x y : Int32} {off : Int} {t : Nat} (hdg : decode M.2.1 pc = .ok (.if_icmp .gt off, 3)) (ht : (pc : Int) + off = (t : Int)) (hq : pc + 3 = q) (kt : y < x → J g d M Z t ls st σ) (kf : ¬ y < x → J g d M Z q ls st σ) : J g d M Z pc ls (.int y :: .int x :: st) σ := by
  subst hq
  intro p e R s m args below meth c H locs cells slots Q arr C hS hP hv K
  exact lv_icmp_gt C.1 C.2.1 hdg ht (fun z => kt z p e R s m args below meth c H locs cells slots Q arr C hS hP hv K) (fun z => kf z p e R s m args below meth c H locs cells slots Q arr C hS hP hv K)
theorem j_if_gt {x : Int32} {off : Int} {t : Nat} (hdg : decode M.2.1 pc = .ok (.ifCond .gt off, 3)) (ht : (pc : Int) + off = (t : Int)) (hq : pc + 3 = q) (kt : 0 < x → J g d M Z t ls st σ) (kf : ¬ 0 < x → J g d M Z q ls st σ) : J g d M Z pc ls (.int x :: st) σ := by
  subst hq
  intro p e R s m args below meth c H locs cells slots Q arr C hS hP hv K
  exact lv_if_gt C.1 C.2.1 hdg ht (fun z => kt z p e R s m args below meth c H locs cells slots Q arr C hS hP hv K) (fun z => kf z p e R s m args below meth c H locs cells slots Q arr C hS hP hv K)
theorem j_icmp_le {x y : Int32} {off : Int} {t : Nat} (hdg : decode M.2.1 pc = .ok (.if_icmp .le off, 3)) (ht : (pc : Int) + off = (t : Int)) (hq : pc + 3 = q) (kt : x ≤ y → J g d M Z t ls st σ) (kf : ¬ x ≤ y → J g d M Z q ls st σ) : J g d M Z pc ls (.int y :: .int x :: st) σ := by
  subst hq
  intro p e R s m args below meth c H locs cells slots Q arr C hS hP hv K
  exact lv_icmp_le C.1 C.2.1 hdg ht (fun z => kt z p e R s m args below meth c H locs cells slots Q arr C hS hP hv K) (fun z => kf z p e R s m args below meth c H locs cells slots Q arr C hS hP hv K)
theorem j_if_le {x : Int32} {off : Int} {t : Nat} (hdg : decode M.2.1 pc = .ok (.ifCond .le off, 3)) (ht : (pc : Int) + off = (t : Int)) (hq : pc + 3 = q) (kt : x ≤ 0 → J g d M Z t ls st σ) (kf : ¬ x ≤ 0 → J g d M Z q ls st σ) : J g d M Z pc ls (.int x :: st) σ := by
  subst hq
  intro p e R s m args below meth c H locs cells slots Q arr C hS hP hv K
  exact lv_if_le C.1 C.2.1 hdg ht (fun z => kt z p e R s m args below meth c H locs cells slots Q arr C hS hP hv K) (fun z => kf z p e R s m args below meth c H locs cells slots Q arr C hS hP hv K)
end JR
end
section
-- fields and arrays
/-- a word of the tables, by its place -/
theorem mw (i : Nat) (w : Cond) (h : lw_tbl[i]? = some w) (hg : goodWord w = true) : w ∈ lw_g := List.mem_filter.mpr ⟨List.mem_of_getElem? h, hg⟩
theorem cls_in : ∀ (c : Nat) (q : vw_C), clsL[c]? = some q → ∀ w ∈ u_ws q.1 q.2.1 q.2.2, w ∈ lw_g := by
  intro c q h w hw
  have h1 : clsL.all (fun q => (u_ws q.1 q.2.1 q.2.2).all fun w => decide (w ∈ lw_tbl) && goodWord w) = true := by decide +kernel
  have h2 := List.all_eq_true.mp (List.all_eq_true.mp h1 q (List.mem_of_getElem? h)) w hw
  simp only [Bool.and_eq_true, decide_eq_true_eq] at h2
  exact List.mem_filter.mpr h2
theorem cls_ty : ∀ (c : Nat) (q : vw_C), clsL[c]? = some q → (∀ a, a < q.2.2 → ∀ b, b < q.2.2 → a ≠ b → (q.2.1 a).2.1 ≠ (q.2.1 b).2.1) ∧ ∃ ty : Nat → FieldType, ∀ k, k < q.2.2 → parseFieldDescriptor (q.2.1 k).2.2.1 = some (ty k) := by
  intro c q h
  match c, h with
  | 0, h => cases h; exact ⟨nmX0, _, tyX0_ok⟩
  | 1, h => cases h; exact ⟨nmX1, _, tyX1_ok⟩
  | 2, h => cases h; exact ⟨nmX2, _, tyX2_ok⟩
  | 3, h => cases h; exact ⟨nmX3, _, tyX3_ok⟩
  | 4, h => cases h; exact ⟨nmX4, _, tyX4_ok⟩
  | 5, h => cases h; exact ⟨nmX5, _, tyX5_ok⟩
  | 6, h => cases h; exact ⟨nmX6, _, tyX6_ok⟩
  | 7, h => cases h; exact ⟨nmX7, _, tyX7_ok⟩
  | 8, h => cases h; exact ⟨nmX8, _, tyX8_ok⟩
  | c + 9, h => simp [clsL] at h
theorem fT_len : ∀ (c : Nat) (q : vw_C), clsL[c]? = some q → (fT c).length = q.2.2 := by
  intro c q h
  match c, h with
  | 0, h => cases h; rfl
  | 1, h => cases h; rfl
  | 2, h => cases h; rfl
  | 3, h => cases h; rfl
  | 4, h => cases h; rfl
  | 5, h => cases h; rfl
  | 6, h => cases h; rfl
  | 7, h => cases h; rfl
  | 8, h => cases h; rfl
  | c + 9, h => simp [clsL] at h
/-- place idx of a class's constants is field k of class c -/
def FS (own : String) (idx ci k : Nat) : Prop := ∃ q : vw_C, clsL[ci]? = some q ∧ k < q.2.2 ∧ (Cond.fieldLink own idx (q.2.1 k).1 (q.2.1 k).2.1 (q.2.1 k).2.2.1 ∈ lw_g ∨ ∃ host, Cond.fieldLinkNest own idx (q.2.1 k).1 (q.2.1 k).2.1 (q.2.1 k).2.2.1 host ∈ lw_g)
theorem tC_lt {a : Nat} {x : Nat × Nat} (h : tC[a]? = some x) : a < 87 := by
  have := (List.getElem?_eq_some_iff.mp h).1
  exact this
def flds (g : GT) (σ : S_) (a ci : Nat) : List Value := (List.range (fT ci).length).map (fun k => vV g σ a k ((fT ci).getD k 0))
theorem cel_obj {g : GT} {σ : S_} {a ci : Nat} (h : tC[a]? = some (3, ci)) : cel g σ a = .inr (ci, flds g σ a ci) := by
  unfold cel
  rw [h]
  rfl
theorem cel_int {g : GT} {σ : S_} {a n : Nat} (h : tC[a]? = some (0, n)) : cel g σ a = .inl (gcA g a, n, .inl (σ a)) := by
  unfold cel
  rw [h]
  rfl
theorem cel_byt {g : GT} {σ : S_} {a n : Nat} (h : tC[a]? = some (1, n)) : cel g σ a = .inl (gcA g a, n, .inl (fun i => vp_nar .byte (σ a i))) := by
  unfold cel
  rw [h]
  rfl
theorem cel_ref {g : GT} {σ : S_} {a n : Nat} (h : tC[a]? = some (2, n)) : cel g σ a = .inl (gcA g a, n, .inr (.inr (.inr (.inr (fun i => some (gad g (rf a i))))))) := by
  unfold cel
  rw [h]
  rfl
theorem flds_at {g : GT} {σ : S_} {a ci k : Nat} (hk : k < (fT ci).length) : (flds g σ a ci)[k]? = some (vV g σ a k ((fT ci).getD k 0)) := by
  unfold flds
  rw [List.getElem?_map, List.getElem?_range hk]
  rfl
theorem flds_set {g : GT} {σ : S_} {a ci k : Nat} {x : Int32} (hk : k < (fT ci).length) : (flds g σ a ci).set k (vV g (up σ a k x) a k ((fT ci).getD k 0)) = flds g (up σ a k x) a ci := by
  apply List.ext_getElem?
  intro j
  have hlen : (flds g σ a ci).length = (fT ci).length := by simp [flds]
  by_cases hj : j = k
  · subst hj
    rw [List.getElem?_set_self (by rw [hlen]; exact hk), flds_at hk]
  · rw [List.getElem?_set_ne (Ne.symm hj)]
    by_cases hj2 : j < (fT ci).length
    · rw [flds_at hj2, flds_at hj2]
      have e : (up σ a k x) a j = σ a j := by simp [up, hj]
      unfold vV
      rw [e]
    · rw [List.getElem?_eq_none (by rw [hlen]; omega), List.getElem?_eq_none (by simp [flds]; omega)]
theorem cws_putO {g : GT} {σ : S_} {a ci k : Nat} {x : Int32} (h : tC[a]? = some (3, ci)) (hk : k < (fT ci).length) : (cws g σ).set a (gad g a, .inr (ci, (flds g σ a ci).set k (vV g (up σ a k x) a k ((fT ci).getD k 0)))) = cws g (up σ a k x) := by
  rw [flds_set hk, ← cel_obj h]
  exact cws_set g (tC_lt h) (fun j hj => cel_up_ne g σ hj)
theorem cws_putI {g : GT} {σ : S_} {a n k : Nat} {x : Int32} (h : tC[a]? = some (0, n)) : (cws g σ).set a (gad g a, .inl (gcA g a, n, .inl (upd (σ a) k x))) = cws g (up σ a k x) := by
  have e1 : upd (σ a) k x = (up σ a k x) a := by funext j; simp [up, upd]
  rw [e1, ← cel_int h]
  exact cws_set g (tC_lt h) (fun j hj => cel_up_ne g σ hj)
theorem cws_putB {g : GT} {σ : S_} {a n k : Nat} {x : Int32} (h : tC[a]? = some (1, n)) : (cws g σ).set a (gad g a, .inl (gcA g a, n, .inl (upd (fun i => vp_nar .byte (σ a i)) k (vp_nar .byte x)))) = cws g (up σ a k x) := by
  have e1 : upd (fun i => vp_nar .byte (σ a i)) k (vp_nar .byte x) = fun i => vp_nar .byte ((up σ a k x) a i) := by
    funext j
    by_cases hj : j = k
    · simp [up, upd, hj]
    · simp [up, upd, hj]
  rw [e1, ← cel_byt h]
  exact cws_set g (tC_lt h) (fun j hj => cel_up_ne g σ hj)
/-- a row of the ints of a cell, all at once -/
def upR (σ : S_) (a : Nat) (f : Nat → Int32) : S_ := fun b => if b = a then f else σ b
theorem cel_upR_ne (g : GT) (σ : S_) {a : Nat} {f : Nat → Int32} {j : Nat} (h : j ≠ a) : cel g σ j = cel g (upR σ a f) j := by
  have e : (upR σ a f) j = σ j := by simp [upR, h]
  unfold cel vV
  rw [e]
theorem upR_self (σ : S_) (a : Nat) (f : Nat → Int32) : upR σ a f a = f := by simp [upR]
theorem cws_rowI {g : GT} {σ : S_} {a n : Nat} {f : Nat → Int32} (h : tC[a]? = some (0, n)) : (cws g σ).set a (gad g a, .inl (gcA g a, n, .inl f)) = cws g (upR σ a f) := by
  have e1 : f = (upR σ a f) a := (upR_self σ a f).symm
  rw [show (Sum.inl (gcA g a, n, Sum.inl f) : va_E) = cel g (upR σ a f) a from by rw [cel_int h, ← e1]]
  exact cws_set g (tC_lt h) (fun j hj => cel_upR_ne g σ hj)
theorem cws_rowB {g : GT} {σ : S_} {a n : Nat} {f : Nat → Int32} (h : tC[a]? = some (1, n)) : (cws g σ).set a (gad g a, .inl (gcA g a, n, .inl (fun i => vp_nar .byte (f i)))) = cws g (upR σ a f) := by
  have e1 : f = (upR σ a f) a := (upR_self σ a f).symm
  rw [show (Sum.inl (gcA g a, n, Sum.inl (fun i => vp_nar .byte (f i))) : va_E) = cel g (upR σ a f) a from by rw [cel_byt h, ← e1]]
  exact cws_set g (tC_lt h) (fun j hj => cel_upR_ne g σ hj)
theorem aty_int {a n : Nat} (h : tC[a]? = some (0, n)) : aty a = some .int := by unfold aty; rw [h]; rfl
theorem aty_byt {a n : Nat} (h : tC[a]? = some (1, n)) : aty a = some .byte := by unfold aty; rw [h]; rfl
theorem aty_ref {a n : Nat} (h : tC[a]? = some (2, n)) : aty a = some (.object (rcl a)) := by unfold aty; rw [h]; rfl
section JH
variable {g : GT} {d : Nat} {M : MM} {Z : Value → S_ → Prop} {pc q : Nat} {ls st : List Value} {σ : S_}
theorem j_getV {a ci k idx : Nat} (hf : FS M.1.cls idx ci k) (ho : tC[a]? = some (3, ci)) {v : Value} (hv0 : vV g σ a k ((fT ci).getD k 0) = tr g v) (hdg : decode M.2.1 pc = .ok (.getfield idx, 3)) (hq : pc + 3 = q) (h : J g d M Z q ls (v :: st) σ) : J g d M Z pc ls (.ref a :: st) σ := by
  subst hq
  intro p e R s m args below meth c H locs cells slots Q arr C hS hP hv K
  obtain ⟨hx, hb, hml, hown, hts, hA, hK, hSt, hSk, hR, hc⟩ := id C
  obtain ⟨⟨CC, TT, NN⟩, h1, h2, h3⟩ := hf
  have hk : k < (fT ci).length := by rw [fT_len ci _ h1]; exact h2
  have he : (cws g σ)[a]? = some (gad g a, .inr (ci, flds g σ a ci)) := by rw [cws_at g σ (tC_lt ho), cel_obj ho]
  have kk := h p e R s m args below meth c H locs cells slots Q arr C hS hP hv K
  have hfv := flds_at (g := g) (σ := σ) (a := a) hk
  rw [hv0] at hfv
  rcases h3 with h3 | ⟨host, h3⟩
  · exact va_get hx hb hts (cls_in ci _ h1) hown hK.K hP a he h1 k h2 (hts _ h3) (fun _ z => z) hfv hdg kk
  · exact va_getN hx hb hts (cls_in ci _ h1) hown hK.K hP a he h1 k h2 (hts _ h3) (fun _ z => z) hfv hdg kk
theorem j_getI {a ci k idx : Nat} (hf : FS M.1.cls idx ci k) (ho : tC[a]? = some (3, ci)) (ht : (fT ci).getD k 0 = 0) (hdg : decode M.2.1 pc = .ok (.getfield idx, 3)) (hq : pc + 3 = q) (h : J g d M Z q ls (.int (σ a k) :: st) σ) : J g d M Z pc ls (.ref a :: st) σ :=
  j_getV hf ho (v := .int (σ a k)) (by rw [ht]; rfl) hdg hq h
theorem j_getR {a ci k idx r : Nat} (hf : FS M.1.cls idx ci k) (ho : tC[a]? = some (3, ci)) (ht : (fT ci).getD k 0 = 1) (hr : rf a k = r) (hdg : decode M.2.1 pc = .ok (.getfield idx, 3)) (hq : pc + 3 = q) (h : J g d M Z q ls (.ref r :: st) σ) : J g d M Z pc ls (.ref a :: st) σ :=
  j_getV hf ho (v := .ref r) (by rw [ht, ← hr]; rfl) hdg hq h
theorem j_getS {a ci k idx : Nat} (hf : FS M.1.cls idx ci k) (ho : tC[a]? = some (3, ci)) (ht : (fT ci).getD k 0 = 2) (hdg : decode M.2.1 pc = .ok (.getfield idx, 3)) (hq : pc + 3 = q) (h : J g d M Z q ls (.ref (100 + (σ a k).toNatClampNeg) :: st) σ) : J g d M Z pc ls (.ref a :: st) σ :=
  j_getV hf ho (v := .ref (100 + (σ a k).toNatClampNeg)) (by rw [ht]; rfl) hdg hq h
theorem j_putV {a ci k idx : Nat} {x : Int32} {v : Value} {ty : FieldType} (hf : FS M.1.cls idx ci k) (ho : tC[a]? = some (3, ci)) (hv0 : vV g (up σ a k x) a k ((fT ci).getD k 0) = tr g v) (hty : ∃ q, clsL[ci]? = some q ∧ (q.2.1 k).2.2.2 = false ∧ parseFieldDescriptor (q.2.1 k).2.2.1 = some ty) (hn : narrow ty (tr g v) = tr g v) (hfit : fits ty (tr g v) = true) (hdg : decode M.2.1 pc = .ok (.putfield idx, 3)) (hq : pc + 3 = q) (h : J g d M Z q ls st (up σ a k x)) : J g d M Z pc ls (v :: .ref a :: st) σ := by
  subst hq
  intro p e R s m args below meth c H locs cells slots Q arr C hS hP hv K
  obtain ⟨hx, hb, hml, hown, hts, hA, hK, hSt, hSk, hR, hc⟩ := id C
  obtain ⟨⟨CC, TT, NN⟩, h1, h2, h3⟩ := hf
  obtain ⟨q', h1', hfin, hd⟩ := hty
  cases h1.symm.trans h1'
  have hk : k < (fT ci).length := by rw [fT_len ci _ h1]; exact h2
  have he : (cws g σ)[a]? = some (gad g a, .inr (ci, flds g σ a ci)) := by rw [cws_at g σ (tC_lt ho), cel_obj ho]
  obtain ⟨hnm, ty0, hty0⟩ := cls_ty ci _ h1
  have hl : k < (flds g σ a ci).length := by simpa [flds] using hk
  rcases h3 with h3 | ⟨host, h3⟩
  · refine va_put hx hb hts (cls_in ci _ h1) ty0 hty0 hnm hown hK.K hP (va_D_cws hA σ) hS a he h1 k h2 (hts _ h3) (fun _ z => z) hfin hd hn hfit hl hdg (fun H1 locs1 hP1 _ hS1 => ?_)
    rw [← hv0, cws_putO ho hk] at hP1
    exact h p e R s m args below meth c H1 locs1 cells slots Q arr C hS1 hP1 hv K
  · refine va_putN hx hb hts (cls_in ci _ h1) ty0 hty0 hnm hown hK.K hP (va_D_cws hA σ) hS a he h1 k h2 (hts _ h3) (fun _ z => z) hfin hd hn hfit hl hdg (fun H1 locs1 hP1 _ hS1 => ?_)
    rw [← hv0, cws_putO ho hk] at hP1
    exact h p e R s m args below meth c H1 locs1 cells slots Q arr C hS1 hP1 hv K
/-- the field is of this type and not final -/
def FP (ci k : Nat) (ty : FieldType) : Prop := ∃ q, clsL[ci]? = some q ∧ (q.2.1 k).2.2.2 = false ∧ parseFieldDescriptor (q.2.1 k).2.2.1 = some ty
theorem j_putI {a ci k idx : Nat} {x : Int32} (hf : FS M.1.cls idx ci k) (ho : tC[a]? = some (3, ci)) (ht : (fT ci).getD k 0 = 0) (hty : FP ci k .int) (hdg : decode M.2.1 pc = .ok (.putfield idx, 3)) (hq : pc + 3 = q) (h : J g d M Z q ls st (up σ a k x)) : J g d M Z pc ls (.int x :: .ref a :: st) σ :=
  j_putV hf ho (v := .int x) (by rw [ht]; simp [vV, up, tr]) hty rfl rfl hdg hq h
theorem j_putZ {a ci k idx : Nat} {x : Int32} (hf : FS M.1.cls idx ci k) (ho : tC[a]? = some (3, ci)) (ht : (fT ci).getD k 0 = 0) (hty : FP ci k .boolean) (hx : x = 0 ∨ x = 1) (hdg : decode M.2.1 pc = .ok (.putfield idx, 3)) (hq : pc + 3 = q) (h : J g d M Z q ls st (up σ a k x)) : J g d M Z pc ls (.int x :: .ref a :: st) σ :=
  j_putV hf ho (v := .int x) (by rw [ht]; simp [vV, up, tr]) hty (by rcases hx with rfl | rfl <;> rfl) (by rcases hx with rfl | rfl <;> rfl) hdg hq h
theorem j_putS {a ci k idx i : Nat} (hf : FS M.1.cls idx ci k) (ho : tC[a]? = some (3, ci)) (ht : (fT ci).getD k 0 = 2) (hi : i < 3) (hty : FP ci k (.object "java/lang/String")) (hdg : decode M.2.1 pc = .ok (.putfield idx, 3)) (hq : pc + 3 = q) (h : J g d M Z q ls st (up σ a k (nI i))) : J g d M Z pc ls (.ref (100 + i) :: .ref a :: st) σ :=
  j_putV hf ho (v := .ref (100 + i)) (by rw [ht]; simp [vV, up, tr]; rcases (show i = 0 ∨ i = 1 ∨ i = 2 by omega) with rfl | rfl | rfl <;> rfl) hty rfl rfl hdg hq h
theorem j_iald {a n : Nat} {i : Int32} (ha : tC[a]? = some (0, n)) (hin : vp_in i n) (hdg : decode M.2.1 pc = .ok (.iaload, 1)) (hq : pc + 1 = q) (h : J g d M Z q ls (.int (σ a i.toNatClampNeg) :: st) σ) : J g d M Z pc ls (.int i :: .ref a :: st) σ := by
  subst hq
  intro p e R s m args below meth c H locs cells slots Q arr C hS hP hv K
  obtain ⟨hx, hb, hml, hown, hts, hA, hK, hSt, hSk, hR, hc⟩ := id C
  exact va_iald hx hb (hK.K1 (aty_int ha)) hP a 0 (by rw [cws_at g σ (tC_lt ha), cel_int ha]) rfl hin hdg (h p e R s m args below meth c H locs cells slots Q arr C hS hP hv K)
theorem j_iast {a n : Nat} {i x : Int32} (ha : tC[a]? = some (0, n)) (hin : vp_in i n) (hdg : decode M.2.1 pc = .ok (.iastore, 1)) (hq : pc + 1 = q) (h : J g d M Z q ls st (up σ a i.toNatClampNeg x)) : J g d M Z pc ls (.int x :: .int i :: .ref a :: st) σ := by
  subst hq
  intro p e R s m args below meth c H locs cells slots Q arr C hS hP hv K
  obtain ⟨hx, hb, hml, hown, hts, hA, hK, hSt, hSk, hR, hc⟩ := id C
  refine va_iast hx hb (hK.K1 (aty_int ha)) hP (va_D_cws hA σ) hS a 0 (by rw [cws_at g σ (tC_lt ha), cel_int ha]) rfl hin hdg (fun H1 locs1 hP1 _ hS1 => ?_)
  rw [cws_putI ha] at hP1
  exact h p e R s m args below meth c H1 locs1 cells slots Q arr C hS1 hP1 hv K
theorem j_bald {a n : Nat} {i : Int32} (ha : tC[a]? = some (1, n)) (hin : vp_in i n) (hdg : decode M.2.1 pc = .ok (.baload, 1)) (hq : pc + 1 = q) (h : J g d M Z q ls (.int (σ a i.toNatClampNeg).toInt8.toInt32 :: st) σ) : J g d M Z pc ls (.int i :: .ref a :: st) σ := by
  subst hq
  intro p e R s m args below meth c H locs cells slots Q arr C hS hP hv K
  obtain ⟨hx, hb, hml, hown, hts, hA, hK, hSt, hSk, hR, hc⟩ := id C
  have he : (cws g σ)[a]? = some (gad g a, .inl (gcA g a, n, .inl (fun i => vp_nar .byte (σ a i)))) := by rw [cws_at g σ (tC_lt ha), cel_byt ha]
  exact va_bald hx hb (hK.K1 (aty_byt ha)) hP a 0 he rfl hin hdg (h p e R s m args below meth c H locs cells slots Q arr C hS hP hv K)
theorem j_bast {a n : Nat} {i x : Int32} (ha : tC[a]? = some (1, n)) (hin : vp_in i n) (hdg : decode M.2.1 pc = .ok (.bastore, 1)) (hq : pc + 1 = q) (h : J g d M Z q ls st (up σ a i.toNatClampNeg x)) : J g d M Z pc ls (.int x :: .int i :: .ref a :: st) σ := by
  subst hq
  intro p e R s m args below meth c H locs cells slots Q arr C hS hP hv K
  obtain ⟨hx, hb, hml, hown, hts, hA, hK, hSt, hSk, hR, hc⟩ := id C
  refine va_bast hx hb (hK.K1 (aty_byt ha)) hP (va_D_cws hA σ) hS a 0 (by rw [cws_at g σ (tC_lt ha), cel_byt ha]) rfl hin hdg (fun H1 locs1 hP1 _ hS1 => ?_)
  rw [cws_putB ha] at hP1
  exact h p e R s m args below meth c H1 locs1 cells slots Q arr C hS1 hP1 hv K
theorem j_aald {a n r : Nat} {i : Int32} (ha : tC[a]? = some (2, n)) (hin : vp_in i n) (hr : rf a i.toNatClampNeg = r) (hdg : decode M.2.1 pc = .ok (.aaload, 1)) (hq : pc + 1 = q) (h : J g d M Z q ls (.ref r :: st) σ) : J g d M Z pc ls (.int i :: .ref a :: st) σ := by
  subst hq
  subst hr
  intro p e R s m args below meth c H locs cells slots Q arr C hS hP hv K
  obtain ⟨hx, hb, hml, hown, hts, hA, hK, hSt, hSk, hR, hc⟩ := id C
  have he : (cws g σ)[a]? = some (gad g a, .inl (gcA g a, n, .inr (.inr (.inr (.inr (fun i => some (gad g (rf a i)))))))) := by rw [cws_at g σ (tC_lt ha), cel_ref ha]
  exact va_aldq hx hb (hK.K1 (aty_ref ha)) hP a 0 he rfl hin hdg (h p e R s m args below meth c H locs cells slots Q arr C hS hP hv K)
/-- an array of n places -/
def AL (a n : Nat) : Prop := tC[a]? = some (0, n) ∨ tC[a]? = some (1, n) ∨ tC[a]? = some (2, n)
theorem j_alen {a n : Nat} (ha : AL a n) (hdg : decode M.2.1 pc = .ok (.arraylength, 1)) (hq : pc + 1 = q) (h : J g d M Z q ls (.int (nI n) :: st) σ) : J g d M Z pc ls (.ref a :: st) σ := by
  subst hq
  intro p e R s m args below meth c H locs cells slots Q arr C hS hP hv K
  obtain ⟨hx, hb, hml, hown, hts, hA, hK, hSt, hSk, hR, hc⟩ := id C
  have kk := h p e R s m args below meth c H locs cells slots Q arr C hS hP hv K
  rcases ha with ha | ha | ha
  · exact va_alen (x := (n, .inl (σ a))) hx hb (hK.K1 (aty_int ha)) hP a 0 (by rw [cws_at g σ (tC_lt ha), cel_int ha]) rfl rfl hdg kk
  · exact va_alen (x := (n, .inl (fun i => vp_nar .byte (σ a i)))) hx hb (hK.K1 (aty_byt ha)) hP a 0 (by rw [cws_at g σ (tC_lt ha), cel_byt ha]) rfl rfl hdg kk
  · exact va_alen (x := (n, .inr (.inr (.inr (.inr (fun i => some (gad g (rf a i)))))))) hx hb (hK.K1 (aty_ref ha)) hP a 0 (by rw [cws_at g σ (tC_lt ha), cel_ref ha]) rfl rfl hdg kk
-- statics and String constants
theorem j_gets_kab {idx : Nat} (hw : Cond.fieldLink M.1.cls idx "ThirstPay" "KIND_ABOVE" "[I" ∈ lw_g) (hdg : decode M.2.1 pc = .ok (.getstatic idx, 3)) (hq : pc + 3 = q) (h : J g d M Z q ls (.ref 120 :: st) σ) : J g d M Z pc ls st σ := by
  subst hq
  intro p e R s m args below meth c H locs cells slots Q arr C hS hP hv K
  obtain ⟨hx, hb, hml, hown, hts, hA, hK, hSt, hSk, hR, hc⟩ := id C
  exact va_gets hx hb hSt.2.2.1 hS hown (hts _ hw) (fun _ z => z) hdg (h p e R s m args below meth c H locs cells slots Q arr C hS hP hv K)
theorem j_gets_bdy {idx : Nat} (hw : Cond.fieldLink M.1.cls idx "ThirstPay$Voices" "BODIES" "[I" ∈ lw_g) (hdg : decode M.2.1 pc = .ok (.getstatic idx, 3)) (hq : pc + 3 = q) (h : J g d M Z q ls (.ref 121 :: st) σ) : J g d M Z pc ls st σ := by
  subst hq
  intro p e R s m args below meth c H locs cells slots Q arr C hS hP hv K
  obtain ⟨hx, hb, hml, hown, hts, hA, hK, hSt, hSk, hR, hc⟩ := id C
  exact va_gets hx hb hSt.2.2.2.1 hS hown (hts _ hw) (fun _ z => z) hdg (h p e R s m args below meth c H locs cells slots Q arr C hS hP hv K)
theorem j_gets_cmp {idx : Nat} (hw : Cond.fieldLink M.1.cls idx "java/lang/String" "COMPACT_STRINGS" "Z" ∈ lw_g) (hdg : decode M.2.1 pc = .ok (.getstatic idx, 3)) (hq : pc + 3 = q) (h : J g d M Z q ls (.int 1 :: st) σ) : J g d M Z pc ls st σ := by
  subst hq
  intro p e R s m args below meth c H locs cells slots Q arr C hS hP hv K
  obtain ⟨hx, hb, hml, hown, hts, hA, hK, hSt, hSk, hR, hc⟩ := id C
  exact va_gets hx hb hSt.2.1 hS hown (hts _ hw) (fun _ z => z) hdg (h p e R s m args below meth c H locs cells slots Q arr C hS hP hv K)
theorem j_sald {a : Nat} {i : Int32} (ha : a < 3) (hin : vp_in i (stL g a)) (hdg : decode M.2.1 pc = .ok (.iaload, 1)) (hq : pc + 1 = q) (h : J g d M Z q ls (.int (stF g a i.toNatClampNeg) :: st) σ) : J g d M Z pc ls (.int i :: .ref (120 + a) :: st) σ := by
  subst hq
  intro p e R s m args below meth c H locs cells slots Q arr C hS hP hv K
  obtain ⟨hx, hb, hml, hown, hts, hA, hK, hSt, hSk, hR, hc⟩ := id C
  exact va_ti hx hb (hSt.2.2.2.2 a ha) hS hin rfl hdg (h p e R s m args below meth c H locs cells slots Q arr C hS hP hv K)
theorem j_slen {a : Nat} (ha : a < 3) (hdg : decode M.2.1 pc = .ok (.arraylength, 1)) (hq : pc + 1 = q) (h : J g d M Z q ls (.int (nI (stL g a)) :: st) σ) : J g d M Z pc ls (.ref (120 + a) :: st) σ := by
  subst hq
  intro p e R s m args below meth c H locs cells slots Q arr C hS hP hv K
  obtain ⟨hx, hb, hml, hown, hts, hA, hK, hSt, hSk, hR, hc⟩ := id C
  exact va_tlen hx hb (hSt.2.2.2.2 a ha) hS rfl hdg (h p e R s m args below meth c H locs cells slots Q arr C hS hP hv K)
theorem j_str_val {i idx : Nat} (hi : i < 3) (hw : Cond.fieldLink M.1.cls idx "java/lang/String" "value" "[B" ∈ lw_g) (hdg : decode M.2.1 pc = .ok (.getfield idx, 3)) (hq : pc + 3 = q) (h : J g d M Z q ls (.ref (110 + i) :: st) σ) : J g d M Z pc ls (.ref (100 + i) :: st) σ := by
  subst hq
  intro p e R s m args below meth c H locs cells slots Q arr C hS hP hv K
  obtain ⟨hx, hb, hml, hown, hts, hA, hK, hSt, hSk, hR, hc⟩ := id C
  exact vk_getf hx hb (hSt.1.1 i hi).2.2.1 hS hown (hts _ hw) (fun _ z => z) hdg (h p e R s m args below meth c H locs cells slots Q arr C hS hP hv K)
theorem j_str_cod {i idx : Nat} (hi : i < 3) (hw : Cond.fieldLink M.1.cls idx "java/lang/String" "coder" "B" ∈ lw_g) (hdg : decode M.2.1 pc = .ok (.getfield idx, 3)) (hq : pc + 3 = q) (h : J g d M Z q ls (.int 0 :: st) σ) : J g d M Z pc ls (.ref (100 + i) :: st) σ := by
  subst hq
  intro p e R s m args below meth c H locs cells slots Q arr C hS hP hv K
  obtain ⟨hx, hb, hml, hown, hts, hA, hK, hSt, hSk, hR, hc⟩ := id C
  exact vk_getf hx hb (hSt.1.1 i hi).2.1 hS hown (hts _ hw) (fun _ z => z) hdg (h p e R s m args below meth c H locs cells slots Q arr C hS hP hv K)
theorem j_str_ald {i : Nat} {j : Int32} (hi : i < 3) (hin : vp_in j (sLen.getD i 0)) (hdg : decode M.2.1 pc = .ok (.baload, 1)) (hq : pc + 1 = q) (h : J g d M Z q ls (.int ((sByt.getD i []).getD j.toNatClampNeg 0) :: st) σ) : J g d M Z pc ls (.int j :: .ref (110 + i) :: st) σ := by
  subst hq
  intro p e R s m args below meth c H locs cells slots Q arr C hS hP hv K
  obtain ⟨hx, hb, hml, hown, hts, hA, hK, hSt, hSk, hR, hc⟩ := id C
  exact va_tb hx hb (hSt.1.1 i hi).2.2.2 hS hin rfl hdg (h p e R s m args below meth c H locs cells slots Q arr C hS hP hv K)
theorem j_str_len {i : Nat} (hi : i < 3) (hdg : decode M.2.1 pc = .ok (.arraylength, 1)) (hq : pc + 1 = q) (h : J g d M Z q ls (.int (nI (sLen.getD i 0)) :: st) σ) : J g d M Z pc ls (.ref (110 + i) :: st) σ := by
  subst hq
  intro p e R s m args below meth c H locs cells slots Q arr C hS hP hv K
  obtain ⟨hx, hb, hml, hown, hts, hA, hK, hSt, hSk, hR, hc⟩ := id C
  exact va_tlen hx hb (hSt.1.1 i hi).2.2.2 hS rfl hdg (h p e R s m args below meth c H locs cells slots Q arr C hS hP hv K)
end JH
end
section
section JC
variable {g : GT} {d d' : Nat} {M M' : MM} {Z Z' : Value → S_ → Prop} {pc q : Nat} {ls st rest : List Value} {σ : S_}
/-- exactly this answer, and this picture -/
def EQ (r : Value) (τ : S_) : Value → S_ → Prop := fun r' τ' => r' = r ∧ τ' = τ
-- ends of a method
theorem j_iret {x : Int32} {ty : FieldType} (hdg : decode M.2.1 pc = .ok (.ireturn, 1)) (hr : M.2.2.2 = some ty) (hn : narrow ty (.int x) = .int x) (ho : ∀ n, ty ≠ .object n) (hz : Z (.int x) σ) : J g d M Z pc ls [.int x] σ := by
  intro p e R s m args below meth c H locs cells slots Q arr C hS hP hv K
  exact K pc arr (.int x) H locs σ hz ⟨hdg, ty, hr, hn, ho⟩ hS hP
theorem j_ireti {x : Int32} (hdg : decode M.2.1 pc = .ok (.ireturn, 1)) (hr : M.2.2.2 = some .int) (hz : Z (.int x) σ) : J g d M Z pc ls [.int x] σ := j_iret hdg hr rfl (fun _ h => by cases h) hz
theorem j_iretz {x : Int32} (hdg : decode M.2.1 pc = .ok (.ireturn, 1)) (hr : M.2.2.2 = some .boolean) (hx : x = 0 ∨ x = 1) (hz : Z (.int x) σ) : J g d M Z pc ls [.int x] σ := j_iret hdg hr (by rcases hx with rfl | rfl <;> rfl) (fun _ h => by cases h) hz
theorem j_vret (hdg : decode M.2.1 pc = .ok (.return_, 1)) (hr : M.2.2.2 = none) (hz : Z .null σ) : J g d M Z pc ls [] σ := by
  intro p e R s m args below meth c H locs cells slots Q arr C hS hP hv K
  exact K pc arr .null H locs σ hz ⟨hdg, hr⟩ hS hP
theorem j_aret {a : Nat} {n : String} (hdg : decode M.2.1 pc = .ok (.areturn, 1)) (hr : M.2.2.2 = some (.object n)) (hz : Z (.ref a) σ) : J g d M Z pc ls [.ref a] σ := by
  intro p e R s m args below meth c H locs cells slots Q arr C hS hP hv K
  exact K pc arr (.ref a) H locs σ hz ⟨hdg, n, hr⟩ hS hP
theorem lw_g_good : ∀ w ∈ lw_g, ((w.onTables && w.keeps) = true ∨ ∃ ty, w = .arrayClass ty) := fun w h => good_of_word (List.mem_filter.mp h).2
theorem narrow_ne {ty : FieldType} : True := trivial
/-- THE CONTRACT out of the walk from the method's entry -/
theorem ct_of {as : List Value} (ls0 : List Value) (hy : plainName M.1.cls = true) (ha : lvl g 0 ls0 = lv_args 0 (as.map (tr g))) (hlen : (lg_sl (as.map (tr g))).length ≤ M.2.2.1) (hJ : J g d M Z 0 ls0 [] σ) : CT g d M as σ Z := by
  unfold CT
  refine Met.ofW (cc := M.2.1) (maxL := M.2.2.1) (ret := M.2.2.2) hy rfl ?_
  intro p e s m args below meth c s₁ B hml hv
  obtain ⟨rfl, hA, hP, hK, hSt, hSk⟩ := hv
  have hts := atoms_spec (ws := Cond.code M.1 M.2.1 M.2.2.1 M.2.2.2 :: lw_g) B.pre
  have hown : s.vm.findClass M.1.cls = some m.cls := findClass_of_methodNamed B.named
  have hlocks := B.notSynchronized
  have hx := B.exec
  have hb := B.bytes
  have hr := B.returns
  have hS : va_S (gA g) s.heap s.heap [] := va_S.rf
  have hl := lv_entry (as.map (tr g)) (n := M.2.2.1) hlen
  rw [← ha] at hl
  rw [lg_entry_eq]
  refine hJ p e _ s m _ below meth c s.heap [] 0 0 _ _ ⟨hx, hb, hml, hown, fun w hw => hts w (List.mem_cons_of_mem _ hw), hA, hK, hSt, hSk, ⟨Nat.le_refl _, Nat.le_refl _⟩, ⟨Nat.zero_le _, Nat.zero_le _⟩⟩ hS hP hl ?_
  intro pc' arr' v H' locs' τ hz hi hS' hP'
  cases v with
  | int x =>
    obtain ⟨hdg, ty, hrt, hn, ho⟩ := hi
    have hq : QM g M.2.2.2 Z = va_Qi (fun r u => Z (.int r) u) (fun u t => va_P (gD g) clsL (cws g u) t.heap) (gA g) := by
      rw [hrt]
      cases ty <;> first | rfl | exact absurd rfl (ho _)
    rw [hq]
    exact W.zret (v := x) hx hb (hr.trans hrt) hn (fun t ht hW => ⟨⟨x, τ, rfl, hz, by show va_P (gD g) clsL (cws g τ) t.heap; rw [ht]; exact hP'⟩, hS'.F ht⟩) hS'.2.2 hdg
  | null =>
    obtain ⟨hdg, hrt⟩ := hi
    have hq : QM g M.2.2.2 Z = va_Qv (fun u => Z .null u) (fun u t => va_P (gD g) clsL (cws g u) t.heap) (gA g) := by rw [hrt]; rfl
    rw [hq]
    exact W.vret hx hb (hr.trans hrt) (fun t ht hW => ⟨⟨τ, rfl, hz, by show va_P (gD g) clsL (cws g τ) t.heap; rw [ht]; exact hP'⟩, hS'.F ht⟩) hS'.2.2 hdg
  | ref a =>
    obtain ⟨hdg, n, hrt⟩ := hi
    have hq : QM g M.2.2.2 Z = va_Qr (fun u : S_ × Nat => Z (.ref u.2) u.1) (fun u a t => a = gad g u.2 ∧ va_P (gD g) clsL (cws g u.1) t.heap) (gA g) := by rw [hrt]; rfl
    rw [hq]
    exact W.aret (v := .ref (gad g a)) hx hb (hr.trans hrt) (Or.inl ⟨n, rfl⟩) (Or.inr ⟨_, rfl⟩) (fun t ht hW => ⟨⟨(τ, a), gad g a, rfl, hz, rfl, by show va_P (gD g) clsL (cws g τ) t.heap; rw [ht]; exact hP'⟩, hS'.F ht⟩) hS'.2.2 hdg
  | long x => exact absurd hi (by simp [IR])
  | float x => exact absurd hi (by simp [IR])
  | double x => exact absurd hi (by simp [IR])
  | retAddr x => exact absurd hi (by simp [IR])
theorem RU_blind {g : GT} {as : List Value} {σ : S_} : FrameBlind (va_Pc (as.map (tr g)) (RU g σ)) := by
  intro a U gf mk h
  obtain ⟨h1, hA, hP, hK, hSt, hSk⟩ := h
  exact ⟨h1, hA, hP, KN.moved (u := U) (U := U.calling gf mk a) (Vm.Alike.refl U.vm) hK, STh.moved (u := U) (U := U.calling gf mk a) (Vm.Alike.refl U.vm) hSt, STk.same (u := U) (U := U.calling gf mk a) rfl hSk⟩
theorem RU_call {g : GT} {as : List Value} {σ : S_} {s : State} {H : Heap} {locs : List Loc} (hA : AD g) (hP : va_P (gD g) clsL (cws g σ) H) (hK : KN g s) (hSt : STh g s s.heap) (hSk : STk g s) (hS : va_S (gA g) s.heap H locs) : ∀ U : State, U.heap = H → s.WarmedH U.vm → va_Pc (as.map (tr g)) (RU g σ) (as.map (tr g)).toArray U := by
  intro U hU hW
  exact ⟨rfl, hA, by rw [hU]; exact hP, hK.moved hW.alike, by rw [hU]; exact (hSt.kept hS.2.1).moved hW.alike, hSk.warm hW⟩
/-- the class of the object at a number -/
def OB (b : Nat) (C : String) : Prop := (∃ ci q, tC[b]? = some (3, ci) ∧ clsL[ci]? = some q ∧ q.1 = C) ∨ ∃ i, i < 3 ∧ b = 100 + i ∧ C = "java/lang/String"
theorem OB.recv {b : Nat} {C : String} (h : OB b C) {g : GT} {σ : S_} {s : State} {H : Heap} {locs : List Loc} (hP : va_P (gD g) clsL (cws g σ) H) (hK : KN g s) (hSt : STh g s s.heap) (hS : va_S (gA g) s.heap H locs) : ∃ cellB : Cell, H[gad g b]? = some cellB ∧ cellB.vm.isStatics = false ∧ s.vm.findClass C = some cellB.cls := by
  rcases h with ⟨ci, q, h1, h2, rfl⟩ | ⟨i, h1, rfl, rfl⟩
  · exact va_recv hK.K hP (q0 := b) (fs := flds g σ b ci) h2 (by rw [cws_at g σ (tC_lt h1), cel_obj h1])
  · exact vk_recv (i := i) hSt.1 h1 hS
/-- a call's words: what links it, and how (kind 0: an instance method; 1: a static one), in the caller's own words or a nest mate's -/
def LK (own : String) (idx : Nat) (y : MethodName) : Prop := Cond.methodLink own idx y ∈ lw_g ∨ ∃ host, Cond.methodLinkNest own idx y host ∈ lw_g
/-- a method's own words -/
def MV (M : MM) : Prop := Cond.code M.1 M.2.1 M.2.2.1 M.2.2.2 ∈ lw_g ∧ Cond.initialized M.1.cls ∈ lw_g ∧ (M.1.cls ≠ "java/lang/invoke/MethodHandle" ∧ M.1.cls ≠ "java/lang/invoke/VarHandle") ∧ M.2.2.1 ≤ 12 ∧ Cond.instanceMethod M.1 ∈ lw_g ∧ Cond.selects M.1.cls M.1 M.1 ∈ lw_g
def MS (M : MM) : Prop := Cond.code M.1 M.2.1 M.2.2.1 M.2.2.2 ∈ lw_g ∧ Cond.initialized M.1.cls ∈ lw_g ∧ (M.1.cls ≠ "java/lang/invoke/MethodHandle" ∧ M.1.cls ≠ "java/lang/invoke/VarHandle") ∧ M.2.2.1 ≤ 12 ∧ Cond.static M.1 ∈ lw_g
def NA (M : MM) (n : Nat) : Prop := (parseMethodDescriptor M.1.desc).map (fun d => d.parameters.length) = some n
theorem GI {w : Cond} (hw : w ∈ lw_g) : GoodIn lw_g (w :: lw_g) := by
  intro v hv
  rcases List.mem_cons.mp hv with h | h
  · subst h; exact ⟨hw, lw_g_good _ hw⟩
  · exact ⟨h, lw_g_good _ h⟩
theorem run_V {idx n : Nat} {b : Nat} {as : List Value} {p : Program} {e : Env} {R : Room} {s : State} {m : MethodId} {args : Array Value} {below : List Frame} {meth : Method} {c : Code} {H : Heap} {locs : List Loc} {cells slots : Nat} {arr : Array Slot}
    (hl : LK M.1.cls idx M'.1) (hm : MV M') (hna : NA M' n) (hob : OB b M'.1.cls) (hn : as.length = n) (hd : d' + 1 ≤ d) (hrest : (rest.map fun v => v.category).sum ≤ 8) (hdg : decode M.2.1 pc = .ok (.invokevirtual idx, 3)) (hc : CT g d' M' (.ref b :: as) σ Z')
    (C : CX g d M p R s m args c cells slots) (hS : va_S (gA g) s.heap H locs) (hP : va_P (gD g) clsL (cws g σ) H) (hv : lv_has arr M.2.2.1 (lvl g 0 ls)) :
    va_Run p (gl g) e R s m args below meth c H locs cells slots 0 0 (F0 m pc arr ((as.map (tr g)).reverse ++ .ref (gad g b) :: rest.map (tr g))) (rest.map (tr g)) (QM g M'.2.2.2 Z' (Value.ref (gad g b) :: as.map (tr g)).toArray) (gA g) := by
  obtain ⟨hx, hb, hml, hown, hts, hA, hK, hSt, hSk, hR, hcs⟩ := id C
  obtain ⟨m1, m2, m3, m4, m5, m6⟩ := hm
  have hroom : (Rm d').frames + 1 ≤ R.frames ∧ 8 + (M'.2.2.1 + 11) + (Rm d').locals ≤ R.locals := ⟨by show d' + 1 ≤ R.frames; omega, by show 8 + (M'.2.2.1 + 11) + 40 * d' ≤ R.locals; omega⟩
  have hpre : PreV s H M'.1.cls (gad g b) (va_Pc ((Value.ref b :: as).map (tr g)) (RU g σ)) (as.map (tr g)) := ⟨RU_blind, hob.recv hP hK hSt hS, RU_call (as := .ref b :: as) hA hP hK hSt hSk hS⟩
  have hrm : 2 * (F0 m pc arr ((as.map (tr g)).reverse ++ .ref (gad g b) :: rest.map (tr g))).monitorRoom + ((rest.map (tr g)).map fun v => v.category).sum ≤ 8 := by rw [tr_cats]; exact lv_room (rest := (as.map (tr g)).reverse ++ .ref (gad g b) :: rest.map (tr g)) hrest
  rcases hl with hl | ⟨host, hl⟩
  · exact va_runV ⟨hx, hb, hml, hown, hts⟩ hc ⟨callB_of n hts (GI m1) rfl rfl rfl (hts _ m2) (hts _ hl) ⟨m3.1, m3.2, hna⟩ hroom, hts _ m5, hts _ m6⟩ hpre rfl (by rw [List.length_map]; exact hn) hv.1 rfl hrm hdg ⟨hcs.1, hcs.2⟩
  · exact va_runVN (C := M'.1.cls) ⟨hx, hb, hml, hown, hts⟩ hc ⟨va_cnB n hts (GI m1) rfl rfl rfl (va_Nw.of (by first | rfl | decide) (hts _ hl)) (hts _ m2) ⟨m3.1, m3.2, hna⟩ hroom, hts _ m5, hts _ m6⟩ hpre rfl (by rw [List.length_map]; exact hn) hv.1 rfl hrm hdg ⟨hcs.1, hcs.2⟩
theorem run_S {idx n : Nat} {as : List Value} {p : Program} {e : Env} {R : Room} {s : State} {m : MethodId} {args : Array Value} {below : List Frame} {meth : Method} {c : Code} {H : Heap} {locs : List Loc} {cells slots : Nat} {arr : Array Slot}
    (hl : LK M.1.cls idx M'.1) (hm : MS M') (hna : NA M' n) (hn : as.length = n) (hd : d' + 1 ≤ d) (hrest : (rest.map fun v => v.category).sum ≤ 8) (hdg : decode M.2.1 pc = .ok (.invokestatic idx, 3)) (hc : CT g d' M' as σ Z')
    (C : CX g d M p R s m args c cells slots) (hS : va_S (gA g) s.heap H locs) (hP : va_P (gD g) clsL (cws g σ) H) (hv : lv_has arr M.2.2.1 (lvl g 0 ls)) :
    va_Run p (gl g) e R s m args below meth c H locs cells slots 0 0 (F0 m pc arr ((as.map (tr g)).reverse ++ rest.map (tr g))) (rest.map (tr g)) (QM g M'.2.2.2 Z' (as.map (tr g)).toArray) (gA g) := by
  obtain ⟨hx, hb, hml, hown, hts, hA, hK, hSt, hSk, hR, hcs⟩ := id C
  obtain ⟨m1, m2, m3, m4, m5⟩ := hm
  have hroom : (Rm d').frames + 1 ≤ R.frames ∧ 8 + (M'.2.2.1 + 11) + (Rm d').locals ≤ R.locals := ⟨by show d' + 1 ≤ R.frames; omega, by show 8 + (M'.2.2.1 + 11) + 40 * d' ≤ R.locals; omega⟩
  have hpre : PreS s H (va_Pc (as.map (tr g)) (RU g σ)) (as.map (tr g)) := ⟨RU_blind, RU_call (as := as) hA hP hK hSt hSk hS⟩
  have hrm : 2 * (F0 m pc arr ((as.map (tr g)).reverse ++ rest.map (tr g))).monitorRoom + ((rest.map (tr g)).map fun v => v.category).sum ≤ 8 := by rw [tr_cats]; exact lv_room (rest := (as.map (tr g)).reverse ++ rest.map (tr g)) hrest
  rcases hl with hl | ⟨host, hl⟩
  · exact va_runS ⟨hx, hb, hml, hown, hts⟩ hc ⟨callB_of n hts (GI m1) rfl rfl rfl (hts _ m2) (hts _ hl) ⟨m3.1, m3.2, hna⟩ hroom, hts _ m5⟩ hpre rfl (by rw [List.length_map]; exact hn) hv.1 rfl hrm hdg ⟨hcs.1, hcs.2⟩
  · exact va_runSN ⟨hx, hb, hml, hown, hts⟩ hc ⟨va_cnB n hts (GI m1) rfl rfl rfl (va_Nw.of (by first | rfl | decide) (hts _ hl)) (hts _ m2) ⟨m3.1, m3.2, hna⟩ hroom, hts _ m5, trivial⟩ hpre rfl (by rw [List.length_map]; exact hn) hv.1 rfl hrm hdg ⟨hcs.1, hcs.2⟩

theorem j_callVi {idx n : Nat} {b : Nat} {as : List Value} (hl : LK M.1.cls idx M'.1) (hm : MV M') (hna : NA M' n) (hob : OB b M'.1.cls) (hn : as.length = n) (hd : d' + 1 ≤ d) (hrest : (rest.map fun v => v.category).sum ≤ 8) (hdg : decode M.2.1 pc = .ok (.invokevirtual idx, 3)) (hq : pc + 3 = q) (hr : ∃ ty, M'.2.2.2 = some ty ∧ ∀ n, ty ≠ .object n) (hc : CT g d' M' (.ref b :: as) σ Z') (k : (∀ x τ, Z' (.int x) τ → J g d M Z q ls (.int x :: rest) τ)) : J g d M Z pc ls (as.reverse ++ .ref b :: rest) σ := by
  subst hq
  have hqm : QM g M'.2.2.2 Z' = va_Qi (fun r u => Z' (.int r) u) (fun u t => va_P (gD g) clsL (cws g u) t.heap) (gA g) := by
    obtain ⟨ty, h1, h2⟩ := hr
    rw [h1]
    cases ty <;> first | rfl | exact absurd rfl (h2 _)
  intro p e R s m args below meth c H locs cells slots Q arr C hS hP hv K
  have hrun := run_V (p := p) (e := e) (below := below) (meth := meth) (locs := locs) (cells := cells) (slots := slots) hl hm hna hob hn hd hrest hdg hc C hS hP hv
  rw [hqm] at hrun
  have hst : ((as.reverse ++ .ref b :: rest)).map (tr g) = (as.map (tr g)).reverse ++ .ref (gad g b) :: rest.map (tr g) := by rw [List.map_append, List.map_reverse]; rfl
  rw [hst]
  refine va_calli hrun hS (fun q _ h => h) (fun q h => h) ?_
  · intro r u t H1 locs1 ht hvm hw hB hz1 hk1 hS1
    rw [← ht] at hS1 ⊢
    exact k r u hw p e R s m args below meth c _ locs1 cells slots Q arr C hS1 hB hv K
theorem j_callVv {idx n : Nat} {b : Nat} {as : List Value} (hl : LK M.1.cls idx M'.1) (hm : MV M') (hna : NA M' n) (hob : OB b M'.1.cls) (hn : as.length = n) (hd : d' + 1 ≤ d) (hrest : (rest.map fun v => v.category).sum ≤ 8) (hdg : decode M.2.1 pc = .ok (.invokevirtual idx, 3)) (hq : pc + 3 = q) (hr : M'.2.2.2 = none) (hc : CT g d' M' (.ref b :: as) σ Z') (k : (∀ τ, Z' .null τ → J g d M Z q ls rest τ)) : J g d M Z pc ls (as.reverse ++ .ref b :: rest) σ := by
  subst hq
  have hqm : QM g M'.2.2.2 Z' = va_Qv (fun u => Z' .null u) (fun u t => va_P (gD g) clsL (cws g u) t.heap) (gA g) := by rw [hr]; rfl
  intro p e R s m args below meth c H locs cells slots Q arr C hS hP hv K
  have hrun := run_V (p := p) (e := e) (below := below) (meth := meth) (locs := locs) (cells := cells) (slots := slots) hl hm hna hob hn hd hrest hdg hc C hS hP hv
  rw [hqm] at hrun
  have hst : ((as.reverse ++ .ref b :: rest)).map (tr g) = (as.map (tr g)).reverse ++ .ref (gad g b) :: rest.map (tr g) := by rw [List.map_append, List.map_reverse]; rfl
  rw [hst]
  refine va_callv hrun hS (fun q _ h => h) (fun q h => h) ?_
  · intro u t H1 locs1 ht hvm hw hB hz1 hk1 hS1
    rw [← ht] at hS1 ⊢
    exact k u hw p e R s m args below meth c _ locs1 cells slots Q arr C hS1 hB hv K
theorem j_callVr {idx n : Nat} {b : Nat} {as : List Value} (hl : LK M.1.cls idx M'.1) (hm : MV M') (hna : NA M' n) (hob : OB b M'.1.cls) (hn : as.length = n) (hd : d' + 1 ≤ d) (hrest : (rest.map fun v => v.category).sum ≤ 8) (hdg : decode M.2.1 pc = .ok (.invokevirtual idx, 3)) (hq : pc + 3 = q) (hr : ∃ n, M'.2.2.2 = some (.object n)) (hc : CT g d' M' (.ref b :: as) σ Z') (k : (∀ a τ, Z' (.ref a) τ → J g d M Z q ls (.ref a :: rest) τ)) : J g d M Z pc ls (as.reverse ++ .ref b :: rest) σ := by
  subst hq
  have hqm : QM g M'.2.2.2 Z' = va_Qr (fun u : S_ × Nat => Z' (.ref u.2) u.1) (fun u a t => a = gad g u.2 ∧ va_P (gD g) clsL (cws g u.1) t.heap) (gA g) := by obtain ⟨n, h1⟩ := hr; rw [h1]; rfl
  intro p e R s m args below meth c H locs cells slots Q arr C hS hP hv K
  have hrun := run_V (p := p) (e := e) (below := below) (meth := meth) (locs := locs) (cells := cells) (slots := slots) hl hm hna hob hn hd hrest hdg hc C hS hP hv
  rw [hqm] at hrun
  have hst : ((as.reverse ++ .ref b :: rest)).map (tr g) = (as.map (tr g)).reverse ++ .ref (gad g b) :: rest.map (tr g) := by rw [List.map_append, List.map_reverse]; rfl
  rw [hst]
  refine va_callr hrun hS (fun q _ h => h) (fun q h => h) ?_
  · intro u a t H1 locs1 ht hvm hw hB hz1 hk1 hS1
    obtain ⟨rfl, hB⟩ := hB
    rw [← ht] at hS1 ⊢
    exact k u.2 u.1 hw p e R s m args below meth c _ locs1 cells slots Q arr C hS1 hB hv K
theorem j_callSi {idx n : Nat} {as : List Value} (hl : LK M.1.cls idx M'.1) (hm : MS M') (hna : NA M' n) (hn : as.length = n) (hd : d' + 1 ≤ d) (hrest : (rest.map fun v => v.category).sum ≤ 8) (hdg : decode M.2.1 pc = .ok (.invokestatic idx, 3)) (hq : pc + 3 = q) (hr : ∃ ty, M'.2.2.2 = some ty ∧ ∀ n, ty ≠ .object n) (hc : CT g d' M' as σ Z') (k : (∀ x τ, Z' (.int x) τ → J g d M Z q ls (.int x :: rest) τ)) : J g d M Z pc ls (as.reverse ++ rest) σ := by
  subst hq
  have hqm : QM g M'.2.2.2 Z' = va_Qi (fun r u => Z' (.int r) u) (fun u t => va_P (gD g) clsL (cws g u) t.heap) (gA g) := by
    obtain ⟨ty, h1, h2⟩ := hr
    rw [h1]
    cases ty <;> first | rfl | exact absurd rfl (h2 _)
  intro p e R s m args below meth c H locs cells slots Q arr C hS hP hv K
  have hrun := run_S (p := p) (e := e) (below := below) (meth := meth) (locs := locs) (cells := cells) (slots := slots) hl hm hna hn hd hrest hdg hc C hS hP hv
  rw [hqm] at hrun
  have hst : ((as.reverse ++ rest)).map (tr g) = (as.map (tr g)).reverse ++ rest.map (tr g) := by rw [List.map_append, List.map_reverse]
  rw [hst]
  refine va_calli hrun hS (fun q _ h => h) (fun q h => h) ?_
  · intro r u t H1 locs1 ht hvm hw hB hz1 hk1 hS1
    rw [← ht] at hS1 ⊢
    exact k r u hw p e R s m args below meth c _ locs1 cells slots Q arr C hS1 hB hv K
theorem j_callSv {idx n : Nat} {as : List Value} (hl : LK M.1.cls idx M'.1) (hm : MS M') (hna : NA M' n) (hn : as.length = n) (hd : d' + 1 ≤ d) (hrest : (rest.map fun v => v.category).sum ≤ 8) (hdg : decode M.2.1 pc = .ok (.invokestatic idx, 3)) (hq : pc + 3 = q) (hr : M'.2.2.2 = none) (hc : CT g d' M' as σ Z') (k : (∀ τ, Z' .null τ → J g d M Z q ls rest τ)) : J g d M Z pc ls (as.reverse ++ rest) σ := by
  subst hq
  have hqm : QM g M'.2.2.2 Z' = va_Qv (fun u => Z' .null u) (fun u t => va_P (gD g) clsL (cws g u) t.heap) (gA g) := by rw [hr]; rfl
  intro p e R s m args below meth c H locs cells slots Q arr C hS hP hv K
  have hrun := run_S (p := p) (e := e) (below := below) (meth := meth) (locs := locs) (cells := cells) (slots := slots) hl hm hna hn hd hrest hdg hc C hS hP hv
  rw [hqm] at hrun
  have hst : ((as.reverse ++ rest)).map (tr g) = (as.map (tr g)).reverse ++ rest.map (tr g) := by rw [List.map_append, List.map_reverse]
  rw [hst]
  refine va_callv hrun hS (fun q _ h => h) (fun q h => h) ?_
  · intro u t H1 locs1 ht hvm hw hB hz1 hk1 hS1
    rw [← ht] at hS1 ⊢
    exact k u hw p e R s m args below meth c _ locs1 cells slots Q arr C hS1 hB hv K
theorem j_callSr {idx n : Nat} {as : List Value} (hl : LK M.1.cls idx M'.1) (hm : MS M') (hna : NA M' n) (hn : as.length = n) (hd : d' + 1 ≤ d) (hrest : (rest.map fun v => v.category).sum ≤ 8) (hdg : decode M.2.1 pc = .ok (.invokestatic idx, 3)) (hq : pc + 3 = q) (hr : ∃ n, M'.2.2.2 = some (.object n)) (hc : CT g d' M' as σ Z') (k : (∀ a τ, Z' (.ref a) τ → J g d M Z q ls (.ref a :: rest) τ)) : J g d M Z pc ls (as.reverse ++ rest) σ := by
  subst hq
  have hqm : QM g M'.2.2.2 Z' = va_Qr (fun u : S_ × Nat => Z' (.ref u.2) u.1) (fun u a t => a = gad g u.2 ∧ va_P (gD g) clsL (cws g u.1) t.heap) (gA g) := by obtain ⟨n, h1⟩ := hr; rw [h1]; rfl
  intro p e R s m args below meth c H locs cells slots Q arr C hS hP hv K
  have hrun := run_S (p := p) (e := e) (below := below) (meth := meth) (locs := locs) (cells := cells) (slots := slots) hl hm hna hn hd hrest hdg hc C hS hP hv
  rw [hqm] at hrun
  have hst : ((as.reverse ++ rest)).map (tr g) = (as.map (tr g)).reverse ++ rest.map (tr g) := by rw [List.map_append, List.map_reverse]
  rw [hst]
  refine va_callr hrun hS (fun q _ h => h) (fun q h => h) ?_
  · intro u a t H1 locs1 ht hvm hw hB hz1 hk1 hS1
    obtain ⟨rfl, hB⟩ := hB
    rw [← ht] at hS1 ⊢
    exact k u.2 u.1 hw p e R s m args below meth c _ locs1 cells slots Q arr C hS1 hB hv K
end JC
end
section
section JD
variable {g : GT} {d d' : Nat} {M M' : MM} {Z Z' : Value → S_ → Prop} {pc q : Nat} {ls st rest : List Value} {σ τ1 : S_}
theorem j_callVi0 {idx : Nat} {b : Nat} (hl : LK M.1.cls idx M'.1) (hm : MV M') (hna : NA M' 0) (hob : OB b M'.1.cls) (hd : d' + 1 ≤ d) (hrest : (rest.map fun v => v.category).sum ≤ 8) (hdg : decode M.2.1 pc = .ok (.invokevirtual idx, 3)) (hq : pc + 3 = q) (hr : ∃ ty, M'.2.2.2 = some ty ∧ ∀ n, ty ≠ .object n) (hc : CT g d' M' (.ref b :: []) σ Z') (k : ∀ x τ, Z' (.int x) τ → J g d M Z q ls (.int x :: rest) τ) : J g d M Z pc ls (.ref b :: rest) σ :=
  j_callVi (as := []) (n := 0) hl hm hna hob rfl hd hrest hdg hq hr hc k
theorem j_callVi0E {idx : Nat} {b : Nat} (hl : LK M.1.cls idx M'.1) (hm : MV M') (hna : NA M' 0) (hob : OB b M'.1.cls) (hd : d' + 1 ≤ d) (hrest : (rest.map fun v => v.category).sum ≤ 8) (hdg : decode M.2.1 pc = .ok (.invokevirtual idx, 3)) (hq : pc + 3 = q) (hr : ∃ ty, M'.2.2.2 = some ty ∧ ∀ n, ty ≠ .object n) {x0 : Int32} (hc : CT g d' M' (.ref b :: []) σ (EQ (.int x0) τ1)) (k : J g d M Z q ls (.int x0 :: rest) τ1) : J g d M Z pc ls (.ref b :: rest) σ :=
  j_callVi (as := []) (n := 0) hl hm hna hob rfl hd hrest hdg hq hr hc (fun x τ hz => by obtain ⟨h1, rfl⟩ := hz; cases h1; exact k)
theorem j_callVv0 {idx : Nat} {b : Nat} (hl : LK M.1.cls idx M'.1) (hm : MV M') (hna : NA M' 0) (hob : OB b M'.1.cls) (hd : d' + 1 ≤ d) (hrest : (rest.map fun v => v.category).sum ≤ 8) (hdg : decode M.2.1 pc = .ok (.invokevirtual idx, 3)) (hq : pc + 3 = q) (hr : M'.2.2.2 = none) (hc : CT g d' M' (.ref b :: []) σ Z') (k : ∀ τ, Z' .null τ → J g d M Z q ls rest τ) : J g d M Z pc ls (.ref b :: rest) σ :=
  j_callVv (as := []) (n := 0) hl hm hna hob rfl hd hrest hdg hq hr hc k
theorem j_callVv0E {idx : Nat} {b : Nat} (hl : LK M.1.cls idx M'.1) (hm : MV M') (hna : NA M' 0) (hob : OB b M'.1.cls) (hd : d' + 1 ≤ d) (hrest : (rest.map fun v => v.category).sum ≤ 8) (hdg : decode M.2.1 pc = .ok (.invokevirtual idx, 3)) (hq : pc + 3 = q) (hr : M'.2.2.2 = none)  (hc : CT g d' M' (.ref b :: []) σ (EQ .null τ1)) (k : J g d M Z q ls rest τ1) : J g d M Z pc ls (.ref b :: rest) σ :=
  j_callVv (as := []) (n := 0) hl hm hna hob rfl hd hrest hdg hq hr hc (fun τ hz => by obtain ⟨h1, rfl⟩ := hz; exact k)
theorem j_callVi1 {idx : Nat} {b : Nat} {a1 : Value} (hl : LK M.1.cls idx M'.1) (hm : MV M') (hna : NA M' 1) (hob : OB b M'.1.cls) (hd : d' + 1 ≤ d) (hrest : (rest.map fun v => v.category).sum ≤ 8) (hdg : decode M.2.1 pc = .ok (.invokevirtual idx, 3)) (hq : pc + 3 = q) (hr : ∃ ty, M'.2.2.2 = some ty ∧ ∀ n, ty ≠ .object n) (hc : CT g d' M' (.ref b :: [a1]) σ Z') (k : ∀ x τ, Z' (.int x) τ → J g d M Z q ls (.int x :: rest) τ) : J g d M Z pc ls (a1 :: .ref b :: rest) σ :=
  j_callVi (as := [a1]) (n := 1) hl hm hna hob rfl hd hrest hdg hq hr hc k
theorem j_callVi1E {idx : Nat} {b : Nat} {a1 : Value} (hl : LK M.1.cls idx M'.1) (hm : MV M') (hna : NA M' 1) (hob : OB b M'.1.cls) (hd : d' + 1 ≤ d) (hrest : (rest.map fun v => v.category).sum ≤ 8) (hdg : decode M.2.1 pc = .ok (.invokevirtual idx, 3)) (hq : pc + 3 = q) (hr : ∃ ty, M'.2.2.2 = some ty ∧ ∀ n, ty ≠ .object n) {x0 : Int32} (hc : CT g d' M' (.ref b :: [a1]) σ (EQ (.int x0) τ1)) (k : J g d M Z q ls (.int x0 :: rest) τ1) : J g d M Z pc ls (a1 :: .ref b :: rest) σ :=
  j_callVi (as := [a1]) (n := 1) hl hm hna hob rfl hd hrest hdg hq hr hc (fun x τ hz => by obtain ⟨h1, rfl⟩ := hz; cases h1; exact k)
theorem j_callVv1 {idx : Nat} {b : Nat} {a1 : Value} (hl : LK M.1.cls idx M'.1) (hm : MV M') (hna : NA M' 1) (hob : OB b M'.1.cls) (hd : d' + 1 ≤ d) (hrest : (rest.map fun v => v.category).sum ≤ 8) (hdg : decode M.2.1 pc = .ok (.invokevirtual idx, 3)) (hq : pc + 3 = q) (hr : M'.2.2.2 = none) (hc : CT g d' M' (.ref b :: [a1]) σ Z') (k : ∀ τ, Z' .null τ → J g d M Z q ls rest τ) : J g d M Z pc ls (a1 :: .ref b :: rest) σ :=
  j_callVv (as := [a1]) (n := 1) hl hm hna hob rfl hd hrest hdg hq hr hc k
theorem j_callVv1E {idx : Nat} {b : Nat} {a1 : Value} (hl : LK M.1.cls idx M'.1) (hm : MV M') (hna : NA M' 1) (hob : OB b M'.1.cls) (hd : d' + 1 ≤ d) (hrest : (rest.map fun v => v.category).sum ≤ 8) (hdg : decode M.2.1 pc = .ok (.invokevirtual idx, 3)) (hq : pc + 3 = q) (hr : M'.2.2.2 = none)  (hc : CT g d' M' (.ref b :: [a1]) σ (EQ .null τ1)) (k : J g d M Z q ls rest τ1) : J g d M Z pc ls (a1 :: .ref b :: rest) σ :=
  j_callVv (as := [a1]) (n := 1) hl hm hna hob rfl hd hrest hdg hq hr hc (fun τ hz => by obtain ⟨h1, rfl⟩ := hz; exact k)
theorem j_callVi2 {idx : Nat} {b : Nat} {a1 a2 : Value} (hl : LK M.1.cls idx M'.1) (hm : MV M') (hna : NA M' 2) (hob : OB b M'.1.cls) (hd : d' + 1 ≤ d) (hrest : (rest.map fun v => v.category).sum ≤ 8) (hdg : decode M.2.1 pc = .ok (.invokevirtual idx, 3)) (hq : pc + 3 = q) (hr : ∃ ty, M'.2.2.2 = some ty ∧ ∀ n, ty ≠ .object n) (hc : CT g d' M' (.ref b :: [a1, a2]) σ Z') (k : ∀ x τ, Z' (.int x) τ → J g d M Z q ls (.int x :: rest) τ) : J g d M Z pc ls (a2 :: a1 :: .ref b :: rest) σ :=
  j_callVi (as := [a1, a2]) (n := 2) hl hm hna hob rfl hd hrest hdg hq hr hc k
theorem j_callVi2E {idx : Nat} {b : Nat} {a1 a2 : Value} (hl : LK M.1.cls idx M'.1) (hm : MV M') (hna : NA M' 2) (hob : OB b M'.1.cls) (hd : d' + 1 ≤ d) (hrest : (rest.map fun v => v.category).sum ≤ 8) (hdg : decode M.2.1 pc = .ok (.invokevirtual idx, 3)) (hq : pc + 3 = q) (hr : ∃ ty, M'.2.2.2 = some ty ∧ ∀ n, ty ≠ .object n) {x0 : Int32} (hc : CT g d' M' (.ref b :: [a1, a2]) σ (EQ (.int x0) τ1)) (k : J g d M Z q ls (.int x0 :: rest) τ1) : J g d M Z pc ls (a2 :: a1 :: .ref b :: rest) σ :=
  j_callVi (as := [a1, a2]) (n := 2) hl hm hna hob rfl hd hrest hdg hq hr hc (fun x τ hz => by obtain ⟨h1, rfl⟩ := hz; cases h1; exact k)
theorem j_callVv2 {idx : Nat} {b : Nat} {a1 a2 : Value} (hl : LK M.1.cls idx M'.1) (hm : MV M') (hna : NA M' 2) (hob : OB b M'.1.cls) (hd : d' + 1 ≤ d) (hrest : (rest.map fun v => v.category).sum ≤ 8) (hdg : decode M.2.1 pc = .ok (.invokevirtual idx, 3)) (hq : pc + 3 = q) (hr : M'.2.2.2 = none) (hc : CT g d' M' (.ref b :: [a1, a2]) σ Z') (k : ∀ τ, Z' .null τ → J g d M Z q ls rest τ) : J g d M Z pc ls (a2 :: a1 :: .ref b :: rest) σ :=
  j_callVv (as := [a1, a2]) (n := 2) hl hm hna hob rfl hd hrest hdg hq hr hc k
theorem j_callVv2E {idx : Nat} {b : Nat} {a1 a2 : Value} (hl : LK M.1.cls idx M'.1) (hm : MV M') (hna : NA M' 2) (hob : OB b M'.1.cls) (hd : d' + 1 ≤ d) (hrest : (rest.map fun v => v.category).sum ≤ 8) (hdg : decode M.2.1 pc = .ok (.invokevirtual idx, 3)) (hq : pc + 3 = q) (hr : M'.2.2.2 = none)  (hc : CT g d' M' (.ref b :: [a1, a2]) σ (EQ .null τ1)) (k : J g d M Z q ls rest τ1) : J g d M Z pc ls (a2 :: a1 :: .ref b :: rest) σ :=
  j_callVv (as := [a1, a2]) (n := 2) hl hm hna hob rfl hd hrest hdg hq hr hc (fun τ hz => by obtain ⟨h1, rfl⟩ := hz; exact k)
theorem j_callVi3 {idx : Nat} {b : Nat} {a1 a2 a3 : Value} (hl : LK M.1.cls idx M'.1) (hm : MV M') (hna : NA M' 3) (hob : OB b M'.1.cls) (hd : d' + 1 ≤ d) (hrest : (rest.map fun v => v.category).sum ≤ 8) (hdg : decode M.2.1 pc = .ok (.invokevirtual idx, 3)) (hq : pc + 3 = q) (hr : ∃ ty, M'.2.2.2 = some ty ∧ ∀ n, ty ≠ .object n) (hc : CT g d' M' (.ref b :: [a1, a2, a3]) σ Z') (k : ∀ x τ, Z' (.int x) τ → J g d M Z q ls (.int x :: rest) τ) : J g d M Z pc ls (a3 :: a2 :: a1 :: .ref b :: rest) σ :=
  j_callVi (as := [a1, a2, a3]) (n := 3) hl hm hna hob rfl hd hrest hdg hq hr hc k
theorem j_callVi3E {idx : Nat} {b : Nat} {a1 a2 a3 : Value} (hl : LK M.1.cls idx M'.1) (hm : MV M') (hna : NA M' 3) (hob : OB b M'.1.cls) (hd : d' + 1 ≤ d) (hrest : (rest.map fun v => v.category).sum ≤ 8) (hdg : decode M.2.1 pc = .ok (.invokevirtual idx, 3)) (hq : pc + 3 = q) (hr : ∃ ty, M'.2.2.2 = some ty ∧ ∀ n, ty ≠ .object n) {x0 : Int32} (hc : CT g d' M' (.ref b :: [a1, a2, a3]) σ (EQ (.int x0) τ1)) (k : J g d M Z q ls (.int x0 :: rest) τ1) : J g d M Z pc ls (a3 :: a2 :: a1 :: .ref b :: rest) σ :=
  j_callVi (as := [a1, a2, a3]) (n := 3) hl hm hna hob rfl hd hrest hdg hq hr hc (fun x τ hz => by obtain ⟨h1, rfl⟩ := hz; cases h1; exact k)
theorem j_callVv3 {idx : Nat} {b : Nat} {a1 a2 a3 : Value} (hl : LK M.1.cls idx M'.1) (hm : MV M') (hna : NA M' 3) (hob : OB b M'.1.cls) (hd : d' + 1 ≤ d) (hrest : (rest.map fun v => v.category).sum ≤ 8) (hdg : decode M.2.1 pc = .ok (.invokevirtual idx, 3)) (hq : pc + 3 = q) (hr : M'.2.2.2 = none) (hc : CT g d' M' (.ref b :: [a1, a2, a3]) σ Z') (k : ∀ τ, Z' .null τ → J g d M Z q ls rest τ) : J g d M Z pc ls (a3 :: a2 :: a1 :: .ref b :: rest) σ :=
  j_callVv (as := [a1, a2, a3]) (n := 3) hl hm hna hob rfl hd hrest hdg hq hr hc k
theorem j_callVv3E {idx : Nat} {b : Nat} {a1 a2 a3 : Value} (hl : LK M.1.cls idx M'.1) (hm : MV M') (hna : NA M' 3) (hob : OB b M'.1.cls) (hd : d' + 1 ≤ d) (hrest : (rest.map fun v => v.category).sum ≤ 8) (hdg : decode M.2.1 pc = .ok (.invokevirtual idx, 3)) (hq : pc + 3 = q) (hr : M'.2.2.2 = none)  (hc : CT g d' M' (.ref b :: [a1, a2, a3]) σ (EQ .null τ1)) (k : J g d M Z q ls rest τ1) : J g d M Z pc ls (a3 :: a2 :: a1 :: .ref b :: rest) σ :=
  j_callVv (as := [a1, a2, a3]) (n := 3) hl hm hna hob rfl hd hrest hdg hq hr hc (fun τ hz => by obtain ⟨h1, rfl⟩ := hz; exact k)
theorem j_callVi4 {idx : Nat} {b : Nat} {a1 a2 a3 a4 : Value} (hl : LK M.1.cls idx M'.1) (hm : MV M') (hna : NA M' 4) (hob : OB b M'.1.cls) (hd : d' + 1 ≤ d) (hrest : (rest.map fun v => v.category).sum ≤ 8) (hdg : decode M.2.1 pc = .ok (.invokevirtual idx, 3)) (hq : pc + 3 = q) (hr : ∃ ty, M'.2.2.2 = some ty ∧ ∀ n, ty ≠ .object n) (hc : CT g d' M' (.ref b :: [a1, a2, a3, a4]) σ Z') (k : ∀ x τ, Z' (.int x) τ → J g d M Z q ls (.int x :: rest) τ) : J g d M Z pc ls (a4 :: a3 :: a2 :: a1 :: .ref b :: rest) σ :=
  j_callVi (as := [a1, a2, a3, a4]) (n := 4) hl hm hna hob rfl hd hrest hdg hq hr hc k
theorem j_callVi4E {idx : Nat} {b : Nat} {a1 a2 a3 a4 : Value} (hl : LK M.1.cls idx M'.1) (hm : MV M') (hna : NA M' 4) (hob : OB b M'.1.cls) (hd : d' + 1 ≤ d) (hrest : (rest.map fun v => v.category).sum ≤ 8) (hdg : decode M.2.1 pc = .ok (.invokevirtual idx, 3)) (hq : pc + 3 = q) (hr : ∃ ty, M'.2.2.2 = some ty ∧ ∀ n, ty ≠ .object n) {x0 : Int32} (hc : CT g d' M' (.ref b :: [a1, a2, a3, a4]) σ (EQ (.int x0) τ1)) (k : J g d M Z q ls (.int x0 :: rest) τ1) : J g d M Z pc ls (a4 :: a3 :: a2 :: a1 :: .ref b :: rest) σ :=
  j_callVi (as := [a1, a2, a3, a4]) (n := 4) hl hm hna hob rfl hd hrest hdg hq hr hc (fun x τ hz => by obtain ⟨h1, rfl⟩ := hz; cases h1; exact k)
theorem j_callVv4 {idx : Nat} {b : Nat} {a1 a2 a3 a4 : Value} (hl : LK M.1.cls idx M'.1) (hm : MV M') (hna : NA M' 4) (hob : OB b M'.1.cls) (hd : d' + 1 ≤ d) (hrest : (rest.map fun v => v.category).sum ≤ 8) (hdg : decode M.2.1 pc = .ok (.invokevirtual idx, 3)) (hq : pc + 3 = q) (hr : M'.2.2.2 = none) (hc : CT g d' M' (.ref b :: [a1, a2, a3, a4]) σ Z') (k : ∀ τ, Z' .null τ → J g d M Z q ls rest τ) : J g d M Z pc ls (a4 :: a3 :: a2 :: a1 :: .ref b :: rest) σ :=
  j_callVv (as := [a1, a2, a3, a4]) (n := 4) hl hm hna hob rfl hd hrest hdg hq hr hc k
theorem j_callVv4E {idx : Nat} {b : Nat} {a1 a2 a3 a4 : Value} (hl : LK M.1.cls idx M'.1) (hm : MV M') (hna : NA M' 4) (hob : OB b M'.1.cls) (hd : d' + 1 ≤ d) (hrest : (rest.map fun v => v.category).sum ≤ 8) (hdg : decode M.2.1 pc = .ok (.invokevirtual idx, 3)) (hq : pc + 3 = q) (hr : M'.2.2.2 = none)  (hc : CT g d' M' (.ref b :: [a1, a2, a3, a4]) σ (EQ .null τ1)) (k : J g d M Z q ls rest τ1) : J g d M Z pc ls (a4 :: a3 :: a2 :: a1 :: .ref b :: rest) σ :=
  j_callVv (as := [a1, a2, a3, a4]) (n := 4) hl hm hna hob rfl hd hrest hdg hq hr hc (fun τ hz => by obtain ⟨h1, rfl⟩ := hz; exact k)
theorem j_callVi5 {idx : Nat} {b : Nat} {a1 a2 a3 a4 a5 : Value} (hl : LK M.1.cls idx M'.1) (hm : MV M') (hna : NA M' 5) (hob : OB b M'.1.cls) (hd : d' + 1 ≤ d) (hrest : (rest.map fun v => v.category).sum ≤ 8) (hdg : decode M.2.1 pc = .ok (.invokevirtual idx, 3)) (hq : pc + 3 = q) (hr : ∃ ty, M'.2.2.2 = some ty ∧ ∀ n, ty ≠ .object n) (hc : CT g d' M' (.ref b :: [a1, a2, a3, a4, a5]) σ Z') (k : ∀ x τ, Z' (.int x) τ → J g d M Z q ls (.int x :: rest) τ) : J g d M Z pc ls (a5 :: a4 :: a3 :: a2 :: a1 :: .ref b :: rest) σ :=
  j_callVi (as := [a1, a2, a3, a4, a5]) (n := 5) hl hm hna hob rfl hd hrest hdg hq hr hc k
theorem j_callVi5E {idx : Nat} {b : Nat} {a1 a2 a3 a4 a5 : Value} (hl : LK M.1.cls idx M'.1) (hm : MV M') (hna : NA M' 5) (hob : OB b M'.1.cls) (hd : d' + 1 ≤ d) (hrest : (rest.map fun v => v.category).sum ≤ 8) (hdg : decode M.2.1 pc = .ok (.invokevirtual idx, 3)) (hq : pc + 3 = q) (hr : ∃ ty, M'.2.2.2 = some ty ∧ ∀ n, ty ≠ .object n) {x0 : Int32} (hc : CT g d' M' (.ref b :: [a1, a2, a3, a4, a5]) σ (EQ (.int x0) τ1)) (k : J g d M Z q ls (.int x0 :: rest) τ1) : J g d M Z pc ls (a5 :: a4 :: a3 :: a2 :: a1 :: .ref b :: rest) σ :=
  j_callVi (as := [a1, a2, a3, a4, a5]) (n := 5) hl hm hna hob rfl hd hrest hdg hq hr hc (fun x τ hz => by obtain ⟨h1, rfl⟩ := hz; cases h1; exact k)
theorem j_callVv5 {idx : Nat} {b : Nat} {a1 a2 a3 a4 a5 : Value} (hl : LK M.1.cls idx M'.1) (hm : MV M') (hna : NA M' 5) (hob : OB b M'.1.cls) (hd : d' + 1 ≤ d) (hrest : (rest.map fun v => v.category).sum ≤ 8) (hdg : decode M.2.1 pc = .ok (.invokevirtual idx, 3)) (hq : pc + 3 = q) (hr : M'.2.2.2 = none) (hc : CT g d' M' (.ref b :: [a1, a2, a3, a4, a5]) σ Z') (k : ∀ τ, Z' .null τ → J g d M Z q ls rest τ) : J g d M Z pc ls (a5 :: a4 :: a3 :: a2 :: a1 :: .ref b :: rest) σ :=
  j_callVv (as := [a1, a2, a3, a4, a5]) (n := 5) hl hm hna hob rfl hd hrest hdg hq hr hc k
theorem j_callVv5E {idx : Nat} {b : Nat} {a1 a2 a3 a4 a5 : Value} (hl : LK M.1.cls idx M'.1) (hm : MV M') (hna : NA M' 5) (hob : OB b M'.1.cls) (hd : d' + 1 ≤ d) (hrest : (rest.map fun v => v.category).sum ≤ 8) (hdg : decode M.2.1 pc = .ok (.invokevirtual idx, 3)) (hq : pc + 3 = q) (hr : M'.2.2.2 = none)  (hc : CT g d' M' (.ref b :: [a1, a2, a3, a4, a5]) σ (EQ .null τ1)) (k : J g d M Z q ls rest τ1) : J g d M Z pc ls (a5 :: a4 :: a3 :: a2 :: a1 :: .ref b :: rest) σ :=
  j_callVv (as := [a1, a2, a3, a4, a5]) (n := 5) hl hm hna hob rfl hd hrest hdg hq hr hc (fun τ hz => by obtain ⟨h1, rfl⟩ := hz; exact k)
theorem j_callSi0 {idx : Nat} (hl : LK M.1.cls idx M'.1) (hm : MS M') (hna : NA M' 0) (hd : d' + 1 ≤ d) (hrest : (rest.map fun v => v.category).sum ≤ 8) (hdg : decode M.2.1 pc = .ok (.invokestatic idx, 3)) (hq : pc + 3 = q) (hr : ∃ ty, M'.2.2.2 = some ty ∧ ∀ n, ty ≠ .object n) (hc : CT g d' M' [] σ Z') (k : ∀ x τ, Z' (.int x) τ → J g d M Z q ls (.int x :: rest) τ) : J g d M Z pc ls (rest) σ :=
  j_callSi (as := []) (n := 0) hl hm hna rfl hd hrest hdg hq hr hc k
theorem j_callSi0E {idx : Nat} (hl : LK M.1.cls idx M'.1) (hm : MS M') (hna : NA M' 0) (hd : d' + 1 ≤ d) (hrest : (rest.map fun v => v.category).sum ≤ 8) (hdg : decode M.2.1 pc = .ok (.invokestatic idx, 3)) (hq : pc + 3 = q) (hr : ∃ ty, M'.2.2.2 = some ty ∧ ∀ n, ty ≠ .object n) {x0 : Int32} (hc : CT g d' M' [] σ (EQ (.int x0) τ1)) (k : J g d M Z q ls (.int x0 :: rest) τ1) : J g d M Z pc ls (rest) σ :=
  j_callSi (as := []) (n := 0) hl hm hna rfl hd hrest hdg hq hr hc (fun x τ hz => by obtain ⟨h1, rfl⟩ := hz; cases h1; exact k)
theorem j_callSv0 {idx : Nat} (hl : LK M.1.cls idx M'.1) (hm : MS M') (hna : NA M' 0) (hd : d' + 1 ≤ d) (hrest : (rest.map fun v => v.category).sum ≤ 8) (hdg : decode M.2.1 pc = .ok (.invokestatic idx, 3)) (hq : pc + 3 = q) (hr : M'.2.2.2 = none) (hc : CT g d' M' [] σ Z') (k : ∀ τ, Z' .null τ → J g d M Z q ls rest τ) : J g d M Z pc ls (rest) σ :=
  j_callSv (as := []) (n := 0) hl hm hna rfl hd hrest hdg hq hr hc k
theorem j_callSv0E {idx : Nat} (hl : LK M.1.cls idx M'.1) (hm : MS M') (hna : NA M' 0) (hd : d' + 1 ≤ d) (hrest : (rest.map fun v => v.category).sum ≤ 8) (hdg : decode M.2.1 pc = .ok (.invokestatic idx, 3)) (hq : pc + 3 = q) (hr : M'.2.2.2 = none)  (hc : CT g d' M' [] σ (EQ .null τ1)) (k : J g d M Z q ls rest τ1) : J g d M Z pc ls (rest) σ :=
  j_callSv (as := []) (n := 0) hl hm hna rfl hd hrest hdg hq hr hc (fun τ hz => by obtain ⟨h1, rfl⟩ := hz; exact k)
theorem j_callSi1 {idx : Nat} {a1 : Value} (hl : LK M.1.cls idx M'.1) (hm : MS M') (hna : NA M' 1) (hd : d' + 1 ≤ d) (hrest : (rest.map fun v => v.category).sum ≤ 8) (hdg : decode M.2.1 pc = .ok (.invokestatic idx, 3)) (hq : pc + 3 = q) (hr : ∃ ty, M'.2.2.2 = some ty ∧ ∀ n, ty ≠ .object n) (hc : CT g d' M' [a1] σ Z') (k : ∀ x τ, Z' (.int x) τ → J g d M Z q ls (.int x :: rest) τ) : J g d M Z pc ls (a1 :: rest) σ :=
  j_callSi (as := [a1]) (n := 1) hl hm hna rfl hd hrest hdg hq hr hc k
theorem j_callSi1E {idx : Nat} {a1 : Value} (hl : LK M.1.cls idx M'.1) (hm : MS M') (hna : NA M' 1) (hd : d' + 1 ≤ d) (hrest : (rest.map fun v => v.category).sum ≤ 8) (hdg : decode M.2.1 pc = .ok (.invokestatic idx, 3)) (hq : pc + 3 = q) (hr : ∃ ty, M'.2.2.2 = some ty ∧ ∀ n, ty ≠ .object n) {x0 : Int32} (hc : CT g d' M' [a1] σ (EQ (.int x0) τ1)) (k : J g d M Z q ls (.int x0 :: rest) τ1) : J g d M Z pc ls (a1 :: rest) σ :=
  j_callSi (as := [a1]) (n := 1) hl hm hna rfl hd hrest hdg hq hr hc (fun x τ hz => by obtain ⟨h1, rfl⟩ := hz; cases h1; exact k)
theorem j_callSv1 {idx : Nat} {a1 : Value} (hl : LK M.1.cls idx M'.1) (hm : MS M') (hna : NA M' 1) (hd : d' + 1 ≤ d) (hrest : (rest.map fun v => v.category).sum ≤ 8) (hdg : decode M.2.1 pc = .ok (.invokestatic idx, 3)) (hq : pc + 3 = q) (hr : M'.2.2.2 = none) (hc : CT g d' M' [a1] σ Z') (k : ∀ τ, Z' .null τ → J g d M Z q ls rest τ) : J g d M Z pc ls (a1 :: rest) σ :=
  j_callSv (as := [a1]) (n := 1) hl hm hna rfl hd hrest hdg hq hr hc k
theorem j_callSv1E {idx : Nat} {a1 : Value} (hl : LK M.1.cls idx M'.1) (hm : MS M') (hna : NA M' 1) (hd : d' + 1 ≤ d) (hrest : (rest.map fun v => v.category).sum ≤ 8) (hdg : decode M.2.1 pc = .ok (.invokestatic idx, 3)) (hq : pc + 3 = q) (hr : M'.2.2.2 = none)  (hc : CT g d' M' [a1] σ (EQ .null τ1)) (k : J g d M Z q ls rest τ1) : J g d M Z pc ls (a1 :: rest) σ :=
  j_callSv (as := [a1]) (n := 1) hl hm hna rfl hd hrest hdg hq hr hc (fun τ hz => by obtain ⟨h1, rfl⟩ := hz; exact k)
theorem j_callSr1 {idx : Nat} {a1 : Value} (hl : LK M.1.cls idx M'.1) (hm : MS M') (hna : NA M' 1) (hd : d' + 1 ≤ d) (hrest : (rest.map fun v => v.category).sum ≤ 8) (hdg : decode M.2.1 pc = .ok (.invokestatic idx, 3)) (hq : pc + 3 = q) (hr : ∃ n, M'.2.2.2 = some (.object n)) (hc : CT g d' M' [a1] σ Z') (k : ∀ a τ, Z' (.ref a) τ → J g d M Z q ls (.ref a :: rest) τ) : J g d M Z pc ls (a1 :: rest) σ :=
  j_callSr (as := [a1]) (n := 1) hl hm hna rfl hd hrest hdg hq hr hc k
theorem j_callSr1E {idx : Nat} {a1 : Value} (hl : LK M.1.cls idx M'.1) (hm : MS M') (hna : NA M' 1) (hd : d' + 1 ≤ d) (hrest : (rest.map fun v => v.category).sum ≤ 8) (hdg : decode M.2.1 pc = .ok (.invokestatic idx, 3)) (hq : pc + 3 = q) (hr : ∃ n, M'.2.2.2 = some (.object n)) {x0 : Nat} (hc : CT g d' M' [a1] σ (EQ (.ref x0) τ1)) (k : J g d M Z q ls (.ref x0 :: rest) τ1) : J g d M Z pc ls (a1 :: rest) σ :=
  j_callSr (as := [a1]) (n := 1) hl hm hna rfl hd hrest hdg hq hr hc (fun x τ hz => by obtain ⟨h1, rfl⟩ := hz; cases h1; exact k)
theorem j_callSi2 {idx : Nat} {a1 a2 : Value} (hl : LK M.1.cls idx M'.1) (hm : MS M') (hna : NA M' 2) (hd : d' + 1 ≤ d) (hrest : (rest.map fun v => v.category).sum ≤ 8) (hdg : decode M.2.1 pc = .ok (.invokestatic idx, 3)) (hq : pc + 3 = q) (hr : ∃ ty, M'.2.2.2 = some ty ∧ ∀ n, ty ≠ .object n) (hc : CT g d' M' [a1, a2] σ Z') (k : ∀ x τ, Z' (.int x) τ → J g d M Z q ls (.int x :: rest) τ) : J g d M Z pc ls (a2 :: a1 :: rest) σ :=
  j_callSi (as := [a1, a2]) (n := 2) hl hm hna rfl hd hrest hdg hq hr hc k
theorem j_callSi2E {idx : Nat} {a1 a2 : Value} (hl : LK M.1.cls idx M'.1) (hm : MS M') (hna : NA M' 2) (hd : d' + 1 ≤ d) (hrest : (rest.map fun v => v.category).sum ≤ 8) (hdg : decode M.2.1 pc = .ok (.invokestatic idx, 3)) (hq : pc + 3 = q) (hr : ∃ ty, M'.2.2.2 = some ty ∧ ∀ n, ty ≠ .object n) {x0 : Int32} (hc : CT g d' M' [a1, a2] σ (EQ (.int x0) τ1)) (k : J g d M Z q ls (.int x0 :: rest) τ1) : J g d M Z pc ls (a2 :: a1 :: rest) σ :=
  j_callSi (as := [a1, a2]) (n := 2) hl hm hna rfl hd hrest hdg hq hr hc (fun x τ hz => by obtain ⟨h1, rfl⟩ := hz; cases h1; exact k)
theorem j_callSv2 {idx : Nat} {a1 a2 : Value} (hl : LK M.1.cls idx M'.1) (hm : MS M') (hna : NA M' 2) (hd : d' + 1 ≤ d) (hrest : (rest.map fun v => v.category).sum ≤ 8) (hdg : decode M.2.1 pc = .ok (.invokestatic idx, 3)) (hq : pc + 3 = q) (hr : M'.2.2.2 = none) (hc : CT g d' M' [a1, a2] σ Z') (k : ∀ τ, Z' .null τ → J g d M Z q ls rest τ) : J g d M Z pc ls (a2 :: a1 :: rest) σ :=
  j_callSv (as := [a1, a2]) (n := 2) hl hm hna rfl hd hrest hdg hq hr hc k
theorem j_callSv2E {idx : Nat} {a1 a2 : Value} (hl : LK M.1.cls idx M'.1) (hm : MS M') (hna : NA M' 2) (hd : d' + 1 ≤ d) (hrest : (rest.map fun v => v.category).sum ≤ 8) (hdg : decode M.2.1 pc = .ok (.invokestatic idx, 3)) (hq : pc + 3 = q) (hr : M'.2.2.2 = none)  (hc : CT g d' M' [a1, a2] σ (EQ .null τ1)) (k : J g d M Z q ls rest τ1) : J g d M Z pc ls (a2 :: a1 :: rest) σ :=
  j_callSv (as := [a1, a2]) (n := 2) hl hm hna rfl hd hrest hdg hq hr hc (fun τ hz => by obtain ⟨h1, rfl⟩ := hz; exact k)
theorem j_callSi3 {idx : Nat} {a1 a2 a3 : Value} (hl : LK M.1.cls idx M'.1) (hm : MS M') (hna : NA M' 3) (hd : d' + 1 ≤ d) (hrest : (rest.map fun v => v.category).sum ≤ 8) (hdg : decode M.2.1 pc = .ok (.invokestatic idx, 3)) (hq : pc + 3 = q) (hr : ∃ ty, M'.2.2.2 = some ty ∧ ∀ n, ty ≠ .object n) (hc : CT g d' M' [a1, a2, a3] σ Z') (k : ∀ x τ, Z' (.int x) τ → J g d M Z q ls (.int x :: rest) τ) : J g d M Z pc ls (a3 :: a2 :: a1 :: rest) σ :=
  j_callSi (as := [a1, a2, a3]) (n := 3) hl hm hna rfl hd hrest hdg hq hr hc k
theorem j_callSi3E {idx : Nat} {a1 a2 a3 : Value} (hl : LK M.1.cls idx M'.1) (hm : MS M') (hna : NA M' 3) (hd : d' + 1 ≤ d) (hrest : (rest.map fun v => v.category).sum ≤ 8) (hdg : decode M.2.1 pc = .ok (.invokestatic idx, 3)) (hq : pc + 3 = q) (hr : ∃ ty, M'.2.2.2 = some ty ∧ ∀ n, ty ≠ .object n) {x0 : Int32} (hc : CT g d' M' [a1, a2, a3] σ (EQ (.int x0) τ1)) (k : J g d M Z q ls (.int x0 :: rest) τ1) : J g d M Z pc ls (a3 :: a2 :: a1 :: rest) σ :=
  j_callSi (as := [a1, a2, a3]) (n := 3) hl hm hna rfl hd hrest hdg hq hr hc (fun x τ hz => by obtain ⟨h1, rfl⟩ := hz; cases h1; exact k)
theorem j_callSv3 {idx : Nat} {a1 a2 a3 : Value} (hl : LK M.1.cls idx M'.1) (hm : MS M') (hna : NA M' 3) (hd : d' + 1 ≤ d) (hrest : (rest.map fun v => v.category).sum ≤ 8) (hdg : decode M.2.1 pc = .ok (.invokestatic idx, 3)) (hq : pc + 3 = q) (hr : M'.2.2.2 = none) (hc : CT g d' M' [a1, a2, a3] σ Z') (k : ∀ τ, Z' .null τ → J g d M Z q ls rest τ) : J g d M Z pc ls (a3 :: a2 :: a1 :: rest) σ :=
  j_callSv (as := [a1, a2, a3]) (n := 3) hl hm hna rfl hd hrest hdg hq hr hc k
theorem j_callSv3E {idx : Nat} {a1 a2 a3 : Value} (hl : LK M.1.cls idx M'.1) (hm : MS M') (hna : NA M' 3) (hd : d' + 1 ≤ d) (hrest : (rest.map fun v => v.category).sum ≤ 8) (hdg : decode M.2.1 pc = .ok (.invokestatic idx, 3)) (hq : pc + 3 = q) (hr : M'.2.2.2 = none)  (hc : CT g d' M' [a1, a2, a3] σ (EQ .null τ1)) (k : J g d M Z q ls rest τ1) : J g d M Z pc ls (a3 :: a2 :: a1 :: rest) σ :=
  j_callSv (as := [a1, a2, a3]) (n := 3) hl hm hna rfl hd hrest hdg hq hr hc (fun τ hz => by obtain ⟨h1, rfl⟩ := hz; exact k)
theorem j_callSi4 {idx : Nat} {a1 a2 a3 a4 : Value} (hl : LK M.1.cls idx M'.1) (hm : MS M') (hna : NA M' 4) (hd : d' + 1 ≤ d) (hrest : (rest.map fun v => v.category).sum ≤ 8) (hdg : decode M.2.1 pc = .ok (.invokestatic idx, 3)) (hq : pc + 3 = q) (hr : ∃ ty, M'.2.2.2 = some ty ∧ ∀ n, ty ≠ .object n) (hc : CT g d' M' [a1, a2, a3, a4] σ Z') (k : ∀ x τ, Z' (.int x) τ → J g d M Z q ls (.int x :: rest) τ) : J g d M Z pc ls (a4 :: a3 :: a2 :: a1 :: rest) σ :=
  j_callSi (as := [a1, a2, a3, a4]) (n := 4) hl hm hna rfl hd hrest hdg hq hr hc k
theorem j_callSi4E {idx : Nat} {a1 a2 a3 a4 : Value} (hl : LK M.1.cls idx M'.1) (hm : MS M') (hna : NA M' 4) (hd : d' + 1 ≤ d) (hrest : (rest.map fun v => v.category).sum ≤ 8) (hdg : decode M.2.1 pc = .ok (.invokestatic idx, 3)) (hq : pc + 3 = q) (hr : ∃ ty, M'.2.2.2 = some ty ∧ ∀ n, ty ≠ .object n) {x0 : Int32} (hc : CT g d' M' [a1, a2, a3, a4] σ (EQ (.int x0) τ1)) (k : J g d M Z q ls (.int x0 :: rest) τ1) : J g d M Z pc ls (a4 :: a3 :: a2 :: a1 :: rest) σ :=
  j_callSi (as := [a1, a2, a3, a4]) (n := 4) hl hm hna rfl hd hrest hdg hq hr hc (fun x τ hz => by obtain ⟨h1, rfl⟩ := hz; cases h1; exact k)
theorem j_callSv4 {idx : Nat} {a1 a2 a3 a4 : Value} (hl : LK M.1.cls idx M'.1) (hm : MS M') (hna : NA M' 4) (hd : d' + 1 ≤ d) (hrest : (rest.map fun v => v.category).sum ≤ 8) (hdg : decode M.2.1 pc = .ok (.invokestatic idx, 3)) (hq : pc + 3 = q) (hr : M'.2.2.2 = none) (hc : CT g d' M' [a1, a2, a3, a4] σ Z') (k : ∀ τ, Z' .null τ → J g d M Z q ls rest τ) : J g d M Z pc ls (a4 :: a3 :: a2 :: a1 :: rest) σ :=
  j_callSv (as := [a1, a2, a3, a4]) (n := 4) hl hm hna rfl hd hrest hdg hq hr hc k
theorem j_callSv4E {idx : Nat} {a1 a2 a3 a4 : Value} (hl : LK M.1.cls idx M'.1) (hm : MS M') (hna : NA M' 4) (hd : d' + 1 ≤ d) (hrest : (rest.map fun v => v.category).sum ≤ 8) (hdg : decode M.2.1 pc = .ok (.invokestatic idx, 3)) (hq : pc + 3 = q) (hr : M'.2.2.2 = none)  (hc : CT g d' M' [a1, a2, a3, a4] σ (EQ .null τ1)) (k : J g d M Z q ls rest τ1) : J g d M Z pc ls (a4 :: a3 :: a2 :: a1 :: rest) σ :=
  j_callSv (as := [a1, a2, a3, a4]) (n := 4) hl hm hna rfl hd hrest hdg hq hr hc (fun τ hz => by obtain ⟨h1, rfl⟩ := hz; exact k)
theorem j_callSi5 {idx : Nat} {a1 a2 a3 a4 a5 : Value} (hl : LK M.1.cls idx M'.1) (hm : MS M') (hna : NA M' 5) (hd : d' + 1 ≤ d) (hrest : (rest.map fun v => v.category).sum ≤ 8) (hdg : decode M.2.1 pc = .ok (.invokestatic idx, 3)) (hq : pc + 3 = q) (hr : ∃ ty, M'.2.2.2 = some ty ∧ ∀ n, ty ≠ .object n) (hc : CT g d' M' [a1, a2, a3, a4, a5] σ Z') (k : ∀ x τ, Z' (.int x) τ → J g d M Z q ls (.int x :: rest) τ) : J g d M Z pc ls (a5 :: a4 :: a3 :: a2 :: a1 :: rest) σ :=
  j_callSi (as := [a1, a2, a3, a4, a5]) (n := 5) hl hm hna rfl hd hrest hdg hq hr hc k
theorem j_callSi5E {idx : Nat} {a1 a2 a3 a4 a5 : Value} (hl : LK M.1.cls idx M'.1) (hm : MS M') (hna : NA M' 5) (hd : d' + 1 ≤ d) (hrest : (rest.map fun v => v.category).sum ≤ 8) (hdg : decode M.2.1 pc = .ok (.invokestatic idx, 3)) (hq : pc + 3 = q) (hr : ∃ ty, M'.2.2.2 = some ty ∧ ∀ n, ty ≠ .object n) {x0 : Int32} (hc : CT g d' M' [a1, a2, a3, a4, a5] σ (EQ (.int x0) τ1)) (k : J g d M Z q ls (.int x0 :: rest) τ1) : J g d M Z pc ls (a5 :: a4 :: a3 :: a2 :: a1 :: rest) σ :=
  j_callSi (as := [a1, a2, a3, a4, a5]) (n := 5) hl hm hna rfl hd hrest hdg hq hr hc (fun x τ hz => by obtain ⟨h1, rfl⟩ := hz; cases h1; exact k)
theorem j_callSv5 {idx : Nat} {a1 a2 a3 a4 a5 : Value} (hl : LK M.1.cls idx M'.1) (hm : MS M') (hna : NA M' 5) (hd : d' + 1 ≤ d) (hrest : (rest.map fun v => v.category).sum ≤ 8) (hdg : decode M.2.1 pc = .ok (.invokestatic idx, 3)) (hq : pc + 3 = q) (hr : M'.2.2.2 = none) (hc : CT g d' M' [a1, a2, a3, a4, a5] σ Z') (k : ∀ τ, Z' .null τ → J g d M Z q ls rest τ) : J g d M Z pc ls (a5 :: a4 :: a3 :: a2 :: a1 :: rest) σ :=
  j_callSv (as := [a1, a2, a3, a4, a5]) (n := 5) hl hm hna rfl hd hrest hdg hq hr hc k
theorem j_callSv5E {idx : Nat} {a1 a2 a3 a4 a5 : Value} (hl : LK M.1.cls idx M'.1) (hm : MS M') (hna : NA M' 5) (hd : d' + 1 ≤ d) (hrest : (rest.map fun v => v.category).sum ≤ 8) (hdg : decode M.2.1 pc = .ok (.invokestatic idx, 3)) (hq : pc + 3 = q) (hr : M'.2.2.2 = none)  (hc : CT g d' M' [a1, a2, a3, a4, a5] σ (EQ .null τ1)) (k : J g d M Z q ls rest τ1) : J g d M Z pc ls (a5 :: a4 :: a3 :: a2 :: a1 :: rest) σ :=
  j_callSv (as := [a1, a2, a3, a4, a5]) (n := 5) hl hm hna rfl hd hrest hdg hq hr hc (fun τ hz => by obtain ⟨h1, rfl⟩ := hz; exact k)
theorem j_mmax {idx : Nat} {x y : Int32} (hl : Cond.methodLink M.1.cls idx Lib.Math.max.name ∈ lw_g) (hs : Cond.static Lib.Math.max.name ∈ lw_g) (hi : Cond.initialized "java/lang/Math" ∈ lw_g) (hcd : Cond.code Lib.Math.max.name Lib.Math.max.code 2 (some .int) ∈ lw_g) (hd : 1 ≤ d) (hrest : (st.map fun v => v.category).sum ≤ 8) (hdg : decode M.2.1 pc = .ok (.invokestatic idx, 3)) (hq : pc + 3 = q) (h : J g d M Z q ls (.int (if x < y then y else x) :: st) σ) : J g d M Z pc ls (.int y :: .int x :: st) σ := by
  subst hq
  intro p e R s m args below meth c H locs cells slots Q arr C hS hP hv K
  obtain ⟨hx, hb, hml, hown, hts, hA, hK, hSt, hSk, hR, hcs⟩ := id C
  exact va_mmax hx hb (hml.trans hv.1.symm) hown (hts _ hl) (hts _ hs) (hts _ hi) (hts _ hcd) (by omega) (by rw [tr_cats]; omega) hcs.1 hcs.2 hdg (h p e R s m args below meth c H locs cells slots Q arr C hS hP hv K)
theorem j_mmin {idx : Nat} {x y : Int32} (hl : Cond.methodLink M.1.cls idx Lib.Math.min.name ∈ lw_g) (hs : Cond.static Lib.Math.min.name ∈ lw_g) (hi : Cond.initialized "java/lang/Math" ∈ lw_g) (hcd : Cond.code Lib.Math.min.name Lib.Math.min.code 2 (some .int) ∈ lw_g) (hd : 1 ≤ d) (hrest : (st.map fun v => v.category).sum ≤ 8) (hdg : decode M.2.1 pc = .ok (.invokestatic idx, 3)) (hq : pc + 3 = q) (h : J g d M Z q ls (.int (if y < x then y else x) :: st) σ) : J g d M Z pc ls (.int y :: .int x :: st) σ := by
  subst hq
  intro p e R s m args below meth c H locs cells slots Q arr C hS hP hv K
  obtain ⟨hx, hb, hml, hown, hts, hA, hK, hSt, hSk, hR, hcs⟩ := id C
  exact va_mmin hx hb (hml.trans hv.1.symm) hown (hts _ hl) (hts _ hs) (hts _ hi) (hts _ hcd) (by omega) (by rw [tr_cats]; omega) hcs.1 hcs.2 hdg (h p e R s m args below meth c H locs cells slots Q arr C hS hP hv K)
theorem j_copyI {idx a0 a1 n0 n1 : Nat} {sp dp n : Int32} (ha0 : tC[a0]? = some (0, n0)) (ha1 : tC[a1]? = some (0, n1)) (hl : Cond.methodLink M.1.cls idx arraycopyName ∈ lw_g) (hnt : Cond.native arraycopyName ∈ lw_g) (hs : Cond.static arraycopyName ∈ lw_g) (hi : Cond.initialized "java/lang/System" ∈ lw_g) (hd : 2 ≤ d) (hrest : (st.map fun v => v.category).sum ≤ 8) (h1 : ¬ sp < 0) (h2 : ¬ dp < 0) (h3 : ¬ n < 0) (h4 : sp.toNatClampNeg + n.toNatClampNeg ≤ n0) (h5 : dp.toNatClampNeg + n.toNatClampNeg ≤ n1) (hdg : decode M.2.1 pc = .ok (.invokestatic idx, 3)) (hq : pc + 3 = q) (h : J g d M Z q ls st (upR σ a1 (va_cpy (σ a0) (σ a1) sp.toNatClampNeg dp.toNatClampNeg n.toNatClampNeg))) : J g d M Z pc ls (.int n :: .int dp :: .ref a1 :: .int sp :: .ref a0 :: st) σ := by
  subst hq
  intro p e R s m args below meth c H locs cells slots Q arr C hS hP hv K
  obtain ⟨hx, hb, hml, hown, hts, hA, hK, hSt, hSk, hR, hcs⟩ := id C
  have he0 : (cws g σ)[a0]? = some (gad g a0, .inl (gcA g a0, n0, .inl (σ a0))) := by rw [cws_at g σ (tC_lt ha0), cel_int ha0]
  have he1 : (cws g σ)[a1]? = some (gad g a1, .inl (gcA g a1, n1, .inl (σ a1))) := by rw [cws_at g σ (tC_lt ha1), cel_int ha1]
  have hnw : nativeFrameWords "java/lang/System" "arraycopy" 5 + 11 ≤ 71 := by decide
  refine va_copyi hx hb (hml.trans hv.1.symm) hown (hts _ hl) (hts _ hnt) (hts _ hs) (hts _ hi) (hK.K2 (aty_int ha0) (aty_int ha1)) hP (va_D_cws hA σ) hS a0 a1 0 1 he0 he1 rfl rfl rfl h1 h2 h3 h4 h5 (fun i hi => rfl) (by omega) (by rw [tr_cats]; exact Nat.le_trans (Nat.add_le_add_left hnw _) (by omega)) hdg (fun H1 locs1 hP1 _ hS1 => ?_)
  rw [cws_rowI ha1] at hP1
  exact h p e R s m args below meth c H1 locs1 cells slots Q arr C hS1 hP1 hv K
theorem lw_cpyB (f h : Nat → Int32) (a b n : Nat) : va_cpy (fun i => vp_nar .byte (f i)) (fun i => vp_nar .byte (h i)) a b n = fun i => vp_nar .byte (va_cpy f h a b n i) := by
  funext i
  unfold va_cpy
  split <;> rfl
theorem lw_fitB (x : Int32) : fits .byte (.int (vp_nar .byte x)) = true := by
  rw [vp_nar_byte]
  exact pk_fb x
theorem j_copyB {idx a0 a1 n0 n1 : Nat} {sp dp n : Int32} (ha0 : tC[a0]? = some (1, n0)) (ha1 : tC[a1]? = some (1, n1)) (hl : Cond.methodLink M.1.cls idx arraycopyName ∈ lw_g) (hnt : Cond.native arraycopyName ∈ lw_g) (hs : Cond.static arraycopyName ∈ lw_g) (hi : Cond.initialized "java/lang/System" ∈ lw_g) (hd : 2 ≤ d) (hrest : (st.map fun v => v.category).sum ≤ 8) (h1 : ¬ sp < 0) (h2 : ¬ dp < 0) (h3 : ¬ n < 0) (h4 : sp.toNatClampNeg + n.toNatClampNeg ≤ n0) (h5 : dp.toNatClampNeg + n.toNatClampNeg ≤ n1) (hdg : decode M.2.1 pc = .ok (.invokestatic idx, 3)) (hq : pc + 3 = q) (h : J g d M Z q ls st (upR σ a1 (va_cpy (σ a0) (σ a1) sp.toNatClampNeg dp.toNatClampNeg n.toNatClampNeg))) : J g d M Z pc ls (.int n :: .int dp :: .ref a1 :: .int sp :: .ref a0 :: st) σ := by
  subst hq
  intro p e R s m args below meth c H locs cells slots Q arr C hS hP hv K
  obtain ⟨hx, hb, hml, hown, hts, hA, hK, hSt, hSk, hR, hcs⟩ := id C
  have he0 : (cws g σ)[a0]? = some (gad g a0, .inl (gcA g a0, n0, .inl (fun i => vp_nar .byte (σ a0 i)))) := by rw [cws_at g σ (tC_lt ha0), cel_byt ha0]
  have he1 : (cws g σ)[a1]? = some (gad g a1, .inl (gcA g a1, n1, .inl (fun i => vp_nar .byte (σ a1 i)))) := by rw [cws_at g σ (tC_lt ha1), cel_byt ha1]
  have hnw : nativeFrameWords "java/lang/System" "arraycopy" 5 + 11 ≤ 71 := by decide
  refine va_copyi hx hb (hml.trans hv.1.symm) hown (hts _ hl) (hts _ hnt) (hts _ hs) (hts _ hi) (hK.K2 (aty_byt ha0) (aty_byt ha1)) hP (va_D_cws hA σ) hS a0 a1 0 1 he0 he1 rfl rfl rfl h1 h2 h3 h4 h5 (fun i hi => lw_fitB _) (by omega) (by rw [tr_cats]; exact Nat.le_trans (Nat.add_le_add_left hnw _) (by omega)) hdg (fun H1 locs1 hP1 _ hS1 => ?_)
  rw [lw_cpyB, cws_rowB ha1] at hP1
  exact h p e R s m args below meth c H1 locs1 cells slots Q arr C hS1 hP1 hv K
end JD
end
