section
/-- a private method of a class that the tables say can be made, by its rows of tables_1 -/
def lw_okq (q : MethodName × Nat) : Prop := (q.1.cls ≠ "java/lang/invoke/MethodHandle" ∧ q.1.cls ≠ "java/lang/invoke/VarHandle") ∧ Cond.instantiable q.1.cls q.2 ∈ tables_1 ∧ Cond.privateMethod q.1 ∈ tables_1 ∧ Cond.instanceMethod q.1 ∈ tables_1
theorem lw_p0 : lw_okq (⟨"MuckForFour", "refuse", "(I)I"⟩, 8) := ⟨⟨by decide +kernel, by decide +kernel⟩, List.mem_of_getElem? (i := 15) (by decide +kernel), List.mem_of_getElem? (i := 260) (by decide +kernel), List.mem_of_getElem? (i := 261) (by decide +kernel)⟩
theorem lw_p1 : lw_okq (⟨"MuckForFour$Text", "fits", "(II)Z"⟩, 2) := ⟨⟨by decide +kernel, by decide +kernel⟩, List.mem_of_getElem? (i := 217) (by decide +kernel), List.mem_of_getElem? (i := 284) (by decide +kernel), List.mem_of_getElem? (i := 285) (by decide +kernel)⟩
theorem lw_p2 : lw_okq (⟨"MuckForFour", "statementComes", "(I)Z"⟩, 8) := ⟨⟨by decide +kernel, by decide +kernel⟩, List.mem_of_getElem? (i := 15) (by decide +kernel), List.mem_of_getElem? (i := 388) (by decide +kernel), List.mem_of_getElem? (i := 389) (by decide +kernel)⟩
theorem lw_p3 : lw_okq (⟨"MuckForFour", "settingComes", "(II)Z"⟩, 8) := ⟨⟨by decide +kernel, by decide +kernel⟩, List.mem_of_getElem? (i := 15) (by decide +kernel), List.mem_of_getElem? (i := 420) (by decide +kernel), List.mem_of_getElem? (i := 421) (by decide +kernel)⟩
theorem lw_p4 : lw_okq (⟨"MuckForFour$Site", "choose", "()I"⟩, 16) := ⟨⟨by decide +kernel, by decide +kernel⟩, List.mem_of_getElem? (i := 23) (by decide +kernel), List.mem_of_getElem? (i := 446) (by decide +kernel), List.mem_of_getElem? (i := 447) (by decide +kernel)⟩
theorem lw_p5 : lw_okq (⟨"MuckForFour$Site", "needs", "(I)Z"⟩, 16) := ⟨⟨by decide +kernel, by decide +kernel⟩, List.mem_of_getElem? (i := 23) (by decide +kernel), List.mem_of_getElem? (i := 450) (by decide +kernel), List.mem_of_getElem? (i := 451) (by decide +kernel)⟩
theorem lw_p6 : lw_okq (⟨"MuckForFour$Site", "rank", "(I)I"⟩, 16) := ⟨⟨by decide +kernel, by decide +kernel⟩, List.mem_of_getElem? (i := 23) (by decide +kernel), List.mem_of_getElem? (i := 454) (by decide +kernel), List.mem_of_getElem? (i := 455) (by decide +kernel)⟩
theorem lw_p7 : lw_okq (⟨"MuckForFour$Site", "send", "(LMuckForFour$Mate;I)V"⟩, 16) := ⟨⟨by decide +kernel, by decide +kernel⟩, List.mem_of_getElem? (i := 23) (by decide +kernel), List.mem_of_getElem? (i := 463) (by decide +kernel), List.mem_of_getElem? (i := 464) (by decide +kernel)⟩
theorem lw_p8 : lw_okq (⟨"MuckForFour$Site", "allLay", "()V"⟩, 16) := ⟨⟨by decide +kernel, by decide +kernel⟩, List.mem_of_getElem? (i := 23) (by decide +kernel), List.mem_of_getElem? (i := 483) (by decide +kernel), List.mem_of_getElem? (i := 484) (by decide +kernel)⟩
theorem lw_p9 : lw_okq (⟨"MuckForFour$Site", "spendMinute", "(LMuckForFour$Mate;)V"⟩, 16) := ⟨⟨by decide +kernel, by decide +kernel⟩, List.mem_of_getElem? (i := 23) (by decide +kernel), List.mem_of_getElem? (i := 499) (by decide +kernel), List.mem_of_getElem? (i := 500) (by decide +kernel)⟩
theorem lw_p10 : lw_okq (⟨"MuckForFour$Site", "unload", "(LMuckForFour$Mate;)V"⟩, 16) := ⟨⟨by decide +kernel, by decide +kernel⟩, List.mem_of_getElem? (i := 23) (by decide +kernel), List.mem_of_getElem? (i := 503) (by decide +kernel), List.mem_of_getElem? (i := 504) (by decide +kernel)⟩
theorem lw_p11 : lw_okq (⟨"MuckForFour", "foresee", "(I)V"⟩, 8) := ⟨⟨by decide +kernel, by decide +kernel⟩, List.mem_of_getElem? (i := 15) (by decide +kernel), List.mem_of_getElem? (i := 548) (by decide +kernel), List.mem_of_getElem? (i := 549) (by decide +kernel)⟩
theorem lw_p12 : lw_okq (⟨"MuckForFour", "refusalOfLayerInMind", "(III)I"⟩, 8) := ⟨⟨by decide +kernel, by decide +kernel⟩, List.mem_of_getElem? (i := 15) (by decide +kernel), List.mem_of_getElem? (i := 564) (by decide +kernel), List.mem_of_getElem? (i := 565) (by decide +kernel)⟩
theorem lw_p13 : lw_okq (⟨"MuckForFour", "laidWith", "(III)I"⟩, 8) := ⟨⟨by decide +kernel, by decide +kernel⟩, List.mem_of_getElem? (i := 15) (by decide +kernel), List.mem_of_getElem? (i := 572) (by decide +kernel), List.mem_of_getElem? (i := 573) (by decide +kernel)⟩
theorem lw_p14 : lw_okq (⟨"MuckForFour", "bestSetting", "(III)I"⟩, 8) := ⟨⟨by decide +kernel, by decide +kernel⟩, List.mem_of_getElem? (i := 15) (by decide +kernel), List.mem_of_getElem? (i := 580) (by decide +kernel), List.mem_of_getElem? (i := 581) (by decide +kernel)⟩
theorem lw_p15 : lw_okq (⟨"MuckForFour", "laidAsItIs", "(I)I"⟩, 8) := ⟨⟨by decide +kernel, by decide +kernel⟩, List.mem_of_getElem? (i := 15) (by decide +kernel), List.mem_of_getElem? (i := 593) (by decide +kernel), List.mem_of_getElem? (i := 594) (by decide +kernel)⟩
def lw_privs_1 : List (MethodName × Nat) := [(⟨"MuckForFour", "refuse", "(I)I"⟩, 8), (⟨"MuckForFour$Text", "fits", "(II)Z"⟩, 2), (⟨"MuckForFour", "statementComes", "(I)Z"⟩, 8), (⟨"MuckForFour", "settingComes", "(II)Z"⟩, 8), (⟨"MuckForFour$Site", "choose", "()I"⟩, 16), (⟨"MuckForFour$Site", "needs", "(I)Z"⟩, 16), (⟨"MuckForFour$Site", "rank", "(I)I"⟩, 16), (⟨"MuckForFour$Site", "send", "(LMuckForFour$Mate;I)V"⟩, 16), (⟨"MuckForFour$Site", "allLay", "()V"⟩, 16), (⟨"MuckForFour$Site", "spendMinute", "(LMuckForFour$Mate;)V"⟩, 16), (⟨"MuckForFour$Site", "unload", "(LMuckForFour$Mate;)V"⟩, 16), (⟨"MuckForFour", "foresee", "(I)V"⟩, 8), (⟨"MuckForFour", "refusalOfLayerInMind", "(III)I"⟩, 8), (⟨"MuckForFour", "laidWith", "(III)I"⟩, 8), (⟨"MuckForFour", "bestSetting", "(III)I"⟩, 8), (⟨"MuckForFour", "laidAsItIs", "(I)I"⟩, 8)]
theorem lw_r1 : ∀ q ∈ lw_privs_1, lw_okq q := List.forall_mem_cons.mpr ⟨lw_p0, List.forall_mem_cons.mpr ⟨lw_p1, List.forall_mem_cons.mpr ⟨lw_p2, List.forall_mem_cons.mpr ⟨lw_p3, List.forall_mem_cons.mpr ⟨lw_p4, List.forall_mem_cons.mpr ⟨lw_p5, List.forall_mem_cons.mpr ⟨lw_p6, List.forall_mem_cons.mpr ⟨lw_p7, List.forall_mem_cons.mpr ⟨lw_p8, List.forall_mem_cons.mpr ⟨lw_p9, List.forall_mem_cons.mpr ⟨lw_p10, List.forall_mem_cons.mpr ⟨lw_p11, List.forall_mem_cons.mpr ⟨lw_p12, List.forall_mem_cons.mpr ⟨lw_p13, List.forall_mem_cons.mpr ⟨lw_p14, List.forall_mem_cons.mpr ⟨lw_p15, fun _ h => absurd h List.not_mem_nil⟩⟩⟩⟩⟩⟩⟩⟩⟩⟩⟩⟩⟩⟩⟩⟩
theorem lw_p16 : lw_okq (⟨"MuckForFour", "passWithMixing", "(II)V"⟩, 8) := ⟨⟨by decide +kernel, by decide +kernel⟩, List.mem_of_getElem? (i := 15) (by decide +kernel), List.mem_of_getElem? (i := 629) (by decide +kernel), List.mem_of_getElem? (i := 630) (by decide +kernel)⟩
theorem lw_p17 : lw_okq (⟨"MuckForFour", "rowFitsUnits", "(I)Z"⟩, 8) := ⟨⟨by decide +kernel, by decide +kernel⟩, List.mem_of_getElem? (i := 15) (by decide +kernel), List.mem_of_getElem? (i := 646) (by decide +kernel), List.mem_of_getElem? (i := 647) (by decide +kernel)⟩
theorem lw_p18 : lw_okq (⟨"MuckForFourModel", "no", "(I)I"⟩, 44) := ⟨⟨by decide +kernel, by decide +kernel⟩, List.mem_of_getElem? (i := 683) (by decide +kernel), List.mem_of_getElem? (i := 830) (by decide +kernel), List.mem_of_getElem? (i := 831) (by decide +kernel)⟩
theorem lw_p19 : lw_okq (⟨"MuckForFourModel", "statement", "()Z"⟩, 44) := ⟨⟨by decide +kernel, by decide +kernel⟩, List.mem_of_getElem? (i := 683) (by decide +kernel), List.mem_of_getElem? (i := 838) (by decide +kernel), List.mem_of_getElem? (i := 839) (by decide +kernel)⟩
theorem lw_p20 : lw_okq (⟨"MuckForFourModel", "next", "()I"⟩, 44) := ⟨⟨by decide +kernel, by decide +kernel⟩, List.mem_of_getElem? (i := 683) (by decide +kernel), List.mem_of_getElem? (i := 842) (by decide +kernel), List.mem_of_getElem? (i := 843) (by decide +kernel)⟩
theorem lw_p21 : lw_okq (⟨"MuckForFourModel", "readsAll", "(II)Z"⟩, 44) := ⟨⟨by decide +kernel, by decide +kernel⟩, List.mem_of_getElem? (i := 683) (by decide +kernel), List.mem_of_getElem? (i := 846) (by decide +kernel), List.mem_of_getElem? (i := 847) (by decide +kernel)⟩
theorem lw_p22 : lw_okq (⟨"MuckForFourModel", "readsKind", "(II)Z"⟩, 44) := ⟨⟨by decide +kernel, by decide +kernel⟩, List.mem_of_getElem? (i := 683) (by decide +kernel), List.mem_of_getElem? (i := 853) (by decide +kernel), List.mem_of_getElem? (i := 854) (by decide +kernel)⟩
theorem lw_p23 : lw_okq (⟨"MuckForFourModel", "readsDigits", "(II)Z"⟩, 44) := ⟨⟨by decide +kernel, by decide +kernel⟩, List.mem_of_getElem? (i := 683) (by decide +kernel), List.mem_of_getElem? (i := 857) (by decide +kernel), List.mem_of_getElem? (i := 858) (by decide +kernel)⟩
theorem lw_p24 : lw_okq (⟨"MuckForFourModel", "passesAll", "(IZ)V"⟩, 44) := ⟨⟨by decide +kernel, by decide +kernel⟩, List.mem_of_getElem? (i := 683) (by decide +kernel), List.mem_of_getElem? (i := 867) (by decide +kernel), List.mem_of_getElem? (i := 868) (by decide +kernel)⟩
theorem lw_p25 : lw_okq (⟨"MuckForFourModel", "passes", "([I)V"⟩, 44) := ⟨⟨by decide +kernel, by decide +kernel⟩, List.mem_of_getElem? (i := 683) (by decide +kernel), List.mem_of_getElem? (i := 871) (by decide +kernel), List.mem_of_getElem? (i := 872) (by decide +kernel)⟩
theorem lw_p26 : lw_okq (⟨"MuckForFourModel", "passOne", "(I)I"⟩, 44) := ⟨⟨by decide +kernel, by decide +kernel⟩, List.mem_of_getElem? (i := 683) (by decide +kernel), List.mem_of_getElem? (i := 875) (by decide +kernel), List.mem_of_getElem? (i := 876) (by decide +kernel)⟩
theorem lw_p27 : lw_okq (⟨"MuckForFourModel", "comes", "(I)Z"⟩, 44) := ⟨⟨by decide +kernel, by decide +kernel⟩, List.mem_of_getElem? (i := 683) (by decide +kernel), List.mem_of_getElem? (i := 879) (by decide +kernel), List.mem_of_getElem? (i := 880) (by decide +kernel)⟩
theorem lw_p28 : lw_okq (⟨"MuckForFourModel", "comesLayer", "(I)Z"⟩, 44) := ⟨⟨by decide +kernel, by decide +kernel⟩, List.mem_of_getElem? (i := 683) (by decide +kernel), List.mem_of_getElem? (i := 883) (by decide +kernel), List.mem_of_getElem? (i := 884) (by decide +kernel)⟩
theorem lw_p29 : lw_okq (⟨"MuckForFourModel", "comesSet", "(II)Z"⟩, 44) := ⟨⟨by decide +kernel, by decide +kernel⟩, List.mem_of_getElem? (i := 683) (by decide +kernel), List.mem_of_getElem? (i := 887) (by decide +kernel), List.mem_of_getElem? (i := 888) (by decide +kernel)⟩
theorem lw_p30 : lw_okq (⟨"MuckForFourModel", "isBusy", "()Z"⟩, 44) := ⟨⟨by decide +kernel, by decide +kernel⟩, List.mem_of_getElem? (i := 683) (by decide +kernel), List.mem_of_getElem? (i := 897) (by decide +kernel), List.mem_of_getElem? (i := 898) (by decide +kernel)⟩
theorem lw_p31 : lw_okq (⟨"MuckForFourModel", "goesBy", "(I)V"⟩, 44) := ⟨⟨by decide +kernel, by decide +kernel⟩, List.mem_of_getElem? (i := 683) (by decide +kernel), List.mem_of_getElem? (i := 901) (by decide +kernel), List.mem_of_getElem? (i := 902) (by decide +kernel)⟩
def lw_privs_2 : List (MethodName × Nat) := [(⟨"MuckForFour", "passWithMixing", "(II)V"⟩, 8), (⟨"MuckForFour", "rowFitsUnits", "(I)Z"⟩, 8), (⟨"MuckForFourModel", "no", "(I)I"⟩, 44), (⟨"MuckForFourModel", "statement", "()Z"⟩, 44), (⟨"MuckForFourModel", "next", "()I"⟩, 44), (⟨"MuckForFourModel", "readsAll", "(II)Z"⟩, 44), (⟨"MuckForFourModel", "readsKind", "(II)Z"⟩, 44), (⟨"MuckForFourModel", "readsDigits", "(II)Z"⟩, 44), (⟨"MuckForFourModel", "passesAll", "(IZ)V"⟩, 44), (⟨"MuckForFourModel", "passes", "([I)V"⟩, 44), (⟨"MuckForFourModel", "passOne", "(I)I"⟩, 44), (⟨"MuckForFourModel", "comes", "(I)Z"⟩, 44), (⟨"MuckForFourModel", "comesLayer", "(I)Z"⟩, 44), (⟨"MuckForFourModel", "comesSet", "(II)Z"⟩, 44), (⟨"MuckForFourModel", "isBusy", "()Z"⟩, 44), (⟨"MuckForFourModel", "goesBy", "(I)V"⟩, 44)]
theorem lw_r2 : ∀ q ∈ lw_privs_2, lw_okq q := List.forall_mem_cons.mpr ⟨lw_p16, List.forall_mem_cons.mpr ⟨lw_p17, List.forall_mem_cons.mpr ⟨lw_p18, List.forall_mem_cons.mpr ⟨lw_p19, List.forall_mem_cons.mpr ⟨lw_p20, List.forall_mem_cons.mpr ⟨lw_p21, List.forall_mem_cons.mpr ⟨lw_p22, List.forall_mem_cons.mpr ⟨lw_p23, List.forall_mem_cons.mpr ⟨lw_p24, List.forall_mem_cons.mpr ⟨lw_p25, List.forall_mem_cons.mpr ⟨lw_p26, List.forall_mem_cons.mpr ⟨lw_p27, List.forall_mem_cons.mpr ⟨lw_p28, List.forall_mem_cons.mpr ⟨lw_p29, List.forall_mem_cons.mpr ⟨lw_p30, List.forall_mem_cons.mpr ⟨lw_p31, fun _ h => absurd h List.not_mem_nil⟩⟩⟩⟩⟩⟩⟩⟩⟩⟩⟩⟩⟩⟩⟩⟩
theorem lw_p32 : lw_okq (⟨"MuckForFourModel", "goesMinutes", "(I)V"⟩, 44) := ⟨⟨by decide +kernel, by decide +kernel⟩, List.mem_of_getElem? (i := 683) (by decide +kernel), List.mem_of_getElem? (i := 905) (by decide +kernel), List.mem_of_getElem? (i := 906) (by decide +kernel)⟩
theorem lw_p33 : lw_okq (⟨"MuckForFourModel", "clearsCounts", "()V"⟩, 44) := ⟨⟨by decide +kernel, by decide +kernel⟩, List.mem_of_getElem? (i := 683) (by decide +kernel), List.mem_of_getElem? (i := 909) (by decide +kernel), List.mem_of_getElem? (i := 910) (by decide +kernel)⟩
theorem lw_p34 : lw_okq (⟨"MuckForFourModel", "goes", "()V"⟩, 44) := ⟨⟨by decide +kernel, by decide +kernel⟩, List.mem_of_getElem? (i := 683) (by decide +kernel), List.mem_of_getElem? (i := 913) (by decide +kernel), List.mem_of_getElem? (i := 914) (by decide +kernel)⟩
theorem lw_p35 : lw_okq (⟨"MuckForFourModel", "stoodAll", "()I"⟩, 44) := ⟨⟨by decide +kernel, by decide +kernel⟩, List.mem_of_getElem? (i := 683) (by decide +kernel), List.mem_of_getElem? (i := 917) (by decide +kernel), List.mem_of_getElem? (i := 918) (by decide +kernel)⟩
theorem lw_p36 : lw_okq (⟨"MuckForFourModel", "starts", "(I)V"⟩, 44) := ⟨⟨by decide +kernel, by decide +kernel⟩, List.mem_of_getElem? (i := 683) (by decide +kernel), List.mem_of_getElem? (i := 921) (by decide +kernel), List.mem_of_getElem? (i := 922) (by decide +kernel)⟩
theorem lw_p37 : lw_okq (⟨"MuckForFourModel", "served", "()I"⟩, 44) := ⟨⟨by decide +kernel, by decide +kernel⟩, List.mem_of_getElem? (i := 683) (by decide +kernel), List.mem_of_getElem? (i := 925) (by decide +kernel), List.mem_of_getElem? (i := 926) (by decide +kernel)⟩
theorem lw_p38 : lw_okq (⟨"MuckForFourModel", "isWanting", "(I)Z"⟩, 44) := ⟨⟨by decide +kernel, by decide +kernel⟩, List.mem_of_getElem? (i := 683) (by decide +kernel), List.mem_of_getElem? (i := 929) (by decide +kernel), List.mem_of_getElem? (i := 930) (by decide +kernel)⟩
theorem lw_p39 : lw_okq (⟨"MuckForFourModel", "keyBy", "(I)I"⟩, 44) := ⟨⟨by decide +kernel, by decide +kernel⟩, List.mem_of_getElem? (i := 683) (by decide +kernel), List.mem_of_getElem? (i := 933) (by decide +kernel), List.mem_of_getElem? (i := 934) (by decide +kernel)⟩
theorem lw_p40 : lw_okq (⟨"MuckForFourModel", "keyOf", "(I)I"⟩, 44) := ⟨⟨by decide +kernel, by decide +kernel⟩, List.mem_of_getElem? (i := 683) (by decide +kernel), List.mem_of_getElem? (i := 937) (by decide +kernel), List.mem_of_getElem? (i := 938) (by decide +kernel)⟩
theorem lw_p41 : lw_okq (⟨"MuckForFourModel", "emptyBy", "(I)I"⟩, 44) := ⟨⟨by decide +kernel, by decide +kernel⟩, List.mem_of_getElem? (i := 683) (by decide +kernel), List.mem_of_getElem? (i := 941) (by decide +kernel), List.mem_of_getElem? (i := 942) (by decide +kernel)⟩
theorem lw_p42 : lw_okq (⟨"MuckForFourModel", "lastsBy", "(I)I"⟩, 44) := ⟨⟨by decide +kernel, by decide +kernel⟩, List.mem_of_getElem? (i := 683) (by decide +kernel), List.mem_of_getElem? (i := 948) (by decide +kernel), List.mem_of_getElem? (i := 949) (by decide +kernel)⟩
theorem lw_p43 : lw_okq (⟨"MuckForFourModel", "bricksOf", "(I)I"⟩, 44) := ⟨⟨by decide +kernel, by decide +kernel⟩, List.mem_of_getElem? (i := 683) (by decide +kernel), List.mem_of_getElem? (i := 952) (by decide +kernel), List.mem_of_getElem? (i := 953) (by decide +kernel)⟩
theorem lw_p44 : lw_okq (⟨"MuckForFourModel", "begins", "(III)V"⟩, 44) := ⟨⟨by decide +kernel, by decide +kernel⟩, List.mem_of_getElem? (i := 683) (by decide +kernel), List.mem_of_getElem? (i := 959) (by decide +kernel), List.mem_of_getElem? (i := 960) (by decide +kernel)⟩
theorem lw_p45 : lw_okq (⟨"MuckForFourModel", "tells", "(I)V"⟩, 44) := ⟨⟨by decide +kernel, by decide +kernel⟩, List.mem_of_getElem? (i := 683) (by decide +kernel), List.mem_of_getElem? (i := 963) (by decide +kernel), List.mem_of_getElem? (i := 964) (by decide +kernel)⟩
theorem lw_p46 : lw_okq (⟨"MuckForFourModel", "layerGoes", "(I)V"⟩, 44) := ⟨⟨by decide +kernel, by decide +kernel⟩, List.mem_of_getElem? (i := 683) (by decide +kernel), List.mem_of_getElem? (i := 967) (by decide +kernel), List.mem_of_getElem? (i := 968) (by decide +kernel)⟩
theorem lw_p47 : lw_okq (⟨"MuckForFourModel", "wouldLay", "(I)I"⟩, 44) := ⟨⟨by decide +kernel, by decide +kernel⟩, List.mem_of_getElem? (i := 683) (by decide +kernel), List.mem_of_getElem? (i := 971) (by decide +kernel), List.mem_of_getElem? (i := 972) (by decide +kernel)⟩
def lw_privs_3 : List (MethodName × Nat) := [(⟨"MuckForFourModel", "goesMinutes", "(I)V"⟩, 44), (⟨"MuckForFourModel", "clearsCounts", "()V"⟩, 44), (⟨"MuckForFourModel", "goes", "()V"⟩, 44), (⟨"MuckForFourModel", "stoodAll", "()I"⟩, 44), (⟨"MuckForFourModel", "starts", "(I)V"⟩, 44), (⟨"MuckForFourModel", "served", "()I"⟩, 44), (⟨"MuckForFourModel", "isWanting", "(I)Z"⟩, 44), (⟨"MuckForFourModel", "keyBy", "(I)I"⟩, 44), (⟨"MuckForFourModel", "keyOf", "(I)I"⟩, 44), (⟨"MuckForFourModel", "emptyBy", "(I)I"⟩, 44), (⟨"MuckForFourModel", "lastsBy", "(I)I"⟩, 44), (⟨"MuckForFourModel", "bricksOf", "(I)I"⟩, 44), (⟨"MuckForFourModel", "begins", "(III)V"⟩, 44), (⟨"MuckForFourModel", "tells", "(I)V"⟩, 44), (⟨"MuckForFourModel", "layerGoes", "(I)V"⟩, 44), (⟨"MuckForFourModel", "wouldLay", "(I)I"⟩, 44)]
theorem lw_r3 : ∀ q ∈ lw_privs_3, lw_okq q := List.forall_mem_cons.mpr ⟨lw_p32, List.forall_mem_cons.mpr ⟨lw_p33, List.forall_mem_cons.mpr ⟨lw_p34, List.forall_mem_cons.mpr ⟨lw_p35, List.forall_mem_cons.mpr ⟨lw_p36, List.forall_mem_cons.mpr ⟨lw_p37, List.forall_mem_cons.mpr ⟨lw_p38, List.forall_mem_cons.mpr ⟨lw_p39, List.forall_mem_cons.mpr ⟨lw_p40, List.forall_mem_cons.mpr ⟨lw_p41, List.forall_mem_cons.mpr ⟨lw_p42, List.forall_mem_cons.mpr ⟨lw_p43, List.forall_mem_cons.mpr ⟨lw_p44, List.forall_mem_cons.mpr ⟨lw_p45, List.forall_mem_cons.mpr ⟨lw_p46, List.forall_mem_cons.mpr ⟨lw_p47, fun _ h => absurd h List.not_mem_nil⟩⟩⟩⟩⟩⟩⟩⟩⟩⟩⟩⟩⟩⟩⟩⟩
theorem lw_p48 : lw_okq (⟨"MuckForFourModel", "lays", "(I)I"⟩, 44) := ⟨⟨by decide +kernel, by decide +kernel⟩, List.mem_of_getElem? (i := 683) (by decide +kernel), List.mem_of_getElem? (i := 975) (by decide +kernel), List.mem_of_getElem? (i := 976) (by decide +kernel)⟩
theorem lw_p49 : lw_okq (⟨"MuckForFourModel", "ends", "(I)V"⟩, 44) := ⟨⟨by decide +kernel, by decide +kernel⟩, List.mem_of_getElem? (i := 683) (by decide +kernel), List.mem_of_getElem? (i := 979) (by decide +kernel), List.mem_of_getElem? (i := 980) (by decide +kernel)⟩
theorem lw_p50 : lw_okq (⟨"MuckForFourModel", "comesThere", "(I)V"⟩, 44) := ⟨⟨by decide +kernel, by decide +kernel⟩, List.mem_of_getElem? (i := 683) (by decide +kernel), List.mem_of_getElem? (i := 983) (by decide +kernel), List.mem_of_getElem? (i := 984) (by decide +kernel)⟩
theorem lw_p51 : lw_okq (⟨"MuckForFourModel", "heldBy", "(II)I"⟩, 44) := ⟨⟨by decide +kernel, by decide +kernel⟩, List.mem_of_getElem? (i := 683) (by decide +kernel), List.mem_of_getElem? (i := 987) (by decide +kernel), List.mem_of_getElem? (i := 988) (by decide +kernel)⟩
theorem lw_p52 : lw_okq (⟨"MuckForFourModel", "isLayer", "(I)Z"⟩, 44) := ⟨⟨by decide +kernel, by decide +kernel⟩, List.mem_of_getElem? (i := 683) (by decide +kernel), List.mem_of_getElem? (i := 1003) (by decide +kernel), List.mem_of_getElem? (i := 1004) (by decide +kernel)⟩
theorem lw_p53 : lw_okq (⟨"MuckForFourModel", "minds", "(I)V"⟩, 44) := ⟨⟨by decide +kernel, by decide +kernel⟩, List.mem_of_getElem? (i := 683) (by decide +kernel), List.mem_of_getElem? (i := 1027) (by decide +kernel), List.mem_of_getElem? (i := 1028) (by decide +kernel)⟩
theorem lw_p54 : lw_okq (⟨"MuckForFourModel", "allMuck", "()I"⟩, 44) := ⟨⟨by decide +kernel, by decide +kernel⟩, List.mem_of_getElem? (i := 683) (by decide +kernel), List.mem_of_getElem? (i := 1031) (by decide +kernel), List.mem_of_getElem? (i := 1032) (by decide +kernel)⟩
theorem lw_p55 : lw_okq (⟨"MuckForFourModel", "laidWith", "(III)I"⟩, 44) := ⟨⟨by decide +kernel, by decide +kernel⟩, List.mem_of_getElem? (i := 683) (by decide +kernel), List.mem_of_getElem? (i := 1051) (by decide +kernel), List.mem_of_getElem? (i := 1052) (by decide +kernel)⟩
theorem lw_p56 : lw_okq (⟨"MuckForFourModel", "lower", "(I)I"⟩, 44) := ⟨⟨by decide +kernel, by decide +kernel⟩, List.mem_of_getElem? (i := 683) (by decide +kernel), List.mem_of_getElem? (i := 1063) (by decide +kernel), List.mem_of_getElem? (i := 1064) (by decide +kernel)⟩
theorem lw_p57 : lw_okq (⟨"MuckForFourModel", "laidIn", "(I)I"⟩, 44) := ⟨⟨by decide +kernel, by decide +kernel⟩, List.mem_of_getElem? (i := 683) (by decide +kernel), List.mem_of_getElem? (i := 1068) (by decide +kernel), List.mem_of_getElem? (i := 1069) (by decide +kernel)⟩
theorem lw_p58 : lw_okq (⟨"MuckForFourModel", "standsOf", "(II)I"⟩, 44) := ⟨⟨by decide +kernel, by decide +kernel⟩, List.mem_of_getElem? (i := 683) (by decide +kernel), List.mem_of_getElem? (i := 1088) (by decide +kernel), List.mem_of_getElem? (i := 1089) (by decide +kernel)⟩
theorem lw_p59 : lw_okq (⟨"MuckForFourModel", "laidDry", "(II)I"⟩, 44) := ⟨⟨by decide +kernel, by decide +kernel⟩, List.mem_of_getElem? (i := 683) (by decide +kernel), List.mem_of_getElem? (i := 1100) (by decide +kernel), List.mem_of_getElem? (i := 1101) (by decide +kernel)⟩
theorem lw_p60 : lw_okq (⟨"MuckForFourModel", "draw", "(I)I"⟩, 44) := ⟨⟨by decide +kernel, by decide +kernel⟩, List.mem_of_getElem? (i := 683) (by decide +kernel), List.mem_of_getElem? (i := 1128) (by decide +kernel), List.mem_of_getElem? (i := 1129) (by decide +kernel)⟩
def lw_privs_4 : List (MethodName × Nat) := [(⟨"MuckForFourModel", "lays", "(I)I"⟩, 44), (⟨"MuckForFourModel", "ends", "(I)V"⟩, 44), (⟨"MuckForFourModel", "comesThere", "(I)V"⟩, 44), (⟨"MuckForFourModel", "heldBy", "(II)I"⟩, 44), (⟨"MuckForFourModel", "isLayer", "(I)Z"⟩, 44), (⟨"MuckForFourModel", "minds", "(I)V"⟩, 44), (⟨"MuckForFourModel", "allMuck", "()I"⟩, 44), (⟨"MuckForFourModel", "laidWith", "(III)I"⟩, 44), (⟨"MuckForFourModel", "lower", "(I)I"⟩, 44), (⟨"MuckForFourModel", "laidIn", "(I)I"⟩, 44), (⟨"MuckForFourModel", "standsOf", "(II)I"⟩, 44), (⟨"MuckForFourModel", "laidDry", "(II)I"⟩, 44), (⟨"MuckForFourModel", "draw", "(I)I"⟩, 44)]
theorem lw_r4 : ∀ q ∈ lw_privs_4, lw_okq q := List.forall_mem_cons.mpr ⟨lw_p48, List.forall_mem_cons.mpr ⟨lw_p49, List.forall_mem_cons.mpr ⟨lw_p50, List.forall_mem_cons.mpr ⟨lw_p51, List.forall_mem_cons.mpr ⟨lw_p52, List.forall_mem_cons.mpr ⟨lw_p53, List.forall_mem_cons.mpr ⟨lw_p54, List.forall_mem_cons.mpr ⟨lw_p55, List.forall_mem_cons.mpr ⟨lw_p56, List.forall_mem_cons.mpr ⟨lw_p57, List.forall_mem_cons.mpr ⟨lw_p58, List.forall_mem_cons.mpr ⟨lw_p59, List.forall_mem_cons.mpr ⟨lw_p60, fun _ h => absurd h List.not_mem_nil⟩⟩⟩⟩⟩⟩⟩⟩⟩⟩⟩⟩⟩
def lw_privs : List (MethodName × Nat) := lw_privs_1 ++ (lw_privs_2 ++ (lw_privs_3 ++ (lw_privs_4)))
def lw_tbl : List Cond := k2_sels lw_privs ++ tables_1
theorem lw_privs_ok : ∀ q ∈ lw_privs, lw_okq q := by
  show ∀ q ∈ lw_privs_1 ++ (lw_privs_2 ++ (lw_privs_3 ++ (lw_privs_4))), lw_okq q
  exact List.forall_mem_append.mpr ⟨lw_r1, List.forall_mem_append.mpr ⟨lw_r2, List.forall_mem_append.mpr ⟨lw_r3, lw_r4⟩⟩⟩
end
section
def RX0 : String := "MuckForFour$Layer"
def TX0 : u_T := fun k => match k with
  | 0 => ("MuckForFour$Layer", "kind", "I", false)
  | 1 => ("MuckForFour$Layer", "pace", "I", false)
  | 2 => ("MuckForFour$Layer", "usual", "I", false)
  | 3 => ("MuckForFour$Layer", "units", "I", false)
  | 4 => ("MuckForFour$Layer", "board", "I", false)
  | 5 => ("MuckForFour$Layer", "stack", "I", false)
  | 6 => ("MuckForFour$Layer", "stood", "I", false)
  | _ => ("MuckForFour$Layer", "stoodForMortar", "I", false)
def tyX0 : Nat → FieldType := fun k => match k with
  | 0 => .int
  | 1 => .int
  | 2 => .int
  | 3 => .int
  | 4 => .int
  | 5 => .int
  | 6 => .int
  | _ => .int
abbrev wsX00 : List Cond := u_ws RX0 TX0 8
theorem nmX0 : ∀ a, a < 8 → ∀ b, b < 8 → a ≠ b → (TX0 a).2.1 ≠ (TX0 b).2.1 := by decide +kernel
theorem tyX0_ok : ∀ k, k < 8 → parseFieldDescriptor (TX0 k).2.2.1 = some (tyX0 k) := by decide +kernel
abbrev cX0_init : ByteArray := prog_2_method_1_code
def yX0_init : MethodName := ⟨RX0, "<init>", "()V"⟩
abbrev cX0_become : ByteArray := prog_2_method_2_code
def yX0_become : MethodName := ⟨RX0, "become", "(LMuckForFour$Layer;)V"⟩
abbrev cX0_begin : ByteArray := prog_2_method_3_code
def yX0_begin : MethodName := ⟨RX0, "begin", "(IIII)V"⟩
abbrev cX0_usualOf : ByteArray := prog_2_method_4_code
def yX0_usualOf : MethodName := ⟨RX0, "usualOf", "(II)I"⟩
abbrev cX0_wants : ByteArray := prog_2_method_5_code
def yX0_wants : MethodName := ⟨RX0, "wants", "(I)I"⟩
abbrev cX0_lasts : ByteArray := prog_2_method_6_code
def yX0_lasts : MethodName := ⟨RX0, "lasts", "()I"⟩
abbrev cX0_lay : ByteArray := prog_2_method_7_code
def yX0_lay : MethodName := ⟨RX0, "lay", "(I)I"⟩
abbrev cX0_receiveMortar : ByteArray := prog_2_method_8_code
def yX0_receiveMortar : MethodName := ⟨RX0, "receiveMortar", "(I)I"⟩
abbrev cX0_receiveBricks : ByteArray := prog_2_method_9_code
def yX0_receiveBricks : MethodName := ⟨RX0, "receiveBricks", "(I)I"⟩
def RX1 : String := "MuckForFour$Mate"
def TX1 : u_T := fun k => match k with
  | 0 => ("MuckForFour$Mate", "doing", "I", false)
  | 1 => ("MuckForFour$Mate", "minutes", "I", false)
  | 2 => ("MuckForFour$Mate", "to", "I", false)
  | _ => ("MuckForFour$Mate", "hasMortar", "Z", false)
def tyX1 : Nat → FieldType := fun k => match k with
  | 0 => .int
  | 1 => .int
  | 2 => .int
  | _ => .boolean
abbrev wsX10 : List Cond := u_ws RX1 TX1 4
theorem nmX1 : ∀ a, a < 4 → ∀ b, b < 4 → a ≠ b → (TX1 a).2.1 ≠ (TX1 b).2.1 := by decide +kernel
theorem tyX1_ok : ∀ k, k < 4 → parseFieldDescriptor (TX1 k).2.2.1 = some (tyX1 k) := by decide +kernel
abbrev cX1_init : ByteArray := prog_3_method_1_code
def yX1_init : MethodName := ⟨RX1, "<init>", "()V"⟩
abbrev cX1_become : ByteArray := prog_3_method_2_code
def yX1_become : MethodName := ⟨RX1, "become", "(LMuckForFour$Mate;)V"⟩
abbrev cX1_begin : ByteArray := prog_3_method_3_code
def yX1_begin : MethodName := ⟨RX1, "begin", "(II)V"⟩
abbrev cX1_climb : ByteArray := prog_3_method_4_code
def yX1_climb : MethodName := ⟨RX1, "climb", "(IZI)V"⟩
def RX2 : String := "MuckForFour$Site"
def TX2 : u_T := fun k => match k with
  | 0 => ("MuckForFour$Site", "layers", "[LMuckForFour$Layer;", true)
  | 1 => ("MuckForFour$Site", "layerCount", "I", false)
  | 2 => ("MuckForFour$Site", "mates", "[LMuckForFour$Mate;", true)
  | 3 => ("MuckForFour$Site", "mateCount", "I", false)
  | 4 => ("MuckForFour$Site", "hod", "I", false)
  | 5 => ("MuckForFour$Site", "ladder", "I", false)
  | 6 => ("MuckForFour$Site", "mixing", "I", false)
  | 7 => ("MuckForFour$Site", "batch", "I", false)
  | 8 => ("MuckForFour$Site", "muck", "I", false)
  | 9 => ("MuckForFour$Site", "rule", "I", false)
  | 10 => ("MuckForFour$Site", "minute", "I", false)
  | 11 => ("MuckForFour$Site", "laidInAll", "I", false)
  | 12 => ("MuckForFour$Site", "servedLatest", "I", false)
  | 13 => ("MuckForFour$Site", "water", "I", false)
  | 14 => ("MuckForFour$Site", "mixingEnds", "I", false)
  | _ => ("MuckForFour$Site", "tally", "LMuckForFour$Tally;", true)
def tyX2 : Nat → FieldType := fun k => match k with
  | 0 => .array (.object "MuckForFour$Layer")
  | 1 => .int
  | 2 => .array (.object "MuckForFour$Mate")
  | 3 => .int
  | 4 => .int
  | 5 => .int
  | 6 => .int
  | 7 => .int
  | 8 => .int
  | 9 => .int
  | 10 => .int
  | 11 => .int
  | 12 => .int
  | 13 => .int
  | 14 => .int
  | _ => .object "MuckForFour$Tally"
abbrev wsX20 : List Cond := u_ws RX2 TX2 16
theorem nmX2 : ∀ a, a < 16 → ∀ b, b < 16 → a ≠ b → (TX2 a).2.1 ≠ (TX2 b).2.1 := by decide +kernel
theorem tyX2_ok : ∀ k, k < 16 → parseFieldDescriptor (TX2 k).2.2.1 = some (tyX2 k) := by decide +kernel
abbrev cX2_init : ByteArray := prog_4_method_1_code
def yX2_init : MethodName := ⟨RX2, "<init>", "()V"⟩
abbrev cX2_become : ByteArray := prog_4_method_2_code
def yX2_become : MethodName := ⟨RX2, "become", "(LMuckForFour$Site;)V"⟩
abbrev cX2_hasLayer : ByteArray := prog_4_method_3_code
def yX2_hasLayer : MethodName := ⟨RX2, "hasLayer", "(I)Z"⟩
abbrev cX2_hasTimeFor : ByteArray := prog_4_method_4_code
def yX2_hasTimeFor : MethodName := ⟨RX2, "hasTimeFor", "(I)Z"⟩
abbrev cX2_anyBusy : ByteArray := prog_4_method_5_code
def yX2_anyBusy : MethodName := ⟨RX2, "anyBusy", "()Z"⟩
abbrev cX2_freeMates : ByteArray := prog_4_method_6_code
def yX2_freeMates : MethodName := ⟨RX2, "freeMates", "()V"⟩
abbrev cX2_setting : ByteArray := prog_4_method_7_code
def yX2_setting : MethodName := ⟨RX2, "setting", "(I)I"⟩
abbrev cX2_change : ByteArray := prog_4_method_8_code
def yX2_change : MethodName := ⟨RX2, "change", "(II)V"⟩
abbrev cX2_addLayer : ByteArray := prog_4_method_9_code
def yX2_addLayer : MethodName := ⟨RX2, "addLayer", "(IIII)Z"⟩
abbrev cX2_muckLeft : ByteArray := prog_4_method_10_code
def yX2_muckLeft : MethodName := ⟨RX2, "muckLeft", "()I"⟩
abbrev cX2_pass : ByteArray := prog_4_method_11_code
def yX2_pass : MethodName := ⟨RX2, "pass", "(I)V"⟩
abbrev cX2_send : ByteArray := prog_4_method_12_code
def yX2_send : MethodName := ⟨RX2, "send", "(LMuckForFour$Mate;I)V"⟩
abbrev cX2_choose : ByteArray := prog_4_method_13_code
def yX2_choose : MethodName := ⟨RX2, "choose", "()I"⟩
abbrev cX2_needs : ByteArray := prog_4_method_14_code
def yX2_needs : MethodName := ⟨RX2, "needs", "(I)Z"⟩
abbrev cX2_rank : ByteArray := prog_4_method_15_code
def yX2_rank : MethodName := ⟨RX2, "rank", "(I)I"⟩
abbrev cX2_allLay : ByteArray := prog_4_method_16_code
def yX2_allLay : MethodName := ⟨RX2, "allLay", "()V"⟩
abbrev cX2_spendMinute : ByteArray := prog_4_method_17_code
def yX2_spendMinute : MethodName := ⟨RX2, "spendMinute", "(LMuckForFour$Mate;)V"⟩
abbrev cX2_unload : ByteArray := prog_4_method_18_code
def yX2_unload : MethodName := ⟨RX2, "unload", "(LMuckForFour$Mate;)V"⟩
def RX3 : String := "MuckForFour$Tally"
def TX3 : u_T := fun k => match k with
  | 0 => ("MuckForFour$Tally", "minutes", "I", false)
  | 1 => ("MuckForFour$Tally", "laid", "I", false)
  | 2 => ("MuckForFour$Tally", "stood", "I", false)
  | 3 => ("MuckForFour$Tally", "stoodTogether", "I", false)
  | 4 => ("MuckForFour$Tally", "firstToStand", "I", false)
  | 5 => ("MuckForFour$Tally", "firstStoodAt", "I", false)
  | 6 => ("MuckForFour$Tally", "trips", "I", false)
  | 7 => ("MuckForFour$Tally", "mixes", "I", false)
  | 8 => ("MuckForFour$Tally", "lost", "I", false)
  | 9 => ("MuckForFour$Tally", "begun", "[I", true)
  | _ => ("MuckForFour$Tally", "begunCount", "I", false)
def tyX3 : Nat → FieldType := fun k => match k with
  | 0 => .int
  | 1 => .int
  | 2 => .int
  | 3 => .int
  | 4 => .int
  | 5 => .int
  | 6 => .int
  | 7 => .int
  | 8 => .int
  | 9 => .array .int
  | _ => .int
abbrev wsX30 : List Cond := u_ws RX3 TX3 11
theorem nmX3 : ∀ a, a < 11 → ∀ b, b < 11 → a ≠ b → (TX3 a).2.1 ≠ (TX3 b).2.1 := by decide +kernel
theorem tyX3_ok : ∀ k, k < 11 → parseFieldDescriptor (TX3 k).2.2.1 = some (tyX3 k) := by decide +kernel
abbrev cX3_init : ByteArray := prog_5_method_1_code
def yX3_init : MethodName := ⟨RX3, "<init>", "()V"⟩
abbrev cX3_clear : ByteArray := prog_5_method_2_code
def yX3_clear : MethodName := ⟨RX3, "clear", "()V"⟩
abbrev cX3_noteBegun : ByteArray := prog_5_method_3_code
def yX3_noteBegun : MethodName := ⟨RX3, "noteBegun", "(I)V"⟩
abbrev cX3_noteStanding : ByteArray := prog_5_method_4_code
def yX3_noteStanding : MethodName := ⟨RX3, "noteStanding", "(II)V"⟩
def RX4 : String := "MuckForFour$Text"
def TX4 : u_T := fun k => match k with
  | 0 => ("MuckForFour$Text", "letters", "[I", true)
  | _ => ("MuckForFour$Text", "length", "I", false)
def tyX4 : Nat → FieldType := fun k => match k with
  | 0 => .array .int
  | _ => .int
abbrev wsX40 : List Cond := u_ws RX4 TX4 2
theorem nmX4 : ∀ a, a < 2 → ∀ b, b < 2 → a ≠ b → (TX4 a).2.1 ≠ (TX4 b).2.1 := by decide +kernel
theorem tyX4_ok : ∀ k, k < 2 → parseFieldDescriptor (TX4 k).2.2.1 = some (tyX4 k) := by decide +kernel
abbrev cX4_init : ByteArray := prog_6_method_1_code
def yX4_init : MethodName := ⟨RX4, "<init>", "()V"⟩
abbrev cX4_add : ByteArray := prog_6_method_2_code
def yX4_add : MethodName := ⟨RX4, "add", "(I)V"⟩
abbrev cX4_at : ByteArray := prog_6_method_3_code
def yX4_at : MethodName := ⟨RX4, "at", "(I)I"⟩
abbrev cX4_number : ByteArray := prog_6_method_4_code
def yX4_number : MethodName := ⟨RX4, "number", "(II)I"⟩
abbrev cX4_shapeFault : ByteArray := prog_6_method_5_code
def yX4_shapeFault : MethodName := ⟨RX4, "shapeFault", "()I"⟩
abbrev cX4_statementLength : ByteArray := prog_6_method_6_code
def yX4_statementLength : MethodName := ⟨RX4, "statementLength", "(I)I"⟩
abbrev cX4_fits : ByteArray := prog_6_method_7_code
def yX4_fits : MethodName := ⟨RX4, "fits", "(II)Z"⟩
def RX5 : String := "MuckForFour"
def TX5 : u_T := fun k => match k with
  | 0 => ("MuckForFour", "now", "LMuckForFour$Site;", true)
  | 1 => ("MuckForFour", "mind", "LMuckForFour$Site;", true)
  | 2 => ("MuckForFour", "taken", "LMuckForFour$Site;", true)
  | 3 => ("MuckForFour", "isTaken", "Z", false)
  | 4 => ("MuckForFour", "text", "LMuckForFour$Text;", true)
  | 5 => ("MuckForFour", "told", "[I", true)
  | 6 => ("MuckForFour", "toldCount", "I", false)
  | _ => ("MuckForFour", "refusals", "[I", true)
def tyX5 : Nat → FieldType := fun k => match k with
  | 0 => .object "MuckForFour$Site"
  | 1 => .object "MuckForFour$Site"
  | 2 => .object "MuckForFour$Site"
  | 3 => .boolean
  | 4 => .object "MuckForFour$Text"
  | 5 => .array .int
  | 6 => .int
  | _ => .array .int
abbrev wsX50 : List Cond := u_ws RX5 TX5 8
theorem nmX5 : ∀ a, a < 8 → ∀ b, b < 8 → a ≠ b → (TX5 a).2.1 ≠ (TX5 b).2.1 := by decide +kernel
theorem tyX5_ok : ∀ k, k < 8 → parseFieldDescriptor (TX5 k).2.2.1 = some (tyX5 k) := by decide +kernel
abbrev cX5_init : ByteArray := prog_1_method_1_code
def yX5_init : MethodName := ⟨RX5, "<init>", "()V"⟩
abbrev cX5_letter : ByteArray := prog_1_method_2_code
def yX5_letter : MethodName := ⟨RX5, "letter", "(I)I"⟩
abbrev cX5_site : ByteArray := prog_1_method_3_code
def yX5_site : MethodName := ⟨RX5, "site", "()I"⟩
abbrev cX5_layer : ByteArray := prog_1_method_4_code
def yX5_layer : MethodName := ⟨RX5, "layer", "(II)I"⟩
abbrev cX5_put : ByteArray := prog_1_method_5_code
def yX5_put : MethodName := ⟨RX5, "put", "(III)I"⟩
abbrev cX5_set : ByteArray := prog_1_method_6_code
def yX5_set : MethodName := ⟨RX5, "set", "(II)I"⟩
abbrev cX5_go : ByteArray := prog_1_method_7_code
def yX5_go : MethodName := ⟨RX5, "go", "(I)I"⟩
abbrev cX5_mates : ByteArray := prog_1_method_8_code
def yX5_mates : MethodName := ⟨RX5, "mates", "(II)I"⟩
abbrev cX5_total : ByteArray := prog_1_method_9_code
def yX5_total : MethodName := ⟨RX5, "total", "(II)I"⟩
abbrev cX5_stood : ByteArray := prog_1_method_10_code
def yX5_stood : MethodName := ⟨RX5, "stood", "(II)I"⟩
abbrev cX5_left : ByteArray := prog_1_method_11_code
def yX5_left : MethodName := ⟨RX5, "left", "(III)I"⟩
abbrev cX5_bestRule : ByteArray := prog_1_method_12_code
def yX5_bestRule : MethodName := ⟨RX5, "bestRule", "(I)I"⟩
abbrev cX5_bestHod : ByteArray := prog_1_method_13_code
def yX5_bestHod : MethodName := ⟨RX5, "bestHod", "(I)I"⟩
abbrev cX5_bestBatch : ByteArray := prog_1_method_14_code
def yX5_bestBatch : MethodName := ⟨RX5, "bestBatch", "(I)I"⟩
abbrev cX5_mate : ByteArray := prog_1_method_15_code
def yX5_mate : MethodName := ⟨RX5, "mate", "(I)I"⟩
abbrev cX5_hoist : ByteArray := prog_1_method_16_code
def yX5_hoist : MethodName := ⟨RX5, "hoist", "(I)I"⟩
abbrev cX5_ahead : ByteArray := prog_1_method_17_code
def yX5_ahead : MethodName := ⟨RX5, "ahead", "(II)I"⟩
abbrev cX5_inStep : ByteArray := prog_1_method_18_code
def yX5_inStep : MethodName := ⟨RX5, "inStep", "(I)I"⟩
abbrev cX5_keeps : ByteArray := prog_1_method_19_code
def yX5_keeps : MethodName := ⟨RX5, "keeps", "(I)I"⟩
abbrev cX5_emptyFirst : ByteArray := prog_1_method_20_code
def yX5_emptyFirst : MethodName := ⟨RX5, "emptyFirst", "(I)I"⟩
abbrev cX5_tea : ByteArray := prog_1_method_21_code
def yX5_tea : MethodName := ⟨RX5, "tea", "(II)I"⟩
abbrev cX5_fault : ByteArray := prog_1_method_22_code
def yX5_fault : MethodName := ⟨RX5, "fault", "(III)I"⟩
abbrev cX5_watered : ByteArray := prog_1_method_23_code
def yX5_watered : MethodName := ⟨RX5, "watered", "(III)I"⟩
abbrev cX5_badly : ByteArray := prog_1_method_24_code
def yX5_badly : MethodName := ⟨RX5, "badly", "()I"⟩
abbrev cX5_row : ByteArray := prog_1_method_25_code
def yX5_row : MethodName := ⟨RX5, "row", "(I)I"⟩
abbrev cX5_judge : ByteArray := prog_1_method_26_code
def yX5_judge : MethodName := ⟨RX5, "judge", "()I"⟩
abbrev cX5_lots : ByteArray := prog_1_method_27_code
def yX5_lots : MethodName := ⟨RX5, "lots", "(II)I"⟩
abbrev cX5_image : ByteArray := prog_1_method_28_code
def yX5_image : MethodName := ⟨RX5, "image", "()I"⟩
abbrev cX5_on : ByteArray := prog_1_method_29_code
def yX5_on : MethodName := ⟨RX5, "on", "()I"⟩
abbrev cX5_count : ByteArray := prog_1_method_30_code
def yX5_count : MethodName := ⟨RX5, "count", "(I)I"⟩
abbrev cX5_refuse : ByteArray := prog_1_method_31_code
def yX5_refuse : MethodName := ⟨RX5, "refuse", "(I)I"⟩
abbrev cX5_outside : ByteArray := prog_1_method_32_code
def yX5_outside : MethodName := ⟨RX5, "outside", "(III)I"⟩
abbrev cX5_outsideEither : ByteArray := prog_1_method_33_code
def yX5_outsideEither : MethodName := ⟨RX5, "outsideEither", "(III)I"⟩
abbrev cX5_refusalOfLayerInMind : ByteArray := prog_1_method_34_code
def yX5_refusalOfLayerInMind : MethodName := ⟨RX5, "refusalOfLayerInMind", "(III)I"⟩
abbrev cX5_foresee : ByteArray := prog_1_method_35_code
def yX5_foresee : MethodName := ⟨RX5, "foresee", "(I)V"⟩
abbrev cX5_laidAsItIs : ByteArray := prog_1_method_36_code
def yX5_laidAsItIs : MethodName := ⟨RX5, "laidAsItIs", "(I)I"⟩
abbrev cX5_laidWith : ByteArray := prog_1_method_37_code
def yX5_laidWith : MethodName := ⟨RX5, "laidWith", "(III)I"⟩
abbrev cX5_passWithMixing : ByteArray := prog_1_method_38_code
def yX5_passWithMixing : MethodName := ⟨RX5, "passWithMixing", "(II)V"⟩
abbrev cX5_bestSetting : ByteArray := prog_1_method_39_code
def yX5_bestSetting : MethodName := ⟨RX5, "bestSetting", "(III)I"⟩
abbrev cX5_rowFitsUnits : ByteArray := prog_1_method_40_code
def yX5_rowFitsUnits : MethodName := ⟨RX5, "rowFitsUnits", "(I)Z"⟩
abbrev cX5_nextSeed : ByteArray := prog_1_method_41_code
def yX5_nextSeed : MethodName := ⟨RX5, "nextSeed", "(I)I"⟩
abbrev cX5_draw : ByteArray := prog_1_method_42_code
def yX5_draw : MethodName := ⟨RX5, "draw", "(II)I"⟩
abbrev cX5_unitsOf : ByteArray := prog_1_method_43_code
def yX5_unitsOf : MethodName := ⟨RX5, "unitsOf", "(I)I"⟩
abbrev cX5_statementComes : ByteArray := prog_1_method_44_code
def yX5_statementComes : MethodName := ⟨RX5, "statementComes", "(I)Z"⟩
abbrev cX5_settingComes : ByteArray := prog_1_method_45_code
def yX5_settingComes : MethodName := ⟨RX5, "settingComes", "(II)Z"⟩
def RX6 : String := "MuckForFourModel"
def TX6 : u_T := fun k => match k with
  | 0 => ("MuckForFourModel", "refused", "[I", true)
  | 1 => ("MuckForFourModel", "setting", "[I", true)
  | 2 => ("MuckForFourModel", "kind", "[I", true)
  | 3 => ("MuckForFourModel", "pace", "[I", true)
  | 4 => ("MuckForFourModel", "board", "[I", true)
  | 5 => ("MuckForFourModel", "stack", "[I", true)
  | 6 => ("MuckForFourModel", "does", "[I", true)
  | 7 => ("MuckForFourModel", "left", "[I", true)
  | 8 => ("MuckForFourModel", "whom", "[I", true)
  | 9 => ("MuckForFourModel", "brings", "[I", true)
  | 10 => ("MuckForFourModel", "layers", "I", false)
  | 11 => ("MuckForFourModel", "minute", "I", false)
  | 12 => ("MuckForFourModel", "latest", "I", false)
  | 13 => ("MuckForFourModel", "laidAll", "I", false)
  | 14 => ("MuckForFourModel", "tape", "[I", true)
  | 15 => ("MuckForFourModel", "letter", "[I", true)
  | 16 => ("MuckForFourModel", "letterAt", "[I", true)
  | 17 => ("MuckForFourModel", "told", "[I", true)
  | 18 => ("MuckForFourModel", "taped", "I", false)
  | 19 => ("MuckForFourModel", "at", "I", false)
  | 20 => ("MuckForFourModel", "statements", "I", false)
  | 21 => ("MuckForFourModel", "kept", "[I", true)
  | 22 => ("MuckForFourModel", "hasImage", "Z", false)
  | 23 => ("MuckForFourModel", "isKeeping", "Z", false)
  | 24 => ("MuckForFourModel", "cursor", "I", false)
  | 25 => ("MuckForFourModel", "stoodOf", "[I", true)
  | 26 => ("MuckForFourModel", "noMortar", "[I", true)
  | 27 => ("MuckForFourModel", "noBricks", "[I", true)
  | 28 => ("MuckForFourModel", "begun", "[I", true)
  | 29 => ("MuckForFourModel", "laid", "I", false)
  | 30 => ("MuckForFourModel", "trips", "I", false)
  | 31 => ("MuckForFourModel", "mixes", "I", false)
  | 32 => ("MuckForFourModel", "lost", "I", false)
  | 33 => ("MuckForFourModel", "begunMany", "I", false)
  | 34 => ("MuckForFourModel", "stepsMany", "I", false)
  | 35 => ("MuckForFourModel", "firstLayer", "I", false)
  | 36 => ("MuckForFourModel", "firstMinute", "I", false)
  | 37 => ("MuckForFourModel", "water", "I", false)
  | 38 => ("MuckForFourModel", "dryFrom", "I", false)
  | 39 => ("MuckForFourModel", "goneMinutes", "I", false)
  | 40 => ("MuckForFourModel", "muckThen", "I", false)
  | 41 => ("MuckForFourModel", "row", "[I", true)
  | 42 => ("MuckForFourModel", "rowMany", "I", false)
  | _ => ("MuckForFourModel", "lots", "I", false)
def tyX6 : Nat → FieldType := fun k => match k with
  | 0 => .array .int
  | 1 => .array .int
  | 2 => .array .int
  | 3 => .array .int
  | 4 => .array .int
  | 5 => .array .int
  | 6 => .array .int
  | 7 => .array .int
  | 8 => .array .int
  | 9 => .array .int
  | 10 => .int
  | 11 => .int
  | 12 => .int
  | 13 => .int
  | 14 => .array .int
  | 15 => .array .int
  | 16 => .array .int
  | 17 => .array .int
  | 18 => .int
  | 19 => .int
  | 20 => .int
  | 21 => .array .int
  | 22 => .boolean
  | 23 => .boolean
  | 24 => .int
  | 25 => .array .int
  | 26 => .array .int
  | 27 => .array .int
  | 28 => .array .int
  | 29 => .int
  | 30 => .int
  | 31 => .int
  | 32 => .int
  | 33 => .int
  | 34 => .int
  | 35 => .int
  | 36 => .int
  | 37 => .int
  | 38 => .int
  | 39 => .int
  | 40 => .int
  | 41 => .array .int
  | 42 => .int
  | _ => .int
abbrev wsX60 : List Cond := u_ws RX6 TX6 44
theorem nmX6 : ∀ a, a < 44 → ∀ b, b < 44 → a ≠ b → (TX6 a).2.1 ≠ (TX6 b).2.1 := by decide +kernel
theorem tyX6_ok : ∀ k, k < 44 → parseFieldDescriptor (TX6 k).2.2.1 = some (tyX6 k) := by decide +kernel
abbrev cX6_init : ByteArray := prog_8_method_1_code
def yX6_init : MethodName := ⟨RX6, "<init>", "()V"⟩
abbrev cX6_no : ByteArray := prog_8_method_2_code
def yX6_no : MethodName := ⟨RX6, "no", "(I)I"⟩
abbrev cX6_lower : ByteArray := prog_8_method_3_code
def yX6_lower : MethodName := ⟨RX6, "lower", "(I)I"⟩
abbrev cX6_isIn : ByteArray := prog_8_method_4_code
def yX6_isIn : MethodName := ⟨RX6, "isIn", "(III)Z"⟩
abbrev cX6_bound : ByteArray := prog_8_method_5_code
def yX6_bound : MethodName := ⟨RX6, "bound", "(III)I"⟩
abbrev cX6_isLayer : ByteArray := prog_8_method_6_code
def yX6_isLayer : MethodName := ⟨RX6, "isLayer", "(I)Z"⟩
abbrev cX6_leastOf : ByteArray := prog_8_method_7_code
def yX6_leastOf : MethodName := ⟨RX6, "leastOf", "(I)I"⟩
abbrev cX6_mostOf : ByteArray := prog_8_method_8_code
def yX6_mostOf : MethodName := ⟨RX6, "mostOf", "(I)I"⟩
abbrev cX6_letter : ByteArray := prog_8_method_9_code
def yX6_letter : MethodName := ⟨RX6, "letter", "(I)I"⟩
abbrev cX6_next : ByteArray := prog_8_method_10_code
def yX6_next : MethodName := ⟨RX6, "next", "()I"⟩
abbrev cX6_readsDigits : ByteArray := prog_8_method_11_code
def yX6_readsDigits : MethodName := ⟨RX6, "readsDigits", "(II)Z"⟩
abbrev cX6_layerOf : ByteArray := prog_8_method_12_code
def yX6_layerOf : MethodName := ⟨RX6, "layerOf", "(I)I"⟩
abbrev cX6_ruleOf : ByteArray := prog_8_method_13_code
def yX6_ruleOf : MethodName := ⟨RX6, "ruleOf", "(I)I"⟩
abbrev cX6_readsKind : ByteArray := prog_8_method_14_code
def yX6_readsKind : MethodName := ⟨RX6, "readsKind", "(II)Z"⟩
abbrev cX6_readsAll : ByteArray := prog_8_method_15_code
def yX6_readsAll : MethodName := ⟨RX6, "readsAll", "(II)Z"⟩
abbrev cX6_statement : ByteArray := prog_8_method_16_code
def yX6_statement : MethodName := ⟨RX6, "statement", "()Z"⟩
abbrev cX6_comesLayer : ByteArray := prog_8_method_17_code
def yX6_comesLayer : MethodName := ⟨RX6, "comesLayer", "(I)Z"⟩
abbrev cX6_isBusy : ByteArray := prog_8_method_18_code
def yX6_isBusy : MethodName := ⟨RX6, "isBusy", "()Z"⟩
abbrev cX6_comesSet : ByteArray := prog_8_method_19_code
def yX6_comesSet : MethodName := ⟨RX6, "comesSet", "(II)Z"⟩
abbrev cX6_comes : ByteArray := prog_8_method_20_code
def yX6_comes : MethodName := ⟨RX6, "comes", "(I)Z"⟩
abbrev cX6_site : ByteArray := prog_8_method_21_code
def yX6_site : MethodName := ⟨RX6, "site", "()I"⟩
abbrev cX6_passes : ByteArray := prog_8_method_22_code
def yX6_passes : MethodName := ⟨RX6, "passes", "([I)V"⟩
abbrev cX6_passOne : ByteArray := prog_8_method_23_code
def yX6_passOne : MethodName := ⟨RX6, "passOne", "(I)I"⟩
abbrev cX6_passesAll : ByteArray := prog_8_method_24_code
def yX6_passesAll : MethodName := ⟨RX6, "passesAll", "(IZ)V"⟩
abbrev cX6_image : ByteArray := prog_8_method_25_code
def yX6_image : MethodName := ⟨RX6, "image", "()I"⟩
abbrev cX6_on : ByteArray := prog_8_method_26_code
def yX6_on : MethodName := ⟨RX6, "on", "()I"⟩
abbrev cX6_bricksOf : ByteArray := prog_8_method_27_code
def yX6_bricksOf : MethodName := ⟨RX6, "bricksOf", "(I)I"⟩
abbrev cX6_unitsOf : ByteArray := prog_8_method_28_code
def yX6_unitsOf : MethodName := ⟨RX6, "unitsOf", "(I)I"⟩
abbrev cX6_wouldLay : ByteArray := prog_8_method_29_code
def yX6_wouldLay : MethodName := ⟨RX6, "wouldLay", "(I)I"⟩
abbrev cX6_lesser : ByteArray := prog_8_method_30_code
def yX6_lesser : MethodName := ⟨RX6, "lesser", "(II)I"⟩
abbrev cX6_lays : ByteArray := prog_8_method_31_code
def yX6_lays : MethodName := ⟨RX6, "lays", "(I)I"⟩
abbrev cX6_isWanting : ByteArray := prog_8_method_32_code
def yX6_isWanting : MethodName := ⟨RX6, "isWanting", "(I)Z"⟩
abbrev cX6_emptyBy : ByteArray := prog_8_method_33_code
def yX6_emptyBy : MethodName := ⟨RX6, "emptyBy", "(I)I"⟩
abbrev cX6_lastsBy : ByteArray := prog_8_method_34_code
def yX6_lastsBy : MethodName := ⟨RX6, "lastsBy", "(I)I"⟩
abbrev cX6_keyOf : ByteArray := prog_8_method_35_code
def yX6_keyOf : MethodName := ⟨RX6, "keyOf", "(I)I"⟩
abbrev cX6_served : ByteArray := prog_8_method_36_code
def yX6_served : MethodName := ⟨RX6, "served", "()I"⟩
abbrev cX6_keyBy : ByteArray := prog_8_method_37_code
def yX6_keyBy : MethodName := ⟨RX6, "keyBy", "(I)I"⟩
abbrev cX6_begins : ByteArray := prog_8_method_38_code
def yX6_begins : MethodName := ⟨RX6, "begins", "(III)V"⟩
abbrev cX6_tells : ByteArray := prog_8_method_39_code
def yX6_tells : MethodName := ⟨RX6, "tells", "(I)V"⟩
abbrev cX6_starts : ByteArray := prog_8_method_40_code
def yX6_starts : MethodName := ⟨RX6, "starts", "(I)V"⟩
abbrev cX6_heldBy : ByteArray := prog_8_method_41_code
def yX6_heldBy : MethodName := ⟨RX6, "heldBy", "(II)I"⟩
abbrev cX6_comesThere : ByteArray := prog_8_method_42_code
def yX6_comesThere : MethodName := ⟨RX6, "comesThere", "(I)V"⟩
abbrev cX6_ends : ByteArray := prog_8_method_43_code
def yX6_ends : MethodName := ⟨RX6, "ends", "(I)V"⟩
abbrev cX6_layerGoes : ByteArray := prog_8_method_44_code
def yX6_layerGoes : MethodName := ⟨RX6, "layerGoes", "(I)V"⟩
abbrev cX6_goes : ByteArray := prog_8_method_45_code
def yX6_goes : MethodName := ⟨RX6, "goes", "()V"⟩
abbrev cX6_stoodAll : ByteArray := prog_8_method_46_code
def yX6_stoodAll : MethodName := ⟨RX6, "stoodAll", "()I"⟩
abbrev cX6_clearsCounts : ByteArray := prog_8_method_47_code
def yX6_clearsCounts : MethodName := ⟨RX6, "clearsCounts", "()V"⟩
abbrev cX6_goesMinutes : ByteArray := prog_8_method_48_code
def yX6_goesMinutes : MethodName := ⟨RX6, "goesMinutes", "(I)V"⟩
abbrev cX6_goesBy : ByteArray := prog_8_method_49_code
def yX6_goesBy : MethodName := ⟨RX6, "goesBy", "(I)V"⟩
abbrev cX6_allMuck : ByteArray := prog_8_method_50_code
def yX6_allMuck : MethodName := ⟨RX6, "allMuck", "()I"⟩
abbrev cX6_minds : ByteArray := prog_8_method_51_code
def yX6_minds : MethodName := ⟨RX6, "minds", "(I)V"⟩
abbrev cX6_layer : ByteArray := prog_8_method_52_code
def yX6_layer : MethodName := ⟨RX6, "layer", "(II)I"⟩
abbrev cX6_put : ByteArray := prog_8_method_53_code
def yX6_put : MethodName := ⟨RX6, "put", "(III)I"⟩
abbrev cX6_set : ByteArray := prog_8_method_54_code
def yX6_set : MethodName := ⟨RX6, "set", "(II)I"⟩
abbrev cX6_go : ByteArray := prog_8_method_55_code
def yX6_go : MethodName := ⟨RX6, "go", "(I)I"⟩
abbrev cX6_mates : ByteArray := prog_8_method_56_code
def yX6_mates : MethodName := ⟨RX6, "mates", "(II)I"⟩
abbrev cX6_total : ByteArray := prog_8_method_57_code
def yX6_total : MethodName := ⟨RX6, "total", "(II)I"⟩
abbrev cX6_stood : ByteArray := prog_8_method_58_code
def yX6_stood : MethodName := ⟨RX6, "stood", "(II)I"⟩
abbrev cX6_left : ByteArray := prog_8_method_59_code
def yX6_left : MethodName := ⟨RX6, "left", "(III)I"⟩
abbrev cX6_bestRule : ByteArray := prog_8_method_60_code
def yX6_bestRule : MethodName := ⟨RX6, "bestRule", "(I)I"⟩
abbrev cX6_laidWith : ByteArray := prog_8_method_61_code
def yX6_laidWith : MethodName := ⟨RX6, "laidWith", "(III)I"⟩
abbrev cX6_bestHod : ByteArray := prog_8_method_62_code
def yX6_bestHod : MethodName := ⟨RX6, "bestHod", "(I)I"⟩
abbrev cX6_bestBatch : ByteArray := prog_8_method_63_code
def yX6_bestBatch : MethodName := ⟨RX6, "bestBatch", "(I)I"⟩
abbrev cX6_laidIn : ByteArray := prog_8_method_64_code
def yX6_laidIn : MethodName := ⟨RX6, "laidIn", "(I)I"⟩
abbrev cX6_mate : ByteArray := prog_8_method_65_code
def yX6_mate : MethodName := ⟨RX6, "mate", "(I)I"⟩
abbrev cX6_hoist : ByteArray := prog_8_method_66_code
def yX6_hoist : MethodName := ⟨RX6, "hoist", "(I)I"⟩
abbrev cX6_ahead : ByteArray := prog_8_method_67_code
def yX6_ahead : MethodName := ⟨RX6, "ahead", "(II)I"⟩
abbrev cX6_inStep : ByteArray := prog_8_method_68_code
def yX6_inStep : MethodName := ⟨RX6, "inStep", "(I)I"⟩
abbrev cX6_standsOf : ByteArray := prog_8_method_69_code
def yX6_standsOf : MethodName := ⟨RX6, "standsOf", "(II)I"⟩
abbrev cX6_keeps : ByteArray := prog_8_method_70_code
def yX6_keeps : MethodName := ⟨RX6, "keeps", "(I)I"⟩
abbrev cX6_emptyFirst : ByteArray := prog_8_method_71_code
def yX6_emptyFirst : MethodName := ⟨RX6, "emptyFirst", "(I)I"⟩
abbrev cX6_laidDry : ByteArray := prog_8_method_72_code
def yX6_laidDry : MethodName := ⟨RX6, "laidDry", "(II)I"⟩
abbrev cX6_tea : ByteArray := prog_8_method_73_code
def yX6_tea : MethodName := ⟨RX6, "tea", "(II)I"⟩
abbrev cX6_fault : ByteArray := prog_8_method_74_code
def yX6_fault : MethodName := ⟨RX6, "fault", "(III)I"⟩
abbrev cX6_watered : ByteArray := prog_8_method_75_code
def yX6_watered : MethodName := ⟨RX6, "watered", "(III)I"⟩
abbrev cX6_badly : ByteArray := prog_8_method_76_code
def yX6_badly : MethodName := ⟨RX6, "badly", "()I"⟩
abbrev cX6_row : ByteArray := prog_8_method_77_code
def yX6_row : MethodName := ⟨RX6, "row", "(I)I"⟩
abbrev cX6_judge : ByteArray := prog_8_method_78_code
def yX6_judge : MethodName := ⟨RX6, "judge", "()I"⟩
abbrev cX6_draw : ByteArray := prog_8_method_79_code
def yX6_draw : MethodName := ⟨RX6, "draw", "(I)I"⟩
abbrev cX6_lots : ByteArray := prog_8_method_80_code
def yX6_lots : MethodName := ⟨RX6, "lots", "(II)I"⟩
abbrev cX6_count : ByteArray := prog_8_method_81_code
def yX6_count : MethodName := ⟨RX6, "count", "(I)I"⟩
def RJ11 : String := "java/lang/Character"
def TJ11 : u_T := fun k => match k with
  | _ => ("", "", "", false)
def tyJ11 : Nat → FieldType := fun k => match k with
  | _ => .int
theorem nmJ11 : ∀ a, a < 0 → ∀ b, b < 0 → a ≠ b → (TJ11 a).2.1 ≠ (TJ11 b).2.1 := by decide +kernel
theorem tyJ11_ok : ∀ k, k < 0 → parseFieldDescriptor (TJ11 k).2.2.1 = some (tyJ11 k) := by decide +kernel
abbrev cJ11_isValidCodePoint_9a6ad : ByteArray := prog_9_method_11_code
def yJ11_isValidCodePoint_9a6ad : MethodName := ⟨RJ11, "isValidCodePoint", "(I)Z"⟩
abbrev cJ11_highSurrogate_5068e : ByteArray := prog_9_method_28_code
def yJ11_highSurrogate_5068e : MethodName := ⟨RJ11, "highSurrogate", "(I)C"⟩
abbrev cJ11_lowSurrogate_5068e : ByteArray := prog_9_method_29_code
def yJ11_lowSurrogate_5068e : MethodName := ⟨RJ11, "lowSurrogate", "(I)C"⟩
def RJ9 : String := "java/lang/Math"
def TJ9 : u_T := fun k => match k with
  | _ => ("", "", "", false)
def tyJ9 : Nat → FieldType := fun k => match k with
  | _ => .int
theorem nmJ9 : ∀ a, a < 0 → ∀ b, b < 0 → a ≠ b → (TJ9 a).2.1 ≠ (TJ9 b).2.1 := by decide +kernel
theorem tyJ9_ok : ∀ k, k < 0 → parseFieldDescriptor (TJ9 k).2.2.1 = some (tyJ9 k) := by decide +kernel
abbrev cJ9_max_7cf53 : ByteArray := prog_10_method_65_code
def yJ9_max_7cf53 : MethodName := ⟨RJ9, "max", "(II)I"⟩
abbrev cJ9_min_7cf53 : ByteArray := prog_10_method_69_code
def yJ9_min_7cf53 : MethodName := ⟨RJ9, "min", "(II)I"⟩
def RJ0 : String := "java/lang/String"
def TJ0 : u_T := fun k => match k with
  | _ => ("", "", "", false)
def tyJ0 : Nat → FieldType := fun k => match k with
  | _ => .int
theorem nmJ0 : ∀ a, a < 0 → ∀ b, b < 0 → a ≠ b → (TJ0 a).2.1 ≠ (TJ0 b).2.1 := by decide +kernel
theorem tyJ0_ok : ∀ k, k < 0 → parseFieldDescriptor (TJ0 k).2.2.1 = some (tyJ0 k) := by decide +kernel
abbrev cJ0_length_8abf5 : ByteArray := prog_11_method_54_code
def yJ0_length_8abf5 : MethodName := ⟨RJ0, "length", "()I"⟩
abbrev cJ0_indexOf_0f7a4 : ByteArray := prog_11_method_79_code
def yJ0_indexOf_0f7a4 : MethodName := ⟨RJ0, "indexOf", "(I)I"⟩
abbrev cJ0_indexOf_7cf53 : ByteArray := prog_11_method_80_code
def yJ0_indexOf_7cf53 : MethodName := ⟨RJ0, "indexOf", "(II)I"⟩
abbrev cJ0_coder_7d493 : ByteArray := prog_11_method_152_code
def yJ0_coder_7d493 : MethodName := ⟨RJ0, "coder", "()B"⟩
abbrev cJ0_isLatin1_aae02 : ByteArray := prog_11_method_154_code
def yJ0_isLatin1_aae02 : MethodName := ⟨RJ0, "isLatin1", "()Z"⟩
abbrev cJ0_checkBoundsBeginEnd_23922 : ByteArray := prog_11_method_158_code
def yJ0_checkBoundsBeginEnd_23922 : MethodName := ⟨RJ0, "checkBoundsBeginEnd", "(III)V"⟩
def RJ1 : String := "java/lang/StringLatin1"
def TJ1 : u_T := fun k => match k with
  | _ => ("", "", "", false)
def tyJ1 : Nat → FieldType := fun k => match k with
  | _ => .int
theorem nmJ1 : ∀ a, a < 0 → ∀ b, b < 0 → a ≠ b → (TJ1 a).2.1 ≠ (TJ1 b).2.1 := by decide +kernel
theorem tyJ1_ok : ∀ k, k < 0 → parseFieldDescriptor (TJ1 k).2.2.1 = some (tyJ1 k) := by decide +kernel
abbrev cJ1_canEncode_9a6ad : ByteArray := prog_12_method_4_code
def yJ1_canEncode_9a6ad : MethodName := ⟨RJ1, "canEncode", "(I)Z"⟩
abbrev cJ1_indexOf_4cfef : ByteArray := prog_12_method_22_code
def yJ1_indexOf_4cfef : MethodName := ⟨RJ1, "indexOf", "([BIII)I"⟩
abbrev cJ1_indexOfChar_4cfef : ByteArray := prog_12_method_23_code
def yJ1_indexOfChar_4cfef : MethodName := ⟨RJ1, "indexOfChar", "([BIII)I"⟩
def RJ2 : String := "java/lang/StringUTF16"
def TJ2 : u_T := fun k => match k with
  | _ => ("", "", "", false)
def tyJ2 : Nat → FieldType := fun k => match k with
  | _ => .int
theorem nmJ2 : ∀ a, a < 0 → ∀ b, b < 0 → a ≠ b → (TJ2 a).2.1 ≠ (TJ2 b).2.1 := by decide +kernel
theorem tyJ2_ok : ∀ k, k < 0 → parseFieldDescriptor (TJ2 k).2.2.1 = some (tyJ2 k) := by decide +kernel
abbrev cJ2_getChar_3b067 : ByteArray := prog_13_method_5_code
def yJ2_getChar_3b067 : MethodName := ⟨RJ2, "getChar", "([BI)C"⟩
abbrev cJ2_length_9d52b : ByteArray := prog_13_method_6_code
def yJ2_length_9d52b : MethodName := ⟨RJ2, "length", "([B)I"⟩
abbrev cJ2_indexOf_4cfef : ByteArray := prog_13_method_40_code
def yJ2_indexOf_4cfef : MethodName := ⟨RJ2, "indexOf", "([BIII)I"⟩
abbrev cJ2_indexOfChar_4cfef : ByteArray := prog_13_method_47_code
def yJ2_indexOfChar_4cfef : MethodName := ⟨RJ2, "indexOfChar", "([BIII)I"⟩
abbrev cJ2_indexOfCharUnsafe_4cfef : ByteArray := prog_13_method_48_code
def yJ2_indexOfCharUnsafe_4cfef : MethodName := ⟨RJ2, "indexOfCharUnsafe", "([BIII)I"⟩
abbrev cJ2_indexOfSupplementary_4cfef : ByteArray := prog_13_method_49_code
def yJ2_indexOfSupplementary_4cfef : MethodName := ⟨RJ2, "indexOfSupplementary", "([BIII)I"⟩
abbrev cJ2_checkBoundsBeginEnd_d044e : ByteArray := prog_13_method_93_code
def yJ2_checkBoundsBeginEnd_d044e : MethodName := ⟨RJ2, "checkBoundsBeginEnd", "(II[B)V"⟩
def RJ3 : String := "jdk/internal/util/Preconditions"
def TJ3 : u_T := fun k => match k with
  | _ => ("", "", "", false)
def tyJ3 : Nat → FieldType := fun k => match k with
  | _ => .int
theorem nmJ3 : ∀ a, a < 0 → ∀ b, b < 0 → a ≠ b → (TJ3 a).2.1 ≠ (TJ3 b).2.1 := by decide +kernel
theorem tyJ3_ok : ∀ k, k < 0 → parseFieldDescriptor (TJ3 k).2.2.1 = some (tyJ3 k) := by decide +kernel
abbrev cJ3_checkFromToIndex_8c36e : ByteArray := prog_14_method_12_code
def yJ3_checkFromToIndex_8c36e : MethodName := ⟨RJ3, "checkFromToIndex", "(IIILjava/util/function/BiFunction;)I"⟩
def RL : String := "MuckForFourLaw"
abbrev cL_law : ByteArray := code
end
