section
/-- a private method of a class that the tables say can be made, by its rows of tables_1 -/
def lw_okq (q : MethodName × Nat) : Prop := (q.1.cls ≠ "java/lang/invoke/MethodHandle" ∧ q.1.cls ≠ "java/lang/invoke/VarHandle") ∧ Cond.instantiable q.1.cls q.2 ∈ tables_1 ∧ Cond.privateMethod q.1 ∈ tables_1 ∧ Cond.instanceMethod q.1 ∈ tables_1
theorem lw_p0 : lw_okq (⟨"MuckForFour", "refuse", "(I)I"⟩, 8) := ⟨⟨by decide +kernel, by decide +kernel⟩, List.mem_of_getElem? (i := 15) (by decide +kernel), List.mem_of_getElem? (i := 260) (by decide +kernel), List.mem_of_getElem? (i := 261) (by decide +kernel)⟩
theorem lw_p1 : lw_okq (⟨"MuckForFour$Text", "fits", "(II)Z"⟩, 2) := ⟨⟨by decide +kernel, by decide +kernel⟩, List.mem_of_getElem? (i := 217) (by decide +kernel), List.mem_of_getElem? (i := 284) (by decide +kernel), List.mem_of_getElem? (i := 285) (by decide +kernel)⟩
theorem lw_p2 : lw_okq (⟨"MuckForFour", "statementComes", "(I)Z"⟩, 8) := ⟨⟨by decide +kernel, by decide +kernel⟩, List.mem_of_getElem? (i := 15) (by decide +kernel), List.mem_of_getElem? (i := 388) (by decide +kernel), List.mem_of_getElem? (i := 389) (by decide +kernel)⟩
theorem lw_p3 : lw_okq (⟨"MuckForFour", "settingComes", "(II)Z"⟩, 8) := ⟨⟨by decide +kernel, by decide +kernel⟩, List.mem_of_getElem? (i := 15) (by decide +kernel), List.mem_of_getElem? (i := 420) (by decide +kernel), List.mem_of_getElem? (i := 421) (by decide +kernel)⟩
theorem lw_p4 : lw_okq (⟨"MuckForFour$Site", "choose", "()I"⟩, 16) := ⟨⟨by decide +kernel, by decide +kernel⟩, List.mem_of_getElem? (i := 23) (by decide +kernel), List.mem_of_getElem? (i := 446) (by decide +kernel), List.mem_of_getElem? (i := 447) (by decide +kernel)⟩
theorem lw_p5 : lw_okq (⟨"MuckForFour$Site", "needs", "(I)Z"⟩, 16) := ⟨⟨by decide +kernel, by decide +kernel⟩, List.mem_of_getElem? (i := 23) (by decide +kernel), List.mem_of_getElem? (i := 450) (by decide +kernel), List.mem_of_getElem? (i := 451) (by decide +kernel)⟩
theorem lw_p6 : lw_okq (⟨"MuckForFour$Site", "rank", "(I)I"⟩, 16) := ⟨⟨by decide +kernel, by decide +kernel⟩, List.mem_of_getElem? (i := 23) (by decide +kernel), List.mem_of_getElem? (i := 454) (by decide +kernel), List.mem_of_getElem? (i := 455) (by decide +kernel)⟩
theorem lw_p7 : lw_okq (⟨"MuckForFour$Site", "send", "(LMuckForFour$Mate;I)V"⟩, 16) := ⟨⟨by decide +kernel, by decide +kernel⟩, List.mem_of_getElem? (i := 23) (by decide +kernel), List.mem_of_getElem? (i := 463) (by decide +kernel), List.mem_of_getElem? (i := 464) (by decide +kernel)⟩
theorem lw_p8 : lw_okq (⟨"MuckForFour$Site", "allLay", "()V"⟩, 16) := ⟨⟨by decide +kernel, by decide +kernel⟩, List.mem_of_getElem? (i := 23) (by decide +kernel), List.mem_of_getElem? (i := 483) (by decide +kernel), List.mem_of_getElem? (i := 484) (by decide +kernel)⟩
theorem lw_p9 : lw_okq (⟨"MuckForFour$Site", "spendMinute", "(LMuckForFour$Mate;)V"⟩, 16) := ⟨⟨by decide +kernel, by decide +kernel⟩, List.mem_of_getElem? (i := 23) (by decide +kernel), List.mem_of_getElem? (i := 499) (by decide +kernel), List.mem_of_getElem? (i := 500) (by decide +kernel)⟩
theorem lw_p10 : lw_okq (⟨"MuckForFour$Site", "unload", "(LMuckForFour$Mate;)V"⟩, 16) := ⟨⟨by decide +kernel, by decide +kernel⟩, List.mem_of_getElem? (i := 23) (by decide +kernel), List.mem_of_getElem? (i := 503) (by decide +kernel), List.mem_of_getElem? (i := 504) (by decide +kernel)⟩
theorem lw_p11 : lw_okq (⟨"MuckForFour", "foresee", "(I)V"⟩, 8) := ⟨⟨by decide +kernel, by decide +kernel⟩, List.mem_of_getElem? (i := 15) (by decide +kernel), List.mem_of_getElem? (i := 548) (by decide +kernel), List.mem_of_getElem? (i := 549) (by decide +kernel)⟩
theorem lw_p12 : lw_okq (⟨"MuckForFour", "refusalOfLayerInMind", "(III)I"⟩, 8) := ⟨⟨by decide +kernel, by decide +kernel⟩, List.mem_of_getElem? (i := 15) (by decide +kernel), List.mem_of_getElem? (i := 564) (by decide +kernel), List.mem_of_getElem? (i := 565) (by decide +kernel)⟩
theorem lw_p13 : lw_okq (⟨"MuckForFour", "laidWith", "(III)I"⟩, 8) := ⟨⟨by decide +kernel, by decide +kernel⟩, List.mem_of_getElem? (i := 15) (by decide +kernel), List.mem_of_getElem? (i := 572) (by decide +kernel), List.mem_of_getElem? (i := 573) (by decide +kernel)⟩
theorem lw_p14 : lw_okq (⟨"MuckForFour", "bestSetting", "(III)I"⟩, 8) := ⟨⟨by decide +kernel, by decide +kernel⟩, List.mem_of_getElem? (i := 15) (by decide +kernel), List.mem_of_getElem? (i := 580) (by decide +kernel), List.mem_of_getElem? (i := 581) (by decide +kernel)⟩
theorem lw_p15 : lw_okq (⟨"MuckForFour", "laidAsItIs", "(I)I"⟩, 8) := ⟨⟨by decide +kernel, by decide +kernel⟩, List.mem_of_getElem? (i := 15) (by decide +kernel), List.mem_of_getElem? (i := 593) (by decide +kernel), List.mem_of_getElem? (i := 594) (by decide +kernel)⟩
def lw_privs_1 : List (MethodName × Nat) := [(⟨"MuckForFour", "refuse", "(I)I"⟩, 8), (⟨"MuckForFour$Text", "fits", "(II)Z"⟩, 2), (⟨"MuckForFour", "statementComes", "(I)Z"⟩, 8), (⟨"MuckForFour", "settingComes", "(II)Z"⟩, 8), (⟨"MuckForFour$Site", "choose", "()I"⟩, 16), (⟨"MuckForFour$Site", "needs", "(I)Z"⟩, 16), (⟨"MuckForFour$Site", "rank", "(I)I"⟩, 16), (⟨"MuckForFour$Site", "send", "(LMuckForFour$Mate;I)V"⟩, 16), (⟨"MuckForFour$Site", "allLay", "()V"⟩, 16), (⟨"MuckForFour$Site", "spendMinute", "(LMuckForFour$Mate;)V"⟩, 16), (⟨"MuckForFour$Site", "unload", "(LMuckForFour$Mate;)V"⟩, 16), (⟨"MuckForFour", "foresee", "(I)V"⟩, 8), (⟨"MuckForFour", "refusalOfLayerInMind", "(III)I"⟩, 8), (⟨"MuckForFour", "laidWith", "(III)I"⟩, 8), (⟨"MuckForFour", "bestSetting", "(III)I"⟩, 8), (⟨"MuckForFour", "laidAsItIs", "(I)I"⟩, 8)]
theorem lw_r1 : ∀ q ∈ lw_privs_1, lw_okq q := List.forall_mem_cons.mpr ⟨lw_p0, List.forall_mem_cons.mpr ⟨lw_p1, List.forall_mem_cons.mpr ⟨lw_p2, List.forall_mem_cons.mpr ⟨lw_p3, List.forall_mem_cons.mpr ⟨lw_p4, List.forall_mem_cons.mpr ⟨lw_p5, List.forall_mem_cons.mpr ⟨lw_p6, List.forall_mem_cons.mpr ⟨lw_p7, List.forall_mem_cons.mpr ⟨lw_p8, List.forall_mem_cons.mpr ⟨lw_p9, List.forall_mem_cons.mpr ⟨lw_p10, List.forall_mem_cons.mpr ⟨lw_p11, List.forall_mem_cons.mpr ⟨lw_p12, List.forall_mem_cons.mpr ⟨lw_p13, List.forall_mem_cons.mpr ⟨lw_p14, List.forall_mem_cons.mpr ⟨lw_p15, fun _ h => absurd h List.not_mem_nil⟩⟩⟩⟩⟩⟩⟩⟩⟩⟩⟩⟩⟩⟩⟩⟩
theorem lw_p16 : lw_okq (⟨"MuckForFour", "passWithMixing", "(II)V"⟩, 8) := ⟨⟨by decide +kernel, by decide +kernel⟩, List.mem_of_getElem? (i := 15) (by decide +kernel), List.mem_of_getElem? (i := 629) (by decide +kernel), List.mem_of_getElem? (i := 630) (by decide +kernel)⟩
theorem lw_p17 : lw_okq (⟨"MuckForFour", "rowFitsUnits", "(I)Z"⟩, 8) := ⟨⟨by decide +kernel, by decide +kernel⟩, List.mem_of_getElem? (i := 15) (by decide +kernel), List.mem_of_getElem? (i := 646) (by decide +kernel), List.mem_of_getElem? (i := 647) (by decide +kernel)⟩
theorem lw_p18 : lw_okq (⟨"MuckForFourModel", "no", "(I)I"⟩, 44) := ⟨⟨by decide +kernel, by decide +kernel⟩, List.mem_of_getElem? (i := 683) (by decide +kernel), List.mem_of_getElem? (i := 830) (by decide +kernel), List.mem_of_getElem? (i := 831) (by decide +kernel)⟩
theorem lw_p19 : lw_okq (⟨"MuckForFourModel", "statement", "()Z"⟩, 44) := ⟨⟨by decide +kernel, by decide +kernel⟩, List.mem_of_getElem? (i := 683) (by decide +kernel), List.mem_of_getElem? (i := 838) (by decide +kernel), List.mem_of_getElem? (i := 839) (by decide +kernel)⟩
theorem lw_p20 : lw_okq (⟨"MuckForFourModel", "next", "()I"⟩, 44) := ⟨⟨by decide +kernel, by decide +kernel⟩, List.mem_of_getElem? (i := 683) (by decide +kernel), List.mem_of_getElem? (i := 842) (by decide +kernel), List.mem_of_getElem? (i := 843) (by decide +kernel)⟩
theorem lw_p21 : lw_okq (⟨"MuckForFourModel", "readsAll", "(II)Z"⟩, 44) := ⟨⟨by decide +kernel, by decide +kernel⟩, List.mem_of_getElem? (i := 683) (by decide +kernel), List.mem_of_getElem? (i := 846) (by decide +kernel), List.mem_of_getElem? (i := 847) (by decide +kernel)⟩
theorem lw_p22 : lw_okq (⟨"MuckForFourModel", "readsKind", "(II)Z"⟩, 44) := ⟨⟨by decide +kernel, by decide +kernel⟩, List.mem_of_getElem? (i := 683) (by decide +kernel), List.mem_of_getElem? (i := 853) (by decide +kernel), List.mem_of_getElem? (i := 854) (by decide +kernel)⟩
theorem lw_p23 : lw_okq (⟨"MuckForFourModel", "readsDigits", "(II)Z"⟩, 44) := ⟨⟨by decide +kernel, by decide +kernel⟩, List.mem_of_getElem? (i := 683) (by decide +kernel), List.mem_of_getElem? (i := 857) (by decide +kernel), List.mem_of_getElem? (i := 858) (by decide +kernel)⟩
theorem lw_p24 : lw_okq (⟨"MuckForFourModel", "passesAll", "(IZ)V"⟩, 44) := ⟨⟨by decide +kernel, by decide +kernel⟩, List.mem_of_getElem? (i := 683) (by decide +kernel), List.mem_of_getElem? (i := 867) (by decide +kernel), List.mem_of_getElem? (i := 868) (by decide +kernel)⟩
theorem lw_p25 : lw_okq (⟨"MuckForFourModel", "passes", "([I)V"⟩, 44) := ⟨⟨by decide +kernel, by decide +kernel⟩, List.mem_of_getElem? (i := 683) (by decide +kernel), List.mem_of_getElem? (i := 871) (by decide +kernel), List.mem_of_getElem? (i := 872) (by decide +kernel)⟩
theorem lw_p26 : lw_okq (⟨"MuckForFourModel", "passOne", "(I)I"⟩, 44) := ⟨⟨by decide +kernel, by decide +kernel⟩, List.mem_of_getElem? (i := 683) (by decide +kernel), List.mem_of_getElem? (i := 875) (by decide +kernel), List.mem_of_getElem? (i := 876) (by decide +kernel)⟩
theorem lw_p27 : lw_okq (⟨"MuckForFourModel", "comes", "(I)Z"⟩, 44) := ⟨⟨by decide +kernel, by decide +kernel⟩, List.mem_of_getElem? (i := 683) (by decide +kernel), List.mem_of_getElem? (i := 879) (by decide +kernel), List.mem_of_getElem? (i := 880) (by decide +kernel)⟩
theorem lw_p28 : lw_okq (⟨"MuckForFourModel", "comesLayer", "(I)Z"⟩, 44) := ⟨⟨by decide +kernel, by decide +kernel⟩, List.mem_of_getElem? (i := 683) (by decide +kernel), List.mem_of_getElem? (i := 883) (by decide +kernel), List.mem_of_getElem? (i := 884) (by decide +kernel)⟩
theorem lw_p29 : lw_okq (⟨"MuckForFourModel", "comesSet", "(II)Z"⟩, 44) := ⟨⟨by decide +kernel, by decide +kernel⟩, List.mem_of_getElem? (i := 683) (by decide +kernel), List.mem_of_getElem? (i := 887) (by decide +kernel), List.mem_of_getElem? (i := 888) (by decide +kernel)⟩
theorem lw_p30 : lw_okq (⟨"MuckForFourModel", "isBusy", "()Z"⟩, 44) := ⟨⟨by decide +kernel, by decide +kernel⟩, List.mem_of_getElem? (i := 683) (by decide +kernel), List.mem_of_getElem? (i := 897) (by decide +kernel), List.mem_of_getElem? (i := 898) (by decide +kernel)⟩
theorem lw_p31 : lw_okq (⟨"MuckForFourModel", "goesBy", "(I)V"⟩, 44) := ⟨⟨by decide +kernel, by decide +kernel⟩, List.mem_of_getElem? (i := 683) (by decide +kernel), List.mem_of_getElem? (i := 901) (by decide +kernel), List.mem_of_getElem? (i := 902) (by decide +kernel)⟩
def lw_privs_2 : List (MethodName × Nat) := [(⟨"MuckForFour", "passWithMixing", "(II)V"⟩, 8), (⟨"MuckForFour", "rowFitsUnits", "(I)Z"⟩, 8), (⟨"MuckForFourModel", "no", "(I)I"⟩, 44), (⟨"MuckForFourModel", "statement", "()Z"⟩, 44), (⟨"MuckForFourModel", "next", "()I"⟩, 44), (⟨"MuckForFourModel", "readsAll", "(II)Z"⟩, 44), (⟨"MuckForFourModel", "readsKind", "(II)Z"⟩, 44), (⟨"MuckForFourModel", "readsDigits", "(II)Z"⟩, 44), (⟨"MuckForFourModel", "passesAll", "(IZ)V"⟩, 44), (⟨"MuckForFourModel", "passes", "([I)V"⟩, 44), (⟨"MuckForFourModel", "passOne", "(I)I"⟩, 44), (⟨"MuckForFourModel", "comes", "(I)Z"⟩, 44), (⟨"MuckForFourModel", "comesLayer", "(I)Z"⟩, 44), (⟨"MuckForFourModel", "comesSet", "(II)Z"⟩, 44), (⟨"MuckForFourModel", "isBusy", "()Z"⟩, 44), (⟨"MuckForFourModel", "goesBy", "(I)V"⟩, 44)]
theorem lw_r2 : ∀ q ∈ lw_privs_2, lw_okq q := List.forall_mem_cons.mpr ⟨lw_p16, List.forall_mem_cons.mpr ⟨lw_p17, List.forall_mem_cons.mpr ⟨lw_p18, List.forall_mem_cons.mpr ⟨lw_p19, List.forall_mem_cons.mpr ⟨lw_p20, List.forall_mem_cons.mpr ⟨lw_p21, List.forall_mem_cons.mpr ⟨lw_p22, List.forall_mem_cons.mpr ⟨lw_p23, List.forall_mem_cons.mpr ⟨lw_p24, List.forall_mem_cons.mpr ⟨lw_p25, List.forall_mem_cons.mpr ⟨lw_p26, List.forall_mem_cons.mpr ⟨lw_p27, List.forall_mem_cons.mpr ⟨lw_p28, List.forall_mem_cons.mpr ⟨lw_p29, List.forall_mem_cons.mpr ⟨lw_p30, List.forall_mem_cons.mpr ⟨lw_p31, fun _ h => absurd h List.not_mem_nil⟩⟩⟩⟩⟩⟩⟩⟩⟩⟩⟩⟩⟩⟩⟩⟩
theorem lw_p32 : lw_okq (⟨"MuckForFourModel", "goesMinutes", "(I)V"⟩, 44) := ⟨⟨by decide +kernel, by decide +kernel⟩, List.mem_of_getElem? (i := 683) (by decide +kernel), List.mem_of_getElem? (i := 905) (by decide +kernel), List.mem_of_getElem? (i := 906) (by decide +kernel)⟩
theorem lw_p33 : lw_okq (⟨"MuckForFourModel", "clearsCounts", "()V"⟩, 44) := ⟨⟨by decide +kernel, by decide +kernel⟩, List.mem_of_getElem? (i := 683) (by decide +kernel), List.mem_of_getElem? (i := 909) (by decide +kernel), List.mem_of_getElem? (i := 910) (by decide +kernel)⟩
theorem lw_p34 : lw_okq (⟨"MuckForFourModel", "goes", "()V"⟩, 44) := ⟨⟨by decide +kernel, by decide +kernel⟩, List.mem_of_getElem? (i := 683) (by decide +kernel), List.mem_of_getElem? (i := 913) (by decide +kernel), List.mem_of_getElem? (i := 914) (by decide +kernel)⟩
theorem lw_p35 : lw_okq (⟨"MuckForFourModel", "stoodAll", "()I"⟩, 44) := ⟨⟨by decide +kernel, by decide +kernel⟩, List.mem_of_getElem? (i := 683) (by decide +kernel), List.mem_of_getElem? (i := 917) (by decide +kernel), List.mem_of_getElem? (i := 918) (by decide +kernel)⟩
theorem lw_p36 : lw_okq (⟨"MuckForFourModel", "starts", "(I)V"⟩, 44) := ⟨⟨by decide +kernel, by decide +kernel⟩, List.mem_of_getElem? (i := 683) (by decide +kernel), List.mem_of_getElem? (i := 921) (by decide +kernel), List.mem_of_getElem? (i := 922) (by decide +kernel)⟩
theorem lw_p37 : lw_okq (⟨"MuckForFourModel", "served", "()I"⟩, 44) := ⟨⟨by decide +kernel, by decide +kernel⟩, List.mem_of_getElem? (i := 683) (by decide +kernel), List.mem_of_getElem? (i := 925) (by decide +kernel), List.mem_of_getElem? (i := 926) (by decide +kernel)⟩
theorem lw_p38 : lw_okq (⟨"MuckForFourModel", "isWanting", "(I)Z"⟩, 44) := ⟨⟨by decide +kernel, by decide +kernel⟩, List.mem_of_getElem? (i := 683) (by decide +kernel), List.mem_of_getElem? (i := 929) (by decide +kernel), List.mem_of_getElem? (i := 930) (by decide +kernel)⟩
theorem lw_p39 : lw_okq (⟨"MuckForFourModel", "keyBy", "(I)I"⟩, 44) := ⟨⟨by decide +kernel, by decide +kernel⟩, List.mem_of_getElem? (i := 683) (by decide +kernel), List.mem_of_getElem? (i := 933) (by decide +kernel), List.mem_of_getElem? (i := 934) (by decide +kernel)⟩
theorem lw_p40 : lw_okq (⟨"MuckForFourModel", "keyOf", "(I)I"⟩, 44) := ⟨⟨by decide +kernel, by decide +kernel⟩, List.mem_of_getElem? (i := 683) (by decide +kernel), List.mem_of_getElem? (i := 937) (by decide +kernel), List.mem_of_getElem? (i := 938) (by decide +kernel)⟩
theorem lw_p41 : lw_okq (⟨"MuckForFourModel", "emptyBy", "(I)I"⟩, 44) := ⟨⟨by decide +kernel, by decide +kernel⟩, List.mem_of_getElem? (i := 683) (by decide +kernel), List.mem_of_getElem? (i := 941) (by decide +kernel), List.mem_of_getElem? (i := 942) (by decide +kernel)⟩
theorem lw_p42 : lw_okq (⟨"MuckForFourModel", "lastsBy", "(I)I"⟩, 44) := ⟨⟨by decide +kernel, by decide +kernel⟩, List.mem_of_getElem? (i := 683) (by decide +kernel), List.mem_of_getElem? (i := 948) (by decide +kernel), List.mem_of_getElem? (i := 949) (by decide +kernel)⟩
theorem lw_p43 : lw_okq (⟨"MuckForFourModel", "bricksOf", "(I)I"⟩, 44) := ⟨⟨by decide +kernel, by decide +kernel⟩, List.mem_of_getElem? (i := 683) (by decide +kernel), List.mem_of_getElem? (i := 952) (by decide +kernel), List.mem_of_getElem? (i := 953) (by decide +kernel)⟩
theorem lw_p44 : lw_okq (⟨"MuckForFourModel", "begins", "(III)V"⟩, 44) := ⟨⟨by decide +kernel, by decide +kernel⟩, List.mem_of_getElem? (i := 683) (by decide +kernel), List.mem_of_getElem? (i := 959) (by decide +kernel), List.mem_of_getElem? (i := 960) (by decide +kernel)⟩
theorem lw_p45 : lw_okq (⟨"MuckForFourModel", "tells", "(I)V"⟩, 44) := ⟨⟨by decide +kernel, by decide +kernel⟩, List.mem_of_getElem? (i := 683) (by decide +kernel), List.mem_of_getElem? (i := 963) (by decide +kernel), List.mem_of_getElem? (i := 964) (by decide +kernel)⟩
theorem lw_p46 : lw_okq (⟨"MuckForFourModel", "layerGoes", "(I)V"⟩, 44) := ⟨⟨by decide +kernel, by decide +kernel⟩, List.mem_of_getElem? (i := 683) (by decide +kernel), List.mem_of_getElem? (i := 967) (by decide +kernel), List.mem_of_getElem? (i := 968) (by decide +kernel)⟩
theorem lw_p47 : lw_okq (⟨"MuckForFourModel", "wouldLay", "(I)I"⟩, 44) := ⟨⟨by decide +kernel, by decide +kernel⟩, List.mem_of_getElem? (i := 683) (by decide +kernel), List.mem_of_getElem? (i := 971) (by decide +kernel), List.mem_of_getElem? (i := 972) (by decide +kernel)⟩
def lw_privs_3 : List (MethodName × Nat) := [(⟨"MuckForFourModel", "goesMinutes", "(I)V"⟩, 44), (⟨"MuckForFourModel", "clearsCounts", "()V"⟩, 44), (⟨"MuckForFourModel", "goes", "()V"⟩, 44), (⟨"MuckForFourModel", "stoodAll", "()I"⟩, 44), (⟨"MuckForFourModel", "starts", "(I)V"⟩, 44), (⟨"MuckForFourModel", "served", "()I"⟩, 44), (⟨"MuckForFourModel", "isWanting", "(I)Z"⟩, 44), (⟨"MuckForFourModel", "keyBy", "(I)I"⟩, 44), (⟨"MuckForFourModel", "keyOf", "(I)I"⟩, 44), (⟨"MuckForFourModel", "emptyBy", "(I)I"⟩, 44), (⟨"MuckForFourModel", "lastsBy", "(I)I"⟩, 44), (⟨"MuckForFourModel", "bricksOf", "(I)I"⟩, 44), (⟨"MuckForFourModel", "begins", "(III)V"⟩, 44), (⟨"MuckForFourModel", "tells", "(I)V"⟩, 44), (⟨"MuckForFourModel", "layerGoes", "(I)V"⟩, 44), (⟨"MuckForFourModel", "wouldLay", "(I)I"⟩, 44)]
theorem lw_r3 : ∀ q ∈ lw_privs_3, lw_okq q := List.forall_mem_cons.mpr ⟨lw_p32, List.forall_mem_cons.mpr ⟨lw_p33, List.forall_mem_cons.mpr ⟨lw_p34, List.forall_mem_cons.mpr ⟨lw_p35, List.forall_mem_cons.mpr ⟨lw_p36, List.forall_mem_cons.mpr ⟨lw_p37, List.forall_mem_cons.mpr ⟨lw_p38, List.forall_mem_cons.mpr ⟨lw_p39, List.forall_mem_cons.mpr ⟨lw_p40, List.forall_mem_cons.mpr ⟨lw_p41, List.forall_mem_cons.mpr ⟨lw_p42, List.forall_mem_cons.mpr ⟨lw_p43, List.forall_mem_cons.mpr ⟨lw_p44, List.forall_mem_cons.mpr ⟨lw_p45, List.forall_mem_cons.mpr ⟨lw_p46, List.forall_mem_cons.mpr ⟨lw_p47, fun _ h => absurd h List.not_mem_nil⟩⟩⟩⟩⟩⟩⟩⟩⟩⟩⟩⟩⟩⟩⟩⟩
theorem lw_p48 : lw_okq (⟨"MuckForFourModel", "lays", "(I)I"⟩, 44) := ⟨⟨by decide +kernel, by decide +kernel⟩, List.mem_of_getElem? (i := 683) (by decide +kernel), List.mem_of_getElem? (i := 975) (by decide +kernel), List.mem_of_getElem? (i := 976) (by decide +kernel)⟩
theorem lw_p49 : lw_okq (⟨"MuckForFourModel", "ends", "(I)V"⟩, 44) := ⟨⟨by decide +kernel, by decide +kernel⟩, List.mem_of_getElem? (i := 683) (by decide +kernel), List.mem_of_getElem? (i := 979) (by decide +kernel), List.mem_of_getElem? (i := 980) (by decide +kernel)⟩
theorem lw_p50 : lw_okq (⟨"MuckForFourModel", "comesThere", "(I)V"⟩, 44) := ⟨⟨by decide +kernel, by decide +kernel⟩, List.mem_of_getElem? (i := 683) (by decide +kernel), List.mem_of_getElem? (i := 983) (by decide +kernel), List.mem_of_getElem? (i := 984) (by decide +kernel)⟩
theorem lw_p51 : lw_okq (⟨"MuckForFourModel", "heldBy", "(II)I"⟩, 44) := ⟨⟨by decide +kernel, by decide +kernel⟩, List.mem_of_getElem? (i := 683) (by decide +kernel), List.mem_of_getElem? (i := 987) (by decide +kernel), List.mem_of_getElem? (i := 988) (by decide +kernel)⟩
theorem lw_p52 : lw_okq (⟨"MuckForFourModel", "isLayer", "(I)Z"⟩, 44) := ⟨⟨by decide +kernel, by decide +kernel⟩, List.mem_of_getElem? (i := 683) (by decide +kernel), List.mem_of_getElem? (i := 1003) (by decide +kernel), List.mem_of_getElem? (i := 1004) (by decide +kernel)⟩
theorem lw_p53 : lw_okq (⟨"MuckForFourModel", "minds", "(I)V"⟩, 44) := ⟨⟨by decide +kernel, by decide +kernel⟩, List.mem_of_getElem? (i := 683) (by decide +kernel), List.mem_of_getElem? (i := 1027) (by decide +kernel), List.mem_of_getElem? (i := 1028) (by decide +kernel)⟩
theorem lw_p54 : lw_okq (⟨"MuckForFourModel", "allMuck", "()I"⟩, 44) := ⟨⟨by decide +kernel, by decide +kernel⟩, List.mem_of_getElem? (i := 683) (by decide +kernel), List.mem_of_getElem? (i := 1031) (by decide +kernel), List.mem_of_getElem? (i := 1032) (by decide +kernel)⟩
theorem lw_p55 : lw_okq (⟨"MuckForFourModel", "laidWith", "(III)I"⟩, 44) := ⟨⟨by decide +kernel, by decide +kernel⟩, List.mem_of_getElem? (i := 683) (by decide +kernel), List.mem_of_getElem? (i := 1051) (by decide +kernel), List.mem_of_getElem? (i := 1052) (by decide +kernel)⟩
theorem lw_p56 : lw_okq (⟨"MuckForFourModel", "lower", "(I)I"⟩, 44) := ⟨⟨by decide +kernel, by decide +kernel⟩, List.mem_of_getElem? (i := 683) (by decide +kernel), List.mem_of_getElem? (i := 1063) (by decide +kernel), List.mem_of_getElem? (i := 1064) (by decide +kernel)⟩
theorem lw_p57 : lw_okq (⟨"MuckForFourModel", "laidIn", "(I)I"⟩, 44) := ⟨⟨by decide +kernel, by decide +kernel⟩, List.mem_of_getElem? (i := 683) (by decide +kernel), List.mem_of_getElem? (i := 1068) (by decide +kernel), List.mem_of_getElem? (i := 1069) (by decide +kernel)⟩
theorem lw_p58 : lw_okq (⟨"MuckForFourModel", "standsOf", "(II)I"⟩, 44) := ⟨⟨by decide +kernel, by decide +kernel⟩, List.mem_of_getElem? (i := 683) (by decide +kernel), List.mem_of_getElem? (i := 1088) (by decide +kernel), List.mem_of_getElem? (i := 1089) (by decide +kernel)⟩
theorem lw_p59 : lw_okq (⟨"MuckForFourModel", "laidDry", "(II)I"⟩, 44) := ⟨⟨by decide +kernel, by decide +kernel⟩, List.mem_of_getElem? (i := 683) (by decide +kernel), List.mem_of_getElem? (i := 1100) (by decide +kernel), List.mem_of_getElem? (i := 1101) (by decide +kernel)⟩
theorem lw_p60 : lw_okq (⟨"MuckForFourModel", "draw", "(I)I"⟩, 44) := ⟨⟨by decide +kernel, by decide +kernel⟩, List.mem_of_getElem? (i := 683) (by decide +kernel), List.mem_of_getElem? (i := 1128) (by decide +kernel), List.mem_of_getElem? (i := 1129) (by decide +kernel)⟩
def lw_privs_4 : List (MethodName × Nat) := [(⟨"MuckForFourModel", "lays", "(I)I"⟩, 44), (⟨"MuckForFourModel", "ends", "(I)V"⟩, 44), (⟨"MuckForFourModel", "comesThere", "(I)V"⟩, 44), (⟨"MuckForFourModel", "heldBy", "(II)I"⟩, 44), (⟨"MuckForFourModel", "isLayer", "(I)Z"⟩, 44), (⟨"MuckForFourModel", "minds", "(I)V"⟩, 44), (⟨"MuckForFourModel", "allMuck", "()I"⟩, 44), (⟨"MuckForFourModel", "laidWith", "(III)I"⟩, 44), (⟨"MuckForFourModel", "lower", "(I)I"⟩, 44), (⟨"MuckForFourModel", "laidIn", "(I)I"⟩, 44), (⟨"MuckForFourModel", "standsOf", "(II)I"⟩, 44), (⟨"MuckForFourModel", "laidDry", "(II)I"⟩, 44), (⟨"MuckForFourModel", "draw", "(I)I"⟩, 44)]
theorem lw_r4 : ∀ q ∈ lw_privs_4, lw_okq q := List.forall_mem_cons.mpr ⟨lw_p48, List.forall_mem_cons.mpr ⟨lw_p49, List.forall_mem_cons.mpr ⟨lw_p50, List.forall_mem_cons.mpr ⟨lw_p51, List.forall_mem_cons.mpr ⟨lw_p52, List.forall_mem_cons.mpr ⟨lw_p53, List.forall_mem_cons.mpr ⟨lw_p54, List.forall_mem_cons.mpr ⟨lw_p55, List.forall_mem_cons.mpr ⟨lw_p56, List.forall_mem_cons.mpr ⟨lw_p57, List.forall_mem_cons.mpr ⟨lw_p58, List.forall_mem_cons.mpr ⟨lw_p59, List.forall_mem_cons.mpr ⟨lw_p60, fun _ h => absurd h List.not_mem_nil⟩⟩⟩⟩⟩⟩⟩⟩⟩⟩⟩⟩⟩
def lw_privs : List (MethodName × Nat) := lw_privs_1 ++ (lw_privs_2 ++ (lw_privs_3 ++ (lw_privs_4)))
def lw_tbl : List Cond := k2_sels lw_privs ++ tables_1
theorem lw_privs_ok : ∀ q ∈ lw_privs, lw_okq q := by
  show ∀ q ∈ lw_privs_1 ++ (lw_privs_2 ++ (lw_privs_3 ++ (lw_privs_4))), lw_okq q
  exact List.forall_mem_append.mpr ⟨lw_r1, List.forall_mem_append.mpr ⟨lw_r2, List.forall_mem_append.mpr ⟨lw_r3, lw_r4⟩⟩⟩
end
section
def RX0 : String := "MuckForFour$Layer"
def TX0 : u_T := fun k => match k with
  | 0 => ("MuckForFour$Layer", "kind", "I", false)
  | 1 => ("MuckForFour$Layer", "pace", "I", false)
  | 2 => ("MuckForFour$Layer", "usual", "I", false)
  | 3 => ("MuckForFour$Layer", "units", "I", false)
  | 4 => ("MuckForFour$Layer", "board", "I", false)
  | 5 => ("MuckForFour$Layer", "stack", "I", false)
  | 6 => ("MuckForFour$Layer", "stood", "I", false)
  | _ => ("MuckForFour$Layer", "stoodForMortar", "I", false)
def tyX0 : Nat → FieldType := fun k => match k with
  | 0 => .int
  | 1 => .int
  | 2 => .int
  | 3 => .int
  | 4 => .int
  | 5 => .int
  | 6 => .int
  | _ => .int
abbrev wsX00 : List Cond := u_ws RX0 TX0 8
theorem nmX0 : ∀ a, a < 8 → ∀ b, b < 8 → a ≠ b → (TX0 a).2.1 ≠ (TX0 b).2.1 := by decide +kernel
theorem tyX0_ok : ∀ k, k < 8 → parseFieldDescriptor (TX0 k).2.2.1 = some (tyX0 k) := by decide +kernel
abbrev cX0_init : ByteArray := prog_2_method_1_code
def yX0_init : MethodName := ⟨RX0, "<init>", "()V"⟩
abbrev cX0_become : ByteArray := prog_2_method_2_code
def yX0_become : MethodName := ⟨RX0, "become", "(LMuckForFour$Layer;)V"⟩
abbrev cX0_begin : ByteArray := prog_2_method_3_code
def yX0_begin : MethodName := ⟨RX0, "begin", "(IIII)V"⟩
abbrev cX0_usualOf : ByteArray := prog_2_method_4_code
def yX0_usualOf : MethodName := ⟨RX0, "usualOf", "(II)I"⟩
abbrev cX0_wants : ByteArray := prog_2_method_5_code
def yX0_wants : MethodName := ⟨RX0, "wants", "(I)I"⟩
abbrev cX0_lasts : ByteArray := prog_2_method_6_code
def yX0_lasts : MethodName := ⟨RX0, "lasts", "()I"⟩
abbrev cX0_lay : ByteArray := prog_2_method_7_code
def yX0_lay : MethodName := ⟨RX0, "lay", "(I)I"⟩
abbrev cX0_receiveMortar : ByteArray := prog_2_method_8_code
def yX0_receiveMortar : MethodName := ⟨RX0, "receiveMortar", "(I)I"⟩
abbrev cX0_receiveBricks : ByteArray := prog_2_method_9_code
def yX0_receiveBricks : MethodName := ⟨RX0, "receiveBricks", "(I)I"⟩
def RX1 : String := "MuckForFour$Mate"
def TX1 : u_T := fun k => match k with
  | 0 => ("MuckForFour$Mate", "doing", "I", false)
  | 1 => ("MuckForFour$Mate", "minutes", "I", false)
  | 2 => ("MuckForFour$Mate", "to", "I", false)
  | _ => ("MuckForFour$Mate", "hasMortar", "Z", false)
def tyX1 : Nat → FieldType := fun k => match k with
  | 0 => .int
  | 1 => .int
  | 2 => .int
  | _ => .boolean
abbrev wsX10 : List Cond := u_ws RX1 TX1 4
theorem nmX1 : ∀ a, a < 4 → ∀ b, b < 4 → a ≠ b → (TX1 a).2.1 ≠ (TX1 b).2.1 := by decide +kernel
theorem tyX1_ok : ∀ k, k < 4 → parseFieldDescriptor (TX1 k).2.2.1 = some (tyX1 k) := by decide +kernel
abbrev cX1_init : ByteArray := prog_3_method_1_code
def yX1_init : MethodName := ⟨RX1, "<init>", "()V"⟩
abbrev cX1_become : ByteArray := prog_3_method_2_code
def yX1_become : MethodName := ⟨RX1, "become", "(LMuckForFour$Mate;)V"⟩
abbrev cX1_begin : ByteArray := prog_3_method_3_code
def yX1_begin : MethodName := ⟨RX1, "begin", "(II)V"⟩
abbrev cX1_climb : ByteArray := prog_3_method_4_code
def yX1_climb : MethodName := ⟨RX1, "climb", "(IZI)V"⟩
def RX2 : String := "MuckForFour$Site"
def TX2 : u_T := fun k => match k with
  | 0 => ("MuckForFour$Site", "layers", "[LMuckForFour$Layer;", true)
  | 1 => ("MuckForFour$Site", "layerCount", "I", false)
  | 2 => ("MuckForFour$Site", "mates", "[LMuckForFour$Mate;", true)
  | 3 => ("MuckForFour$Site", "mateCount", "I", false)
  | 4 => ("MuckForFour$Site", "hod", "I", false)
  | 5 => ("MuckForFour$Site", "ladder", "I", false)
  | 6 => ("MuckForFour$Site", "mixing", "I", false)
  | 7 => ("MuckForFour$Site", "batch", "I", false)
  | 8 => ("MuckForFour$Site", "muck", "I", false)
  | 9 => ("MuckForFour$Site", "rule", "I", false)
  | 10 => ("MuckForFour$Site", "minute", "I", false)
  | 11 => ("MuckForFour$Site", "laidInAll", "I", false)
  | 12 => ("MuckForFour$Site", "servedLatest", "I", false)
  | 13 => ("MuckForFour$Site", "water", "I", false)
  | 14 => ("MuckForFour$Site", "mixingEnds", "I", false)
  | _ => ("MuckForFour$Site", "tally", "LMuckForFour$Tally;", true)
def tyX2 : Nat → FieldType := fun k => match k with
  | 0 => .array (.object "MuckForFour$Layer")
  | 1 => .int
  | 2 => .array (.object "MuckForFour$Mate")
  | 3 => .int
  | 4 => .int
  | 5 => .int
  | 6 => .int
  | 7 => .int
  | 8 => .int
  | 9 => .int
  | 10 => .int
  | 11 => .int
  | 12 => .int
  | 13 => .int
  | 14 => .int
  | _ => .object "MuckForFour$Tally"
abbrev wsX20 : List Cond := u_ws RX2 TX2 16
theorem nmX2 : ∀ a, a < 16 → ∀ b, b < 16 → a ≠ b → (TX2 a).2.1 ≠ (TX2 b).2.1 := by decide +kernel
theorem tyX2_ok : ∀ k, k < 16 → parseFieldDescriptor (TX2 k).2.2.1 = some (tyX2 k) := by decide +kernel
abbrev cX2_init : ByteArray := prog_4_method_1_code
def yX2_init : MethodName := ⟨RX2, "<init>", "()V"⟩
abbrev cX2_become : ByteArray := prog_4_method_2_code
def yX2_become : MethodName := ⟨RX2, "become", "(LMuckForFour$Site;)V"⟩
abbrev cX2_hasLayer : ByteArray := prog_4_method_3_code
def yX2_hasLayer : MethodName := ⟨RX2, "hasLayer", "(I)Z"⟩
abbrev cX2_hasTimeFor : ByteArray := prog_4_method_4_code
def yX2_hasTimeFor : MethodName := ⟨RX2, "hasTimeFor", "(I)Z"⟩
abbrev cX2_anyBusy : ByteArray := prog_4_method_5_code
def yX2_anyBusy : MethodName := ⟨RX2, "anyBusy", "()Z"⟩
abbrev cX2_freeMates : ByteArray := prog_4_method_6_code
def yX2_freeMates : MethodName := ⟨RX2, "freeMates", "()V"⟩
abbrev cX2_setting : ByteArray := prog_4_method_7_code
def yX2_setting : MethodName := ⟨RX2, "setting", "(I)I"⟩
abbrev cX2_change : ByteArray := prog_4_method_8_code
def yX2_change : MethodName := ⟨RX2, "change", "(II)V"⟩
abbrev cX2_addLayer : ByteArray := prog_4_method_9_code
def yX2_addLayer : MethodName := ⟨RX2, "addLayer", "(IIII)Z"⟩
abbrev cX2_muckLeft : ByteArray := prog_4_method_10_code
def yX2_muckLeft : MethodName := ⟨RX2, "muckLeft", "()I"⟩
abbrev cX2_pass : ByteArray := prog_4_method_11_code
def yX2_pass : MethodName := ⟨RX2, "pass", "(I)V"⟩
abbrev cX2_send : ByteArray := prog_4_method_12_code
def yX2_send : MethodName := ⟨RX2, "send", "(LMuckForFour$Mate;I)V"⟩
abbrev cX2_choose : ByteArray := prog_4_method_13_code
def yX2_choose : MethodName := ⟨RX2, "choose", "()I"⟩
abbrev cX2_needs : ByteArray := prog_4_method_14_code
def yX2_needs : MethodName := ⟨RX2, "needs", "(I)Z"⟩
abbrev cX2_rank : ByteArray := prog_4_method_15_code
def yX2_rank : MethodName := ⟨RX2, "rank", "(I)I"⟩
abbrev cX2_allLay : ByteArray := prog_4_method_16_code
def yX2_allLay : MethodName := ⟨RX2, "allLay", "()V"⟩
abbrev cX2_spendMinute : ByteArray := prog_4_method_17_code
def yX2_spendMinute : MethodName := ⟨RX2, "spendMinute", "(LMuckForFour$Mate;)V"⟩
abbrev cX2_unload : ByteArray := prog_4_method_18_code
def yX2_unload : MethodName := ⟨RX2, "unload", "(LMuckForFour$Mate;)V"⟩
def RX3 : String := "MuckForFour$Tally"
def TX3 : u_T := fun k => match k with
  | 0 => ("MuckForFour$Tally", "minutes", "I", false)
  | 1 => ("MuckForFour$Tally", "laid", "I", false)
  | 2 => ("MuckForFour$Tally", "stood", "I", false)
  | 3 => ("MuckForFour$Tally", "stoodTogether", "I", false)
  | 4 => ("MuckForFour$Tally", "firstToStand", "I", false)
  | 5 => ("MuckForFour$Tally", "firstStoodAt", "I", false)
  | 6 => ("MuckForFour$Tally", "trips", "I", false)
  | 7 => ("MuckForFour$Tally", "mixes", "I", false)
  | 8 => ("MuckForFour$Tally", "lost", "I", false)
  | 9 => ("MuckForFour$Tally", "begun", "[I", true)
  | _ => ("MuckForFour$Tally", "begunCount", "I", false)
def tyX3 : Nat → FieldType := fun k => match k with
  | 0 => .int
  | 1 => .int
  | 2 => .int
  | 3 => .int
  | 4 => .int
  | 5 => .int
  | 6 => .int
  | 7 => .int
  | 8 => .int
  | 9 => .array .int
  | _ => .int
abbrev wsX30 : List Cond := u_ws RX3 TX3 11
theorem nmX3 : ∀ a, a < 11 → ∀ b, b < 11 → a ≠ b → (TX3 a).2.1 ≠ (TX3 b).2.1 := by decide +kernel
theorem tyX3_ok : ∀ k, k < 11 → parseFieldDescriptor (TX3 k).2.2.1 = some (tyX3 k) := by decide +kernel
abbrev cX3_init : ByteArray := prog_5_method_1_code
def yX3_init : MethodName := ⟨RX3, "<init>", "()V"⟩
abbrev cX3_clear : ByteArray := prog_5_method_2_code
def yX3_clear : MethodName := ⟨RX3, "clear", "()V"⟩
abbrev cX3_noteBegun : ByteArray := prog_5_method_3_code
def yX3_noteBegun : MethodName := ⟨RX3, "noteBegun", "(I)V"⟩
abbrev cX3_noteStanding : ByteArray := prog_5_method_4_code
def yX3_noteStanding : MethodName := ⟨RX3, "noteStanding", "(II)V"⟩
def RX4 : String := "MuckForFour$Text"
def TX4 : u_T := fun k => match k with
  | 0 => ("MuckForFour$Text", "letters", "[I", true)
  | _ => ("MuckForFour$Text", "length", "I", false)
def tyX4 : Nat → FieldType := fun k => match k with
  | 0 => .array .int
  | _ => .int
abbrev wsX40 : List Cond := u_ws RX4 TX4 2
theorem nmX4 : ∀ a, a < 2 → ∀ b, b < 2 → a ≠ b → (TX4 a).2.1 ≠ (TX4 b).2.1 := by decide +kernel
theorem tyX4_ok : ∀ k, k < 2 → parseFieldDescriptor (TX4 k).2.2.1 = some (tyX4 k) := by decide +kernel
abbrev cX4_init : ByteArray := prog_6_method_1_code
def yX4_init : MethodName := ⟨RX4, "<init>", "()V"⟩
abbrev cX4_add : ByteArray := prog_6_method_2_code
def yX4_add : MethodName := ⟨RX4, "add", "(I)V"⟩
abbrev cX4_at : ByteArray := prog_6_method_3_code
def yX4_at : MethodName := ⟨RX4, "at", "(I)I"⟩
abbrev cX4_number : ByteArray := prog_6_method_4_code
def yX4_number : MethodName := ⟨RX4, "number", "(II)I"⟩
abbrev cX4_shapeFault : ByteArray := prog_6_method_5_code
def yX4_shapeFault : MethodName := ⟨RX4, "shapeFault", "()I"⟩
abbrev cX4_statementLength : ByteArray := prog_6_method_6_code
def yX4_statementLength : MethodName := ⟨RX4, "statementLength", "(I)I"⟩
abbrev cX4_fits : ByteArray := prog_6_method_7_code
def yX4_fits : MethodName := ⟨RX4, "fits", "(II)Z"⟩
def RX5 : String := "MuckForFour"
def TX5 : u_T := fun k => match k with
  | 0 => ("MuckForFour", "now", "LMuckForFour$Site;", true)
  | 1 => ("MuckForFour", "mind", "LMuckForFour$Site;", true)
  | 2 => ("MuckForFour", "taken", "LMuckForFour$Site;", true)
  | 3 => ("MuckForFour", "isTaken", "Z", false)
  | 4 => ("MuckForFour", "text", "LMuckForFour$Text;", true)
  | 5 => ("MuckForFour", "told", "[I", true)
  | 6 => ("MuckForFour", "toldCount", "I", false)
  | _ => ("MuckForFour", "refusals", "[I", true)
def tyX5 : Nat → FieldType := fun k => match k with
  | 0 => .object "MuckForFour$Site"
  | 1 => .object "MuckForFour$Site"
  | 2 => .object "MuckForFour$Site"
  | 3 => .boolean
  | 4 => .object "MuckForFour$Text"
  | 5 => .array .int
  | 6 => .int
  | _ => .array .int
abbrev wsX50 : List Cond := u_ws RX5 TX5 8
theorem nmX5 : ∀ a, a < 8 → ∀ b, b < 8 → a ≠ b → (TX5 a).2.1 ≠ (TX5 b).2.1 := by decide +kernel
theorem tyX5_ok : ∀ k, k < 8 → parseFieldDescriptor (TX5 k).2.2.1 = some (tyX5 k) := by decide +kernel
abbrev cX5_init : ByteArray := prog_1_method_1_code
def yX5_init : MethodName := ⟨RX5, "<init>", "()V"⟩
abbrev cX5_letter : ByteArray := prog_1_method_2_code
def yX5_letter : MethodName := ⟨RX5, "letter", "(I)I"⟩
abbrev cX5_site : ByteArray := prog_1_method_3_code
def yX5_site : MethodName := ⟨RX5, "site", "()I"⟩
abbrev cX5_layer : ByteArray := prog_1_method_4_code
def yX5_layer : MethodName := ⟨RX5, "layer", "(II)I"⟩
abbrev cX5_put : ByteArray := prog_1_method_5_code
def yX5_put : MethodName := ⟨RX5, "put", "(III)I"⟩
abbrev cX5_set : ByteArray := prog_1_method_6_code
def yX5_set : MethodName := ⟨RX5, "set", "(II)I"⟩
abbrev cX5_go : ByteArray := prog_1_method_7_code
def yX5_go : MethodName := ⟨RX5, "go", "(I)I"⟩
abbrev cX5_mates : ByteArray := prog_1_method_8_code
def yX5_mates : MethodName := ⟨RX5, "mates", "(II)I"⟩
abbrev cX5_total : ByteArray := prog_1_method_9_code
def yX5_total : MethodName := ⟨RX5, "total", "(II)I"⟩
abbrev cX5_stood : ByteArray := prog_1_method_10_code
def yX5_stood : MethodName := ⟨RX5, "stood", "(II)I"⟩
abbrev cX5_left : ByteArray := prog_1_method_11_code
def yX5_left : MethodName := ⟨RX5, "left", "(III)I"⟩
abbrev cX5_bestRule : ByteArray := prog_1_method_12_code
def yX5_bestRule : MethodName := ⟨RX5, "bestRule", "(I)I"⟩
abbrev cX5_bestHod : ByteArray := prog_1_method_13_code
def yX5_bestHod : MethodName := ⟨RX5, "bestHod", "(I)I"⟩
abbrev cX5_bestBatch : ByteArray := prog_1_method_14_code
def yX5_bestBatch : MethodName := ⟨RX5, "bestBatch", "(I)I"⟩
abbrev cX5_mate : ByteArray := prog_1_method_15_code
def yX5_mate : MethodName := ⟨RX5, "mate", "(I)I"⟩
abbrev cX5_hoist : ByteArray := prog_1_method_16_code
def yX5_hoist : MethodName := ⟨RX5, "hoist", "(I)I"⟩
abbrev cX5_ahead : ByteArray := prog_1_method_17_code
def yX5_ahead : MethodName := ⟨RX5, "ahead", "(II)I"⟩
abbrev cX5_inStep : ByteArray := prog_1_method_18_code
def yX5_inStep : MethodName := ⟨RX5, "inStep", "(I)I"⟩
abbrev cX5_keeps : ByteArray := prog_1_method_19_code
def yX5_keeps : MethodName := ⟨RX5, "keeps", "(I)I"⟩
abbrev cX5_emptyFirst : ByteArray := prog_1_method_20_code
def yX5_emptyFirst : MethodName := ⟨RX5, "emptyFirst", "(I)I"⟩
abbrev cX5_tea : ByteArray := prog_1_method_21_code
def yX5_tea : MethodName := ⟨RX5, "tea", "(II)I"⟩
abbrev cX5_fault : ByteArray := prog_1_method_22_code
def yX5_fault : MethodName := ⟨RX5, "fault", "(III)I"⟩
abbrev cX5_watered : ByteArray := prog_1_method_23_code
def yX5_watered : MethodName := ⟨RX5, "watered", "(III)I"⟩
abbrev cX5_badly : ByteArray := prog_1_method_24_code
def yX5_badly : MethodName := ⟨RX5, "badly", "()I"⟩
abbrev cX5_row : ByteArray := prog_1_method_25_code
def yX5_row : MethodName := ⟨RX5, "row", "(I)I"⟩
abbrev cX5_judge : ByteArray := prog_1_method_26_code
def yX5_judge : MethodName := ⟨RX5, "judge", "()I"⟩
abbrev cX5_lots : ByteArray := prog_1_method_27_code
def yX5_lots : MethodName := ⟨RX5, "lots", "(II)I"⟩
abbrev cX5_image : ByteArray := prog_1_method_28_code
def yX5_image : MethodName := ⟨RX5, "image", "()I"⟩
abbrev cX5_on : ByteArray := prog_1_method_29_code
def yX5_on : MethodName := ⟨RX5, "on", "()I"⟩
abbrev cX5_count : ByteArray := prog_1_method_30_code
def yX5_count : MethodName := ⟨RX5, "count", "(I)I"⟩
abbrev cX5_refuse : ByteArray := prog_1_method_31_code
def yX5_refuse : MethodName := ⟨RX5, "refuse", "(I)I"⟩
abbrev cX5_outside : ByteArray := prog_1_method_32_code
def yX5_outside : MethodName := ⟨RX5, "outside", "(III)I"⟩
abbrev cX5_outsideEither : ByteArray := prog_1_method_33_code
def yX5_outsideEither : MethodName := ⟨RX5, "outsideEither", "(III)I"⟩
abbrev cX5_refusalOfLayerInMind : ByteArray := prog_1_method_34_code
def yX5_refusalOfLayerInMind : MethodName := ⟨RX5, "refusalOfLayerInMind", "(III)I"⟩
abbrev cX5_foresee : ByteArray := prog_1_method_35_code
def yX5_foresee : MethodName := ⟨RX5, "foresee", "(I)V"⟩
abbrev cX5_laidAsItIs : ByteArray := prog_1_method_36_code
def yX5_laidAsItIs : MethodName := ⟨RX5, "laidAsItIs", "(I)I"⟩
abbrev cX5_laidWith : ByteArray := prog_1_method_37_code
def yX5_laidWith : MethodName := ⟨RX5, "laidWith", "(III)I"⟩
abbrev cX5_passWithMixing : ByteArray := prog_1_method_38_code
def yX5_passWithMixing : MethodName := ⟨RX5, "passWithMixing", "(II)V"⟩
abbrev cX5_bestSetting : ByteArray := prog_1_method_39_code
def yX5_bestSetting : MethodName := ⟨RX5, "bestSetting", "(III)I"⟩
abbrev cX5_rowFitsUnits : ByteArray := prog_1_method_40_code
def yX5_rowFitsUnits : MethodName := ⟨RX5, "rowFitsUnits", "(I)Z"⟩
abbrev cX5_nextSeed : ByteArray := prog_1_method_41_code
def yX5_nextSeed : MethodName := ⟨RX5, "nextSeed", "(I)I"⟩
abbrev cX5_draw : ByteArray := prog_1_method_42_code
def yX5_draw : MethodName := ⟨RX5, "draw", "(II)I"⟩
abbrev cX5_unitsOf : ByteArray := prog_1_method_43_code
def yX5_unitsOf : MethodName := ⟨RX5, "unitsOf", "(I)I"⟩
abbrev cX5_statementComes : ByteArray := prog_1_method_44_code
def yX5_statementComes : MethodName := ⟨RX5, "statementComes", "(I)Z"⟩
abbrev cX5_settingComes : ByteArray := prog_1_method_45_code
def yX5_settingComes : MethodName := ⟨RX5, "settingComes", "(II)Z"⟩
def RX6 : String := "MuckForFourModel"
def TX6 : u_T := fun k => match k with
  | 0 => ("MuckForFourModel", "refused", "[I", true)
  | 1 => ("MuckForFourModel", "setting", "[I", true)
  | 2 => ("MuckForFourModel", "kind", "[I", true)
  | 3 => ("MuckForFourModel", "pace", "[I", true)
  | 4 => ("MuckForFourModel", "board", "[I", true)
  | 5 => ("MuckForFourModel", "stack", "[I", true)
  | 6 => ("MuckForFourModel", "does", "[I", true)
  | 7 => ("MuckForFourModel", "left", "[I", true)
  | 8 => ("MuckForFourModel", "whom", "[I", true)
  | 9 => ("MuckForFourModel", "brings", "[I", true)
  | 10 => ("MuckForFourModel", "layers", "I", false)
  | 11 => ("MuckForFourModel", "minute", "I", false)
  | 12 => ("MuckForFourModel", "latest", "I", false)
  | 13 => ("MuckForFourModel", "laidAll", "I", false)
  | 14 => ("MuckForFourModel", "tape", "[I", true)
  | 15 => ("MuckForFourModel", "letter", "[I", true)
  | 16 => ("MuckForFourModel", "letterAt", "[I", true)
  | 17 => ("MuckForFourModel", "told", "[I", true)
  | 18 => ("MuckForFourModel", "taped", "I", false)
  | 19 => ("MuckForFourModel", "at", "I", false)
  | 20 => ("MuckForFourModel", "statements", "I", false)
  | 21 => ("MuckForFourModel", "kept", "[I", true)
  | 22 => ("MuckForFourModel", "hasImage", "Z", false)
  | 23 => ("MuckForFourModel", "isKeeping", "Z", false)
  | 24 => ("MuckForFourModel", "cursor", "I", false)
  | 25 => ("MuckForFourModel", "stoodOf", "[I", true)
  | 26 => ("MuckForFourModel", "noMortar", "[I", true)
  | 27 => ("MuckForFourModel", "noBricks", "[I", true)
  | 28 => ("MuckForFourModel", "begun", "[I", true)
  | 29 => ("MuckForFourModel", "laid", "I", false)
  | 30 => ("MuckForFourModel", "trips", "I", false)
  | 31 => ("MuckForFourModel", "mixes", "I", false)
  | 32 => ("MuckForFourModel", "lost", "I", false)
  | 33 => ("MuckForFourModel", "begunMany", "I", false)
  | 34 => ("MuckForFourModel", "stepsMany", "I", false)
  | 35 => ("MuckForFourModel", "firstLayer", "I", false)
  | 36 => ("MuckForFourModel", "firstMinute", "I", false)
  | 37 => ("MuckForFourModel", "water", "I", false)
  | 38 => ("MuckForFourModel", "dryFrom", "I", false)
  | 39 => ("MuckForFourModel", "goneMinutes", "I", false)
  | 40 => ("MuckForFourModel", "muckThen", "I", false)
  | 41 => ("MuckForFourModel", "row", "[I", true)
  | 42 => ("MuckForFourModel", "rowMany", "I", false)
  | _ => ("MuckForFourModel", "lots", "I", false)
def tyX6 : Nat → FieldType := fun k => match k with
  | 0 => .array .int
  | 1 => .array .int
  | 2 => .array .int
  | 3 => .array .int
  | 4 => .array .int
  | 5 => .array .int
  | 6 => .array .int
  | 7 => .array .int
  | 8 => .array .int
  | 9 => .array .int
  | 10 => .int
  | 11 => .int
  | 12 => .int
  | 13 => .int
  | 14 => .array .int
  | 15 => .array .int
  | 16 => .array .int
  | 17 => .array .int
  | 18 => .int
  | 19 => .int
  | 20 => .int
  | 21 => .array .int
  | 22 => .boolean
  | 23 => .boolean
  | 24 => .int
  | 25 => .array .int
  | 26 => .array .int
  | 27 => .array .int
  | 28 => .array .int
  | 29 => .int
  | 30 => .int
  | 31 => .int
  | 32 => .int
  | 33 => .int
  | 34 => .int
  | 35 => .int
  | 36 => .int
  | 37 => .int
  | 38 => .int
  | 39 => .int
  | 40 => .int
  | 41 => .array .int
  | 42 => .int
  | _ => .int
abbrev wsX60 : List Cond := u_ws RX6 TX6 44
theorem nmX6 : ∀ a, a < 44 → ∀ b, b < 44 → a ≠ b → (TX6 a).2.1 ≠ (TX6 b).2.1 := by decide +kernel
theorem tyX6_ok : ∀ k, k < 44 → parseFieldDescriptor (TX6 k).2.2.1 = some (tyX6 k) := by decide +kernel
abbrev cX6_init : ByteArray := prog_8_method_1_code
def yX6_init : MethodName := ⟨RX6, "<init>", "()V"⟩
abbrev cX6_no : ByteArray := prog_8_method_2_code
def yX6_no : MethodName := ⟨RX6, "no", "(I)I"⟩
abbrev cX6_lower : ByteArray := prog_8_method_3_code
def yX6_lower : MethodName := ⟨RX6, "lower", "(I)I"⟩
abbrev cX6_isIn : ByteArray := prog_8_method_4_code
def yX6_isIn : MethodName := ⟨RX6, "isIn", "(III)Z"⟩
abbrev cX6_bound : ByteArray := prog_8_method_5_code
def yX6_bound : MethodName := ⟨RX6, "bound", "(III)I"⟩
abbrev cX6_isLayer : ByteArray := prog_8_method_6_code
def yX6_isLayer : MethodName := ⟨RX6, "isLayer", "(I)Z"⟩
abbrev cX6_leastOf : ByteArray := prog_8_method_7_code
def yX6_leastOf : MethodName := ⟨RX6, "leastOf", "(I)I"⟩
abbrev cX6_mostOf : ByteArray := prog_8_method_8_code
def yX6_mostOf : MethodName := ⟨RX6, "mostOf", "(I)I"⟩
abbrev cX6_letter : ByteArray := prog_8_method_9_code
def yX6_letter : MethodName := ⟨RX6, "letter", "(I)I"⟩
abbrev cX6_next : ByteArray := prog_8_method_10_code
def yX6_next : MethodName := ⟨RX6, "next", "()I"⟩
abbrev cX6_readsDigits : ByteArray := prog_8_method_11_code
def yX6_readsDigits : MethodName := ⟨RX6, "readsDigits", "(II)Z"⟩
abbrev cX6_layerOf : ByteArray := prog_8_method_12_code
def yX6_layerOf : MethodName := ⟨RX6, "layerOf", "(I)I"⟩
abbrev cX6_ruleOf : ByteArray := prog_8_method_13_code
def yX6_ruleOf : MethodName := ⟨RX6, "ruleOf", "(I)I"⟩
abbrev cX6_readsKind : ByteArray := prog_8_method_14_code
def yX6_readsKind : MethodName := ⟨RX6, "readsKind", "(II)Z"⟩
abbrev cX6_readsAll : ByteArray := prog_8_method_15_code
def yX6_readsAll : MethodName := ⟨RX6, "readsAll", "(II)Z"⟩
abbrev cX6_statement : ByteArray := prog_8_method_16_code
def yX6_statement : MethodName := ⟨RX6, "statement", "()Z"⟩
abbrev cX6_comesLayer : ByteArray := prog_8_method_17_code
def yX6_comesLayer : MethodName := ⟨RX6, "comesLayer", "(I)Z"⟩
abbrev cX6_isBusy : ByteArray := prog_8_method_18_code
def yX6_isBusy : MethodName := ⟨RX6, "isBusy", "()Z"⟩
abbrev cX6_comesSet : ByteArray := prog_8_method_19_code
def yX6_comesSet : MethodName := ⟨RX6, "comesSet", "(II)Z"⟩
abbrev cX6_comes : ByteArray := prog_8_method_20_code
def yX6_comes : MethodName := ⟨RX6, "comes", "(I)Z"⟩
abbrev cX6_site : ByteArray := prog_8_method_21_code
def yX6_site : MethodName := ⟨RX6, "site", "()I"⟩
abbrev cX6_passes : ByteArray := prog_8_method_22_code
def yX6_passes : MethodName := ⟨RX6, "passes", "([I)V"⟩
abbrev cX6_passOne : ByteArray := prog_8_method_23_code
def yX6_passOne : MethodName := ⟨RX6, "passOne", "(I)I"⟩
abbrev cX6_passesAll : ByteArray := prog_8_method_24_code
def yX6_passesAll : MethodName := ⟨RX6, "passesAll", "(IZ)V"⟩
abbrev cX6_image : ByteArray := prog_8_method_25_code
def yX6_image : MethodName := ⟨RX6, "image", "()I"⟩
abbrev cX6_on : ByteArray := prog_8_method_26_code
def yX6_on : MethodName := ⟨RX6, "on", "()I"⟩
abbrev cX6_bricksOf : ByteArray := prog_8_method_27_code
def yX6_bricksOf : MethodName := ⟨RX6, "bricksOf", "(I)I"⟩
abbrev cX6_unitsOf : ByteArray := prog_8_method_28_code
def yX6_unitsOf : MethodName := ⟨RX6, "unitsOf", "(I)I"⟩
abbrev cX6_wouldLay : ByteArray := prog_8_method_29_code
def yX6_wouldLay : MethodName := ⟨RX6, "wouldLay", "(I)I"⟩
abbrev cX6_lesser : ByteArray := prog_8_method_30_code
def yX6_lesser : MethodName := ⟨RX6, "lesser", "(II)I"⟩
abbrev cX6_lays : ByteArray := prog_8_method_31_code
def yX6_lays : MethodName := ⟨RX6, "lays", "(I)I"⟩
abbrev cX6_isWanting : ByteArray := prog_8_method_32_code
def yX6_isWanting : MethodName := ⟨RX6, "isWanting", "(I)Z"⟩
abbrev cX6_emptyBy : ByteArray := prog_8_method_33_code
def yX6_emptyBy : MethodName := ⟨RX6, "emptyBy", "(I)I"⟩
abbrev cX6_lastsBy : ByteArray := prog_8_method_34_code
def yX6_lastsBy : MethodName := ⟨RX6, "lastsBy", "(I)I"⟩
abbrev cX6_keyOf : ByteArray := prog_8_method_35_code
def yX6_keyOf : MethodName := ⟨RX6, "keyOf", "(I)I"⟩
abbrev cX6_served : ByteArray := prog_8_method_36_code
def yX6_served : MethodName := ⟨RX6, "served", "()I"⟩
abbrev cX6_keyBy : ByteArray := prog_8_method_37_code
def yX6_keyBy : MethodName := ⟨RX6, "keyBy", "(I)I"⟩
abbrev cX6_begins : ByteArray := prog_8_method_38_code
def yX6_begins : MethodName := ⟨RX6, "begins", "(III)V"⟩
abbrev cX6_tells : ByteArray := prog_8_method_39_code
def yX6_tells : MethodName := ⟨RX6, "tells", "(I)V"⟩
abbrev cX6_starts : ByteArray := prog_8_method_40_code
def yX6_starts : MethodName := ⟨RX6, "starts", "(I)V"⟩
abbrev cX6_heldBy : ByteArray := prog_8_method_41_code
def yX6_heldBy : MethodName := ⟨RX6, "heldBy", "(II)I"⟩
abbrev cX6_comesThere : ByteArray := prog_8_method_42_code
def yX6_comesThere : MethodName := ⟨RX6, "comesThere", "(I)V"⟩
abbrev cX6_ends : ByteArray := prog_8_method_43_code
def yX6_ends : MethodName := ⟨RX6, "ends", "(I)V"⟩
abbrev cX6_layerGoes : ByteArray := prog_8_method_44_code
def yX6_layerGoes : MethodName := ⟨RX6, "layerGoes", "(I)V"⟩
abbrev cX6_goes : ByteArray := prog_8_method_45_code
def yX6_goes : MethodName := ⟨RX6, "goes", "()V"⟩
abbrev cX6_stoodAll : ByteArray := prog_8_method_46_code
def yX6_stoodAll : MethodName := ⟨RX6, "stoodAll", "()I"⟩
abbrev cX6_clearsCounts : ByteArray := prog_8_method_47_code
def yX6_clearsCounts : MethodName := ⟨RX6, "clearsCounts", "()V"⟩
abbrev cX6_goesMinutes : ByteArray := prog_8_method_48_code
def yX6_goesMinutes : MethodName := ⟨RX6, "goesMinutes", "(I)V"⟩
abbrev cX6_goesBy : ByteArray := prog_8_method_49_code
def yX6_goesBy : MethodName := ⟨RX6, "goesBy", "(I)V"⟩
abbrev cX6_allMuck : ByteArray := prog_8_method_50_code
def yX6_allMuck : MethodName := ⟨RX6, "allMuck", "()I"⟩
abbrev cX6_minds : ByteArray := prog_8_method_51_code
def yX6_minds : MethodName := ⟨RX6, "minds", "(I)V"⟩
abbrev cX6_layer : ByteArray := prog_8_method_52_code
def yX6_layer : MethodName := ⟨RX6, "layer", "(II)I"⟩
abbrev cX6_put : ByteArray := prog_8_method_53_code
def yX6_put : MethodName := ⟨RX6, "put", "(III)I"⟩
abbrev cX6_set : ByteArray := prog_8_method_54_code
def yX6_set : MethodName := ⟨RX6, "set", "(II)I"⟩
abbrev cX6_go : ByteArray := prog_8_method_55_code
def yX6_go : MethodName := ⟨RX6, "go", "(I)I"⟩
abbrev cX6_mates : ByteArray := prog_8_method_56_code
def yX6_mates : MethodName := ⟨RX6, "mates", "(II)I"⟩
abbrev cX6_total : ByteArray := prog_8_method_57_code
def yX6_total : MethodName := ⟨RX6, "total", "(II)I"⟩
abbrev cX6_stood : ByteArray := prog_8_method_58_code
def yX6_stood : MethodName := ⟨RX6, "stood", "(II)I"⟩
abbrev cX6_left : ByteArray := prog_8_method_59_code
def yX6_left : MethodName := ⟨RX6, "left", "(III)I"⟩
abbrev cX6_bestRule : ByteArray := prog_8_method_60_code
def yX6_bestRule : MethodName := ⟨RX6, "bestRule", "(I)I"⟩
abbrev cX6_laidWith : ByteArray := prog_8_method_61_code
def yX6_laidWith : MethodName := ⟨RX6, "laidWith", "(III)I"⟩
abbrev cX6_bestHod : ByteArray := prog_8_method_62_code
def yX6_bestHod : MethodName := ⟨RX6, "bestHod", "(I)I"⟩
abbrev cX6_bestBatch : ByteArray := prog_8_method_63_code
def yX6_bestBatch : MethodName := ⟨RX6, "bestBatch", "(I)I"⟩
abbrev cX6_laidIn : ByteArray := prog_8_method_64_code
def yX6_laidIn : MethodName := ⟨RX6, "laidIn", "(I)I"⟩
abbrev cX6_mate : ByteArray := prog_8_method_65_code
def yX6_mate : MethodName := ⟨RX6, "mate", "(I)I"⟩
abbrev cX6_hoist : ByteArray := prog_8_method_66_code
def yX6_hoist : MethodName := ⟨RX6, "hoist", "(I)I"⟩
abbrev cX6_ahead : ByteArray := prog_8_method_67_code
def yX6_ahead : MethodName := ⟨RX6, "ahead", "(II)I"⟩
abbrev cX6_inStep : ByteArray := prog_8_method_68_code
def yX6_inStep : MethodName := ⟨RX6, "inStep", "(I)I"⟩
abbrev cX6_standsOf : ByteArray := prog_8_method_69_code
def yX6_standsOf : MethodName := ⟨RX6, "standsOf", "(II)I"⟩
abbrev cX6_keeps : ByteArray := prog_8_method_70_code
def yX6_keeps : MethodName := ⟨RX6, "keeps", "(I)I"⟩
abbrev cX6_emptyFirst : ByteArray := prog_8_method_71_code
def yX6_emptyFirst : MethodName := ⟨RX6, "emptyFirst", "(I)I"⟩
abbrev cX6_laidDry : ByteArray := prog_8_method_72_code
def yX6_laidDry : MethodName := ⟨RX6, "laidDry", "(II)I"⟩
abbrev cX6_tea : ByteArray := prog_8_method_73_code
def yX6_tea : MethodName := ⟨RX6, "tea", "(II)I"⟩
abbrev cX6_fault : ByteArray := prog_8_method_74_code
def yX6_fault : MethodName := ⟨RX6, "fault", "(III)I"⟩
abbrev cX6_watered : ByteArray := prog_8_method_75_code
def yX6_watered : MethodName := ⟨RX6, "watered", "(III)I"⟩
abbrev cX6_badly : ByteArray := prog_8_method_76_code
def yX6_badly : MethodName := ⟨RX6, "badly", "()I"⟩
abbrev cX6_row : ByteArray := prog_8_method_77_code
def yX6_row : MethodName := ⟨RX6, "row", "(I)I"⟩
abbrev cX6_judge : ByteArray := prog_8_method_78_code
def yX6_judge : MethodName := ⟨RX6, "judge", "()I"⟩
abbrev cX6_draw : ByteArray := prog_8_method_79_code
def yX6_draw : MethodName := ⟨RX6, "draw", "(I)I"⟩
abbrev cX6_lots : ByteArray := prog_8_method_80_code
def yX6_lots : MethodName := ⟨RX6, "lots", "(II)I"⟩
abbrev cX6_count : ByteArray := prog_8_method_81_code
def yX6_count : MethodName := ⟨RX6, "count", "(I)I"⟩
def RJ11 : String := "java/lang/Character"
def TJ11 : u_T := fun k => match k with
  | _ => ("", "", "", false)
def tyJ11 : Nat → FieldType := fun k => match k with
  | _ => .int
theorem nmJ11 : ∀ a, a < 0 → ∀ b, b < 0 → a ≠ b → (TJ11 a).2.1 ≠ (TJ11 b).2.1 := by decide +kernel
theorem tyJ11_ok : ∀ k, k < 0 → parseFieldDescriptor (TJ11 k).2.2.1 = some (tyJ11 k) := by decide +kernel
abbrev cJ11_isValidCodePoint_9a6ad : ByteArray := prog_9_method_11_code
def yJ11_isValidCodePoint_9a6ad : MethodName := ⟨RJ11, "isValidCodePoint", "(I)Z"⟩
abbrev cJ11_highSurrogate_5068e : ByteArray := prog_9_method_28_code
def yJ11_highSurrogate_5068e : MethodName := ⟨RJ11, "highSurrogate", "(I)C"⟩
abbrev cJ11_lowSurrogate_5068e : ByteArray := prog_9_method_29_code
def yJ11_lowSurrogate_5068e : MethodName := ⟨RJ11, "lowSurrogate", "(I)C"⟩
def RJ9 : String := "java/lang/Math"
def TJ9 : u_T := fun k => match k with
  | _ => ("", "", "", false)
def tyJ9 : Nat → FieldType := fun k => match k with
  | _ => .int
theorem nmJ9 : ∀ a, a < 0 → ∀ b, b < 0 → a ≠ b → (TJ9 a).2.1 ≠ (TJ9 b).2.1 := by decide +kernel
theorem tyJ9_ok : ∀ k, k < 0 → parseFieldDescriptor (TJ9 k).2.2.1 = some (tyJ9 k) := by decide +kernel
abbrev cJ9_max_7cf53 : ByteArray := prog_10_method_65_code
def yJ9_max_7cf53 : MethodName := ⟨RJ9, "max", "(II)I"⟩
abbrev cJ9_min_7cf53 : ByteArray := prog_10_method_69_code
def yJ9_min_7cf53 : MethodName := ⟨RJ9, "min", "(II)I"⟩
def RJ0 : String := "java/lang/String"
def TJ0 : u_T := fun k => match k with
  | _ => ("", "", "", false)
def tyJ0 : Nat → FieldType := fun k => match k with
  | _ => .int
theorem nmJ0 : ∀ a, a < 0 → ∀ b, b < 0 → a ≠ b → (TJ0 a).2.1 ≠ (TJ0 b).2.1 := by decide +kernel
theorem tyJ0_ok : ∀ k, k < 0 → parseFieldDescriptor (TJ0 k).2.2.1 = some (tyJ0 k) := by decide +kernel
abbrev cJ0_length_8abf5 : ByteArray := prog_11_method_54_code
def yJ0_length_8abf5 : MethodName := ⟨RJ0, "length", "()I"⟩
abbrev cJ0_indexOf_0f7a4 : ByteArray := prog_11_method_79_code
def yJ0_indexOf_0f7a4 : MethodName := ⟨RJ0, "indexOf", "(I)I"⟩
abbrev cJ0_indexOf_7cf53 : ByteArray := prog_11_method_80_code
def yJ0_indexOf_7cf53 : MethodName := ⟨RJ0, "indexOf", "(II)I"⟩
abbrev cJ0_coder_7d493 : ByteArray := prog_11_method_152_code
def yJ0_coder_7d493 : MethodName := ⟨RJ0, "coder", "()B"⟩
abbrev cJ0_isLatin1_aae02 : ByteArray := prog_11_method_154_code
def yJ0_isLatin1_aae02 : MethodName := ⟨RJ0, "isLatin1", "()Z"⟩
abbrev cJ0_checkBoundsBeginEnd_23922 : ByteArray := prog_11_method_158_code
def yJ0_checkBoundsBeginEnd_23922 : MethodName := ⟨RJ0, "checkBoundsBeginEnd", "(III)V"⟩
def RJ1 : String := "java/lang/StringLatin1"
def TJ1 : u_T := fun k => match k with
  | _ => ("", "", "", false)
def tyJ1 : Nat → FieldType := fun k => match k with
  | _ => .int
theorem nmJ1 : ∀ a, a < 0 → ∀ b, b < 0 → a ≠ b → (TJ1 a).2.1 ≠ (TJ1 b).2.1 := by decide +kernel
theorem tyJ1_ok : ∀ k, k < 0 → parseFieldDescriptor (TJ1 k).2.2.1 = some (tyJ1 k) := by decide +kernel
abbrev cJ1_canEncode_9a6ad : ByteArray := prog_12_method_4_code
def yJ1_canEncode_9a6ad : MethodName := ⟨RJ1, "canEncode", "(I)Z"⟩
abbrev cJ1_indexOf_4cfef : ByteArray := prog_12_method_22_code
def yJ1_indexOf_4cfef : MethodName := ⟨RJ1, "indexOf", "([BIII)I"⟩
abbrev cJ1_indexOfChar_4cfef : ByteArray := prog_12_method_23_code
def yJ1_indexOfChar_4cfef : MethodName := ⟨RJ1, "indexOfChar", "([BIII)I"⟩
def RJ2 : String := "java/lang/StringUTF16"
def TJ2 : u_T := fun k => match k with
  | _ => ("", "", "", false)
def tyJ2 : Nat → FieldType := fun k => match k with
  | _ => .int
theorem nmJ2 : ∀ a, a < 0 → ∀ b, b < 0 → a ≠ b → (TJ2 a).2.1 ≠ (TJ2 b).2.1 := by decide +kernel
theorem tyJ2_ok : ∀ k, k < 0 → parseFieldDescriptor (TJ2 k).2.2.1 = some (tyJ2 k) := by decide +kernel
abbrev cJ2_getChar_3b067 : ByteArray := prog_13_method_5_code
def yJ2_getChar_3b067 : MethodName := ⟨RJ2, "getChar", "([BI)C"⟩
abbrev cJ2_length_9d52b : ByteArray := prog_13_method_6_code
def yJ2_length_9d52b : MethodName := ⟨RJ2, "length", "([B)I"⟩
abbrev cJ2_indexOf_4cfef : ByteArray := prog_13_method_40_code
def yJ2_indexOf_4cfef : MethodName := ⟨RJ2, "indexOf", "([BIII)I"⟩
abbrev cJ2_indexOfChar_4cfef : ByteArray := prog_13_method_47_code
def yJ2_indexOfChar_4cfef : MethodName := ⟨RJ2, "indexOfChar", "([BIII)I"⟩
abbrev cJ2_indexOfCharUnsafe_4cfef : ByteArray := prog_13_method_48_code
def yJ2_indexOfCharUnsafe_4cfef : MethodName := ⟨RJ2, "indexOfCharUnsafe", "([BIII)I"⟩
abbrev cJ2_indexOfSupplementary_4cfef : ByteArray := prog_13_method_49_code
def yJ2_indexOfSupplementary_4cfef : MethodName := ⟨RJ2, "indexOfSupplementary", "([BIII)I"⟩
abbrev cJ2_checkBoundsBeginEnd_d044e : ByteArray := prog_13_method_93_code
def yJ2_checkBoundsBeginEnd_d044e : MethodName := ⟨RJ2, "checkBoundsBeginEnd", "(II[B)V"⟩
def RJ3 : String := "jdk/internal/util/Preconditions"
def TJ3 : u_T := fun k => match k with
  | _ => ("", "", "", false)
def tyJ3 : Nat → FieldType := fun k => match k with
  | _ => .int
theorem nmJ3 : ∀ a, a < 0 → ∀ b, b < 0 → a ≠ b → (TJ3 a).2.1 ≠ (TJ3 b).2.1 := by decide +kernel
theorem tyJ3_ok : ∀ k, k < 0 → parseFieldDescriptor (TJ3 k).2.2.1 = some (tyJ3 k) := by decide +kernel
abbrev cJ3_checkFromToIndex_8c36e : ByteArray := prog_14_method_12_code
def yJ3_checkFromToIndex_8c36e : MethodName := ⟨RJ3, "checkFromToIndex", "(IIILjava/util/function/BiFunction;)I"⟩
def RL : String := "MuckForFourLaw"
abbrev cL_law : ByteArray := code
end
section
/-! THE LITTLE MACHINE: object rows by (group, kind, number); 1, 2, 3: the sites, 0: the class's own, 4: the reference's, 9: constants -/
abbrev Cd : Type := Nat × Nat × Nat
abbrev AV : Type := Option (Int32 ⊕ Cd)
abbrev Mm : Type := Nat → Nat → Nat → Nat → Int32
abbrev Rs : Type := Option Int32 × Mm
abbrev Ss : Type := Nat × List AV × List AV × Mm
abbrev aI (v : Int32) : AV := some (.inl v)
abbrev aR (g k i : Nat) : AV := some (.inr (g, k, i))
def wr (M : Mm) (g k i j : Nat) (v : Int32) : Mm := va_up M g (va_up (M g) k (va_up (M g k) i (va_up (M g k i) j v)))
def mT0 : List (MethodName × ByteArray × Nat × Option FieldType) := [(yX0_become, cX0_become, 2, none), (yX0_begin, cX0_begin, 5, none), (yX0_usualOf, cX0_usualOf, 2, some .int), (yX0_wants, cX0_wants, 2, some .int), (yX0_lasts, cX0_lasts, 1, some .int), (yX0_lay, cX0_lay, 5, some .int), (yX0_receiveMortar, cX0_receiveMortar, 3, some .int), (yX0_receiveBricks, cX0_receiveBricks, 3, some .int), (yX1_become, cX1_become, 2, none), (yX1_begin, cX1_begin, 3, none), (yX1_climb, cX1_climb, 4, none), (yX2_become, cX2_become, 3, none), (yX2_hasLayer, cX2_hasLayer, 2, some .boolean), (yX2_hasTimeFor, cX2_hasTimeFor, 2, some .boolean), (yX2_anyBusy, cX2_anyBusy, 2, some .boolean), (yX2_freeMates, cX2_freeMates, 2, none), (yX2_setting, cX2_setting, 2, some .int), (yX2_change, cX2_change, 3, none), (yX2_addLayer, cX2_addLayer, 5, some .boolean), (yX2_muckLeft, cX2_muckLeft, 3, some .int)]
def mT1 : List (MethodName × ByteArray × Nat × Option FieldType) := [(yX2_pass, cX2_pass, 3, none), (yX2_send, cX2_send, 4, none), (yX2_choose, cX2_choose, 5, some .int), (yX2_needs, cX2_needs, 3, some .boolean), (yX2_rank, cX2_rank, 3, some .int), (yX2_allLay, cX2_allLay, 5, none), (yX2_spendMinute, cX2_spendMinute, 2, none), (yX2_unload, cX2_unload, 3, none), (yX3_clear, cX3_clear, 1, none), (yX3_noteBegun, cX3_noteBegun, 2, none), (yX3_noteStanding, cX3_noteStanding, 3, none), (yX4_add, cX4_add, 2, none), (yX4_at, cX4_at, 2, some .int), (yX4_number, cX4_number, 5, some .int), (yX4_shapeFault, cX4_shapeFault, 4, some .int), (yX4_statementLength, cX4_statementLength, 2, some .int), (yX4_fits, cX4_fits, 4, some .boolean), (yX5_letter, cX5_letter, 2, some .int), (yX5_site, cX5_site, 4, some .int), (yX5_layer, cX5_layer, 4, some .int)]
def mT2 : List (MethodName × ByteArray × Nat × Option FieldType) := [(yX5_put, cX5_put, 7, some .int), (yX5_set, cX5_set, 5, some .int), (yX5_go, cX5_go, 2, some .int), (yX5_mates, cX5_mates, 4, some .int), (yX5_total, cX5_total, 4, some .int), (yX5_stood, cX5_stood, 4, some .int), (yX5_left, cX5_left, 6, some .int), (yX5_bestRule, cX5_bestRule, 9, some .int), (yX5_bestHod, cX5_bestHod, 3, some .int), (yX5_bestBatch, cX5_bestBatch, 3, some .int), (yX5_mate, cX5_mate, 3, some .int), (yX5_hoist, cX5_hoist, 3, some .int), (yX5_ahead, cX5_ahead, 6, some .int), (yX5_inStep, cX5_inStep, 3, some .int), (yX5_keeps, cX5_keeps, 4, some .int), (yX5_emptyFirst, cX5_emptyFirst, 2, some .int), (yX5_tea, cX5_tea, 6, some .int), (yX5_fault, cX5_fault, 6, some .int), (yX5_watered, cX5_watered, 7, some .int), (yX5_badly, cX5_badly, 3, some .int)]
def mT3 : List (MethodName × ByteArray × Nat × Option FieldType) := [(yX5_row, cX5_row, 2, some .int), (yX5_judge, cX5_judge, 3, some .int), (yX5_lots, cX5_lots, 8, some .int), (yX5_image, cX5_image, 1, some .int), (yX5_on, cX5_on, 1, some .int), (yX5_count, cX5_count, 2, some .int), (yX5_refuse, cX5_refuse, 3, some .int), (yX5_outside, cX5_outside, 3, some .int), (yX5_outsideEither, cX5_outsideEither, 3, some .int), (yX5_refusalOfLayerInMind, cX5_refusalOfLayerInMind, 5, some .int), (yX5_foresee, cX5_foresee, 2, none), (yX5_laidAsItIs, cX5_laidAsItIs, 2, some .int), (yX5_laidWith, cX5_laidWith, 4, some .int), (yX5_passWithMixing, cX5_passWithMixing, 3, none), (yX5_bestSetting, cX5_bestSetting, 8, some .int), (yX5_rowFitsUnits, cX5_rowFitsUnits, 3, some .boolean), (yX5_nextSeed, cX5_nextSeed, 1, some .int), (yX5_draw, cX5_draw, 2, some .int), (yX5_unitsOf, cX5_unitsOf, 1, some .int), (yX5_statementComes, cX5_statementComes, 3, some .boolean)]
def mT4 : List (MethodName × ByteArray × Nat × Option FieldType) := [(yX5_settingComes, cX5_settingComes, 3, some .boolean), (yX6_no, cX6_no, 2, some .int), (yX6_lower, cX6_lower, 2, some .int), (yX6_isIn, cX6_isIn, 3, some .boolean), (yX6_bound, cX6_bound, 3, some .int), (yX6_isLayer, cX6_isLayer, 2, some .boolean), (yX6_leastOf, cX6_leastOf, 1, some .int), (yX6_mostOf, cX6_mostOf, 1, some .int), (yX6_letter, cX6_letter, 3, some .int), (yX6_next, cX6_next, 1, some .int), (yX6_readsDigits, cX6_readsDigits, 5, some .boolean), (yX6_layerOf, cX6_layerOf, 1, some .int), (yX6_ruleOf, cX6_ruleOf, 1, some .int), (yX6_readsKind, cX6_readsKind, 3, some .boolean), (yX6_readsAll, cX6_readsAll, 3, some .boolean), (yX6_statement, cX6_statement, 2, some .boolean), (yX6_comesLayer, cX6_comesLayer, 2, some .boolean), (yX6_isBusy, cX6_isBusy, 2, some .boolean), (yX6_comesSet, cX6_comesSet, 3, some .boolean), (yX6_comes, cX6_comes, 3, some .boolean)]
def mT5 : List (MethodName × ByteArray × Nat × Option FieldType) := [(yX6_site, cX6_site, 3, some .int), (yX6_passes, cX6_passes, 3, none), (yX6_passOne, cX6_passOne, 3, some .int), (yX6_passesAll, cX6_passesAll, 3, none), (yX6_image, cX6_image, 1, some .int), (yX6_on, cX6_on, 1, some .int), (yX6_bricksOf, cX6_bricksOf, 3, some .int), (yX6_unitsOf, cX6_unitsOf, 1, some .int), (yX6_wouldLay, cX6_wouldLay, 2, some .int), (yX6_lesser, cX6_lesser, 2, some .int), (yX6_lays, cX6_lays, 2, some .int), (yX6_isWanting, cX6_isWanting, 3, some .boolean), (yX6_emptyBy, cX6_emptyBy, 2, some .int), (yX6_lastsBy, cX6_lastsBy, 2, some .int), (yX6_keyOf, cX6_keyOf, 2, some .int), (yX6_served, cX6_served, 3, some .int), (yX6_keyBy, cX6_keyBy, 2, some .int), (yX6_begins, cX6_begins, 4, none), (yX6_tells, cX6_tells, 2, none), (yX6_starts, cX6_starts, 4, none)]
def mT6 : List (MethodName × ByteArray × Nat × Option FieldType) := [(yX6_heldBy, cX6_heldBy, 3, some .int), (yX6_comesThere, cX6_comesThere, 3, none), (yX6_ends, cX6_ends, 2, none), (yX6_layerGoes, cX6_layerGoes, 4, none), (yX6_goes, cX6_goes, 4, none), (yX6_stoodAll, cX6_stoodAll, 3, some .int), (yX6_clearsCounts, cX6_clearsCounts, 2, none), (yX6_goesMinutes, cX6_goesMinutes, 3, none), (yX6_goesBy, cX6_goesBy, 2, none), (yX6_allMuck, cX6_allMuck, 3, some .int), (yX6_minds, cX6_minds, 2, none), (yX6_layer, cX6_layer, 3, some .int), (yX6_put, cX6_put, 6, some .int), (yX6_set, cX6_set, 5, some .int), (yX6_go, cX6_go, 3, some .int), (yX6_mates, cX6_mates, 3, some .int), (yX6_total, cX6_total, 4, some .int), (yX6_stood, cX6_stood, 4, some .int), (yX6_left, cX6_left, 6, some .int), (yX6_bestRule, cX6_bestRule, 9, some .int)]
def mT7 : List (MethodName × ByteArray × Nat × Option FieldType) := [(yX6_laidWith, cX6_laidWith, 5, some .int), (yX6_bestHod, cX6_bestHod, 7, some .int), (yX6_bestBatch, cX6_bestBatch, 7, some .int), (yX6_laidIn, cX6_laidIn, 2, some .int), (yX6_mate, cX6_mate, 5, some .int), (yX6_hoist, cX6_hoist, 4, some .int), (yX6_ahead, cX6_ahead, 6, some .int), (yX6_inStep, cX6_inStep, 3, some .int), (yX6_standsOf, cX6_standsOf, 4, some .int), (yX6_keeps, cX6_keeps, 5, some .int), (yX6_emptyFirst, cX6_emptyFirst, 2, some .int), (yX6_laidDry, cX6_laidDry, 3, some .int), (yX6_tea, cX6_tea, 6, some .int), (yX6_fault, cX6_fault, 5, some .int), (yX6_watered, cX6_watered, 7, some .int), (yX6_badly, cX6_badly, 4, some .int), (yX6_row, cX6_row, 3, some .int), (yX6_judge, cX6_judge, 3, some .int), (yX6_draw, cX6_draw, 2, some .int), (yX6_lots, cX6_lots, 7, some .int)]
def mT8 : List (MethodName × ByteArray × Nat × Option FieldType) := [(yX6_count, cX6_count, 2, some .int)]
def mT : List (MethodName × ByteArray × Nat × Option FieldType) := mT0 ++ (mT1 ++ (mT2 ++ (mT3 ++ (mT4 ++ (mT5 ++ (mT6 ++ (mT7 ++ (mT8))))))))
/-- class, locals, answer (0 void, 1 int, 2 boolean), level, static, parameters -/
def mIs : List (Nat × Nat × Nat × Nat × Bool × Nat) := [(0, 2, 0, 0, false, 1), (0, 5, 0, 1, false, 4), (0, 2, 1, 0, true, 2), (0, 2, 1, 0, false, 1), (0, 1, 1, 0, false, 0), (0, 5, 1, 1, false, 1), (0, 3, 1, 0, false, 1), (0, 3, 1, 0, false, 1), (1, 2, 0, 0, false, 1), (1, 3, 0, 0, false, 2), (1, 4, 0, 0, false, 3), (2, 3, 0, 1, false, 1), (2, 2, 2, 0, false, 1), (2, 2, 2, 0, false, 1), (2, 2, 2, 0, false, 0), (2, 2, 0, 1, false, 0), (2, 2, 1, 0, false, 1), (2, 3, 0, 0, false, 2), (2, 5, 2, 2, false, 4), (2, 3, 1, 0, false, 0), (2, 3, 0, 3, false, 1), (2, 4, 0, 1, false, 2), (2, 5, 1, 2, false, 0), (2, 3, 2, 0, false, 1), (2, 3, 1, 1, false, 1), (2, 5, 0, 2, false, 0), (2, 2, 0, 2, false, 1), (2, 3, 0, 1, false, 1), (3, 1, 0, 0, false, 0), (3, 2, 0, 0, false, 1), (3, 3, 0, 0, false, 2), (4, 2, 0, 0, false, 1), (4, 2, 1, 0, false, 1), (4, 5, 1, 1, false, 2), (4, 4, 1, 5, false, 0), (4, 2, 1, 1, false, 1), (4, 4, 2, 4, false, 2), (5, 2, 1, 1, false, 1), (5, 4, 1, 6, false, 0), (5, 4, 1, 1, false, 2), (5, 7, 1, 1, false, 3), (5, 5, 1, 1, false, 2), (5, 2, 1, 4, false, 1), (5, 4, 1, 1, false, 2), (5, 4, 1, 5, false, 2), (5, 4, 1, 5, false, 2), (5, 6, 1, 5, false, 3), (5, 9, 1, 5, false, 1), (5, 3, 1, 6, false, 1), (5, 3, 1, 6, false, 1), (5, 3, 1, 6, false, 1), (5, 3, 1, 6, false, 1), (5, 6, 1, 5, false, 2), (5, 3, 1, 5, false, 1), (5, 4, 1, 4, false, 1), (5, 2, 1, 5, false, 1), (5, 6, 1, 6, false, 2), (5, 6, 1, 5, false, 3), (5, 7, 1, 6, false, 3), (5, 3, 1, 1, false, 0), (5, 2, 1, 1, false, 1), (5, 3, 1, 5, false, 0), (5, 8, 1, 4, false, 2), (5, 1, 1, 2, false, 0), (5, 1, 1, 2, false, 0), (5, 2, 1, 0, false, 1), (5, 3, 1, 0, false, 1), (5, 3, 1, 0, true, 3), (5, 3, 1, 0, true, 3), (5, 5, 1, 1, false, 3), (5, 2, 0, 4, false, 1), (5, 2, 1, 5, false, 1), (5, 4, 1, 4, false, 3), (5, 3, 0, 4, false, 2), (5, 8, 1, 5, false, 3), (5, 3, 2, 0, false, 1), (5, 1, 1, 0, true, 1), (5, 2, 1, 0, true, 2), (5, 1, 1, 0, true, 1), (5, 3, 2, 4, false, 1), (5, 3, 2, 1, false, 2), (6, 2, 1, 0, false, 1), (6, 2, 1, 0, false, 1), (6, 3, 2, 0, true, 3), (6, 3, 1, 0, true, 3), (6, 2, 2, 0, false, 1), (6, 1, 1, 0, true, 1), (6, 1, 1, 0, true, 1), (6, 3, 1, 1, false, 1), (6, 1, 1, 0, false, 0), (6, 5, 2, 1, false, 2), (6, 1, 1, 0, true, 1), (6, 1, 1, 0, true, 1), (6, 3, 2, 0, false, 2), (6, 3, 2, 2, false, 2), (6, 2, 2, 3, false, 0), (6, 2, 2, 1, false, 1), (6, 2, 2, 0, false, 0), (6, 3, 2, 1, false, 2), (6, 3, 2, 9, false, 1), (6, 3, 1, 10, false, 0), (6, 3, 0, 0, false, 1), (6, 3, 1, 0, false, 1), (6, 3, 0, 1, false, 2), (6, 1, 1, 2, false, 0), (6, 1, 1, 2, false, 0), (6, 3, 1, 0, false, 1), (6, 1, 1, 0, true, 1), (6, 2, 1, 1, false, 1), (6, 2, 1, 0, true, 2), (6, 2, 1, 2, false, 1), (6, 3, 2, 0, false, 1), (6, 2, 1, 1, false, 1), (6, 2, 1, 1, false, 1), (6, 2, 1, 2, false, 1), (6, 3, 1, 4, false, 0), (6, 2, 1, 3, false, 1), (6, 4, 0, 0, false, 3), (6, 2, 0, 0, false, 1), (6, 4, 0, 5, false, 1), (6, 3, 1, 1, false, 2), (6, 3, 0, 2, false, 1), (6, 2, 0, 3, false, 1), (6, 4, 0, 3, false, 1), (6, 4, 0, 6, false, 0), (6, 3, 1, 0, false, 0), (6, 2, 0, 0, false, 0), (6, 3, 0, 7, false, 1), (6, 2, 0, 8, false, 1), (6, 3, 1, 0, false, 0), (6, 2, 0, 8, false, 1), (6, 3, 1, 2, false, 2), (6, 6, 1, 1, false, 3), (6, 5, 1, 1, false, 2), (6, 3, 1, 9, false, 1), (6, 3, 1, 1, false, 2), (6, 4, 1, 9, false, 2), (6, 4, 1, 9, false, 2), (6, 6, 1, 8, false, 3), (6, 9, 1, 9, false, 1), (6, 5, 1, 9, false, 3), (6, 7, 1, 10, false, 1), (6, 7, 1, 10, false, 1), (6, 2, 1, 9, false, 1), (6, 5, 1, 10, false, 1), (6, 4, 1, 10, false, 1), (6, 6, 1, 9, false, 2), (6, 3, 1, 9, false, 1), (6, 4, 1, 8, false, 2), (6, 5, 1, 9, false, 1), (6, 2, 1, 9, false, 1), (6, 3, 1, 9, false, 2), (6, 6, 1, 10, false, 2), (6, 5, 1, 9, false, 3), (6, 7, 1, 10, false, 3), (6, 4, 1, 1, false, 0), (6, 3, 1, 1, false, 1), (6, 3, 1, 9, false, 0), (6, 2, 1, 0, false, 1), (6, 7, 1, 8, false, 2), (6, 2, 1, 1, false, 1)]
/-- places in lw_tbl: code, instanceMethod or static, selects, initialized -/
def mPs : List (Nat × Nat × Nat × Nat) := [(443, 441, 442, 65), (469, 467, 468, 65), (472, 471, 0, 65), (554, 552, 553, 65), (521, 519, 520, 65), (550, 548, 549, 65), (570, 568, 569, 65), (574, 572, 573, 65), (447, 445, 446, 66), (534, 532, 533, 66), (542, 540, 541, 66), (439, 437, 438, 63), (530, 528, 529, 63), (497, 495, 496, 63), (479, 477, 478, 63), (680, 678, 679, 63), (595, 593, 594, 63), (492, 490, 491, 63), (462, 460, 461, 63), (615, 613, 614, 63), (501, 499, 500, 63), (526, 525, 7, 63), (509, 508, 4, 63), (513, 512, 5, 63), (517, 516, 6, 63), (546, 545, 8, 63), (562, 561, 9, 63), (566, 565, 10, 63), (505, 503, 504, 64), (538, 536, 537, 64), (558, 556, 557, 64), (327, 325, 326, 67), (343, 341, 342, 67), (458, 456, 457, 67), (335, 333, 334, 67), (339, 337, 338, 67), (347, 346, 1, 67), (319, 317, 318, 62), (331, 329, 330, 62), (581, 579, 580, 62), (587, 585, 586, 62), (591, 589, 590, 62), (599, 597, 598, 62), (603, 601, 602, 62), (607, 605, 606, 62), (619, 617, 618, 62), (623, 621, 622, 62), (631, 629, 630, 62), (639, 637, 638, 62), (647, 645, 646, 62), (651, 649, 650, 62), (660, 658, 659, 62), (664, 662, 663, 62), (672, 670, 671, 62), (676, 674, 675, 62), (684, 682, 683, 62), (688, 686, 687, 62), (696, 694, 695, 62), (700, 698, 699, 62), (704, 702, 703, 62), (713, 711, 712, 62), (717, 715, 716, 62), (721, 719, 720, 62), (734, 732, 733, 62), (738, 736, 737, 62), (742, 740, 741, 62), (323, 322, 0, 62), (465, 464, 0, 62), (667, 666, 0, 62), (627, 626, 12, 62), (611, 610, 11, 62), (656, 655, 15, 62), (635, 634, 13, 62), (692, 691, 16, 62), (643, 642, 14, 62), (709, 708, 17, 62), (724, 723, 0, 62), (729, 728, 0, 62), (475, 474, 0, 62), (451, 450, 2, 62), (483, 482, 3, 62), (893, 892, 18, 68), (1126, 1125, 56, 68), (923, 922, 0, 68), (889, 888, 0, 68), (1066, 1065, 52, 68), (953, 952, 0, 68), (956, 955, 0, 68), (886, 884, 885, 68), (905, 904, 20, 68), (920, 919, 23, 68), (912, 911, 0, 68), (926, 925, 0, 68), (916, 915, 22, 68), (909, 908, 21, 68), (901, 900, 19, 68), (946, 945, 28, 68), (960, 959, 30, 68), (950, 949, 29, 68), (942, 941, 27, 68), (897, 895, 896, 68), (934, 933, 25, 68), (938, 937, 26, 68), (930, 929, 24, 68), (1054, 1052, 1053, 68), (1058, 1056, 1057, 68), (1015, 1014, 43, 68), (1018, 1017, 0, 68), (1034, 1033, 47, 68), (1007, 1006, 0, 68), (1038, 1037, 48, 68), (992, 991, 38, 68), (1004, 1003, 41, 68), (1011, 1010, 42, 68), (1000, 999, 40, 68), (988, 987, 37, 68), (996, 995, 39, 68), (1022, 1021, 44, 68), (1026, 1025, 45, 68), (984, 983, 36, 68), (1050, 1049, 51, 68), (1046, 1045, 50, 68), (1042, 1041, 49, 68), (1030, 1029, 46, 68), (976, 975, 34, 68), (980, 979, 35, 68), (972, 971, 33, 68), (968, 967, 32, 68), (964, 963, 31, 68), (1094, 1093, 54, 68), (1090, 1089, 53, 68), (1062, 1060, 1061, 68), (1070, 1068, 1069, 68), (1074, 1072, 1073, 68), (1078, 1076, 1077, 68), (1082, 1080, 1081, 68), (1086, 1084, 1085, 68), (1098, 1096, 1097, 68), (1102, 1100, 1101, 68), (1106, 1104, 1105, 68), (1114, 1113, 55, 68), (1110, 1108, 1109, 68), (1118, 1116, 1117, 68), (1131, 1130, 57, 68), (1122, 1120, 1121, 68), (1135, 1133, 1134, 68), (1139, 1137, 1138, 68), (1143, 1141, 1142, 68), (1151, 1150, 58, 68), (1147, 1145, 1146, 68), (1155, 1153, 1154, 68), (1163, 1162, 59, 68), (1159, 1157, 1158, 68), (1167, 1165, 1166, 68), (1171, 1169, 1170, 68), (1175, 1173, 1174, 68), (1179, 1177, 1178, 68), (1183, 1181, 1182, 68), (1191, 1190, 60, 68), (1187, 1185, 1186, 68), (1198, 1196, 1197, 68)]
def mTy (y : Nat) : MethodName × ByteArray × Nat × Option FieldType := mT.getD y (yX0_become, cX0_become, 2, none)
def mN (y : Nat) : MethodName := (mTy y).1
def cod (y : Nat) : ByteArray := (mTy y).2.1
def mI (y : Nat) : Nat × Nat × Nat × Nat × Bool × Nat := mIs.getD y (0, 0, 0, 0, false, 0)
def mP (y : Nat) : Nat × Nat × Nat × Nat := mPs.getD y (0, 0, 0, 0)
def mcl (y : Nat) : Nat := (mI y).1
def mxL (y : Nat) : Nat := (mI y).2.1
def mrt (y : Nat) : Nat := (mI y).2.2.1
def lvl (y : Nat) : Nat := (mI y).2.2.2.1
def mst (y : Nat) : Bool := (mI y).2.2.2.2.1
def mnp (y : Nat) : Nat := (mI y).2.2.2.2.2
def rtT (y : Nat) : Option FieldType := (mTy y).2.2.2
def clR (c : Nat) : String := ([RX0, RX1, RX2, RX3, RX4, RX5, RX6] : List String).getD c RX0
def clT (c : Nat) : u_T := ([TX0, TX1, TX2, TX3, TX4, TX5, TX6] : List u_T).getD c TX0
def clN (c : Nat) : Nat := ([8, 4, 16, 11, 2, 8, 44] : List Nat).getD c 0
def cKi (c : Nat) : Nat := ([2, 4, 0, 5, 8, 7, 12] : List Nat).getD c 99
/-- field links: own class, index; class, slot, nest mate (1), place in lw_tbl -/
def fls : List (Nat × Nat × Nat × Nat × Nat × Nat) := [(0, 9, 0, 0, 0, 153), (0, 15, 0, 1, 0, 155), (0, 18, 0, 2, 0, 158), (0, 21, 0, 3, 0, 159), (0, 24, 0, 4, 0, 161), (0, 27, 0, 5, 0, 164), (0, 30, 0, 6, 0, 167), (0, 33, 0, 7, 0, 170), (1, 11, 1, 0, 0, 195), (1, 15, 1, 1, 0, 197), (1, 18, 1, 2, 0, 200), (1, 21, 1, 3, 0, 203), (2, 11, 2, 0, 0, 215), (2, 17, 2, 1, 0, 217), (2, 23, 2, 2, 0, 219), (2, 27, 2, 3, 0, 221), (2, 30, 2, 4, 0, 223), (2, 33, 2, 5, 0, 225), (2, 36, 2, 6, 0, 226), (2, 39, 2, 7, 0, 227), (2, 42, 2, 8, 0, 228), (2, 45, 2, 9, 0, 230), (2, 48, 2, 10, 0, 232), (2, 51, 2, 11, 0, 234), (2, 54, 2, 12, 0, 236), (2, 57, 2, 13, 0, 238), (2, 63, 2, 14, 0, 240), (2, 69, 2, 15, 0, 242), (2, 82, 1, 0, 1, 196), (2, 96, 0, 4, 1, 163), (2, 102, 0, 6, 1, 169), (2, 105, 0, 7, 1, 171), (2, 108, 3, 0, 1, 101), (2, 125, 3, 1, 1, 104), (2, 132, 0, 5, 1, 166), (2, 150, 1, 2, 1, 202), (2, 153, 0, 1, 1, 157), (2, 165, 1, 1, 1, 199), (2, 175, 3, 8, 1, 119), (2, 178, 1, 3, 1, 205), (3, 9, 3, 9, 0, 120), (3, 15, 3, 0, 0, 100), (3, 19, 3, 1, 0, 102), (3, 22, 3, 2, 0, 105), (3, 25, 3, 3, 0, 107), (3, 28, 3, 4, 0, 109), (3, 31, 3, 5, 0, 111), (3, 34, 3, 6, 0, 113), (3, 37, 3, 7, 0, 115), (3, 40, 3, 8, 0, 117), (3, 43, 3, 10, 0, 122), (4, 9, 4, 0, 0, 283), (4, 15, 4, 1, 0, 284), (5, 10, 5, 0, 0, 291), (5, 16, 5, 1, 0, 292), (5, 19, 5, 2, 0, 293), (5, 22, 5, 3, 0, 294), (5, 29, 5, 4, 0, 295), (5, 33, 5, 5, 0, 296), (5, 37, 5, 6, 0, 297), (5, 41, 5, 7, 0, 298), (5, 48, 4, 1, 1, 285), (5, 73, 2, 0, 1, 216), (5, 77, 0, 0, 1, 154), (5, 82, 0, 1, 1, 156), (5, 85, 0, 4, 1, 162), (5, 88, 0, 5, 1, 165), (5, 91, 2, 10, 1, 233), (5, 97, 0, 3, 1, 160), (5, 127, 2, 15, 1, 243), (5, 131, 3, 1, 1, 103), (5, 136, 2, 3, 1, 222), (5, 139, 2, 2, 1, 220), (5, 143, 1, 1, 1, 198), (5, 148, 1, 2, 1, 201), (5, 151, 1, 3, 1, 204), (5, 157, 3, 2, 1, 106), (5, 160, 3, 6, 1, 114), (5, 163, 3, 7, 1, 116), (5, 166, 3, 8, 1, 118), (5, 172, 0, 6, 1, 168), (5, 189, 2, 1, 1, 218), (5, 195, 3, 3, 1, 108), (5, 201, 3, 4, 1, 110), (5, 204, 3, 5, 1, 112), (5, 210, 0, 7, 1, 172), (5, 213, 2, 13, 1, 239), (5, 216, 2, 4, 1, 224), (5, 225, 3, 10, 1, 123), (5, 228, 3, 9, 1, 121), (5, 238, 2, 8, 1, 229), (5, 241, 2, 11, 1, 235), (5, 244, 2, 9, 1, 231), (5, 247, 2, 12, 1, 237), (5, 250, 2, 14, 1, 241), (6, 7, 6, 0, 0, 750), (6, 13, 6, 1, 0, 751), (6, 16, 6, 2, 0, 752), (6, 19, 6, 3, 0, 753), (6, 22, 6, 4, 0, 754), (6, 25, 6, 5, 0, 755), (6, 28, 6, 6, 0, 756), (6, 31, 6, 7, 0, 757), (6, 34, 6, 8, 0, 758), (6, 37, 6, 9, 0, 759), (6, 40, 6, 14, 0, 764), (6, 43, 6, 15, 0, 765), (6, 46, 6, 16, 0, 766), (6, 49, 6, 17, 0, 767), (6, 52, 6, 21, 0, 771), (6, 55, 6, 25, 0, 775), (6, 58, 6, 26, 0, 776), (6, 61, 6, 27, 0, 777), (6, 64, 6, 28, 0, 778), (6, 67, 6, 41, 0, 791), (6, 70, 6, 12, 0, 762), (6, 75, 6, 38, 0, 788), (6, 79, 6, 10, 0, 760), (6, 86, 6, 18, 0, 768), (6, 93, 6, 19, 0, 769), (6, 117, 6, 20, 0, 770), (6, 140, 6, 11, 0, 761), (6, 157, 6, 23, 0, 773), (6, 161, 6, 24, 0, 774), (6, 171, 6, 13, 0, 763), (6, 174, 6, 22, 0, 772), (6, 205, 6, 33, 0, 783), (6, 211, 6, 39, 0, 789), (6, 218, 6, 31, 0, 781), (6, 224, 6, 30, 0, 780), (6, 227, 6, 32, 0, 782), (6, 230, 6, 37, 0, 787), (6, 242, 6, 29, 0, 779), (6, 254, 6, 35, 0, 785), (6, 257, 6, 36, 0, 786), (6, 260, 6, 34, 0, 784), (6, 278, 6, 40, 0, 790), (6, 302, 6, 42, 0, 792), (6, 305, 6, 43, 0, 793)]
def fre (own idx : Nat) : Option (Nat × Nat × Nat × Nat) := (fls.find? (fun r => r.1 == own && r.2.1 == idx)).map (fun r => r.2.2)
/-- calls: own class, index; method (1000 Math.min, 1001 String.indexOf), nest mate (1), place in lw_tbl -/
def cls_ : List (Nat × Nat × Nat × Nat × Nat) := [(0, 36, 2, 0, 470), (0, 40, 78, 1, 473), (0, 44, 1000, 0, 522), (0, 49, 3, 0, 551), (2, 75, 0, 0, 440), (2, 79, 8, 0, 444), (2, 85, 9, 0, 531), (2, 89, 67, 1, 463), (2, 93, 1, 0, 466), (2, 99, 28, 0, 502), (2, 111, 22, 0, 506), (2, 115, 21, 0, 523), (2, 119, 25, 0, 543), (2, 122, 26, 0, 559), (2, 128, 12, 0, 527), (2, 135, 29, 0, 535), (2, 139, 10, 0, 539), (2, 143, 23, 0, 510), (2, 146, 24, 0, 514), (2, 156, 4, 0, 518), (2, 159, 5, 0, 547), (2, 162, 30, 0, 555), (2, 166, 27, 0, 563), (2, 169, 1000, 0, 575), (2, 182, 6, 0, 567), (2, 185, 7, 0, 571), (4, 19, 32, 0, 340), (4, 23, 35, 0, 336), (4, 26, 36, 0, 344), (4, 32, 1001, 0, 349), (5, 44, 66, 0, 320), (5, 51, 31, 0, 324), (5, 55, 34, 0, 332), (5, 59, 11, 0, 436), (5, 63, 79, 0, 448), (5, 67, 35, 0, 576), (5, 70, 12, 0, 582), (5, 94, 3, 0, 583), (5, 100, 67, 0, 488), (5, 104, 14, 0, 476), (5, 114, 16, 0, 592), (5, 117, 17, 0, 489), (5, 121, 13, 0, 494), (5, 124, 20, 0, 498), (5, 154, 70, 0, 608), (5, 169, 19, 0, 612), (5, 173, 69, 0, 624), (5, 176, 72, 0, 632), (5, 179, 74, 0, 640), (5, 183, 71, 0, 653), (5, 186, 68, 0, 665), (5, 192, 7, 0, 668), (5, 198, 15, 0, 677), (5, 207, 73, 0, 689), (5, 219, 78, 0, 705), (5, 222, 75, 0, 706), (5, 231, 76, 0, 722), (5, 234, 77, 0, 727), (5, 258, 32, 0, 452), (5, 263, 1001, 0, 454), (5, 268, 33, 0, 455), (5, 271, 18, 0, 459), (5, 275, 80, 0, 480), (6, 82, 84, 0, 887), (6, 89, 81, 0, 890), (6, 96, 89, 0, 902), (6, 100, 83, 0, 921), (6, 104, 91, 0, 910), (6, 107, 93, 0, 913), (6, 111, 90, 0, 917), (6, 114, 92, 0, 924), (6, 120, 94, 0, 906), (6, 123, 86, 0, 951), (6, 126, 87, 0, 954), (6, 129, 97, 0, 957), (6, 133, 96, 0, 943), (6, 137, 98, 0, 947), (6, 143, 128, 0, 961), (6, 147, 95, 0, 898), (6, 150, 103, 0, 927), (6, 154, 99, 0, 939), (6, 164, 101, 0, 931), (6, 168, 102, 0, 935), (6, 177, 106, 0, 1012), (6, 180, 108, 0, 1031), (6, 183, 107, 0, 1016), (6, 186, 109, 0, 1005), (6, 190, 112, 0, 1001), (6, 193, 113, 0, 1008), (6, 196, 111, 0, 989), (6, 199, 116, 0, 993), (6, 202, 114, 0, 997), (6, 208, 115, 0, 985), (6, 214, 117, 0, 1019), (6, 221, 118, 0, 1023), (6, 233, 120, 0, 1047), (6, 236, 121, 0, 1043), (6, 239, 110, 0, 1035), (6, 245, 125, 0, 977), (6, 248, 119, 0, 981), (6, 251, 123, 0, 1027), (6, 263, 122, 0, 1039), (6, 266, 126, 0, 969), (6, 269, 124, 0, 973), (6, 272, 127, 0, 965), (6, 275, 129, 0, 1091), (6, 281, 85, 0, 1063), (6, 284, 130, 0, 1087), (6, 287, 140, 0, 1111), (6, 290, 82, 0, 1123), (6, 293, 143, 0, 1128), (6, 296, 148, 0, 1148), (6, 299, 151, 0, 1160), (6, 311, 158, 0, 1188)]
def cre (own idx : Nat) : Option (Nat × Nat × Nat) := (cls_.find? (fun r => r.1 == own && r.2.1 == idx)).map (fun r => r.2.2)
def kos : List (Nat × Nat × Int32 × Nat) := [(2, 62, 2147483647, 93), (5, 182, 1000000000, 652), (5, 253, 1664525, 725), (5, 254, 1013904223, 726), (5, 257, 2147483647, 730), (6, 74, 100000, 749), (6, 78, 1000000000, 1127), (6, 308, 1664525, 1192), (6, 309, 1013904223, 1193), (6, 310, 2147483647, 1194)]
def kre (own idx : Nat) : Option (Int32 × Nat) := (kos.find? (fun r => r.1 == own && r.2.1 == idx)).map (fun r => r.2.2)
def sre (own idx : Nat) : Option Nat := if own = 4 ∧ idx = 30 then some 35 else if own = 4 ∧ idx = 37 then some 36 else if own = 5 ∧ idx = 261 then some 35 else if own = 5 ∧ idx = 279 then some 36 else none
def gre (own idx : Nat) : Option (Nat × Nat) := if own = 5 ∧ idx = 108 then some (33, 484) else if own = 5 ∧ idx = 111 then some (34, 486) else none
/-- where a field that holds a reference leads -/
def tgs : List (Nat × Nat × (Nat → Cd)) := [(0, 0, fun g => (g, 1, 0)), (0, 2, fun g => (g, 3, 0)), (0, 15, fun g => (g, 5, 0)), (5, 9, fun g => (g, 6, 0)), (7, 0, fun g => (1, 0, 0)), (7, 1, fun g => (2, 0, 0)), (7, 2, fun g => (3, 0, 0)), (7, 4, fun g => (0, 8, 0)), (7, 5, fun g => (0, 10, 0)), (7, 7, fun g => (0, 11, 0)), (8, 0, fun g => (0, 9, 0)), (12, 0, fun g => (4, 13, 0)), (12, 1, fun g => (4, 14, 0)), (12, 2, fun g => (4, 15, 0)), (12, 3, fun g => (4, 16, 0)), (12, 4, fun g => (4, 17, 0)), (12, 5, fun g => (4, 18, 0)), (12, 6, fun g => (4, 19, 0)), (12, 7, fun g => (4, 20, 0)), (12, 8, fun g => (4, 21, 0)), (12, 9, fun g => (4, 22, 0)), (12, 14, fun g => (4, 23, 0)), (12, 15, fun g => (4, 24, 0)), (12, 16, fun g => (4, 25, 0)), (12, 17, fun g => (4, 26, 0)), (12, 21, fun g => (4, 27, 0)), (12, 25, fun g => (4, 28, 0)), (12, 26, fun g => (4, 29, 0)), (12, 27, fun g => (4, 30, 0)), (12, 28, fun g => (4, 31, 0)), (12, 41, fun g => (4, 32, 0))]
def tgf (k j : Nat) : Option (Nat → Cd) := (tgs.find? (fun r => r.1 == k && r.2.1 == j)).map (fun r => r.2.2)
/-- boolean fields, by kind and slot -/
def isZ (k j : Nat) : Bool := (k == 4 && j == 3) || (k == 7 && j == 3) || (k == 12 && j == 22) || (k == 12 && j == 23)
def alens : List Nat := [0, 0, 0, 0, 0, 0, 20, 0, 0, 96, 20, 6, 0, 7, 7, 4, 4, 4, 4, 3, 3, 3, 3, 96, 48, 48, 192, 100, 4, 4, 4, 800, 20, 7, 7, 0, 0]
def alen (k : Nat) : Nat := alens.getD k 0
/-- what the constant rows hold -/
def stV (k n : Nat) : Int32 := if k = 33 then ([1, 10, 1, 1, 20, 0, 0] : List Int32).getD n 0 else ([3, 40, 9, 20, 120, 120, 5] : List Int32).getD n 0
/-- indexOf in a constant text -/
def ixB (k : Nat) : List Int32 := if k = 35 then [108, 99, 119, 116, 98, 115] else [102, 101, 114, 113, 115, 108]
def ixF (c : Int32) : List Int32 → Nat → Int32
  | [], _ => -1
  | b :: r, n => if b = c then nI n else ixF c r (n + 1)
def ix (k : Nat) (c : Int32) : Int32 := ixF c (ixB k) 0
def cnB : _root_.Jvm.ClassFile.Cond → Int32 → Int32 → Bool
  | .eq, a, b => decide (a = b)
  | .ne, a, b => decide (¬ a = b)
  | .lt, a, b => decide (a < b)
  | .ge, a, b => decide (b ≤ a)
  | .gt, a, b => decide (b < a)
  | .le, a, b => decide (a ≤ b)
def vpB (i : Int32) (n : Nat) : Bool := decide (¬ (i < 0 ∨ n ≤ i.toNatClampNeg))
abbrev Oc : Type := Option (Rs ⊕ Ss)
def nx (pc : Nat) (ls st : List AV) (M : Mm) : Oc := some (.inr (pc, ls, st, M))
def jmp (pc : Nat) (off : Int) (ls st : List AV) (M : Mm) : Oc := if 0 ≤ (pc : Int) + off then nx ((pc : Int) + off).toNat ls st M else none
/-- two ints on the stack -/
def bin (f : Int32 → Int32 → Option Int32) (pc : Nat) (ls st : List AV) (M : Mm) : Oc := match st with
  | some (.inl b) :: some (.inl a) :: r => (match f a b with | some x => nx (pc + 1) ls (aI x :: r) M | none => none)
  | _ => none
def una (f : Int32 → Int32) (pc : Nat) (ls st : List AV) (M : Mm) : Oc := match st with
  | some (.inl a) :: r => nx (pc + 1) ls (aI (f a) :: r) M
  | _ => none
def ldi (i n pc : Nat) (ls st : List AV) (M : Mm) : Oc := match ls[i]? with
  | some (some (.inl x)) => nx (pc + n) ls (aI x :: st) M
  | _ => none
def lda (i n pc : Nat) (ls st : List AV) (M : Mm) : Oc := match ls[i]? with
  | some (some (.inr c)) => nx (pc + n) ls (some (.inr c) :: st) M
  | _ => none
def sti (i n pc : Nat) (ls st : List AV) (M : Mm) : Oc := match st with
  | some (.inl x) :: r => if i < ls.length then nx (pc + n) (ls.set i (aI x)) r M else none
  | _ => none
def sta (i n pc : Nat) (ls st : List AV) (M : Mm) : Oc := match st with
  | some (.inr c) :: r => if i < ls.length then nx (pc + n) (ls.set i (some (.inr c))) r M else none
  | _ => none
def inc (i : Nat) (k : Int) (pc : Nat) (ls st : List AV) (M : Mm) : Oc := match ls[i]? with
  | some (some (.inl x)) => nx (pc + 3) (ls.set i (aI (x + Int32.ofInt k))) st M
  | _ => none
def if1 (cd : _root_.Jvm.ClassFile.Cond) (off : Int) (pc : Nat) (ls st : List AV) (M : Mm) : Oc := match st with
  | some (.inl a) :: r => if 0 ≤ (pc : Int) + off then (if cnB cd a 0 = true then jmp pc off ls r M else nx (pc + 3) ls r M) else none
  | _ => none
def if2 (cd : _root_.Jvm.ClassFile.Cond) (off : Int) (pc : Nat) (ls st : List AV) (M : Mm) : Oc := match st with
  | some (.inl b) :: some (.inl a) :: r => if 0 ≤ (pc : Int) + off then (if cnB cd a b = true then jmp pc off ls r M else nx (pc + 3) ls r M) else none
  | _ => none
def tsw (d lo hi : Int) (offs : Array Int) (pc : Nat) (ls st : List AV) (M : Mm) : Oc := match st with
  | some (.inl x) :: r => if x.toInt < lo ∨ hi < x.toInt then jmp pc d ls r M else (match offs[(x.toInt - lo).toNat]? with | some off => jmp pc off ls r M | none => none)
  | _ => none
def lsw (d : Int) (ps : Array (Int × Int)) (pc : Nat) (ls st : List AV) (M : Mm) : Oc := match st with
  | some (.inl x) :: r => if (ps.toList.zip (ps.toList.drop 1)).all (fun (a, next) => a.1 < next.1) = true then jmp pc (Op.lookupswitch.offset ps.toList d x.toInt) ls r M else none
  | _ => none
def dp1 (pc : Nat) (ls st : List AV) (M : Mm) : Oc := match st with
  | some a :: r => nx (pc + 1) ls (some a :: some a :: r) M
  | _ => none
def dp2 (pc : Nat) (ls st : List AV) (M : Mm) : Oc := match st with
  | some a :: some b :: r => nx (pc + 1) ls (some a :: some b :: some a :: some b :: r) M
  | _ => none
def pp1 (pc : Nat) (ls st : List AV) (M : Mm) : Oc := match st with
  | some _ :: r => nx (pc + 1) ls r M
  | _ => none
def gfd (own idx pc : Nat) (ls st : List AV) (M : Mm) : Oc := match fre own idx with
  | some (ci, j, _) => (match st with
    | some (.inr (g, k, i)) :: r => if k = cKi ci then (match tgf k j with | some f => nx (pc + 3) ls (some (.inr (f g)) :: r) M | none => nx (pc + 3) ls (aI (M g k i j) :: r) M) else none
    | _ => none)
  | _ => none
def pfd (own idx pc : Nat) (ls st : List AV) (M : Mm) : Oc := match fre own idx with
  | some (ci, j, _) => (match st with
    | some (.inl v) :: some (.inr (g, k, i)) :: r => if k = cKi ci ∧ (tgf k j).isNone = true ∧ (isZ k j = true → v = 0 ∨ v = 1) then nx (pc + 3) ls r (wr M g k i j v) else none
    | _ => none)
  | _ => none
def gst (own idx pc : Nat) (ls st : List AV) (M : Mm) : Oc := match gre own idx with
  | some (k, _) => nx (pc + 3) ls (aR 9 k 0 :: st) M
  | _ => none
def ldk (own idx n pc : Nat) (ls st : List AV) (M : Mm) : Oc := match kre own idx with
  | some (v, _) => nx (pc + n) ls (aI v :: st) M
  | none => (match sre own idx with | some k => nx (pc + n) ls (aR 9 k 0 :: st) M | none => none)
def rdA (M : Mm) (g k i n : Nat) : Int32 := if 33 ≤ k then stV k n else M g k i n
def ial (pc : Nat) (ls st : List AV) (M : Mm) : Oc := match st with
  | some (.inl i) :: some (.inr (g, k, j)) :: r => if vpB i (alen k) = true then nx (pc + 1) ls (aI (rdA M g k j i.toNatClampNeg) :: r) M else none
  | _ => none
def ias (pc : Nat) (ls st : List AV) (M : Mm) : Oc := match st with
  | some (.inl v) :: some (.inl i) :: some (.inr (g, k, j)) :: r => if vpB i (alen k) = true ∧ k < 33 then nx (pc + 1) ls r (wr M g k j i.toNatClampNeg v) else none
  | _ => none
def aal (pc : Nat) (ls st : List AV) (M : Mm) : Oc := match st with
  | some (.inl i) :: some (.inr (g, k, _)) :: r => if k = 1 ∧ vpB i 4 = true then nx (pc + 1) ls (aR g 2 i.toNatClampNeg :: r) M else if k = 3 ∧ vpB i 3 = true then nx (pc + 1) ls (aR g 4 i.toNatClampNeg :: r) M else none
  | _ => none
def aln (pc : Nat) (ls st : List AV) (M : Mm) : Oc := match st with
  | some (.inr (_, k, _)) :: r => if 0 < alen k ∧ k < 33 then nx (pc + 1) ls (aI (Int32.ofNat (alen k)) :: r) M else none
  | _ => none
def rcv (as : List AV) (ci : Nat) : Bool := match as with
  | some (.inr (_, k, _)) :: _ => k == cKi ci
  | _ => false
/-- a call: the callee's values off the stack, the last on top -/
def ivk (cal : Nat → List AV → Mm → Option Rs) (lv own idx : Nat) (stc : Bool) (pc : Nat) (ls st : List AV) (M : Mm) : Oc := match cre own idx with
  | some (y, _) =>
    if y = 1000 then (if st.length ≤ 10 ∧ stc = true then bin (fun a b => some (if b < a then b else a)) (pc + 2) ls st M else none)
    else if y = 1001 then (match st with
      | some (.inl c) :: some (.inr (_, k, _)) :: r => if (k = 35 ∨ k = 36) ∧ r.length ≤ 8 ∧ stc = false ∧ 4 ≤ lv then nx (pc + 3) ls (aI (ix k c) :: r) M else none
      | _ => none)
    else
      let n := if stc then mnp y else mnp y + 1
      if y < 161 ∧ mst y = stc ∧ n ≤ st.length ∧ (st.drop n).length ≤ 8 ∧ (stc = true ∨ rcv (st.take n).reverse (mcl y) = true) then (match cal y (st.take n).reverse M with
        | some (v, M') => if v.isNone = decide (mrt y = 0) then nx (pc + 3) ls (v.toList.map aI ++ st.drop n) M' else none
        | none => none) else none
  | _ => none
def irt (y : Nat) (st : List AV) (M : Mm) : Oc := match st with
  | [some (.inl v)] => if mrt y = 1 ∨ (mrt y = 2 ∧ (v = 0 ∨ v = 1)) then some (.inl (some v, M)) else none
  | _ => none
def stpI (cal : Nat → List AV → Mm → Option Rs) (y pc n : Nat) (ins : Instr) (ls st : List AV) (M : Mm) : Oc :=
  match ins with
  | .iconst k => nx (pc + 1) ls (aI (Int32.ofInt k) :: st) M
  | .bipush k => nx (pc + 2) ls (aI (Int8.ofInt k).toInt32 :: st) M
  | .sipush k => nx (pc + 3) ls (aI (Int16.ofInt k).toInt32 :: st) M
  | .iload_n k => ldi k 1 pc ls st M
  | .iload i => ldi i 2 pc ls st M
  | .aload_n k => lda k 1 pc ls st M
  | .aload i => lda i 2 pc ls st M
  | .istore_n k => sti k 1 pc ls st M
  | .istore i => sti i 2 pc ls st M
  | .astore_n k => sta k 1 pc ls st M
  | .astore i => sta i 2 pc ls st M
  | .iinc i k => inc i k pc ls st M
  | .iadd => bin (fun a b => some (a + b)) pc ls st M
  | .isub => bin (fun a b => some (a - b)) pc ls st M
  | .imul => bin (fun a b => some (a * b)) pc ls st M
  | .idiv => bin (fun a b => if b = 0 then none else some (a / b)) pc ls st M
  | .irem => bin (fun a b => if b = 0 then none else some (a - a / b * b)) pc ls st M
  | .iand => bin (fun a b => some (a &&& b)) pc ls st M
  | .ior => bin (fun a b => some (a ||| b)) pc ls st M
  | .ixor => bin (fun a b => some (a ^^^ b)) pc ls st M
  | .ishl => bin (fun a b => some (a <<< (b &&& 31))) pc ls st M
  | .ineg => una (fun a => -a) pc ls st M
  | .i2c => una (fun a => (a.toUInt32 % 65536).toInt32) pc ls st M
  | .ifCond c off => if1 c off pc ls st M
  | .if_icmp c off => if2 c off pc ls st M
  | .goto off => jmp pc off ls st M
  | .tableswitch d lo hi offs => tsw d lo hi offs pc ls st M
  | .lookupswitch d ps => lsw d ps pc ls st M
  | .dup => dp1 pc ls st M
  | .dup2 => dp2 pc ls st M
  | .pop => pp1 pc ls st M
  | .getfield idx => gfd (mcl y) idx pc ls st M
  | .putfield idx => pfd (mcl y) idx pc ls st M
  | .getstatic idx => gst (mcl y) idx pc ls st M
  | .ldc idx => ldk (mcl y) idx 2 pc ls st M
  | .ldc_w idx => ldk (mcl y) idx 3 pc ls st M
  | .iaload => ial pc ls st M
  | .iastore => ias pc ls st M
  | .aaload => aal pc ls st M
  | .arraylength => aln pc ls st M
  | .invokevirtual idx => ivk cal (lvl y) (mcl y) idx false pc ls st M
  | .invokestatic idx => ivk cal (lvl y) (mcl y) idx true pc ls st M
  | .ireturn => irt y st M
  | .return_ => if mrt y = 0 ∧ st = [] then some (.inl (none, M)) else none
  | _ => none
/-- the length that the rows of the kit ask for -/
def lenOk (ins : Instr) (n : Nat) : Bool :=
  match ins with
  | .bipush _ | .iload _ | .aload _ | .istore _ | .astore _ | .ldc _ => n == 2
  | .sipush _ | .iinc _ _ | .ifCond _ _ | .if_icmp _ _ | .goto _ | .getfield _ | .putfield _ | .getstatic _ | .ldc_w _ | .invokevirtual _ | .invokestatic _ => n == 3
  | .tableswitch _ _ _ _ | .lookupswitch _ _ => true
  | _ => n == 1
def stp (cal : Nat → List AV → Mm → Option Rs) (y : Nat) (q : Ss) : Oc :=
  match decode (cod y) q.1 with
  | .ok (ins, n) => if lenOk ins n = true then stpI cal y q.1 n ins q.2.1 q.2.2.1 q.2.2.2 else none
  | .error _ => none
/-! runs -/
def runN (f : Ss → Oc) : Nat → Ss → Option Rs
  | 0, _ => none
  | n + 1, s => match f s with
    | none => none
    | some (.inl r) => some r
    | some (.inr s') => runN f n s'
theorem runN_one {f : Ss → Oc} : ∀ {n : Nat} {s : Ss} {r : Rs}, runN f n s = some r → runN f (n + 1) s = some r := by
  intro n
  induction n with
  | zero => intro s r h; cases h
  | succ n ih =>
    intro s r h
    rw [runN] at h ⊢
    split at h
    · cases h
    · exact h
    · rename_i s' e
      exact ih h
theorem runN_add {f : Ss → Oc} {n : Nat} {s : Ss} {r : Rs} (h : runN f n s = some r) : ∀ k, runN f (n + k) s = some r
  | 0 => h
  | k + 1 => runN_one (runN_add h k)
theorem runN_uni {f : Ss → Oc} {n m : Nat} {s : Ss} {r q : Rs} (h : runN f n s = some r) (h2 : runN f m s = some q) : r = q := by
  have a := runN_add h m
  have b := runN_add h2 n
  rw [Nat.add_comm] at b
  exact Option.some.inj (a.symm.trans b)
noncomputable def runF (f : Ss → Oc) (s : Ss) : Option Rs := @dite (Option Rs) (∃ r, ∃ n, runN f n s = some r) (Classical.propDecidable _) (fun h => some (Classical.choose h)) (fun _ => none)
theorem runF_of {f : Ss → Oc} {s : Ss} {r : Rs} {n : Nat} (h : runN f n s = some r) : runF f s = some r := by
  have hx : ∃ r, ∃ n, runN f n s = some r := ⟨r, n, h⟩
  unfold runF
  rw [dif_pos hx]
  obtain ⟨m, hm⟩ := Classical.choose_spec hx
  exact congrArg some (runN_uni hm h)
theorem runF_some {f : Ss → Oc} {s : Ss} {r : Rs} (h : runF f s = some r) : ∃ n, runN f n s = some r := by
  unfold runF at h
  split at h
  · rename_i hx
    obtain ⟨m, hm⟩ := Classical.choose_spec hx
    cases h
    exact ⟨m, hm⟩
  · cases h
theorem runF_eq (f : Ss → Oc) (s : Ss) : runF f s = match f s with | none => none | some (.inl r) => some r | some (.inr s') => runF f s' := by
  cases e : f s with
  | none =>
    cases h : runF f s with
    | none => rfl
    | some r =>
      obtain ⟨n, hn⟩ := runF_some h
      cases n with
      | zero => cases hn
      | succ n => rw [runN, e] at hn; cases hn
  | some q =>
    cases q with
    | inl r => exact runF_of (n := 1) (by rw [runN, e])
    | inr s' =>
      show runF f s = runF f s'
      cases h : runF f s' with
      | some r =>
        obtain ⟨n, hn⟩ := runF_some h
        exact runF_of (n := n + 1) (by rw [runN, e]; exact hn)
      | none =>
        cases h2 : runF f s with
        | none => rfl
        | some r =>
          obtain ⟨n, hn⟩ := runF_some h2
          cases n with
          | zero => cases hn
          | succ n =>
            rw [runN, e] at hn
            rw [runF_of hn] at h
            cases h
/-- a callee must lie below its caller -/
def gd (cal : Nat → List AV → Mm → Option Rs) (y : Nat) : Nat → List AV → Mm → Option Rs := fun y' as M => if lvl y' < lvl y then cal y' as M else none
def ini (y : Nat) (as : List AV) (M : Mm) : Ss := (0, as ++ List.replicate (mxL y - as.length) none, [], M)
noncomputable def callL : Nat → Nat → List AV → Mm → Option Rs
  | 0 => fun _ _ _ => none
  | n + 1 => fun y as M => if lvl y = n then runF (stp (gd (callL n) y) y) (ini y as M) else callL n y as M
noncomputable def call (y : Nat) : List AV → Mm → Option Rs := callL (lvl y + 1) y
theorem callL_up {y : Nat} : ∀ {n : Nat}, lvl y < n → callL n y = call y := by
  intro n
  induction n with
  | zero => intro h; exact absurd h (Nat.not_lt_zero _)
  | succ n ih =>
    intro h
    by_cases e : lvl y = n
    · unfold call
      rw [e]
    · have : callL (n + 1) y = callL n y := by
        funext as M
        show (if lvl y = n then _ else callL n y as M) = _
        rw [if_neg e]
      rw [this]
      exact ih (by omega)
theorem gd_call (y : Nat) : gd (callL (lvl y)) y = gd call y := by
  funext y' as M
  unfold gd
  by_cases h : lvl y' < lvl y
  · rw [if_pos h, if_pos h, callL_up h]
  · rw [if_neg h, if_neg h]
noncomputable def run (y : Nat) (pc : Nat) (ls st : List AV) (M : Mm) : Option Rs := runF (stp (gd call y) y) (pc, ls, st, M)
theorem call_run (y : Nat) (as : List AV) (M : Mm) : call y as M = run y 0 (as ++ List.replicate (mxL y - as.length) none) [] M := by
  unfold call run
  show (if lvl y = lvl y then runF (stp (gd (callL (lvl y)) y) y) (ini y as M) else _) = _
  rw [if_pos rfl, gd_call]
  rfl
theorem run_step {y pc : Nat} {ls st : List AV} {M : Mm} {ins : Instr} {n : Nat} (h : decode (cod y) pc = .ok (ins, n)) (hl : lenOk ins n = true) : run y pc ls st M = match stpI (gd call y) y pc n ins ls st M with | none => none | some (.inl r) => some r | some (.inr s') => run y s'.1 s'.2.1 s'.2.2.1 s'.2.2.2 := by
  unfold run
  rw [runF_eq]
  have : stp (gd call y) y (pc, ls, st, M) = stpI (gd call y) y pc n ins ls st M := by
    unfold stp
    rw [h]
    simp only [hl, if_true]
  rw [this]
end
section
def vwCl : List vw_C := [(RX0, TX0, 8), (RX1, TX1, 4), (RX2, TX2, 16), (RX3, TX3, 11), (RX4, TX4, 2), (RX5, TX5, 8), (RX6, TX6, 44)]
def layP : List (List Nat) := [[173, 175, 177, 179, 181, 183, 185, 187], [206, 208, 210, 212], [244, 246, 248, 250, 252, 254, 256, 258, 260, 262, 264, 266, 268, 270, 272, 274], [124, 126, 128, 130, 132, 134, 136, 138, 140, 142, 144], [286, 288], [299, 301, 303, 305, 307, 309, 311, 313], [794, 796, 798, 800, 802, 804, 806, 808, 810, 812, 814, 816, 818, 820, 822, 824, 826, 828, 830, 832, 834, 836, 838, 840, 842, 844, 846, 848, 850, 852, 854, 856, 858, 860, 862, 864, 866, 868, 870, 872, 874, 876, 878, 880]]
def clTy (c : Nat) : Nat → FieldType := ([tyX0, tyX1, tyX2, tyX3, tyX4, tyX5, tyX6] : List (Nat → FieldType)).getD c tyX0
theorem vwCl_at : ∀ ci, ci < 7 → vwCl[ci]? = some (clR ci, clT ci, clN ci) := by
  intro ci h
  match ci, h with
  | 0, _ => rfl
  | 1, _ => rfl
  | 2, _ => rfl
  | 3, _ => rfl
  | 4, _ => rfl
  | 5, _ => rfl
  | 6, _ => rfl
theorem clTy_ok : ∀ ci, ci < 7 → ∀ k, k < clN ci → parseFieldDescriptor (clT ci k).2.2.1 = some (clTy ci k) := by
  intro ci h
  match ci, h with
  | 0, _ => exact tyX0_ok
  | 1, _ => exact tyX1_ok
  | 2, _ => exact tyX2_ok
  | 3, _ => exact tyX3_ok
  | 4, _ => exact tyX4_ok
  | 5, _ => exact tyX5_ok
  | 6, _ => exact tyX6_ok
theorem clNm_ok : ∀ ci, ci < 7 → ∀ a, a < clN ci → ∀ b, b < clN ci → a ≠ b → (clT ci a).2.1 ≠ (clT ci b).2.1 := by
  intro ci h
  match ci, h with
  | 0, _ => exact nmX0
  | 1, _ => exact nmX1
  | 2, _ => exact nmX2
  | 3, _ => exact nmX3
  | 4, _ => exact nmX4
  | 5, _ => exact nmX5
  | 6, _ => exact nmX6
theorem layP_ok : ∀ ci, ci < 7 → ∀ k, k < clN ci → lw_tbl[(layP.getD ci []).getD k 0]? = some (u_lay (clR ci) (clT ci) k) := by decide +kernel
theorem lay_in : ∀ ci, ci < 7 → ∀ w ∈ u_ws (clR ci) (clT ci) (clN ci), w ∈ lw_tbl := by
  intro ci h w hw
  obtain ⟨k, hk, rfl⟩ := List.mem_map.mp hw
  exact List.mem_of_getElem? (layP_ok ci h k (List.mem_range.mp hk))
/-- the words that a callee may keep -/
def gt : List Cond := lw_tbl.filter goodWord
theorem gt_of {w : Cond} {k : Nat} (h : lw_tbl[k]? = some w) (hg : goodWord w = true) : w ∈ gt := List.mem_filter.mpr ⟨List.mem_of_getElem? h, hg⟩
theorem gt_good : ∀ w ∈ gt, goodWord w = true := fun w h => (List.mem_filter.mp h).2
def mOk (y : Nat) : Bool := decide (lw_tbl[(mP y).2.1]? = some (if mst y = true then Cond.static (mN y) else Cond.instanceMethod (mN y))) && (mst y || decide (lw_tbl[(mP y).2.2.1]? = some (Cond.selects (mN y).cls (mN y) (mN y)))) && decide (lw_tbl[(mP y).2.2.2]? = some (Cond.initialized (mN y).cls))
theorem mOk_all : (List.range 161).all mOk = true := by decide +kernel
def mOd (y : Nat) : Bool := decide ((mN y).cls = clR (mcl y)) && decide ((parseMethodDescriptor (mN y).desc).map (fun d => d.parameters.length) = some (mnp y)) && plainName (mN y).cls && decide ((mN y).cls ≠ "java/lang/invoke/MethodHandle") && decide ((mN y).cls ≠ "java/lang/invoke/VarHandle")
theorem mOd_all : (List.range 161).all mOd = true := by decide +kernel
def mOn (y : Nat) : Bool := decide (mxL y ≤ 13) && decide (mnp y + (if mst y = true then 0 else 1) ≤ mxL y) && decide (mcl y < 7) && decide (mrt y < 3) && decide (lvl y ≤ 10) && decide ((mTy y).2.2.1 = mxL y) && decide (rtT y = match mrt y with | 0 => none | 1 => some .int | _ => some .boolean)
theorem mOn_all : (List.range 161).all mOn = true := by decide +kernel
/-- what the tables say of a field link, a call, a constant -/
def fOk (r : Nat × Nat × Nat × Nat × Nat × Nat) : Bool := decide (lw_tbl[r.2.2.2.2.2]? = some (if r.2.2.2.2.1 = 1 then Cond.fieldLinkNest (clR r.1) r.2.1 (clT r.2.2.1 r.2.2.2.1).1 (clT r.2.2.1 r.2.2.2.1).2.1 (clT r.2.2.1 r.2.2.2.1).2.2.1 RX5 else Cond.fieldLink (clR r.1) r.2.1 (clT r.2.2.1 r.2.2.2.1).1 (clT r.2.2.1 r.2.2.2.1).2.1 (clT r.2.2.1 r.2.2.2.1).2.2.1)) && decide (r.2.2.1 < 7) && decide (r.2.2.2.1 < clN r.2.2.1) && ((tgf (cKi r.2.2.1) r.2.2.2.1).isSome || (decide ((clT r.2.2.1 r.2.2.2.1).2.2.2 = false) && decide (clTy r.2.2.1 r.2.2.2.1 = if isZ (cKi r.2.2.1) r.2.2.2.1 = true then FieldType.boolean else FieldType.int)))
theorem fOk_all : fls.all fOk = true := by decide +kernel
def cOk (r : Nat × Nat × Nat × Nat × Nat) : Bool := if r.2.2.1 = 1000 then decide (lw_tbl[r.2.2.2.2]? = some (Cond.methodLink (clR r.1) r.2.1 Lib.Math.min.name)) else if r.2.2.1 = 1001 then decide (lw_tbl[r.2.2.2.2]? = some (Cond.methodLink (clR r.1) r.2.1 ⟨"java/lang/String", "indexOf", "(I)I"⟩)) else decide (lw_tbl[r.2.2.2.2]? = some (if r.2.2.2.1 = 1 then Cond.methodLinkNest (clR r.1) r.2.1 (mN r.2.2.1) RX5 else Cond.methodLink (clR r.1) r.2.1 (mN r.2.2.1))) && decide (r.2.2.1 < 161) && decide (r.2.2.2.1 = 1 → mst r.2.2.1 = true)
theorem cOk_all : cls_.all cOk = true := by decide +kernel
def kOk (r : Nat × Nat × Int32 × Nat) : Bool := decide (lw_tbl[r.2.2.2]? = some (Cond.constant (clR r.1) r.2.1 r.2.2.1))
theorem kOk_all : kos.all kOk = true := by decide +kernel
theorem gOk_33 : lw_tbl[484]? = some (Cond.fieldLink RX5 108 RX5 "SETTING_LEAST" "[I") := by decide +kernel
theorem gOk_34 : lw_tbl[486]? = some (Cond.fieldLink RX5 111 RX5 "SETTING_GREATEST" "[I") := by decide +kernel
end
section
theorem in_t1 {w : Cond} (h : w ∈ tables_1_1) : w ∈ lw_tbl := List.mem_append_right _ (List.mem_append_left _ h)
theorem in_t2 {w : Cond} (h : w ∈ tables_1_2) : w ∈ lw_tbl := List.mem_append_right _ (List.mem_append_right _ (List.mem_append_left _ h))
theorem in_t3 {w : Cond} (h : w ∈ tables_1_3) : w ∈ lw_tbl := List.mem_append_right _ (List.mem_append_right _ (List.mem_append_right _ (List.mem_append_left _ h)))
theorem in_t4 {w : Cond} (h : w ∈ tables_1_4) : w ∈ lw_tbl := List.mem_append_right _ (List.mem_append_right _ (List.mem_append_right _ (List.mem_append_right _ (List.mem_append_left _ h))))
theorem in_t5 {w : Cond} (h : w ∈ tables_1_5) : w ∈ lw_tbl := List.mem_append_right _ (List.mem_append_right _ (List.mem_append_right _ (List.mem_append_right _ (List.mem_append_right _ (h)))))
theorem mC_0 : Cond.code yX0_become cX0_become 2 (none) ∈ lw_tbl := in_t2 (List.mem_of_getElem? (i := 142) rfl)
theorem mC_1 : Cond.code yX0_begin cX0_begin 5 (none) ∈ lw_tbl := in_t2 (List.mem_of_getElem? (i := 168) rfl)
theorem mC_2 : Cond.code yX0_usualOf cX0_usualOf 2 (some .int) ∈ lw_tbl := in_t2 (List.mem_of_getElem? (i := 171) rfl)
theorem mC_3 : Cond.code yX0_wants cX0_wants 2 (some .int) ∈ lw_tbl := in_t3 (List.mem_of_getElem? (i := 13) rfl)
theorem mC_4 : Cond.code yX0_lasts cX0_lasts 1 (some .int) ∈ lw_tbl := in_t2 (List.mem_of_getElem? (i := 220) rfl)
theorem mC_5 : Cond.code yX0_lay cX0_lay 5 (some .int) ∈ lw_tbl := in_t3 (List.mem_of_getElem? (i := 9) rfl)
theorem mC_6 : Cond.code yX0_receiveMortar cX0_receiveMortar 3 (some .int) ∈ lw_tbl := in_t3 (List.mem_of_getElem? (i := 29) rfl)
theorem mC_7 : Cond.code yX0_receiveBricks cX0_receiveBricks 3 (some .int) ∈ lw_tbl := in_t3 (List.mem_of_getElem? (i := 33) rfl)
theorem mC_8 : Cond.code yX1_become cX1_become 2 (none) ∈ lw_tbl := in_t2 (List.mem_of_getElem? (i := 146) rfl)
theorem mC_9 : Cond.code yX1_begin cX1_begin 3 (none) ∈ lw_tbl := in_t2 (List.mem_of_getElem? (i := 233) rfl)
theorem mC_10 : Cond.code yX1_climb cX1_climb 4 (none) ∈ lw_tbl := in_t3 (List.mem_of_getElem? (i := 1) rfl)
theorem mC_11 : Cond.code yX2_become cX2_become 3 (none) ∈ lw_tbl := in_t2 (List.mem_of_getElem? (i := 138) rfl)
theorem mC_12 : Cond.code yX2_hasLayer cX2_hasLayer 2 (some .boolean) ∈ lw_tbl := in_t2 (List.mem_of_getElem? (i := 229) rfl)
theorem mC_13 : Cond.code yX2_hasTimeFor cX2_hasTimeFor 2 (some .boolean) ∈ lw_tbl := in_t2 (List.mem_of_getElem? (i := 196) rfl)
theorem mC_14 : Cond.code yX2_anyBusy cX2_anyBusy 2 (some .boolean) ∈ lw_tbl := in_t2 (List.mem_of_getElem? (i := 178) rfl)
theorem mC_15 : Cond.code yX2_freeMates cX2_freeMates 2 (none) ∈ lw_tbl := in_t3 (List.mem_of_getElem? (i := 139) rfl)
theorem mC_16 : Cond.code yX2_setting cX2_setting 2 (some .int) ∈ lw_tbl := in_t3 (List.mem_of_getElem? (i := 54) rfl)
theorem mC_17 : Cond.code yX2_change cX2_change 3 (none) ∈ lw_tbl := in_t2 (List.mem_of_getElem? (i := 191) rfl)
theorem mC_18 : Cond.code yX2_addLayer cX2_addLayer 5 (some .boolean) ∈ lw_tbl := in_t2 (List.mem_of_getElem? (i := 161) rfl)
theorem mC_19 : Cond.code yX2_muckLeft cX2_muckLeft 3 (some .int) ∈ lw_tbl := in_t3 (List.mem_of_getElem? (i := 74) rfl)
theorem mC_20 : Cond.code yX2_pass cX2_pass 3 (none) ∈ lw_tbl := in_t2 (List.mem_of_getElem? (i := 200) rfl)
theorem mC_21 : Cond.code yX2_send cX2_send 4 (none) ∈ lw_tbl := in_t2 (List.mem_of_getElem? (i := 225) rfl)
theorem mC_22 : Cond.code yX2_choose cX2_choose 5 (some .int) ∈ lw_tbl := in_t2 (List.mem_of_getElem? (i := 208) rfl)
theorem mC_23 : Cond.code yX2_needs cX2_needs 3 (some .boolean) ∈ lw_tbl := in_t2 (List.mem_of_getElem? (i := 212) rfl)
theorem mC_24 : Cond.code yX2_rank cX2_rank 3 (some .int) ∈ lw_tbl := in_t2 (List.mem_of_getElem? (i := 216) rfl)
theorem mC_25 : Cond.code yX2_allLay cX2_allLay 5 (none) ∈ lw_tbl := in_t3 (List.mem_of_getElem? (i := 5) rfl)
theorem mC_26 : Cond.code yX2_spendMinute cX2_spendMinute 2 (none) ∈ lw_tbl := in_t3 (List.mem_of_getElem? (i := 21) rfl)
theorem mC_27 : Cond.code yX2_unload cX2_unload 3 (none) ∈ lw_tbl := in_t3 (List.mem_of_getElem? (i := 25) rfl)
theorem mC_28 : Cond.code yX3_clear cX3_clear 1 (none) ∈ lw_tbl := in_t2 (List.mem_of_getElem? (i := 204) rfl)
theorem mC_29 : Cond.code yX3_noteBegun cX3_noteBegun 2 (none) ∈ lw_tbl := in_t2 (List.mem_of_getElem? (i := 237) rfl)
theorem mC_30 : Cond.code yX3_noteStanding cX3_noteStanding 3 (none) ∈ lw_tbl := in_t3 (List.mem_of_getElem? (i := 17) rfl)
theorem mC_31 : Cond.code yX4_add cX4_add 2 (none) ∈ lw_tbl := in_t2 (List.mem_of_getElem? (i := 26) rfl)
theorem mC_32 : Cond.code yX4_at cX4_at 2 (some .int) ∈ lw_tbl := in_t2 (List.mem_of_getElem? (i := 42) rfl)
theorem mC_33 : Cond.code yX4_number cX4_number 5 (some .int) ∈ lw_tbl := in_t2 (List.mem_of_getElem? (i := 157) rfl)
theorem mC_34 : Cond.code yX4_shapeFault cX4_shapeFault 4 (some .int) ∈ lw_tbl := in_t2 (List.mem_of_getElem? (i := 34) rfl)
theorem mC_35 : Cond.code yX4_statementLength cX4_statementLength 2 (some .int) ∈ lw_tbl := in_t2 (List.mem_of_getElem? (i := 38) rfl)
theorem mC_36 : Cond.code yX4_fits cX4_fits 4 (some .boolean) ∈ lw_tbl := in_t2 (List.mem_of_getElem? (i := 46) rfl)
theorem mC_37 : Cond.code yX5_letter cX5_letter 2 (some .int) ∈ lw_tbl := in_t2 (List.mem_of_getElem? (i := 18) rfl)
theorem mC_38 : Cond.code yX5_site cX5_site 4 (some .int) ∈ lw_tbl := in_t2 (List.mem_of_getElem? (i := 30) rfl)
theorem mC_39 : Cond.code yX5_layer cX5_layer 4 (some .int) ∈ lw_tbl := in_t3 (List.mem_of_getElem? (i := 40) rfl)
theorem mC_40 : Cond.code yX5_put cX5_put 7 (some .int) ∈ lw_tbl := in_t3 (List.mem_of_getElem? (i := 46) rfl)
theorem mC_41 : Cond.code yX5_set cX5_set 5 (some .int) ∈ lw_tbl := in_t3 (List.mem_of_getElem? (i := 50) rfl)
theorem mC_42 : Cond.code yX5_go cX5_go 2 (some .int) ∈ lw_tbl := in_t3 (List.mem_of_getElem? (i := 58) rfl)
theorem mC_43 : Cond.code yX5_mates cX5_mates 4 (some .int) ∈ lw_tbl := in_t3 (List.mem_of_getElem? (i := 62) rfl)
theorem mC_44 : Cond.code yX5_total cX5_total 4 (some .int) ∈ lw_tbl := in_t3 (List.mem_of_getElem? (i := 66) rfl)
theorem mC_45 : Cond.code yX5_stood cX5_stood 4 (some .int) ∈ lw_tbl := in_t3 (List.mem_of_getElem? (i := 78) rfl)
theorem mC_46 : Cond.code yX5_left cX5_left 6 (some .int) ∈ lw_tbl := in_t3 (List.mem_of_getElem? (i := 82) rfl)
theorem mC_47 : Cond.code yX5_bestRule cX5_bestRule 9 (some .int) ∈ lw_tbl := in_t3 (List.mem_of_getElem? (i := 90) rfl)
theorem mC_48 : Cond.code yX5_bestHod cX5_bestHod 3 (some .int) ∈ lw_tbl := in_t3 (List.mem_of_getElem? (i := 98) rfl)
theorem mC_49 : Cond.code yX5_bestBatch cX5_bestBatch 3 (some .int) ∈ lw_tbl := in_t3 (List.mem_of_getElem? (i := 106) rfl)
theorem mC_50 : Cond.code yX5_mate cX5_mate 3 (some .int) ∈ lw_tbl := in_t3 (List.mem_of_getElem? (i := 110) rfl)
theorem mC_51 : Cond.code yX5_hoist cX5_hoist 3 (some .int) ∈ lw_tbl := in_t3 (List.mem_of_getElem? (i := 119) rfl)
theorem mC_52 : Cond.code yX5_ahead cX5_ahead 6 (some .int) ∈ lw_tbl := in_t3 (List.mem_of_getElem? (i := 123) rfl)
theorem mC_53 : Cond.code yX5_inStep cX5_inStep 3 (some .int) ∈ lw_tbl := in_t3 (List.mem_of_getElem? (i := 131) rfl)
theorem mC_54 : Cond.code yX5_keeps cX5_keeps 4 (some .int) ∈ lw_tbl := in_t3 (List.mem_of_getElem? (i := 135) rfl)
theorem mC_55 : Cond.code yX5_emptyFirst cX5_emptyFirst 2 (some .int) ∈ lw_tbl := in_t3 (List.mem_of_getElem? (i := 143) rfl)
theorem mC_56 : Cond.code yX5_tea cX5_tea 6 (some .int) ∈ lw_tbl := in_t3 (List.mem_of_getElem? (i := 147) rfl)
theorem mC_57 : Cond.code yX5_fault cX5_fault 6 (some .int) ∈ lw_tbl := in_t3 (List.mem_of_getElem? (i := 155) rfl)
theorem mC_58 : Cond.code yX5_watered cX5_watered 7 (some .int) ∈ lw_tbl := in_t3 (List.mem_of_getElem? (i := 159) rfl)
theorem mC_59 : Cond.code yX5_badly cX5_badly 3 (some .int) ∈ lw_tbl := in_t3 (List.mem_of_getElem? (i := 163) rfl)
theorem mC_60 : Cond.code yX5_row cX5_row 2 (some .int) ∈ lw_tbl := in_t3 (List.mem_of_getElem? (i := 172) rfl)
theorem mC_61 : Cond.code yX5_judge cX5_judge 3 (some .int) ∈ lw_tbl := in_t3 (List.mem_of_getElem? (i := 176) rfl)
theorem mC_62 : Cond.code yX5_lots cX5_lots 8 (some .int) ∈ lw_tbl := in_t3 (List.mem_of_getElem? (i := 180) rfl)
theorem mC_63 : Cond.code yX5_image cX5_image 1 (some .int) ∈ lw_tbl := in_t3 (List.mem_of_getElem? (i := 193) rfl)
theorem mC_64 : Cond.code yX5_on cX5_on 1 (some .int) ∈ lw_tbl := in_t3 (List.mem_of_getElem? (i := 197) rfl)
theorem mC_65 : Cond.code yX5_count cX5_count 2 (some .int) ∈ lw_tbl := in_t3 (List.mem_of_getElem? (i := 201) rfl)
theorem mC_66 : Cond.code yX5_refuse cX5_refuse 3 (some .int) ∈ lw_tbl := in_t2 (List.mem_of_getElem? (i := 22) rfl)
theorem mC_67 : Cond.code yX5_outside cX5_outside 3 (some .int) ∈ lw_tbl := in_t2 (List.mem_of_getElem? (i := 164) rfl)
theorem mC_68 : Cond.code yX5_outsideEither cX5_outsideEither 3 (some .int) ∈ lw_tbl := in_t3 (List.mem_of_getElem? (i := 126) rfl)
theorem mC_69 : Cond.code yX5_refusalOfLayerInMind cX5_refusalOfLayerInMind 5 (some .int) ∈ lw_tbl := in_t3 (List.mem_of_getElem? (i := 86) rfl)
theorem mC_70 : Cond.code yX5_foresee cX5_foresee 2 (none) ∈ lw_tbl := in_t3 (List.mem_of_getElem? (i := 70) rfl)
theorem mC_71 : Cond.code yX5_laidAsItIs cX5_laidAsItIs 2 (some .int) ∈ lw_tbl := in_t3 (List.mem_of_getElem? (i := 115) rfl)
theorem mC_72 : Cond.code yX5_laidWith cX5_laidWith 4 (some .int) ∈ lw_tbl := in_t3 (List.mem_of_getElem? (i := 94) rfl)
theorem mC_73 : Cond.code yX5_passWithMixing cX5_passWithMixing 3 (none) ∈ lw_tbl := in_t3 (List.mem_of_getElem? (i := 151) rfl)
theorem mC_74 : Cond.code yX5_bestSetting cX5_bestSetting 8 (some .int) ∈ lw_tbl := in_t3 (List.mem_of_getElem? (i := 102) rfl)
theorem mC_75 : Cond.code yX5_rowFitsUnits cX5_rowFitsUnits 3 (some .boolean) ∈ lw_tbl := in_t3 (List.mem_of_getElem? (i := 168) rfl)
theorem mC_76 : Cond.code yX5_nextSeed cX5_nextSeed 1 (some .int) ∈ lw_tbl := in_t3 (List.mem_of_getElem? (i := 183) rfl)
theorem mC_77 : Cond.code yX5_draw cX5_draw 2 (some .int) ∈ lw_tbl := in_t3 (List.mem_of_getElem? (i := 188) rfl)
theorem mC_78 : Cond.code yX5_unitsOf cX5_unitsOf 1 (some .int) ∈ lw_tbl := in_t2 (List.mem_of_getElem? (i := 174) rfl)
theorem mC_79 : Cond.code yX5_statementComes cX5_statementComes 3 (some .boolean) ∈ lw_tbl := in_t2 (List.mem_of_getElem? (i := 150) rfl)
theorem mC_80 : Cond.code yX5_settingComes cX5_settingComes 3 (some .boolean) ∈ lw_tbl := in_t2 (List.mem_of_getElem? (i := 182) rfl)
theorem mC_81 : Cond.code yX6_no cX6_no 2 (some .int) ∈ lw_tbl := in_t4 (List.mem_of_getElem? (i := 112) rfl)
theorem mC_82 : Cond.code yX6_lower cX6_lower 2 (some .int) ∈ lw_tbl := in_t5 (List.mem_of_getElem? (i := 105) rfl)
theorem mC_83 : Cond.code yX6_isIn cX6_isIn 3 (some .boolean) ∈ lw_tbl := in_t4 (List.mem_of_getElem? (i := 142) rfl)
theorem mC_84 : Cond.code yX6_bound cX6_bound 3 (some .int) ∈ lw_tbl := in_t4 (List.mem_of_getElem? (i := 108) rfl)
theorem mC_85 : Cond.code yX6_isLayer cX6_isLayer 2 (some .boolean) ∈ lw_tbl := in_t5 (List.mem_of_getElem? (i := 45) rfl)
theorem mC_86 : Cond.code yX6_leastOf cX6_leastOf 1 (some .int) ∈ lw_tbl := in_t4 (List.mem_of_getElem? (i := 172) rfl)
theorem mC_87 : Cond.code yX6_mostOf cX6_mostOf 1 (some .int) ∈ lw_tbl := in_t4 (List.mem_of_getElem? (i := 175) rfl)
theorem mC_88 : Cond.code yX6_letter cX6_letter 3 (some .int) ∈ lw_tbl := in_t4 (List.mem_of_getElem? (i := 105) rfl)
theorem mC_89 : Cond.code yX6_next cX6_next 1 (some .int) ∈ lw_tbl := in_t4 (List.mem_of_getElem? (i := 124) rfl)
theorem mC_90 : Cond.code yX6_readsDigits cX6_readsDigits 5 (some .boolean) ∈ lw_tbl := in_t4 (List.mem_of_getElem? (i := 139) rfl)
theorem mC_91 : Cond.code yX6_layerOf cX6_layerOf 1 (some .int) ∈ lw_tbl := in_t4 (List.mem_of_getElem? (i := 131) rfl)
theorem mC_92 : Cond.code yX6_ruleOf cX6_ruleOf 1 (some .int) ∈ lw_tbl := in_t4 (List.mem_of_getElem? (i := 145) rfl)
theorem mC_93 : Cond.code yX6_readsKind cX6_readsKind 3 (some .boolean) ∈ lw_tbl := in_t4 (List.mem_of_getElem? (i := 135) rfl)
theorem mC_94 : Cond.code yX6_readsAll cX6_readsAll 3 (some .boolean) ∈ lw_tbl := in_t4 (List.mem_of_getElem? (i := 128) rfl)
theorem mC_95 : Cond.code yX6_statement cX6_statement 2 (some .boolean) ∈ lw_tbl := in_t4 (List.mem_of_getElem? (i := 120) rfl)
theorem mC_96 : Cond.code yX6_comesLayer cX6_comesLayer 2 (some .boolean) ∈ lw_tbl := in_t4 (List.mem_of_getElem? (i := 165) rfl)
theorem mC_97 : Cond.code yX6_isBusy cX6_isBusy 2 (some .boolean) ∈ lw_tbl := in_t4 (List.mem_of_getElem? (i := 179) rfl)
theorem mC_98 : Cond.code yX6_comesSet cX6_comesSet 3 (some .boolean) ∈ lw_tbl := in_t4 (List.mem_of_getElem? (i := 169) rfl)
theorem mC_99 : Cond.code yX6_comes cX6_comes 3 (some .boolean) ∈ lw_tbl := in_t4 (List.mem_of_getElem? (i := 161) rfl)
theorem mC_100 : Cond.code yX6_site cX6_site 3 (some .int) ∈ lw_tbl := in_t4 (List.mem_of_getElem? (i := 116) rfl)
theorem mC_101 : Cond.code yX6_passes cX6_passes 3 (none) ∈ lw_tbl := in_t4 (List.mem_of_getElem? (i := 153) rfl)
theorem mC_102 : Cond.code yX6_passOne cX6_passOne 3 (some .int) ∈ lw_tbl := in_t4 (List.mem_of_getElem? (i := 157) rfl)
theorem mC_103 : Cond.code yX6_passesAll cX6_passesAll 3 (none) ∈ lw_tbl := in_t4 (List.mem_of_getElem? (i := 149) rfl)
theorem mC_104 : Cond.code yX6_image cX6_image 1 (some .int) ∈ lw_tbl := in_t5 (List.mem_of_getElem? (i := 33) rfl)
theorem mC_105 : Cond.code yX6_on cX6_on 1 (some .int) ∈ lw_tbl := in_t5 (List.mem_of_getElem? (i := 37) rfl)
theorem mC_106 : Cond.code yX6_bricksOf cX6_bricksOf 3 (some .int) ∈ lw_tbl := in_t4 (List.mem_of_getElem? (i := 234) rfl)
theorem mC_107 : Cond.code yX6_unitsOf cX6_unitsOf 1 (some .int) ∈ lw_tbl := in_t4 (List.mem_of_getElem? (i := 237) rfl)
theorem mC_108 : Cond.code yX6_wouldLay cX6_wouldLay 2 (some .int) ∈ lw_tbl := in_t5 (List.mem_of_getElem? (i := 13) rfl)
theorem mC_109 : Cond.code yX6_lesser cX6_lesser 2 (some .int) ∈ lw_tbl := in_t4 (List.mem_of_getElem? (i := 226) rfl)
theorem mC_110 : Cond.code yX6_lays cX6_lays 2 (some .int) ∈ lw_tbl := in_t5 (List.mem_of_getElem? (i := 17) rfl)
theorem mC_111 : Cond.code yX6_isWanting cX6_isWanting 3 (some .boolean) ∈ lw_tbl := in_t4 (List.mem_of_getElem? (i := 211) rfl)
theorem mC_112 : Cond.code yX6_emptyBy cX6_emptyBy 2 (some .int) ∈ lw_tbl := in_t4 (List.mem_of_getElem? (i := 223) rfl)
theorem mC_113 : Cond.code yX6_lastsBy cX6_lastsBy 2 (some .int) ∈ lw_tbl := in_t4 (List.mem_of_getElem? (i := 230) rfl)
theorem mC_114 : Cond.code yX6_keyOf cX6_keyOf 2 (some .int) ∈ lw_tbl := in_t4 (List.mem_of_getElem? (i := 219) rfl)
theorem mC_115 : Cond.code yX6_served cX6_served 3 (some .int) ∈ lw_tbl := in_t4 (List.mem_of_getElem? (i := 207) rfl)
theorem mC_116 : Cond.code yX6_keyBy cX6_keyBy 2 (some .int) ∈ lw_tbl := in_t4 (List.mem_of_getElem? (i := 215) rfl)
theorem mC_117 : Cond.code yX6_begins cX6_begins 4 (none) ∈ lw_tbl := in_t5 (List.mem_of_getElem? (i := 1) rfl)
theorem mC_118 : Cond.code yX6_tells cX6_tells 2 (none) ∈ lw_tbl := in_t5 (List.mem_of_getElem? (i := 5) rfl)
theorem mC_119 : Cond.code yX6_starts cX6_starts 4 (none) ∈ lw_tbl := in_t4 (List.mem_of_getElem? (i := 203) rfl)
theorem mC_120 : Cond.code yX6_heldBy cX6_heldBy 3 (some .int) ∈ lw_tbl := in_t5 (List.mem_of_getElem? (i := 29) rfl)
theorem mC_121 : Cond.code yX6_comesThere cX6_comesThere 3 (none) ∈ lw_tbl := in_t5 (List.mem_of_getElem? (i := 25) rfl)
theorem mC_122 : Cond.code yX6_ends cX6_ends 2 (none) ∈ lw_tbl := in_t5 (List.mem_of_getElem? (i := 21) rfl)
theorem mC_123 : Cond.code yX6_layerGoes cX6_layerGoes 4 (none) ∈ lw_tbl := in_t5 (List.mem_of_getElem? (i := 9) rfl)
theorem mC_124 : Cond.code yX6_goes cX6_goes 4 (none) ∈ lw_tbl := in_t4 (List.mem_of_getElem? (i := 195) rfl)
theorem mC_125 : Cond.code yX6_stoodAll cX6_stoodAll 3 (some .int) ∈ lw_tbl := in_t4 (List.mem_of_getElem? (i := 199) rfl)
theorem mC_126 : Cond.code yX6_clearsCounts cX6_clearsCounts 2 (none) ∈ lw_tbl := in_t4 (List.mem_of_getElem? (i := 191) rfl)
theorem mC_127 : Cond.code yX6_goesMinutes cX6_goesMinutes 3 (none) ∈ lw_tbl := in_t4 (List.mem_of_getElem? (i := 187) rfl)
theorem mC_128 : Cond.code yX6_goesBy cX6_goesBy 2 (none) ∈ lw_tbl := in_t4 (List.mem_of_getElem? (i := 183) rfl)
theorem mC_129 : Cond.code yX6_allMuck cX6_allMuck 3 (some .int) ∈ lw_tbl := in_t5 (List.mem_of_getElem? (i := 73) rfl)
theorem mC_130 : Cond.code yX6_minds cX6_minds 2 (none) ∈ lw_tbl := in_t5 (List.mem_of_getElem? (i := 69) rfl)
theorem mC_131 : Cond.code yX6_layer cX6_layer 3 (some .int) ∈ lw_tbl := in_t5 (List.mem_of_getElem? (i := 41) rfl)
theorem mC_132 : Cond.code yX6_put cX6_put 6 (some .int) ∈ lw_tbl := in_t5 (List.mem_of_getElem? (i := 49) rfl)
theorem mC_133 : Cond.code yX6_set cX6_set 5 (some .int) ∈ lw_tbl := in_t5 (List.mem_of_getElem? (i := 53) rfl)
theorem mC_134 : Cond.code yX6_go cX6_go 3 (some .int) ∈ lw_tbl := in_t5 (List.mem_of_getElem? (i := 57) rfl)
theorem mC_135 : Cond.code yX6_mates cX6_mates 3 (some .int) ∈ lw_tbl := in_t5 (List.mem_of_getElem? (i := 61) rfl)
theorem mC_136 : Cond.code yX6_total cX6_total 4 (some .int) ∈ lw_tbl := in_t5 (List.mem_of_getElem? (i := 65) rfl)
theorem mC_137 : Cond.code yX6_stood cX6_stood 4 (some .int) ∈ lw_tbl := in_t5 (List.mem_of_getElem? (i := 77) rfl)
theorem mC_138 : Cond.code yX6_left cX6_left 6 (some .int) ∈ lw_tbl := in_t5 (List.mem_of_getElem? (i := 81) rfl)
theorem mC_139 : Cond.code yX6_bestRule cX6_bestRule 9 (some .int) ∈ lw_tbl := in_t5 (List.mem_of_getElem? (i := 85) rfl)
theorem mC_140 : Cond.code yX6_laidWith cX6_laidWith 5 (some .int) ∈ lw_tbl := in_t5 (List.mem_of_getElem? (i := 93) rfl)
theorem mC_141 : Cond.code yX6_bestHod cX6_bestHod 7 (some .int) ∈ lw_tbl := in_t5 (List.mem_of_getElem? (i := 89) rfl)
theorem mC_142 : Cond.code yX6_bestBatch cX6_bestBatch 7 (some .int) ∈ lw_tbl := in_t5 (List.mem_of_getElem? (i := 97) rfl)
theorem mC_143 : Cond.code yX6_laidIn cX6_laidIn 2 (some .int) ∈ lw_tbl := in_t5 (List.mem_of_getElem? (i := 110) rfl)
theorem mC_144 : Cond.code yX6_mate cX6_mate 5 (some .int) ∈ lw_tbl := in_t5 (List.mem_of_getElem? (i := 101) rfl)
theorem mC_145 : Cond.code yX6_hoist cX6_hoist 4 (some .int) ∈ lw_tbl := in_t5 (List.mem_of_getElem? (i := 114) rfl)
theorem mC_146 : Cond.code yX6_ahead cX6_ahead 6 (some .int) ∈ lw_tbl := in_t5 (List.mem_of_getElem? (i := 118) rfl)
theorem mC_147 : Cond.code yX6_inStep cX6_inStep 3 (some .int) ∈ lw_tbl := in_t5 (List.mem_of_getElem? (i := 122) rfl)
theorem mC_148 : Cond.code yX6_standsOf cX6_standsOf 4 (some .int) ∈ lw_tbl := in_t5 (List.mem_of_getElem? (i := 130) rfl)
theorem mC_149 : Cond.code yX6_keeps cX6_keeps 5 (some .int) ∈ lw_tbl := in_t5 (List.mem_of_getElem? (i := 126) rfl)
theorem mC_150 : Cond.code yX6_emptyFirst cX6_emptyFirst 2 (some .int) ∈ lw_tbl := in_t5 (List.mem_of_getElem? (i := 134) rfl)
theorem mC_151 : Cond.code yX6_laidDry cX6_laidDry 3 (some .int) ∈ lw_tbl := in_t5 (List.mem_of_getElem? (i := 142) rfl)
theorem mC_152 : Cond.code yX6_tea cX6_tea 6 (some .int) ∈ lw_tbl := in_t5 (List.mem_of_getElem? (i := 138) rfl)
theorem mC_153 : Cond.code yX6_fault cX6_fault 5 (some .int) ∈ lw_tbl := in_t5 (List.mem_of_getElem? (i := 146) rfl)
theorem mC_154 : Cond.code yX6_watered cX6_watered 7 (some .int) ∈ lw_tbl := in_t5 (List.mem_of_getElem? (i := 150) rfl)
theorem mC_155 : Cond.code yX6_badly cX6_badly 4 (some .int) ∈ lw_tbl := in_t5 (List.mem_of_getElem? (i := 154) rfl)
theorem mC_156 : Cond.code yX6_row cX6_row 3 (some .int) ∈ lw_tbl := in_t5 (List.mem_of_getElem? (i := 158) rfl)
theorem mC_157 : Cond.code yX6_judge cX6_judge 3 (some .int) ∈ lw_tbl := in_t5 (List.mem_of_getElem? (i := 162) rfl)
theorem mC_158 : Cond.code yX6_draw cX6_draw 2 (some .int) ∈ lw_tbl := in_t5 (List.mem_of_getElem? (i := 170) rfl)
theorem mC_159 : Cond.code yX6_lots cX6_lots 7 (some .int) ∈ lw_tbl := in_t5 (List.mem_of_getElem? (i := 166) rfl)
theorem mC_160 : Cond.code yX6_count cX6_count 2 (some .int) ∈ lw_tbl := in_t5 (List.mem_of_getElem? (i := 177) rfl)
theorem mCs_0 : ∀ q ∈ mT0, Cond.code q.1 q.2.1 q.2.2.1 q.2.2.2 ∈ lw_tbl := List.forall_mem_cons.mpr ⟨mC_0, List.forall_mem_cons.mpr ⟨mC_1, List.forall_mem_cons.mpr ⟨mC_2, List.forall_mem_cons.mpr ⟨mC_3, List.forall_mem_cons.mpr ⟨mC_4, List.forall_mem_cons.mpr ⟨mC_5, List.forall_mem_cons.mpr ⟨mC_6, List.forall_mem_cons.mpr ⟨mC_7, List.forall_mem_cons.mpr ⟨mC_8, List.forall_mem_cons.mpr ⟨mC_9, List.forall_mem_cons.mpr ⟨mC_10, List.forall_mem_cons.mpr ⟨mC_11, List.forall_mem_cons.mpr ⟨mC_12, List.forall_mem_cons.mpr ⟨mC_13, List.forall_mem_cons.mpr ⟨mC_14, List.forall_mem_cons.mpr ⟨mC_15, List.forall_mem_cons.mpr ⟨mC_16, List.forall_mem_cons.mpr ⟨mC_17, List.forall_mem_cons.mpr ⟨mC_18, List.forall_mem_cons.mpr ⟨mC_19, fun _ h => absurd h List.not_mem_nil⟩⟩⟩⟩⟩⟩⟩⟩⟩⟩⟩⟩⟩⟩⟩⟩⟩⟩⟩⟩
theorem mCs_1 : ∀ q ∈ mT1, Cond.code q.1 q.2.1 q.2.2.1 q.2.2.2 ∈ lw_tbl := List.forall_mem_cons.mpr ⟨mC_20, List.forall_mem_cons.mpr ⟨mC_21, List.forall_mem_cons.mpr ⟨mC_22, List.forall_mem_cons.mpr ⟨mC_23, List.forall_mem_cons.mpr ⟨mC_24, List.forall_mem_cons.mpr ⟨mC_25, List.forall_mem_cons.mpr ⟨mC_26, List.forall_mem_cons.mpr ⟨mC_27, List.forall_mem_cons.mpr ⟨mC_28, List.forall_mem_cons.mpr ⟨mC_29, List.forall_mem_cons.mpr ⟨mC_30, List.forall_mem_cons.mpr ⟨mC_31, List.forall_mem_cons.mpr ⟨mC_32, List.forall_mem_cons.mpr ⟨mC_33, List.forall_mem_cons.mpr ⟨mC_34, List.forall_mem_cons.mpr ⟨mC_35, List.forall_mem_cons.mpr ⟨mC_36, List.forall_mem_cons.mpr ⟨mC_37, List.forall_mem_cons.mpr ⟨mC_38, List.forall_mem_cons.mpr ⟨mC_39, fun _ h => absurd h List.not_mem_nil⟩⟩⟩⟩⟩⟩⟩⟩⟩⟩⟩⟩⟩⟩⟩⟩⟩⟩⟩⟩
theorem mCs_2 : ∀ q ∈ mT2, Cond.code q.1 q.2.1 q.2.2.1 q.2.2.2 ∈ lw_tbl := List.forall_mem_cons.mpr ⟨mC_40, List.forall_mem_cons.mpr ⟨mC_41, List.forall_mem_cons.mpr ⟨mC_42, List.forall_mem_cons.mpr ⟨mC_43, List.forall_mem_cons.mpr ⟨mC_44, List.forall_mem_cons.mpr ⟨mC_45, List.forall_mem_cons.mpr ⟨mC_46, List.forall_mem_cons.mpr ⟨mC_47, List.forall_mem_cons.mpr ⟨mC_48, List.forall_mem_cons.mpr ⟨mC_49, List.forall_mem_cons.mpr ⟨mC_50, List.forall_mem_cons.mpr ⟨mC_51, List.forall_mem_cons.mpr ⟨mC_52, List.forall_mem_cons.mpr ⟨mC_53, List.forall_mem_cons.mpr ⟨mC_54, List.forall_mem_cons.mpr ⟨mC_55, List.forall_mem_cons.mpr ⟨mC_56, List.forall_mem_cons.mpr ⟨mC_57, List.forall_mem_cons.mpr ⟨mC_58, List.forall_mem_cons.mpr ⟨mC_59, fun _ h => absurd h List.not_mem_nil⟩⟩⟩⟩⟩⟩⟩⟩⟩⟩⟩⟩⟩⟩⟩⟩⟩⟩⟩⟩
theorem mCs_3 : ∀ q ∈ mT3, Cond.code q.1 q.2.1 q.2.2.1 q.2.2.2 ∈ lw_tbl := List.forall_mem_cons.mpr ⟨mC_60, List.forall_mem_cons.mpr ⟨mC_61, List.forall_mem_cons.mpr ⟨mC_62, List.forall_mem_cons.mpr ⟨mC_63, List.forall_mem_cons.mpr ⟨mC_64, List.forall_mem_cons.mpr ⟨mC_65, List.forall_mem_cons.mpr ⟨mC_66, List.forall_mem_cons.mpr ⟨mC_67, List.forall_mem_cons.mpr ⟨mC_68, List.forall_mem_cons.mpr ⟨mC_69, List.forall_mem_cons.mpr ⟨mC_70, List.forall_mem_cons.mpr ⟨mC_71, List.forall_mem_cons.mpr ⟨mC_72, List.forall_mem_cons.mpr ⟨mC_73, List.forall_mem_cons.mpr ⟨mC_74, List.forall_mem_cons.mpr ⟨mC_75, List.forall_mem_cons.mpr ⟨mC_76, List.forall_mem_cons.mpr ⟨mC_77, List.forall_mem_cons.mpr ⟨mC_78, List.forall_mem_cons.mpr ⟨mC_79, fun _ h => absurd h List.not_mem_nil⟩⟩⟩⟩⟩⟩⟩⟩⟩⟩⟩⟩⟩⟩⟩⟩⟩⟩⟩⟩
theorem mCs_4 : ∀ q ∈ mT4, Cond.code q.1 q.2.1 q.2.2.1 q.2.2.2 ∈ lw_tbl := List.forall_mem_cons.mpr ⟨mC_80, List.forall_mem_cons.mpr ⟨mC_81, List.forall_mem_cons.mpr ⟨mC_82, List.forall_mem_cons.mpr ⟨mC_83, List.forall_mem_cons.mpr ⟨mC_84, List.forall_mem_cons.mpr ⟨mC_85, List.forall_mem_cons.mpr ⟨mC_86, List.forall_mem_cons.mpr ⟨mC_87, List.forall_mem_cons.mpr ⟨mC_88, List.forall_mem_cons.mpr ⟨mC_89, List.forall_mem_cons.mpr ⟨mC_90, List.forall_mem_cons.mpr ⟨mC_91, List.forall_mem_cons.mpr ⟨mC_92, List.forall_mem_cons.mpr ⟨mC_93, List.forall_mem_cons.mpr ⟨mC_94, List.forall_mem_cons.mpr ⟨mC_95, List.forall_mem_cons.mpr ⟨mC_96, List.forall_mem_cons.mpr ⟨mC_97, List.forall_mem_cons.mpr ⟨mC_98, List.forall_mem_cons.mpr ⟨mC_99, fun _ h => absurd h List.not_mem_nil⟩⟩⟩⟩⟩⟩⟩⟩⟩⟩⟩⟩⟩⟩⟩⟩⟩⟩⟩⟩
theorem mCs_5 : ∀ q ∈ mT5, Cond.code q.1 q.2.1 q.2.2.1 q.2.2.2 ∈ lw_tbl := List.forall_mem_cons.mpr ⟨mC_100, List.forall_mem_cons.mpr ⟨mC_101, List.forall_mem_cons.mpr ⟨mC_102, List.forall_mem_cons.mpr ⟨mC_103, List.forall_mem_cons.mpr ⟨mC_104, List.forall_mem_cons.mpr ⟨mC_105, List.forall_mem_cons.mpr ⟨mC_106, List.forall_mem_cons.mpr ⟨mC_107, List.forall_mem_cons.mpr ⟨mC_108, List.forall_mem_cons.mpr ⟨mC_109, List.forall_mem_cons.mpr ⟨mC_110, List.forall_mem_cons.mpr ⟨mC_111, List.forall_mem_cons.mpr ⟨mC_112, List.forall_mem_cons.mpr ⟨mC_113, List.forall_mem_cons.mpr ⟨mC_114, List.forall_mem_cons.mpr ⟨mC_115, List.forall_mem_cons.mpr ⟨mC_116, List.forall_mem_cons.mpr ⟨mC_117, List.forall_mem_cons.mpr ⟨mC_118, List.forall_mem_cons.mpr ⟨mC_119, fun _ h => absurd h List.not_mem_nil⟩⟩⟩⟩⟩⟩⟩⟩⟩⟩⟩⟩⟩⟩⟩⟩⟩⟩⟩⟩
theorem mCs_6 : ∀ q ∈ mT6, Cond.code q.1 q.2.1 q.2.2.1 q.2.2.2 ∈ lw_tbl := List.forall_mem_cons.mpr ⟨mC_120, List.forall_mem_cons.mpr ⟨mC_121, List.forall_mem_cons.mpr ⟨mC_122, List.forall_mem_cons.mpr ⟨mC_123, List.forall_mem_cons.mpr ⟨mC_124, List.forall_mem_cons.mpr ⟨mC_125, List.forall_mem_cons.mpr ⟨mC_126, List.forall_mem_cons.mpr ⟨mC_127, List.forall_mem_cons.mpr ⟨mC_128, List.forall_mem_cons.mpr ⟨mC_129, List.forall_mem_cons.mpr ⟨mC_130, List.forall_mem_cons.mpr ⟨mC_131, List.forall_mem_cons.mpr ⟨mC_132, List.forall_mem_cons.mpr ⟨mC_133, List.forall_mem_cons.mpr ⟨mC_134, List.forall_mem_cons.mpr ⟨mC_135, List.forall_mem_cons.mpr ⟨mC_136, List.forall_mem_cons.mpr ⟨mC_137, List.forall_mem_cons.mpr ⟨mC_138, List.forall_mem_cons.mpr ⟨mC_139, fun _ h => absurd h List.not_mem_nil⟩⟩⟩⟩⟩⟩⟩⟩⟩⟩⟩⟩⟩⟩⟩⟩⟩⟩⟩⟩
theorem mCs_7 : ∀ q ∈ mT7, Cond.code q.1 q.2.1 q.2.2.1 q.2.2.2 ∈ lw_tbl := List.forall_mem_cons.mpr ⟨mC_140, List.forall_mem_cons.mpr ⟨mC_141, List.forall_mem_cons.mpr ⟨mC_142, List.forall_mem_cons.mpr ⟨mC_143, List.forall_mem_cons.mpr ⟨mC_144, List.forall_mem_cons.mpr ⟨mC_145, List.forall_mem_cons.mpr ⟨mC_146, List.forall_mem_cons.mpr ⟨mC_147, List.forall_mem_cons.mpr ⟨mC_148, List.forall_mem_cons.mpr ⟨mC_149, List.forall_mem_cons.mpr ⟨mC_150, List.forall_mem_cons.mpr ⟨mC_151, List.forall_mem_cons.mpr ⟨mC_152, List.forall_mem_cons.mpr ⟨mC_153, List.forall_mem_cons.mpr ⟨mC_154, List.forall_mem_cons.mpr ⟨mC_155, List.forall_mem_cons.mpr ⟨mC_156, List.forall_mem_cons.mpr ⟨mC_157, List.forall_mem_cons.mpr ⟨mC_158, List.forall_mem_cons.mpr ⟨mC_159, fun _ h => absurd h List.not_mem_nil⟩⟩⟩⟩⟩⟩⟩⟩⟩⟩⟩⟩⟩⟩⟩⟩⟩⟩⟩⟩
theorem mCs_8 : ∀ q ∈ mT8, Cond.code q.1 q.2.1 q.2.2.1 q.2.2.2 ∈ lw_tbl := List.forall_mem_cons.mpr ⟨mC_160, fun _ h => absurd h List.not_mem_nil⟩
theorem mC_all : ∀ q ∈ mT, Cond.code q.1 q.2.1 q.2.2.1 q.2.2.2 ∈ lw_tbl := List.forall_mem_append.mpr ⟨mCs_0, List.forall_mem_append.mpr ⟨mCs_1, List.forall_mem_append.mpr ⟨mCs_2, List.forall_mem_append.mpr ⟨mCs_3, List.forall_mem_append.mpr ⟨mCs_4, List.forall_mem_append.mpr ⟨mCs_5, List.forall_mem_append.mpr ⟨mCs_6, List.forall_mem_append.mpr ⟨mCs_7, mCs_8⟩⟩⟩⟩⟩⟩⟩⟩
theorem mT_len : mT.length = 161 := by decide +kernel
theorem mTy_in {y : Nat} (h : y < 161) : mTy y ∈ mT := by
  unfold mTy
  rw [List.getD_eq_getElem?_getD, List.getElem?_eq_getElem (by rw [mT_len]; exact h)]
  exact List.getElem_mem _
end
section
def siteC (g : Nat) : List Cd := [(g, 0, 0), (g, 1, 0), (g, 2, 0), (g, 2, 1), (g, 2, 2), (g, 2, 3), (g, 3, 0), (g, 4, 0), (g, 4, 1), (g, 4, 2), (g, 5, 0), (g, 6, 0)]
def cellsL : List Cd := [(0, 7, 0), (0, 8, 0), (0, 9, 0), (0, 10, 0), (0, 11, 0)] ++ (siteC 1 ++ (siteC 2 ++ (siteC 3 ++ (List.range 21).map (fun k => (4, 12 + k, 0)))))
theorem cells_nd : cellsL.Nodup := by decide +kernel
theorem cells_k : ∀ c ∈ cellsL, c.2.1 < 33 ∧ c.1 ≠ 9 := by decide +kernel
theorem tg_ok : ∀ c ∈ cellsL, ∀ r ∈ tgs, r.1 = c.2.1 → r.2.2 c.1 ∈ cellsL := by decide +kernel
theorem aa_ok1 : ∀ c ∈ cellsL, c.2.1 = 1 → ∀ n, n < 4 → (c.1, 2, n) ∈ cellsL := by decide +kernel
theorem aa_ok3 : ∀ c ∈ cellsL, c.2.1 = 3 → ∀ n, n < 3 → (c.1, 4, n) ∈ cellsL := by decide +kernel
theorem tgf_ok {c : Cd} {j : Nat} {f : Nat → Cd} (hc : c ∈ cellsL) (h : tgf c.2.1 j = some f) : f c.1 ∈ cellsL := by
  unfold tgf at h
  cases e : tgs.find? (fun r => r.1 == c.2.1 && r.2.1 == j) with
  | none => rw [e] at h; cases h
  | some r =>
    rw [e] at h
    cases h
    have h1 := List.find?_some e
    simp only [Bool.and_eq_true, beq_iff_eq] at h1
    exact tg_ok c hc r (List.mem_of_find?_eq_some e) h1.1
def okC (c : Cd) : Prop := c ∈ cellsL ∨ (c.1 = 9 ∧ 33 ≤ c.2.1 ∧ c.2.1 ≤ 36 ∧ c.2.2 = 0)
def okV (v : AV) : Prop := ∃ w, v = some w ∧ ∀ c, w = .inr c → okC c
def okS (st : List AV) : Prop := ∀ v ∈ st, okV v
def okL (ls : List AV) : Prop := ∀ v ∈ ls, v = none ∨ okV v
theorem okV_i (x : Int32) : okV (aI x) := ⟨_, rfl, fun _ h => by cases h⟩
theorem okV_r {c : Cd} (h : okC c) : okV (some (.inr c)) := ⟨_, rfl, fun _ e => by cases e; exact h⟩
theorem okV_c {c : Cd} (h : okV (some (.inr c))) : okC c := by
  obtain ⟨w, e, h⟩ := h
  cases e
  exact h c rfl
theorem okS_cons {v : AV} {st : List AV} (h : okV v) (hs : okS st) : okS (v :: st) := fun w hw => (List.mem_cons.mp hw).elim (fun e => e ▸ h) (hs w)
theorem okS_tl {v : AV} {st : List AV} (h : okS (v :: st)) : okS st := fun w hw => h w (List.mem_cons_of_mem _ hw)
theorem okS_hd {v : AV} {st : List AV} (h : okS (v :: st)) : okV v := h v List.mem_cons_self
theorem okL_set {ls : List AV} {i : Nat} {v : AV} (h : okL ls) (hv : okV v) : okL (ls.set i v) := fun w hw => (List.mem_or_eq_of_mem_set hw).elim (h w) (fun e => Or.inr (e ▸ hv))
theorem okL_get {ls : List AV} {i : Nat} {w : Int32 ⊕ Cd} (h : okL ls) (hi : ls[i]? = some (some w)) : okV (some w) := by
  rcases h _ (List.mem_of_getElem? hi) with e | e
  · cases e
  · exact e
def kCls : List (Option Nat) := [some 2, none, some 0, none, some 1, some 3, none, some 5, some 4, none, none, none, some 6]
def kCl (k : Nat) : Option Nat := kCls.getD k none
theorem kCl_ok : ∀ ci, ci < 7 → kCl (cKi ci) = some ci ∧ cKi ci < 33 := by decide +kernel
def entF (ad : Cd → Nat) (M : Mm) (g k i n : Nat) : List Value := (List.range n).map (fun j => match tgf k j with
  | some f => Value.ref (ad (f g))
  | none => .int (M g k i j))
def ent (cI cL cM : ClassId) (ad : Cd → Nat) (M : Mm) (c : Cd) : va_E := match kCl c.2.1 with
  | some ci => .inr (ci, entF ad M c.1 c.2.1 c.2.2 (clN ci))
  | none => if c.2.1 = 1 then .inl (cL, 4, .inr (.inr (.inr (.inr (fun j => some (ad (c.1, 2, j))))))) else if c.2.1 = 3 then .inl (cM, 3, .inr (.inr (.inr (.inr (fun j => some (ad (c.1, 4, j))))))) else .inl (cI, alen c.2.1, .inl (M c.1 c.2.1 c.2.2))
def wsO (cI cL cM : ClassId) (ad : Cd → Nat) (M : Mm) : va_W := cellsL.map (fun c => (ad c, ent cI cL cM ad M c))
def tysO (cI cL cM : ClassId) : List (ClassId × FieldType) := [(cI, .int), (cL, .object RX0), (cM, .object RX1)]
theorem nd_inj {α : Type} : ∀ {l : List α}, l.Nodup → ∀ {i j : Nat} {x : α}, l[i]? = some x → l[j]? = some x → i = j := by
  intro l
  induction l with
  | nil => intro _ i j x h; simp at h
  | cons a l ih =>
    intro hn i j x h1 h2
    obtain ⟨ha, hl⟩ := List.nodup_cons.mp hn
    cases i with
    | zero =>
      cases j with
      | zero => rfl
      | succ j =>
        simp only [List.getElem?_cons_zero, Option.some.injEq] at h1
        simp only [List.getElem?_cons_succ] at h2
        exact absurd (List.mem_of_getElem? h2) (h1 ▸ ha)
    | succ i =>
      cases j with
      | zero =>
        simp only [List.getElem?_cons_zero, Option.some.injEq] at h2
        simp only [List.getElem?_cons_succ] at h1
        exact absurd (List.mem_of_getElem? h1) (h2 ▸ ha)
      | succ j =>
        simp only [List.getElem?_cons_succ] at h1 h2
        exact congrArg _ (ih hl h1 h2)
section Worlds
variable {cI cL cM : ClassId} {ad : Cd → Nat} {M M' : Mm}
theorem ws_at {q : Nat} {c : Cd} (h : cellsL[q]? = some c) : (wsO cI cL cM ad M)[q]? = some (ad c, ent cI cL cM ad M c) := by
  unfold wsO
  rw [List.getElem?_map, h]
  rfl
theorem ws_of {q : Nat} {x : Nat × va_E} (h : (wsO cI cL cM ad M)[q]? = some x) : ∃ c, cellsL[q]? = some c ∧ x = (ad c, ent cI cL cM ad M c) := by
  unfold wsO at h
  rw [List.getElem?_map] at h
  cases e : cellsL[q]? with
  | none => rw [e] at h; cases h
  | some c =>
    rw [e] at h
    cases h
    exact ⟨c, rfl, rfl⟩
theorem ws_in {c : Cd} (h : c ∈ cellsL) : ∃ q : Nat, cellsL[q]? = some c ∧ (wsO cI cL cM ad M)[q]? = some (ad c, ent cI cL cM ad M c) := by
  obtain ⟨q, hq⟩ := List.mem_iff_getElem?.mp h
  exact ⟨q, hq, ws_at hq⟩
theorem ws_set {q : Nat} {c : Cd} {x : va_E} (h : cellsL[q]? = some c) (hx : ent cI cL cM ad M' c = x) (ho : ∀ c', c' ≠ c → ent cI cL cM ad M' c' = ent cI cL cM ad M c') : (wsO cI cL cM ad M).set q (ad c, x) = wsO cI cL cM ad M' := by
  apply List.ext_getElem?
  intro i
  rw [List.getElem?_set]
  by_cases e : q = i
  · subst e
    have hl : q < (wsO cI cL cM ad M).length := (List.getElem?_eq_some_iff.mp (ws_at (cI := cI) (cL := cL) (cM := cM) (ad := ad) (M := M) h)).1
    rw [if_pos rfl, if_pos hl, ws_at h, hx]
  · rw [if_neg e]
    cases e2 : cellsL[i]? with
    | none =>
      unfold wsO
      rw [List.getElem?_map, List.getElem?_map, e2]
      rfl
    | some c' =>
      have hne : c' ≠ c := by
        intro ec
        subst ec
        exact e (nd_inj cells_nd h e2)
      rw [ws_at e2, ws_at e2, ho c' hne]
theorem D_to {A : Nat → Prop} (h : va_D A (wsO cI cL cM ad M)) (M' : Mm) : va_D A (wsO cI cL cM ad M') := by
  refine ⟨fun i j p q hp hq e => ?_, fun k q hq => ?_⟩
  · obtain ⟨c, h1, rfl⟩ := ws_of hp
    obtain ⟨d, h2, rfl⟩ := ws_of hq
    exact h.1 i j _ _ (ws_at h1) (ws_at h2) e
  · obtain ⟨c, h1, rfl⟩ := ws_of hq
    exact h.2 k (ad c, ent cI cL cM ad M c) (ws_at h1)
theorem up_same {α : Type} (f : Nat → α) (k : Nat) (v : α) : va_up f k v k = v := by simp [va_up]
theorem up_ne {α : Type} (f : Nat → α) {k j : Nat} (v : α) (h : j ≠ k) : va_up f k v j = f j := by simp [va_up, h]
theorem up_up {α : Type} (f : Nat → α) (k : Nat) (v w : α) : va_up (va_up f k v) k w = va_up f k w := by
  funext j
  by_cases h : j = k
  · subst h; simp [va_up]
  · simp [va_up, h]
theorem up_id {α : Type} (f : Nat → α) (k : Nat) : va_up f k (f k) = f := by
  funext j
  by_cases h : j = k
  · subst h; simp [va_up]
  · simp [va_up, h]
theorem wr_same (M : Mm) (g k i j : Nat) (v : Int32) : wr M g k i j v g k i = va_up (M g k i) j v := by simp only [wr, up_same]
theorem wr_ne (M : Mm) {g k i g' k' i' : Nat} (j : Nat) (v : Int32) (h : (g', k', i') ≠ (g, k, i)) : wr M g k i j v g' k' i' = M g' k' i' := by
  unfold wr
  by_cases hg : g' = g
  · subst hg
    rw [up_same]
    by_cases hk : k' = k
    · subst hk
      rw [up_same]
      exact up_ne _ _ (fun e => h (by rw [e]))
    · rw [up_ne _ _ hk]
  · rw [up_ne _ _ hg]
theorem ent_ne {g k i j : Nat} {v : Int32} {c : Cd} (h : c ≠ (g, k, i)) : ent cI cL cM ad (wr M g k i j v) c = ent cI cL cM ad M c := by
  obtain ⟨g', k', i'⟩ := c
  unfold ent entF
  simp only [wr_ne M j v h]
theorem entF_wr {g k i j n : Nat} {v : Int32} (h : tgf k j = none) : entF ad (wr M g k i j v) g k i n = (entF ad M g k i n).set j (.int v) := by
  apply List.ext_getElem?
  intro q
  unfold entF
  rw [List.getElem?_set, List.getElem?_map, List.getElem?_map, wr_same, List.length_map, List.length_range]
  by_cases e : j = q
  · subst e
    rw [if_pos rfl]
    by_cases hl : j < n
    · rw [if_pos hl, List.getElem?_range hl]
      show some _ = some _
      simp only [h, up_same]
    · rw [if_neg hl]
      rw [List.getElem?_eq_none (by simpa using hl)]
      rfl
  · rw [if_neg e]
    cases e2 : (List.range n)[q]? with
    | none => rfl
    | some z =>
      have hz : z = q := by
        have := List.getElem?_eq_some_iff.mp e2
        obtain ⟨h1, h2⟩ := this
        rw [List.getElem_range] at h2
        exact h2.symm
      subst hz
      have hx : va_up (M g k i) j v z = M g k i z := up_ne _ _ (Ne.symm e)
      show some _ = some _
      simp only [hx]
theorem entF_at {g k i j n : Nat} (hj : j < n) : (entF ad M g k i n)[j]? = some (match tgf k j with
  | some f => Value.ref (ad (f g))
  | none => .int (M g k i j)) := by
  unfold entF
  rw [List.getElem?_map, List.getElem?_range hj]
  rfl
end Worlds
/-- a value of the little machine, in the machine -/
def cv (ad : Cd → Nat) : AV → Value
  | some (.inl x) => .int x
  | some (.inr c) => .ref (ad c)
  | none => .null
theorem cv_cat (ad : Cd → Nat) (v : AV) : (cv ad v).category = 1 := by
  match v with
  | some (.inl x) => rfl
  | some (.inr c) => rfl
  | none => rfl
def lvO (ad : Cd → Nat) (ls : List AV) : List (Nat × Value) := (ls.zipIdx).filterMap (fun q => match q.1 with
  | some w => some (q.2, cv ad (some w))
  | none => none)
theorem lvO_mem {ad : Cd → Nat} {ls : List AV} {i : Nat} {x : Value} : (i, x) ∈ lvO ad ls ↔ ∃ w, ls[i]? = some (some w) ∧ x = cv ad (some w) := by
  unfold lvO
  rw [List.mem_filterMap]
  constructor
  · rintro ⟨⟨v, k⟩, hm, he⟩
    have hk := List.mem_zipIdx_iff_getElem?.mp hm
    cases v with
    | none => cases he
    | some w =>
      cases he
      exact ⟨w, hk, rfl⟩
  · rintro ⟨w, hw, rfl⟩
    exact ⟨(some w, i), List.mem_zipIdx_iff_getElem?.mpr hw, rfl⟩
def Lr (ad : Cd → Nat) (sl : Array Slot) (ls : List AV) : Prop := lv_has sl ls.length (lvO ad ls)
theorem Lr.at {ad : Cd → Nat} {sl : Array Slot} {ls : List AV} (h : Lr ad sl ls) {i : Nat} {w : Int32 ⊕ Cd} (hi : ls[i]? = some (some w)) : sl[i]? = some (.val (cv ad (some w))) := h.2.2 (i, _) (lvO_mem.mpr ⟨w, hi, rfl⟩)
theorem Lr.st {ad : Cd → Nat} {sl' : Array Slot} {ls : List AV} {i : Nat} {w : Int32 ⊕ Cd} (hi : i < ls.length) (h : lv_has sl' ls.length ((i, cv ad (some w)) :: (lvO ad ls).filter (fun q => !(q.1 == i) && !(q.1 + 1 == i && q.2.category == 2)))) : Lr ad sl' (ls.set i (some w)) := by
  refine ⟨by rw [List.length_set]; exact h.1, h.2.1, fun q hq => ?_⟩
  obtain ⟨j, x⟩ := q
  obtain ⟨w', hw', rfl⟩ := lvO_mem.mp hq
  rw [List.getElem?_set] at hw'
  by_cases e : i = j
  · subst e
    rw [if_pos rfl, if_pos hi] at hw'
    cases hw'
    exact h.2.2 _ List.mem_cons_self
  · rw [if_neg e] at hw'
    refine h.2.2 _ (List.mem_cons_of_mem _ (List.mem_filter.mpr ⟨lvO_mem.mpr ⟨w', hw', rfl⟩, ?_⟩))
    have := cv_cat ad (some w')
    simp [this, Ne.symm e]
end
section
def isNest : Cond → Bool
  | .fieldLinkNest .. => true
  | .methodLinkNest .. => true
  | _ => false
theorem nest_warm {w : Cond} {s U : State} (hn : isNest w = true) (hW : s.WarmedH U.vm) (h : va_Nw w s) : va_Nw w U := by
  unfold isNest at hn
  split at hn
  · exact va_Nw.warmF hW h
  · exact va_Nw.warmM hW h
  · cases hn
theorem nest_same {w : Cond} {s U : State} (hn : isNest w = true) (hv : U.vm = s.vm) (h : va_Nw w s) : va_Nw w U := by
  unfold isNest at hn
  split at hn
  · exact va_Nw.same rfl hv.symm h
  · exact va_Nw.same rfl hv.symm h
  · cases hn
/-- what lies outside the worlds: two constant rows, two constant texts -/
def Ext (ad : Cd → Nat) (A : Nat → Prop) (U : State) (H : Heap) : Prop :=
  (va_Z RX5 "SETTING_LEAST" "[I" (.ref (ad (9, 33, 0))) A U H ∧ va_T .int (ad (9, 33, 0)) 7 (fun j => .int (stV 33 j)) A U H) ∧ (va_Z RX5 "SETTING_GREATEST" "[I" (.ref (ad (9, 34, 0))) A U H ∧ va_T .int (ad (9, 34, 0)) 7 (fun j => .int (stV 34 j)) A U H) ∧ (∃ adV : Nat → Nat, vk_S 2 [6, 6] [ixB 35, ixB 36] (fun i => ad (9, 35 + i, 0)) adV A U H) ∧ va_Z "java/lang/String" "COMPACT_STRINGS" "Z" (.int 1) A U H ∧ (vk_R RX4 30 "lcwtbs" (ad (9, 35, 0)) U ∧ vk_R RX4 37 "ferqsl" (ad (9, 36, 0)) U ∧ vk_R RX5 261 "lcwtbs" (ad (9, 35, 0)) U ∧ vk_R RX5 279 "ferqsl" (ad (9, 36, 0)) U) ∧ ∀ w ∈ lw_tbl, isNest w = true → va_Nw w U
theorem Ext.to {ad : Cd → Nat} {A B : Nat → Prop} {s U : State} {H H1 : Heap} (h : Ext ad A s H) (hW : s.WarmedH U.vm) (hq : ∀ a : Nat, a < H.size → ¬ A a → H1[a]? = H[a]?) (hAB : ∀ q, B q → A q) : Ext ad B U H1 := by
  obtain ⟨⟨a1, a2⟩, ⟨b1, b2⟩, ⟨adV, c1⟩, d1, ⟨e1, e2, e3, e4⟩, n1⟩ := h
  exact ⟨⟨((a1.moved hW.alike).kept hq).narrow hAB, ((a2.moved hW.alike).kept hq).narrow hAB⟩, ⟨((b1.moved hW.alike).kept hq).narrow hAB, ((b2.moved hW.alike).kept hq).narrow hAB⟩, ⟨adV, ((c1.moved hW.alike).kept hq).narrow hAB⟩, ((d1.moved hW.alike).kept hq).narrow hAB, ⟨e1.warm hW, e2.warm hW, e3.warm hW, e4.warm hW⟩, fun w hw hn => nest_warm hn hW (n1 w hw hn)⟩
theorem Ext.same {ad : Cd → Nat} {A : Nat → Prop} {s U : State} {H : Heap} (h : Ext ad A s H) (hv : U.vm = s.vm) : Ext ad A U H := by
  obtain ⟨⟨a1, a2⟩, ⟨b1, b2⟩, ⟨adV, c1⟩, d1, ⟨e1, e2, e3, e4⟩, n1⟩ := h
  have ha : s.vm.Alike U.vm := by rw [hv]; exact Vm.Alike.refl s.vm
  exact ⟨⟨a1.moved ha, a2.moved ha⟩, ⟨b1.moved ha, b2.moved ha⟩, ⟨adV, c1.moved ha⟩, d1.moved ha, ⟨e1.same hv, e2.same hv, e3.same hv, e4.same hv⟩, fun w hw hn => nest_same hn hv (n1 w hw hn)⟩
/-- at a frame of the little machine: the machine, there, comes to Q -/
def Wd (p : Program) (l : Launch) (e : Env) (R : Room) (s : State) (m : MethodId) (args : Array Value) (below : List Frame) (meth : Method) (c : Code) (D : va_G) (cI cL cM : ClassId) (ad : Cd → Nat) (A : Nat → Prop) (nL : Nat) (Q : State → Prop) (q : Ss) : Prop :=
  ∀ (sl : Array Slot) (H : Heap) (locs : List Loc), okL q.2.1 → okS q.2.2.1 → q.2.1.length = nL → Lr ad sl q.2.1 → va_P D vwCl (wsO cI cL cM ad q.2.2.2) H → va_D A (wsO cI cL cM ad q.2.2.2) → va_S A s.heap H locs → W p l e R s m args below meth c H locs 0 0 Q (F0 m q.1 sl (q.2.2.1.map (cv ad)))
theorem fre_in {own idx ci j nst pl : Nat} (h : fre own idx = some (ci, j, nst, pl)) : fOk (own, idx, ci, j, nst, pl) = true := by
  unfold fre at h
  cases e : fls.find? (fun r => r.1 == own && r.2.1 == idx) with
  | none => rw [e] at h; cases h
  | some r =>
    rw [e] at h
    have h1 := List.find?_some e
    simp only [Bool.and_eq_true, beq_iff_eq] at h1
    have h2 := List.all_eq_true.mp fOk_all r (List.mem_of_find?_eq_some e)
    obtain ⟨a, b, c⟩ := r
    obtain ⟨rfl, rfl⟩ := h1
    cases h
    exact h2
theorem cre_in {own idx y nst pl : Nat} (h : cre own idx = some (y, nst, pl)) : cOk (own, idx, y, nst, pl) = true := by
  unfold cre at h
  cases e : cls_.find? (fun r => r.1 == own && r.2.1 == idx) with
  | none => rw [e] at h; cases h
  | some r =>
    rw [e] at h
    have h1 := List.find?_some e
    simp only [Bool.and_eq_true, beq_iff_eq] at h1
    have h2 := List.all_eq_true.mp cOk_all r (List.mem_of_find?_eq_some e)
    obtain ⟨a, b, c⟩ := r
    obtain ⟨rfl, rfl⟩ := h1
    cases h
    exact h2
theorem kre_in {own idx pl : Nat} {v : Int32} (h : kre own idx = some (v, pl)) : kOk (own, idx, v, pl) = true := by
  unfold kre at h
  cases e : kos.find? (fun r => r.1 == own && r.2.1 == idx) with
  | none => rw [e] at h; cases h
  | some r =>
    rw [e] at h
    have h1 := List.find?_some e
    simp only [Bool.and_eq_true, beq_iff_eq] at h1
    have h2 := List.all_eq_true.mp kOk_all r (List.mem_of_find?_eq_some e)
    obtain ⟨a, b, c⟩ := r
    obtain ⟨rfl, rfl⟩ := h1
    cases h
    exact h2
theorem nx_inj {pc : Nat} {ls st : List AV} {M : Mm} {q : Ss} (h : nx pc ls st M = some (.inr q)) : q = (pc, ls, st, M) := by
  unfold nx at h
  cases h
  rfl
theorem jmp_inj {pc : Nat} {off : Int} {ls st : List AV} {M : Mm} {q : Ss} (h : jmp pc off ls st M = some (.inr q)) : ∃ tgt : Nat, (pc : Int) + off = (tgt : Int) ∧ q = (tgt, ls, st, M) := by
  unfold jmp at h
  split at h
  · rename_i h0
    exact ⟨((pc : Int) + off).toNat, (Int.toNat_of_nonneg h0).symm, nx_inj h⟩
  · cases h
section Steps
variable {p : Program} {l : Launch} {e : Env} {R : Room} {s : State} {m : MethodId} {args : Array Value} {below : List Frame} {meth : Method} {c : Code} {D : va_G} {cI cL cM : ClassId} {ad : Cd → Nat} {A : Nat → Prop} {nL : Nat} {Q : State → Prop} {cc : ByteArray} {pc : Nat} {ls st : List AV} {M : Mm} {q : Ss}
theorem s_bin {f : Int32 → Int32 → Option Int32} {k : Nat} (row : ∀ (H : Heap) (locs : List Loc) (sl : Array Slot) (rest : List Value) (x y z : Int32), f x y = some z → W p l e R s m args below meth c H locs 0 0 Q (F0 m (pc + k + 1) sl (.int z :: rest)) → W p l e R s m args below meth c H locs 0 0 Q (F0 m pc sl (.int y :: .int x :: rest)))
    (h : bin f (pc + k) ls st M = some (.inr q)) (kk : Wd p l e R s m args below meth c D cI cL cM ad A nL Q q) : Wd p l e R s m args below meth c D cI cL cM ad A nL Q (pc, ls, st, M) := by
  intro sl H locs hL hS hn hl hP hD hs
  unfold bin at h
  split at h
  · rename_i b a r
    split at h
    · rename_i z hz
      have := nx_inj h
      subst this
      exact row H locs sl (r.map (cv ad)) a b z hz (kk sl H locs hL (okS_cons (okV_i z) (okS_tl (okS_tl hS))) hn hl hP hD hs)
    · cases h
  · cases h
theorem s_una {f : Int32 → Int32} (row : ∀ (H : Heap) (locs : List Loc) (sl : Array Slot) (rest : List Value) (x : Int32), W p l e R s m args below meth c H locs 0 0 Q (F0 m (pc + 1) sl (.int (f x) :: rest)) → W p l e R s m args below meth c H locs 0 0 Q (F0 m pc sl (.int x :: rest)))
    (h : una f pc ls st M = some (.inr q)) (kk : Wd p l e R s m args below meth c D cI cL cM ad A nL Q q) : Wd p l e R s m args below meth c D cI cL cM ad A nL Q (pc, ls, st, M) := by
  intro sl H locs hL hS hn hl hP hD hs
  unfold una at h
  split at h
  · rename_i a r
    have := nx_inj h
    subst this
    exact row H locs sl (r.map (cv ad)) a (kk sl H locs hL (okS_cons (okV_i (f a)) (okS_tl hS)) hn hl hP hD hs)
  · cases h
theorem s_psh {v : Int32} {k : Nat} (row : ∀ (H : Heap) (locs : List Loc) (sl : Array Slot) (rest : List Value), W p l e R s m args below meth c H locs 0 0 Q (F0 m (pc + k) sl (.int v :: rest)) → W p l e R s m args below meth c H locs 0 0 Q (F0 m pc sl rest))
    (h : nx (pc + k) ls (aI v :: st) M = some (.inr q)) (kk : Wd p l e R s m args below meth c D cI cL cM ad A nL Q q) : Wd p l e R s m args below meth c D cI cL cM ad A nL Q (pc, ls, st, M) := by
  intro sl H locs hL hS hn hl hP hD hs
  have := nx_inj h
  subst this
  exact row H locs sl (st.map (cv ad)) (kk sl H locs hL (okS_cons (okV_i v) hS) hn hl hP hD hs)
theorem s_ldi {i k : Nat} (row : ∀ (H : Heap) (locs : List Loc) (sl : Array Slot) (rest : List Value) (x : Int32), sl[i]? = some (.val (.int x)) → W p l e R s m args below meth c H locs 0 0 Q (F0 m (pc + k) sl (.int x :: rest)) → W p l e R s m args below meth c H locs 0 0 Q (F0 m pc sl rest))
    (h : ldi i k pc ls st M = some (.inr q)) (kk : Wd p l e R s m args below meth c D cI cL cM ad A nL Q q) : Wd p l e R s m args below meth c D cI cL cM ad A nL Q (pc, ls, st, M) := by
  intro sl H locs hL hS hn hl hP hD hs
  unfold ldi at h
  split at h
  · rename_i x hx
    have := nx_inj h
    subst this
    exact row H locs sl (st.map (cv ad)) x (hl.at hx) (kk sl H locs hL (okS_cons (okV_i x) hS) hn hl hP hD hs)
  · cases h
theorem s_lda {i k : Nat} (row : ∀ (H : Heap) (locs : List Loc) (sl : Array Slot) (rest : List Value) (x : Nat), sl[i]? = some (.val (.ref x)) → W p l e R s m args below meth c H locs 0 0 Q (F0 m (pc + k) sl (.ref x :: rest)) → W p l e R s m args below meth c H locs 0 0 Q (F0 m pc sl rest))
    (h : lda i k pc ls st M = some (.inr q)) (kk : Wd p l e R s m args below meth c D cI cL cM ad A nL Q q) : Wd p l e R s m args below meth c D cI cL cM ad A nL Q (pc, ls, st, M) := by
  intro sl H locs hL hS hn hl hP hD hs
  unfold lda at h
  split at h
  · rename_i x hx
    have := nx_inj h
    subst this
    exact row H locs sl (st.map (cv ad)) (ad x) (hl.at hx) (kk sl H locs hL (okS_cons (okL_get hL hx) hS) hn hl hP hD hs)
  · cases h
theorem s_sti {i k : Nat} (row : ∀ (H : Heap) (locs : List Loc) (sl : Array Slot) (rest : List Value) (x : Int32) (lv : List (Nat × Value)), i < nL → lv_has sl nL lv → (∀ sl' : Array Slot, lv_has sl' nL ((i, Value.int x) :: lv.filter (fun q => !(q.1 == i) && !(q.1 + 1 == i && q.2.category == 2))) → W p l e R s m args below meth c H locs 0 0 Q (F0 m (pc + k) sl' rest)) → W p l e R s m args below meth c H locs 0 0 Q (F0 m pc sl (.int x :: rest)))
    (h : sti i k pc ls st M = some (.inr q)) (kk : Wd p l e R s m args below meth c D cI cL cM ad A nL Q q) : Wd p l e R s m args below meth c D cI cL cM ad A nL Q (pc, ls, st, M) := by
  intro sl H locs hL hS hn hl hP hD hs
  unfold sti at h
  split at h
  · rename_i x r
    split at h
    · rename_i hi
      have := nx_inj h
      subst this
      have hn' : ls.length = nL := hn
      subst hn'
      exact row H locs sl (r.map (cv ad)) x (lvO ad ls) hi hl (fun sl' hl' => kk sl' H locs (okL_set hL (okV_i x)) (okS_tl hS) (by show (ls.set i (aI x)).length = _; rw [List.length_set]) (Lr.st (w := .inl x) hi hl') hP hD hs)
    · cases h
  · cases h
theorem s_sta {i k : Nat} (row : ∀ (H : Heap) (locs : List Loc) (sl : Array Slot) (rest : List Value) (x : Nat) (lv : List (Nat × Value)), i < nL → lv_has sl nL lv → (∀ sl' : Array Slot, lv_has sl' nL ((i, Value.ref x) :: lv.filter (fun q => !(q.1 == i) && !(q.1 + 1 == i && q.2.category == 2))) → W p l e R s m args below meth c H locs 0 0 Q (F0 m (pc + k) sl' rest)) → W p l e R s m args below meth c H locs 0 0 Q (F0 m pc sl (.ref x :: rest)))
    (h : sta i k pc ls st M = some (.inr q)) (kk : Wd p l e R s m args below meth c D cI cL cM ad A nL Q q) : Wd p l e R s m args below meth c D cI cL cM ad A nL Q (pc, ls, st, M) := by
  intro sl H locs hL hS hn hl hP hD hs
  unfold sta at h
  split at h
  · rename_i x r
    split at h
    · rename_i hi
      have := nx_inj h
      subst this
      have hn' : ls.length = nL := hn
      subst hn'
      exact row H locs sl (r.map (cv ad)) (ad x) (lvO ad ls) hi hl (fun sl' hl' => kk sl' H locs (okL_set hL (okS_hd hS)) (okS_tl hS) (by show (ls.set i (some (.inr x))).length = _; rw [List.length_set]) (Lr.st (w := .inr x) hi hl') hP hD hs)
    · cases h
  · cases h
theorem s_inc {i : Nat} {k : Int} (hx : p.tables.exec = Jvm.exec) (hb : c.code = cc) (hd : decode cc pc = .ok (.iinc i k, 3)) (h : inc i k pc ls st M = some (.inr q)) (kk : Wd p l e R s m args below meth c D cI cL cM ad A nL Q q) : Wd p l e R s m args below meth c D cI cL cM ad A nL Q (pc, ls, st, M) := by
  intro sl H locs hL hS hn hl hP hD hs
  unfold inc at h
  split at h
  · rename_i x hx0
    have := nx_inj h
    subst this
    have hn' : ls.length = nL := hn
    subst hn'
    have hi : i < ls.length := (List.getElem?_eq_some_iff.mp hx0).1
    obtain ⟨z, hz⟩ := List.mem_iff_getElem?.mp (lvO_mem.mpr ⟨_, hx0, rfl⟩ : (i, cv ad (some (.inl x))) ∈ lvO ad ls)
    exact lv_iinc (v := x + Int32.ofInt k) hx hb hd hl (k := z) hz rfl hi rfl (fun sl' hl' => kk sl' H locs (okL_set hL (okV_i _)) hS (by show (ls.set i _).length = _; rw [List.length_set]) (Lr.st (w := .inl (x + Int32.ofInt k)) hi hl') hP hD hs)
  · cases h
theorem s_if1 {cd : _root_.Jvm.ClassFile.Cond} {off : Int} (hx : p.tables.exec = Jvm.exec) (hb : c.code = cc) (hd : decode cc pc = .ok (.ifCond cd off, 3)) (h : if1 cd off pc ls st M = some (.inr q)) (kk : Wd p l e R s m args below meth c D cI cL cM ad A nL Q q) : Wd p l e R s m args below meth c D cI cL cM ad A nL Q (pc, ls, st, M) := by
  intro sl H locs hL hS hn hl hP hD hs
  unfold if1 at h
  split at h
  · rename_i a r
    by_cases h0 : 0 ≤ (pc : Int) + off
    · rw [if_pos h0] at h
      have ht0 : (pc : Int) + off = (((pc : Int) + off).toNat : Int) := (Int.toNat_of_nonneg h0).symm
      by_cases hc : cnB cd a 0 = true
      · rw [if_pos hc] at h
        obtain ⟨tgt, ht, rfl⟩ := jmp_inj h
        have K := kk sl H locs hL (okS_tl hS) hn hl hP hD hs
        cases cd
        · exact lv_if_eq hx hb hd ht (fun _ => K) (fun n => absurd (of_decide_eq_true hc) n)
        · exact lv_if_ne hx hb hd ht (fun _ => K) (fun n => absurd n (of_decide_eq_true hc))
        · exact lv_if_lt hx hb hd ht (fun _ => K) (fun n => absurd (of_decide_eq_true hc) n)
        · exact lv_if_ge hx hb hd ht (fun _ => K) (fun n => absurd (of_decide_eq_true hc) n)
        · exact lv_if_gt hx hb hd ht (fun _ => K) (fun n => absurd (of_decide_eq_true hc) n)
        · exact lv_if_le hx hb hd ht (fun _ => K) (fun n => absurd (of_decide_eq_true hc) n)
      · rw [if_neg hc] at h
        have := nx_inj h
        subst this
        have K := kk sl H locs hL (okS_tl hS) hn hl hP hD hs
        cases cd
        · exact lv_if_eq hx hb hd ht0 (fun y => absurd (decide_eq_true y) hc) (fun _ => K)
        · exact lv_if_ne hx hb hd ht0 (fun y => absurd (decide_eq_true y) hc) (fun _ => K)
        · exact lv_if_lt hx hb hd ht0 (fun y => absurd (decide_eq_true y) hc) (fun _ => K)
        · exact lv_if_ge hx hb hd ht0 (fun y => absurd (decide_eq_true y) hc) (fun _ => K)
        · exact lv_if_gt hx hb hd ht0 (fun y => absurd (decide_eq_true y) hc) (fun _ => K)
        · exact lv_if_le hx hb hd ht0 (fun y => absurd (decide_eq_true y) hc) (fun _ => K)
    · rw [if_neg h0] at h
      cases h
  · cases h
theorem s_if2 {cd : _root_.Jvm.ClassFile.Cond} {off : Int} (hx : p.tables.exec = Jvm.exec) (hb : c.code = cc) (hd : decode cc pc = .ok (.if_icmp cd off, 3)) (h : if2 cd off pc ls st M = some (.inr q)) (kk : Wd p l e R s m args below meth c D cI cL cM ad A nL Q q) : Wd p l e R s m args below meth c D cI cL cM ad A nL Q (pc, ls, st, M) := by
  intro sl H locs hL hS hn hl hP hD hs
  unfold if2 at h
  split at h
  · rename_i b a r
    by_cases h0 : 0 ≤ (pc : Int) + off
    · rw [if_pos h0] at h
      have ht0 : (pc : Int) + off = (((pc : Int) + off).toNat : Int) := (Int.toNat_of_nonneg h0).symm
      by_cases hc : cnB cd a b = true
      · rw [if_pos hc] at h
        obtain ⟨tgt, ht, rfl⟩ := jmp_inj h
        have K := kk sl H locs hL (okS_tl (okS_tl hS)) hn hl hP hD hs
        cases cd
        · exact lv_icmp_eq hx hb hd ht (fun _ => K) (fun n => absurd (of_decide_eq_true hc) n)
        · exact lv_icmp_ne hx hb hd ht (fun _ => K) (fun n => absurd n (of_decide_eq_true hc))
        · exact lv_icmp_lt hx hb hd ht (fun _ => K) (fun n => absurd (of_decide_eq_true hc) n)
        · exact lv_icmp_ge hx hb hd ht (fun _ => K) (fun n => absurd (of_decide_eq_true hc) n)
        · exact lv_icmp_gt hx hb hd ht (fun _ => K) (fun n => absurd (of_decide_eq_true hc) n)
        · exact lv_icmp_le hx hb hd ht (fun _ => K) (fun n => absurd (of_decide_eq_true hc) n)
      · rw [if_neg hc] at h
        have := nx_inj h
        subst this
        have K := kk sl H locs hL (okS_tl (okS_tl hS)) hn hl hP hD hs
        cases cd
        · exact lv_icmp_eq hx hb hd ht0 (fun y => absurd (decide_eq_true y) hc) (fun _ => K)
        · exact lv_icmp_ne hx hb hd ht0 (fun y => absurd (decide_eq_true y) hc) (fun _ => K)
        · exact lv_icmp_lt hx hb hd ht0 (fun y => absurd (decide_eq_true y) hc) (fun _ => K)
        · exact lv_icmp_ge hx hb hd ht0 (fun y => absurd (decide_eq_true y) hc) (fun _ => K)
        · exact lv_icmp_gt hx hb hd ht0 (fun y => absurd (decide_eq_true y) hc) (fun _ => K)
        · exact lv_icmp_le hx hb hd ht0 (fun y => absurd (decide_eq_true y) hc) (fun _ => K)
    · rw [if_neg h0] at h
      cases h
  · cases h
theorem s_jmp {off : Int} (hx : p.tables.exec = Jvm.exec) (hb : c.code = cc) (hd : decode cc pc = .ok (.goto off, 3)) (h : jmp pc off ls st M = some (.inr q)) (kk : Wd p l e R s m args below meth c D cI cL cM ad A nL Q q) : Wd p l e R s m args below meth c D cI cL cM ad A nL Q (pc, ls, st, M) := by
  intro sl H locs hL hS hn hl hP hD hs
  obtain ⟨tgt, ht, rfl⟩ := jmp_inj h
  exact lv_goto hx hb hd ht (kk sl H locs hL hS hn hl hP hD hs)
theorem s_tsw {d lo hi : Int} {offs : Array Int} {len : Nat} (hx : p.tables.exec = Jvm.exec) (hb : c.code = cc) (hd : decode cc pc = .ok (.tableswitch d lo hi offs, len)) (h : tsw d lo hi offs pc ls st M = some (.inr q)) (kk : Wd p l e R s m args below meth c D cI cL cM ad A nL Q q) : Wd p l e R s m args below meth c D cI cL cM ad A nL Q (pc, ls, st, M) := by
  intro sl H locs hL hS hn hl hP hD hs
  unfold tsw at h
  split at h
  · rename_i x r
    by_cases hc : x.toInt < lo ∨ hi < x.toInt
    · rw [if_pos hc] at h
      obtain ⟨tgt, ht, rfl⟩ := jmp_inj h
      exact lv_tableOut hx hb hd hc ht (kk sl H locs hL (okS_tl hS) hn hl hP hD hs)
    · rw [if_neg hc] at h
      split at h
      · rename_i off ho
        obtain ⟨tgt, ht, rfl⟩ := jmp_inj h
        exact lv_tableIn hx hb hd (fun z => hc (Or.inl z)) (fun z => hc (Or.inr z)) ho ht (kk sl H locs hL (okS_tl hS) hn hl hP hD hs)
      · cases h
  · cases h
theorem s_lsw {d : Int} {ps : Array (Int × Int)} {len : Nat} (hx : p.tables.exec = Jvm.exec) (hb : c.code = cc) (hd : decode cc pc = .ok (.lookupswitch d ps, len)) (h : lsw d ps pc ls st M = some (.inr q)) (kk : Wd p l e R s m args below meth c D cI cL cM ad A nL Q q) : Wd p l e R s m args below meth c D cI cL cM ad A nL Q (pc, ls, st, M) := by
  intro sl H locs hL hS hn hl hP hD hs
  unfold lsw at h
  split at h
  · rename_i x r
    split at h
    · rename_i hc
      obtain ⟨tgt, ht, rfl⟩ := jmp_inj h
      exact lv_lookup hx hb hd hc rfl ht (kk sl H locs hL (okS_tl hS) hn hl hP hD hs)
    · cases h
  · cases h
theorem s_dp1 (hx : p.tables.exec = Jvm.exec) (hb : c.code = cc) (hd : decode cc pc = .ok (.dup, 1)) (h : dp1 pc ls st M = some (.inr q)) (kk : Wd p l e R s m args below meth c D cI cL cM ad A nL Q q) : Wd p l e R s m args below meth c D cI cL cM ad A nL Q (pc, ls, st, M) := by
  intro sl H locs hL hS hn hl hP hD hs
  unfold dp1 at h
  split at h
  · rename_i a r
    have := nx_inj h
    subst this
    exact lv_dup hx hb hd (cv_cat ad (some a)) (kk sl H locs hL (okS_cons (okS_hd hS) hS) hn hl hP hD hs)
  · cases h
theorem s_dp2 (hx : p.tables.exec = Jvm.exec) (hb : c.code = cc) (hd : decode cc pc = .ok (.dup2, 1)) (h : dp2 pc ls st M = some (.inr q)) (kk : Wd p l e R s m args below meth c D cI cL cM ad A nL Q q) : Wd p l e R s m args below meth c D cI cL cM ad A nL Q (pc, ls, st, M) := by
  intro sl H locs hL hS hn hl hP hD hs
  unfold dp2 at h
  split at h
  · rename_i a b r
    have := nx_inj h
    subst this
    exact lv_dup2_11 hx hb hd (cv_cat ad (some a)) (cv_cat ad (some b)) (kk sl H locs hL (okS_cons (okS_hd hS) (okS_cons (okS_hd (okS_tl hS)) hS)) hn hl hP hD hs)
  · cases h
theorem s_pp1 (hx : p.tables.exec = Jvm.exec) (hb : c.code = cc) (hd : decode cc pc = .ok (.pop, 1)) (h : pp1 pc ls st M = some (.inr q)) (kk : Wd p l e R s m args below meth c D cI cL cM ad A nL Q q) : Wd p l e R s m args below meth c D cI cL cM ad A nL Q (pc, ls, st, M) := by
  intro sl H locs hL hS hn hl hP hD hs
  unfold pp1 at h
  split at h
  · rename_i a r
    have := nx_inj h
    subst this
    exact lv_pop hx hb hd (cv_cat ad (some a)) (kk sl H locs hL (okS_tl hS) hn hl hP hD hs)
  · cases h
end Steps
end
section
theorem lay_gt : ∀ ci, ci < 7 → ∀ w ∈ u_ws (clR ci) (clT ci) (clN ci), w ∈ gt := by
  intro ci h w hw
  refine List.mem_filter.mpr ⟨lay_in ci h w hw, ?_⟩
  obtain ⟨k, -, rfl⟩ := List.mem_map.mp hw
  unfold u_lay
  split <;> rfl
theorem ok_low {c : Cd} (h : okC c) (hk : c.2.1 < 33) : c ∈ cellsL := by
  rcases h with h | ⟨-, h, -⟩
  · exact h
  · omega
theorem ok_high {c : Cd} (h : okC c) (hk : 33 ≤ c.2.1) : c = (9, c.2.1, 0) := by
  obtain ⟨g, k, i⟩ := c
  rcases h with h | ⟨h1, -, -, h2⟩
  · have := (cells_k _ h).1
    dsimp only at hk this
    omega
  · dsimp only at h1 h2 ⊢
    rw [h1, h2]
theorem vp_of {i : Int32} {n : Nat} (h : vpB i n = true) : vp_in i n := (of_decide_eq_true (p := ¬ (i < 0 ∨ n ≤ i.toNatClampNeg)) h)
theorem vp_lt {i : Int32} {n : Nat} (h : vp_in i n) : i.toNatClampNeg < n := Nat.not_le.mp fun q => h (Or.inr q)
theorem ent_obj {cI cL cM : ClassId} {ad : Cd → Nat} {M : Mm} {g i ci : Nat} (hci : ci < 7) : ent cI cL cM ad M (g, cKi ci, i) = .inr (ci, entF ad M g (cKi ci) i (clN ci)) := by
  unfold ent
  simp only [(kCl_ok ci hci).1]
theorem kCl_arr : ∀ k, k < 33 → 0 < alen k → kCl k = none ∧ k ≠ 1 ∧ k ≠ 3 := by decide +kernel
theorem ent_arr {cI cL cM : ClassId} {ad : Cd → Nat} {M : Mm} {g k i : Nat} (hk : k < 33) (h : 0 < alen k) : ent cI cL cM ad M (g, k, i) = .inl (cI, alen k, .inl (M g k i)) := by
  obtain ⟨h1, h2, h3⟩ := kCl_arr k hk h
  unfold ent
  simp only [h1, h2, h3, if_false]
section Mem
variable {p : Program} {l : Launch} {e : Env} {R : Room} {s : State} {m : MethodId} {args : Array Value} {below : List Frame} {meth : Method} {c : Code} {D : va_G} {cI cL cM : ClassId} {ad : Cd → Nat} {A : Nat → Prop} {nL : Nat} {Q : State → Prop} {cc : ByteArray} {pc : Nat} {ls st : List AV} {M : Mm} {q : Ss}
theorem row_get {own idx ci j nst pl : Nat} (hx : p.tables.exec = Jvm.exec) (hb : c.code = cc) (hE : Ext ad A s s.heap) (hts : ∀ w ∈ gt, w.before args s = true) (hown : s.vm.findClass (clR own) = some m.cls) (hK : va_K D vwCl (tysO cI cL cM) s) (hd : decode cc pc = .ok (.getfield idx, 3))
    (hw : lw_tbl[pl]? = some (if nst = 1 then Cond.fieldLinkNest (clR own) idx (clT ci j).1 (clT ci j).2.1 (clT ci j).2.2.1 RX5 else Cond.fieldLink (clR own) idx (clT ci j).1 (clT ci j).2.1 (clT ci j).2.2.1)) (hci : ci < 7) (hj : j < clN ci)
    {ws : va_W} {H : Heap} {locs : List Loc} {a q0 : Nat} {fs : List Value} {v : Value} {sl : Array Slot} {rest : List Value} (hP : va_P D vwCl ws H) (he : ws[q0]? = some (a, .inr (ci, fs))) (hv : fs[j]? = some v) (k : W p l e R s m args below meth c H locs 0 0 Q (F0 m (pc + 3) sl (v :: rest))) : W p l e R s m args below meth c H locs 0 0 Q (F0 m pc sl (.ref a :: rest)) := by
  by_cases hn : nst = 1
  · rw [if_pos hn] at hw
    exact va_getN (D := D) (ci := ci) (v := v) (C := clR ci) (T := clT ci) (N := clN ci) hx hb hts (lay_gt ci hci) hown hK hP q0 he (vwCl_at ci hci) j hj (va_Nw.use rfl (hE.2.2.2.2.2 _ (List.mem_of_getElem? hw) rfl)) (fun _ h9 => h9) hv hd k
  · rw [if_neg hn] at hw
    exact va_get (D := D) (ci := ci) (v := v) (C := clR ci) (T := clT ci) (N := clN ci) hx hb hts (lay_gt ci hci) hown hK hP q0 he (vwCl_at ci hci) j hj (hts _ (gt_of hw rfl)) (fun _ h9 => h9) hv hd k
theorem row_put {own idx ci j nst pl : Nat} (hx : p.tables.exec = Jvm.exec) (hb : c.code = cc) (hE : Ext ad A s s.heap) (hts : ∀ w ∈ gt, w.before args s = true) (hown : s.vm.findClass (clR own) = some m.cls) (hK : va_K D vwCl (tysO cI cL cM) s) (hd : decode cc pc = .ok (.putfield idx, 3))
    (hw : lw_tbl[pl]? = some (if nst = 1 then Cond.fieldLinkNest (clR own) idx (clT ci j).1 (clT ci j).2.1 (clT ci j).2.2.1 RX5 else Cond.fieldLink (clR own) idx (clT ci j).1 (clT ci j).2.1 (clT ci j).2.2.1)) (hci : ci < 7) (hj : j < clN ci)
    {ws : va_W} {H : Heap} {locs : List Loc} {a q0 : Nat} {fs : List Value} {v : Value} {sl : Array Slot} {rest : List Value} (hP : va_P D vwCl ws H) (hD : va_D A ws) (hS : va_S A s.heap H locs) (he : ws[q0]? = some (a, .inr (ci, fs))) (hfin : (clT ci j).2.2.2 = false) (hn : narrow (clTy ci j) v = v) (hfit : fits (clTy ci j) v = true) (hl : j < fs.length)
    (k : ∀ (H1 : Heap) (locs1 : List Loc), va_P D vwCl (ws.set q0 (a, .inr (ci, fs.set j v))) H1 → va_D A (ws.set q0 (a, .inr (ci, fs.set j v))) → va_S A s.heap H1 locs1 → W p l e R s m args below meth c H1 locs1 0 0 Q (F0 m (pc + 3) sl rest)) : W p l e R s m args below meth c H locs 0 0 Q (F0 m pc sl (v :: .ref a :: rest)) := by
  by_cases hn1 : nst = 1
  · rw [if_pos hn1] at hw
    exact va_putN (D := D) (ci := ci) (v := v) (C := clR ci) (T := clT ci) (N := clN ci) hx hb hts (lay_gt ci hci) (clTy ci) (clTy_ok ci hci) (clNm_ok ci hci) hown hK hP hD hS q0 he (vwCl_at ci hci) j hj (va_Nw.use rfl (hE.2.2.2.2.2 _ (List.mem_of_getElem? hw) rfl)) (fun _ h9 => h9) hfin (clTy_ok ci hci j hj) hn hfit hl hd k
  · rw [if_neg hn1] at hw
    exact va_put (D := D) (ci := ci) (v := v) (C := clR ci) (T := clT ci) (N := clN ci) hx hb hts (lay_gt ci hci) (clTy ci) (clTy_ok ci hci) (clNm_ok ci hci) hown hK hP hD hS q0 he (vwCl_at ci hci) j hj (hts _ (gt_of hw rfl)) (fun _ h9 => h9) hfin (clTy_ok ci hci j hj) hn hfit hl hd k
theorem s_gfd {own idx : Nat} (hx : p.tables.exec = Jvm.exec) (hb : c.code = cc) (hE : Ext ad A s s.heap) (hts : ∀ w ∈ gt, w.before args s = true) (hown : s.vm.findClass (clR own) = some m.cls) (hK : va_K D vwCl (tysO cI cL cM) s) (hd : decode cc pc = .ok (.getfield idx, 3)) (h : gfd own idx pc ls st M = some (.inr q)) (kk : Wd p l e R s m args below meth c D cI cL cM ad A nL Q q) : Wd p l e R s m args below meth c D cI cL cM ad A nL Q (pc, ls, st, M) := by
  intro sl H locs hL hS hn hl hP hD hs
  unfold gfd at h
  cases e1 : fre own idx with
  | none => rw [e1] at h; cases h
  | some r =>
    obtain ⟨ci, j, nst, pl⟩ := r
    rw [e1] at h
    have hf := fre_in e1
    simp only [fOk, Bool.and_eq_true, decide_eq_true_eq] at hf
    obtain ⟨⟨⟨hw, hci⟩, hj⟩, -⟩ := hf
    dsimp only at h
    split at h
    · rename_i g k i r
      split at h
      · rename_i hk
        subst hk
        have hc : (g, cKi ci, i) ∈ cellsL := ok_low (okV_c (okS_hd hS)) (kCl_ok ci hci).2
        obtain ⟨q0, hq, hws⟩ := ws_in (cI := cI) (cL := cL) (cM := cM) (ad := ad) (M := M) hc
        rw [ent_obj hci] at hws
        have hv := entF_at (ad := ad) (M := M) (g := g) (k := cKi ci) (i := i) hj
        split at h
        · rename_i f hf
          have := nx_inj h
          subst this
          simp only [hf] at hv
          exact row_get hx hb hE hts hown hK hd hw hci hj hP hws hv (kk sl H locs hL (okS_cons (okV_r (Or.inl (tgf_ok hc hf))) (okS_tl hS)) hn hl hP hD hs)
        · rename_i hf
          have := nx_inj h
          subst this
          simp only [hf] at hv
          exact row_get hx hb hE hts hown hK hd hw hci hj hP hws hv (kk sl H locs hL (okS_cons (okV_i _) (okS_tl hS)) hn hl hP hD hs)
      · cases h
    · cases h
theorem s_pfd {own idx : Nat} (hx : p.tables.exec = Jvm.exec) (hb : c.code = cc) (hE : Ext ad A s s.heap) (hts : ∀ w ∈ gt, w.before args s = true) (hown : s.vm.findClass (clR own) = some m.cls) (hK : va_K D vwCl (tysO cI cL cM) s) (hd : decode cc pc = .ok (.putfield idx, 3)) (h : pfd own idx pc ls st M = some (.inr q)) (kk : Wd p l e R s m args below meth c D cI cL cM ad A nL Q q) : Wd p l e R s m args below meth c D cI cL cM ad A nL Q (pc, ls, st, M) := by
  intro sl H locs hL hS hn hl hP hD hs
  unfold pfd at h
  cases e1 : fre own idx with
  | none => rw [e1] at h; cases h
  | some r =>
    obtain ⟨ci, j, nst, pl⟩ := r
    rw [e1] at h
    have hf := fre_in e1
    simp only [fOk, Bool.and_eq_true, decide_eq_true_eq, Bool.or_eq_true] at hf
    obtain ⟨⟨⟨hw, hci⟩, hj⟩, hz⟩ := hf
    dsimp only at h
    split at h
    · rename_i v g k i r
      split at h
      · rename_i hk
        obtain ⟨hk, ht, hb1⟩ := hk
        subst hk
        have := nx_inj h
        subst this
        have ht' : tgf (cKi ci) j = none := Option.isNone_iff_eq_none.mp ht
        have hz' : (clT ci j).2.2.2 = false ∧ clTy ci j = if isZ (cKi ci) j = true then FieldType.boolean else FieldType.int := by
          rcases hz with h9 | h9
          · rw [ht'] at h9; cases h9
          · exact h9
        have hc : (g, cKi ci, i) ∈ cellsL := ok_low (okV_c (okS_hd (okS_tl hS))) (kCl_ok ci hci).2
        obtain ⟨q0, hq, hws⟩ := ws_in (cI := cI) (cL := cL) (cM := cM) (ad := ad) (M := M) hc
        rw [ent_obj hci] at hws
        have hnf : narrow (clTy ci j) (.int v) = .int v ∧ fits (clTy ci j) (.int v) = true := by
          rw [hz'.2]
          by_cases hb2 : isZ (cKi ci) j = true
          · rw [if_pos hb2]
            rcases hb1 hb2 with rfl | rfl
            · exact ⟨by decide +kernel, by decide +kernel⟩
            · exact ⟨by decide +kernel, by decide +kernel⟩
          · rw [if_neg hb2]
            exact ⟨rfl, rfl⟩
        have hset : (wsO cI cL cM ad M).set q0 (ad (g, cKi ci, i), .inr (ci, (entF ad M g (cKi ci) i (clN ci)).set j (.int v))) = wsO cI cL cM ad (wr M g (cKi ci) i j v) := ws_set hq (by rw [ent_obj hci, entF_wr ht']) (fun c' hc' => ent_ne hc')
        refine row_put hx hb hE hts hown hK hd hw hci hj hP hD hs hws hz'.1 hnf.1 hnf.2 (by unfold entF; rw [List.length_map, List.length_range]; exact hj) (fun H1 locs1 hP1 hD1 hS1 => ?_)
        exact kk sl H1 locs1 hL (okS_tl (okS_tl hS)) hn hl (by rw [← hset]; exact hP1) (by rw [← hset]; exact hD1) hS1
      · cases h
    · cases h
theorem s_ial (hx : p.tables.exec = Jvm.exec) (hb : c.code = cc) (hK : va_K D vwCl (tysO cI cL cM) s) (hE : Ext ad A s s.heap) (hd : decode cc pc = .ok (.iaload, 1)) (h : ial pc ls st M = some (.inr q)) (kk : Wd p l e R s m args below meth c D cI cL cM ad A nL Q q) : Wd p l e R s m args below meth c D cI cL cM ad A nL Q (pc, ls, st, M) := by
  intro sl H locs hL hS hn hl hP hD hs
  unfold ial at h
  split at h
  · rename_i i g k j r
    split at h
    · rename_i hv
      have hv := vp_of hv
      have hlt := vp_lt hv
      have := nx_inj h
      subst this
      have hc := okV_c (okS_hd (okS_tl hS))
      have K := kk sl H locs hL (okS_cons (okV_i _) (okS_tl (okS_tl hS))) hn hl hP hD hs
      by_cases hk : k < 33
      · have hin : (g, k, j) ∈ cellsL := ok_low hc hk
        obtain ⟨q0, hq, hws⟩ := ws_in (cI := cI) (cL := cL) (cM := cM) (ad := ad) (M := M) hin
        rw [ent_arr hk (by omega)] at hws
        have er : rdA M g k j i.toNatClampNeg = M g k j i.toNatClampNeg := by unfold rdA; rw [if_neg (by omega)]
        dsimp only at K
        rw [er] at K
        exact va_iald hx hb hK hP q0 0 hws rfl hv hd K
      · have he := ok_high hc (by show 33 ≤ k; omega)
        dsimp only at he
        cases he
        have er : rdA M 9 k 0 i.toNatClampNeg = stV k i.toNatClampNeg := by unfold rdA; rw [if_pos (by omega)]
        dsimp only at K
        rw [er] at K
        have h34 : k = 33 ∨ k = 34 := by
          have h4 : k ≤ 36 := by
            rcases hc with h9 | ⟨-, -, h9, -⟩
            · exact absurd rfl (cells_k _ h9).2
            · exact h9
          rcases (show k = 33 ∨ k = 34 ∨ k = 35 ∨ k = 36 by omega) with rfl | rfl | rfl | rfl
          · exact Or.inl rfl
          · exact Or.inr rfl
          · exact absurd hlt (Nat.not_lt_zero _)
          · exact absurd hlt (Nat.not_lt_zero _)
        rcases h34 with rfl | rfl
        · exact va_ti hx hb hE.1.2 hs hv rfl hd K
        · exact va_ti hx hb hE.2.1.2 hs hv rfl hd K
    · cases h
  · cases h
theorem s_ias (hx : p.tables.exec = Jvm.exec) (hb : c.code = cc) (hK : va_K D vwCl (tysO cI cL cM) s) (hd : decode cc pc = .ok (.iastore, 1)) (h : ias pc ls st M = some (.inr q)) (kk : Wd p l e R s m args below meth c D cI cL cM ad A nL Q q) : Wd p l e R s m args below meth c D cI cL cM ad A nL Q (pc, ls, st, M) := by
  intro sl H locs hL hS hn hl hP hD hs
  unfold ias at h
  split at h
  · rename_i v i g k j r
    split at h
    · rename_i hv
      obtain ⟨hv, hk⟩ := hv
      have hv := vp_of hv
      have hlt := vp_lt hv
      have := nx_inj h
      subst this
      have hin : (g, k, j) ∈ cellsL := ok_low (okV_c (okS_hd (okS_tl (okS_tl hS)))) hk
      obtain ⟨q0, hq, hws⟩ := ws_in (cI := cI) (cL := cL) (cM := cM) (ad := ad) (M := M) hin
      rw [ent_arr hk (by omega)] at hws
      have hset : (wsO cI cL cM ad M).set q0 (ad (g, k, j), .inl (cI, alen k, .inl (upd (M g k j) i.toNatClampNeg v))) = wsO cI cL cM ad (wr M g k j i.toNatClampNeg v) := by
        refine ws_set hq ?_ (fun c' hc' => ent_ne hc')
        rw [ent_arr hk (by omega), wr_same]
        rfl
      refine va_iast hx hb hK hP hD hs q0 0 hws rfl hv hd (fun H1 locs1 hP1 hD1 hS1 => ?_)
      exact kk sl H1 locs1 hL (okS_tl (okS_tl (okS_tl hS))) hn hl (by rw [← hset]; exact hP1) (by rw [← hset]; exact hD1) hS1
    · cases h
  · cases h
theorem s_aal (hx : p.tables.exec = Jvm.exec) (hb : c.code = cc) (hK : va_K D vwCl (tysO cI cL cM) s) (hd : decode cc pc = .ok (.aaload, 1)) (h : aal pc ls st M = some (.inr q)) (kk : Wd p l e R s m args below meth c D cI cL cM ad A nL Q q) : Wd p l e R s m args below meth c D cI cL cM ad A nL Q (pc, ls, st, M) := by
  intro sl H locs hL hS hn hl hP hD hs
  unfold aal at h
  split at h
  · rename_i i g k j r
    have hc := okV_c (okS_hd (okS_tl hS))
    split at h
    · rename_i hv
      obtain ⟨rfl, hv⟩ := hv
      have hv := vp_of hv
      have hlt := vp_lt hv
      have := nx_inj h
      subst this
      have hin : (g, 1, j) ∈ cellsL := ok_low hc (show 1 < 33 by decide)
      obtain ⟨q0, hq, hws⟩ := ws_in (cI := cI) (cL := cL) (cM := cM) (ad := ad) (M := M) hin
      exact va_aldq (C := RX0) (f := fun j => some (ad (g, 2, j))) hx hb hK hP q0 1 hws rfl hv hd (kk sl H locs hL (okS_cons (okV_r (Or.inl (aa_ok1 _ hin rfl _ hlt))) (okS_tl (okS_tl hS))) hn hl hP hD hs)
    · split at h
      · rename_i hv
        obtain ⟨rfl, hv⟩ := hv
        have hv := vp_of hv
        have hlt := vp_lt hv
        have := nx_inj h
        subst this
        have hin : (g, 3, j) ∈ cellsL := ok_low hc (show 3 < 33 by decide)
        obtain ⟨q0, hq, hws⟩ := ws_in (cI := cI) (cL := cL) (cM := cM) (ad := ad) (M := M) hin
        exact va_aldq (C := RX1) (f := fun j => some (ad (g, 4, j))) hx hb hK hP q0 2 hws rfl hv hd (kk sl H locs hL (okS_cons (okV_r (Or.inl (aa_ok3 _ hin rfl _ hlt))) (okS_tl (okS_tl hS))) hn hl hP hD hs)
      · cases h
  · cases h
theorem s_aln (hx : p.tables.exec = Jvm.exec) (hb : c.code = cc) (hK : va_K D vwCl (tysO cI cL cM) s) (hd : decode cc pc = .ok (.arraylength, 1)) (h : aln pc ls st M = some (.inr q)) (kk : Wd p l e R s m args below meth c D cI cL cM ad A nL Q q) : Wd p l e R s m args below meth c D cI cL cM ad A nL Q (pc, ls, st, M) := by
  intro sl H locs hL hS hn hl hP hD hs
  unfold aln at h
  split at h
  · rename_i g k j r
    split at h
    · rename_i hv
      obtain ⟨h0, hk⟩ := hv
      have := nx_inj h
      subst this
      have hin : (g, k, j) ∈ cellsL := ok_low (okV_c (okS_hd hS)) hk
      obtain ⟨q0, hq, hws⟩ := ws_in (cI := cI) (cL := cL) (cM := cM) (ad := ad) (M := M) hin
      rw [ent_arr hk h0] at hws
      exact va_alen hx hb hK hP q0 0 hws rfl rfl hd (kk sl H locs hL (okS_cons (okV_i _) (okS_tl hS)) hn hl hP hD hs)
    · cases h
  · cases h
theorem s_gst {own idx : Nat} (hx : p.tables.exec = Jvm.exec) (hb : c.code = cc) (hts : ∀ w ∈ gt, w.before args s = true) (hown : s.vm.findClass (clR own) = some m.cls) (hE : Ext ad A s s.heap) (hd : decode cc pc = .ok (.getstatic idx, 3)) (h : gst own idx pc ls st M = some (.inr q)) (kk : Wd p l e R s m args below meth c D cI cL cM ad A nL Q q) : Wd p l e R s m args below meth c D cI cL cM ad A nL Q (pc, ls, st, M) := by
  intro sl H locs hL hS hn hl hP hD hs
  unfold gst gre at h
  by_cases h1 : own = 5 ∧ idx = 108
  · rw [if_pos h1] at h
    obtain ⟨rfl, rfl⟩ := h1
    have := nx_inj h
    subst this
    exact va_gets (C := RX5) (own := clR 5) (ref := RX5) (v := .ref (ad (9, 33, 0))) hx hb hE.1.1 hs hown (hts _ (gt_of gOk_33 rfl)) (fun _ h9 => h9) hd (kk sl H locs hL (okS_cons (okV_r (Or.inr ⟨rfl, Nat.le_refl _, by decide, rfl⟩)) hS) hn hl hP hD hs)
  · rw [if_neg h1] at h
    by_cases h2 : own = 5 ∧ idx = 111
    · rw [if_pos h2] at h
      obtain ⟨rfl, rfl⟩ := h2
      have := nx_inj h
      subst this
      exact va_gets (C := RX5) (own := clR 5) (ref := RX5) (v := .ref (ad (9, 34, 0))) hx hb hE.2.1.1 hs hown (hts _ (gt_of gOk_34 rfl)) (fun _ h9 => h9) hd (kk sl H locs hL (okS_cons (okV_r (Or.inr ⟨rfl, by decide, by decide, rfl⟩)) hS) hn hl hP hD hs)
    · rw [if_neg h2] at h
      cases h
theorem va_ldcwS {H : Heap} {locs : List Loc} {sl : Array Slot} {rest : List Value} (hexec : p.tables.exec = Jvm.exec) (hb : c.code = cc) {own tx : String} {index z : Nat} (hown : s.vm.findClass own = some m.cls) (hZ : vk_R own index tx z s) (hdg : decode cc pc = .ok (.ldc_w index, 3))
    (k : W p l e R s m args below meth c H locs 0 0 Q (F0 m (pc + 3) sl (.ref z :: rest))) : W p l e R s m args below meth c H locs 0 0 Q (F0 m pc sl rest) := by
  intro T hT X
  obtain ⟨t, a1, b1⟩ := k T hT X
  refine ⟨t, ?_, b1⟩
  obtain ⟨kc, cf, i, a', hk, hcf, hcp, -, hr, hev'⟩ := Cond.stringRef_spec hown hZ.1
  cases hZ.2.symm.trans hev'
  obtain ⟨k', hk', he⟩ := X.warmed.alike.2.2 _ _ hk
  have hr' : k'.resolved[index]? = some (some (.string z)) := by
    rcases X.warmed.entry hk hk' index with h | ⟨h, -⟩
    · rw [h]; exact hr
    · rw [hr] at h; cases h
  have hdg' : decode c.code (F0 m pc sl rest).pc = .ok (.ldc_w index, 3) := by rw [hb]; exact hdg
  jvm_step X.here [hexec, hdg', ldc_w.wp_string (e := e) (s := T) (f := F0 m pc sl rest) X.here.top hk' (by rw [he]; exact hcf) hcp hr']
  exact a1
theorem s_ldk {own idx n : Nat} (hx : p.tables.exec = Jvm.exec) (hb : c.code = cc) (hts : ∀ w ∈ gt, w.before args s = true) (hown : s.vm.findClass (clR own) = some m.cls) (hE : Ext ad A s s.heap) (hd : (n = 2 ∧ decode cc pc = .ok (.ldc idx, 2)) ∨ (n = 3 ∧ decode cc pc = .ok (.ldc_w idx, 3))) (h : ldk own idx n pc ls st M = some (.inr q)) (kk : Wd p l e R s m args below meth c D cI cL cM ad A nL Q q) : Wd p l e R s m args below meth c D cI cL cM ad A nL Q (pc, ls, st, M) := by
  intro sl H locs hL hS hn hl hP hD hs
  unfold ldk at h
  cases e1 : kre own idx with
  | some r =>
    obtain ⟨v, pl⟩ := r
    rw [e1] at h
    have hk := kre_in e1
    simp only [kOk, decide_eq_true_eq] at hk
    have := nx_inj h
    subst this
    have K := kk sl H locs hL (okS_cons (okV_i _) hS) hn hl hP hD hs
    rcases hd with ⟨rfl, hd⟩ | ⟨rfl, hd⟩
    · exact lv_ldc hx hb hown (hts _ (gt_of hk rfl)) hd K
    · exact lv_ldcw hx hb hown (hts _ (gt_of hk rfl)) hd K
  | none =>
    rw [e1] at h
    dsimp only at h
    have key : ∀ (k : Nat) (tx : String), 35 ≤ k → k ≤ 36 → vk_R (clR own) idx tx (ad (9, k, 0)) s → nx (pc + n) ls (aR 9 k 0 :: st) M = some (.inr q) → W p l e R s m args below meth c H locs 0 0 Q (F0 m pc sl (st.map (cv ad))) := by
      intro k tx hk1 hk2 hZ h
      have := nx_inj h
      subst this
      have K := kk sl H locs hL (okS_cons (okV_r (Or.inr ⟨rfl, by show 33 ≤ k; omega, hk2, rfl⟩)) hS) hn hl hP hD hs
      rcases hd with ⟨rfl, hd⟩ | ⟨rfl, hd⟩
      · exact va_ldcS hx hb hown hZ hd K
      · exact va_ldcwS hx hb hown hZ hd K
    obtain ⟨z1, z2, z3, z4⟩ := hE.2.2.2.2.1
    unfold sre at h
    by_cases h1 : own = 4 ∧ idx = 30
    · rw [if_pos h1] at h
      obtain ⟨rfl, rfl⟩ := h1
      exact key 35 _ (by decide) (by decide) z1 h
    · rw [if_neg h1] at h
      by_cases h2 : own = 4 ∧ idx = 37
      · rw [if_pos h2] at h
        obtain ⟨rfl, rfl⟩ := h2
        exact key 36 _ (by decide) (by decide) z2 h
      · rw [if_neg h2] at h
        by_cases h3 : own = 5 ∧ idx = 261
        · rw [if_pos h3] at h
          obtain ⟨rfl, rfl⟩ := h3
          exact key 35 _ (by decide) (by decide) z3 h
        · rw [if_neg h3] at h
          by_cases h4 : own = 5 ∧ idx = 279
          · rw [if_pos h4] at h
            obtain ⟨rfl, rfl⟩ := h4
            exact key 36 _ (by decide) (by decide) z4 h
          · rw [if_neg h4] at h
            cases h
end Mem
end
section
def rmL (n : Nat) : Room := { frames := n + 2, cells := 0, slots := 0, locals := 32 * n + 64 }
def wsM (y : Nat) : List Cond := Cond.code (mN y) (cod y) (mxL y) (rtT y) :: gt
def Pre (D : va_G) (cI cL cM : ClassId) (ad : Cd → Nat) (M : Mm) (sz : Nat) : State → Prop := fun U => U.heap.size = sz ∧ va_P D vwCl (wsO cI cL cM ad M) U.heap ∧ va_K D vwCl (tysO cI cL cM) U ∧ va_D (fun _ => True) (wsO cI cL cM ad M) ∧ Ext ad (va_A (wsO cI cL cM ad M) sz) U U.heap
def Bk (D : va_G) (cI cL cM : ClassId) (ad : Cd → Nat) (u : Mm) (t : State) : Prop := va_P D vwCl (wsO cI cL cM ad u) t.heap
def QcM (v : Option Int32) (M' : Mm) (D : va_G) (cI cL cM : ClassId) (ad : Cd → Nat) (A : Nat → Prop) : Array Value → State → Outcome → State → Prop := match v with
  | none => va_Qv (fun u : Mm => u = M') (Bk D cI cL cM ad) A
  | some x => va_Qi (fun (r : Int32) (u : Mm) => r = x ∧ u = M') (Bk D cI cL cM ad) A
/-- the machine does what the little machine does: method y -/
def SndY (l : Launch) (y : Nat) : Prop := ∀ (D : va_G) (cI cL cM : ClassId) (ad : Cd → Nat) (as : List AV) (M M' : Mm) (v : Option Int32) (sz : Nat), call y as M = some (v, M') → okS as → as.length = mnp y + (if mst y = true then 0 else 1) → Met l (mN y) (wsM y) (rmL (lvl y)) (va_Pc (as.map (cv ad)) (Pre D cI cL cM ad M sz)) (QcM v M' D cI cL cM ad (va_A (wsO cI cL cM ad M) sz)) 0 0 (va_A (wsO cI cL cM ad M) sz)
theorem Pre.blind {D : va_G} {cI cL cM : ClassId} {ad : Cd → Nat} {M : Mm} {sz : Nat} {av : List Value} : FrameBlind (va_Pc av (Pre D cI cL cM ad M sz)) := by
  intro a U g mk h
  obtain ⟨q0, q1, qP, qK, qD, qE⟩ := h
  exact ⟨q0, q1, qP, va_K.moved (u := U) (U := U.calling g mk a) (Vm.Alike.refl U.vm) qK, qD, Ext.same qE rfl⟩
theorem mFacts {y : Nat} (h : y < 161) : mOk y = true ∧ mOd y = true ∧ mOn y = true := ⟨List.all_eq_true.mp mOk_all y (List.mem_range.mpr h), List.all_eq_true.mp mOd_all y (List.mem_range.mpr h), List.all_eq_true.mp mOn_all y (List.mem_range.mpr h)⟩
theorem code_gt {y : Nat} (h : y < 161) : Cond.code (mN y) (cod y) (mxL y) (rtT y) ∈ gt := by
  have h1 := mC_all _ (mTy_in h)
  have h2 := (mFacts h).2.2
  simp only [mOn, Bool.and_eq_true, decide_eq_true_eq] at h2
  rw [h2.1.2] at h1
  exact List.mem_filter.mpr ⟨h1, rfl⟩
theorem good_M {y : Nat} (h : y < 161) : GoodIn gt (wsM y) := by
  intro w hw
  rcases List.mem_cons.mp hw with rfl | hw
  · exact ⟨code_gt h, good_of_word rfl⟩
  · exact ⟨hw, good_of_word (gt_good w hw)⟩
theorem sum_cat (ad : Cd → Nat) : ∀ st : List AV, ((st.map (cv ad)).map fun v => v.category).sum = st.length
  | [] => rfl
  | v :: st => by
    show (cv ad v).category + ((st.map (cv ad)).map fun v => v.category).sum = st.length + 1
    rw [sum_cat ad st, cv_cat]
    omega
section Calls
variable {p : Program} {l : Launch} {e : Env} {R : Room} {s : State} {m : MethodId} {args : Array Value} {below : List Frame} {meth : Method} {c : Code} {D : va_G} {cI cL cM : ClassId} {ad : Cd → Nat} {A : Nat → Prop} {nL : Nat} {Q : State → Prop} {cc : ByteArray} {pc : Nat} {ls st : List AV} {M : Mm} {q : Ss}
theorem pre_of (hK : va_K D vwCl (tysO cI cL cM) s) (hA : ∀ q, s.heap.size ≤ q → A q) (hE : Ext ad A s s.heap) {H : Heap} {locs : List Loc} (hP : va_P D vwCl (wsO cI cL cM ad M) H) (hD : va_D A (wsO cI cL cM ad M)) (hS : va_S A s.heap H locs) : ∀ U : State, U.heap = H → s.WarmedH U.vm → Pre D cI cL cM ad M H.size U := by
  intro U hU hW
  refine ⟨by rw [hU], by rw [hU]; exact hP, va_K.moved hW.alike hK, hD.weaken (fun _ _ _ _ => trivial), ?_⟩
  rw [hU]
  refine hE.to hW hS.2.1 (fun z hz => ?_)
  rcases hz with ⟨k, x, hk⟩ | hz
  · exact hD.2 k _ hk
  · exact hA z (Nat.le_trans hS.1 hz)
theorem free_of (hA : ∀ q, s.heap.size ≤ q → A q) {H : Heap} {locs : List Loc} (hD : va_D A (wsO cI cL cM ad M)) (hS : va_S A s.heap H locs) : ∀ z, va_A (wsO cI cL cM ad M) H.size z → A z := by
  intro z hz
  rcases hz with ⟨k, x, hk⟩ | hz
  · exact hD.2 k _ hk
  · exact hA z (Nat.le_trans hS.1 hz)
/-- behind a call -/
theorem aft {v : Option Int32} {M' : Mm} {free : Addr → Prop} {H : Heap} {locs : List Loc} {sl : Array Slot} {rest : List AV} {st0 : List Value} {a : Array Value} (hA : ∀ q, s.heap.size ≤ q → A q) (hD : va_D A (wsO cI cL cM ad M)) (hS : va_S A s.heap H locs) (hfr : free = va_A (wsO cI cL cM ad M) H.size)
    (hr : va_Run p l e R s m args below meth c H locs 0 0 0 0 (F0 m pc sl st0) (rest.map (cv ad)) (QcM v M' D cI cL cM ad (va_A (wsO cI cL cM ad M) H.size) a) free)
    (kk : ∀ (H1 : Heap) (locs1 : List Loc), va_P D vwCl (wsO cI cL cM ad M') H1 → va_D A (wsO cI cL cM ad M') → va_S A s.heap H1 locs1 → W p l e R s m args below meth c H1 locs1 0 0 Q (F0 m (pc + 3) sl ((v.toList.map aI ++ rest).map (cv ad)))) : W p l e R s m args below meth c H locs 0 0 Q (F0 m pc sl st0) := by
  have hF := free_of hA hD hS
  subst hfr
  cases v with
  | none =>
    refine va_callv (S := Mm) (a := a) hr hS (fun z _ hz => hF z hz) hF (fun u t H1 locs1 ht hvm hw hB _ _ hS1 => ?_)
    subst hw
    subst ht
    exact kk _ locs1 hB (D_to hD _) hS1
  | some x =>
    refine va_calli (S := Mm) (a := a) hr hS (fun z _ hz => hF z hz) hF (fun r u t H1 locs1 ht hvm hw hB _ _ hS1 => ?_)
    obtain ⟨rfl, rfl⟩ := hw
    subst ht
    exact kk _ locs1 hB (D_to hD _) hS1
theorem min_link : lw_tbl[381]? = some (Cond.static Lib.Math.min.name) ∧ lw_tbl[71]? = some (Cond.initialized "java/lang/Math") := by decide +kernel
theorem min_code : Cond.code Lib.Math.min.name Lib.Math.min.code 2 (some .int) ∈ lw_tbl := List.mem_of_getElem? (i := 382) rfl
/-- String.indexOf(int) on the two constant texts -/
def IxMet (l : Launch) : Prop := ∀ (D : va_G) (cI cL cM : ClassId) (ad : Cd → Nat) (M : Mm) (sz k : Nat) (c : Int32), k = 35 ∨ k = 36 → Met l ⟨"java/lang/String", "indexOf", "(I)I"⟩ (Cond.code ⟨"java/lang/String", "indexOf", "(I)I"⟩ prog_11_method_79_code 2 (some .int) :: gt) (rmL 3) (va_Pc [.ref (ad (9, k, 0)), .int c] (Pre D cI cL cM ad M sz)) (QcM (some (ix k c)) M D cI cL cM ad (va_A (wsO cI cL cM ad M) sz)) 0 0 (va_A (wsO cI cL cM ad M) sz)
theorem s_ivS {y idx : Nat} (hy : y < 161) (hx : p.tables.exec = Jvm.exec) (hb : c.code = cc) (hml : c.maxLocals = nL) (hts : ∀ w ∈ gt, w.before args s = true) (hown : s.vm.findClass (clR (mcl y)) = some m.cls) (hK : va_K D vwCl (tysO cI cL cM) s) (hA : ∀ q, s.heap.size ≤ q → A q) (hE : Ext ad A s s.heap) (hR : R = rmL (lvl y)) (IH : ∀ y', y' < 161 → lvl y' < lvl y → SndY l y') (hd : decode cc pc = .ok (.invokestatic idx, 3)) (h : ivk (gd call y) (lvl y) (mcl y) idx true pc ls st M = some (.inr q)) (kk : Wd p l e R s m args below meth c D cI cL cM ad A nL Q q) : Wd p l e R s m args below meth c D cI cL cM ad A nL Q (pc, ls, st, M) := by
  intro sl H locs hL hS hn hl hP hD hs
  have hsz : sl.size = nL := hl.1.trans hn
  unfold ivk at h
  cases e1 : cre (mcl y) idx with
  | none => rw [e1] at h; cases h
  | some r =>
    obtain ⟨y', nst, pl⟩ := r
    rw [e1] at h
    have hf := cre_in e1
    dsimp only at h
    by_cases h0 : y' = 1000
    · subst h0
      simp only [cOk, if_true, decide_eq_true_eq] at hf
      rw [if_pos rfl] at h
      split at h
      · rename_i hlen
        unfold bin at h
        split at h
        · rename_i b a r
          dsimp only at h
          have := nx_inj h
          subst this
          have K := kk sl H locs hL (okS_cons (okV_i _) (okS_tl (okS_tl hS))) hn hl hP hD hs
          refine va_mmin hx hb (hml.trans hsz.symm) hown (hts _ (gt_of hf rfl)) (hts _ (gt_of min_link.1 rfl)) (hts _ (gt_of min_link.2 rfl)) (hts _ (List.mem_filter.mpr ⟨min_code, rfl⟩)) (by rw [hR]; show 1 ≤ lvl y + 2; omega) ?_ (Nat.zero_le _) (Nat.zero_le _) hd K
          rw [hR]
          show ((r.map (cv ad)).map fun v => v.category).sum + 13 ≤ 32 * lvl y + 64
          rw [sum_cat]
          have := hlen.1
          simp only [List.length_cons] at this
          omega
        · cases h
      · cases h
    · rw [if_neg h0] at h
      by_cases h01 : y' = 1001
      · rw [if_pos h01] at h
        split at h
        · split at h
          · rename_i hq
            exact absurd hq.2.2.1 (by decide)
          · cases h
        · cases h
      · rw [if_neg h01] at h
        simp only [if_true] at h
        split at h
        · rename_i hg
          obtain ⟨hy', hst, hle, h8, -⟩ := hg
          simp only [cOk, if_neg h0, if_neg h01, Bool.and_eq_true, decide_eq_true_eq] at hf
          obtain ⟨⟨hw, -⟩, -⟩ := hf
          obtain ⟨m1, m2, m3⟩ := mFacts hy'
          simp only [mOk, hst, if_true, Bool.and_eq_true, decide_eq_true_eq] at m1
          simp only [mOd, Bool.and_eq_true, decide_eq_true_eq] at m2
          simp only [mOn, hst, if_true, Bool.and_eq_true, decide_eq_true_eq] at m3
          cases ec : gd call y y' (st.take (mnp y')).reverse M with
          | none => rw [ec] at h; cases h
          | some r =>
            obtain ⟨v, M'⟩ := r
            rw [ec] at h
            dsimp only at h
            split at h
            · have := nx_inj h
              subst this
              unfold gd at ec
              by_cases hlv : lvl y' < lvl y
              · rw [if_pos hlv] at ec
                have hoS : okS (st.take (mnp y')).reverse := fun w hw => hS w (List.mem_of_mem_take (List.mem_reverse.mp hw))
                have hlen : (st.take (mnp y')).reverse.length = mnp y' := by rw [List.length_reverse, List.length_take]; omega
                have hM := IH y' hy' hlv D cI cL cM ad _ M M' v H.size ec hoS (by rw [hlen, hst]; rfl)
                have hstk : st.map (cv ad) = ((st.take (mnp y')).reverse.map (cv ad)).reverse ++ (st.drop (mnp y')).map (cv ad) := by
                  rw [← List.map_reverse, List.reverse_reverse, ← List.map_append, List.take_append_drop]
                have hroom : (rmL (lvl y')).frames + 1 ≤ R.frames ∧ 8 + (mxL y' + 11) + (rmL (lvl y')).locals ≤ R.locals := by
                  rw [hR]
                  have := m3.1.1.1.1.1.1
                  constructor
                  · show lvl y' + 2 + 1 ≤ lvl y + 2; omega
                  · show 8 + (mxL y' + 11) + (32 * lvl y' + 64) ≤ 32 * lvl y + 64; omega
                have hini : (Cond.initialized (mN y').cls).before args s = true := hts _ (gt_of m1.2 rfl)
                have hdd : (mN y').cls ≠ "java/lang/invoke/MethodHandle" ∧ (mN y').cls ≠ "java/lang/invoke/VarHandle" ∧ (parseMethodDescriptor (mN y').desc).map (fun d => d.parameters.length) = some (mnp y') := ⟨m2.1.2, m2.2, m2.1.1.1.2⟩
                have hpS : PreS s H (va_Pc ((st.take (mnp y')).reverse.map (cv ad)) (Pre D cI cL cM ad M H.size)) ((st.take (mnp y')).reverse.map (cv ad)) := ⟨Pre.blind, fun U hU hW => ⟨rfl, pre_of hK hA hE hP hD hs U hU hW⟩⟩
                have hWr : 2 * (F0 m pc sl (st.map (cv ad))).monitorRoom + (((st.drop (mnp y')).map (cv ad)).map fun v => v.category).sum ≤ 8 := lv_room (by rw [sum_cat]; exact h8)
                refine aft (v := v) (M' := M') (a := ((st.take (mnp y')).reverse.map (cv ad)).toArray) (rest := st.drop (mnp y')) hA hD hs rfl ?_ (fun H1 locs1 hP1 hD1 hS1 => kk sl H1 locs1 hL ?_ hn hl hP1 hD1 hS1)
                · by_cases hn1 : nst = 1
                  · rw [if_pos hn1] at hw
                    exact va_runSN (Ts := gt) (nL := nL) ⟨hx, hb, hml, hown, hts⟩ hM ⟨va_cnB (mnp y') hts (good_M hy') rfl rfl rfl (hE.2.2.2.2.2 _ (List.mem_of_getElem? hw) rfl) hini hdd hroom, hts _ (gt_of m1.1.1 rfl), trivial⟩ hpS rfl (by rw [List.length_map]; exact hlen) hsz hstk hWr hd ⟨Nat.zero_le _, Nat.zero_le _⟩
                  · rw [if_neg hn1] at hw
                    have hG : GoodIn gt (va_wsS (clR (mcl y)) idx (mN y') (wsM y')) := by
                      intro w hw2
                      unfold va_wsS at hw2
                      rcases List.mem_append.mp hw2 with h9 | h9
                      · have h8' : w ∈ gt := by
                          rcases List.mem_cons.mp h9 with rfl | h9
                          · exact gt_of hw rfl
                          · rcases List.mem_cons.mp h9 with rfl | h9
                            · exact gt_of m1.1.1 rfl
                            · rcases List.mem_cons.mp h9 with rfl | h9
                              · exact gt_of m1.2 rfl
                              · cases h9
                        exact ⟨h8', good_of_word (gt_good w h8')⟩
                      · exact good_M hy' w h9
                    exact va_runS (Ts := gt) (nL := nL) ⟨hx, hb, hml, hown, hts⟩ hM (va_cwS (mnp y') hts hG rfl rfl rfl hdd hroom) hpS rfl (by rw [List.length_map]; exact hlen) hsz hstk hWr hd ⟨Nat.zero_le _, Nat.zero_le _⟩
                · intro w hw2
                  rcases List.mem_append.mp hw2 with h9 | h9
                  · obtain ⟨x, -, rfl⟩ := List.mem_map.mp h9
                    exact okV_i x
                  · exact hS w (List.mem_of_mem_drop h9)
              · rw [if_neg hlv] at ec
                cases ec
            · cases h
        · cases h
theorem ix_link : lw_tbl[350]? = some (Cond.instanceMethod ⟨"java/lang/String", "indexOf", "(I)I"⟩) ∧ lw_tbl[351]? = some (Cond.selects "java/lang/String" ⟨"java/lang/String", "indexOf", "(I)I"⟩ ⟨"java/lang/String", "indexOf", "(I)I"⟩) ∧ lw_tbl[69]? = some (Cond.initialized "java/lang/String") := by decide +kernel
theorem ix_code : Cond.code ⟨"java/lang/String", "indexOf", "(I)I"⟩ prog_11_method_79_code 2 (some .int) ∈ lw_tbl := List.mem_of_getElem? (i := 352) rfl
theorem s_ivV {y idx : Nat} (hy : y < 161) (hx : p.tables.exec = Jvm.exec) (hb : c.code = cc) (hml : c.maxLocals = nL) (hts : ∀ w ∈ gt, w.before args s = true) (hown : s.vm.findClass (clR (mcl y)) = some m.cls) (hK : va_K D vwCl (tysO cI cL cM) s) (hA : ∀ q, s.heap.size ≤ q → A q) (hE : Ext ad A s s.heap) (hR : R = rmL (lvl y)) (IH : ∀ y', y' < 161 → lvl y' < lvl y → SndY l y') (IX : IxMet l) (hd : decode cc pc = .ok (.invokevirtual idx, 3)) (h : ivk (gd call y) (lvl y) (mcl y) idx false pc ls st M = some (.inr q)) (kk : Wd p l e R s m args below meth c D cI cL cM ad A nL Q q) : Wd p l e R s m args below meth c D cI cL cM ad A nL Q (pc, ls, st, M) := by
  intro sl H locs hL hS hn hl hP hD hs
  have hsz : sl.size = nL := hl.1.trans hn
  unfold ivk at h
  cases e1 : cre (mcl y) idx with
  | none => rw [e1] at h; cases h
  | some r =>
    obtain ⟨y', nst, pl⟩ := r
    rw [e1] at h
    have hf := cre_in e1
    dsimp only at h
    by_cases h0 : y' = 1000
    · subst h0
      simp only [cOk, if_true, decide_eq_true_eq] at hf
      rw [if_pos rfl] at h
      split at h
      · rename_i hlen
        exact absurd hlen.2 (by decide)
      · cases h
    · rw [if_neg h0] at h
      by_cases h01 : y' = 1001
      · subst h01
        rw [if_pos rfl] at h
        simp only [cOk, if_neg h0, if_true, decide_eq_true_eq] at hf
        split at h
        · rename_i ch g k i r
          split at h
          · rename_i hq
            obtain ⟨hk, hr8, -, hl4⟩ := hq
            have := nx_inj h
            subst this
            have hc := okV_c (okS_hd (okS_tl hS))
            have he := ok_high hc (by show 33 ≤ k; omega)
            dsimp only at he
            cases he
            have hM := IX D cI cL cM ad M H.size k ch hk
            refine aft (v := some (ix k ch)) (M' := M) (a := [Value.ref (ad (9, k, 0)), .int ch].toArray) (rest := r) hA hD hs rfl ?_ (fun H1 locs1 hP1 hD1 hS1 => kk sl H1 locs1 hL (okS_cons (okV_i _) (okS_tl (okS_tl hS))) hn hl hP1 hD1 hS1)
            obtain ⟨adV, hvS⟩ := hE.2.2.1
            have hrc : ∃ cell : Cell, H[ad (9, k, 0)]? = some cell ∧ cell.vm.isStatics = false ∧ s.vm.findClass "java/lang/String" = some cell.cls := by
              rcases hk with rfl | rfl
              · exact vk_recv (i := 0) hvS (by decide) hs
              · exact vk_recv (i := 1) hvS (by decide) hs
            have hG : GoodIn gt (wsV (clR (mcl y)) idx "java/lang/String" ⟨"java/lang/String", "indexOf", "(I)I"⟩ (Cond.code ⟨"java/lang/String", "indexOf", "(I)I"⟩ prog_11_method_79_code 2 (some .int) :: gt)) := by
              intro w hw2
              have h8' : w ∈ gt := by
                unfold wsV at hw2
                rcases List.mem_append.mp hw2 with h9 | h9
                · rcases List.mem_cons.mp h9 with rfl | h9
                  · exact gt_of hf rfl
                  · rcases List.mem_cons.mp h9 with rfl | h9
                    · exact gt_of ix_link.1 rfl
                    · rcases List.mem_cons.mp h9 with rfl | h9
                      · exact gt_of ix_link.2.1 rfl
                      · rcases List.mem_cons.mp h9 with rfl | h9
                        · exact gt_of ix_link.2.2 rfl
                        · cases h9
                · rcases List.mem_cons.mp h9 with rfl | h9
                  · exact List.mem_filter.mpr ⟨ix_code, rfl⟩
                  · exact h9
              exact ⟨h8', good_of_word (gt_good w h8')⟩
            exact va_runV (Ts := gt) (nL := nL) (As := [.int ch]) ⟨hx, hb, hml, hown, hts⟩ hM (cwV 1 hts hG rfl rfl rfl (by decide +kernel) (by rw [hR]; constructor; (show 3 + 2 + 1 ≤ lvl y + 2; omega); (show 8 + (2 + 11) + (32 * 3 + 64) ≤ 32 * lvl y + 64; omega))) ⟨Pre.blind, hrc, fun U hU hW => ⟨rfl, pre_of hK hA hE hP hD hs U hU hW⟩⟩ rfl rfl hsz rfl (lv_room (by rw [sum_cat]; exact hr8)) hd ⟨Nat.zero_le _, Nat.zero_le _⟩
          · cases h
        · cases h
      · rw [if_neg h01] at h
        simp only [Bool.false_eq_true, if_false, false_or] at h
        split at h
        · rename_i hg
          obtain ⟨hy', hst, hle, h8, hrv⟩ := hg
          simp only [cOk, if_neg h0, if_neg h01, Bool.and_eq_true, decide_eq_true_eq] at hf
          obtain ⟨⟨hw, -⟩, hnn⟩ := hf
          have hnst : ¬ nst = 1 := fun z => by have := hnn z; rw [hst] at this; cases this
          rw [if_neg hnst] at hw
          obtain ⟨m1, m2, m3⟩ := mFacts hy'
          simp only [mOk, hst, Bool.false_eq_true, if_false, Bool.false_or, Bool.and_eq_true, decide_eq_true_eq] at m1
          simp only [mOd, Bool.and_eq_true, decide_eq_true_eq] at m2
          simp only [mOn, hst, Bool.false_eq_true, if_false, Bool.and_eq_true, decide_eq_true_eq] at m3
          cases ec : gd call y y' (st.take (mnp y' + 1)).reverse M with
          | none => rw [ec] at h; cases h
          | some r =>
            obtain ⟨v, M'⟩ := r
            rw [ec] at h
            dsimp only at h
            split at h
            · have := nx_inj h
              subst this
              unfold gd at ec
              by_cases hlv : lvl y' < lvl y
              · rw [if_pos hlv] at ec
                have hoS : okS (st.take (mnp y' + 1)).reverse := fun w hw => hS w (List.mem_of_mem_take (List.mem_reverse.mp hw))
                have hlen : (st.take (mnp y' + 1)).reverse.length = mnp y' + 1 := by rw [List.length_reverse, List.length_take]; omega
                have hM := IH y' hy' hlv D cI cL cM ad _ M M' v H.size ec hoS (by rw [hlen, hst]; rfl)
                have hstk : st.map (cv ad) = ((st.take (mnp y' + 1)).reverse.map (cv ad)).reverse ++ (st.drop (mnp y' + 1)).map (cv ad) := by
                  rw [← List.map_reverse, List.reverse_reverse, ← List.map_append, List.take_append_drop]
                have hroom : (rmL (lvl y')).frames + 1 ≤ R.frames ∧ 8 + (mxL y' + 11) + (rmL (lvl y')).locals ≤ R.locals := by
                  rw [hR]
                  have := m3.1.1.1.1.1.1
                  constructor
                  · show lvl y' + 2 + 1 ≤ lvl y + 2; omega
                  · show 8 + (mxL y' + 11) + (32 * lvl y' + 64) ≤ 32 * lvl y + 64; omega
                have hini : (Cond.initialized (mN y').cls).before args s = true := hts _ (gt_of m1.2 rfl)
                have hdd : (mN y').cls ≠ "java/lang/invoke/MethodHandle" ∧ (mN y').cls ≠ "java/lang/invoke/VarHandle" ∧ (parseMethodDescriptor (mN y').desc).map (fun d => d.parameters.length) = some (mnp y') := ⟨m2.1.2, m2.2, m2.1.1.1.2⟩
                have hWr : 2 * (F0 m pc sl (st.map (cv ad))).monitorRoom + (((st.drop (mnp y' + 1)).map (cv ad)).map fun v => v.category).sum ≤ 8 := lv_room (by rw [sum_cat]; exact h8)
                refine aft (v := v) (M' := M') (a := ((st.take (mnp y' + 1)).reverse.map (cv ad)).toArray) (rest := st.drop (mnp y' + 1)) hA hD hs rfl ?_ (fun H1 locs1 hP1 hD1 hS1 => kk sl H1 locs1 hL ?_ hn hl hP1 hD1 hS1)
                · generalize hase : (st.take (mnp y' + 1)).reverse = as at hM hstk hlen hrv hoS
                  unfold rcv at hrv
                  split at hrv
                  · rename_i g k i As
                    have hk : k = cKi (mcl y') := beq_iff_eq.mp hrv
                    subst hk
                    have hci : mcl y' < 7 := m3.1.1.1.1.2
                    have hc : (g, cKi (mcl y'), i) ∈ cellsL := ok_low (okV_c (okS_hd hoS)) (kCl_ok _ hci).2
                    obtain ⟨q0, hq, hws⟩ := ws_in (cI := cI) (cL := cL) (cM := cM) (ad := ad) (M := M) hc
                    rw [ent_obj hci] at hws
                    have hcls : (mN y').cls = clR (mcl y') := m2.1.1.1.1
                    have hG : GoodIn gt (wsV (clR (mcl y)) idx (mN y').cls (mN y') (wsM y')) := by
                      intro w hw2
                      unfold wsV at hw2
                      rcases List.mem_append.mp hw2 with h9 | h9
                      · have h8' : w ∈ gt := by
                          rcases List.mem_cons.mp h9 with rfl | h9
                          · exact gt_of hw rfl
                          · rcases List.mem_cons.mp h9 with rfl | h9
                            · exact gt_of m1.1.1 rfl
                            · rcases List.mem_cons.mp h9 with rfl | h9
                              · exact gt_of m1.1.2 rfl
                              · rcases List.mem_cons.mp h9 with rfl | h9
                                · exact gt_of m1.2 rfl
                                · cases h9
                        exact ⟨h8', good_of_word (gt_good w h8')⟩
                      · exact good_M hy' w h9
                    have hrc := va_recv hK hP (vwCl_at _ hci) hws
                    rw [← hcls] at hrc
                    exact va_runV (Ts := gt) (nL := nL) (As := As.map (cv ad)) ⟨hx, hb, hml, hown, hts⟩ hM (cwV (mnp y') hts hG rfl rfl rfl ⟨rfl, hdd⟩ hroom) ⟨Pre.blind, hrc, fun U hU hW => ⟨rfl, pre_of hK hA hE hP hD hs U hU hW⟩⟩ rfl (by rw [List.length_map]; exact Nat.succ.inj hlen) hsz (hstk.trans (by rw [List.map_cons, List.reverse_cons, List.append_assoc]; rfl)) hWr hd ⟨Nat.zero_le _, Nat.zero_le _⟩
                  · cases hrv
                · intro w hw2
                  rcases List.mem_append.mp hw2 with h9 | h9
                  · obtain ⟨x, -, rfl⟩ := List.mem_map.mp h9
                    exact okV_i x
                  · exact hS w (List.mem_of_mem_drop h9)
              · rw [if_neg hlv] at ec
                cases ec
            · cases h
        · cases h
end Calls
end
section
section Main
variable {p : Program} {l : Launch} {e : Env} {R : Room} {s : State} {m : MethodId} {args : Array Value} {below : List Frame} {meth : Method} {c : Code} {D : va_G} {cI cL cM : ClassId} {ad : Cd → Nat} {A : Nat → Prop} {nL : Nat} {Q : State → Prop} {pc : Nat} {ls st : List AV} {M : Mm} {q : Ss} {r : Rs}
theorem stp_sound {y : Nat} (hy : y < 161) (hx : p.tables.exec = Jvm.exec) (hb : c.code = cod y) (hml : c.maxLocals = nL) (hts : ∀ w ∈ gt, w.before args s = true) (hown : s.vm.findClass (clR (mcl y)) = some m.cls) (hK : va_K D vwCl (tysO cI cL cM) s) (hA : ∀ q, s.heap.size ≤ q → A q) (hE : Ext ad A s s.heap) (hR : R = rmL (lvl y)) (IX : IxMet l) (IH : ∀ y', y' < 161 → lvl y' < lvl y → SndY l y') (h : stp (gd call y) y (pc, ls, st, M) = some (.inr q)) (kk : Wd p l e R s m args below meth c D cI cL cM ad A nL Q q) : Wd p l e R s m args below meth c D cI cL cM ad A nL Q (pc, ls, st, M) := by
  unfold stp at h
  cases hd : decode (cod y) pc with
  | error z => simp only [hd] at h; cases h
  | ok z =>
    obtain ⟨ins, n⟩ := z
    simp only [hd] at h
    by_cases hlen : lenOk ins n = true
    · rw [if_pos hlen] at h
      cases ins with
      | iadd => have hn1 : n = 1 := beq_iff_eq.mp hlen; subst hn1; exact s_bin (f := fun a b => some (a + b)) (k := 0) (fun H locs sl rest x z w hz K => by cases hz; exact lv_iadd hx hb hd K) h kk
      | isub => have hn1 : n = 1 := beq_iff_eq.mp hlen; subst hn1; exact s_bin (f := fun a b => some (a - b)) (k := 0) (fun H locs sl rest x z w hz K => by cases hz; exact lv_isub hx hb hd K) h kk
      | imul => have hn1 : n = 1 := beq_iff_eq.mp hlen; subst hn1; exact s_bin (f := fun a b => some (a * b)) (k := 0) (fun H locs sl rest x z w hz K => by cases hz; exact lv_imul hx hb hd K) h kk
      | iand => have hn1 : n = 1 := beq_iff_eq.mp hlen; subst hn1; exact s_bin (f := fun a b => some (a &&& b)) (k := 0) (fun H locs sl rest x z w hz K => by cases hz; exact lv_iand hx hb hd K) h kk
      | ior => have hn1 : n = 1 := beq_iff_eq.mp hlen; subst hn1; exact s_bin (f := fun a b => some (a ||| b)) (k := 0) (fun H locs sl rest x z w hz K => by cases hz; exact lv_ior hx hb hd K) h kk
      | ixor => have hn1 : n = 1 := beq_iff_eq.mp hlen; subst hn1; exact s_bin (f := fun a b => some (a ^^^ b)) (k := 0) (fun H locs sl rest x z w hz K => by cases hz; exact lv_ixor hx hb hd K) h kk
      | ishl => have hn1 : n = 1 := beq_iff_eq.mp hlen; subst hn1; exact s_bin (f := fun a b => some (a <<< (b &&& 31))) (k := 0) (fun H locs sl rest x z w hz K => by cases hz; exact lv_ishl hx hb hd K) h kk
      | idiv => have hn1 : n = 1 := beq_iff_eq.mp hlen; subst hn1; exact s_bin (k := 0) (fun H locs sl rest x z w hz K => by (by_cases h0 : z = 0); (rw [if_pos h0] at hz; cases hz); (rw [if_neg h0] at hz; cases hz; exact lv_idiv hx hb hd h0 K)) h kk
      | irem => have hn1 : n = 1 := beq_iff_eq.mp hlen; subst hn1; exact s_bin (k := 0) (fun H locs sl rest x z w hz K => by (by_cases h0 : z = 0); (rw [if_pos h0] at hz; cases hz); (rw [if_neg h0] at hz; cases hz; exact lv_irem hx hb hd h0 K)) h kk
      | ineg => have hn1 : n = 1 := beq_iff_eq.mp hlen; subst hn1; exact s_una (fun H locs sl rest x K => lv_ineg hx hb hd K) h kk
      | i2c => have hn1 : n = 1 := beq_iff_eq.mp hlen; subst hn1; exact s_una (fun H locs sl rest x K => lv_i2c hx hb hd rfl K) h kk
      | iconst k => have hn1 : n = 1 := beq_iff_eq.mp hlen; subst hn1; exact s_psh (k := 1) (fun H locs sl rest K => lv_iconst hx hb hd rfl K) h kk
      | bipush k => have hn1 : n = 2 := beq_iff_eq.mp hlen; subst hn1; exact s_psh (k := 2) (fun H locs sl rest K => lv_bipush hx hb hd rfl K) h kk
      | sipush k => have hn1 : n = 3 := beq_iff_eq.mp hlen; subst hn1; exact s_psh (k := 3) (fun H locs sl rest K => lv_sipush hx hb hd rfl K) h kk
      | iload_n k => have hn1 : n = 1 := beq_iff_eq.mp hlen; subst hn1; exact s_ldi (fun H locs sl rest x hl K => lv_iload_n hx hb hd rfl hl K) h kk
      | iload i => have hn1 : n = 2 := beq_iff_eq.mp hlen; subst hn1; exact s_ldi (fun H locs sl rest x hl K => lv_iload hx hb hd hl K) h kk
      | aload_n k => have hn1 : n = 1 := beq_iff_eq.mp hlen; subst hn1; exact s_lda (fun H locs sl rest x hl K => lv_aload_n hx hb hd rfl hl K) h kk
      | aload i => have hn1 : n = 2 := beq_iff_eq.mp hlen; subst hn1; exact s_lda (fun H locs sl rest x hl K => lv_aload hx hb hd hl K) h kk
      | istore_n k => have hn1 : n = 1 := beq_iff_eq.mp hlen; subst hn1; exact s_sti (fun H locs sl rest x lv hi hl K => lv_istore_n hx hb hd rfl hl hi rfl K) h kk
      | istore i => have hn1 : n = 2 := beq_iff_eq.mp hlen; subst hn1; exact s_sti (fun H locs sl rest x lv hi hl K => lv_istore hx hb hd hl hi rfl K) h kk
      | astore_n k => have hn1 : n = 1 := beq_iff_eq.mp hlen; subst hn1; exact s_sta (fun H locs sl rest x lv hi hl K => lv_astore_n hx hb hd rfl hl hi rfl K) h kk
      | astore i => have hn1 : n = 2 := beq_iff_eq.mp hlen; subst hn1; exact s_sta (fun H locs sl rest x lv hi hl K => lv_astore hx hb hd hl hi rfl K) h kk
      | iinc i k => have hn1 : n = 3 := beq_iff_eq.mp hlen; subst hn1; exact s_inc hx hb hd h kk
      | ifCond cd off => have hn1 : n = 3 := beq_iff_eq.mp hlen; subst hn1; exact s_if1 hx hb hd h kk
      | if_icmp cd off => have hn1 : n = 3 := beq_iff_eq.mp hlen; subst hn1; exact s_if2 hx hb hd h kk
      | goto off => have hn1 : n = 3 := beq_iff_eq.mp hlen; subst hn1; exact s_jmp hx hb hd h kk
      | tableswitch d lo hi offs => exact s_tsw hx hb hd h kk
      | lookupswitch d ps => exact s_lsw hx hb hd h kk
      | dup => have hn1 : n = 1 := beq_iff_eq.mp hlen; subst hn1; exact s_dp1 hx hb hd h kk
      | dup2 => have hn1 : n = 1 := beq_iff_eq.mp hlen; subst hn1; exact s_dp2 hx hb hd h kk
      | pop => have hn1 : n = 1 := beq_iff_eq.mp hlen; subst hn1; exact s_pp1 hx hb hd h kk
      | getfield idx => have hn1 : n = 3 := beq_iff_eq.mp hlen; subst hn1; exact s_gfd hx hb hE hts hown hK hd h kk
      | putfield idx => have hn1 : n = 3 := beq_iff_eq.mp hlen; subst hn1; exact s_pfd hx hb hE hts hown hK hd h kk
      | getstatic idx => have hn1 : n = 3 := beq_iff_eq.mp hlen; subst hn1; exact s_gst hx hb hts hown hE hd h kk
      | ldc idx => have hn1 : n = 2 := beq_iff_eq.mp hlen; subst hn1; exact s_ldk hx hb hts hown hE (Or.inl ⟨rfl, hd⟩) h kk
      | ldc_w idx => have hn1 : n = 3 := beq_iff_eq.mp hlen; subst hn1; exact s_ldk hx hb hts hown hE (Or.inr ⟨rfl, hd⟩) h kk
      | iaload => have hn1 : n = 1 := beq_iff_eq.mp hlen; subst hn1; exact s_ial hx hb hK hE hd h kk
      | iastore => have hn1 : n = 1 := beq_iff_eq.mp hlen; subst hn1; exact s_ias hx hb hK hd h kk
      | aaload => have hn1 : n = 1 := beq_iff_eq.mp hlen; subst hn1; exact s_aal hx hb hK hd h kk
      | arraylength => have hn1 : n = 1 := beq_iff_eq.mp hlen; subst hn1; exact s_aln hx hb hK hd h kk
      | invokevirtual idx => have hn1 : n = 3 := beq_iff_eq.mp hlen; subst hn1; exact s_ivV hy hx hb hml hts hown hK hA hE hR IH IX hd h kk
      | invokestatic idx => have hn1 : n = 3 := beq_iff_eq.mp hlen; subst hn1; exact s_ivS hy hx hb hml hts hown hK hA hE hR IH hd h kk
      | ireturn =>
        exfalso
        have h : irt y st M = some (.inr q) := h
        unfold irt at h
        split at h
        · split at h <;> cases h
        · cases h
      | return_ =>
        exfalso
        have h : (if mrt y = 0 ∧ st = [] then some (.inl (none, M)) else none : Oc) = some (.inr q) := h
        split at h <;> cases h
      | _ => exact absurd h (by intro z; cases z)
    · rw [if_neg hlen] at h
      cases h
theorem run_sound {y : Nat} (hy : y < 161) (hx : p.tables.exec = Jvm.exec) (hb : c.code = cod y) (hml : c.maxLocals = nL) (hts : ∀ w ∈ gt, w.before args s = true) (hown : s.vm.findClass (clR (mcl y)) = some m.cls) (hK : va_K D vwCl (tysO cI cL cM) s) (hA : ∀ q, s.heap.size ≤ q → A q) (hE : Ext ad A s s.heap) (hR : R = rmL (lvl y)) (IX : IxMet l) (IH : ∀ y', y' < 161 → lvl y' < lvl y → SndY l y') (fin : ∀ q' : Ss, stp (gd call y) y q' = some (.inl r) → Wd p l e R s m args below meth c D cI cL cM ad A nL Q q') : ∀ (k : Nat) (q : Ss), runN (stp (gd call y) y) k q = some r → Wd p l e R s m args below meth c D cI cL cM ad A nL Q q := by
  intro k
  induction k with
  | zero => intro q h; cases h
  | succ k ih =>
    intro q h
    rw [runN] at h
    cases e1 : stp (gd call y) y q with
    | none => rw [e1] at h; cases h
    | some z =>
      rw [e1] at h
      cases z with
      | inl r' =>
        have : r' = r := Option.some.inj h
        subst this
        exact fin q e1
      | inr q' =>
        obtain ⟨pc, ls, st, M⟩ := q
        exact stp_sound hy hx hb hml hts hown hK hA hE hR IX IH e1 (ih q' h)
end Main
theorem no_nx {pc : Nat} {ls st : List AV} {M : Mm} {r : Rs} (h : nx pc ls st M = some (.inl r)) : False := by unfold nx at h; cases h
theorem no_jmp {pc : Nat} {off : Int} {ls st : List AV} {M : Mm} {r : Rs} (h : jmp pc off ls st M = some (.inl r)) : False := by unfold jmp at h; split at h; exact no_nx h; cases h
theorem no_bin (f : Int32 → Int32 → Option Int32) (pc : Nat) (ls st : List AV) (M : Mm) {r : Rs} (h : bin f pc ls st M = some (.inl r)) : False := by
  unfold bin at h
  repeat' split at h
  all_goals first | exact no_nx h | exact no_jmp h | cases h
theorem no_una (f : Int32 → Int32) (pc : Nat) (ls st : List AV) (M : Mm) {r : Rs} (h : una f pc ls st M = some (.inl r)) : False := by
  unfold una at h
  repeat' split at h
  all_goals first | exact no_nx h | exact no_jmp h | cases h
theorem no_ldi (i n pc : Nat) (ls st : List AV) (M : Mm) {r : Rs} (h : ldi i n pc ls st M = some (.inl r)) : False := by
  unfold ldi at h
  repeat' split at h
  all_goals first | exact no_nx h | exact no_jmp h | cases h
theorem no_lda (i n pc : Nat) (ls st : List AV) (M : Mm) {r : Rs} (h : lda i n pc ls st M = some (.inl r)) : False := by
  unfold lda at h
  repeat' split at h
  all_goals first | exact no_nx h | exact no_jmp h | cases h
theorem no_sti (i n pc : Nat) (ls st : List AV) (M : Mm) {r : Rs} (h : sti i n pc ls st M = some (.inl r)) : False := by
  unfold sti at h
  repeat' split at h
  all_goals first | exact no_nx h | exact no_jmp h | cases h
theorem no_sta (i n pc : Nat) (ls st : List AV) (M : Mm) {r : Rs} (h : sta i n pc ls st M = some (.inl r)) : False := by
  unfold sta at h
  repeat' split at h
  all_goals first | exact no_nx h | exact no_jmp h | cases h
theorem no_inc (i : Nat) (k : Int) (pc : Nat) (ls st : List AV) (M : Mm) {r : Rs} (h : inc i k pc ls st M = some (.inl r)) : False := by
  unfold inc at h
  repeat' split at h
  all_goals first | exact no_nx h | exact no_jmp h | cases h
theorem no_if1 (cd : _root_.Jvm.ClassFile.Cond) (off : Int) (pc : Nat) (ls st : List AV) (M : Mm) {r : Rs} (h : if1 cd off pc ls st M = some (.inl r)) : False := by
  unfold if1 at h
  repeat' split at h
  all_goals first | exact no_nx h | exact no_jmp h | cases h
theorem no_if2 (cd : _root_.Jvm.ClassFile.Cond) (off : Int) (pc : Nat) (ls st : List AV) (M : Mm) {r : Rs} (h : if2 cd off pc ls st M = some (.inl r)) : False := by
  unfold if2 at h
  repeat' split at h
  all_goals first | exact no_nx h | exact no_jmp h | cases h
theorem no_tsw (d lo hi : Int) (offs : Array Int) (pc : Nat) (ls st : List AV) (M : Mm) {r : Rs} (h : tsw d lo hi offs pc ls st M = some (.inl r)) : False := by
  unfold tsw at h
  repeat' split at h
  all_goals first | exact no_nx h | exact no_jmp h | cases h
theorem no_lsw (d : Int) (ps : Array (Int × Int)) (pc : Nat) (ls st : List AV) (M : Mm) {r : Rs} (h : lsw d ps pc ls st M = some (.inl r)) : False := by
  unfold lsw at h
  repeat' split at h
  all_goals first | exact no_nx h | exact no_jmp h | cases h
theorem no_dp1 (pc : Nat) (ls st : List AV) (M : Mm) {r : Rs} (h : dp1 pc ls st M = some (.inl r)) : False := by
  unfold dp1 at h
  repeat' split at h
  all_goals first | exact no_nx h | exact no_jmp h | cases h
theorem no_dp2 (pc : Nat) (ls st : List AV) (M : Mm) {r : Rs} (h : dp2 pc ls st M = some (.inl r)) : False := by
  unfold dp2 at h
  repeat' split at h
  all_goals first | exact no_nx h | exact no_jmp h | cases h
theorem no_pp1 (pc : Nat) (ls st : List AV) (M : Mm) {r : Rs} (h : pp1 pc ls st M = some (.inl r)) : False := by
  unfold pp1 at h
  repeat' split at h
  all_goals first | exact no_nx h | exact no_jmp h | cases h
theorem no_gfd (own idx pc : Nat) (ls st : List AV) (M : Mm) {r : Rs} (h : gfd own idx pc ls st M = some (.inl r)) : False := by
  unfold gfd at h
  repeat' split at h
  all_goals first | exact no_nx h | exact no_jmp h | cases h
theorem no_pfd (own idx pc : Nat) (ls st : List AV) (M : Mm) {r : Rs} (h : pfd own idx pc ls st M = some (.inl r)) : False := by
  unfold pfd at h
  repeat' split at h
  all_goals first | exact no_nx h | exact no_jmp h | cases h
theorem no_gst (own idx pc : Nat) (ls st : List AV) (M : Mm) {r : Rs} (h : gst own idx pc ls st M = some (.inl r)) : False := by
  unfold gst at h
  repeat' split at h
  all_goals first | exact no_nx h | exact no_jmp h | cases h
theorem no_ldk (own idx n pc : Nat) (ls st : List AV) (M : Mm) {r : Rs} (h : ldk own idx n pc ls st M = some (.inl r)) : False := by
  unfold ldk at h
  repeat' split at h
  all_goals first | exact no_nx h | exact no_jmp h | cases h
theorem no_ial (pc : Nat) (ls st : List AV) (M : Mm) {r : Rs} (h : ial pc ls st M = some (.inl r)) : False := by
  unfold ial at h
  repeat' split at h
  all_goals first | exact no_nx h | exact no_jmp h | cases h
theorem no_ias (pc : Nat) (ls st : List AV) (M : Mm) {r : Rs} (h : ias pc ls st M = some (.inl r)) : False := by
  unfold ias at h
  repeat' split at h
  all_goals first | exact no_nx h | exact no_jmp h | cases h
theorem no_aal (pc : Nat) (ls st : List AV) (M : Mm) {r : Rs} (h : aal pc ls st M = some (.inl r)) : False := by
  unfold aal at h
  repeat' split at h
  all_goals first | exact no_nx h | exact no_jmp h | cases h
theorem no_aln (pc : Nat) (ls st : List AV) (M : Mm) {r : Rs} (h : aln pc ls st M = some (.inl r)) : False := by
  unfold aln at h
  repeat' split at h
  all_goals first | exact no_nx h | exact no_jmp h | cases h
theorem no_ivk (cal : Nat → List AV → Mm → Option Rs) (lv own idx : Nat) (stc : Bool) (pc : Nat) (ls st : List AV) (M : Mm) {r : Rs} (h : ivk cal lv own idx stc pc ls st M = some (.inl r)) : False := by
  unfold ivk at h
  repeat' (first | split at h | dsimp only at h)
  all_goals first | exact no_nx h | exact no_bin _ _ _ _ _ h | cases h
theorem stp_ret {y : Nat} {q : Ss} {v : Option Int32} {M' : Mm} (h : stp (gd call y) y q = some (.inl (v, M'))) : (v = none ∧ mrt y = 0 ∧ q.2.2.1 = [] ∧ q.2.2.2 = M' ∧ decode (cod y) q.1 = .ok (.return_, 1)) ∨ (∃ x, v = some x ∧ (mrt y = 1 ∨ (mrt y = 2 ∧ (x = 0 ∨ x = 1))) ∧ q.2.2.1 = [some (.inl x)] ∧ q.2.2.2 = M' ∧ decode (cod y) q.1 = .ok (.ireturn, 1)) := by
  obtain ⟨pc, ls, st, M⟩ := q
  unfold stp at h
  dsimp only at h ⊢
  cases hd : decode (cod y) pc with
  | error z => simp only [hd] at h; cases h
  | ok z =>
    obtain ⟨ins, n⟩ := z
    simp only [hd] at h
    by_cases hlen : lenOk ins n = true
    · rw [if_pos hlen] at h
      cases ins with
      | iadd => exact (no_bin (fun a b => some (a + b)) pc ls st M h).elim
      | isub => exact (no_bin (fun a b => some (a - b)) pc ls st M h).elim
      | imul => exact (no_bin (fun a b => some (a * b)) pc ls st M h).elim
      | iand => exact (no_bin (fun a b => some (a &&& b)) pc ls st M h).elim
      | ior => exact (no_bin (fun a b => some (a ||| b)) pc ls st M h).elim
      | ixor => exact (no_bin (fun a b => some (a ^^^ b)) pc ls st M h).elim
      | ishl => exact (no_bin (fun a b => some (a <<< (b &&& 31))) pc ls st M h).elim
      | idiv => exact (no_bin _ _ _ _ _ h).elim
      | irem => exact (no_bin _ _ _ _ _ h).elim
      | ineg => exact (no_una _ _ _ _ _ h).elim
      | i2c => exact (no_una _ _ _ _ _ h).elim
      | iload_n k => exact (no_ldi _ _ _ _ _ _ h).elim
      | iload i => exact (no_ldi _ _ _ _ _ _ h).elim
      | aload_n k => exact (no_lda _ _ _ _ _ _ h).elim
      | aload i => exact (no_lda _ _ _ _ _ _ h).elim
      | istore_n k => exact (no_sti _ _ _ _ _ _ h).elim
      | istore i => exact (no_sti _ _ _ _ _ _ h).elim
      | astore_n k => exact (no_sta _ _ _ _ _ _ h).elim
      | astore i => exact (no_sta _ _ _ _ _ _ h).elim
      | iinc i k => exact (no_inc _ _ _ _ _ _ h).elim
      | ifCond cd off => exact (no_if1 _ _ _ _ _ _ h).elim
      | if_icmp cd off => exact (no_if2 _ _ _ _ _ _ h).elim
      | tableswitch d lo hi offs => exact (no_tsw _ _ _ _ _ _ _ _ h).elim
      | lookupswitch d ps => exact (no_lsw _ _ _ _ _ _ h).elim
      | dup => exact (no_dp1 _ _ _ _ h).elim
      | dup2 => exact (no_dp2 _ _ _ _ h).elim
      | pop => exact (no_pp1 _ _ _ _ h).elim
      | getfield idx => exact (no_gfd _ _ _ _ _ _ h).elim
      | putfield idx => exact (no_pfd _ _ _ _ _ _ h).elim
      | getstatic idx => exact (no_gst _ _ _ _ _ _ h).elim
      | ldc idx => exact (no_ldk _ _ _ _ _ _ _ h).elim
      | ldc_w idx => exact (no_ldk _ _ _ _ _ _ _ h).elim
      | iaload => exact (no_ial _ _ _ _ h).elim
      | iastore => exact (no_ias _ _ _ _ h).elim
      | aaload => exact (no_aal _ _ _ _ h).elim
      | arraylength => exact (no_aln _ _ _ _ h).elim
      | invokevirtual idx => exact (no_ivk _ _ _ _ _ _ _ _ _ h).elim
      | invokestatic idx => exact (no_ivk _ _ _ _ _ _ _ _ _ h).elim
      | goto off => exact (no_jmp h).elim
      | iconst k => exact (no_nx h).elim
      | bipush k => exact (no_nx h).elim
      | sipush k => exact (no_nx h).elim
      | ireturn =>
        have hn1 : n = 1 := beq_iff_eq.mp hlen
        subst hn1
        have h : irt y st M = some (.inl (v, M')) := h
        unfold irt at h
        split at h
        · rename_i x
          split at h
          · rename_i hc
            cases h
            exact Or.inr ⟨_, rfl, hc, rfl, rfl, rfl⟩
          · cases h
        · cases h
      | return_ =>
        have hn1 : n = 1 := beq_iff_eq.mp hlen
        subst hn1
        have h : (if mrt y = 0 ∧ st = [] then some (.inl (none, M)) else none : Oc) = some (.inl (v, M')) := h
        split at h
        · rename_i hc
          cases h
          exact Or.inl ⟨rfl, hc.1, hc.2, rfl, rfl⟩
        · cases h
      | _ => exact absurd h (by intro z; cases z)
    · rw [if_neg hlen] at h
      cases h
theorem lr_ini {ad : Cd → Nat} {as : List AV} {n : Nat} (hs : okS as) (hn : as.length ≤ n) : Lr ad ((lg_sl (as.map (cv ad)) ++ List.replicate (n - (lg_sl (as.map (cv ad))).length) Slot.unset).toArray) (as ++ List.replicate (n - as.length) none) := by
  have hsl : ∀ as : List AV, lg_sl (as.map (cv ad)) = as.map (fun v => Slot.val (cv ad v)) := by
    intro as
    induction as with
    | nil => rfl
    | cons v as ih =>
      show (if (cv ad v).category = 2 then [Slot.val (cv ad v), Slot.second] else [Slot.val (cv ad v)]) ++ lg_sl (as.map (cv ad)) = _
      rw [cv_cat, ih]
      rfl
  have hlen : (lg_sl (as.map (cv ad))).length = as.length := by rw [hsl, List.length_map]
  have h0 := lv_entry (as.map (cv ad)) (n := n) (by rw [hlen]; exact hn)
  refine ⟨?_, h0.2.1, fun q hq => ?_⟩
  · rw [h0.1, List.length_append, List.length_replicate]; omega
  · obtain ⟨i, x⟩ := q
    obtain ⟨w, hw, rfl⟩ := lvO_mem.mp hq
    have hi : as[i]? = some (some w) := by
      rw [List.getElem?_append] at hw
      split at hw
      · exact hw
      · rw [List.getElem?_replicate] at hw
        split at hw <;> cases hw
    show (lg_sl (as.map (cv ad)) ++ _).toArray[i]? = _
    rw [List.getElem?_toArray, List.getElem?_append, hlen, if_pos (List.getElem?_eq_some_iff.mp hi).1, hsl, List.getElem?_map, hi]
    rfl
theorem snd_one {l : Launch} (IX : IxMet l) {y : Nat} (hy : y < 161) (IH : ∀ y', y' < 161 → lvl y' < lvl y → SndY l y') : SndY l y := by
  intro D cI cL cM ad as M M' v sz hc hok hlen
  obtain ⟨m1, m2, m3⟩ := mFacts hy
  simp only [mOd, Bool.and_eq_true, decide_eq_true_eq] at m2
  simp only [mOn, Bool.and_eq_true, decide_eq_true_eq] at m3
  have hle : as.length ≤ mxL y := by rw [hlen]; exact m3.1.1.1.1.1.2
  refine Met.ofW (cc := cod y) (maxL := mxL y) (ret := rtT y) m2.1.1.2 rfl ?_
  intro p e s m args below meth c s₁ B hml hv
  obtain ⟨rfl, hsz, hP, hK, hD0, hE⟩ := hv
  have hx := B.exec
  have hb := B.bytes
  have hr := B.returns
  have hts0 := atoms_spec (ws := wsM y) B.pre
  have hts : ∀ w ∈ gt, w.before (as.map (cv ad)).toArray s = true := fun w hw => hts0 w (List.mem_cons_of_mem _ hw)
  have hown : s.vm.findClass (mN y).cls = some m.cls := findClass_of_methodNamed B.named
  rw [m2.1.1.1.1] at hown
  have hlocks := B.notSynchronized
  subst hsz
  have hD := hD0.self (sz := s.heap.size)
  have hA : ∀ q : Nat, s.heap.size ≤ q → va_A (wsO cI cL cM ad M) s.heap.size q := fun q h => Or.inr h
  rw [lg_entry_eq]
  rw [call_run] at hc
  obtain ⟨k, hk⟩ := runF_some hc
  have hrt := m3.2
  refine run_sound (p := p) (e := e) (R := rmL (lvl y)) (below := below) (meth := meth) (c := c) (D := D) (cI := cI) (cL := cL) (cM := cM) (ad := ad) (A := va_A (wsO cI cL cM ad M) s.heap.size) (nL := mxL y) (r := (v, M')) hy hx hb hml hts hown hK hA hE rfl IX IH ?_ k _ hk _ _ _ ?_ ?_ ?_ (lr_ini hok hle) hP hD va_S.rf
  · intro q hq sl H locs hL hS hn hl hP hD hs
    obtain ⟨pc, ls, st, Mq⟩ := q
    have hF : va_F (va_A (wsO cI cL cM ad M) s.heap.size) s = va_F (va_A (wsO cI cL cM ad M) s.heap.size) s := rfl
    rcases stp_ret hq with ⟨rfl, h0, hst, hM, hd⟩ | ⟨x, rfl, h0, hst, hM, hd⟩
    · dsimp only at hst hM hd
      subst hst
      subst hM
      have hr' : meth.sig.returnType = none := by rw [hr, hrt, h0]; rfl
      exact W.vret hx hb hr' (fun t ht hW => ⟨⟨Mq, rfl, rfl, by show va_P _ _ _ t.heap; rw [ht]; exact hP⟩, hs.F ht⟩) hs.2.2 hd
    · dsimp only at hst hM hd
      subst hst
      subst hM
      rcases h0 with h0 | ⟨h0, hx01⟩
      · have hr' : meth.sig.returnType = some .int := by rw [hr, hrt, h0]; rfl
        exact W.iret (v := x) hx hb hr' (fun t ht hW => ⟨⟨x, Mq, rfl, ⟨rfl, rfl⟩, by show va_P _ _ _ t.heap; rw [ht]; exact hP⟩, hs.F ht⟩) hs.2.2 hd
      · have hr' : meth.sig.returnType = some .boolean := by rw [hr, hrt, h0]; rfl
        exact W.zret (v := x) hx hb hr' (by rcases hx01 with rfl | rfl <;> decide +kernel) (fun t ht hW => ⟨⟨x, Mq, rfl, ⟨rfl, rfl⟩, by show va_P _ _ _ t.heap; rw [ht]; exact hP⟩, hs.F ht⟩) hs.2.2 hd
  · intro w hw
    rcases List.mem_append.mp hw with h | h
    · exact Or.inr (hok w h)
    · exact Or.inl (List.eq_of_mem_replicate h)
  · intro w hw
    cases hw
  · show (as ++ List.replicate (mxL y - as.length) none).length = mxL y
    rw [List.length_append, List.length_replicate]
    omega
theorem snd_all {l : Launch} (IX : IxMet l) : ∀ (n y : Nat), y < 161 → lvl y < n → SndY l y := by
  intro n
  induction n with
  | zero => intro y _ h; exact absurd h (Nat.not_lt_zero _)
  | succ n ih => intro y hy h; exact snd_one IX hy (fun y' hy' hl => ih y' hy' (by omega))
end
