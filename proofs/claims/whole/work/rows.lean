section
-- ===== PART A: goes FIRST, ahead of the names: the tables' words, and 'selects' of the private methods out of them =====
/-- a private method of a class that the tables say can be made, by its rows of tables_1 -/
def lw_okq (q : MethodName × Nat) : Prop := (q.1.cls ≠ "java/lang/invoke/MethodHandle" ∧ q.1.cls ≠ "java/lang/invoke/VarHandle") ∧ Cond.instantiable q.1.cls q.2 ∈ tables_1 ∧ Cond.privateMethod q.1 ∈ tables_1 ∧ Cond.instanceMethod q.1 ∈ tables_1
theorem lw_p0 : lw_okq (⟨"HourglassTag", "number", "(I)I"⟩, 7) := ⟨⟨by decide +kernel, by decide +kernel⟩, List.mem_of_getElem? (i := 19) (by decide +kernel), List.mem_of_getElem? (i := 295) (by decide +kernel), List.mem_of_getElem? (i := 296) (by decide +kernel)⟩
theorem lw_p1 : lw_okq (⟨"HourglassTag", "withTowers", "(J)J"⟩, 7) := ⟨⟨by decide +kernel, by decide +kernel⟩, List.mem_of_getElem? (i := 19) (by decide +kernel), List.mem_of_getElem? (i := 314) (by decide +kernel), List.mem_of_getElem? (i := 315) (by decide +kernel)⟩
theorem lw_p2 : lw_okq (⟨"HourglassTag", "towerProperty", "(II)I"⟩, 7) := ⟨⟨by decide +kernel, by decide +kernel⟩, List.mem_of_getElem? (i := 19) (by decide +kernel), List.mem_of_getElem? (i := 318) (by decide +kernel), List.mem_of_getElem? (i := 319) (by decide +kernel)⟩
theorem lw_p3 : lw_okq (⟨"HourglassTag$Ways", "cheapestUnsettled", "()I"⟩, 4) := ⟨⟨by decide +kernel, by decide +kernel⟩, List.mem_of_getElem? (i := 145) (by decide +kernel), List.mem_of_getElem? (i := 331) (by decide +kernel), List.mem_of_getElem? (i := 332) (by decide +kernel)⟩
theorem lw_p4 : lw_okq (⟨"HourglassTag$Ways", "allowGoingOver", "(I)V"⟩, 4) := ⟨⟨by decide +kernel, by decide +kernel⟩, List.mem_of_getElem? (i := 145) (by decide +kernel), List.mem_of_getElem? (i := 343) (by decide +kernel), List.mem_of_getElem? (i := 344) (by decide +kernel)⟩
theorem lw_p5 : lw_okq (⟨"HourglassTag", "withPlayer", "(JI)J"⟩, 7) := ⟨⟨by decide +kernel, by decide +kernel⟩, List.mem_of_getElem? (i := 19) (by decide +kernel), List.mem_of_getElem? (i := 347) (by decide +kernel), List.mem_of_getElem? (i := 348) (by decide +kernel)⟩
theorem lw_p6 : lw_okq (⟨"HourglassTag", "playerProperty", "(II)I"⟩, 7) := ⟨⟨by decide +kernel, by decide +kernel⟩, List.mem_of_getElem? (i := 19) (by decide +kernel), List.mem_of_getElem? (i := 351) (by decide +kernel), List.mem_of_getElem? (i := 352) (by decide +kernel)⟩
theorem lw_p7 : lw_okq (⟨"java/lang/Throwable", "fillInStackTrace", "(I)Ljava/lang/Throwable;"⟩, 6) := ⟨⟨by decide +kernel, by decide +kernel⟩, List.mem_of_getElem? (i := 443) (by decide +kernel), List.mem_of_getElem? (i := 441) (by decide +kernel), List.mem_of_getElem? (i := 442) (by decide +kernel)⟩
theorem lw_p8 : lw_okq (⟨"HourglassTag$Game", "refuse", "(I)I"⟩, 17) := ⟨⟨by decide +kernel, by decide +kernel⟩, List.mem_of_getElem? (i := 27) (by decide +kernel), List.mem_of_getElem? (i := 570) (by decide +kernel), List.mem_of_getElem? (i := 571) (by decide +kernel)⟩
theorem lw_p9 : lw_okq (⟨"HourglassTag$Game", "pay", "(I)V"⟩, 17) := ⟨⟨by decide +kernel, by decide +kernel⟩, List.mem_of_getElem? (i := 27) (by decide +kernel), List.mem_of_getElem? (i := 574) (by decide +kernel), List.mem_of_getElem? (i := 575) (by decide +kernel)⟩
theorem lw_p10 : lw_okq (⟨"HourglassTag", "playMove", "(II)Z"⟩, 7) := ⟨⟨by decide +kernel, by decide +kernel⟩, List.mem_of_getElem? (i := 19) (by decide +kernel), List.mem_of_getElem? (i := 641) (by decide +kernel), List.mem_of_getElem? (i := 642) (by decide +kernel)⟩
theorem lw_p11 : lw_okq (⟨"HourglassTagModel", "wrong", "(I)I"⟩, 14) := ⟨⟨by decide +kernel, by decide +kernel⟩, List.mem_of_getElem? (i := 732) (by decide +kernel), List.mem_of_getElem? (i := 789) (by decide +kernel), List.mem_of_getElem? (i := 790) (by decide +kernel)⟩
theorem lw_p12 : lw_okq (⟨"HourglassTagModel", "remember", "()V"⟩, 14) := ⟨⟨by decide +kernel, by decide +kernel⟩, List.mem_of_getElem? (i := 732) (by decide +kernel), List.mem_of_getElem? (i := 804) (by decide +kernel), List.mem_of_getElem? (i := 805) (by decide +kernel)⟩
theorem lw_p13 : lw_okq (⟨"HourglassTagModel", "record", "(I)I"⟩, 14) := ⟨⟨by decide +kernel, by decide +kernel⟩, List.mem_of_getElem? (i := 732) (by decide +kernel), List.mem_of_getElem? (i := 808) (by decide +kernel), List.mem_of_getElem? (i := 809) (by decide +kernel)⟩
theorem lw_p14 : lw_okq (⟨"HourglassTagModel", "isOver", "()Z"⟩, 14) := ⟨⟨by decide +kernel, by decide +kernel⟩, List.mem_of_getElem? (i := 732) (by decide +kernel), List.mem_of_getElem? (i := 828) (by decide +kernel), List.mem_of_getElem? (i := 829) (by decide +kernel)⟩
theorem lw_p15 : lw_okq (⟨"HourglassTagModel", "waits", "()I"⟩, 14) := ⟨⟨by decide +kernel, by decide +kernel⟩, List.mem_of_getElem? (i := 732) (by decide +kernel), List.mem_of_getElem? (i := 832) (by decide +kernel), List.mem_of_getElem? (i := 833) (by decide +kernel)⟩
def lw_privs_1 : List (MethodName × Nat) := [(⟨"HourglassTag", "number", "(I)I"⟩, 7), (⟨"HourglassTag", "withTowers", "(J)J"⟩, 7), (⟨"HourglassTag", "towerProperty", "(II)I"⟩, 7), (⟨"HourglassTag$Ways", "cheapestUnsettled", "()I"⟩, 4), (⟨"HourglassTag$Ways", "allowGoingOver", "(I)V"⟩, 4), (⟨"HourglassTag", "withPlayer", "(JI)J"⟩, 7), (⟨"HourglassTag", "playerProperty", "(II)I"⟩, 7), (⟨"java/lang/Throwable", "fillInStackTrace", "(I)Ljava/lang/Throwable;"⟩, 6), (⟨"HourglassTag$Game", "refuse", "(I)I"⟩, 17), (⟨"HourglassTag$Game", "pay", "(I)V"⟩, 17), (⟨"HourglassTag", "playMove", "(II)Z"⟩, 7), (⟨"HourglassTagModel", "wrong", "(I)I"⟩, 14), (⟨"HourglassTagModel", "remember", "()V"⟩, 14), (⟨"HourglassTagModel", "record", "(I)I"⟩, 14), (⟨"HourglassTagModel", "isOver", "()Z"⟩, 14), (⟨"HourglassTagModel", "waits", "()I"⟩, 14)]
theorem lw_r1 : ∀ q ∈ lw_privs_1, lw_okq q := List.forall_mem_cons.mpr ⟨lw_p0, List.forall_mem_cons.mpr ⟨lw_p1, List.forall_mem_cons.mpr ⟨lw_p2, List.forall_mem_cons.mpr ⟨lw_p3, List.forall_mem_cons.mpr ⟨lw_p4, List.forall_mem_cons.mpr ⟨lw_p5, List.forall_mem_cons.mpr ⟨lw_p6, List.forall_mem_cons.mpr ⟨lw_p7, List.forall_mem_cons.mpr ⟨lw_p8, List.forall_mem_cons.mpr ⟨lw_p9, List.forall_mem_cons.mpr ⟨lw_p10, List.forall_mem_cons.mpr ⟨lw_p11, List.forall_mem_cons.mpr ⟨lw_p12, List.forall_mem_cons.mpr ⟨lw_p13, List.forall_mem_cons.mpr ⟨lw_p14, List.forall_mem_cons.mpr ⟨lw_p15, fun _ h => absurd h List.not_mem_nil⟩⟩⟩⟩⟩⟩⟩⟩⟩⟩⟩⟩⟩⟩⟩⟩
theorem lw_p16 : lw_okq (⟨"HourglassTagModel", "take", "(I)V"⟩, 14) := ⟨⟨by decide +kernel, by decide +kernel⟩, List.mem_of_getElem? (i := 732) (by decide +kernel), List.mem_of_getElem? (i := 836) (by decide +kernel), List.mem_of_getElem? (i := 837) (by decide +kernel)⟩
theorem lw_p17 : lw_okq (⟨"HourglassTagModel", "its", "(II)I"⟩, 14) := ⟨⟨by decide +kernel, by decide +kernel⟩, List.mem_of_getElem? (i := 732) (by decide +kernel), List.mem_of_getElem? (i := 840) (by decide +kernel), List.mem_of_getElem? (i := 841) (by decide +kernel)⟩
theorem lw_p18 : lw_okq (⟨"HourglassTagModel", "ends", "()I"⟩, 14) := ⟨⟨by decide +kernel, by decide +kernel⟩, List.mem_of_getElem? (i := 732) (by decide +kernel), List.mem_of_getElem? (i := 844) (by decide +kernel), List.mem_of_getElem? (i := 845) (by decide +kernel)⟩
theorem lw_p19 : lw_okq (⟨"HourglassTagModel", "runs", "()I"⟩, 14) := ⟨⟨by decide +kernel, by decide +kernel⟩, List.mem_of_getElem? (i := 732) (by decide +kernel), List.mem_of_getElem? (i := 848) (by decide +kernel), List.mem_of_getElem? (i := 849) (by decide +kernel)⟩
theorem lw_p20 : lw_okq (⟨"HourglassTagModel", "put", "(I)V"⟩, 14) := ⟨⟨by decide +kernel, by decide +kernel⟩, List.mem_of_getElem? (i := 732) (by decide +kernel), List.mem_of_getElem? (i := 852) (by decide +kernel), List.mem_of_getElem? (i := 853) (by decide +kernel)⟩
theorem lw_p21 : lw_okq (⟨"HourglassTagModel", "more", "(III)V"⟩, 14) := ⟨⟨by decide +kernel, by decide +kernel⟩, List.mem_of_getElem? (i := 732) (by decide +kernel), List.mem_of_getElem? (i := 856) (by decide +kernel), List.mem_of_getElem? (i := 857) (by decide +kernel)⟩
theorem lw_p22 : lw_okq (⟨"HourglassTagModel", "goes", "(I)I"⟩, 14) := ⟨⟨by decide +kernel, by decide +kernel⟩, List.mem_of_getElem? (i := 732) (by decide +kernel), List.mem_of_getElem? (i := 864) (by decide +kernel), List.mem_of_getElem? (i := 865) (by decide +kernel)⟩
theorem lw_p23 : lw_okq (⟨"HourglassTagModel", "strideReason", "(I)I"⟩, 14) := ⟨⟨by decide +kernel, by decide +kernel⟩, List.mem_of_getElem? (i := 732) (by decide +kernel), List.mem_of_getElem? (i := 868) (by decide +kernel), List.mem_of_getElem? (i := 869) (by decide +kernel)⟩
theorem lw_p24 : lw_okq (⟨"HourglassTagModel", "sees", "(II)Z"⟩, 14) := ⟨⟨by decide +kernel, by decide +kernel⟩, List.mem_of_getElem? (i := 732) (by decide +kernel), List.mem_of_getElem? (i := 872) (by decide +kernel), List.mem_of_getElem? (i := 873) (by decide +kernel)⟩
theorem lw_p25 : lw_okq (⟨"HourglassTagModel", "strideOf", "(II)I"⟩, 14) := ⟨⟨by decide +kernel, by decide +kernel⟩, List.mem_of_getElem? (i := 732) (by decide +kernel), List.mem_of_getElem? (i := 876) (by decide +kernel), List.mem_of_getElem? (i := 877) (by decide +kernel)⟩
theorem lw_p26 : lw_okq (⟨"HourglassTagModel", "refuses", "(I)I"⟩, 14) := ⟨⟨by decide +kernel, by decide +kernel⟩, List.mem_of_getElem? (i := 732) (by decide +kernel), List.mem_of_getElem? (i := 883) (by decide +kernel), List.mem_of_getElem? (i := 884) (by decide +kernel)⟩
theorem lw_p27 : lw_okq (⟨"HourglassTagModel", "strides", "(I)V"⟩, 14) := ⟨⟨by decide +kernel, by decide +kernel⟩, List.mem_of_getElem? (i := 732) (by decide +kernel), List.mem_of_getElem? (i := 887) (by decide +kernel), List.mem_of_getElem? (i := 888) (by decide +kernel)⟩
theorem lw_p28 : lw_okq (⟨"HourglassTagModel", "overs", "()I"⟩, 14) := ⟨⟨by decide +kernel, by decide +kernel⟩, List.mem_of_getElem? (i := 732) (by decide +kernel), List.mem_of_getElem? (i := 895) (by decide +kernel), List.mem_of_getElem? (i := 896) (by decide +kernel)⟩
theorem lw_p29 : lw_okq (⟨"HourglassTagModel", "turns", "()V"⟩, 14) := ⟨⟨by decide +kernel, by decide +kernel⟩, List.mem_of_getElem? (i := 732) (by decide +kernel), List.mem_of_getElem? (i := 899) (by decide +kernel), List.mem_of_getElem? (i := 900) (by decide +kernel)⟩
theorem lw_p30 : lw_okq (⟨"HourglassTagModel", "isPlayer", "(I)Z"⟩, 14) := ⟨⟨by decide +kernel, by decide +kernel⟩, List.mem_of_getElem? (i := 732) (by decide +kernel), List.mem_of_getElem? (i := 907) (by decide +kernel), List.mem_of_getElem? (i := 908) (by decide +kernel)⟩
theorem lw_p31 : lw_okq (⟨"HourglassTagModel", "tags", "(I)I"⟩, 14) := ⟨⟨by decide +kernel, by decide +kernel⟩, List.mem_of_getElem? (i := 732) (by decide +kernel), List.mem_of_getElem? (i := 911) (by decide +kernel), List.mem_of_getElem? (i := 912) (by decide +kernel)⟩
def lw_privs_2 : List (MethodName × Nat) := [(⟨"HourglassTagModel", "take", "(I)V"⟩, 14), (⟨"HourglassTagModel", "its", "(II)I"⟩, 14), (⟨"HourglassTagModel", "ends", "()I"⟩, 14), (⟨"HourglassTagModel", "runs", "()I"⟩, 14), (⟨"HourglassTagModel", "put", "(I)V"⟩, 14), (⟨"HourglassTagModel", "more", "(III)V"⟩, 14), (⟨"HourglassTagModel", "goes", "(I)I"⟩, 14), (⟨"HourglassTagModel", "strideReason", "(I)I"⟩, 14), (⟨"HourglassTagModel", "sees", "(II)Z"⟩, 14), (⟨"HourglassTagModel", "strideOf", "(II)I"⟩, 14), (⟨"HourglassTagModel", "refuses", "(I)I"⟩, 14), (⟨"HourglassTagModel", "strides", "(I)V"⟩, 14), (⟨"HourglassTagModel", "overs", "()I"⟩, 14), (⟨"HourglassTagModel", "turns", "()V"⟩, 14), (⟨"HourglassTagModel", "isPlayer", "(I)Z"⟩, 14), (⟨"HourglassTagModel", "tags", "(I)I"⟩, 14)]
theorem lw_r2 : ∀ q ∈ lw_privs_2, lw_okq q := List.forall_mem_cons.mpr ⟨lw_p16, List.forall_mem_cons.mpr ⟨lw_p17, List.forall_mem_cons.mpr ⟨lw_p18, List.forall_mem_cons.mpr ⟨lw_p19, List.forall_mem_cons.mpr ⟨lw_p20, List.forall_mem_cons.mpr ⟨lw_p21, List.forall_mem_cons.mpr ⟨lw_p22, List.forall_mem_cons.mpr ⟨lw_p23, List.forall_mem_cons.mpr ⟨lw_p24, List.forall_mem_cons.mpr ⟨lw_p25, List.forall_mem_cons.mpr ⟨lw_p26, List.forall_mem_cons.mpr ⟨lw_p27, List.forall_mem_cons.mpr ⟨lw_p28, List.forall_mem_cons.mpr ⟨lw_p29, List.forall_mem_cons.mpr ⟨lw_p30, List.forall_mem_cons.mpr ⟨lw_p31, fun _ h => absurd h List.not_mem_nil⟩⟩⟩⟩⟩⟩⟩⟩⟩⟩⟩⟩⟩⟩⟩⟩
theorem lw_p32 : lw_okq (⟨"HourglassTagModel", "tagReason", "(II)I"⟩, 14) := ⟨⟨by decide +kernel, by decide +kernel⟩, List.mem_of_getElem? (i := 732) (by decide +kernel), List.mem_of_getElem? (i := 915) (by decide +kernel), List.mem_of_getElem? (i := 916) (by decide +kernel)⟩
theorem lw_p33 : lw_okq (⟨"HourglassTagModel", "error", "()I"⟩, 14) := ⟨⟨by decide +kernel, by decide +kernel⟩, List.mem_of_getElem? (i := 732) (by decide +kernel), List.mem_of_getElem? (i := 931) (by decide +kernel), List.mem_of_getElem? (i := 932) (by decide +kernel)⟩
theorem lw_p34 : lw_okq (⟨"HourglassTagModel", "moveAt", "(I)I"⟩, 14) := ⟨⟨by decide +kernel, by decide +kernel⟩, List.mem_of_getElem? (i := 732) (by decide +kernel), List.mem_of_getElem? (i := 935) (by decide +kernel), List.mem_of_getElem? (i := 936) (by decide +kernel)⟩
theorem lw_p35 : lw_okq (⟨"HourglassTagModel", "codeAt", "(I)I"⟩, 14) := ⟨⟨by decide +kernel, by decide +kernel⟩, List.mem_of_getElem? (i := 732) (by decide +kernel), List.mem_of_getElem? (i := 939) (by decide +kernel), List.mem_of_getElem? (i := 940) (by decide +kernel)⟩
theorem lw_p36 : lw_okq (⟨"HourglassTagModel", "isGame", "()Z"⟩, 14) := ⟨⟨by decide +kernel, by decide +kernel⟩, List.mem_of_getElem? (i := 732) (by decide +kernel), List.mem_of_getElem? (i := 947) (by decide +kernel), List.mem_of_getElem? (i := 948) (by decide +kernel)⟩
theorem lw_p37 : lw_okq (⟨"HourglassTagModel", "does", "(I)Z"⟩, 14) := ⟨⟨by decide +kernel, by decide +kernel⟩, List.mem_of_getElem? (i := 732) (by decide +kernel), List.mem_of_getElem? (i := 951) (by decide +kernel), List.mem_of_getElem? (i := 952) (by decide +kernel)⟩
theorem lw_p38 : lw_okq (⟨"HourglassTagModel", "towerOf", "(II)I"⟩, 14) := ⟨⟨by decide +kernel, by decide +kernel⟩, List.mem_of_getElem? (i := 732) (by decide +kernel), List.mem_of_getElem? (i := 959) (by decide +kernel), List.mem_of_getElem? (i := 960) (by decide +kernel)⟩
theorem lw_p39 : lw_okq (⟨"HourglassTagModel", "standing", "(I)I"⟩, 14) := ⟨⟨by decide +kernel, by decide +kernel⟩, List.mem_of_getElem? (i := 732) (by decide +kernel), List.mem_of_getElem? (i := 963) (by decide +kernel), List.mem_of_getElem? (i := 964) (by decide +kernel)⟩
theorem lw_p40 : lw_okq (⟨"HourglassTagModel", "seen", "(I)I"⟩, 14) := ⟨⟨by decide +kernel, by decide +kernel⟩, List.mem_of_getElem? (i := 732) (by decide +kernel), List.mem_of_getElem? (i := 967) (by decide +kernel), List.mem_of_getElem? (i := 968) (by decide +kernel)⟩
theorem lw_p41 : lw_okq (⟨"HourglassTagModel", "propertyOf", "(II)I"⟩, 14) := ⟨⟨by decide +kernel, by decide +kernel⟩, List.mem_of_getElem? (i := 732) (by decide +kernel), List.mem_of_getElem? (i := 975) (by decide +kernel), List.mem_of_getElem? (i := 976) (by decide +kernel)⟩
theorem lw_p42 : lw_okq (⟨"HourglassTagModel", "strideable", "(I)I"⟩, 14) := ⟨⟨by decide +kernel, by decide +kernel⟩, List.mem_of_getElem? (i := 732) (by decide +kernel), List.mem_of_getElem? (i := 979) (by decide +kernel), List.mem_of_getElem? (i := 980) (by decide +kernel)⟩
theorem lw_p43 : lw_okq (⟨"HourglassTagModel", "reasonOf", "(II)I"⟩, 14) := ⟨⟨by decide +kernel, by decide +kernel⟩, List.mem_of_getElem? (i := 732) (by decide +kernel), List.mem_of_getElem? (i := 983) (by decide +kernel), List.mem_of_getElem? (i := 984) (by decide +kernel)⟩
theorem lw_p44 : lw_okq (⟨"HourglassTagModel", "numberOf", "(I)I"⟩, 14) := ⟨⟨by decide +kernel, by decide +kernel⟩, List.mem_of_getElem? (i := 732) (by decide +kernel), List.mem_of_getElem? (i := 991) (by decide +kernel), List.mem_of_getElem? (i := 992) (by decide +kernel)⟩
theorem lw_p45 : lw_okq (⟨"HourglassTagModel", "inGlasses", "()I"⟩, 14) := ⟨⟨by decide +kernel, by decide +kernel⟩, List.mem_of_getElem? (i := 732) (by decide +kernel), List.mem_of_getElem? (i := 995) (by decide +kernel), List.mem_of_getElem? (i := 996) (by decide +kernel)⟩
theorem lw_p46 : lw_okq (⟨"HourglassTagModel", "onTowers", "()I"⟩, 14) := ⟨⟨by decide +kernel, by decide +kernel⟩, List.mem_of_getElem? (i := 732) (by decide +kernel), List.mem_of_getElem? (i := 999) (by decide +kernel), List.mem_of_getElem? (i := 1000) (by decide +kernel)⟩
theorem lw_p47 : lw_okq (⟨"HourglassTagModel", "cheapest", "(II)I"⟩, 14) := ⟨⟨by decide +kernel, by decide +kernel⟩, List.mem_of_getElem? (i := 732) (by decide +kernel), List.mem_of_getElem? (i := 1011) (by decide +kernel), List.mem_of_getElem? (i := 1012) (by decide +kernel)⟩
def lw_privs_3 : List (MethodName × Nat) := [(⟨"HourglassTagModel", "tagReason", "(II)I"⟩, 14), (⟨"HourglassTagModel", "error", "()I"⟩, 14), (⟨"HourglassTagModel", "moveAt", "(I)I"⟩, 14), (⟨"HourglassTagModel", "codeAt", "(I)I"⟩, 14), (⟨"HourglassTagModel", "isGame", "()Z"⟩, 14), (⟨"HourglassTagModel", "does", "(I)Z"⟩, 14), (⟨"HourglassTagModel", "towerOf", "(II)I"⟩, 14), (⟨"HourglassTagModel", "standing", "(I)I"⟩, 14), (⟨"HourglassTagModel", "seen", "(I)I"⟩, 14), (⟨"HourglassTagModel", "propertyOf", "(II)I"⟩, 14), (⟨"HourglassTagModel", "strideable", "(I)I"⟩, 14), (⟨"HourglassTagModel", "reasonOf", "(II)I"⟩, 14), (⟨"HourglassTagModel", "numberOf", "(I)I"⟩, 14), (⟨"HourglassTagModel", "inGlasses", "()I"⟩, 14), (⟨"HourglassTagModel", "onTowers", "()I"⟩, 14), (⟨"HourglassTagModel", "cheapest", "(II)I"⟩, 14)]
theorem lw_r3 : ∀ q ∈ lw_privs_3, lw_okq q := List.forall_mem_cons.mpr ⟨lw_p32, List.forall_mem_cons.mpr ⟨lw_p33, List.forall_mem_cons.mpr ⟨lw_p34, List.forall_mem_cons.mpr ⟨lw_p35, List.forall_mem_cons.mpr ⟨lw_p36, List.forall_mem_cons.mpr ⟨lw_p37, List.forall_mem_cons.mpr ⟨lw_p38, List.forall_mem_cons.mpr ⟨lw_p39, List.forall_mem_cons.mpr ⟨lw_p40, List.forall_mem_cons.mpr ⟨lw_p41, List.forall_mem_cons.mpr ⟨lw_p42, List.forall_mem_cons.mpr ⟨lw_p43, List.forall_mem_cons.mpr ⟨lw_p44, List.forall_mem_cons.mpr ⟨lw_p45, List.forall_mem_cons.mpr ⟨lw_p46, List.forall_mem_cons.mpr ⟨lw_p47, fun _ h => absurd h List.not_mem_nil⟩⟩⟩⟩⟩⟩⟩⟩⟩⟩⟩⟩⟩⟩⟩⟩
theorem lw_p48 : lw_okq (⟨"HourglassTagModel", "fewest", "(II)I"⟩, 14) := ⟨⟨by decide +kernel, by decide +kernel⟩, List.mem_of_getElem? (i := 732) (by decide +kernel), List.mem_of_getElem? (i := 1024) (by decide +kernel), List.mem_of_getElem? (i := 1025) (by decide +kernel)⟩
theorem lw_p49 : lw_okq (⟨"HourglassTagModel", "breaks", "(III)I"⟩, 14) := ⟨⟨by decide +kernel, by decide +kernel⟩, List.mem_of_getElem? (i := 732) (by decide +kernel), List.mem_of_getElem? (i := 1028) (by decide +kernel), List.mem_of_getElem? (i := 1029) (by decide +kernel)⟩
theorem lw_p50 : lw_okq (⟨"HourglassTagModel", "huntable", "()I"⟩, 14) := ⟨⟨by decide +kernel, by decide +kernel⟩, List.mem_of_getElem? (i := 732) (by decide +kernel), List.mem_of_getElem? (i := 1036) (by decide +kernel), List.mem_of_getElem? (i := 1037) (by decide +kernel)⟩
theorem lw_p51 : lw_okq (⟨"HourglassTagModel", "widest", "()I"⟩, 14) := ⟨⟨by decide +kernel, by decide +kernel⟩, List.mem_of_getElem? (i := 732) (by decide +kernel), List.mem_of_getElem? (i := 1044) (by decide +kernel), List.mem_of_getElem? (i := 1045) (by decide +kernel)⟩
theorem lw_p52 : lw_okq (⟨"HourglassTagModel", "share", "()D"⟩, 14) := ⟨⟨by decide +kernel, by decide +kernel⟩, List.mem_of_getElem? (i := 732) (by decide +kernel), List.mem_of_getElem? (i := 1055) (by decide +kernel), List.mem_of_getElem? (i := 1056) (by decide +kernel)⟩
def lw_privs_4 : List (MethodName × Nat) := [(⟨"HourglassTagModel", "fewest", "(II)I"⟩, 14), (⟨"HourglassTagModel", "breaks", "(III)I"⟩, 14), (⟨"HourglassTagModel", "huntable", "()I"⟩, 14), (⟨"HourglassTagModel", "widest", "()I"⟩, 14), (⟨"HourglassTagModel", "share", "()D"⟩, 14)]
theorem lw_r4 : ∀ q ∈ lw_privs_4, lw_okq q := List.forall_mem_cons.mpr ⟨lw_p48, List.forall_mem_cons.mpr ⟨lw_p49, List.forall_mem_cons.mpr ⟨lw_p50, List.forall_mem_cons.mpr ⟨lw_p51, List.forall_mem_cons.mpr ⟨lw_p52, fun _ h => absurd h List.not_mem_nil⟩⟩⟩⟩⟩
def lw_privs : List (MethodName × Nat) := lw_privs_1 ++ (lw_privs_2 ++ (lw_privs_3 ++ (lw_privs_4)))
def lw_tbl : List Cond := k2_sels lw_privs ++ tables_1
theorem lw_privs_ok : ∀ q ∈ lw_privs, lw_okq q := by
  show ∀ q ∈ lw_privs_1 ++ (lw_privs_2 ++ (lw_privs_3 ++ (lw_privs_4))), lw_okq q
  exact List.forall_mem_append.mpr ⟨lw_r1, List.forall_mem_append.mpr ⟨lw_r2, List.forall_mem_append.mpr ⟨lw_r3, lw_r4⟩⟩⟩
/-- the streams that the claim lets the run draw from -/
abbrev lw_cs : List Choice := [Jvm.Choice.named "NaN.bits"]
theorem lw_bits : nanBits ∈ lw_cs := by first | decide | exact List.mem_cons_self | simp [lw_cs, nanBits]
end
section
def va_AOA (ty : FieldType) (U : State) : Prop := (Cond.arrayOver (.array ty)).before #[] U = true
theorem va_AOA.use {ty : FieldType} {A : Array Value} {U : State} (h : va_AOA ty U) : (Cond.arrayOver (.array ty)).before A U = true := h
/-! ===== BEGIN words of one list among another's, by their places ===== -/
theorem goodIn_r {big : List Cond} (ws : List Cond) (ps : List Nat) (hp : ws = ps.filterMap (fun i => big[i]?)) (h : ws.all goodWord = true) : GoodIn big ws := by
  intro w hw
  have h1 := List.all_eq_true.mp h w hw
  rw [hp] at hw
  obtain ⟨i, -, hi⟩ := List.mem_filterMap.mp hw
  have hm : w ∈ big := by first | exact List.mem_of_getElem? hi | exact List.getElem?_mem hi
  exact ⟨hm, good_of_word h1⟩
theorem goodIn_app {big a b : List Cond} (ha : GoodIn big a) (hb : GoodIn big b) : GoodIn big (a ++ b) := fun w h => (List.mem_append.mp h).elim (ha w) (hb w)
theorem goodIn_ca {big a b : List Cond} {c : Cond} (ha : GoodIn big (c :: a)) (hb : GoodIn big b) : GoodIn big (c :: (a ++ b)) := fun w h => (List.mem_cons.mp h).elim (fun e => ha w (List.mem_cons.mpr (Or.inl e))) (fun h => (List.mem_append.mp h).elim (fun h => ha w (List.mem_cons.mpr (Or.inr h))) (hb w))
theorem goodIn_sub {big ws : List Cond} (hm : ∀ w ∈ ws, w ∈ big) (h : ws.all goodWord = true) : GoodIn big ws := fun w hw => ⟨hm w hw, good_of_word (List.all_eq_true.mp h w hw)⟩
/-! ===== END ===== -/

/-! ===== BEGIN new T[n][m]: the outer array a place, the inner ones among the pooled ===== -/
/-- f, but v at every address of l -/
def vr_up {α : Type} (f : Nat → α) (l : List Nat) (v : α) : Nat → α := fun a => if a ∈ l then v else f a
theorem vr_up_in {α : Type} {f : Nat → α} {l : List Nat} {v : α} {a : Nat} (h : a ∈ l) : vr_up f l v a = v := if_pos h
theorem vr_up_ne {α : Type} {f : Nat → α} {l : List Nat} {v : α} {a : Nat} (h : a ∉ l) : vr_up f l v a = f a := if_neg h
theorem vr_rows {L l : List Nat} {f : Nat → va_E} {e : va_E} (h : ∀ a, a ∈ l → a ∉ L) : va_pl L f ++ l.map (fun a => (a, e)) = va_pl (L ++ l) (vr_up f l e) := by
  unfold va_pl
  rw [List.map_append]
  congr 1
  · apply List.map_congr_left
    intro a ha
    rw [vr_up_ne (fun q => h a q ha)]
  · apply List.map_congr_left
    intro a ha
    rw [vr_up_in ha]
theorem vr_lay {X rows : va_W} {x : Nat × va_E} {pl : va_W} {D : va_G} {cl : List vw_C} {H : Heap} (hP : va_P D cl (((X ++ pl) ++ [x]) ++ rows) H) : va_P D cl ((X ++ [x]) ++ (pl ++ rows)) H := by
  rw [List.append_assoc (X ++ pl)] at hP
  have h := va_P.swap hP
  rw [← List.append_assoc X] at h
  have h2 := va_P.swap h
  rw [List.append_assoc (X ++ [x])] at h2
  exact h2
theorem vr_layD {X rows : va_W} {x : Nat × va_E} {pl : va_W} {A : Nat → Prop} (hD : va_D A (((X ++ pl) ++ [x]) ++ rows)) : va_D A ((X ++ [x]) ++ (pl ++ rows)) := by
  rw [List.append_assoc (X ++ pl)] at hD
  have h := va_D.swap hD
  rw [← List.append_assoc X] at h
  have h2 := va_D.swap h
  rw [List.append_assoc (X ++ [x])] at h2
  exact h2
theorem vr_outer (c : ClassId) (N h0 : Nat) : ∀ i : Nat, Jvm.Free.Multi.outerC c N h0 i = arrV c N (fun j => va_rf (if j < i then some (h0 + 1 + j) else none))
  | 0 => by
    show ({ cls := c, slots := Array.replicate N .null, vm := .none } : Cell) = _
    rw [arrV_new]
    refine congrArg (arrV c N) (funext fun j => ?_)
    simp [va_rf]
  | i + 1 => by
    show (Jvm.Free.Multi.outerC c N h0 i).setSlot i (.ref (h0 + 1 + i)) = _
    rw [vr_outer c N h0 i, arrV_store]
    refine congrArg (arrV c N) (funext fun j => ?_)
    by_cases e : j = i
    · subst e
      simp [updV, va_rf]
    · by_cases h : j < i
      · simp [updV, e, h, Nat.lt_succ_of_lt h]
      · simp [updV, e, h, show ¬ j < i + 1 by omega]
section VGM
variable {p : Program} {l : Launch} {e : Env} {R : Room} {s : State} {m : MethodId} {args : Array Value} {below : List Frame} {meth : Method} {c : Code} {H : Heap} {locs : List Loc} {cells slots : Nat} {Q : State → Prop}
variable {cc : ByteArray} {pc : Nat} {ls : Array Slot} {rest : List Value} {D : va_G} {cl : List vw_C} {A : Nat → Prop} {a : Nat} {tys : List (ClassId × FieldType)} {ws : va_W} {H0 : Heap}
theorem va_mna {X : va_W} {L : List Nat} {f : Nat → va_E} {cc : ByteArray} (hexec : p.tables.exec = Jvm.exec) (hb : c.code = cc) {own : String} {index : Nat} {ty : FieldType} {cy : ClassId} (hown : s.vm.findClass own = some m.cls) (hclink : (Cond.classLink own index ("[" ++ (FieldType.array ty).toString)).before args s = true) (hover : va_AOA ty s) (harr : (Cond.arrayClass ty).before args s = true) (hcy : s.vm.findClass (FieldType.array ty).toString = some cy)
    (hK : va_K D cl tys s) (hP : va_P D cl (X ++ va_pl L f) H) (hD : va_D A (X ++ va_pl L f)) (hS : va_S A H0 H locs) (hA : ∀ q, H0.size ≤ q → A q) {n k : Int32} {N' K' : Nat} {z : vp_A} (hn : ¬ n < 0) (hk : ¬ k < 0) (hN : n.toNatClampNeg = N') (hM : k.toNatClampNeg = K')
    (hb1 : N' * 4 ≤ 536870912) (hb2 : K' * componentBytes ty ≤ 536870912) (hb3 : K' ≤ 536870912) (hdf : fits ty (defaultValue ty) = true) (hdd : (defaultValue ty).isDefault = true) (hcells : cells + (1 + N') ≤ R.cells) (hslots : slots + (N' + N' * K') ≤ R.slots) (hz : ∀ c : ClassId, Jvm.Free.Multi.innerC c K' (defaultValue ty) = vp_cell c z) (hdg : decode cc pc = .ok (.multianewarray index 2, 4))
    (kk : ∀ (q : Nat) (r : Nat → Nat) (cA : ClassId) (H1 : Heap), (∀ i j : Nat, i < N' → j < N' → r i = r j → i = j) → (∀ i : Nat, i < N' → r i ∉ L) → va_K D cl (tys ++ [(cA, .array ty)]) s →
      va_P D cl ((X ++ [(q, .inl (cA, N', .inr (.inr (.inr (.inr (fun i => if i < N' then some (r i) else none))))))]) ++ va_pl (L ++ (List.range N').map r) (vr_up f ((List.range N').map r) (.inl (cy, z)))) H1 → va_D A ((X ++ [(q, .inl (cA, N', .inr (.inr (.inr (.inr (fun i => if i < N' then some (r i) else none))))))]) ++ va_pl (L ++ (List.range N').map r) (vr_up f ((List.range N').map r) (.inl (cy, z)))) → va_S A H0 H1 locs →
      W p l e R s m args below meth c H1 locs (cells + 1 + N') (slots + N' + N' * K') Q (F0 m (pc + 4) ls (.ref q :: rest))) : W p l e R s m args below meth c H locs cells slots Q (F0 m pc ls (.int k :: .int n :: rest)) := by
  subst hN
  subst hM
  intro T hT Xs
  obtain ⟨vm₁, cA, comp, -, fA, fC, hO, -, X', step⟩ := Xs.multianewarray2F hexec hown hclink (va_AOA.use hover) harr (g := F0 m pc ls (.int k :: .int n :: rest)) rfl (by rw [hb]; exact hdg) rfl hn hk hb1 hb2 hb3 hdf hdd hcells hslots
  have ec : some cy = some comp := hcy.symm.trans fC
  cases ec
  generalize hF : Jvm.Free.Multi.fill (T.setVm vm₁) cA cy n.toNatClampNeg k.toNatClampNeg (defaultValue ty) n.toNatClampNeg = F at X' step
  have hTh : (T.setVm vm₁).heap = H := hT
  obtain ⟨f1, f2, -, -⟩ := Jvm.Free.Multi.fill_facts (T.setVm vm₁) cA cy n.toNatClampNeg k.toNatClampNeg (defaultValue ty) n.toNatClampNeg
  rw [hF, hTh] at f1 f2
  have hold : ∀ x : Nat, x < H.size → F.heap[x]? = H[x]? := fun x hx => by
    have := Jvm.Free.Multi.fill_old (T.setVm vm₁) cA cy n.toNatClampNeg k.toNatClampNeg (defaultValue ty) (a := x) (by rw [hTh]; exact hx) n.toNatClampNeg
    rw [hF, hTh] at this
    exact this
  have hrow : ∀ j : Nat, j < n.toNatClampNeg → F.heap[H.size + 1 + j]? = some (vp_cell cy z) := fun j hj => by
    have := Jvm.Free.Multi.fill_inner (T.setVm vm₁) cA cy n.toNatClampNeg k.toNatClampNeg (defaultValue ty) n.toNatClampNeg j hj
    rw [hF, hTh, hz] at this
    exact this
  have hout : Jvm.Free.Multi.outerC cA n.toNatClampNeg H.size n.toNatClampNeg = vp_cell cA (n.toNatClampNeg, .inr (.inr (.inr (.inr (fun i => if i < n.toNatClampNeg then some (H.size + 1 + i) else none))))) := by
    rw [vp_cell_q]
    exact vr_outer cA n.toNatClampNeg H.size n.toNatClampNeg
  rw [hout] at f2
  have hlt : ∀ a, a ∈ L → a < H.size := fun a ha => by
    obtain ⟨k9, hk9⟩ := va_pl_get (X := X) (f := f) ha
    exact (hP k9 _ hk9).lt
  have hnl : ∀ i : Nat, i < n.toNatClampNeg → H.size + 1 + i ∉ L := fun i _ h => by
    have := hlt _ h
    omega
  have hnm : ∀ a, a ∈ (List.range n.toNatClampNeg).map (fun i => H.size + 1 + i) → a ∉ L := fun a ha h => by
    obtain ⟨i, -, rfl⟩ := List.mem_map.mp ha
    have := hlt _ h
    omega
  have hP0 : va_P D cl (X ++ va_pl L f) F.heap := hP.kept (fun k9 x hx => hold x.1 ((hP k9 x hx).lt))
  have hP1 : va_P D cl ((X ++ va_pl L f) ++ [(H.size, .inl (cA, n.toNatClampNeg, .inr (.inr (.inr (.inr (fun i => if i < n.toNatClampNeg then some (H.size + 1 + i) else none))))))]) F.heap := hP0.app (fun k9 x hx => by
    have h0 : k9 < 1 := (List.getElem?_eq_some_iff.mp hx).1
    rw [show k9 = 0 by omega] at hx
    cases hx
    exact f2)
  have hP2 : va_P D cl (((X ++ va_pl L f) ++ [(H.size, .inl (cA, n.toNatClampNeg, .inr (.inr (.inr (.inr (fun i => if i < n.toNatClampNeg then some (H.size + 1 + i) else none))))))]) ++ ((List.range n.toNatClampNeg).map (fun i => H.size + 1 + i)).map (fun a => (a, .inl (cy, z)))) F.heap := hP1.app (fun k9 x hx => by
    obtain ⟨a, ha, rfl⟩ := List.mem_map.mp (List.mem_of_getElem? hx)
    obtain ⟨i, hi, rfl⟩ := List.mem_map.mp ha
    exact hrow i (List.mem_range.mp hi))
  have hD2 : va_D A (((X ++ va_pl L f) ++ [(H.size, .inl (cA, n.toNatClampNeg, .inr (.inr (.inr (.inr (fun i => if i < n.toNatClampNeg then some (H.size + 1 + i) else none))))))]) ++ ((List.range n.toNatClampNeg).map (fun i => H.size + 1 + i)).map (fun a => (a, .inl (cy, z)))) := by
    have hD1 := hD.push (e := .inl (cA, n.toNatClampNeg, .inr (.inr (.inr (.inr (fun i => if i < n.toNatClampNeg then some (H.size + 1 + i) else none)))))) hP rfl (hA _ hS.1)
    generalize hW1 : (X ++ va_pl L f) ++ [(H.size, .inl (cA, n.toNatClampNeg, .inr (.inr (.inr (.inr (fun i => if i < n.toNatClampNeg then some (H.size + 1 + i) else none))))))] = W1 at hD1 hP1 ⊢
    have hle : ∀ (k9 : Nat) (x : Nat × va_E), W1[k9]? = some x → x.1 ≤ H.size := fun k9 x hx => by
      rw [← hW1] at hx
      by_cases hl : k9 < (X ++ va_pl L f).length
      · rw [List.getElem?_append_left hl] at hx
        exact Nat.le_of_lt ((hP k9 x hx).lt)
      · rw [List.getElem?_append_right (by omega)] at hx
        have h0 : k9 - (X ++ va_pl L f).length < 1 := (List.getElem?_eq_some_iff.mp hx).1
        rw [show k9 - (X ++ va_pl L f).length = 0 by omega] at hx
        cases hx
        exact Nat.le_refl _
    have hr : ∀ (k9 : Nat) (x : Nat × va_E), (((List.range n.toNatClampNeg).map (fun i => H.size + 1 + i)).map (fun a => ((a, .inl (cy, z)) : Nat × va_E)))[k9]? = some x → x.1 = H.size + 1 + k9 := fun k9 x hx => by
      rw [List.getElem?_map, List.getElem?_map] at hx
      by_cases h9 : k9 < n.toNatClampNeg
      · rw [List.getElem?_range h9] at hx
        cases hx
        rfl
      · have hn0 : (List.range n.toNatClampNeg)[k9]? = none := List.getElem?_eq_none (by rw [List.length_range]; omega)
        rw [hn0] at hx
        cases hx
    refine ⟨fun i j x y hi hj hxy => ?_, fun k9 x hx => ?_⟩
    · by_cases h1 : i < W1.length <;> by_cases h2 : j < W1.length
      · rw [List.getElem?_append_left h1] at hi
        rw [List.getElem?_append_left h2] at hj
        exact hD1.1 i j x y hi hj hxy
      · rw [List.getElem?_append_left h1] at hi
        rw [List.getElem?_append_right (by omega)] at hj
        have := hle _ _ hi
        have := hr _ _ hj
        omega
      · rw [List.getElem?_append_right (by omega)] at hi
        rw [List.getElem?_append_left h2] at hj
        have := hle _ _ hj
        have := hr _ _ hi
        omega
      · rw [List.getElem?_append_right (by omega)] at hi hj
        have := hr _ _ hi
        have := hr _ _ hj
        omega
    · by_cases h1 : k9 < W1.length
      · rw [List.getElem?_append_left h1] at hx
        exact hD1.2 k9 x hx
      · rw [List.getElem?_append_right (by omega)] at hx
        have := hr _ _ hx
        exact hA _ (by have := hS.1; omega)
  have hAr : ArrOfT s cA (.array ty) := fun N9 z9 => by
    obtain ⟨-, k9, hk9, cm9, hkk9⟩ := (hO 0 0 0).1
    exact ⟨(fun q hq => by cases hq), k9, hk9, cm9, hkk9⟩
  have hK2 : va_K D cl (tys ++ [(cA, .array ty)]) s := ⟨hK.1, fun k9 x hx => by
    by_cases hl : k9 < tys.length
    · rw [List.getElem?_append_left hl] at hx
      exact hK.2 k9 x hx
    · rw [List.getElem?_append_right (by omega)] at hx
      have h0 : k9 - tys.length < 1 := (List.getElem?_eq_some_iff.mp hx).1
      rw [show k9 - tys.length = 0 by omega] at hx
      cases hx
      exact ⟨hAr, fA⟩⟩
  obtain ⟨t, a1, b1⟩ := kk H.size (fun i => H.size + 1 + i) cA F.heap (fun i j _ _ h => by have h9 : H.size + 1 + i = H.size + 1 + j := h; omega) hnl hK2 (by rw [← vr_rows hnm]; exact vr_lay hP2) (by rw [← vr_rows hnm]; exact vr_layD hD2) ⟨by rw [f1]; have := hS.1; omega, fun x h1 h2 => (hold x (Nat.lt_of_lt_of_le h1 hS.1)).trans (hS.2.1 x h1 h2), hS.2.2⟩ F rfl X'
  refine ⟨t, step t ?_, b1⟩
  have e : T.heap.size = H.size := by rw [hT]
  rw [e]
  exact a1
end VGM
/-! ===== END ===== -/

/-! ===== BEGIN exceptions that leave a method, and their catching by the caller (launches without stack traces) ===== -/
section VXA
/-! The laws vx_back, vx_callV, vx_callS, vx_callSW, vx_throw0, vx_throwS follow proofs of the library, with one case more: JvmDerived/Free/Laws.lean (Back.of_free), Shelf42/LK1.lean (callV, callS), Shelf/KitTraced.lean (throwNew0V, throwNewS). -/
/-- where a method has thrown q: the class by its name, the cell, what was written, the world -/
def vx_T (XC : String → State → State → Prop) (st : State) (q : Addr) (t : State) (mc ms : Nat) (free : Addr → Prop) : Prop :=
  ∃ (E : String) (ce : Cell) (L : List Loc), XC E st t ∧ t.heap[q]? = some ce ∧ ce.vm = .none ∧ st.vm.findClass E = some ce.cls ∧ st.WarmedH t.vm ∧ st.sameButNew ({ t with vm := st.vm } : State) L mc ms ∧ ∀ z ∈ L, free z.base
def vx_Q (Qc : Array Value → State → Outcome → State → Prop) (XC : String → State → State → Prop) (mc ms : Nat) (free : Addr → Prop) : Array Value → State → Outcome → State → Prop := fun a st o t =>
  (Qc a st o t ∧ ∃ L, FrameEnd st o t L mc ms ∧ ∀ q ∈ L, free q.base) ∨ ∃ q, o = .threw q ∧ vx_T XC st q t mc ms free
/-- a callee that returns or throws -/
def vx_Met (l : Launch) (y : MethodName) (ws : List Cond) (rm : Room) (Pc : Array Value → State → Prop) (Qc : Array Value → State → Outcome → State → Prop) (XC : String → State → State → Prop) (mc ms : Nat) (free : Addr → Prop) : Prop :=
  MetFree l y (headSpec ws rm) Pc (fun _ _ _ _ _ => True) (vx_Q Qc XC mc ms free)
def vx_Post (XC : String → State → State → Prop) (mc ms : Nat) (free : Addr → Prop) : Pt → Array Value → Addr → Pt → Prop := fun A a q B =>
  ∃ (g : JFrame) (mk : MethodId) (t : State) (L : List Loc) (E : String) (ce : Cell), B.U.heap = t.heap ∧ B.U.vm = t.vm ∧ XC E (A.U.calling g mk a) t ∧ t.heap[q]? = some ce ∧ ce.vm = .none ∧ A.U.vm.findClass E = some ce.cls ∧ B.locs = A.locs ++ L ∧ (∀ z ∈ L, free z.base) ∧ B.cells = A.cells + mc ∧ B.slots = A.slots + ms
def vx_Back (l : Launch) (R : Room) (p : Program) (e : Env) (below : List Frame) (s : State) (sargs : Array Value) (y : MethodName) (len W9 : Nat)
    (Pre : Pt → Array Value → Prop) (Post : Pt → Array Value → Option Value → Pt → Prop) (PostX : Pt → Array Value → Addr → Pt → Prop) : Prop :=
  ∀ (m : MethodId) (meth : Method) (c : Code) (A : Pt) (g : JFrame) (ig : Instr) (mk : MethodId) (a : Array Value),
    Stand p l e R s m sargs below meth c A.U A.locs A.cells A.slots → g.method = m → g.locals.size = c.maxLocals → decode c.code g.pc = .ok (ig, len) →
    2 * g.monitorRoom + (g.stack.map fun v => v.category).sum ≤ W9 → A.U.methodNamed? y = some mk → Pre A a →
    (∃ (v : Option Value) (B : Pt), Stand p l e R s m sargs below meth c B.U B.locs B.cells B.slots ∧ Post A a v B ∧
      Steps p.tables e below (doInvoke e (A.U.setTop g) [] mk a).1 (B.U.setTop { g with pc := g.pc + len, stack := v.toList ++ g.stack })) ∨
    (∃ (q : Addr) (B : Pt), Stand p l e R s m sargs below meth c B.U B.locs B.cells B.slots ∧ PostX A a q B ∧
      Steps p.tables e below (doInvoke e (A.U.setTop g) [] mk a).1 ((B.U.setTop g).pushFrame (.throwing q)))
section Payer
variable {l : Launch} {R : Room} {p : Program} {e : Env} {below : List Frame} {s : State} {sargs : Array Value} {y : MethodName} {len W9 : Nat}
theorem vx_back {ws : List Cond} {rm : Room} {Pc : Array Value → State → Prop} {Qc : Array Value → State → Outcome → State → Prop} {XC : String → State → State → Prop} {mc ms : Nat} {free : Addr → Prop} {bytes : ByteArray} {maxL : Nat} {ret : Option FieldType}
    (hM : vx_Met l y ws rm Pc Qc XC mc ms free) (hblind : FrameBlind Pc) (hrc : rm.cells = mc) (hrs : rm.slots = ms)
    (hframes : rm.frames + 1 ≤ R.frames) (hlocals : W9 + (maxL + 11) + rm.locals ≤ R.locals)
    (hws : ∀ w ∈ ws, ∀ a' U, s.WarmedH U.vm → w.before a' U = true) (hcode : Cond.code y bytes maxL ret ∈ ws) (hinit : ∀ a' U, s.WarmedH U.vm → (Cond.initialized y.cls).before a' U = true) :
    vx_Back l R p e below s sargs y len W9 (PreOf R mc ms Pc) (PostOf Qc mc ms free) (vx_Post XC mc ms free) := by
  intro m meth c A g ig mk a X hg hsize hdg hW hn hp
  have h1 : (headSpec ws rm).pre.before a A.U = true := atoms_intro fun w hw => hws w hw _ _ X.warmed
  have h2 : (Cond.code y bytes maxL ret).before a A.U = true := hws _ hcode _ _ X.warmed
  have h3 : (Cond.initialized y.cls).before a A.U = true := hinit _ _ X.warmed
  have h4 : A.cells + (headSpec ws rm).room.cells ≤ R.cells := by rw [show (headSpec ws rm).room.cells = mc from hrc]; exact hp.1
  have h5 : A.slots + (headSpec ws rm).room.slots ≤ R.slots := by rw [show (headSpec ws rm).room.slots = ms from hrs]; exact hp.2.1
  have hPc : Pc a (A.U.calling g mk a) := hblind _ _ _ _ hp.2.2
  obtain ⟨U, Ls, c0, s0⟩ := A
  dsimp only [Pt.U, Pt.locs, Pt.cells, Pt.slots] at h1 h2 h3 h4 h5 X hn hPc ⊢
  obtain ⟨methY, cY, hmY, hcY, -, hlY, -, -, -, -⟩ := Cond.code_spec hn h2
  obtain ⟨kY, hkY, -⟩ := className_of_methodNamed hn
  have hinitY : kY.init = .initialized := Cond.initialized_spec (findClass_of_methodNamed hn) hkY h3
  have h : At U g.method c below := by rw [hg]; exact X.here
  have hlocals9 : W9 + (maxL + 11) + (headSpec ws rm).room.locals ≤ R.locals := hlocals
  have happ : (headSpec ws rm).appliesLoose y e.platform (U.calling g mk a) = true :=
    Spec.appliesLoose_calling (g := g) h hdg hn hkY hinitY
      (X.room_calling (g := g) (R' := (headSpec ws rm).room) hsize hmY hcY hframes (by rw [hlY]; omega) h4 h5) h1
  obtain ⟨mid, hmid⟩ := h.above
  have hfr : (U.setTop g).frames = (.java g :: mid) ++ below := by rw [State.frames_setTop' g h.top, hmid]; rfl
  obtain ⟨o, s₂, hsteps, -, hend, hq⟩ := Steps.callFree hM p X.admits X.cas X.clock (acts := []) hfr happ hPc trivial
  have hq' : vx_Q Qc XC mc ms free a (U.calling g mk a) o s₂ := hq
  rw [State.frames_setTop' g h.top] at hend
  obtain ⟨g₀, hg0⟩ := Option.isSome_iff_exists.mp h.top
  obtain ⟨r, hr⟩ := State.topJava?_eq_some.mp hg0
  have hr' : (({ U with heap := s₂.heap, slotsUsed := s₂.slotsUsed } : State).setVm s₂.vm).frames = .java g₀ :: r := hr
  rcases hq' with ⟨hqc, L, hfe, hL⟩ | ⟨q, rfl, E, ce, L, hx, hce, hcv, hcl, hW₂, hsm, hL⟩
  · obtain ⟨⟨v, rfl⟩, hW₂, e2, q2, q3, q4, q5, q6⟩ := id hfe
    have e3 : s₂ = ({ (U.calling g mk a).setFrames s₂.frames with heap := s₂.heap, slotsUsed := s₂.slotsUsed } : State).setVm s₂.vm := by
      have : s₂ = ({ s₂ with vm := (U.calling g mk a).vm } : State).setVm s₂.vm := rfl
      rw [e2] at this
      exact this
    obtain ⟨c₂, i₂, len₂, hc₂, hd₂, hf₂⟩ := hend
    have hW' : U.WarmedH s₂.vm := hW₂
    have hcc : c₂ = c := by
      have h1 : s₂.code? g.method = U.code? g.method := by
        rw [State.code?_eq, State.code?_eq, hW'.alike.method?]
      exact Option.some.inj (hc₂.symm.trans (h1.trans h.code))
    subst hcc
    have hlen : len₂ = len := by rw [hdg] at hd₂; cases hd₂; rfl
    subst hlen
    have hs₂ : s₂ = (({ U with heap := s₂.heap, slotsUsed := s₂.slotsUsed } : State).setVm s₂.vm).setTop { g with pc := g.pc + len₂, stack := v.toList ++ g.stack } := by
      refine e3.trans ?_
      rw [hf₂, State.calling_eq h.top, State.setFrames_setFrames, State.setTop_of_frames _ hr', hr]
      rfl
    have hsame : U.sameButNew ({ U with heap := s₂.heap, slotsUsed := s₂.slotsUsed } : State) L mc ms := by
      refine ⟨?_, q2, q3, q4, q5, q6⟩
      obtain ⟨t, ht, -⟩ := State.frames_cons hr
      show ({ U with heap := s₂.heap, slotsUsed := s₂.slotsUsed } : State) = { U.setFrames U.frames with heap := s₂.heap, slotsUsed := s₂.slotsUsed }
      rw [State.setFrames_self ht]
    subst hg
    refine Or.inl ⟨v, ⟨(({ U with heap := s₂.heap, slotsUsed := s₂.slotsUsed } : State).setVm s₂.vm), Ls ++ L, c0 + mc, s0 + ms⟩,
      ⟨X.admits, X.cas, X.clock, X.frames, X.room, X.hears, X.method, X.code, (X.here.setHeapUsed s₂.heap s₂.slotsUsed).setVm hW'.alike, X.tail, State.WarmedH.trans X.warmed hW', X.limits, X.bytes, X.same.trans (hsame.setVm s.vm)⟩,
      ⟨g, mk, s₂, L, rfl, rfl, hqc, rfl, hL, rfl, rfl⟩, ?_⟩
    show Steps p.tables e below _ ((({ U with heap := s₂.heap, slotsUsed := s₂.slotsUsed } : State).setVm s₂.vm).setTop { g with pc := g.pc + len₂, stack := v.toList ++ g.stack })
    rw [← hs₂]
    exact hsteps
  · obtain ⟨e2, q2, q3, q4, q5, q6⟩ := id hsm
    have e3 : s₂ = ({ (U.calling g mk a).setFrames s₂.frames with heap := s₂.heap, slotsUsed := s₂.slotsUsed } : State).setVm s₂.vm := by
      have : s₂ = ({ s₂ with vm := (U.calling g mk a).vm } : State).setVm s₂.vm := rfl
      rw [e2] at this
      exact this
    have hf₂ : s₂.frames = .throwing q :: .java g :: U.frames.tail := hend
    have hW' : U.WarmedH s₂.vm := hW₂
    have hs₂ : s₂ = ((({ U with heap := s₂.heap, slotsUsed := s₂.slotsUsed } : State).setVm s₂.vm).setTop g).pushFrame (.throwing q) := by
      refine e3.trans ?_
      rw [hf₂, State.calling_eq h.top, State.setFrames_setFrames, State.pushFrame, State.frames_setTop _ hr', State.setTop_of_frames _ hr', State.setFrames_setFrames, hr]
      rfl
    have hsame : U.sameButNew ({ U with heap := s₂.heap, slotsUsed := s₂.slotsUsed } : State) L mc ms := by
      refine ⟨?_, q2, q3, q4, q5, q6⟩
      obtain ⟨t, ht, -⟩ := State.frames_cons hr
      show ({ U with heap := s₂.heap, slotsUsed := s₂.slotsUsed } : State) = { U.setFrames U.frames with heap := s₂.heap, slotsUsed := s₂.slotsUsed }
      rw [State.setFrames_self ht]
    subst hg
    refine Or.inr ⟨q, ⟨(({ U with heap := s₂.heap, slotsUsed := s₂.slotsUsed } : State).setVm s₂.vm), Ls ++ L, c0 + mc, s0 + ms⟩,
      ⟨X.admits, X.cas, X.clock, X.frames, X.room, X.hears, X.method, X.code, (X.here.setHeapUsed s₂.heap s₂.slotsUsed).setVm hW'.alike, X.tail, State.WarmedH.trans X.warmed hW', X.limits, X.bytes, X.same.trans (hsame.setVm s.vm)⟩,
      ⟨g, mk, s₂, L, E, ce, rfl, rfl, hx, hce, hcv, hcl, rfl, hL, rfl, rfl⟩, ?_⟩
    show Steps p.tables e below _ (((({ U with heap := s₂.heap, slotsUsed := s₂.slotsUsed } : State).setVm s₂.vm).setTop g).pushFrame (.throwing q))
    rw [← hs₂]
    exact hsteps
end Payer
section Calls
variable {p : Program} {l : Launch} {e : Env} {R : Room} {s : State} {m : MethodId} {args : Array Value} {below : List Frame} {meth : Method} {c : Code} {T : State} {locs : List Loc} {cells slots : Nat}
theorem vx_callV (X : Stand p l e R s m args below meth c T locs cells slots) (hexec : p.tables.exec = Jvm.exec) {own C : String} {index : Nat} {y : MethodName} {bytes : ByteArray} {maxL : Nat} {ret : Option FieldType}
    (hown : s.vm.findClass own = some m.cls) (hlink : (Cond.methodLink own index y).before args s = true) (hinst : (Cond.instanceMethod y).before args s = true) (hsel : (Cond.selects C y y).before args s = true)
    (hcode : (Cond.code y bytes maxL ret).before args s = true) (hy : y.cls ≠ "java/lang/invoke/MethodHandle" ∧ y.cls ≠ "java/lang/invoke/VarHandle")
    {W9 : Nat} {Pre : Pt → Array Value → Prop} {Post : Pt → Array Value → Option Value → Pt → Prop} {PostX : Pt → Array Value → Addr → Pt → Prop} (hK : vx_Back l R p e below s args y 3 W9 Pre Post PostX)
    {b : Addr} {cellB : Cell} (hcell : T.heap[b]? = some cellB) (hobj : cellB.vm.isStatics = false) (hcls : s.vm.findClass C = some cellB.cls)
    {g : JFrame} (hg : g.method = m) (hsize : g.locals.size = c.maxLocals) {argsL rest : List Value} (hlen : ∀ sig, parseMethodDescriptor y.desc = some sig → argsL.length = sig.parameters.length)
    (hstack : g.stack = argsL.reverse ++ .ref b :: rest) (hW : 2 * g.monitorRoom + (rest.map fun v => v.category).sum ≤ W9) (hdg : decode c.code g.pc = .ok (.invokevirtual index, 3))
    (hpre : ∀ vm₁, s.WarmedH vm₁ → Pre ⟨T.setVm vm₁, locs, cells, slots⟩ (Value.ref b :: argsL).toArray) :
    (∃ (v : Option Value) (vm₁ : Vm) (B : Pt), s.WarmedH vm₁ ∧ Stand p l e R s m args below meth c B.U B.locs B.cells B.slots ∧ Post ⟨T.setVm vm₁, locs, cells, slots⟩ (Value.ref b :: argsL).toArray v B ∧
      ∀ target, Steps p.tables e below (B.U.setTop { g with pc := g.pc + 3, stack := v.toList ++ rest }) target → Steps p.tables e below (T.setTop g) target) ∨
    (∃ (q : Addr) (vm₁ : Vm) (B : Pt), s.WarmedH vm₁ ∧ Stand p l e R s m args below meth c B.U B.locs B.cells B.slots ∧ PostX ⟨T.setVm vm₁, locs, cells, slots⟩ (Value.ref b :: argsL).toArray q B ∧
      Steps p.tables e below (T.setTop g) ((B.U.setTop { g with stack := rest }).pushFrame (.throwing q))) := by
  obtain ⟨mk, methM, hnamed, hmethM, hstM, habM⟩ := Cond.instanceMethod_spec hinst
  obtain ⟨methM', cM, hmethM', -, -, -, -, -, -, hsigM⟩ := Cond.code_spec hnamed hcode
  cases hmethM.symm.trans hmethM'
  obtain ⟨c2, r2, m2, q1, q2, q3, q4, kP, hkP, hkPi⟩ := Cond.selects_spec hsel
  cases hcls.symm.trans q1
  cases (State.methodFound?_of_named hnamed hy).symm.trans q2
  cases hnamed.symm.trans q3
  have hselP : selectMethod e.platform s.vm cellB.cls mk = .method mk := by rw [Launch.admits_selectMethod X.admits]; exact q4
  obtain ⟨vm₁, X₁, hstep₁⟩ := X.invokevirtual hexec hown hlink hnamed hmethM hstM hkP hkPi hy (a := b) (cell := cellB) hcell
    (fun z h => by rw [h] at hobj; cases hobj) hselP hmethM habM hkP hkPi (g := g) hg (argsL := argsL) (rest := rest) (hlen _ hsigM) hstack hdg
  rcases hK m meth c ⟨T.setVm vm₁, locs, cells, slots⟩ { g with stack := rest } (.invokevirtual index) mk (Value.ref b :: argsL).toArray X₁ hg hsize hdg hW (X₁.named hnamed) (hpre vm₁ X₁.warmed) with ⟨v, B, X', hpost, hsteps⟩ | ⟨q, B, X', hpost, hsteps⟩
  · exact Or.inl ⟨v, vm₁, B, X₁.warmed, X', hpost, fun target h => hstep₁ _ fun acts => by rw [doInvoke_state]; exact hsteps.trans h⟩
  · exact Or.inr ⟨q, vm₁, B, X₁.warmed, X', hpost, hstep₁ _ fun acts => by rw [doInvoke_state]; exact hsteps⟩
theorem vx_callS (X : Stand p l e R s m args below meth c T locs cells slots) (hexec : p.tables.exec = Jvm.exec) {own : String} {index : Nat} {y : MethodName} {bytes : ByteArray} {maxL : Nat} {ret : Option FieldType}
    (hown : s.vm.findClass own = some m.cls) (hlink : (Cond.methodLink own index y).before args s = true) (hstat : (Cond.static y).before args s = true) (hinit : (Cond.initialized y.cls).before args s = true)
    (hcode : (Cond.code y bytes maxL ret).before args s = true) (hy : y.cls ≠ "java/lang/invoke/MethodHandle" ∧ y.cls ≠ "java/lang/invoke/VarHandle")
    {W9 : Nat} {Pre : Pt → Array Value → Prop} {Post : Pt → Array Value → Option Value → Pt → Prop} {PostX : Pt → Array Value → Addr → Pt → Prop} (hK : vx_Back l R p e below s args y 3 W9 Pre Post PostX)
    {g : JFrame} (hg : g.method = m) (hsize : g.locals.size = c.maxLocals) {argsL rest : List Value} (hlen : ∀ sig, parseMethodDescriptor y.desc = some sig → argsL.length = sig.parameters.length)
    (hstack : g.stack = argsL.reverse ++ rest) (hW : 2 * g.monitorRoom + (rest.map fun v => v.category).sum ≤ W9) (hdg : decode c.code g.pc = .ok (.invokestatic index, 3))
    (hpre : ∀ vm₁, s.WarmedH vm₁ → Pre ⟨T.setVm vm₁, locs, cells, slots⟩ argsL.toArray) :
    (∃ (v : Option Value) (vm₁ : Vm) (B : Pt), s.WarmedH vm₁ ∧ Stand p l e R s m args below meth c B.U B.locs B.cells B.slots ∧ Post ⟨T.setVm vm₁, locs, cells, slots⟩ argsL.toArray v B ∧
      ∀ target, Steps p.tables e below (B.U.setTop { g with pc := g.pc + 3, stack := v.toList ++ rest }) target → Steps p.tables e below (T.setTop g) target) ∨
    (∃ (q : Addr) (vm₁ : Vm) (B : Pt), s.WarmedH vm₁ ∧ Stand p l e R s m args below meth c B.U B.locs B.cells B.slots ∧ PostX ⟨T.setVm vm₁, locs, cells, slots⟩ argsL.toArray q B ∧
      Steps p.tables e below (T.setTop g) ((B.U.setTop { g with stack := rest }).pushFrame (.throwing q))) := by
  obtain ⟨mk, hnamed⟩ := Cond.code_named hcode
  obtain ⟨methM, cM, hmethM, -, -, -, -, -, -, hsigM⟩ := Cond.code_spec hnamed hcode
  have hstatic : methM.isStatic = true := Cond.static_spec hnamed hmethM hstat
  obtain ⟨kP, hkP, -⟩ := className_of_methodNamed hnamed
  have hinitP : kP.init = .initialized := Cond.initialized_spec (findClass_of_methodNamed hnamed) hkP hinit
  obtain ⟨vm₁, X₁, hstep₁⟩ := X.invokestatic hexec hown hlink hnamed hmethM hstatic hkP hinitP hy (g := g) hg (argsL := argsL) (rest := rest) (hlen _ hsigM) hstack hdg
  rcases hK m meth c ⟨T.setVm vm₁, locs, cells, slots⟩ { g with stack := rest } (.invokestatic index) mk argsL.toArray X₁ hg hsize hdg hW (X₁.named hnamed) (hpre vm₁ X₁.warmed) with ⟨v, B, X', hpost, hsteps⟩ | ⟨q, B, X', hpost, hsteps⟩
  · exact Or.inl ⟨v, vm₁, B, X₁.warmed, X', hpost, fun target h => hstep₁ _ fun acts => by rw [doInvoke_state]; exact hsteps.trans h⟩
  · exact Or.inr ⟨q, vm₁, B, X₁.warmed, X', hpost, hstep₁ _ fun acts => by rw [doInvoke_state]; exact hsteps⟩
end Calls
theorem vx_cls {s : State} {T : State} {vm₁ : Vm} {E : String} {k : ClassId} (hW : s.WarmedH vm₁) (h : (T.setVm vm₁).vm.findClass E = some k) : s.vm.findClass E = some k := by
  have h1 : vm₁.findClass E = some k := h
  rw [hW.alike.findClass] at h1
  exact h1
/-- the method's frame g, with q thrown over it -/
def vx_W (p : Program) (l : Launch) (e : Env) (R : Room) (s : State) (m : MethodId) (args : Array Value) (below : List Frame) (meth : Method) (c : Code) (H : Heap) (locs : List Loc) (cells slots : Nat) (Q : State → Prop) (g : JFrame) (q : Addr) : Prop :=
  ∀ T : State, T.heap = H → Stand p l e R s m args below meth c T locs cells slots → ∃ t, Steps p.tables e below ((T.setTop g).pushFrame (.throwing q)) t ∧ Q t
def vx_Run (p : Program) (l : Launch) (e : Env) (R : Room) (s : State) (m : MethodId) (args : Array Value) (below : List Frame) (meth : Method) (c : Code) (H : Heap) (locs : List Loc) (cells slots mc ms : Nat) (g : JFrame) (rest : List Value) (Qa : State → Outcome → State → Prop) (XC : String → State → State → Prop) (free : Addr → Prop) : Prop :=
  ∀ T : State, T.heap = H → Stand p l e R s m args below meth c T locs cells slots →
    (∃ (v : Option Value) (st₀ t T' : State) (L : List Loc), st₀.heap = H ∧ Stand p l e R s m args below meth c T' (locs ++ L) (cells + mc) (slots + ms) ∧ (∀ q ∈ L, free q.base) ∧ T'.heap = t.heap ∧ T'.vm = t.vm ∧ Qa st₀ (.returned v) t ∧
      Goes p e below T g T' { g with pc := g.pc + 3, stack := v.toList ++ rest }) ∨
    (∃ (q : Addr) (st₀ t T' : State) (L : List Loc) (E : String) (ce : Cell), st₀.heap = H ∧ Stand p l e R s m args below meth c T' (locs ++ L) (cells + mc) (slots + ms) ∧ (∀ z ∈ L, free z.base) ∧ T'.heap = t.heap ∧ T'.vm = t.vm ∧ XC E st₀ t ∧ t.heap[q]? = some ce ∧ ce.vm = .none ∧ s.vm.findClass E = some ce.cls ∧
      Steps p.tables e below (T.setTop g) ((T'.setTop { g with stack := rest }).pushFrame (.throwing q)))
def vx_X {S : Type} (px : S → Prop) (B : String → S → State → Prop) (A : Nat → Prop) : String → State → State → Prop := fun E st t => ∃ u : S, px u ∧ B E u t ∧ va_F A st t
section Runs
variable {p : Program} {l : Launch} {e : Env} {R : Room} {s : State} {m : MethodId} {args : Array Value} {below : List Frame} {meth : Method} {c : Code} {H : Heap} {locs : List Loc} {cells slots : Nat}
variable {y : MethodName} {bytes cc : ByteArray} {maxL nL mc ms n index : Nat} {ret : Option FieldType} {ws : List Cond} {rm : Room} {Pc : Array Value → State → Prop} {Qc : Array Value → State → Outcome → State → Prop} {XC : String → State → State → Prop} {free : Addr → Prop} {Ts : List Cond} {own C : String} {b : Addr} {As rest : List Value} {g : JFrame}
theorem vx_callBack (cb : CallB R s args own index y bytes maxL ret ws rm mc ms n) (hM : vx_Met l y ws rm Pc Qc XC mc ms free) (hbl : FrameBlind Pc) : vx_Back l R p e below s args y 3 8 (PreOf R mc ms Pc) (PostOf Qc mc ms free) (vx_Post XC mc ms free) := by
  obtain ⟨hrc, hrs, hfr, hlo, hws, hcw, -, hini, -⟩ := cb
  exact vx_back (bytes := bytes) (maxL := maxL) (ret := ret) hM hbl hrc hrs hfr hlo hws hcw (fun a' U hW => word_at hW (Or.inl (by first | rfl | simp [Cond.onTables, Cond.keeps, Cond.steady])) hini)
theorem vx_runV (S : CallFix p m c cc nL s args Ts own) (hM : vx_Met l y ws rm Pc Qc XC mc ms free) (cw : CallW R s args own C index y bytes maxL ret ws rm mc ms n) (hp : PreV s H C b Pc As)
    (hg : g.method = m) (hn : As.length = n) (hsize : g.locals.size = nL) (hstack : g.stack = As.reverse ++ .ref b :: rest) (hW : 2 * g.monitorRoom + (rest.map fun v => v.category).sum ≤ 8) (hdg : decode cc g.pc = .ok (.invokevirtual index, 3)) (hf : cells + mc ≤ R.cells ∧ slots + ms ≤ R.slots) :
    vx_Run p l e R s m args below meth c H locs cells slots mc ms g rest (Qc (Value.ref b :: As).toArray) XC free := by
  have hK : vx_Back l R p e below s args y 3 8 (PreOf R mc ms Pc) (PostOf Qc mc ms free) (vx_Post XC mc ms free) := vx_callBack cw.1 hM hp.1
  obtain ⟨⟨-, -, -, -, -, -, hcode, -, hy, hlen, hl⟩, hin, hse⟩ := cw
  obtain ⟨hx, hb, hml, ho, -⟩ := S
  obtain ⟨-, ⟨cellB, hcB, hoB, hclB⟩, hPc⟩ := hp
  intro T hT X
  rcases vx_callV X hx (C := C) (bytes := bytes) (maxL := maxL) (ret := ret) ho hl hin hse hcode hy hK (by rw [hT]; exact hcB) hoB hclB hg (hsize.trans hml.symm) (argsL := As) (rest := rest) (fun sig h => hn.trans (hlen sig h)) hstack hW (by rw [hb]; exact hdg)
    (fun vm₁ hW₁ => ⟨hf.1, hf.2, hPc (T.setVm vm₁) hT hW₁⟩) with ⟨v, vm₁, ⟨U', l2, c2, s2⟩, hW₁, X', ⟨g', mk, t, L, e1, e2, hq, h1, hL, h2, h3⟩, st⟩ | ⟨q, vm₁, ⟨U', l2, c2, s2⟩, hW₁, X', ⟨g', mk, t, L, E, ce, e1, e2, hq, hce, hcv, hcl, h1, hL, h2, h3⟩, st⟩
  · dsimp only [Pt.U, Pt.locs, Pt.cells, Pt.slots] at X' e1 e2 h1 h2 h3 st
    subst h1; subst h2; subst h3
    exact Or.inl ⟨v, (T.setVm vm₁).calling g' mk (Value.ref b :: As).toArray, t, U', L, hT, X', hL, e1, e2, hq, st⟩
  · dsimp only [Pt.U, Pt.locs, Pt.cells, Pt.slots] at X' e1 e2 h1 h2 h3 st hcl
    subst h1; subst h2; subst h3
    exact Or.inr ⟨q, (T.setVm vm₁).calling g' mk (Value.ref b :: As).toArray, t, U', L, E, ce, hT, X', hL, e1, e2, hq, hce, hcv, vx_cls hW₁ hcl, st⟩
theorem vx_runS (S : CallFix p m c cc nL s args Ts own) (hM : vx_Met l y ws rm Pc Qc XC mc ms free) (cw : CallB R s args own index y bytes maxL ret ws rm mc ms n ∧ (Cond.static y).before args s = true) (hp : PreS s H Pc As)
    (hg : g.method = m) (hn : As.length = n) (hsize : g.locals.size = nL) (hstack : g.stack = As.reverse ++ rest) (hW : 2 * g.monitorRoom + (rest.map fun v => v.category).sum ≤ 8) (hdg : decode cc g.pc = .ok (.invokestatic index, 3)) (hf : cells + mc ≤ R.cells ∧ slots + ms ≤ R.slots) :
    vx_Run p l e R s m args below meth c H locs cells slots mc ms g rest (Qc As.toArray) XC free := by
  have hK : vx_Back l R p e below s args y 3 8 (PreOf R mc ms Pc) (PostOf Qc mc ms free) (vx_Post XC mc ms free) := vx_callBack cw.1 hM hp.1
  obtain ⟨⟨-, -, -, -, -, -, hcode, hini, hy, hlen, hl⟩, hstt⟩ := cw
  obtain ⟨hx, hb, hml, ho, -⟩ := S
  intro T hT X
  rcases vx_callS X hx (bytes := bytes) (maxL := maxL) (ret := ret) ho hl hstt hini hcode hy hK hg (hsize.trans hml.symm) (argsL := As) (rest := rest) (fun sig h => hn.trans (hlen sig h)) hstack hW (by rw [hb]; exact hdg)
    (fun vm₁ hW₁ => ⟨hf.1, hf.2, hp.2 (T.setVm vm₁) hT hW₁⟩) with ⟨v, vm₁, ⟨U', l2, c2, s2⟩, hW₁, X', ⟨g', mk, t, L, e1, e2, hq, h1, hL, h2, h3⟩, st⟩ | ⟨q, vm₁, ⟨U', l2, c2, s2⟩, hW₁, X', ⟨g', mk, t, L, E, ce, e1, e2, hq, hce, hcv, hcl, h1, hL, h2, h3⟩, st⟩
  · dsimp only [Pt.U, Pt.locs, Pt.cells, Pt.slots] at X' e1 e2 h1 h2 h3 st
    subst h1; subst h2; subst h3
    exact Or.inl ⟨v, (T.setVm vm₁).calling g' mk As.toArray, t, U', L, hT, X', hL, e1, e2, hq, st⟩
  · dsimp only [Pt.U, Pt.locs, Pt.cells, Pt.slots] at X' e1 e2 h1 h2 h3 st hcl
    subst h1; subst h2; subst h3
    exact Or.inr ⟨q, (T.setVm vm₁).calling g' mk As.toArray, t, U', L, E, ce, hT, X', hL, e1, e2, hq, hce, hcv, vx_cls hW₁ hcl, st⟩
end Runs
section Rows
variable {p : Program} {l : Launch} {e : Env} {R : Room} {s : State} {m : MethodId} {args : Array Value} {below : List Frame} {meth : Method} {c : Code} {H : Heap} {locs : List Loc} {cells slots : Nat} {Q : State → Prop}
variable {mc ms : Nat} {free : Addr → Prop} {A0 A1 : Nat → Prop} {H0 : Heap} {a : Array Value} {pc : Nat} {ls : Array Slot} {st0 rest : List Value}
theorem vx_keep {st₀ t T' : State} {L : List Loc} (h0 : st₀.heap = H) (e1 : T'.heap = t.heap) (hS : va_S A0 H0 H locs) (hA : ∀ q, q < H.size → A1 q → A0 q) (hf : ∀ q, free q → A0 q) (hL : ∀ q ∈ L, free q.base) (hF : va_F A1 st₀ t) :
    H.size ≤ T'.heap.size ∧ (∀ q : Nat, q < H.size → ¬ A1 q → T'.heap[q]? = H[q]?) ∧ va_S A0 H0 T'.heap (locs ++ L) := by
  obtain ⟨hz, hk⟩ := hF
  rw [h0] at hz hk
  exact ⟨by rw [e1]; exact hz, fun q h1 h2 => by rw [e1]; exact hk q h1 h2,
    ⟨Nat.le_trans hS.1 (by rw [e1]; exact hz), fun q h1 h2 => by rw [e1, hk q (Nat.lt_of_lt_of_le h1 hS.1) (fun z => h2 (hA q (Nat.lt_of_lt_of_le h1 hS.1) z))]; exact hS.2.1 q h1 h2, fun q hq => by
      rcases List.mem_append.mp hq with h | h
      · exact hS.2.2 q h
      · exact hf _ (hL q h)⟩⟩
theorem vx_calli {S SX : Type} {post : Int32 → S → Prop} {px : SX → Prop} {B : S → State → Prop} {BX : String → SX → State → Prop} {AX : Nat → Prop} (hr : vx_Run p l e R s m args below meth c H locs cells slots mc ms (F0 m pc ls st0) rest (va_Qi post B A1 a) (vx_X px BX AX) free) (hS : va_S A0 H0 H locs) (hA : ∀ q, q < H.size → A1 q → A0 q) (hf : ∀ q, free q → A0 q) (hAX : ∀ q, q < H.size → AX q → A0 q)
    (kx : ∀ (E : String) (ce : Cell) (q9 : Addr) (u : SX) (t : State) (H1 : Heap) (locs1 : List Loc), t.heap = H1 → s.vm.Alike t.vm → px u → BX E u t → H.size ≤ H1.size → (∀ q : Nat, q < H.size → ¬ AX q → H1[q]? = H[q]?) → va_S A0 H0 H1 locs1 → H1[q9]? = some ce → ce.vm = .none → s.vm.findClass E = some ce.cls → vx_W p l e R s m args below meth c H1 locs1 (cells + mc) (slots + ms) Q (F0 m pc ls rest) q9)
    (kk : ∀ (r : Int32) (u : S) (t : State) (H1 : Heap) (locs1 : List Loc), t.heap = H1 → s.vm.Alike t.vm → post r u → B u t → H.size ≤ H1.size → (∀ q : Nat, q < H.size → ¬ A1 q → H1[q]? = H[q]?) → va_S A0 H0 H1 locs1 → W p l e R s m args below meth c H1 locs1 (cells + mc) (slots + ms) Q (F0 m (pc + 3) ls (.int r :: rest))) : W p l e R s m args below meth c H locs cells slots Q (F0 m pc ls st0) := by
  intro T hT X
  rcases hr T hT X with ⟨v, st₀, t, T', L, h0, X', hL, e1, e2, ⟨⟨r, u, hv, hp, hb⟩, hF⟩, st⟩ | ⟨q, st₀, t, T', L, E, ce, h0, X', hL, e1, e2, ⟨u, hp, hb, hF⟩, hce, hcv, hcl, st⟩
  · cases hv
    obtain ⟨k1, k2, k3⟩ := vx_keep h0 e1 hS hA hf hL hF
    obtain ⟨t2, a1, b1⟩ := kk r u t T'.heap (locs ++ L) e1.symm (by rw [← e2]; exact X'.warmed.alike) hp hb k1 k2 k3 T' rfl X'
    exact ⟨t2, st t2 a1, b1⟩
  · obtain ⟨k1, k2, k3⟩ := vx_keep h0 e1 hS hAX hf hL hF
    obtain ⟨t2, a1, b1⟩ := kx E ce q u t T'.heap (locs ++ L) e1.symm (by rw [← e2]; exact X'.warmed.alike) hp hb k1 k2 k3 (by rw [e1]; exact hce) hcv hcl T' rfl X'
    exact ⟨t2, st.trans a1, b1⟩
theorem vx_calll {S SX : Type} {post : Int64 → S → Prop} {px : SX → Prop} {B : S → State → Prop} {BX : String → SX → State → Prop} {AX : Nat → Prop} (hr : vx_Run p l e R s m args below meth c H locs cells slots mc ms (F0 m pc ls st0) rest (va_Ql post B A1 a) (vx_X px BX AX) free) (hS : va_S A0 H0 H locs) (hA : ∀ q, q < H.size → A1 q → A0 q) (hf : ∀ q, free q → A0 q) (hAX : ∀ q, q < H.size → AX q → A0 q)
    (kx : ∀ (E : String) (ce : Cell) (q9 : Addr) (u : SX) (t : State) (H1 : Heap) (locs1 : List Loc), t.heap = H1 → s.vm.Alike t.vm → px u → BX E u t → H.size ≤ H1.size → (∀ q : Nat, q < H.size → ¬ AX q → H1[q]? = H[q]?) → va_S A0 H0 H1 locs1 → H1[q9]? = some ce → ce.vm = .none → s.vm.findClass E = some ce.cls → vx_W p l e R s m args below meth c H1 locs1 (cells + mc) (slots + ms) Q (F0 m pc ls rest) q9)
    (kk : ∀ (r : Int64) (u : S) (t : State) (H1 : Heap) (locs1 : List Loc), t.heap = H1 → s.vm.Alike t.vm → post r u → B u t → H.size ≤ H1.size → (∀ q : Nat, q < H.size → ¬ A1 q → H1[q]? = H[q]?) → va_S A0 H0 H1 locs1 → W p l e R s m args below meth c H1 locs1 (cells + mc) (slots + ms) Q (F0 m (pc + 3) ls (.long r :: rest))) : W p l e R s m args below meth c H locs cells slots Q (F0 m pc ls st0) := by
  intro T hT X
  rcases hr T hT X with ⟨v, st₀, t, T', L, h0, X', hL, e1, e2, ⟨⟨r, u, hv, hp, hb⟩, hF⟩, st⟩ | ⟨q, st₀, t, T', L, E, ce, h0, X', hL, e1, e2, ⟨u, hp, hb, hF⟩, hce, hcv, hcl, st⟩
  · cases hv
    obtain ⟨k1, k2, k3⟩ := vx_keep h0 e1 hS hA hf hL hF
    obtain ⟨t2, a1, b1⟩ := kk r u t T'.heap (locs ++ L) e1.symm (by rw [← e2]; exact X'.warmed.alike) hp hb k1 k2 k3 T' rfl X'
    exact ⟨t2, st t2 a1, b1⟩
  · obtain ⟨k1, k2, k3⟩ := vx_keep h0 e1 hS hAX hf hL hF
    obtain ⟨t2, a1, b1⟩ := kx E ce q u t T'.heap (locs ++ L) e1.symm (by rw [← e2]; exact X'.warmed.alike) hp hb k1 k2 k3 (by rw [e1]; exact hce) hcv hcl T' rfl X'
    exact ⟨t2, st.trans a1, b1⟩
theorem vx_callf {S SX : Type} {post : UInt32 → S → Prop} {px : SX → Prop} {B : S → State → Prop} {BX : String → SX → State → Prop} {AX : Nat → Prop} (hr : vx_Run p l e R s m args below meth c H locs cells slots mc ms (F0 m pc ls st0) rest (va_Qf post B A1 a) (vx_X px BX AX) free) (hS : va_S A0 H0 H locs) (hA : ∀ q, q < H.size → A1 q → A0 q) (hf : ∀ q, free q → A0 q) (hAX : ∀ q, q < H.size → AX q → A0 q)
    (kx : ∀ (E : String) (ce : Cell) (q9 : Addr) (u : SX) (t : State) (H1 : Heap) (locs1 : List Loc), t.heap = H1 → s.vm.Alike t.vm → px u → BX E u t → H.size ≤ H1.size → (∀ q : Nat, q < H.size → ¬ AX q → H1[q]? = H[q]?) → va_S A0 H0 H1 locs1 → H1[q9]? = some ce → ce.vm = .none → s.vm.findClass E = some ce.cls → vx_W p l e R s m args below meth c H1 locs1 (cells + mc) (slots + ms) Q (F0 m pc ls rest) q9)
    (kk : ∀ (r : UInt32) (u : S) (t : State) (H1 : Heap) (locs1 : List Loc), t.heap = H1 → s.vm.Alike t.vm → post r u → B u t → H.size ≤ H1.size → (∀ q : Nat, q < H.size → ¬ A1 q → H1[q]? = H[q]?) → va_S A0 H0 H1 locs1 → W p l e R s m args below meth c H1 locs1 (cells + mc) (slots + ms) Q (F0 m (pc + 3) ls (.float r :: rest))) : W p l e R s m args below meth c H locs cells slots Q (F0 m pc ls st0) := by
  intro T hT X
  rcases hr T hT X with ⟨v, st₀, t, T', L, h0, X', hL, e1, e2, ⟨⟨r, u, hv, hp, hb⟩, hF⟩, st⟩ | ⟨q, st₀, t, T', L, E, ce, h0, X', hL, e1, e2, ⟨u, hp, hb, hF⟩, hce, hcv, hcl, st⟩
  · cases hv
    obtain ⟨k1, k2, k3⟩ := vx_keep h0 e1 hS hA hf hL hF
    obtain ⟨t2, a1, b1⟩ := kk r u t T'.heap (locs ++ L) e1.symm (by rw [← e2]; exact X'.warmed.alike) hp hb k1 k2 k3 T' rfl X'
    exact ⟨t2, st t2 a1, b1⟩
  · obtain ⟨k1, k2, k3⟩ := vx_keep h0 e1 hS hAX hf hL hF
    obtain ⟨t2, a1, b1⟩ := kx E ce q u t T'.heap (locs ++ L) e1.symm (by rw [← e2]; exact X'.warmed.alike) hp hb k1 k2 k3 (by rw [e1]; exact hce) hcv hcl T' rfl X'
    exact ⟨t2, st.trans a1, b1⟩
theorem vx_calld {S SX : Type} {post : UInt64 → S → Prop} {px : SX → Prop} {B : S → State → Prop} {BX : String → SX → State → Prop} {AX : Nat → Prop} (hr : vx_Run p l e R s m args below meth c H locs cells slots mc ms (F0 m pc ls st0) rest (va_Qd post B A1 a) (vx_X px BX AX) free) (hS : va_S A0 H0 H locs) (hA : ∀ q, q < H.size → A1 q → A0 q) (hf : ∀ q, free q → A0 q) (hAX : ∀ q, q < H.size → AX q → A0 q)
    (kx : ∀ (E : String) (ce : Cell) (q9 : Addr) (u : SX) (t : State) (H1 : Heap) (locs1 : List Loc), t.heap = H1 → s.vm.Alike t.vm → px u → BX E u t → H.size ≤ H1.size → (∀ q : Nat, q < H.size → ¬ AX q → H1[q]? = H[q]?) → va_S A0 H0 H1 locs1 → H1[q9]? = some ce → ce.vm = .none → s.vm.findClass E = some ce.cls → vx_W p l e R s m args below meth c H1 locs1 (cells + mc) (slots + ms) Q (F0 m pc ls rest) q9)
    (kk : ∀ (r : UInt64) (u : S) (t : State) (H1 : Heap) (locs1 : List Loc), t.heap = H1 → s.vm.Alike t.vm → post r u → B u t → H.size ≤ H1.size → (∀ q : Nat, q < H.size → ¬ A1 q → H1[q]? = H[q]?) → va_S A0 H0 H1 locs1 → W p l e R s m args below meth c H1 locs1 (cells + mc) (slots + ms) Q (F0 m (pc + 3) ls (.double r :: rest))) : W p l e R s m args below meth c H locs cells slots Q (F0 m pc ls st0) := by
  intro T hT X
  rcases hr T hT X with ⟨v, st₀, t, T', L, h0, X', hL, e1, e2, ⟨⟨r, u, hv, hp, hb⟩, hF⟩, st⟩ | ⟨q, st₀, t, T', L, E, ce, h0, X', hL, e1, e2, ⟨u, hp, hb, hF⟩, hce, hcv, hcl, st⟩
  · cases hv
    obtain ⟨k1, k2, k3⟩ := vx_keep h0 e1 hS hA hf hL hF
    obtain ⟨t2, a1, b1⟩ := kk r u t T'.heap (locs ++ L) e1.symm (by rw [← e2]; exact X'.warmed.alike) hp hb k1 k2 k3 T' rfl X'
    exact ⟨t2, st t2 a1, b1⟩
  · obtain ⟨k1, k2, k3⟩ := vx_keep h0 e1 hS hAX hf hL hF
    obtain ⟨t2, a1, b1⟩ := kx E ce q u t T'.heap (locs ++ L) e1.symm (by rw [← e2]; exact X'.warmed.alike) hp hb k1 k2 k3 (by rw [e1]; exact hce) hcv hcl T' rfl X'
    exact ⟨t2, st.trans a1, b1⟩
theorem vx_callv {S SX : Type} {post : S → Prop} {px : SX → Prop} {B : S → State → Prop} {BX : String → SX → State → Prop} {AX : Nat → Prop} (hr : vx_Run p l e R s m args below meth c H locs cells slots mc ms (F0 m pc ls st0) rest (va_Qv post B A1 a) (vx_X px BX AX) free) (hS : va_S A0 H0 H locs) (hA : ∀ q, q < H.size → A1 q → A0 q) (hf : ∀ q, free q → A0 q) (hAX : ∀ q, q < H.size → AX q → A0 q)
    (kx : ∀ (E : String) (ce : Cell) (q9 : Addr) (u : SX) (t : State) (H1 : Heap) (locs1 : List Loc), t.heap = H1 → s.vm.Alike t.vm → px u → BX E u t → H.size ≤ H1.size → (∀ q : Nat, q < H.size → ¬ AX q → H1[q]? = H[q]?) → va_S A0 H0 H1 locs1 → H1[q9]? = some ce → ce.vm = .none → s.vm.findClass E = some ce.cls → vx_W p l e R s m args below meth c H1 locs1 (cells + mc) (slots + ms) Q (F0 m pc ls rest) q9)
    (kk : ∀ (u : S) (t : State) (H1 : Heap) (locs1 : List Loc), t.heap = H1 → s.vm.Alike t.vm → post u → B u t → H.size ≤ H1.size → (∀ q : Nat, q < H.size → ¬ A1 q → H1[q]? = H[q]?) → va_S A0 H0 H1 locs1 → W p l e R s m args below meth c H1 locs1 (cells + mc) (slots + ms) Q (F0 m (pc + 3) ls (rest))) : W p l e R s m args below meth c H locs cells slots Q (F0 m pc ls st0) := by
  intro T hT X
  rcases hr T hT X with ⟨v, st₀, t, T', L, h0, X', hL, e1, e2, ⟨⟨u, hv, hp, hb⟩, hF⟩, st⟩ | ⟨q, st₀, t, T', L, E, ce, h0, X', hL, e1, e2, ⟨u, hp, hb, hF⟩, hce, hcv, hcl, st⟩
  · cases hv
    obtain ⟨k1, k2, k3⟩ := vx_keep h0 e1 hS hA hf hL hF
    obtain ⟨t2, a1, b1⟩ := kk u t T'.heap (locs ++ L) e1.symm (by rw [← e2]; exact X'.warmed.alike) hp hb k1 k2 k3 T' rfl X'
    exact ⟨t2, st t2 a1, b1⟩
  · obtain ⟨k1, k2, k3⟩ := vx_keep h0 e1 hS hAX hf hL hF
    obtain ⟨t2, a1, b1⟩ := kx E ce q u t T'.heap (locs ++ L) e1.symm (by rw [← e2]; exact X'.warmed.alike) hp hb k1 k2 k3 (by rw [e1]; exact hce) hcv hcl T' rfl X'
    exact ⟨t2, st.trans a1, b1⟩
/-- caught by the row x of this method's table; the rows ahead don't take it -/
theorem vx_catch {own name : String} {E : String} {ce : Cell} {q : Addr} (hown : s.vm.findClass own = some m.cls) (pre : List ExceptionTableEntry) (x : ExceptionTableEntry) (suf : List ExceptionTableEntry) (hsplit : c.exceptionTable.toList = pre ++ x :: suf)
    (hpass : ∀ z ∈ pre, covers z pc = false ∨ (z.catchType ≠ 0 ∧ ∃ nm : String, (Cond.classLink own z.catchType nm).before args s = true ∧ va_Nc E nm s)) (hx : covers x pc = true) (h0 : x.catchType ≠ 0)
    (hlink : (Cond.classLink own x.catchType name).before args s = true) (hcast : (Cond.castable E name).before args s = true) (hcell : H[q]? = some ce) (hv : ce.vm = .none) (hcl : s.vm.findClass E = some ce.cls)
    (kk : W p l e R s m args below meth c H locs cells slots Q (F0 m x.handlerPc ls [.ref q])) : vx_W p l e R s m args below meth c H locs cells slots Q (F0 m pc ls rest) q := by
  intro T hT X
  have hpl : e.platform.magicAccessors = ({} : Platform).magicAccessors := by rw [X.admits.platform]
  obtain ⟨c3, c4, hc3, hc4, hasg⟩ := Cond.castable_spec hcast
  cases Option.some.inj (hc3.symm.trans hcl)
  obtain ⟨c5, hc5, hcl5⟩ := Cond.classLink_spec hown hlink e.platform hpl
  cases Option.some.inj (hc4.symm.trans hc5)
  obtain ⟨vm', X', st⟩ := X.thenCaughtThrough q (g := F0 m pc ls rest) rfl (Steps.refl _) (by rw [hT]; exact hcell) (by rw [hv]; rfl) (by obtain ⟨k9, h9, -⟩ := Vm.findClass_spec hcl; exact ⟨k9, h9⟩) pre x suf hsplit
    (fun z hz => by
      rcases hpass z hz with h | ⟨hz0, nm, hl1, hn1⟩
      · exact Or.inl h
      · obtain ⟨c6, hc6, hcl6⟩ := Cond.classLink_spec hown hl1 e.platform hpl
        obtain ⟨a8, b8, h1, h2, h3⟩ := hn1
        cases Option.some.inj (h1.symm.trans hcl)
        cases Option.some.inj (h2.symm.trans hc6)
        exact Or.inr ⟨hz0, _, hcl6, h3⟩) hx (Or.inr ⟨h0, c4, hcl5, hasg⟩)
  obtain ⟨t, a1, b1⟩ := kk (T.setVm vm') hT X'
  exact ⟨t, st.trans a1, b1⟩
end Rows
section Ends
variable {p : Program} {l : Launch} {e : Env} {R : Room} {s : State} {m : MethodId} {args : Array Value} {below : List Frame} {meth : Method} {c : Code} {H : Heap} {locs : List Loc} {cells slots : Nat} {Q : State → Prop}
variable {mc ms : Nat} {free : Addr → Prop} {A0 A1 : Nat → Prop} {H0 : Heap} {a : Array Value} {ls : Array Slot} {st0 rest : List Value}
variable {Qc : Array Value → State → Outcome → State → Prop} {XC : String → State → State → Prop}
/-- what a body that may throw owes at its end -/
def vx_MQ (below : List Frame) (Qc : Array Value → State → Outcome → State → Prop) (XC : String → State → State → Prop) (a : Array Value) (s : State) (mc ms : Nat) (free : Addr → Prop) : State → Prop := fun t =>
  ∃ o, t.status = .running ∧ Ended t below o ∧ vx_Q Qc XC mc ms free a s o t
theorem vx_ret {g : JFrame} {mc ms : Nat} (k : W p l e R s m args below meth c H locs cells slots (MQ below Qc args s mc ms free) g) : W p l e R s m args below meth c H locs cells slots (vx_MQ below Qc XC args s mc ms free) g := by
  intro T hT X
  obtain ⟨t, a1, o, b1, b2, b3, b4⟩ := k T hT X
  exact ⟨t, a1, o, b1, b2, Or.inl ⟨b3, b4⟩⟩
/-- not caught here: it goes on to the caller -/
theorem vx_widen {g : JFrame} {q : Addr} {k n : Nat} (h1 : cells ≤ k) (h2 : slots ≤ n) (kk : vx_W p l e R s m args below meth c H locs k n Q g q) : vx_W p l e R s m args below meth c H locs cells slots Q g q := fun T hT X => kk T hT (stand_widen X h1 h2)
theorem vx_out {pc : Nat} {E : String} {ce : Cell} {q : Addr} {mc ms : Nat} (hout : ∀ x ∈ c.exceptionTable.toList, covers x pc = false) (hlocks : meth.locks = false) (hcell : H[q]? = some ce) (hv : ce.vm = .none) (hcl : s.vm.findClass E = some ce.cls)
    (hx : ∀ t : State, t.heap = H → s.vm.Alike t.vm → XC E s t) (hf : ∀ z ∈ locs, free z.base) (hc : cells ≤ mc) (hs : slots ≤ ms) :
    vx_W p l e R s m args below meth c H locs cells slots (vx_MQ below Qc XC args s mc ms free) (F0 m pc ls rest) q := by
  intro T hT X
  obtain ⟨st1, hrun, hend, hW, hsm⟩ := X.leaveThrown q (g := F0 m pc ls rest) rfl rfl rfl hout hlocks
  have hcell9 : (T.setFrames (.throwing q :: below)).heap[q]? = some ce := by
    show T.heap[q]? = some ce
    rw [hT]; exact hcell
  exact ⟨_, st1, .threw q, hrun, hend, Or.inr ⟨q, rfl, E, ce, locs, hx _ hT hW.alike, hcell9, hv, hcl, hW, hsm.mono hc hs, hf⟩⟩
theorem vx_frame {U : State} {k n : Nat} (h : s.sameButNew ({ U with vm := s.vm } : State) locs k n) : s.heap.size ≤ U.heap.size ∧ ∀ q : Nat, q < s.heap.size → (∀ z ∈ locs, z.base ≠ q) → U.heap[q]? = s.heap[q]? := by
  obtain ⟨-, h2, -, -, -, h6⟩ := h
  refine ⟨h2, fun q hq hz => ?_⟩
  obtain ⟨c9, e1, e2, e3, e4⟩ := h6 q _ (Array.getElem?_eq_getElem hq)
  have hs : c9.slots = (s.heap[q]).slots := Array.ext_getElem? fun i => e4 i fun hm => hz _ hm rfl
  have h9 : c9 = s.heap[q] := by
    rw [hs] at e2
    exact e2
  have e5 : U.heap[q]? = some c9 := e1
  rw [e5, h9, Array.getElem?_eq_getElem hq]
/-- the words of a throw but the four that speak of the heap -/
def vx_no (w : Cond) : Bool := decide (w ≠ .isRef (.static Bundle.tN "UNASSIGNED_STACK" Bundle.steD)) && decide (w ≠ .isRef (.static Bundle.tN "SUPPRESSED_SENTINEL" Bundle.listD)) && decide (w ≠ .laysStatic Bundle.tN "UNASSIGNED_STACK" Bundle.steD) && decide (w ≠ .laysStatic Bundle.tN "SUPPRESSED_SENTINEL" Bundle.listD)
def vx_at0 (own : String) (ic : Nat) (X : String) (names : List String) : List Cond := (Bundle.ownAtoms0 own ic X names).filter vx_no
def vx_atS (own : String) (ic : Nat) (X : String) (names : List String) : List Cond := (Bundle.ownAtoms own ic X names).filter vx_no
/-- a word that the tables alone decide, or a good one -/
def vx_ot (w : Cond) : Bool := w.onTables || goodWord w
theorem vx_ot_at {args a' : Array Value} {s U : State} {w : Cond} (hW : s.WarmedH U.vm) (hvm : s.vm = U.vm) (hg : vx_ot w = true) (h : w.before args s = true) : w.before a' U = true := by
  simp only [vx_ot, Bool.or_eq_true] at hg
  rcases hg with hg | hg
  · exact va_tabs hg hvm h
  · exact word_at hW (good_of_word hg) h
/-- a list's words: the good ones out of the method's own list, the others by premises of their own -/
theorem vx_hat {args : Array Value} {s : State} {L B : List Cond} (h1 : ∀ w ∈ L.filter goodWord, w.before args s = true) (h2 : ∀ w ∈ L.filter (fun w => !goodWord w), w ∈ B) (h3 : ∀ w ∈ B, w.before args s = true) : ∀ w ∈ L, w.before args s = true := by
  intro w hw
  by_cases g : goodWord w = true
  · exact h1 w (List.mem_filter.mpr ⟨hw, g⟩)
  · refine h3 w (h2 w (List.mem_filter.mpr ⟨hw, ?_⟩))
    show (!goodWord w) = true
    cases hgw : goodWord w
    · rfl
    · exact absurd hgw g
theorem vx_c {args : Array Value} {s : State} {w : Cond} {B : List Cond} (h : w.before args s = true) (t : ∀ w ∈ B, w.before args s = true) : ∀ w' ∈ w :: B, w'.before args s = true := fun w' h' => (List.mem_cons.mp h').elim (fun e => by rw [e]; exact h) (t w')
theorem vx_n {args : Array Value} {s : State} : ∀ w ∈ ([] : List Cond), w.before args s = true := fun _ h => nomatch h
theorem vx_own {args : Array Value} {s : State} {L : List Cond} (h1 : ∀ w ∈ L.filter vx_no, w.before args s = true)
    (hU : (Cond.isRef (.static Bundle.tN "UNASSIGNED_STACK" Bundle.steD)).before args s = true) (hN : (Cond.isRef (.static Bundle.tN "SUPPRESSED_SENTINEL" Bundle.listD)).before args s = true)
    (lU : (Cond.laysStatic Bundle.tN "UNASSIGNED_STACK" Bundle.steD).before args s = true) (lN : (Cond.laysStatic Bundle.tN "SUPPRESSED_SENTINEL" Bundle.listD).before args s = true) : ∀ w ∈ L, w.before args s = true := by
  intro w hw
  by_cases e1 : w = .isRef (.static Bundle.tN "UNASSIGNED_STACK" Bundle.steD)
  · rw [e1]; exact hU
  · by_cases e2 : w = .isRef (.static Bundle.tN "SUPPRESSED_SENTINEL" Bundle.listD)
    · rw [e2]; exact hN
    · by_cases e3 : w = .laysStatic Bundle.tN "UNASSIGNED_STACK" Bundle.steD
      · rw [e3]; exact lU
      · by_cases e4 : w = .laysStatic Bundle.tN "SUPPRESSED_SENTINEL" Bundle.listD
        · rw [e4]; exact lN
        · exact h1 w (List.mem_filter.mpr ⟨hw, by unfold vx_no; rw [decide_eq_true e1, decide_eq_true e2, decide_eq_true e3, decide_eq_true e4]; rfl⟩)
/-- where a static field lies, its class's statics cell in H -/
def vx_L (C n d : String) (A : Nat → Prop) (U : State) (H : Heap) : Prop := ∃ (c : ClassId) (k : Class) (i : Nat) (f : Field) (a : Nat) (cell : Cell), U.vm.findClass C = some c ∧ U.fieldFound? C n d = some (c, k, i, f) ∧ f.isStatic = true ∧ k.statics = some a ∧ H[a]? = some cell ∧ cell.vm.isStatics = true ∧ cell.cls = c ∧ f.slot < cell.slots.size ∧ k.staticTypes[f.slot]? = some f.type ∧ ¬ A a
theorem vx_L.moved {C n d : String} {A : Nat → Prop} {u U : State} {H : Heap} (hvm : u.vm.Alike U.vm) (h : vx_L C n d A u H) : vx_L C n d A U H := by
  obtain ⟨c, k, i, f, a, cell, h1, h2, h3, h4, h5, h6, h7, h8, h9, h10⟩ := h
  obtain ⟨k', hi', he⟩ := State.fieldFound?_setVm hvm h2
  exact ⟨c, k', i, f, a, cell, by rw [hvm.findClass]; exact h1, hi', h3, by rw [he]; exact h4, h5, h6, h7, h8, by rw [he]; exact h9, h10⟩
theorem vx_L.kept {C n d : String} {A : Nat → Prop} {U : State} {H H1 : Heap} (h : vx_L C n d A U H) (hq : ∀ a : Nat, a < H.size → ¬ A a → H1[a]? = H[a]?) : vx_L C n d A U H1 := by
  obtain ⟨c, k, i, f, a, cell, h1, h2, h3, h4, h5, h6, h7, h8, h9, h10⟩ := h
  exact ⟨c, k, i, f, a, cell, h1, h2, h3, h4, by rw [hq a (Array.getElem?_eq_some_iff.mp h5).1 h10]; exact h5, h6, h7, h8, h9, h10⟩
theorem vx_L.narrow {C n d : String} {A B : Nat → Prop} {U : State} {H : Heap} (h : vx_L C n d A U H) (hAB : ∀ q, B q → A q) : vx_L C n d B U H := by
  obtain ⟨c, k, i, f, a, cell, h1, h2, h3, h4, h5, h6, h7, h8, h9, h10⟩ := h
  exact ⟨c, k, i, f, a, cell, h1, h2, h3, h4, h5, h6, h7, h8, h9, fun z => h10 (hAB _ z)⟩
theorem vx_L.word {C n d : String} {A : Nat → Prop} {s : State} {args : Array Value} (h : vx_L C n d A s s.heap) : (Cond.laysStatic C n d).before args s = true := by
  obtain ⟨c, k, i, f, a, cell, h1, h2, h3, h4, h5, h6, h7, h8, h9, -⟩ := h
  show (Cond.laysStatic C n d).holds args s none s [] = true
  exact Cond.laysStatic_of h1 h2 h3 h4 h5 h6 h7 h8 h9
/-- .. and what it holds: null or some reference -/
def vx_Zq (C n d : String) (A : Nat → Prop) (U : State) (H : Heap) : Prop := va_Zq C n d A U H ∧ vx_L C n d A U H
theorem vx_Zq.moved {C n d : String} {A : Nat → Prop} {u U : State} {H : Heap} (hvm : u.vm.Alike U.vm) (h : vx_Zq C n d A u H) : vx_Zq C n d A U H := ⟨va_Zq.moved hvm h.1, vx_L.moved hvm h.2⟩
theorem vx_Zq.kept {C n d : String} {A : Nat → Prop} {U : State} {H H1 : Heap} (h : vx_Zq C n d A U H) (hq : ∀ a : Nat, a < H.size → ¬ A a → H1[a]? = H[a]?) : vx_Zq C n d A U H1 := ⟨va_Zq.kept h.1 hq, vx_L.kept h.2 hq⟩
theorem vx_Zq.narrow {C n d : String} {A B : Nat → Prop} {U : State} {H : Heap} (h : vx_Zq C n d A U H) (hAB : ∀ q, B q → A q) : vx_Zq C n d B U H := ⟨va_Zq.narrow h.1 hAB, vx_L.narrow h.2 hAB⟩
theorem vx_Zqof {args : Array Value} {s : State} {C n d : String} {A : Nat → Prop} (hl : (Cond.laysStatic C n d).before args s = true) (hini : (Cond.initialized C).before args s = true) (h : (Cond.isRef (.static C n d)).before args s = true) (hA : ∀ a : Nat, a < s.heap.size → ¬ A a) : vx_Zq C n d A s s.heap := by
  refine ⟨va_Zqof hl hini h hA, ?_⟩
  obtain ⟨c, k, i, f, a, cell, h1, h2, h3, h4, h5, h6, h7, h8, h9⟩ := Cond.laysStatic_spec hl
  exact ⟨c, k, i, f, a, cell, h1, h2, h3, h4, h5, h6, h7, h8, h9, hA a (Array.getElem?_eq_some_iff.mp h5).1⟩
theorem vx_isRef {C n d : String} {v : Value} {A : Nat → Prop} {s : State} {args : Array Value} (h : va_Z C n d v A s s.heap) (hv : v.isRef = true) : (Cond.isRef (.static C n d)).before args s = true := by
  obtain ⟨cf, kf, fi, f, a, cell, h1, h2, h3, h4, h5, h6, h7, -⟩ := h
  have he : (Term.static C n d).eval args s none [] s = some v := by
    simp [Term.eval, State.fieldNamed?, h1, h2, h4, h5, h6, h7]
  simp only [Cond.before, Cond.holds, Cond.value, he]
  cases v <;> simp_all [Value.isRef]
theorem vx_isRefq {C n d : String} {A : Nat → Prop} {s : State} {args : Array Value} (h : va_Zq C n d A s s.heap) : (Cond.isRef (.static C n d)).before args s = true := by
  rcases h with h | ⟨t, h⟩
  · exact vx_isRef h rfl
  · exact vx_isRef h rfl
/-- the same frame, seen from here: as if the method were called anew in this heap -/
theorem vx_rebase {T : State} (X : Stand p l e R s m args below meth c T locs cells slots) {R' : Room} (hf : R'.frames ≤ R.frames) (hl : R'.locals ≤ R.locals) (hc : cells + R'.cells ≤ R.cells) (hs : slots + R'.slots ≤ R.slots) :
    Stand p l e R' ((T.setVm s.vm).setFrames (.invoking m args :: below)) m args below meth c T [] 0 0 := by
  have htop : (T.setVm s.vm).topJava?.isSome := X.here.top
  have hF : ((T.setVm s.vm).setFrames (.invoking m args :: below)).frames = .invoking m args :: below := State.frames_setFrames _ (State.cur_lt_of_top htop)
  obtain ⟨g₀, hg0⟩ := Option.isSome_iff_exists.mp htop
  obtain ⟨r, hr⟩ := State.topJava?_eq_some.mp hg0
  have hl9 : e.platform.stackLimits (T.setVm s.vm).me = e.platform.stackLimits s.me := X.limits
  have hb9 : (T.setVm s.vm).me.stackBytes = s.me.stackBytes := X.bytes
  refine ⟨X.admits, X.cas, X.clock, hF, ?_, X.hears, X.method, X.code, X.here, X.tail, X.warmed, ?_, ?_, ?_⟩
  · have h := X.room
    have hU : ((T.setVm s.vm).setFrames (.invoking m args :: below)).localsInUse = s.localsInUse := by
      rw [State.localsInUse_invoking hF (meth := meth) (c := c) X.method X.code, State.localsInUse_invoking X.frames X.method X.code]
    simp only [State.hasRoom, Bool.and_eq_true, decide_eq_true_eq] at h ⊢
    obtain ⟨⟨⟨⟨h1, h2, h3, h4, h5, h6⟩, h7⟩, h8⟩, h9⟩ := h
    rw [X.frames, List.length_cons] at h2 h3
    have q1 := X.heapSize
    have q2 := X.used
    simp only [hF, hU, List.length_cons, State.stackLimits_setFrames, State.stackBytes_setFrames, hl9, hb9]
    refine ⟨⟨⟨⟨by omega, by omega, by omega, by omega, by omega, h6⟩, ?_⟩, ?_⟩, X.book⟩
    · show T.heap.size + R'.cells ≤ e.platform.maxCells
      omega
    · show T.slotsUsed + R'.slots ≤ e.platform.maxSlots
      omega
  · rw [State.stackLimits_setFrames]; rfl
  · rw [State.stackBytes_setFrames]; rfl
  · refine ⟨?_, Nat.le_refl _, Nat.le_refl _, ?_, ?_, fun a c9 h9 => ⟨c9, h9, rfl, rfl, fun _ _ => rfl⟩⟩
    · obtain ⟨t, ht, -⟩ := State.frames_cons hr
      show T.setVm s.vm = { ((T.setVm s.vm).setFrames (.invoking m args :: below)).setFrames (T.setVm s.vm).frames with heap := T.heap, slotsUsed := T.slotsUsed }
      rw [State.setFrames_setFrames, State.setFrames_self ht]
      rfl
    · show T.slotsUsed = T.slotsUsed + ((T.heap.toList.drop T.heap.size).map (·.slots.size)).sum
      rw [List.drop_eq_nil_of_le (Nat.le_of_eq Array.length_toList)]
      rfl
    · show ((T.heap.toList.drop T.heap.size).map (·.slots.size)).sum ≤ 0
      rw [List.drop_eq_nil_of_le (Nat.le_of_eq Array.length_toList)]
      exact Nat.le_refl _
/-- 'throw new E()': new; dup; invokespecial; athrow -/
theorem vx_throw0 {cc : ByteArray} {pc : Nat} (hexec : p.tables.exec = Jvm.exec) (hb : c.code = cc) (hl : l.stackTraces = false) {own cls : String} {names : List String} {ik ic mc ms : Nat} {A : Nat → Prop}
    (hown : s.vm.findClass own = some m.cls) (hcls : Bundle.fit cls = true) (hnames : ∀ n ∈ names, Bundle.fit n = true)
    (hk : (Cond.classLink own ik cls).before args s = true) (hini : (Cond.initialized cls).before args s = true) (hat : ∀ w ∈ vx_at0 own ic cls names, w.before args s = true)
    (hgood : ∀ w ∈ Cond.classLink own ik cls :: Cond.initialized cls :: vx_at0 own ic cls names, vx_ot w = true)
    (hU : vx_Zq Bundle.tN "UNASSIGNED_STACK" Bundle.steD A s s.heap) (hN : vx_Zq Bundle.tN "SUPPRESSED_SENTINEL" Bundle.listD A s s.heap) (hS : va_S A s.heap H locs) (hsize : ls.size = c.maxLocals)
    (d0 : decode cc pc = .ok (.new ik, 3)) (d3 : decode cc (pc + 3) = .ok (.dup, 1)) (d4 : decode cc (pc + 4) = .ok (.invokespecial ic, 3)) (d7 : decode cc (pc + 7) = .ok (.athrow, 1))
    (hout : ∀ x ∈ c.exceptionTable.toList, covers x (pc + 7) = false)
    (hRframes : names.length + 3 < R.frames) (hRlocals : (rest.map fun v => v.category).sum + (13 * (names.length + 1) + 42) ≤ R.locals) (hRcells : cells + 1 ≤ R.cells) (hRslots : slots + 6 ≤ R.slots) (hlocks : meth.locks = false)
    (hx : ∀ t : State, s.vm.Alike t.vm → H.size ≤ t.heap.size → (∀ q : Nat, q < H.size → t.heap[q]? = H[q]?) → XC cls s t)
    (hf : ∀ z ∈ locs, free z.base) (hc : cells + 1 ≤ mc) (hs : slots + 6 ≤ ms) :
    W p l e R s m args below meth c H locs cells slots (vx_MQ below Qc XC args s mc ms free) (F0 m pc ls rest) := by
  intro T hT X
  have htr : e.platform.stackTraces = false := (show e.platform.stackTraces = l.stackTraces by rw [X.admits.platform]).trans hl
  have Y := vx_rebase X (R' := { frames := R.frames, locals := R.locals, cells := 1, slots := 6 }) (Nat.le_refl _) (Nat.le_refl _) hRcells hRslots
  obtain ⟨s', hA⟩ : ∃ z, z = (T.setVm s.vm).setFrames (.invoking m args :: below) := ⟨_, rfl⟩
  rw [← hA] at Y
  have hvm : s'.vm = s.vm := by rw [hA]; rfl
  have hhp : s'.heap = H := by rw [hA]; exact hT
  have hW0 : s.WarmedH s'.vm := by rw [hvm]; exact State.WarmedH.refl s
  have hat' : ∀ w ∈ vx_at0 own ic cls names, w.before args s' = true := fun w hw => vx_ot_at hW0 hvm.symm (hgood w (List.mem_cons_of_mem _ (List.mem_cons_of_mem _ hw))) (hat w hw)
  have hk' : (Cond.classLink own ik cls).before args s' = true := vx_ot_at hW0 hvm.symm (hgood _ List.mem_cons_self) hk
  have hini' : (Cond.initialized cls).before args s' = true := vx_ot_at hW0 hvm.symm (hgood _ (List.mem_cons_of_mem _ List.mem_cons_self)) hini
  have hU' : vx_Zq Bundle.tN "UNASSIGNED_STACK" Bundle.steD A s' s'.heap := by rw [hhp]; exact vx_Zq.moved hW0.alike (hU.kept hS.2.1)
  have hN' : vx_Zq Bundle.tN "SUPPRESSED_SENTINEL" Bundle.listD A s' s'.heap := by rw [hhp]; exact vx_Zq.moved hW0.alike (hN.kept hS.2.1)
  have h : ∀ w ∈ Bundle.ownAtoms0 own ic cls names, w.before args s' = true := vx_own hat' (vx_isRefq hU'.1) (vx_isRefq hN'.1) hU'.2.word hN'.2.word
  have hown' : s'.vm.findClass own = some m.cls := by rw [hvm]; exact hown
  have hins : (Cond.instantiable cls 6).before args s' = true := h _ (by simp [Bundle.ownAtoms0])
  obtain ⟨vm₁, cX, kX, hfX, hkX, -, -, X₁, st1⟩ := Y.newCold hexec (own := own) (C := cls) (index := ik) (n := 6) hown' hk' hins hini'
    (g := F0 m pc ls rest) rfl (by rw [hb]; exact d0) (Nat.le_refl _) (Nat.le_refl _)
  generalize hT1 : (T.setVm vm₁).pushCell { cls := cX, slots := kX.instanceTypes.map defaultValue, vm := .none } = T1 at X₁ st1
  have hcat : (Value.ref T.heap.size).category = 1 := rfl
  have hcellA : T1.heap[T.heap.size]? = some (freshCell cX kX) := by rw [← hT1]; exact State.heap_pushCell_size _ _
  have d3' : decode c.code (pc + 3) = .ok (.dup, 1) := by rw [hb]; exact d3
  obtain ⟨U, hsteps, hrun, hend, hW, hsame, ce, hce, hO⟩ := X₁.ctorThrow0 hexec htr (own := own) (cls := cls) (names := names) (ic := ic) hown' hcls hnames h (fun x hx => nomatch hx) hfX hkX hcellA (by rw [hhp, hT]; exact Nat.le_refl _)
    (g := { method := m, pc := pc + 4, locals := ls, stack := .ref T.heap.size :: .ref T.heap.size :: rest, locked := none }) rfl hsize rfl rfl (rest := rest) rfl
    (by rw [hb]; exact d4) (by rw [hb]; exact d7) hout hRframes (by simp only [List.map_cons, List.sum_cons, hcat]; omega) hlocks
  obtain ⟨f1, f2⟩ := vx_frame hsame
  rw [hhp] at f1 f2
  have hWs : s.WarmedH U.vm := State.WarmedH.trans hW0 hW
  have hcl : s.vm.findClass cls = some ce.cls := by
    have h9 := hO.cls
    rw [hvm] at h9
    exact h9
  have hall : s.sameButNew ({ U with vm := s.vm } : State) locs mc ms := by
    subst hA
    obtain ⟨e1, e2⟩ := hsame
    rw [State.setFrames_setFrames] at e1
    have h2 : (T.setVm s.vm).sameButNew ({ U with vm := s.vm } : State) [] (0 + 1) (0 + 6) := ⟨e1, e2⟩
    have h3 := X.same.trans h2
    rw [List.append_nil] at h3
    exact h3.mono hc hs
  refine ⟨U, ?_, .threw T.heap.size, hrun, hend, Or.inr ⟨T.heap.size, rfl, cls, ce, locs, hx U hWs.alike f1 (fun q hq => f2 q hq (fun z hz => nomatch hz)), hce, hO.vm, hcl, hWs, hall, hf⟩⟩
  refine st1 _ ?_
  show Steps p.tables e below (T1.setTop { method := m, pc := pc + 3, locals := ls, stack := .ref T.heap.size :: rest, locked := none }) _
  jvm_step X₁.here [X₁.here.top, hexec, d3', Value.category]
  exact hsteps
/-- 'throw new E("text")': new; dup; ldc; invokespecial; athrow -/
theorem vx_throwS {cc : ByteArray} {pc : Nat} (hexec : p.tables.exec = Jvm.exec) (hb : c.code = cc) (hl : l.stackTraces = false) {own cls text : String} {names : List String} {ik is ic mc ms sa : Nat} {A : Nat → Prop}
    (hown : s.vm.findClass own = some m.cls) (hcls : Bundle.fit cls = true) (hnames : ∀ n ∈ names, Bundle.fit n = true)
    (hk : (Cond.classLink own ik cls).before args s = true) (hini : (Cond.initialized cls).before args s = true) (hstr : vk_R own is text sa s) (hat : ∀ w ∈ vx_atS own ic cls names, w.before args s = true)
    (hgood : ∀ w ∈ Cond.classLink own ik cls :: Cond.initialized cls :: vx_atS own ic cls names, vx_ot w = true)
    (hU : vx_Zq Bundle.tN "UNASSIGNED_STACK" Bundle.steD A s s.heap) (hN : vx_Zq Bundle.tN "SUPPRESSED_SENTINEL" Bundle.listD A s s.heap) (hS : va_S A s.heap H locs) (hsize : ls.size = c.maxLocals)
    (d0 : decode cc pc = .ok (.new ik, 3)) (d3 : decode cc (pc + 3) = .ok (.dup, 1)) (d4 : decode cc (pc + 4) = .ok (.ldc is, 2)) (d6 : decode cc (pc + 6) = .ok (.invokespecial ic, 3)) (d9 : decode cc (pc + 9) = .ok (.athrow, 1))
    (hout : ∀ x ∈ c.exceptionTable.toList, covers x (pc + 9) = false)
    (hRframes : names.length + 3 < R.frames) (hRlocals : (rest.map fun v => v.category).sum + (13 * (names.length + 1) + 43) ≤ R.locals) (hRcells : cells + 1 ≤ R.cells) (hRslots : slots + 6 ≤ R.slots) (hlocks : meth.locks = false)
    (hx : ∀ t : State, s.vm.Alike t.vm → H.size ≤ t.heap.size → (∀ q : Nat, q < H.size → t.heap[q]? = H[q]?) → XC cls s t)
    (hf : ∀ z ∈ locs, free z.base) (hc : cells + 1 ≤ mc) (hs : slots + 6 ≤ ms) :
    W p l e R s m args below meth c H locs cells slots (vx_MQ below Qc XC args s mc ms free) (F0 m pc ls rest) := by
  intro T hT X
  have htr : e.platform.stackTraces = false := (show e.platform.stackTraces = l.stackTraces by rw [X.admits.platform]).trans hl
  have Y := vx_rebase X (R' := { frames := R.frames, locals := R.locals, cells := 1, slots := 6 }) (Nat.le_refl _) (Nat.le_refl _) hRcells hRslots
  obtain ⟨s', hA⟩ : ∃ z, z = (T.setVm s.vm).setFrames (.invoking m args :: below) := ⟨_, rfl⟩
  rw [← hA] at Y
  have hvm : s'.vm = s.vm := by rw [hA]; rfl
  have hhp : s'.heap = H := by rw [hA]; exact hT
  have hW0 : s.WarmedH s'.vm := by rw [hvm]; exact State.WarmedH.refl s
  have hat' : ∀ w ∈ vx_atS own ic cls names, w.before args s' = true := fun w hw => vx_ot_at hW0 hvm.symm (hgood w (List.mem_cons_of_mem _ (List.mem_cons_of_mem _ hw))) (hat w hw)
  have hk' : (Cond.classLink own ik cls).before args s' = true := vx_ot_at hW0 hvm.symm (hgood _ List.mem_cons_self) hk
  have hini' : (Cond.initialized cls).before args s' = true := vx_ot_at hW0 hvm.symm (hgood _ (List.mem_cons_of_mem _ List.mem_cons_self)) hini
  have hU' : vx_Zq Bundle.tN "UNASSIGNED_STACK" Bundle.steD A s' s'.heap := by rw [hhp]; exact vx_Zq.moved hW0.alike (hU.kept hS.2.1)
  have hN' : vx_Zq Bundle.tN "SUPPRESSED_SENTINEL" Bundle.listD A s' s'.heap := by rw [hhp]; exact vx_Zq.moved hW0.alike (hN.kept hS.2.1)
  have h : ∀ w ∈ Bundle.ownAtoms own ic cls names, w.before args s' = true := vx_own hat' (vx_isRefq hU'.1) (vx_isRefq hN'.1) hU'.2.word hN'.2.word
  have hown' : s'.vm.findClass own = some m.cls := by rw [hvm]; exact hown
  have hins : (Cond.instantiable cls 6).before args s' = true := h _ (by simp [Bundle.ownAtoms])
  obtain ⟨vm₁, cX, kX, hfX, hkX, -, -, X₁, st1⟩ := Y.newCold hexec (own := own) (C := cls) (index := ik) (n := 6) hown' hk' hins hini'
    (g := F0 m pc ls rest) rfl (by rw [hb]; exact d0) (Nat.le_refl _) (Nat.le_refl _)
  generalize hT1 : (T.setVm vm₁).pushCell { cls := cX, slots := kX.instanceTypes.map defaultValue, vm := .none } = T1 at X₁ st1
  have hcat : (Value.ref T.heap.size).category = 1 := rfl
  have hcellA : T1.heap[T.heap.size]? = some (freshCell cX kX) := by rw [← hT1]; exact State.heap_pushCell_size _ _
  have d3' : decode c.code (pc + 3) = .ok (.dup, 1) := by rw [hb]; exact d3
  have d4' : decode c.code (pc + 4) = .ok (.ldc is, 2) := by rw [hb]; exact d4
  have hstr' : vk_R own is text sa s' := vk_R.warm hW0 hstr
  obtain ⟨U, hsteps, hrun, hend, hW, hsame, ce, hce, hO⟩ := X₁.ctorThrowS hexec htr (own := own) (cls := cls) (names := names) (ic := ic) hown' hcls hnames h (fun x hx => nomatch hx) hfX hkX hcellA (by rw [hhp, hT]; exact Nat.le_refl _) (msg := .ref sa) rfl
    (g := { method := m, pc := pc + 6, locals := ls, stack := .ref sa :: .ref T.heap.size :: .ref T.heap.size :: rest, locked := none }) rfl hsize rfl rfl (rest := rest) rfl
    (by rw [hb]; exact d6) (by rw [hb]; exact d9) hout hRframes (by simp only [List.map_cons, List.sum_cons, hcat]; omega) hlocks
  obtain ⟨f1, f2⟩ := vx_frame hsame
  rw [hhp] at f1 f2
  have hWs : s.WarmedH U.vm := State.WarmedH.trans hW0 hW
  have hcl : s.vm.findClass cls = some ce.cls := by
    have h9 := hO.cls
    rw [hvm] at h9
    exact h9
  have hall : s.sameButNew ({ U with vm := s.vm } : State) locs mc ms := by
    subst hA
    obtain ⟨e1, e2⟩ := hsame
    rw [State.setFrames_setFrames] at e1
    have h2 : (T.setVm s.vm).sameButNew ({ U with vm := s.vm } : State) [] (0 + 1) (0 + 6) := ⟨e1, e2⟩
    have h3 := X.same.trans h2
    rw [List.append_nil] at h3
    exact h3.mono hc hs
  refine ⟨U, ?_, .threw T.heap.size, hrun, hend, Or.inr ⟨T.heap.size, rfl, cls, ce, locs, hx U hWs.alike f1 (fun q hq => f2 q hq (fun z hz => nomatch hz)), hce, hO.vm, hcl, hWs, hall, hf⟩⟩
  refine st1 _ ?_
  show Steps p.tables e below (T1.setTop { method := m, pc := pc + 3, locals := ls, stack := .ref T.heap.size :: rest, locked := none }) _
  jvm_step X₁.here [X₁.here.top, hexec, d3', Value.category]
  exact X₁.ldcString hexec (own := own) (text := text) (index := is) (a := sa) hown' hstr'.1 hstr'.2
    (g := { method := m, pc := pc + 4, locals := ls, stack := .ref T.heap.size :: .ref T.heap.size :: rest, locked := none }) rfl d4' _ hsteps
/-- 'throw new E("text")', the text by a wide index -/
theorem vx_throwSW {cc : ByteArray} {pc : Nat} (hexec : p.tables.exec = Jvm.exec) (hb : c.code = cc) (hl : l.stackTraces = false) {own cls text : String} {names : List String} {ik is ic mc ms sa : Nat} {A : Nat → Prop}
    (hown : s.vm.findClass own = some m.cls) (hcls : Bundle.fit cls = true) (hnames : ∀ n ∈ names, Bundle.fit n = true)
    (hk : (Cond.classLink own ik cls).before args s = true) (hini : (Cond.initialized cls).before args s = true) (hstr : vk_R own is text sa s) (hat : ∀ w ∈ vx_atS own ic cls names, w.before args s = true)
    (hgood : ∀ w ∈ Cond.classLink own ik cls :: Cond.initialized cls :: vx_atS own ic cls names, vx_ot w = true)
    (hU : vx_Zq Bundle.tN "UNASSIGNED_STACK" Bundle.steD A s s.heap) (hN : vx_Zq Bundle.tN "SUPPRESSED_SENTINEL" Bundle.listD A s s.heap) (hS : va_S A s.heap H locs) (hsize : ls.size = c.maxLocals)
    (d0 : decode cc pc = .ok (.new ik, 3)) (d3 : decode cc (pc + 3) = .ok (.dup, 1)) (d4 : decode cc (pc + 4) = .ok (.ldc_w is, 3)) (d7 : decode cc (pc + 7) = .ok (.invokespecial ic, 3)) (d10 : decode cc (pc + 10) = .ok (.athrow, 1))
    (hout : ∀ x ∈ c.exceptionTable.toList, covers x (pc + 10) = false)
    (hRframes : names.length + 3 < R.frames) (hRlocals : (rest.map fun v => v.category).sum + (13 * (names.length + 1) + 43) ≤ R.locals) (hRcells : cells + 1 ≤ R.cells) (hRslots : slots + 6 ≤ R.slots) (hlocks : meth.locks = false)
    (hx : ∀ t : State, s.vm.Alike t.vm → H.size ≤ t.heap.size → (∀ q : Nat, q < H.size → t.heap[q]? = H[q]?) → XC cls s t)
    (hf : ∀ z ∈ locs, free z.base) (hc : cells + 1 ≤ mc) (hs : slots + 6 ≤ ms) :
    W p l e R s m args below meth c H locs cells slots (vx_MQ below Qc XC args s mc ms free) (F0 m pc ls rest) := by
  intro T hT X
  have htr : e.platform.stackTraces = false := (show e.platform.stackTraces = l.stackTraces by rw [X.admits.platform]).trans hl
  have Y := vx_rebase X (R' := { frames := R.frames, locals := R.locals, cells := 1, slots := 6 }) (Nat.le_refl _) (Nat.le_refl _) hRcells hRslots
  obtain ⟨s', hA⟩ : ∃ z, z = (T.setVm s.vm).setFrames (.invoking m args :: below) := ⟨_, rfl⟩
  rw [← hA] at Y
  have hvm : s'.vm = s.vm := by rw [hA]; rfl
  have hhp : s'.heap = H := by rw [hA]; exact hT
  have hW0 : s.WarmedH s'.vm := by rw [hvm]; exact State.WarmedH.refl s
  have hat' : ∀ w ∈ vx_atS own ic cls names, w.before args s' = true := fun w hw => vx_ot_at hW0 hvm.symm (hgood w (List.mem_cons_of_mem _ (List.mem_cons_of_mem _ hw))) (hat w hw)
  have hk' : (Cond.classLink own ik cls).before args s' = true := vx_ot_at hW0 hvm.symm (hgood _ List.mem_cons_self) hk
  have hini' : (Cond.initialized cls).before args s' = true := vx_ot_at hW0 hvm.symm (hgood _ (List.mem_cons_of_mem _ List.mem_cons_self)) hini
  have hU' : vx_Zq Bundle.tN "UNASSIGNED_STACK" Bundle.steD A s' s'.heap := by rw [hhp]; exact vx_Zq.moved hW0.alike (hU.kept hS.2.1)
  have hN' : vx_Zq Bundle.tN "SUPPRESSED_SENTINEL" Bundle.listD A s' s'.heap := by rw [hhp]; exact vx_Zq.moved hW0.alike (hN.kept hS.2.1)
  have h : ∀ w ∈ Bundle.ownAtoms own ic cls names, w.before args s' = true := vx_own hat' (vx_isRefq hU'.1) (vx_isRefq hN'.1) hU'.2.word hN'.2.word
  have hown' : s'.vm.findClass own = some m.cls := by rw [hvm]; exact hown
  have hins : (Cond.instantiable cls 6).before args s' = true := h _ (by simp [Bundle.ownAtoms])
  obtain ⟨vm₁, cX, kX, hfX, hkX, -, -, X₁, st1⟩ := Y.newCold hexec (own := own) (C := cls) (index := ik) (n := 6) hown' hk' hins hini'
    (g := F0 m pc ls rest) rfl (by rw [hb]; exact d0) (Nat.le_refl _) (Nat.le_refl _)
  generalize hT1 : (T.setVm vm₁).pushCell { cls := cX, slots := kX.instanceTypes.map defaultValue, vm := .none } = T1 at X₁ st1
  have hcat : (Value.ref T.heap.size).category = 1 := rfl
  have hcellA : T1.heap[T.heap.size]? = some (freshCell cX kX) := by rw [← hT1]; exact State.heap_pushCell_size _ _
  have d3' : decode c.code (pc + 3) = .ok (.dup, 1) := by rw [hb]; exact d3
  have d4' : decode c.code (pc + 4) = .ok (.ldc_w is, 3) := by rw [hb]; exact d4
  have hstr' : vk_R own is text sa s' := vk_R.warm hW0 hstr
  obtain ⟨U, hsteps, hrun, hend, hW, hsame, ce, hce, hO⟩ := X₁.ctorThrowS hexec htr (own := own) (cls := cls) (names := names) (ic := ic) hown' hcls hnames h (fun x hx => nomatch hx) hfX hkX hcellA (by rw [hhp, hT]; exact Nat.le_refl _) (msg := .ref sa) rfl
    (g := { method := m, pc := pc + 7, locals := ls, stack := .ref sa :: .ref T.heap.size :: .ref T.heap.size :: rest, locked := none }) rfl hsize rfl rfl (rest := rest) rfl
    (by rw [hb]; exact d7) (by rw [hb]; exact d10) hout hRframes (by simp only [List.map_cons, List.sum_cons, hcat]; omega) hlocks
  obtain ⟨f1, f2⟩ := vx_frame hsame
  rw [hhp] at f1 f2
  have hWs : s.WarmedH U.vm := State.WarmedH.trans hW0 hW
  have hcl : s.vm.findClass cls = some ce.cls := by
    have h9 := hO.cls
    rw [hvm] at h9
    exact h9
  have hall : s.sameButNew ({ U with vm := s.vm } : State) locs mc ms := by
    subst hA
    obtain ⟨e1, e2⟩ := hsame
    rw [State.setFrames_setFrames] at e1
    have h2 : (T.setVm s.vm).sameButNew ({ U with vm := s.vm } : State) [] (0 + 1) (0 + 6) := ⟨e1, e2⟩
    have h3 := X.same.trans h2
    rw [List.append_nil] at h3
    exact h3.mono hc hs
  refine ⟨U, ?_, .threw T.heap.size, hrun, hend, Or.inr ⟨T.heap.size, rfl, cls, ce, locs, hx U hWs.alike f1 (fun q hq => f2 q hq (fun z hz => nomatch hz)), hce, hO.vm, hcl, hWs, hall, hf⟩⟩
  refine st1 _ ?_
  show Steps p.tables e below (T1.setTop { method := m, pc := pc + 3, locals := ls, stack := .ref T.heap.size :: rest, locked := none }) _
  jvm_step X₁.here [X₁.here.top, hexec, d3', Value.category]
  exact X₁.ldcStringW hexec (own := own) (text := text) (index := is) (a := sa) hown' hstr'.1 hstr'.2
    (g := { method := m, pc := pc + 4, locals := ls, stack := .ref T.heap.size :: .ref T.heap.size :: rest, locked := none }) rfl d4' _ hsteps
end Ends
section Bodies
variable {l : Launch}
theorem vx_ofW {y : MethodName} {ws ws' : List Cond} {rm : Room} {Pc : Array Value → State → Prop} {Qc : Array Value → State → Outcome → State → Prop} {XC : String → State → State → Prop} {mc ms : Nat} {free : Addr → Prop} {cc : ByteArray} {maxL : Nat} {ret : Option FieldType}
    (hy : plainName y.cls = true) (hw : ws = Cond.code y cc maxL ret :: ws')
    (body : ∀ p e s m args below meth c s₁, BodyLoose p l y (headSpec ws rm) cc maxL ret e s m args below meth c s₁ → c.maxLocals = maxL → (∀ x ∈ c.exceptionTable.toList, False) → Pc args s →
      W p l e (headSpec ws rm).room s m args below meth c s.heap [] 0 0 (vx_MQ below Qc XC args s mc ms free) (entryFrame m args maxL)) : vx_Met l y ws rm Pc Qc XC mc ms free := by
  refine MetFree.of_bodyS (code := cc) (maxLocals := maxL) (ret := ret) hy ?_ ?_
  · intro args s m h hn
    obtain ⟨meth, c, h1, h2, h3, h4, h5, h6, -, -⟩ := Cond.code_spec hn (atoms_spec (ws := ws) h _ (by rw [hw]; exact List.mem_cons_self))
    exact ⟨meth, c, h1, h2, h3, h4, h5, h6⟩
  · intro p e s m args below meth c s₁ B hml hP _
    have hh0 : s₁.heap = s.heap := by rw [B.state]; rfl
    have ht : ∀ x ∈ c.exceptionTable.toList, False := by
      obtain ⟨meth9, c9, h1, h2, -, -, -, -, h7, -⟩ := Cond.code_spec B.named (atoms_spec (ws := ws) B.pre _ (by rw [hw]; exact List.mem_cons_self))
      cases Option.some.inj (h1.symm.trans B.method)
      cases Option.some.inj (h2.symm.trans (Stand.of_body B).code)
      intro x hx
      rw [Array.isEmpty_iff.mp h7] at hx
      cases hx
    obtain ⟨t, a1, o, b1, b2, b3⟩ := body p e s m args below meth c s₁ B hml ht hP s₁ hh0 (Stand.of_body B)
    exact ⟨t, o, a1, b1, b2, b3⟩
/-- the table of a body with handlers -/
theorem vx_table {p : Program} {x y : MethodName} {S : Spec} {cc bytes : ByteArray} {maxL maxL' : Nat} {ret ret' : Option FieldType} {e : Env} {s s₁ : State} {m : MethodId} {args : Array Value} {below : List Frame} {meth : Method} {c : Code} {hh : List (Nat × Nat × Nat × Nat)}
    (B : BodyLoose p l y S cc maxL ret e s m args below meth c s₁) (h : (Cond.codeWith y bytes maxL' ret' hh).before args s = true) : c.exceptionTable.toList = tableOf hh := by
  obtain ⟨m9, meth9, c9, hn9, h1, h2, -, -, h6, -⟩ := Cond.codeWith_spec h
  cases Option.some.inj (hn9.symm.trans B.named)
  cases Option.some.inj (h1.symm.trans B.method)
  cases Option.some.inj (h2.symm.trans (Stand.of_body B).code)
  rw [← h6, table_eq]
end Bodies
end VXA
/-! ===== END ===== -/
/-! ===== BEGIN a static call of a method with an exception table ===== -/
section VXS
variable {p : Program} {l : Launch} {e : Env} {R : Room} {s : State} {m : MethodId} {args : Array Value} {below : List Frame} {meth : Method} {c : Code} {T : State} {H : Heap} {locs : List Loc} {cells slots : Nat}
abbrev vx_CSW (R : Room) (s : State) (args : Array Value) (own : String) (index : Nat) (y : MethodName) (bytes : ByteArray) (maxL : Nat) (ret : Option FieldType) (hh : List (Nat × Nat × Nat × Nat)) (ws : List Cond) (rm : Room) (mc ms n : Nat) : Prop :=
  (rm.cells = mc ∧ rm.slots = ms ∧ rm.frames + 1 ≤ R.frames ∧ 8 + (maxL + 11) + rm.locals ≤ R.locals ∧ (∀ w ∈ ws, ∀ (a' : Array Value) (U : State), s.WarmedH U.vm → w.before a' U = true) ∧ Cond.codeWith y bytes maxL ret hh ∈ ws) ∧
  (Cond.codeWith y bytes maxL ret hh).before args s = true ∧ (Cond.initialized y.cls).before args s = true ∧ (y.cls ≠ "java/lang/invoke/MethodHandle" ∧ y.cls ≠ "java/lang/invoke/VarHandle") ∧
  (∀ sig, parseMethodDescriptor y.desc = some sig → n = sig.parameters.length) ∧ (Cond.methodLink own index y).before args s = true ∧ (Cond.static y).before args s = true
theorem vx_cwSW {own : String} {index maxL mc ms : Nat} {y : MethodName} {bytes : ByteArray} {ret : Option FieldType} {hh : List (Nat × Nat × Nat × Nat)} {Ts ws ws' : List Cond} {rm : Room} (n : Nat) (ht : ∀ w ∈ Ts, w.before args s = true) (hT : GoodIn Ts (va_wsS own index y ws)) (hw : ws = Cond.codeWith y bytes maxL ret hh :: ws') (hrc : rm.cells = mc) (hrs : rm.slots = ms)
    (hd : y.cls ≠ "java/lang/invoke/MethodHandle" ∧ y.cls ≠ "java/lang/invoke/VarHandle" ∧ (parseMethodDescriptor y.desc).map (fun d => d.parameters.length) = some n) (hR : rm.frames + 1 ≤ R.frames ∧ 8 + (maxL + 11) + rm.locals ≤ R.locals) :
    vx_CSW R s args own index y bytes maxL ret hh ws rm mc ms n := by
  have ok : ∀ w ∈ va_wsS own index y ws, w.before args s = true := fun w h => ht w (hT w h).1
  have hG : GoodIn Ts ws := fun w h => hT w (by unfold va_wsS; exact List.mem_append_right _ h)
  have hc : Cond.codeWith y bytes maxL ret hh ∈ ws := by rw [hw]; exact List.mem_cons_self
  refine ⟨⟨hrc, hrs, hR.1, hR.2, pay_in ht hG, hc⟩, ht _ (hG _ hc).1, ok _ (by simp [va_wsS]), ⟨hd.1, hd.2.1⟩, fun sig h => ?_, ok _ (by simp [va_wsS]), ok _ (by simp [va_wsS])⟩
  have h2 := hd.2.2
  rw [h] at h2
  exact (Option.some.inj h2).symm
theorem vx_callSW (X : Stand p l e R s m args below meth c T locs cells slots) (hexec : p.tables.exec = Jvm.exec) {own : String} {index : Nat} {y : MethodName} {bytes : ByteArray} {maxL : Nat} {ret : Option FieldType} {hh : List (Nat × Nat × Nat × Nat)}
    (hown : s.vm.findClass own = some m.cls) (hlink : (Cond.methodLink own index y).before args s = true) (hstat : (Cond.static y).before args s = true) (hinit : (Cond.initialized y.cls).before args s = true)
    (hcode : (Cond.codeWith y bytes maxL ret hh).before args s = true) (hy : y.cls ≠ "java/lang/invoke/MethodHandle" ∧ y.cls ≠ "java/lang/invoke/VarHandle")
    {W9 : Nat} {Pre : Pt → Array Value → Prop} {Post : Pt → Array Value → Option Value → Pt → Prop} (hK : Back l R p e below s args y 3 W9 Pre Post)
    {g : JFrame} (hg : g.method = m) (hsize : g.locals.size = c.maxLocals) {argsL rest : List Value} (hlen : ∀ sig, parseMethodDescriptor y.desc = some sig → argsL.length = sig.parameters.length)
    (hstack : g.stack = argsL.reverse ++ rest) (hW : 2 * g.monitorRoom + (rest.map fun v => v.category).sum ≤ W9) (hdg : decode c.code g.pc = .ok (.invokestatic index, 3))
    (hpre : ∀ vm₁, s.WarmedH vm₁ → Pre ⟨T.setVm vm₁, locs, cells, slots⟩ argsL.toArray) :
    ∃ (v : Option Value) (vm₁ : Vm) (B : Pt), s.WarmedH vm₁ ∧ Stand p l e R s m args below meth c B.U B.locs B.cells B.slots ∧ Post ⟨T.setVm vm₁, locs, cells, slots⟩ argsL.toArray v B ∧
      ∀ target, Steps p.tables e below (B.U.setTop { g with pc := g.pc + 3, stack := v.toList ++ rest }) target → Steps p.tables e below (T.setTop g) target := by
  obtain ⟨mk, methM, cM, hnamed, hmethM, -, -, -, -, -, -, hsigM⟩ := Cond.codeWith_spec hcode
  have hstatic : methM.isStatic = true := Cond.static_spec hnamed hmethM hstat
  obtain ⟨kP, hkP, -⟩ := className_of_methodNamed hnamed
  have hinitP : kP.init = .initialized := Cond.initialized_spec (findClass_of_methodNamed hnamed) hkP hinit
  obtain ⟨vm₁, X₁, hstep₁⟩ := X.invokestatic hexec hown hlink hnamed hmethM hstatic hkP hinitP hy (g := g) hg (argsL := argsL) (rest := rest) (hlen _ hsigM) hstack hdg
  obtain ⟨v, B, X', hpost, hsteps⟩ := hK m meth c ⟨T.setVm vm₁, locs, cells, slots⟩ { g with stack := rest } (.invokestatic index) mk argsL.toArray X₁ hg hsize hdg hW (X₁.named hnamed) (hpre vm₁ X₁.warmed)
  exact ⟨v, vm₁, B, X₁.warmed, X', hpost, fun target h => hstep₁ _ fun acts => by rw [doInvoke_state]; exact hsteps.trans h⟩
theorem vx_runSW {y : MethodName} {bytes cc : ByteArray} {maxL nL mc ms n index : Nat} {ret : Option FieldType} {hh : List (Nat × Nat × Nat × Nat)} {ws : List Cond} {rm : Room} {Pc : Array Value → State → Prop} {Qc : Array Value → State → Outcome → State → Prop} {free : Addr → Prop} {Ts : List Cond} {own : String} {As rest : List Value} {g : JFrame}
    (S : CallFix p m c cc nL s args Ts own) (hM : Met l y ws rm Pc Qc mc ms free) (cw : vx_CSW R s args own index y bytes maxL ret hh ws rm mc ms n) (hp : PreS s H Pc As)
    (hg : g.method = m) (hn : As.length = n) (hsize : g.locals.size = nL) (hstack : g.stack = As.reverse ++ rest) (hW : 2 * g.monitorRoom + (rest.map fun v => v.category).sum ≤ 8) (hdg : decode cc g.pc = .ok (.invokestatic index, 3)) (hf : cells + mc ≤ R.cells ∧ slots + ms ≤ R.slots) :
    va_Run p l e R s m args below meth c H locs cells slots mc ms g rest (Qc As.toArray) (free) := by
  obtain ⟨⟨hrc, hrs, hfr, hlo, hws, hcw⟩, hcode, hini, hy, hlen, hl, hstt⟩ := cw
  have hK : Back l R p e below s args y 3 8 (PreOf R mc ms Pc) (PostOf Qc mc ms free) := va_backW (hh := hh) (bytes := bytes) (maxL := maxL) (ret := ret) hM hp.1 hrc hrs hfr hlo hws hcw (fun a' U hW => word_at hW (Or.inl (by first | rfl | simp [Cond.onTables, Cond.keeps, Cond.steady])) hini)
  obtain ⟨hx, hb, hml, ho, -⟩ := S
  intro T hT X
  obtain ⟨v, vm₁, ⟨U', l2, c2, s2⟩, hW₁, X', ⟨g', mk, t, L, e1, e2, hq, h1, hL, h2, h3⟩, st⟩ := vx_callSW X hx (hh := hh) (bytes := bytes) (maxL := maxL) (ret := ret) ho hl hstt hini hcode hy hK hg (hsize.trans hml.symm) (argsL := As) (rest := rest) (fun sig h => hn.trans (hlen sig h)) hstack hW (by rw [hb]; exact hdg)
    (fun vm₁ hW₁ => ⟨hf.1, hf.2, hp.2 (T.setVm vm₁) hT hW₁⟩)
  dsimp only [Pt.U, Pt.locs, Pt.cells, Pt.slots] at X' e1 e2 h1 h2 h3 st
  subst h1; subst h2; subst h3
  exact ⟨v, (T.setVm vm₁).calling g' mk As.toArray, t, U', L, hT, X', hL, e1, e2, hq, st⟩
/-- not caught here, past rows that name other classes: it goes on to the caller -/
theorem vx_outP {p : Program} {l : Launch} {e : Env} {R : Room} {s : State} {m : MethodId} {args : Array Value} {below : List Frame} {meth : Method} {c : Code} {H : Heap} {locs : List Loc} {cells slots : Nat} {free : Addr → Prop} {ls : Array Slot} {rest : List Value} {Qc : Array Value → State → Outcome → State → Prop} {XC : String → State → State → Prop}
    {pc : Nat} {own E : String} {ce : Cell} {q : Addr} {mc ms : Nat} (hown : s.vm.findClass own = some m.cls) (hlocks : meth.locks = false)
    (hpass : ∀ z ∈ c.exceptionTable.toList, covers z pc = false ∨ (z.catchType ≠ 0 ∧ ∃ nm : String, (Cond.classLink own z.catchType nm).before args s = true ∧ va_Nc E nm s)) (hcell : H[q]? = some ce) (hv : ce.vm = .none) (hcl : s.vm.findClass E = some ce.cls)
    (hx : ∀ t : State, t.heap = H → s.vm.Alike t.vm → XC E s t) (hf : ∀ z ∈ locs, free z.base) (hc : cells ≤ mc) (hs : slots ≤ ms) :
    vx_W p l e R s m args below meth c H locs cells slots (vx_MQ below Qc XC args s mc ms free) (F0 m pc ls rest) q := by
  intro T hT X
  have hpl : e.platform.magicAccessors = ({} : Platform).magicAccessors := by rw [X.admits.platform]
  obtain ⟨vm', hW', X', st⟩ := X.outThrough hlocks q (g := F0 m pc ls rest) rfl rfl rfl (cell := ce) (by rw [hT]; exact hcell) (by rw [hv]; rfl)
    (by obtain ⟨k9, h9, -⟩ := Vm.findClass_spec hcl; exact ⟨k9, h9⟩) (fun z hz => by
      rcases hpass z hz with h | ⟨hz0, nm, hl1, hn1⟩
      · exact Or.inl h
      · obtain ⟨c6, hc6, hcl6⟩ := Cond.classLink_spec hown hl1 e.platform hpl
        obtain ⟨a8, b8, h1, h2, h3⟩ := hn1
        cases Option.some.inj (h1.symm.trans hcl)
        cases Option.some.inj (h2.symm.trans hc6)
        exact Or.inr ⟨hz0, _, hcl6, h3⟩)
  obtain ⟨g₀, hfr⟩ := X'.frames_eq
  have hcell9 : ((T.setVm vm').setFrames (.throwing q :: below)).heap[q]? = some ce := by
    show T.heap[q]? = some ce
    rw [hT]; exact hcell
  have hend : Ended ((T.setVm vm').setFrames (.throwing q :: below)) below (.threw q) := State.frames_setFrames _ (State.cur_lt_of_frames hfr)
  refine ⟨(T.setVm vm').setFrames (.throwing q :: below), ?_, .threw q, X'.here.running, hend, Or.inr ⟨q, rfl, E, ce, locs, hx _ hT (X'.ends _).1.alike, hcell9, hv, hcl, (X'.ends _).1, (X'.ends _).2.mono hc hs, hf⟩⟩
  rw [X.pushThrowing_eq]
  exact st
/-- a thing of a world lies in the heap -/
theorem vx_lt {D : va_G} {cl : List vw_C} {ws : va_W} {H1 : Heap} (h : va_P D cl ws H1) {k : Nat} {q : Nat × va_E} (hk : ws[k]? = some q) : q.1 < H1.size := (h k q hk).lt
end VXS
/-! ===== END ===== -/
/-! ===== BEGIN methods with a table of their own: called by a name, returning or throwing ===== -/
section VXH
/-! vx_backW, vx_callVX, vx_callSX, vx_callVW, vx_runVW, vx_runVX, vx_runSX, vx_ofWH follow the same proofs as their sisters above (Free/Laws.lean, Shelf42/LK1.lean); vx_outP calls Shelf42/NT130.lean (outThrough). -/
section
variable {l : Launch} {R : Room} {p : Program} {e : Env} {below : List Frame} {s : State} {sargs : Array Value} {y : MethodName} {len W9 : Nat}
theorem vx_backW {ws : List Cond} {rm : Room} {Pc : Array Value → State → Prop} {Qc : Array Value → State → Outcome → State → Prop} {XC : String → State → State → Prop} {mc ms : Nat} {free : Addr → Prop} {bytes : ByteArray} {maxL : Nat} {ret : Option FieldType} {hh : List (Nat × Nat × Nat × Nat)}
    (hM : vx_Met l y ws rm Pc Qc XC mc ms free) (hblind : FrameBlind Pc) (hrc : rm.cells = mc) (hrs : rm.slots = ms)
    (hframes : rm.frames + 1 ≤ R.frames) (hlocals : W9 + (maxL + 11) + rm.locals ≤ R.locals)
    (hws : ∀ w ∈ ws, ∀ a' U, s.WarmedH U.vm → w.before a' U = true) (hcode : Cond.codeWith y bytes maxL ret hh ∈ ws) (hinit : ∀ a' U, s.WarmedH U.vm → (Cond.initialized y.cls).before a' U = true) :
    vx_Back l R p e below s sargs y len W9 (PreOf R mc ms Pc) (PostOf Qc mc ms free) (vx_Post XC mc ms free) := by
  intro m meth c A g ig mk a X hg hsize hdg hW hn hp
  have h1 : (headSpec ws rm).pre.before a A.U = true := atoms_intro fun w hw => hws w hw _ _ X.warmed
  have h2 : (Cond.codeWith y bytes maxL ret hh).before a A.U = true := hws _ hcode _ _ X.warmed
  have h3 : (Cond.initialized y.cls).before a A.U = true := hinit _ _ X.warmed
  have h4 : A.cells + (headSpec ws rm).room.cells ≤ R.cells := by rw [show (headSpec ws rm).room.cells = mc from hrc]; exact hp.1
  have h5 : A.slots + (headSpec ws rm).room.slots ≤ R.slots := by rw [show (headSpec ws rm).room.slots = ms from hrs]; exact hp.2.1
  have hPc : Pc a (A.U.calling g mk a) := hblind _ _ _ _ hp.2.2
  obtain ⟨U, Ls, c0, s0⟩ := A
  dsimp only [Pt.U, Pt.locs, Pt.cells, Pt.slots] at h1 h2 h3 h4 h5 X hn hPc ⊢
  obtain ⟨m9, methY, cY, hn9, hmY, hcY, -, hlY, -⟩ := Cond.codeWith_spec h2
  cases Option.some.inj (hn9.symm.trans hn)
  obtain ⟨kY, hkY, -⟩ := className_of_methodNamed hn
  have hinitY : kY.init = .initialized := Cond.initialized_spec (findClass_of_methodNamed hn) hkY h3
  have h : At U g.method c below := by rw [hg]; exact X.here
  have hlocals9 : W9 + (maxL + 11) + (headSpec ws rm).room.locals ≤ R.locals := hlocals
  have happ : (headSpec ws rm).appliesLoose y e.platform (U.calling g mk a) = true :=
    Spec.appliesLoose_calling (g := g) h hdg hn hkY hinitY
      (X.room_calling (g := g) (R' := (headSpec ws rm).room) hsize hmY hcY hframes (by rw [hlY]; omega) h4 h5) h1
  obtain ⟨mid, hmid⟩ := h.above
  have hfr : (U.setTop g).frames = (.java g :: mid) ++ below := by rw [State.frames_setTop' g h.top, hmid]; rfl
  obtain ⟨o, s₂, hsteps, -, hend, hq⟩ := Steps.callFree hM p X.admits X.cas X.clock (acts := []) hfr happ hPc trivial
  have hq' : vx_Q Qc XC mc ms free a (U.calling g mk a) o s₂ := hq
  rw [State.frames_setTop' g h.top] at hend
  obtain ⟨g₀, hg0⟩ := Option.isSome_iff_exists.mp h.top
  obtain ⟨r, hr⟩ := State.topJava?_eq_some.mp hg0
  have hr' : (({ U with heap := s₂.heap, slotsUsed := s₂.slotsUsed } : State).setVm s₂.vm).frames = .java g₀ :: r := hr
  rcases hq' with ⟨hqc, L, hfe, hL⟩ | ⟨q, rfl, E, ce, L, hx, hce, hcv, hcl, hW₂, hsm, hL⟩
  · obtain ⟨⟨v, rfl⟩, hW₂, e2, q2, q3, q4, q5, q6⟩ := id hfe
    have e3 : s₂ = ({ (U.calling g mk a).setFrames s₂.frames with heap := s₂.heap, slotsUsed := s₂.slotsUsed } : State).setVm s₂.vm := by
      have : s₂ = ({ s₂ with vm := (U.calling g mk a).vm } : State).setVm s₂.vm := rfl
      rw [e2] at this
      exact this
    obtain ⟨c₂, i₂, len₂, hc₂, hd₂, hf₂⟩ := hend
    have hW' : U.WarmedH s₂.vm := hW₂
    have hcc : c₂ = c := by
      have h1 : s₂.code? g.method = U.code? g.method := by
        rw [State.code?_eq, State.code?_eq, hW'.alike.method?]
      exact Option.some.inj (hc₂.symm.trans (h1.trans h.code))
    subst hcc
    have hlen : len₂ = len := by rw [hdg] at hd₂; cases hd₂; rfl
    subst hlen
    have hs₂ : s₂ = (({ U with heap := s₂.heap, slotsUsed := s₂.slotsUsed } : State).setVm s₂.vm).setTop { g with pc := g.pc + len₂, stack := v.toList ++ g.stack } := by
      refine e3.trans ?_
      rw [hf₂, State.calling_eq h.top, State.setFrames_setFrames, State.setTop_of_frames _ hr', hr]
      rfl
    have hsame : U.sameButNew ({ U with heap := s₂.heap, slotsUsed := s₂.slotsUsed } : State) L mc ms := by
      refine ⟨?_, q2, q3, q4, q5, q6⟩
      obtain ⟨t, ht, -⟩ := State.frames_cons hr
      show ({ U with heap := s₂.heap, slotsUsed := s₂.slotsUsed } : State) = { U.setFrames U.frames with heap := s₂.heap, slotsUsed := s₂.slotsUsed }
      rw [State.setFrames_self ht]
    subst hg
    refine Or.inl ⟨v, ⟨(({ U with heap := s₂.heap, slotsUsed := s₂.slotsUsed } : State).setVm s₂.vm), Ls ++ L, c0 + mc, s0 + ms⟩,
      ⟨X.admits, X.cas, X.clock, X.frames, X.room, X.hears, X.method, X.code, (X.here.setHeapUsed s₂.heap s₂.slotsUsed).setVm hW'.alike, X.tail, State.WarmedH.trans X.warmed hW', X.limits, X.bytes, X.same.trans (hsame.setVm s.vm)⟩,
      ⟨g, mk, s₂, L, rfl, rfl, hqc, rfl, hL, rfl, rfl⟩, ?_⟩
    show Steps p.tables e below _ ((({ U with heap := s₂.heap, slotsUsed := s₂.slotsUsed } : State).setVm s₂.vm).setTop { g with pc := g.pc + len₂, stack := v.toList ++ g.stack })
    rw [← hs₂]
    exact hsteps
  · obtain ⟨e2, q2, q3, q4, q5, q6⟩ := id hsm
    have e3 : s₂ = ({ (U.calling g mk a).setFrames s₂.frames with heap := s₂.heap, slotsUsed := s₂.slotsUsed } : State).setVm s₂.vm := by
      have : s₂ = ({ s₂ with vm := (U.calling g mk a).vm } : State).setVm s₂.vm := rfl
      rw [e2] at this
      exact this
    have hf₂ : s₂.frames = .throwing q :: .java g :: U.frames.tail := hend
    have hW' : U.WarmedH s₂.vm := hW₂
    have hs₂ : s₂ = ((({ U with heap := s₂.heap, slotsUsed := s₂.slotsUsed } : State).setVm s₂.vm).setTop g).pushFrame (.throwing q) := by
      refine e3.trans ?_
      rw [hf₂, State.calling_eq h.top, State.setFrames_setFrames, State.pushFrame, State.frames_setTop _ hr', State.setTop_of_frames _ hr', State.setFrames_setFrames, hr]
      rfl
    have hsame : U.sameButNew ({ U with heap := s₂.heap, slotsUsed := s₂.slotsUsed } : State) L mc ms := by
      refine ⟨?_, q2, q3, q4, q5, q6⟩
      obtain ⟨t, ht, -⟩ := State.frames_cons hr
      show ({ U with heap := s₂.heap, slotsUsed := s₂.slotsUsed } : State) = { U.setFrames U.frames with heap := s₂.heap, slotsUsed := s₂.slotsUsed }
      rw [State.setFrames_self ht]
    subst hg
    refine Or.inr ⟨q, ⟨(({ U with heap := s₂.heap, slotsUsed := s₂.slotsUsed } : State).setVm s₂.vm), Ls ++ L, c0 + mc, s0 + ms⟩,
      ⟨X.admits, X.cas, X.clock, X.frames, X.room, X.hears, X.method, X.code, (X.here.setHeapUsed s₂.heap s₂.slotsUsed).setVm hW'.alike, X.tail, State.WarmedH.trans X.warmed hW', X.limits, X.bytes, X.same.trans (hsame.setVm s.vm)⟩,
      ⟨g, mk, s₂, L, E, ce, rfl, rfl, hx, hce, hcv, hcl, rfl, hL, rfl, rfl⟩, ?_⟩
    show Steps p.tables e below _ (((({ U with heap := s₂.heap, slotsUsed := s₂.slotsUsed } : State).setVm s₂.vm).setTop g).pushFrame (.throwing q))
    rw [← hs₂]
    exact hsteps
end
variable {p : Program} {l : Launch} {e : Env} {R : Room} {s : State} {m : MethodId} {args : Array Value} {below : List Frame} {meth : Method} {c : Code} {T : State} {H : Heap} {locs : List Loc} {cells slots : Nat}
theorem vx_callVX (X : Stand p l e R s m args below meth c T locs cells slots) (hexec : p.tables.exec = Jvm.exec) {own C : String} {index : Nat} {y : MethodName} {bytes : ByteArray} {maxL : Nat} {ret : Option FieldType} {hh : List (Nat × Nat × Nat × Nat)}
    (hown : s.vm.findClass own = some m.cls) (hlink : (Cond.methodLink own index y).before args s = true) (hinst : (Cond.instanceMethod y).before args s = true) (hsel : (Cond.selects C y y).before args s = true)
    (hcode : (Cond.codeWith y bytes maxL ret hh).before args s = true) (hy : y.cls ≠ "java/lang/invoke/MethodHandle" ∧ y.cls ≠ "java/lang/invoke/VarHandle")
    {W9 : Nat} {Pre : Pt → Array Value → Prop} {Post : Pt → Array Value → Option Value → Pt → Prop} {PostX : Pt → Array Value → Addr → Pt → Prop} (hK : vx_Back l R p e below s args y 3 W9 Pre Post PostX)
    {b : Addr} {cellB : Cell} (hcell : T.heap[b]? = some cellB) (hobj : cellB.vm.isStatics = false) (hcls : s.vm.findClass C = some cellB.cls)
    {g : JFrame} (hg : g.method = m) (hsize : g.locals.size = c.maxLocals) {argsL rest : List Value} (hlen : ∀ sig, parseMethodDescriptor y.desc = some sig → argsL.length = sig.parameters.length)
    (hstack : g.stack = argsL.reverse ++ .ref b :: rest) (hW : 2 * g.monitorRoom + (rest.map fun v => v.category).sum ≤ W9) (hdg : decode c.code g.pc = .ok (.invokevirtual index, 3))
    (hpre : ∀ vm₁, s.WarmedH vm₁ → Pre ⟨T.setVm vm₁, locs, cells, slots⟩ (Value.ref b :: argsL).toArray) :
    (∃ (v : Option Value) (vm₁ : Vm) (B : Pt), s.WarmedH vm₁ ∧ Stand p l e R s m args below meth c B.U B.locs B.cells B.slots ∧ Post ⟨T.setVm vm₁, locs, cells, slots⟩ (Value.ref b :: argsL).toArray v B ∧
      ∀ target, Steps p.tables e below (B.U.setTop { g with pc := g.pc + 3, stack := v.toList ++ rest }) target → Steps p.tables e below (T.setTop g) target) ∨
    (∃ (q : Addr) (vm₁ : Vm) (B : Pt), s.WarmedH vm₁ ∧ Stand p l e R s m args below meth c B.U B.locs B.cells B.slots ∧ PostX ⟨T.setVm vm₁, locs, cells, slots⟩ (Value.ref b :: argsL).toArray q B ∧
      Steps p.tables e below (T.setTop g) ((B.U.setTop { g with stack := rest }).pushFrame (.throwing q))) := by
  obtain ⟨mk, methM, hnamed, hmethM, hstM, habM⟩ := Cond.instanceMethod_spec hinst
  obtain ⟨m8, methM', cM, hn8, hmethM', -, -, -, -, -, -, hsigM⟩ := Cond.codeWith_spec hcode
  cases Option.some.inj (hn8.symm.trans hnamed)
  cases hmethM.symm.trans hmethM'
  obtain ⟨c2, r2, m2, q1, q2, q3, q4, kP, hkP, hkPi⟩ := Cond.selects_spec hsel
  cases hcls.symm.trans q1
  cases (State.methodFound?_of_named hnamed hy).symm.trans q2
  cases hnamed.symm.trans q3
  have hselP : selectMethod e.platform s.vm cellB.cls mk = .method mk := by rw [Launch.admits_selectMethod X.admits]; exact q4
  obtain ⟨vm₁, X₁, hstep₁⟩ := X.invokevirtual hexec hown hlink hnamed hmethM hstM hkP hkPi hy (a := b) (cell := cellB) hcell
    (fun z h => by rw [h] at hobj; cases hobj) hselP hmethM habM hkP hkPi (g := g) hg (argsL := argsL) (rest := rest) (hlen _ hsigM) hstack hdg
  rcases hK m meth c ⟨T.setVm vm₁, locs, cells, slots⟩ { g with stack := rest } (.invokevirtual index) mk (Value.ref b :: argsL).toArray X₁ hg hsize hdg hW (X₁.named hnamed) (hpre vm₁ X₁.warmed) with ⟨v, B, X', hpost, hsteps⟩ | ⟨q, B, X', hpost, hsteps⟩
  · exact Or.inl ⟨v, vm₁, B, X₁.warmed, X', hpost, fun target h => hstep₁ _ fun acts => by rw [doInvoke_state]; exact hsteps.trans h⟩
  · exact Or.inr ⟨q, vm₁, B, X₁.warmed, X', hpost, hstep₁ _ fun acts => by rw [doInvoke_state]; exact hsteps⟩
theorem vx_callSX (X : Stand p l e R s m args below meth c T locs cells slots) (hexec : p.tables.exec = Jvm.exec) {own : String} {index : Nat} {y : MethodName} {bytes : ByteArray} {maxL : Nat} {ret : Option FieldType} {hh : List (Nat × Nat × Nat × Nat)}
    (hown : s.vm.findClass own = some m.cls) (hlink : (Cond.methodLink own index y).before args s = true) (hstat : (Cond.static y).before args s = true) (hinit : (Cond.initialized y.cls).before args s = true)
    (hcode : (Cond.codeWith y bytes maxL ret hh).before args s = true) (hy : y.cls ≠ "java/lang/invoke/MethodHandle" ∧ y.cls ≠ "java/lang/invoke/VarHandle")
    {W9 : Nat} {Pre : Pt → Array Value → Prop} {Post : Pt → Array Value → Option Value → Pt → Prop} {PostX : Pt → Array Value → Addr → Pt → Prop} (hK : vx_Back l R p e below s args y 3 W9 Pre Post PostX)
    {g : JFrame} (hg : g.method = m) (hsize : g.locals.size = c.maxLocals) {argsL rest : List Value} (hlen : ∀ sig, parseMethodDescriptor y.desc = some sig → argsL.length = sig.parameters.length)
    (hstack : g.stack = argsL.reverse ++ rest) (hW : 2 * g.monitorRoom + (rest.map fun v => v.category).sum ≤ W9) (hdg : decode c.code g.pc = .ok (.invokestatic index, 3))
    (hpre : ∀ vm₁, s.WarmedH vm₁ → Pre ⟨T.setVm vm₁, locs, cells, slots⟩ argsL.toArray) :
    (∃ (v : Option Value) (vm₁ : Vm) (B : Pt), s.WarmedH vm₁ ∧ Stand p l e R s m args below meth c B.U B.locs B.cells B.slots ∧ Post ⟨T.setVm vm₁, locs, cells, slots⟩ argsL.toArray v B ∧
      ∀ target, Steps p.tables e below (B.U.setTop { g with pc := g.pc + 3, stack := v.toList ++ rest }) target → Steps p.tables e below (T.setTop g) target) ∨
    (∃ (q : Addr) (vm₁ : Vm) (B : Pt), s.WarmedH vm₁ ∧ Stand p l e R s m args below meth c B.U B.locs B.cells B.slots ∧ PostX ⟨T.setVm vm₁, locs, cells, slots⟩ argsL.toArray q B ∧
      Steps p.tables e below (T.setTop g) ((B.U.setTop { g with stack := rest }).pushFrame (.throwing q))) := by
  obtain ⟨mk, methM, cM, hnamed, hmethM, -, -, -, -, -, -, hsigM⟩ := Cond.codeWith_spec hcode
  have hstatic : methM.isStatic = true := Cond.static_spec hnamed hmethM hstat
  obtain ⟨kP, hkP, -⟩ := className_of_methodNamed hnamed
  have hinitP : kP.init = .initialized := Cond.initialized_spec (findClass_of_methodNamed hnamed) hkP hinit
  obtain ⟨vm₁, X₁, hstep₁⟩ := X.invokestatic hexec hown hlink hnamed hmethM hstatic hkP hinitP hy (g := g) hg (argsL := argsL) (rest := rest) (hlen _ hsigM) hstack hdg
  rcases hK m meth c ⟨T.setVm vm₁, locs, cells, slots⟩ { g with stack := rest } (.invokestatic index) mk argsL.toArray X₁ hg hsize hdg hW (X₁.named hnamed) (hpre vm₁ X₁.warmed) with ⟨v, B, X', hpost, hsteps⟩ | ⟨q, B, X', hpost, hsteps⟩
  · exact Or.inl ⟨v, vm₁, B, X₁.warmed, X', hpost, fun target h => hstep₁ _ fun acts => by rw [doInvoke_state]; exact hsteps.trans h⟩
  · exact Or.inr ⟨q, vm₁, B, X₁.warmed, X', hpost, hstep₁ _ fun acts => by rw [doInvoke_state]; exact hsteps⟩
theorem vx_callVW (X : Stand p l e R s m args below meth c T locs cells slots) (hexec : p.tables.exec = Jvm.exec) {own C : String} {index : Nat} {y : MethodName} {bytes : ByteArray} {maxL : Nat} {ret : Option FieldType} {hh : List (Nat × Nat × Nat × Nat)}
    (hown : s.vm.findClass own = some m.cls) (hlink : (Cond.methodLink own index y).before args s = true) (hinst : (Cond.instanceMethod y).before args s = true) (hsel : (Cond.selects C y y).before args s = true)
    (hcode : (Cond.codeWith y bytes maxL ret hh).before args s = true) (hy : y.cls ≠ "java/lang/invoke/MethodHandle" ∧ y.cls ≠ "java/lang/invoke/VarHandle")
    {W9 : Nat} {Pre : Pt → Array Value → Prop} {Post : Pt → Array Value → Option Value → Pt → Prop} (hK : Back l R p e below s args y 3 W9 Pre Post)
    {b : Addr} {cellB : Cell} (hcell : T.heap[b]? = some cellB) (hobj : cellB.vm.isStatics = false) (hcls : s.vm.findClass C = some cellB.cls)
    {g : JFrame} (hg : g.method = m) (hsize : g.locals.size = c.maxLocals) {argsL rest : List Value} (hlen : ∀ sig, parseMethodDescriptor y.desc = some sig → argsL.length = sig.parameters.length)
    (hstack : g.stack = argsL.reverse ++ .ref b :: rest) (hW : 2 * g.monitorRoom + (rest.map fun v => v.category).sum ≤ W9) (hdg : decode c.code g.pc = .ok (.invokevirtual index, 3))
    (hpre : ∀ vm₁, s.WarmedH vm₁ → Pre ⟨T.setVm vm₁, locs, cells, slots⟩ (Value.ref b :: argsL).toArray) :
    ∃ (v : Option Value) (vm₁ : Vm) (B : Pt), s.WarmedH vm₁ ∧ Stand p l e R s m args below meth c B.U B.locs B.cells B.slots ∧ Post ⟨T.setVm vm₁, locs, cells, slots⟩ (Value.ref b :: argsL).toArray v B ∧
      ∀ target, Steps p.tables e below (B.U.setTop { g with pc := g.pc + 3, stack := v.toList ++ rest }) target → Steps p.tables e below (T.setTop g) target := by
  obtain ⟨mk, methM, hnamed, hmethM, hstM, habM⟩ := Cond.instanceMethod_spec hinst
  obtain ⟨m8, methM', cM, hn8, hmethM', -, -, -, -, -, -, hsigM⟩ := Cond.codeWith_spec hcode
  cases Option.some.inj (hn8.symm.trans hnamed)
  cases hmethM.symm.trans hmethM'
  obtain ⟨c2, r2, m2, q1, q2, q3, q4, kP, hkP, hkPi⟩ := Cond.selects_spec hsel
  cases hcls.symm.trans q1
  cases (State.methodFound?_of_named hnamed hy).symm.trans q2
  cases hnamed.symm.trans q3
  have hselP : selectMethod e.platform s.vm cellB.cls mk = .method mk := by rw [Launch.admits_selectMethod X.admits]; exact q4
  obtain ⟨vm₁, X₁, hstep₁⟩ := X.invokevirtual hexec hown hlink hnamed hmethM hstM hkP hkPi hy (a := b) (cell := cellB) hcell
    (fun z h => by rw [h] at hobj; cases hobj) hselP hmethM habM hkP hkPi (g := g) hg (argsL := argsL) (rest := rest) (hlen _ hsigM) hstack hdg
  obtain ⟨v, B, X', hpost, hsteps⟩ := hK m meth c ⟨T.setVm vm₁, locs, cells, slots⟩ { g with stack := rest } (.invokevirtual index) mk (Value.ref b :: argsL).toArray X₁ hg hsize hdg hW (X₁.named hnamed) (hpre vm₁ X₁.warmed)
  exact ⟨v, vm₁, B, X₁.warmed, X', hpost, fun target h => hstep₁ _ fun acts => by rw [doInvoke_state]; exact hsteps.trans h⟩
abbrev vx_CVW (R : Room) (s : State) (args : Array Value) (own C : String) (index : Nat) (y : MethodName) (bytes : ByteArray) (maxL : Nat) (ret : Option FieldType) (hh : List (Nat × Nat × Nat × Nat)) (ws : List Cond) (rm : Room) (mc ms n : Nat) : Prop :=
  (rm.cells = mc ∧ rm.slots = ms ∧ rm.frames + 1 ≤ R.frames ∧ 8 + (maxL + 11) + rm.locals ≤ R.locals ∧ (∀ w ∈ ws, ∀ (a' : Array Value) (U : State), s.WarmedH U.vm → w.before a' U = true) ∧ Cond.codeWith y bytes maxL ret hh ∈ ws) ∧
  (Cond.codeWith y bytes maxL ret hh).before args s = true ∧ (Cond.initialized y.cls).before args s = true ∧ (y.cls ≠ "java/lang/invoke/MethodHandle" ∧ y.cls ≠ "java/lang/invoke/VarHandle") ∧
  (∀ sig, parseMethodDescriptor y.desc = some sig → n = sig.parameters.length) ∧ (Cond.methodLink own index y).before args s = true ∧ (Cond.instanceMethod y).before args s = true ∧ (Cond.selects C y y).before args s = true
theorem vx_cwVW {own C : String} {index maxL mc ms : Nat} {y : MethodName} {bytes : ByteArray} {ret : Option FieldType} {hh : List (Nat × Nat × Nat × Nat)} {Ts ws ws' : List Cond} {rm : Room} (n : Nat) (ht : ∀ w ∈ Ts, w.before args s = true) (hT : GoodIn Ts (wsV own index C y ws)) (hw : ws = Cond.codeWith y bytes maxL ret hh :: ws') (hrc : rm.cells = mc) (hrs : rm.slots = ms)
    (hd : y.cls = C ∧ y.cls ≠ "java/lang/invoke/MethodHandle" ∧ y.cls ≠ "java/lang/invoke/VarHandle" ∧ (parseMethodDescriptor y.desc).map (fun d => d.parameters.length) = some n) (hR : rm.frames + 1 ≤ R.frames ∧ 8 + (maxL + 11) + rm.locals ≤ R.locals) :
    vx_CVW R s args own C index y bytes maxL ret hh ws rm mc ms n := by
  obtain ⟨hC, hd⟩ := hd
  subst hC
  have ok : ∀ w ∈ wsV own index y.cls y ws, w.before args s = true := fun w h => ht w (hT w h).1
  have hG : GoodIn Ts ws := fun w h => hT w (by unfold wsV; exact List.mem_append_right _ h)
  have hc : Cond.codeWith y bytes maxL ret hh ∈ ws := by rw [hw]; exact List.mem_cons_self
  refine ⟨⟨hrc, hrs, hR.1, hR.2, pay_in ht hG, hc⟩, ht _ (hG _ hc).1, ok _ (by simp [wsV]), ⟨hd.1, hd.2.1⟩, fun sig h => ?_, ok _ (by simp [wsV]), ok _ (by simp [wsV]), ok _ (by simp [wsV])⟩
  have h2 := hd.2.2
  rw [h] at h2
  exact (Option.some.inj h2).symm
theorem vx_runVW {y : MethodName} {bytes cc : ByteArray} {maxL nL mc ms n index : Nat} {ret : Option FieldType} {hh : List (Nat × Nat × Nat × Nat)} {ws : List Cond} {rm : Room} {Pc : Array Value → State → Prop} {Qc : Array Value → State → Outcome → State → Prop} {free : Addr → Prop} {Ts : List Cond} {own C : String} {b : Addr} {As rest : List Value} {g : JFrame}
    (S : CallFix p m c cc nL s args Ts own) (hM : Met l y ws rm Pc Qc mc ms free) (cw : vx_CVW R s args own C index y bytes maxL ret hh ws rm mc ms n) (hp : PreV s H C b Pc As)
    (hg : g.method = m) (hn : As.length = n) (hsize : g.locals.size = nL) (hstack : g.stack = As.reverse ++ .ref b :: rest) (hW : 2 * g.monitorRoom + (rest.map fun v => v.category).sum ≤ 8) (hdg : decode cc g.pc = .ok (.invokevirtual index, 3)) (hf : cells + mc ≤ R.cells ∧ slots + ms ≤ R.slots) :
    va_Run p l e R s m args below meth c H locs cells slots mc ms g rest (Qc (Value.ref b :: As).toArray) free := by
  obtain ⟨⟨hrc, hrs, hfr, hlo, hws, hcw⟩, hcode, hini, hy, hlen, hl, hin, hse⟩ := cw
  have hK : Back l R p e below s args y 3 8 (PreOf R mc ms Pc) (PostOf Qc mc ms free) := va_backW (hh := hh) (bytes := bytes) (maxL := maxL) (ret := ret) hM hp.1 hrc hrs hfr hlo hws hcw (fun a' U hW => word_at hW (Or.inl (by first | rfl | simp [Cond.onTables, Cond.keeps, Cond.steady])) hini)
  obtain ⟨hx, hb, hml, ho, -⟩ := S
  obtain ⟨-, ⟨cellB, hcB, hoB, hclB⟩, hPc⟩ := hp
  intro T hT X
  obtain ⟨v, vm₁, ⟨U', l2, c2, s2⟩, hW₁, X', ⟨g', mk, t, L, e1, e2, hq, h1, hL, h2, h3⟩, st⟩ := vx_callVW X hx (C := C) (hh := hh) (bytes := bytes) (maxL := maxL) (ret := ret) ho hl hin hse hcode hy hK (by rw [hT]; exact hcB) hoB hclB hg (hsize.trans hml.symm) (argsL := As) (rest := rest) (fun sig h => hn.trans (hlen sig h)) hstack hW (by rw [hb]; exact hdg)
    (fun vm₁ hW₁ => ⟨hf.1, hf.2, hPc (T.setVm vm₁) hT hW₁⟩)
  dsimp only [Pt.U, Pt.locs, Pt.cells, Pt.slots] at X' e1 e2 h1 h2 h3 st
  subst h1; subst h2; subst h3
  exact ⟨v, (T.setVm vm₁).calling g' mk (Value.ref b :: As).toArray, t, U', L, hT, X', hL, e1, e2, hq, st⟩
section
variable {y : MethodName} {bytes cc : ByteArray} {maxL nL mc ms n index : Nat} {ret : Option FieldType} {ws : List Cond} {rm : Room} {Pc : Array Value → State → Prop} {Qc : Array Value → State → Outcome → State → Prop} {XC : String → State → State → Prop} {free : Addr → Prop} {Ts : List Cond} {own C : String} {b : Addr} {As rest : List Value} {g : JFrame}
theorem vx_runVX {hh : List (Nat × Nat × Nat × Nat)} (S : CallFix p m c cc nL s args Ts own) (hM : vx_Met l y ws rm Pc Qc XC mc ms free) (cw : vx_CVW R s args own C index y bytes maxL ret hh ws rm mc ms n) (hp : PreV s H C b Pc As)
    (hg : g.method = m) (hn : As.length = n) (hsize : g.locals.size = nL) (hstack : g.stack = As.reverse ++ .ref b :: rest) (hW : 2 * g.monitorRoom + (rest.map fun v => v.category).sum ≤ 8) (hdg : decode cc g.pc = .ok (.invokevirtual index, 3)) (hf : cells + mc ≤ R.cells ∧ slots + ms ≤ R.slots) :
    vx_Run p l e R s m args below meth c H locs cells slots mc ms g rest (Qc (Value.ref b :: As).toArray) XC free := by
  obtain ⟨⟨hrc, hrs, hfr, hlo, hws, hcw⟩, hcode, hini, hy, hlen, hl, hin, hse⟩ := cw
  have hK : vx_Back l R p e below s args y 3 8 (PreOf R mc ms Pc) (PostOf Qc mc ms free) (vx_Post XC mc ms free) := vx_backW (hh := hh) (bytes := bytes) (maxL := maxL) (ret := ret) hM hp.1 hrc hrs hfr hlo hws hcw (fun a' U hW => word_at hW (Or.inl (by first | rfl | simp [Cond.onTables, Cond.keeps, Cond.steady])) hini)
  obtain ⟨hx, hb, hml, ho, -⟩ := S
  obtain ⟨-, ⟨cellB, hcB, hoB, hclB⟩, hPc⟩ := hp
  intro T hT X
  rcases vx_callVX X hx (C := C) (hh := hh) (bytes := bytes) (maxL := maxL) (ret := ret) ho hl hin hse hcode hy hK (by rw [hT]; exact hcB) hoB hclB hg (hsize.trans hml.symm) (argsL := As) (rest := rest) (fun sig h => hn.trans (hlen sig h)) hstack hW (by rw [hb]; exact hdg)
    (fun vm₁ hW₁ => ⟨hf.1, hf.2, hPc (T.setVm vm₁) hT hW₁⟩) with ⟨v, vm₁, ⟨U', l2, c2, s2⟩, hW₁, X', ⟨g', mk, t, L, e1, e2, hq, h1, hL, h2, h3⟩, st⟩ | ⟨q, vm₁, ⟨U', l2, c2, s2⟩, hW₁, X', ⟨g', mk, t, L, E, ce, e1, e2, hq, hce, hcv, hcl, h1, hL, h2, h3⟩, st⟩
  · dsimp only [Pt.U, Pt.locs, Pt.cells, Pt.slots] at X' e1 e2 h1 h2 h3 st
    subst h1; subst h2; subst h3
    exact Or.inl ⟨v, (T.setVm vm₁).calling g' mk (Value.ref b :: As).toArray, t, U', L, hT, X', hL, e1, e2, hq, st⟩
  · dsimp only [Pt.U, Pt.locs, Pt.cells, Pt.slots] at X' e1 e2 h1 h2 h3 st hcl
    subst h1; subst h2; subst h3
    exact Or.inr ⟨q, (T.setVm vm₁).calling g' mk (Value.ref b :: As).toArray, t, U', L, E, ce, hT, X', hL, e1, e2, hq, hce, hcv, vx_cls hW₁ hcl, st⟩
theorem vx_runSX {hh : List (Nat × Nat × Nat × Nat)} (S : CallFix p m c cc nL s args Ts own) (hM : vx_Met l y ws rm Pc Qc XC mc ms free) (cw : vx_CSW R s args own index y bytes maxL ret hh ws rm mc ms n) (hp : PreS s H Pc As)
    (hg : g.method = m) (hn : As.length = n) (hsize : g.locals.size = nL) (hstack : g.stack = As.reverse ++ rest) (hW : 2 * g.monitorRoom + (rest.map fun v => v.category).sum ≤ 8) (hdg : decode cc g.pc = .ok (.invokestatic index, 3)) (hf : cells + mc ≤ R.cells ∧ slots + ms ≤ R.slots) :
    vx_Run p l e R s m args below meth c H locs cells slots mc ms g rest (Qc As.toArray) XC free := by
  obtain ⟨⟨hrc, hrs, hfr, hlo, hws, hcw⟩, hcode, hini, hy, hlen, hl, hstt⟩ := cw
  have hK : vx_Back l R p e below s args y 3 8 (PreOf R mc ms Pc) (PostOf Qc mc ms free) (vx_Post XC mc ms free) := vx_backW (hh := hh) (bytes := bytes) (maxL := maxL) (ret := ret) hM hp.1 hrc hrs hfr hlo hws hcw (fun a' U hW => word_at hW (Or.inl (by first | rfl | simp [Cond.onTables, Cond.keeps, Cond.steady])) hini)
  obtain ⟨hx, hb, hml, ho, -⟩ := S
  intro T hT X
  rcases vx_callSX X hx (hh := hh) (bytes := bytes) (maxL := maxL) (ret := ret) ho hl hstt hini hcode hy hK hg (hsize.trans hml.symm) (argsL := As) (rest := rest) (fun sig h => hn.trans (hlen sig h)) hstack hW (by rw [hb]; exact hdg)
    (fun vm₁ hW₁ => ⟨hf.1, hf.2, hp.2 (T.setVm vm₁) hT hW₁⟩) with ⟨v, vm₁, ⟨U', l2, c2, s2⟩, hW₁, X', ⟨g', mk, t, L, e1, e2, hq, h1, hL, h2, h3⟩, st⟩ | ⟨q, vm₁, ⟨U', l2, c2, s2⟩, hW₁, X', ⟨g', mk, t, L, E, ce, e1, e2, hq, hce, hcv, hcl, h1, hL, h2, h3⟩, st⟩
  · dsimp only [Pt.U, Pt.locs, Pt.cells, Pt.slots] at X' e1 e2 h1 h2 h3 st
    subst h1; subst h2; subst h3
    exact Or.inl ⟨v, (T.setVm vm₁).calling g' mk As.toArray, t, U', L, hT, X', hL, e1, e2, hq, st⟩
  · dsimp only [Pt.U, Pt.locs, Pt.cells, Pt.slots] at X' e1 e2 h1 h2 h3 st hcl
    subst h1; subst h2; subst h3
    exact Or.inr ⟨q, (T.setVm vm₁).calling g' mk As.toArray, t, U', L, E, ce, hT, X', hL, e1, e2, hq, hce, hcv, vx_cls hW₁ hcl, st⟩
end
end VXH
theorem vx_ofWH {l : Launch} {y : MethodName} {ws ws' : List Cond} {rm : Room} {Pc : Array Value → State → Prop} {Qc : Array Value → State → Outcome → State → Prop} {XC : String → State → State → Prop} {mc ms : Nat} {free : Addr → Prop} {cc : ByteArray} {maxL : Nat} {ret : Option FieldType} {hh : List (Nat × Nat × Nat × Nat)}
    (hy : plainName y.cls = true) (hw : ws = Cond.codeWith y cc maxL ret hh :: ws')
    (body : ∀ p e s m args below meth c s₁, BodyLoose p l y (headSpec ws rm) cc maxL ret e s m args below meth c s₁ → c.maxLocals = maxL → Pc args s →
      W p l e (headSpec ws rm).room s m args below meth c s.heap [] 0 0 (vx_MQ below Qc XC args s mc ms free) (entryFrame m args maxL)) : vx_Met l y ws rm Pc Qc XC mc ms free := by
  refine MetFree.of_bodyS (code := cc) (maxLocals := maxL) (ret := ret) hy ?_ ?_
  · intro args s m h hn
    obtain ⟨m9, meth, c, hn9, h1, h2, h3, h4, -, h5, h6, -⟩ := Cond.codeWith_spec (atoms_spec (ws := ws) h _ (by rw [hw]; exact List.mem_cons_self))
    cases hn.symm.trans hn9
    exact ⟨meth, c, h1, h2, h3, h4, h5, h6⟩
  · intro p e s m args below meth c s₁ B hml hP _
    have hh0 : s₁.heap = s.heap := by rw [B.state]; rfl
    obtain ⟨t, a1, o, b1, b2, b3⟩ := body p e s m args below meth c s₁ B hml hP s₁ hh0 (Stand.of_body B)
    exact ⟨t, o, a1, b1, b2, b3⟩
/-! ===== END ===== -/
end
section
def RX0 : String := "HourglassTag$Game"
def TX0 : u_T := fun k => match k with
  | 0 => ("HourglassTag$Game", "heights", "[I", true)
  | 1 => ("HourglassTag$Game", "lying", "[I", true)
  | 2 => ("HourglassTag$Game", "settings", "[I", true)
  | 3 => ("HourglassTag$Game", "place", "[I", true)
  | 4 => ("HourglassTag$Game", "above", "[I", true)
  | 5 => ("HourglassTag$Game", "below", "[I", true)
  | 6 => ("HourglassTag$Game", "movesMade", "[I", true)
  | 7 => ("HourglassTag$Game", "tagsMade", "[I", true)
  | 8 => ("HourglassTag$Game", "timesTagged", "[I", true)
  | 9 => ("HourglassTag$Game", "grainsPaid", "[I", true)
  | 10 => ("HourglassTag$Game", "players", "I", false)
  | 11 => ("HourglassTag$Game", "onMove", "I", false)
  | 12 => ("HourglassTag$Game", "it", "I", false)
  | 13 => ("HourglassTag$Game", "moves", "I", false)
  | 14 => ("HourglassTag$Game", "refused", "I", false)
  | 15 => ("HourglassTag$Game", "tags", "I", false)
  | _ => ("HourglassTag$Game", "brought", "I", false)
def tyX0 : Nat → FieldType := fun k => match k with
  | 0 => .array .int
  | 1 => .array .int
  | 2 => .array .int
  | 3 => .array .int
  | 4 => .array .int
  | 5 => .array .int
  | 6 => .array .int
  | 7 => .array .int
  | 8 => .array .int
  | 9 => .array .int
  | 10 => .int
  | 11 => .int
  | 12 => .int
  | 13 => .int
  | 14 => .int
  | 15 => .int
  | _ => .int
abbrev wsX00 : List Cond := u_ws RX0 TX0 17
theorem nmX0 : ∀ a, a < 17 → ∀ b, b < 17 → a ≠ b → (TX0 a).2.1 ≠ (TX0 b).2.1 := by decide +kernel
theorem tyX0_ok : ∀ k, k < 17 → parseFieldDescriptor (TX0 k).2.2.1 = some (tyX0 k) := by decide +kernel
abbrev cX0_init : ByteArray := prog_2_method_1_code
def yX0_init : MethodName := ⟨RX0, "<init>", "()V"⟩
abbrev cX0_become : ByteArray := prog_2_method_2_code
def yX0_become : MethodName := ⟨RX0, "become", "(LHourglassTag$Game;)V"⟩
abbrev cX0_hasPlayer : ByteArray := prog_2_method_3_code
def yX0_hasPlayer : MethodName := ⟨RX0, "hasPlayer", "(I)Z"⟩
abbrev cX0_takesMoves : ByteArray := prog_2_method_4_code
def yX0_takesMoves : MethodName := ⟨RX0, "takesMoves", "()Z"⟩
abbrev cX0_addPlayer : ByteArray := prog_2_method_5_code
def yX0_addPlayer : MethodName := ⟨RX0, "addPlayer", "(II)I"⟩
abbrev cX0_sees : ByteArray := prog_2_method_6_code
def yX0_sees : MethodName := ⟨RX0, "sees", "(II)Z"⟩
abbrev cX0_towersSeenFrom : ByteArray := prog_2_method_7_code
def yX0_towersSeenFrom : MethodName := ⟨RX0, "towersSeenFrom", "(I)I"⟩
abbrev cX0_towerThatSeesMost : ByteArray := prog_2_method_8_code
def yX0_towerThatSeesMost : MethodName := ⟨RX0, "towerThatSeesMost", "()I"⟩
abbrev cX0_playersOn : ByteArray := prog_2_method_9_code
def yX0_playersOn : MethodName := ⟨RX0, "playersOn", "(I)I"⟩
abbrev cX0_priceOfStride : ByteArray := prog_2_method_10_code
def yX0_priceOfStride : MethodName := ⟨RX0, "priceOfStride", "(II)I"⟩
abbrev cX0_refusalOfStride : ByteArray := prog_2_method_11_code
def yX0_refusalOfStride : MethodName := ⟨RX0, "refusalOfStride", "(II)I"⟩
abbrev cX0_towersToStrideTo : ByteArray := prog_2_method_12_code
def yX0_towersToStrideTo : MethodName := ⟨RX0, "towersToStrideTo", "(I)I"⟩
abbrev cX0_refusalOfTag : ByteArray := prog_2_method_13_code
def yX0_refusalOfTag : MethodName := ⟨RX0, "refusalOfTag", "(II)I"⟩
abbrev cX0_playersInReachOfIt : ByteArray := prog_2_method_14_code
def yX0_playersInReachOfIt : MethodName := ⟨RX0, "playersInReachOfIt", "()I"⟩
abbrev cX0_moveByStride : ByteArray := prog_2_method_15_code
def yX0_moveByStride : MethodName := ⟨RX0, "moveByStride", "(I)I"⟩
abbrev cX0_moveByTurn : ByteArray := prog_2_method_16_code
def yX0_moveByTurn : MethodName := ⟨RX0, "moveByTurn", "()I"⟩
abbrev cX0_moveByTag : ByteArray := prog_2_method_17_code
def yX0_moveByTag : MethodName := ⟨RX0, "moveByTag", "(I)I"⟩
abbrev cX0_refuse : ByteArray := prog_2_method_18_code
def yX0_refuse : MethodName := ⟨RX0, "refuse", "(I)I"⟩
abbrev cX0_pay : ByteArray := prog_2_method_19_code
def yX0_pay : MethodName := ⟨RX0, "pay", "(I)V"⟩
abbrev cX0_endMove : ByteArray := prog_2_method_20_code
def yX0_endMove : MethodName := ⟨RX0, "endMove", "()I"⟩
abbrev cX0_sandBelow : ByteArray := prog_2_method_21_code
def yX0_sandBelow : MethodName := ⟨RX0, "sandBelow", "()I"⟩
abbrev cX0_sandInGlasses : ByteArray := prog_2_method_22_code
def yX0_sandInGlasses : MethodName := ⟨RX0, "sandInGlasses", "()I"⟩
abbrev cX0_sandOnTowers : ByteArray := prog_2_method_23_code
def yX0_sandOnTowers : MethodName := ⟨RX0, "sandOnTowers", "()I"⟩
abbrev cX0_shareOfSandBelow : ByteArray := prog_2_method_24_code
def yX0_shareOfSandBelow : MethodName := ⟨RX0, "shareOfSandBelow", "()D"⟩
def RX1 : String := "HourglassTag$Past"
def TX1 : u_T := fun k => match k with
  | 0 => ("HourglassTag$Past", "ring", "[LHourglassTag$Game;", true)
  | 1 => ("HourglassTag$Past", "oldest", "I", false)
  | _ => ("HourglassTag$Past", "held", "I", false)
def tyX1 : Nat → FieldType := fun k => match k with
  | 0 => .array (.object "HourglassTag$Game")
  | 1 => .int
  | _ => .int
abbrev wsX10 : List Cond := u_ws RX1 TX1 3
theorem nmX1 : ∀ a, a < 3 → ∀ b, b < 3 → a ≠ b → (TX1 a).2.1 ≠ (TX1 b).2.1 := by decide +kernel
theorem tyX1_ok : ∀ k, k < 3 → parseFieldDescriptor (TX1 k).2.2.1 = some (tyX1 k) := by decide +kernel
abbrev cX1_init : ByteArray := prog_3_method_1_code
def yX1_init : MethodName := ⟨RX1, "<init>", "()V"⟩
abbrev cX1_save : ByteArray := prog_3_method_2_code
def yX1_save : MethodName := ⟨RX1, "save", "(LHourglassTag$Game;)V"⟩
abbrev cX1_restoreLatest : ByteArray := prog_3_method_3_code
def yX1_restoreLatest : MethodName := ⟨RX1, "restoreLatest", "(LHourglassTag$Game;)V"⟩
def RX2 : String := "HourglassTag$Text"
def TX2 : u_T := fun k => match k with
  | 0 => ("HourglassTag$Text", "codes", "[I", true)
  | _ => ("HourglassTag$Text", "length", "I", false)
def tyX2 : Nat → FieldType := fun k => match k with
  | 0 => .array .int
  | _ => .int
abbrev wsX20 : List Cond := u_ws RX2 TX2 2
theorem nmX2 : ∀ a, a < 2 → ∀ b, b < 2 → a ≠ b → (TX2 a).2.1 ≠ (TX2 b).2.1 := by decide +kernel
theorem tyX2_ok : ∀ k, k < 2 → parseFieldDescriptor (TX2 k).2.2.1 = some (tyX2 k) := by decide +kernel
abbrev cX2_init : ByteArray := prog_4_method_1_code
def yX2_init : MethodName := ⟨RX2, "<init>", "()V"⟩
abbrev cX2_add : ByteArray := prog_4_method_2_code
def yX2_add : MethodName := ⟨RX2, "add", "(I)I"⟩
abbrev cX2_empty : ByteArray := prog_4_method_3_code
def yX2_empty : MethodName := ⟨RX2, "empty", "()I"⟩
abbrev cX2_firstWrong : ByteArray := prog_4_method_4_code
def yX2_firstWrong : MethodName := ⟨RX2, "firstWrong", "()I"⟩
abbrev cX2_tellsGame : ByteArray := prog_4_method_5_code
def yX2_tellsGame : MethodName := ⟨RX2, "tellsGame", "()Z"⟩
abbrev cX2_codeAt : ByteArray := prog_4_method_6_code
def yX2_codeAt : MethodName := ⟨RX2, "codeAt", "(I)I"⟩
abbrev cX2_digitAt : ByteArray := prog_4_method_7_code
def yX2_digitAt : MethodName := ⟨RX2, "digitAt", "(I)I"⟩
abbrev cX2_widthOfMove : ByteArray := prog_4_method_8_code
def yX2_widthOfMove : MethodName := ⟨RX2, "widthOfMove", "(I)I"⟩
abbrev cX2_needsDigit : ByteArray := prog_4_method_9_code
def yX2_needsDigit : MethodName := ⟨RX2, "needsDigit", "(I)Z"⟩
abbrev cX2_awaitedBehind : ByteArray := prog_4_method_10_code
def yX2_awaitedBehind : MethodName := ⟨RX2, "awaitedBehind", "(II)I"⟩
abbrev cX2_awaitedBehindLetter : ByteArray := prog_4_method_11_code
def yX2_awaitedBehindLetter : MethodName := ⟨RX2, "awaitedBehindLetter", "(I)I"⟩
def RX3 : String := "HourglassTag$Walk"
def TX3 : u_T := fun k => match k with
  | 0 => ("HourglassTag$Walk", "lying", "[I", true)
  | 1 => ("HourglassTag$Walk", "goal", "I", false)
  | 2 => ("HourglassTag$Walk", "running", "I", false)
  | _ => ("HourglassTag$Walk", "turning", "I", false)
def tyX3 : Nat → FieldType := fun k => match k with
  | 0 => .array .int
  | 1 => .int
  | 2 => .int
  | _ => .int
abbrev wsX30 : List Cond := u_ws RX3 TX3 4
theorem nmX3 : ∀ a, a < 4 → ∀ b, b < 4 → a ≠ b → (TX3 a).2.1 ≠ (TX3 b).2.1 := by decide +kernel
theorem tyX3_ok : ∀ k, k < 4 → parseFieldDescriptor (TX3 k).2.2.1 = some (tyX3 k) := by decide +kernel
abbrev cX3_init : ByteArray := prog_5_method_1_code
def yX3_init : MethodName := ⟨RX3, "<init>", "()V"⟩
abbrev cX3_fewestTurns : ByteArray := prog_5_method_2_code
def yX3_fewestTurns : MethodName := ⟨RX3, "fewestTurns", "(LHourglassTag$Game;LHourglassTag$Ways;II)I"⟩
abbrev cX3_reaches : ByteArray := prog_5_method_3_code
def yX3_reaches : MethodName := ⟨RX3, "reaches", "(LHourglassTag$Walk;LHourglassTag$Ways;IIII)Z"⟩
abbrev cX3_reachesBehindRun : ByteArray := prog_5_method_4_code
def yX3_reachesBehindRun : MethodName := ⟨RX3, "reachesBehindRun", "(LHourglassTag$Walk;LHourglassTag$Ways;IIII)Z"⟩
abbrev cX3_reachesBehindTurn : ByteArray := prog_5_method_5_code
def yX3_reachesBehindTurn : MethodName := ⟨RX3, "reachesBehindTurn", "(LHourglassTag$Walk;LHourglassTag$Ways;IIII)Z"⟩
abbrev cX3_reachesBehindStride : ByteArray := prog_5_method_6_code
def yX3_reachesBehindStride : MethodName := ⟨RX3, "reachesBehindStride", "(LHourglassTag$Walk;LHourglassTag$Ways;IIII)Z"⟩
def RX4 : String := "HourglassTag$Ways"
def TX4 : u_T := fun k => match k with
  | 0 => ("HourglassTag$Ways", "single", "[[I", true)
  | 1 => ("HourglassTag$Ways", "sum", "[[I", true)
  | 2 => ("HourglassTag$Ways", "cost", "[I", true)
  | _ => ("HourglassTag$Ways", "settled", "[Z", true)
def tyX4 : Nat → FieldType := fun k => match k with
  | 0 => .array (.array .int)
  | 1 => .array (.array .int)
  | 2 => .array .int
  | _ => .array .boolean
abbrev wsX40 : List Cond := u_ws RX4 TX4 4
theorem nmX4 : ∀ a, a < 4 → ∀ b, b < 4 → a ≠ b → (TX4 a).2.1 ≠ (TX4 b).2.1 := by decide +kernel
theorem tyX4_ok : ∀ k, k < 4 → parseFieldDescriptor (TX4 k).2.2.1 = some (tyX4 k) := by decide +kernel
abbrev cX4_init : ByteArray := prog_6_method_1_code
def yX4_init : MethodName := ⟨RX4, "<init>", "()V"⟩
abbrev cX4_layOut : ByteArray := prog_6_method_2_code
def yX4_layOut : MethodName := ⟨RX4, "layOut", "(LHourglassTag$Game;)V"⟩
abbrev cX4_cheapestBySettling : ByteArray := prog_6_method_3_code
def yX4_cheapestBySettling : MethodName := ⟨RX4, "cheapestBySettling", "(II)I"⟩
abbrev cX4_cheapestUnsettled : ByteArray := prog_6_method_4_code
def yX4_cheapestUnsettled : MethodName := ⟨RX4, "cheapestUnsettled", "()I"⟩
abbrev cX4_cheapestByGoingOver : ByteArray := prog_6_method_5_code
def yX4_cheapestByGoingOver : MethodName := ⟨RX4, "cheapestByGoingOver", "(II)I"⟩
abbrev cX4_allowGoingOver : ByteArray := prog_6_method_6_code
def yX4_allowGoingOver : MethodName := ⟨RX4, "allowGoingOver", "(I)V"⟩
def RX5 : String := "HourglassTag"
def TX5 : u_T := fun k => match k with
  | 0 => ("HourglassTag", "game", "LHourglassTag$Game;", true)
  | 1 => ("HourglassTag", "slots", "[LHourglassTag$Game;", true)
  | 2 => ("HourglassTag", "slotFilled", "[Z", true)
  | 3 => ("HourglassTag", "past", "LHourglassTag$Past;", true)
  | 4 => ("HourglassTag", "text", "LHourglassTag$Text;", true)
  | 5 => ("HourglassTag", "ways", "LHourglassTag$Ways;", true)
  | _ => ("HourglassTag", "walk", "LHourglassTag$Walk;", true)
def tyX5 : Nat → FieldType := fun k => match k with
  | 0 => .object "HourglassTag$Game"
  | 1 => .array (.object "HourglassTag$Game")
  | 2 => .array .boolean
  | 3 => .object "HourglassTag$Past"
  | 4 => .object "HourglassTag$Text"
  | 5 => .object "HourglassTag$Ways"
  | _ => .object "HourglassTag$Walk"
abbrev wsX50 : List Cond := u_ws RX5 TX5 7
theorem nmX5 : ∀ a, a < 7 → ∀ b, b < 7 → a ≠ b → (TX5 a).2.1 ≠ (TX5 b).2.1 := by decide +kernel
theorem tyX5_ok : ∀ k, k < 7 → parseFieldDescriptor (TX5 k).2.2.1 = some (tyX5 k) := by decide +kernel
abbrev cX5_init : ByteArray := prog_1_method_1_code
def yX5_init : MethodName := ⟨RX5, "<init>", "()V"⟩
abbrev cX5_height : ByteArray := prog_1_method_2_code
def yX5_height : MethodName := ⟨RX5, "height", "(II)I"⟩
abbrev cX5_player : ByteArray := prog_1_method_3_code
def yX5_player : MethodName := ⟨RX5, "player", "(II)I"⟩
abbrev cX5_set : ByteArray := prog_1_method_4_code
def yX5_set : MethodName := ⟨RX5, "set", "(II)I"⟩
abbrev cX5_rest : ByteArray := prog_1_method_5_code
def yX5_rest : MethodName := ⟨RX5, "rest", "()I"⟩
abbrev cX5_stride : ByteArray := prog_1_method_6_code
def yX5_stride : MethodName := ⟨RX5, "stride", "(I)I"⟩
abbrev cX5_turnOver : ByteArray := prog_1_method_7_code
def yX5_turnOver : MethodName := ⟨RX5, "turnOver", "()I"⟩
abbrev cX5_tag : ByteArray := prog_1_method_8_code
def yX5_tag : MethodName := ⟨RX5, "tag", "(I)I"⟩
abbrev cX5_append : ByteArray := prog_1_method_9_code
def yX5_append : MethodName := ⟨RX5, "append", "(I)I"⟩
abbrev cX5_clearBuffer : ByteArray := prog_1_method_10_code
def yX5_clearBuffer : MethodName := ⟨RX5, "clearBuffer", "()I"⟩
abbrev cX5_firstError : ByteArray := prog_1_method_11_code
def yX5_firstError : MethodName := ⟨RX5, "firstError", "()I"⟩
abbrev cX5_run : ByteArray := prog_1_method_12_code
def yX5_run : MethodName := ⟨RX5, "run", "()I"⟩
abbrev cX5_keep : ByteArray := prog_1_method_13_code
def yX5_keep : MethodName := ⟨RX5, "keep", "(I)I"⟩
abbrev cX5_goBack : ByteArray := prog_1_method_14_code
def yX5_goBack : MethodName := ⟨RX5, "goBack", "(I)I"⟩
abbrev cX5_undo : ByteArray := prog_1_method_15_code
def yX5_undo : MethodName := ⟨RX5, "undo", "()I"⟩
abbrev cX5_tower : ByteArray := prog_1_method_16_code
def yX5_tower : MethodName := ⟨RX5, "tower", "(II)I"⟩
abbrev cX5_playerOf : ByteArray := prog_1_method_17_code
def yX5_playerOf : MethodName := ⟨RX5, "playerOf", "(II)I"⟩
abbrev cX5_count : ByteArray := prog_1_method_18_code
def yX5_count : MethodName := ⟨RX5, "count", "(I)I"⟩
abbrev cX5_setting : ByteArray := prog_1_method_19_code
def yX5_setting : MethodName := ⟨RX5, "setting", "(I)I"⟩
abbrev cX5_price : ByteArray := prog_1_method_20_code
def yX5_price : MethodName := ⟨RX5, "price", "(III)I"⟩
abbrev cX5_whyNot : ByteArray := prog_1_method_21_code
def yX5_whyNot : MethodName := ⟨RX5, "whyNot", "(II)I"⟩
abbrev cX5_movesTo : ByteArray := prog_1_method_22_code
def yX5_movesTo : MethodName := ⟨RX5, "movesTo", "(II)I"⟩
abbrev cX5_prey : ByteArray := prog_1_method_23_code
def yX5_prey : MethodName := ⟨RX5, "prey", "()I"⟩
abbrev cX5_lookout : ByteArray := prog_1_method_24_code
def yX5_lookout : MethodName := ⟨RX5, "lookout", "()I"⟩
abbrev cX5_belowShare : ByteArray := prog_1_method_25_code
def yX5_belowShare : MethodName := ⟨RX5, "belowShare", "()D"⟩
abbrev cX5_digest : ByteArray := prog_1_method_26_code
def yX5_digest : MethodName := ⟨RX5, "digest", "()J"⟩
abbrev cX5_isTower : ByteArray := prog_1_method_27_code
def yX5_isTower : MethodName := ⟨RX5, "isTower", "(I)Z"⟩
abbrev cX5_isSetting : ByteArray := prog_1_method_28_code
def yX5_isSetting : MethodName := ⟨RX5, "isSetting", "(I)Z"⟩
abbrev cX5_playMove : ByteArray := prog_1_method_29_code
def yX5_playMove : MethodName := ⟨RX5, "playMove", "(II)Z"⟩
abbrev cX5_towerProperty : ByteArray := prog_1_method_30_code
def yX5_towerProperty : MethodName := ⟨RX5, "towerProperty", "(II)I"⟩
abbrev cX5_playerProperty : ByteArray := prog_1_method_31_code
def yX5_playerProperty : MethodName := ⟨RX5, "playerProperty", "(II)I"⟩
abbrev cX5_number : ByteArray := prog_1_method_32_code
def yX5_number : MethodName := ⟨RX5, "number", "(I)I"⟩
abbrev cX5_withTowers : ByteArray := prog_1_method_33_code
def yX5_withTowers : MethodName := ⟨RX5, "withTowers", "(J)J"⟩
abbrev cX5_withPlayer : ByteArray := prog_1_method_34_code
def yX5_withPlayer : MethodName := ⟨RX5, "withPlayer", "(JI)J"⟩
abbrev cX5_bitsOf : ByteArray := prog_1_method_35_code
def yX5_bitsOf : MethodName := ⟨RX5, "bitsOf", "(D)J"⟩
def RX6 : String := "HourglassTagModel"
def TX6 : u_T := fun k => match k with
  | 0 => ("HourglassTagModel", "row", "[I", true)
  | 1 => ("HourglassTagModel", "past", "[I", true)
  | 2 => ("HourglassTagModel", "before", "[I", true)
  | 3 => ("HourglassTagModel", "slots", "[I", true)
  | 4 => ("HourglassTagModel", "isKept", "[Z", true)
  | 5 => ("HourglassTagModel", "states", "I", false)
  | 6 => ("HourglassTagModel", "buffer", "[I", true)
  | 7 => ("HourglassTagModel", "length", "I", false)
  | 8 => ("HourglassTagModel", "thrown", "I", false)
  | 9 => ("HourglassTagModel", "at", "I", false)
  | 10 => ("HourglassTagModel", "above", "I", false)
  | 11 => ("HourglassTagModel", "below", "I", false)
  | 12 => ("HourglassTagModel", "lies", "[I", true)
  | _ => ("HourglassTagModel", "best", "[I", true)
def tyX6 : Nat → FieldType := fun k => match k with
  | 0 => .array .int
  | 1 => .array .int
  | 2 => .array .int
  | 3 => .array .int
  | 4 => .array .boolean
  | 5 => .int
  | 6 => .array .int
  | 7 => .int
  | 8 => .int
  | 9 => .int
  | 10 => .int
  | 11 => .int
  | 12 => .array .int
  | _ => .array .int
abbrev wsX60 : List Cond := u_ws RX6 TX6 14
theorem nmX6 : ∀ a, a < 14 → ∀ b, b < 14 → a ≠ b → (TX6 a).2.1 ≠ (TX6 b).2.1 := by decide +kernel
theorem tyX6_ok : ∀ k, k < 14 → parseFieldDescriptor (TX6 k).2.2.1 = some (tyX6 k) := by decide +kernel
abbrev cX6_init : ByteArray := prog_8_method_1_code
def yX6_init : MethodName := ⟨RX6, "<init>", "()V"⟩
abbrev cX6_thrown : ByteArray := prog_8_method_2_code
def yX6_thrown : MethodName := ⟨RX6, "thrown", "()I"⟩
abbrev cX6_wrong : ByteArray := prog_8_method_3_code
def yX6_wrong : MethodName := ⟨RX6, "wrong", "(I)I"⟩
abbrev cX6_in : ByteArray := prog_8_method_4_code
def yX6_in : MethodName := ⟨RX6, "in", "(III)Z"⟩
abbrev cX6_its : ByteArray := prog_8_method_5_code
def yX6_its : MethodName := ⟨RX6, "its", "(II)I"⟩
abbrev cX6_more : ByteArray := prog_8_method_6_code
def yX6_more : MethodName := ⟨RX6, "more", "(III)V"⟩
abbrev cX6_isPlayer : ByteArray := prog_8_method_7_code
def yX6_isPlayer : MethodName := ⟨RX6, "isPlayer", "(I)Z"⟩
abbrev cX6_remember : ByteArray := prog_8_method_8_code
def yX6_remember : MethodName := ⟨RX6, "remember", "()V"⟩
abbrev cX6_record : ByteArray := prog_8_method_9_code
def yX6_record : MethodName := ⟨RX6, "record", "(I)I"⟩
abbrev cX6_undo : ByteArray := prog_8_method_10_code
def yX6_undo : MethodName := ⟨RX6, "undo", "()I"⟩
abbrev cX6_keep : ByteArray := prog_8_method_11_code
def yX6_keep : MethodName := ⟨RX6, "keep", "(I)I"⟩
abbrev cX6_goBack : ByteArray := prog_8_method_12_code
def yX6_goBack : MethodName := ⟨RX6, "goBack", "(I)I"⟩
abbrev cX6_size : ByteArray := prog_8_method_13_code
def yX6_size : MethodName := ⟨RX6, "size", "(I)I"⟩
abbrev cX6_sees : ByteArray := prog_8_method_14_code
def yX6_sees : MethodName := ⟨RX6, "sees", "(II)Z"⟩
abbrev cX6_strideOf : ByteArray := prog_8_method_15_code
def yX6_strideOf : MethodName := ⟨RX6, "strideOf", "(II)I"⟩
abbrev cX6_seen : ByteArray := prog_8_method_16_code
def yX6_seen : MethodName := ⟨RX6, "seen", "(I)I"⟩
abbrev cX6_take : ByteArray := prog_8_method_17_code
def yX6_take : MethodName := ⟨RX6, "take", "(I)V"⟩
abbrev cX6_strideReason : ByteArray := prog_8_method_18_code
def yX6_strideReason : MethodName := ⟨RX6, "strideReason", "(I)I"⟩
abbrev cX6_strides : ByteArray := prog_8_method_19_code
def yX6_strides : MethodName := ⟨RX6, "strides", "(I)V"⟩
abbrev cX6_turns : ByteArray := prog_8_method_20_code
def yX6_turns : MethodName := ⟨RX6, "turns", "()V"⟩
abbrev cX6_runs : ByteArray := prog_8_method_21_code
def yX6_runs : MethodName := ⟨RX6, "runs", "()I"⟩
abbrev cX6_put : ByteArray := prog_8_method_22_code
def yX6_put : MethodName := ⟨RX6, "put", "(I)V"⟩
abbrev cX6_ends : ByteArray := prog_8_method_23_code
def yX6_ends : MethodName := ⟨RX6, "ends", "()I"⟩
abbrev cX6_refuses : ByteArray := prog_8_method_24_code
def yX6_refuses : MethodName := ⟨RX6, "refuses", "(I)I"⟩
abbrev cX6_waits : ByteArray := prog_8_method_25_code
def yX6_waits : MethodName := ⟨RX6, "waits", "()I"⟩
abbrev cX6_goes : ByteArray := prog_8_method_26_code
def yX6_goes : MethodName := ⟨RX6, "goes", "(I)I"⟩
abbrev cX6_overs : ByteArray := prog_8_method_27_code
def yX6_overs : MethodName := ⟨RX6, "overs", "()I"⟩
abbrev cX6_tagReason : ByteArray := prog_8_method_28_code
def yX6_tagReason : MethodName := ⟨RX6, "tagReason", "(II)I"⟩
abbrev cX6_tags : ByteArray := prog_8_method_29_code
def yX6_tags : MethodName := ⟨RX6, "tags", "(I)I"⟩
abbrev cX6_isOver : ByteArray := prog_8_method_30_code
def yX6_isOver : MethodName := ⟨RX6, "isOver", "()Z"⟩
abbrev cX6_height : ByteArray := prog_8_method_31_code
def yX6_height : MethodName := ⟨RX6, "height", "(II)I"⟩
abbrev cX6_player : ByteArray := prog_8_method_32_code
def yX6_player : MethodName := ⟨RX6, "player", "(II)I"⟩
abbrev cX6_set : ByteArray := prog_8_method_33_code
def yX6_set : MethodName := ⟨RX6, "set", "(II)I"⟩
abbrev cX6_rest : ByteArray := prog_8_method_34_code
def yX6_rest : MethodName := ⟨RX6, "rest", "()I"⟩
abbrev cX6_stride : ByteArray := prog_8_method_35_code
def yX6_stride : MethodName := ⟨RX6, "stride", "(I)I"⟩
abbrev cX6_turnOver : ByteArray := prog_8_method_36_code
def yX6_turnOver : MethodName := ⟨RX6, "turnOver", "()I"⟩
abbrev cX6_tag : ByteArray := prog_8_method_37_code
def yX6_tag : MethodName := ⟨RX6, "tag", "(I)I"⟩
abbrev cX6_append : ByteArray := prog_8_method_38_code
def yX6_append : MethodName := ⟨RX6, "append", "(I)I"⟩
abbrev cX6_clearBuffer : ByteArray := prog_8_method_39_code
def yX6_clearBuffer : MethodName := ⟨RX6, "clearBuffer", "()I"⟩
abbrev cX6_codeAt : ByteArray := prog_8_method_40_code
def yX6_codeAt : MethodName := ⟨RX6, "codeAt", "(I)I"⟩
abbrev cX6_moveAt : ByteArray := prog_8_method_41_code
def yX6_moveAt : MethodName := ⟨RX6, "moveAt", "(I)I"⟩
abbrev cX6_firstError : ByteArray := prog_8_method_42_code
def yX6_firstError : MethodName := ⟨RX6, "firstError", "()I"⟩
abbrev cX6_error : ByteArray := prog_8_method_43_code
def yX6_error : MethodName := ⟨RX6, "error", "()I"⟩
abbrev cX6_isGame : ByteArray := prog_8_method_44_code
def yX6_isGame : MethodName := ⟨RX6, "isGame", "()Z"⟩
abbrev cX6_does : ByteArray := prog_8_method_45_code
def yX6_does : MethodName := ⟨RX6, "does", "(I)Z"⟩
abbrev cX6_run : ByteArray := prog_8_method_46_code
def yX6_run : MethodName := ⟨RX6, "run", "()I"⟩
abbrev cX6_standing : ByteArray := prog_8_method_47_code
def yX6_standing : MethodName := ⟨RX6, "standing", "(I)I"⟩
abbrev cX6_towerOf : ByteArray := prog_8_method_48_code
def yX6_towerOf : MethodName := ⟨RX6, "towerOf", "(II)I"⟩
abbrev cX6_tower : ByteArray := prog_8_method_49_code
def yX6_tower : MethodName := ⟨RX6, "tower", "(II)I"⟩
abbrev cX6_reasonOf : ByteArray := prog_8_method_50_code
def yX6_reasonOf : MethodName := ⟨RX6, "reasonOf", "(II)I"⟩
abbrev cX6_strideable : ByteArray := prog_8_method_51_code
def yX6_strideable : MethodName := ⟨RX6, "strideable", "(I)I"⟩
abbrev cX6_propertyOf : ByteArray := prog_8_method_52_code
def yX6_propertyOf : MethodName := ⟨RX6, "propertyOf", "(II)I"⟩
abbrev cX6_playerOf : ByteArray := prog_8_method_53_code
def yX6_playerOf : MethodName := ⟨RX6, "playerOf", "(II)I"⟩
abbrev cX6_inGlasses : ByteArray := prog_8_method_54_code
def yX6_inGlasses : MethodName := ⟨RX6, "inGlasses", "()I"⟩
abbrev cX6_onTowers : ByteArray := prog_8_method_55_code
def yX6_onTowers : MethodName := ⟨RX6, "onTowers", "()I"⟩
abbrev cX6_numberOf : ByteArray := prog_8_method_56_code
def yX6_numberOf : MethodName := ⟨RX6, "numberOf", "(I)I"⟩
abbrev cX6_count : ByteArray := prog_8_method_57_code
def yX6_count : MethodName := ⟨RX6, "count", "(I)I"⟩
abbrev cX6_setting : ByteArray := prog_8_method_58_code
def yX6_setting : MethodName := ⟨RX6, "setting", "(I)I"⟩
abbrev cX6_cheapest : ByteArray := prog_8_method_59_code
def yX6_cheapest : MethodName := ⟨RX6, "cheapest", "(II)I"⟩
abbrev cX6_price : ByteArray := prog_8_method_60_code
def yX6_price : MethodName := ⟨RX6, "price", "(III)I"⟩
abbrev cX6_whyNot : ByteArray := prog_8_method_61_code
def yX6_whyNot : MethodName := ⟨RX6, "whyNot", "(II)I"⟩
abbrev cX6_breaks : ByteArray := prog_8_method_62_code
def yX6_breaks : MethodName := ⟨RX6, "breaks", "(III)I"⟩
abbrev cX6_fewest : ByteArray := prog_8_method_63_code
def yX6_fewest : MethodName := ⟨RX6, "fewest", "(II)I"⟩
abbrev cX6_movesTo : ByteArray := prog_8_method_64_code
def yX6_movesTo : MethodName := ⟨RX6, "movesTo", "(II)I"⟩
abbrev cX6_huntable : ByteArray := prog_8_method_65_code
def yX6_huntable : MethodName := ⟨RX6, "huntable", "()I"⟩
abbrev cX6_prey : ByteArray := prog_8_method_66_code
def yX6_prey : MethodName := ⟨RX6, "prey", "()I"⟩
abbrev cX6_bits : ByteArray := prog_8_method_67_code
def yX6_bits : MethodName := ⟨RX6, "bits", "(I)I"⟩
abbrev cX6_widest : ByteArray := prog_8_method_68_code
def yX6_widest : MethodName := ⟨RX6, "widest", "()I"⟩
abbrev cX6_lookout : ByteArray := prog_8_method_69_code
def yX6_lookout : MethodName := ⟨RX6, "lookout", "()I"⟩
abbrev cX6_share : ByteArray := prog_8_method_70_code
def yX6_share : MethodName := ⟨RX6, "share", "()D"⟩
abbrev cX6_belowShare : ByteArray := prog_8_method_71_code
def yX6_belowShare : MethodName := ⟨RX6, "belowShare", "()D"⟩
abbrev cX6_digest : ByteArray := prog_8_method_72_code
def yX6_digest : MethodName := ⟨RX6, "digest", "()J"⟩
def RJxe99ae : String := "java/lang/Double"
def TJxe99ae : u_T := fun k => match k with
  | _ => ("", "", "", false)
def tyJxe99ae : Nat → FieldType := fun k => match k with
  | _ => .int
abbrev wsJxe99ae0 : List Cond := u_ws RJxe99ae TJxe99ae 0
theorem nmJxe99ae : ∀ a, a < 0 → ∀ b, b < 0 → a ≠ b → (TJxe99ae a).2.1 ≠ (TJxe99ae b).2.1 := by decide +kernel
theorem tyJxe99ae_ok : ∀ k, k < 0 → parseFieldDescriptor (TJxe99ae k).2.2.1 = some (tyJxe99ae k) := by decide +kernel
abbrev cJxe99ae_isNaN_b9ae7 : ByteArray := prog_9_method_6_code
def yJxe99ae_isNaN_b9ae7 : MethodName := ⟨RJxe99ae, "isNaN", "(D)Z"⟩
abbrev cJxe99ae_doubleToLongBits_ccdee : ByteArray := prog_9_method_23_code
def yJxe99ae_doubleToLongBits_ccdee : MethodName := ⟨RJxe99ae, "doubleToLongBits", "(D)J"⟩
def RJ6 : String := "java/lang/Integer"
def TJ6 : u_T := fun k => match k with
  | _ => ("", "", "", false)
def tyJ6 : Nat → FieldType := fun k => match k with
  | _ => .int
abbrev wsJ60 : List Cond := u_ws RJ6 TJ6 0
theorem nmJ6 : ∀ a, a < 0 → ∀ b, b < 0 → a ≠ b → (TJ6 a).2.1 ≠ (TJ6 b).2.1 := by decide +kernel
theorem tyJ6_ok : ∀ k, k < 0 → parseFieldDescriptor (TJ6 k).2.2.1 = some (tyJ6 k) := by decide +kernel
abbrev cJ6_bitCount_0f7a4 : ByteArray := prog_14_method_49_code
def yJ6_bitCount_0f7a4 : MethodName := ⟨RJ6, "bitCount", "(I)I"⟩
def RJ9 : String := "java/lang/Math"
def TJ9 : u_T := fun k => match k with
  | _ => ("", "", "", false)
def tyJ9 : Nat → FieldType := fun k => match k with
  | _ => .int
abbrev wsJ90 : List Cond := u_ws RJ9 TJ9 0
theorem nmJ9 : ∀ a, a < 0 → ∀ b, b < 0 → a ≠ b → (TJ9 a).2.1 ≠ (TJ9 b).2.1 := by decide +kernel
theorem tyJ9_ok : ∀ k, k < 0 → parseFieldDescriptor (TJ9 k).2.2.1 = some (tyJ9 k) := by decide +kernel
abbrev cJ9_abs_0f7a4 : ByteArray := prog_15_method_59_code
def yJ9_abs_0f7a4 : MethodName := ⟨RJ9, "abs", "(I)I"⟩
abbrev cJ9_max_7cf53 : ByteArray := prog_15_method_65_code
def yJ9_max_7cf53 : MethodName := ⟨RJ9, "max", "(II)I"⟩
abbrev cJ9_min_7cf53 : ByteArray := prog_15_method_69_code
def yJ9_min_7cf53 : MethodName := ⟨RJ9, "min", "(II)I"⟩
def RJ0 : String := "java/lang/String"
def TJ0 : u_T := fun k => match k with
  | _ => ("", "", "", false)
def tyJ0 : Nat → FieldType := fun k => match k with
  | _ => .int
abbrev wsJ00 : List Cond := u_ws RJ0 TJ0 0
theorem nmJ0 : ∀ a, a < 0 → ∀ b, b < 0 → a ≠ b → (TJ0 a).2.1 ≠ (TJ0 b).2.1 := by decide +kernel
theorem tyJ0_ok : ∀ k, k < 0 → parseFieldDescriptor (TJ0 k).2.2.1 = some (tyJ0 k) := by decide +kernel
def RJ10 : String := "java/lang/System"
def TJ10 : u_T := fun k => match k with
  | _ => ("", "", "", false)
def tyJ10 : Nat → FieldType := fun k => match k with
  | _ => .int
abbrev wsJ100 : List Cond := u_ws RJ10 TJ10 0
theorem nmJ10 : ∀ a, a < 0 → ∀ b, b < 0 → a ≠ b → (TJ10 a).2.1 ≠ (TJ10 b).2.1 := by decide +kernel
theorem tyJ10_ok : ∀ k, k < 0 → parseFieldDescriptor (TJ10 k).2.2.1 = some (tyJ10 k) := by decide +kernel
def RL : String := "HourglassTagLaw"
abbrev cL_height : ByteArray := method_3_code
def yL_height : MethodName := ⟨RL, "height", "(LHourglassTag;II[J)I"⟩
abbrev cL_player : ByteArray := method_4_code
def yL_player : MethodName := ⟨RL, "player", "(LHourglassTag;II[J)I"⟩
abbrev cL_set : ByteArray := method_5_code
def yL_set : MethodName := ⟨RL, "set", "(LHourglassTag;II[J)I"⟩
abbrev cL_rest : ByteArray := method_6_code
def yL_rest : MethodName := ⟨RL, "rest", "(LHourglassTag;[J)I"⟩
abbrev cL_stride : ByteArray := method_7_code
def yL_stride : MethodName := ⟨RL, "stride", "(LHourglassTag;I[J)I"⟩
abbrev cL_turnOver : ByteArray := method_8_code
def yL_turnOver : MethodName := ⟨RL, "turnOver", "(LHourglassTag;[J)I"⟩
abbrev cL_tag : ByteArray := method_9_code
def yL_tag : MethodName := ⟨RL, "tag", "(LHourglassTag;I[J)I"⟩
abbrev cL_append : ByteArray := method_10_code
def yL_append : MethodName := ⟨RL, "append", "(LHourglassTag;I[J)I"⟩
abbrev cL_run : ByteArray := method_11_code
def yL_run : MethodName := ⟨RL, "run", "(LHourglassTag;[J)I"⟩
abbrev cL_keep : ByteArray := method_12_code
def yL_keep : MethodName := ⟨RL, "keep", "(LHourglassTag;I[J)I"⟩
abbrev cL_goBack : ByteArray := method_13_code
def yL_goBack : MethodName := ⟨RL, "goBack", "(LHourglassTag;I[J)I"⟩
abbrev cL_undo : ByteArray := method_14_code
def yL_undo : MethodName := ⟨RL, "undo", "(LHourglassTag;[J)I"⟩
abbrev cL_tower : ByteArray := method_15_code
def yL_tower : MethodName := ⟨RL, "tower", "(LHourglassTag;II[J)I"⟩
abbrev cL_playerOf : ByteArray := method_16_code
def yL_playerOf : MethodName := ⟨RL, "playerOf", "(LHourglassTag;II[J)I"⟩
abbrev cL_count : ByteArray := method_17_code
def yL_count : MethodName := ⟨RL, "count", "(LHourglassTag;I[J)I"⟩
abbrev cL_setting : ByteArray := method_18_code
def yL_setting : MethodName := ⟨RL, "setting", "(LHourglassTag;I[J)I"⟩
abbrev cL_price : ByteArray := method_19_code
def yL_price : MethodName := ⟨RL, "price", "(LHourglassTag;III[J)I"⟩
abbrev cL_whyNot : ByteArray := method_20_code
def yL_whyNot : MethodName := ⟨RL, "whyNot", "(LHourglassTag;II[J)I"⟩
abbrev cL_movesTo : ByteArray := method_21_code
def yL_movesTo : MethodName := ⟨RL, "movesTo", "(LHourglassTag;II[J)I"⟩
abbrev cL_law : ByteArray := code
def yL_law : MethodName := ⟨RL, "law", "([I)Z"⟩
abbrev vwCl : List vw_C := [(RX0, TX0, 17), (RX1, TX1, 3), (RX2, TX2, 2), (RX3, TX3, 4), (RX4, TX4, 4), (RX5, TX5, 7), (RX6, TX6, 14)]
end
section
theorem dX0_init_0 : decode cX0_init 0 = .ok (.aload_n 0, 1) := by decide +kernel
theorem dX0_init_1 : decode cX0_init 1 = .ok (.invokespecial 3, 3) := by decide +kernel
theorem dX0_init_4 : decode cX0_init 4 = .ok (.aload_n 0, 1) := by decide +kernel
theorem dX0_init_5 : decode cX0_init 5 = .ok (.bipush 10, 2) := by decide +kernel
theorem dX0_init_7 : decode cX0_init 7 = .ok (.newarray .int, 2) := by decide +kernel
theorem dX0_init_9 : decode cX0_init 9 = .ok (.putfield 9, 3) := by decide +kernel
theorem dX0_init_12 : decode cX0_init 12 = .ok (.aload_n 0, 1) := by decide +kernel
theorem dX0_init_13 : decode cX0_init 13 = .ok (.bipush 10, 2) := by decide +kernel
theorem dX0_init_15 : decode cX0_init 15 = .ok (.newarray .int, 2) := by decide +kernel
theorem dX0_init_17 : decode cX0_init 17 = .ok (.putfield 15, 3) := by decide +kernel
theorem dX0_init_20 : decode cX0_init 20 = .ok (.aload_n 0, 1) := by decide +kernel
theorem dX0_init_21 : decode cX0_init 21 = .ok (.iconst 4, 1) := by decide +kernel
theorem dX0_init_22 : decode cX0_init 22 = .ok (.newarray .int, 2) := by decide +kernel
theorem dX0_init_24 : decode cX0_init 24 = .ok (.putfield 18, 3) := by decide +kernel
theorem dX0_init_27 : decode cX0_init 27 = .ok (.aload_n 0, 1) := by decide +kernel
theorem dX0_init_28 : decode cX0_init 28 = .ok (.iconst 4, 1) := by decide +kernel
theorem dX0_init_29 : decode cX0_init 29 = .ok (.newarray .int, 2) := by decide +kernel
theorem dX0_init_31 : decode cX0_init 31 = .ok (.putfield 21, 3) := by decide +kernel
theorem dX0_init_34 : decode cX0_init 34 = .ok (.aload_n 0, 1) := by decide +kernel
theorem dX0_init_35 : decode cX0_init 35 = .ok (.iconst 4, 1) := by decide +kernel
theorem dX0_init_36 : decode cX0_init 36 = .ok (.newarray .int, 2) := by decide +kernel
theorem dX0_init_38 : decode cX0_init 38 = .ok (.putfield 24, 3) := by decide +kernel
theorem dX0_init_41 : decode cX0_init 41 = .ok (.aload_n 0, 1) := by decide +kernel
theorem dX0_init_42 : decode cX0_init 42 = .ok (.iconst 4, 1) := by decide +kernel
theorem dX0_init_43 : decode cX0_init 43 = .ok (.newarray .int, 2) := by decide +kernel
theorem dX0_init_45 : decode cX0_init 45 = .ok (.putfield 27, 3) := by decide +kernel
theorem dX0_init_48 : decode cX0_init 48 = .ok (.aload_n 0, 1) := by decide +kernel
theorem dX0_init_49 : decode cX0_init 49 = .ok (.iconst 4, 1) := by decide +kernel
theorem dX0_init_50 : decode cX0_init 50 = .ok (.newarray .int, 2) := by decide +kernel
theorem dX0_init_52 : decode cX0_init 52 = .ok (.putfield 30, 3) := by decide +kernel
theorem dX0_init_55 : decode cX0_init 55 = .ok (.aload_n 0, 1) := by decide +kernel
theorem dX0_init_56 : decode cX0_init 56 = .ok (.iconst 4, 1) := by decide +kernel
theorem dX0_init_57 : decode cX0_init 57 = .ok (.newarray .int, 2) := by decide +kernel
theorem dX0_init_59 : decode cX0_init 59 = .ok (.putfield 33, 3) := by decide +kernel
theorem dX0_init_62 : decode cX0_init 62 = .ok (.aload_n 0, 1) := by decide +kernel
theorem dX0_init_63 : decode cX0_init 63 = .ok (.iconst 4, 1) := by decide +kernel
theorem dX0_init_64 : decode cX0_init 64 = .ok (.newarray .int, 2) := by decide +kernel
theorem dX0_init_66 : decode cX0_init 66 = .ok (.putfield 36, 3) := by decide +kernel
theorem dX0_init_69 : decode cX0_init 69 = .ok (.aload_n 0, 1) := by decide +kernel
theorem dX0_init_70 : decode cX0_init 70 = .ok (.iconst 4, 1) := by decide +kernel
theorem dX0_init_71 : decode cX0_init 71 = .ok (.newarray .int, 2) := by decide +kernel
theorem dX0_init_73 : decode cX0_init 73 = .ok (.putfield 39, 3) := by decide +kernel
theorem dX0_init_76 : decode cX0_init 76 = .ok (.aload_n 0, 1) := by decide +kernel
theorem dX0_init_77 : decode cX0_init 77 = .ok (.iconst 0, 1) := by decide +kernel
theorem dX0_init_78 : decode cX0_init 78 = .ok (.putfield 42, 3) := by decide +kernel
theorem dX0_init_81 : decode cX0_init 81 = .ok (.aload_n 0, 1) := by decide +kernel
theorem dX0_init_82 : decode cX0_init 82 = .ok (.iconst 0, 1) := by decide +kernel
theorem dX0_init_83 : decode cX0_init 83 = .ok (.putfield 46, 3) := by decide +kernel
theorem dX0_init_86 : decode cX0_init 86 = .ok (.aload_n 0, 1) := by decide +kernel
theorem dX0_init_87 : decode cX0_init 87 = .ok (.iconst 0, 1) := by decide +kernel
theorem dX0_init_88 : decode cX0_init 88 = .ok (.putfield 49, 3) := by decide +kernel
theorem dX0_init_91 : decode cX0_init 91 = .ok (.aload_n 0, 1) := by decide +kernel
theorem dX0_init_92 : decode cX0_init 92 = .ok (.iconst 0, 1) := by decide +kernel
theorem dX0_init_93 : decode cX0_init 93 = .ok (.putfield 52, 3) := by decide +kernel
theorem dX0_init_96 : decode cX0_init 96 = .ok (.aload_n 0, 1) := by decide +kernel
theorem dX0_init_97 : decode cX0_init 97 = .ok (.iconst 0, 1) := by decide +kernel
theorem dX0_init_98 : decode cX0_init 98 = .ok (.putfield 55, 3) := by decide +kernel
theorem dX0_init_101 : decode cX0_init 101 = .ok (.aload_n 0, 1) := by decide +kernel
theorem dX0_init_102 : decode cX0_init 102 = .ok (.iconst 0, 1) := by decide +kernel
theorem dX0_init_103 : decode cX0_init 103 = .ok (.putfield 58, 3) := by decide +kernel
theorem dX0_init_106 : decode cX0_init 106 = .ok (.aload_n 0, 1) := by decide +kernel
theorem dX0_init_107 : decode cX0_init 107 = .ok (.iconst 0, 1) := by decide +kernel
theorem dX0_init_108 : decode cX0_init 108 = .ok (.putfield 61, 3) := by decide +kernel
theorem dX0_init_111 : decode cX0_init 111 = .ok (.iconst 0, 1) := by decide +kernel
theorem dX0_init_112 : decode cX0_init 112 = .ok (.istore_n 1, 1) := by decide +kernel
theorem dX0_init_113 : decode cX0_init 113 = .ok (.iload_n 1, 1) := by decide +kernel
theorem dX0_init_114 : decode cX0_init 114 = .ok (.iconst 4, 1) := by decide +kernel
theorem dX0_init_115 : decode cX0_init 115 = .ok (.if_icmp .ge 20, 3) := by decide +kernel
theorem dX0_init_118 : decode cX0_init 118 = .ok (.aload_n 0, 1) := by decide +kernel
theorem dX0_init_119 : decode cX0_init 119 = .ok (.getfield 18, 3) := by decide +kernel
theorem dX0_init_122 : decode cX0_init 122 = .ok (.iload_n 1, 1) := by decide +kernel
theorem dX0_init_123 : decode cX0_init 123 = .ok (.getstatic 64, 3) := by decide +kernel
theorem dX0_init_126 : decode cX0_init 126 = .ok (.iload_n 1, 1) := by decide +kernel
theorem dX0_init_127 : decode cX0_init 127 = .ok (.iaload, 1) := by decide +kernel
theorem dX0_init_128 : decode cX0_init 128 = .ok (.iastore, 1) := by decide +kernel
theorem dX0_init_129 : decode cX0_init 129 = .ok (.iinc 1 1, 3) := by decide +kernel
theorem dX0_init_132 : decode cX0_init 132 = .ok (.goto (-19), 3) := by decide +kernel
theorem dX0_init_135 : decode cX0_init 135 = .ok (.return_, 1) := by decide +kernel
theorem dX0_become_0 : decode cX0_become 0 = .ok (.aload_n 1, 1) := by decide +kernel
theorem dX0_become_1 : decode cX0_become 1 = .ok (.getfield 9, 3) := by decide +kernel
theorem dX0_become_4 : decode cX0_become 4 = .ok (.iconst 0, 1) := by decide +kernel
theorem dX0_become_5 : decode cX0_become 5 = .ok (.aload_n 0, 1) := by decide +kernel
theorem dX0_become_6 : decode cX0_become 6 = .ok (.getfield 9, 3) := by decide +kernel
theorem dX0_become_9 : decode cX0_become 9 = .ok (.iconst 0, 1) := by decide +kernel
theorem dX0_become_10 : decode cX0_become 10 = .ok (.bipush 10, 2) := by decide +kernel
theorem dX0_become_12 : decode cX0_become 12 = .ok (.invokestatic 67, 3) := by decide +kernel
theorem dX0_become_15 : decode cX0_become 15 = .ok (.aload_n 1, 1) := by decide +kernel
theorem dX0_become_16 : decode cX0_become 16 = .ok (.getfield 15, 3) := by decide +kernel
theorem dX0_become_19 : decode cX0_become 19 = .ok (.iconst 0, 1) := by decide +kernel
theorem dX0_become_20 : decode cX0_become 20 = .ok (.aload_n 0, 1) := by decide +kernel
theorem dX0_become_21 : decode cX0_become 21 = .ok (.getfield 15, 3) := by decide +kernel
theorem dX0_become_24 : decode cX0_become 24 = .ok (.iconst 0, 1) := by decide +kernel
theorem dX0_become_25 : decode cX0_become 25 = .ok (.bipush 10, 2) := by decide +kernel
theorem dX0_become_27 : decode cX0_become 27 = .ok (.invokestatic 67, 3) := by decide +kernel
theorem dX0_become_30 : decode cX0_become 30 = .ok (.aload_n 1, 1) := by decide +kernel
theorem dX0_become_31 : decode cX0_become 31 = .ok (.getfield 18, 3) := by decide +kernel
theorem dX0_become_34 : decode cX0_become 34 = .ok (.iconst 0, 1) := by decide +kernel
theorem dX0_become_35 : decode cX0_become 35 = .ok (.aload_n 0, 1) := by decide +kernel
theorem dX0_become_36 : decode cX0_become 36 = .ok (.getfield 18, 3) := by decide +kernel
theorem dX0_become_39 : decode cX0_become 39 = .ok (.iconst 0, 1) := by decide +kernel
theorem dX0_become_40 : decode cX0_become 40 = .ok (.iconst 4, 1) := by decide +kernel
theorem dX0_become_41 : decode cX0_become 41 = .ok (.invokestatic 67, 3) := by decide +kernel
theorem dX0_become_44 : decode cX0_become 44 = .ok (.aload_n 1, 1) := by decide +kernel
theorem dX0_become_45 : decode cX0_become 45 = .ok (.getfield 21, 3) := by decide +kernel
theorem dX0_become_48 : decode cX0_become 48 = .ok (.iconst 0, 1) := by decide +kernel
theorem dX0_become_49 : decode cX0_become 49 = .ok (.aload_n 0, 1) := by decide +kernel
theorem dX0_become_50 : decode cX0_become 50 = .ok (.getfield 21, 3) := by decide +kernel
theorem dX0_become_53 : decode cX0_become 53 = .ok (.iconst 0, 1) := by decide +kernel
theorem dX0_become_54 : decode cX0_become 54 = .ok (.iconst 4, 1) := by decide +kernel
theorem dX0_become_55 : decode cX0_become 55 = .ok (.invokestatic 67, 3) := by decide +kernel
theorem dX0_become_58 : decode cX0_become 58 = .ok (.aload_n 1, 1) := by decide +kernel
theorem dX0_become_59 : decode cX0_become 59 = .ok (.getfield 24, 3) := by decide +kernel
theorem dX0_become_62 : decode cX0_become 62 = .ok (.iconst 0, 1) := by decide +kernel
theorem dX0_become_63 : decode cX0_become 63 = .ok (.aload_n 0, 1) := by decide +kernel
theorem dX0_become_64 : decode cX0_become 64 = .ok (.getfield 24, 3) := by decide +kernel
theorem dX0_become_67 : decode cX0_become 67 = .ok (.iconst 0, 1) := by decide +kernel
theorem dX0_become_68 : decode cX0_become 68 = .ok (.iconst 4, 1) := by decide +kernel
theorem dX0_become_69 : decode cX0_become 69 = .ok (.invokestatic 67, 3) := by decide +kernel
theorem dX0_become_72 : decode cX0_become 72 = .ok (.aload_n 1, 1) := by decide +kernel
theorem dX0_become_73 : decode cX0_become 73 = .ok (.getfield 27, 3) := by decide +kernel
theorem dX0_become_76 : decode cX0_become 76 = .ok (.iconst 0, 1) := by decide +kernel
theorem dX0_become_77 : decode cX0_become 77 = .ok (.aload_n 0, 1) := by decide +kernel
theorem dX0_become_78 : decode cX0_become 78 = .ok (.getfield 27, 3) := by decide +kernel
theorem dX0_become_81 : decode cX0_become 81 = .ok (.iconst 0, 1) := by decide +kernel
theorem dX0_become_82 : decode cX0_become 82 = .ok (.iconst 4, 1) := by decide +kernel
theorem dX0_become_83 : decode cX0_become 83 = .ok (.invokestatic 67, 3) := by decide +kernel
theorem dX0_become_86 : decode cX0_become 86 = .ok (.aload_n 1, 1) := by decide +kernel
theorem dX0_become_87 : decode cX0_become 87 = .ok (.getfield 30, 3) := by decide +kernel
theorem dX0_become_90 : decode cX0_become 90 = .ok (.iconst 0, 1) := by decide +kernel
theorem dX0_become_91 : decode cX0_become 91 = .ok (.aload_n 0, 1) := by decide +kernel
theorem dX0_become_92 : decode cX0_become 92 = .ok (.getfield 30, 3) := by decide +kernel
theorem dX0_become_95 : decode cX0_become 95 = .ok (.iconst 0, 1) := by decide +kernel
theorem dX0_become_96 : decode cX0_become 96 = .ok (.iconst 4, 1) := by decide +kernel
theorem dX0_become_97 : decode cX0_become 97 = .ok (.invokestatic 67, 3) := by decide +kernel
theorem dX0_become_100 : decode cX0_become 100 = .ok (.aload_n 1, 1) := by decide +kernel
theorem dX0_become_101 : decode cX0_become 101 = .ok (.getfield 33, 3) := by decide +kernel
theorem dX0_become_104 : decode cX0_become 104 = .ok (.iconst 0, 1) := by decide +kernel
theorem dX0_become_105 : decode cX0_become 105 = .ok (.aload_n 0, 1) := by decide +kernel
theorem dX0_become_106 : decode cX0_become 106 = .ok (.getfield 33, 3) := by decide +kernel
theorem dX0_become_109 : decode cX0_become 109 = .ok (.iconst 0, 1) := by decide +kernel
theorem dX0_become_110 : decode cX0_become 110 = .ok (.iconst 4, 1) := by decide +kernel
theorem dX0_become_111 : decode cX0_become 111 = .ok (.invokestatic 67, 3) := by decide +kernel
theorem dX0_become_114 : decode cX0_become 114 = .ok (.aload_n 1, 1) := by decide +kernel
theorem dX0_become_115 : decode cX0_become 115 = .ok (.getfield 36, 3) := by decide +kernel
theorem dX0_become_118 : decode cX0_become 118 = .ok (.iconst 0, 1) := by decide +kernel
theorem dX0_become_119 : decode cX0_become 119 = .ok (.aload_n 0, 1) := by decide +kernel
theorem dX0_become_120 : decode cX0_become 120 = .ok (.getfield 36, 3) := by decide +kernel
theorem dX0_become_123 : decode cX0_become 123 = .ok (.iconst 0, 1) := by decide +kernel
theorem dX0_become_124 : decode cX0_become 124 = .ok (.iconst 4, 1) := by decide +kernel
theorem dX0_become_125 : decode cX0_become 125 = .ok (.invokestatic 67, 3) := by decide +kernel
theorem dX0_become_128 : decode cX0_become 128 = .ok (.aload_n 1, 1) := by decide +kernel
theorem dX0_become_129 : decode cX0_become 129 = .ok (.getfield 39, 3) := by decide +kernel
theorem dX0_become_132 : decode cX0_become 132 = .ok (.iconst 0, 1) := by decide +kernel
theorem dX0_become_133 : decode cX0_become 133 = .ok (.aload_n 0, 1) := by decide +kernel
theorem dX0_become_134 : decode cX0_become 134 = .ok (.getfield 39, 3) := by decide +kernel
theorem dX0_become_137 : decode cX0_become 137 = .ok (.iconst 0, 1) := by decide +kernel
theorem dX0_become_138 : decode cX0_become 138 = .ok (.iconst 4, 1) := by decide +kernel
theorem dX0_become_139 : decode cX0_become 139 = .ok (.invokestatic 67, 3) := by decide +kernel
theorem dX0_become_142 : decode cX0_become 142 = .ok (.aload_n 0, 1) := by decide +kernel
theorem dX0_become_143 : decode cX0_become 143 = .ok (.aload_n 1, 1) := by decide +kernel
theorem dX0_become_144 : decode cX0_become 144 = .ok (.getfield 42, 3) := by decide +kernel
theorem dX0_become_147 : decode cX0_become 147 = .ok (.putfield 42, 3) := by decide +kernel
theorem dX0_become_150 : decode cX0_become 150 = .ok (.aload_n 0, 1) := by decide +kernel
theorem dX0_become_151 : decode cX0_become 151 = .ok (.aload_n 1, 1) := by decide +kernel
theorem dX0_become_152 : decode cX0_become 152 = .ok (.getfield 46, 3) := by decide +kernel
theorem dX0_become_155 : decode cX0_become 155 = .ok (.putfield 46, 3) := by decide +kernel
theorem dX0_become_158 : decode cX0_become 158 = .ok (.aload_n 0, 1) := by decide +kernel
theorem dX0_become_159 : decode cX0_become 159 = .ok (.aload_n 1, 1) := by decide +kernel
theorem dX0_become_160 : decode cX0_become 160 = .ok (.getfield 49, 3) := by decide +kernel
theorem dX0_become_163 : decode cX0_become 163 = .ok (.putfield 49, 3) := by decide +kernel
theorem dX0_become_166 : decode cX0_become 166 = .ok (.aload_n 0, 1) := by decide +kernel
theorem dX0_become_167 : decode cX0_become 167 = .ok (.aload_n 1, 1) := by decide +kernel
theorem dX0_become_168 : decode cX0_become 168 = .ok (.getfield 52, 3) := by decide +kernel
theorem dX0_become_171 : decode cX0_become 171 = .ok (.putfield 52, 3) := by decide +kernel
theorem dX0_become_174 : decode cX0_become 174 = .ok (.aload_n 0, 1) := by decide +kernel
theorem dX0_become_175 : decode cX0_become 175 = .ok (.aload_n 1, 1) := by decide +kernel
theorem dX0_become_176 : decode cX0_become 176 = .ok (.getfield 55, 3) := by decide +kernel
theorem dX0_become_179 : decode cX0_become 179 = .ok (.putfield 55, 3) := by decide +kernel
theorem dX0_become_182 : decode cX0_become 182 = .ok (.aload_n 0, 1) := by decide +kernel
theorem dX0_become_183 : decode cX0_become 183 = .ok (.aload_n 1, 1) := by decide +kernel
theorem dX0_become_184 : decode cX0_become 184 = .ok (.getfield 58, 3) := by decide +kernel
theorem dX0_become_187 : decode cX0_become 187 = .ok (.putfield 58, 3) := by decide +kernel
theorem dX0_become_190 : decode cX0_become 190 = .ok (.aload_n 0, 1) := by decide +kernel
theorem dX0_become_191 : decode cX0_become 191 = .ok (.aload_n 1, 1) := by decide +kernel
theorem dX0_become_192 : decode cX0_become 192 = .ok (.getfield 61, 3) := by decide +kernel
theorem dX0_become_195 : decode cX0_become 195 = .ok (.putfield 61, 3) := by decide +kernel
theorem dX0_become_198 : decode cX0_become 198 = .ok (.return_, 1) := by decide +kernel
theorem dX0_hasPlayer_0 : decode cX0_hasPlayer 0 = .ok (.iload_n 1, 1) := by decide +kernel
theorem dX0_hasPlayer_1 : decode cX0_hasPlayer 1 = .ok (.ifCond .lt 15, 3) := by decide +kernel
theorem dX0_hasPlayer_4 : decode cX0_hasPlayer 4 = .ok (.iload_n 1, 1) := by decide +kernel
theorem dX0_hasPlayer_5 : decode cX0_hasPlayer 5 = .ok (.aload_n 0, 1) := by decide +kernel
theorem dX0_hasPlayer_6 : decode cX0_hasPlayer 6 = .ok (.getfield 42, 3) := by decide +kernel
theorem dX0_hasPlayer_9 : decode cX0_hasPlayer 9 = .ok (.if_icmp .ge 7, 3) := by decide +kernel
theorem dX0_hasPlayer_12 : decode cX0_hasPlayer 12 = .ok (.iconst 1, 1) := by decide +kernel
theorem dX0_hasPlayer_13 : decode cX0_hasPlayer 13 = .ok (.goto 4, 3) := by decide +kernel
theorem dX0_hasPlayer_16 : decode cX0_hasPlayer 16 = .ok (.iconst 0, 1) := by decide +kernel
theorem dX0_hasPlayer_17 : decode cX0_hasPlayer 17 = .ok (.ireturn, 1) := by decide +kernel
theorem dX0_takesMoves_0 : decode cX0_takesMoves 0 = .ok (.aload_n 0, 1) := by decide +kernel
theorem dX0_takesMoves_1 : decode cX0_takesMoves 1 = .ok (.getfield 42, 3) := by decide +kernel
theorem dX0_takesMoves_4 : decode cX0_takesMoves 4 = .ok (.ifCond .le 17, 3) := by decide +kernel
theorem dX0_takesMoves_7 : decode cX0_takesMoves 7 = .ok (.aload_n 0, 1) := by decide +kernel
theorem dX0_takesMoves_8 : decode cX0_takesMoves 8 = .ok (.getfield 52, 3) := by decide +kernel
theorem dX0_takesMoves_11 : decode cX0_takesMoves 11 = .ok (.sipush 9999, 3) := by decide +kernel
theorem dX0_takesMoves_14 : decode cX0_takesMoves 14 = .ok (.if_icmp .ge 7, 3) := by decide +kernel
theorem dX0_takesMoves_17 : decode cX0_takesMoves 17 = .ok (.iconst 1, 1) := by decide +kernel
theorem dX0_takesMoves_18 : decode cX0_takesMoves 18 = .ok (.goto 4, 3) := by decide +kernel
theorem dX0_takesMoves_21 : decode cX0_takesMoves 21 = .ok (.iconst 0, 1) := by decide +kernel
theorem dX0_takesMoves_22 : decode cX0_takesMoves 22 = .ok (.ireturn, 1) := by decide +kernel
theorem dX0_addPlayer_0 : decode cX0_addPlayer 0 = .ok (.aload_n 0, 1) := by decide +kernel
theorem dX0_addPlayer_1 : decode cX0_addPlayer 1 = .ok (.getfield 42, 3) := by decide +kernel
theorem dX0_addPlayer_4 : decode cX0_addPlayer 4 = .ok (.istore_n 3, 1) := by decide +kernel
theorem dX0_addPlayer_5 : decode cX0_addPlayer 5 = .ok (.aload_n 0, 1) := by decide +kernel
theorem dX0_addPlayer_6 : decode cX0_addPlayer 6 = .ok (.getfield 21, 3) := by decide +kernel
theorem dX0_addPlayer_9 : decode cX0_addPlayer 9 = .ok (.iload_n 3, 1) := by decide +kernel
theorem dX0_addPlayer_10 : decode cX0_addPlayer 10 = .ok (.iload_n 1, 1) := by decide +kernel
theorem dX0_addPlayer_11 : decode cX0_addPlayer 11 = .ok (.iastore, 1) := by decide +kernel
theorem dX0_addPlayer_12 : decode cX0_addPlayer 12 = .ok (.aload_n 0, 1) := by decide +kernel
theorem dX0_addPlayer_13 : decode cX0_addPlayer 13 = .ok (.getfield 24, 3) := by decide +kernel
theorem dX0_addPlayer_16 : decode cX0_addPlayer 16 = .ok (.iload_n 3, 1) := by decide +kernel
theorem dX0_addPlayer_17 : decode cX0_addPlayer 17 = .ok (.iload_n 2, 1) := by decide +kernel
theorem dX0_addPlayer_18 : decode cX0_addPlayer 18 = .ok (.iastore, 1) := by decide +kernel
theorem dX0_addPlayer_19 : decode cX0_addPlayer 19 = .ok (.aload_n 0, 1) := by decide +kernel
theorem dX0_addPlayer_20 : decode cX0_addPlayer 20 = .ok (.dup, 1) := by decide +kernel
theorem dX0_addPlayer_21 : decode cX0_addPlayer 21 = .ok (.getfield 61, 3) := by decide +kernel
theorem dX0_addPlayer_24 : decode cX0_addPlayer 24 = .ok (.iload_n 2, 1) := by decide +kernel
theorem dX0_addPlayer_25 : decode cX0_addPlayer 25 = .ok (.iadd, 1) := by decide +kernel
theorem dX0_addPlayer_26 : decode cX0_addPlayer 26 = .ok (.putfield 61, 3) := by decide +kernel
theorem dX0_addPlayer_29 : decode cX0_addPlayer 29 = .ok (.aload_n 0, 1) := by decide +kernel
theorem dX0_addPlayer_30 : decode cX0_addPlayer 30 = .ok (.dup, 1) := by decide +kernel
theorem dX0_addPlayer_31 : decode cX0_addPlayer 31 = .ok (.getfield 42, 3) := by decide +kernel
theorem dX0_addPlayer_34 : decode cX0_addPlayer 34 = .ok (.iconst 1, 1) := by decide +kernel
theorem dX0_addPlayer_35 : decode cX0_addPlayer 35 = .ok (.iadd, 1) := by decide +kernel
theorem dX0_addPlayer_36 : decode cX0_addPlayer 36 = .ok (.putfield 42, 3) := by decide +kernel
theorem dX0_addPlayer_39 : decode cX0_addPlayer 39 = .ok (.iload_n 3, 1) := by decide +kernel
theorem dX0_addPlayer_40 : decode cX0_addPlayer 40 = .ok (.ireturn, 1) := by decide +kernel
theorem dX0_sees_0 : decode cX0_sees 0 = .ok (.aload_n 0, 1) := by decide +kernel
theorem dX0_sees_1 : decode cX0_sees 1 = .ok (.getfield 9, 3) := by decide +kernel
theorem dX0_sees_4 : decode cX0_sees 4 = .ok (.iload_n 1, 1) := by decide +kernel
theorem dX0_sees_5 : decode cX0_sees 5 = .ok (.iaload, 1) := by decide +kernel
theorem dX0_sees_6 : decode cX0_sees 6 = .ok (.aload_n 0, 1) := by decide +kernel
theorem dX0_sees_7 : decode cX0_sees 7 = .ok (.getfield 9, 3) := by decide +kernel
theorem dX0_sees_10 : decode cX0_sees 10 = .ok (.iload_n 2, 1) := by decide +kernel
theorem dX0_sees_11 : decode cX0_sees 11 = .ok (.iaload, 1) := by decide +kernel
theorem dX0_sees_12 : decode cX0_sees 12 = .ok (.invokestatic 73, 3) := by decide +kernel
theorem dX0_sees_15 : decode cX0_sees 15 = .ok (.istore_n 3, 1) := by decide +kernel
theorem dX0_sees_16 : decode cX0_sees 16 = .ok (.iload_n 1, 1) := by decide +kernel
theorem dX0_sees_17 : decode cX0_sees 17 = .ok (.iload_n 2, 1) := by decide +kernel
theorem dX0_sees_18 : decode cX0_sees 18 = .ok (.invokestatic 73, 3) := by decide +kernel
theorem dX0_sees_21 : decode cX0_sees 21 = .ok (.istore 4, 2) := by decide +kernel
theorem dX0_sees_23 : decode cX0_sees 23 = .ok (.iload_n 1, 1) := by decide +kernel
theorem dX0_sees_24 : decode cX0_sees 24 = .ok (.iload_n 2, 1) := by decide +kernel
theorem dX0_sees_25 : decode cX0_sees 25 = .ok (.invokestatic 79, 3) := by decide +kernel
theorem dX0_sees_28 : decode cX0_sees 28 = .ok (.iconst 1, 1) := by decide +kernel
theorem dX0_sees_29 : decode cX0_sees 29 = .ok (.iadd, 1) := by decide +kernel
theorem dX0_sees_30 : decode cX0_sees 30 = .ok (.istore 5, 2) := by decide +kernel
theorem dX0_sees_32 : decode cX0_sees 32 = .ok (.iload 5, 2) := by decide +kernel
theorem dX0_sees_34 : decode cX0_sees 34 = .ok (.iload 4, 2) := by decide +kernel
theorem dX0_sees_36 : decode cX0_sees 36 = .ok (.if_icmp .ge 22, 3) := by decide +kernel
theorem dX0_sees_39 : decode cX0_sees 39 = .ok (.aload_n 0, 1) := by decide +kernel
theorem dX0_sees_40 : decode cX0_sees 40 = .ok (.getfield 9, 3) := by decide +kernel
theorem dX0_sees_43 : decode cX0_sees 43 = .ok (.iload 5, 2) := by decide +kernel
theorem dX0_sees_45 : decode cX0_sees 45 = .ok (.iaload, 1) := by decide +kernel
theorem dX0_sees_46 : decode cX0_sees 46 = .ok (.iload_n 3, 1) := by decide +kernel
theorem dX0_sees_47 : decode cX0_sees 47 = .ok (.if_icmp .le 5, 3) := by decide +kernel
theorem dX0_sees_50 : decode cX0_sees 50 = .ok (.iconst 0, 1) := by decide +kernel
theorem dX0_sees_51 : decode cX0_sees 51 = .ok (.ireturn, 1) := by decide +kernel
theorem dX0_sees_52 : decode cX0_sees 52 = .ok (.iinc 5 1, 3) := by decide +kernel
theorem dX0_sees_55 : decode cX0_sees 55 = .ok (.goto (-23), 3) := by decide +kernel
theorem dX0_sees_58 : decode cX0_sees 58 = .ok (.iconst 1, 1) := by decide +kernel
theorem dX0_sees_59 : decode cX0_sees 59 = .ok (.ireturn, 1) := by decide +kernel
theorem dX0_towersSeenFrom_0 : decode cX0_towersSeenFrom 0 = .ok (.iconst 0, 1) := by decide +kernel
theorem dX0_towersSeenFrom_1 : decode cX0_towersSeenFrom 1 = .ok (.istore_n 2, 1) := by decide +kernel
theorem dX0_towersSeenFrom_2 : decode cX0_towersSeenFrom 2 = .ok (.iconst 0, 1) := by decide +kernel
theorem dX0_towersSeenFrom_3 : decode cX0_towersSeenFrom 3 = .ok (.istore_n 3, 1) := by decide +kernel
theorem dX0_towersSeenFrom_4 : decode cX0_towersSeenFrom 4 = .ok (.iload_n 3, 1) := by decide +kernel
theorem dX0_towersSeenFrom_5 : decode cX0_towersSeenFrom 5 = .ok (.bipush 10, 2) := by decide +kernel
theorem dX0_towersSeenFrom_7 : decode cX0_towersSeenFrom 7 = .ok (.if_icmp .ge 24, 3) := by decide +kernel
theorem dX0_towersSeenFrom_10 : decode cX0_towersSeenFrom 10 = .ok (.aload_n 0, 1) := by decide +kernel
theorem dX0_towersSeenFrom_11 : decode cX0_towersSeenFrom 11 = .ok (.iload_n 1, 1) := by decide +kernel
theorem dX0_towersSeenFrom_12 : decode cX0_towersSeenFrom 12 = .ok (.iload_n 3, 1) := by decide +kernel
theorem dX0_towersSeenFrom_13 : decode cX0_towersSeenFrom 13 = .ok (.invokevirtual 82, 3) := by decide +kernel
theorem dX0_towersSeenFrom_16 : decode cX0_towersSeenFrom 16 = .ok (.ifCond .eq 9, 3) := by decide +kernel
theorem dX0_towersSeenFrom_19 : decode cX0_towersSeenFrom 19 = .ok (.iload_n 2, 1) := by decide +kernel
theorem dX0_towersSeenFrom_20 : decode cX0_towersSeenFrom 20 = .ok (.iconst 1, 1) := by decide +kernel
theorem dX0_towersSeenFrom_21 : decode cX0_towersSeenFrom 21 = .ok (.iload_n 3, 1) := by decide +kernel
theorem dX0_towersSeenFrom_22 : decode cX0_towersSeenFrom 22 = .ok (.ishl, 1) := by decide +kernel
theorem dX0_towersSeenFrom_23 : decode cX0_towersSeenFrom 23 = .ok (.ior, 1) := by decide +kernel
theorem dX0_towersSeenFrom_24 : decode cX0_towersSeenFrom 24 = .ok (.istore_n 2, 1) := by decide +kernel
theorem dX0_towersSeenFrom_25 : decode cX0_towersSeenFrom 25 = .ok (.iinc 3 1, 3) := by decide +kernel
theorem dX0_towersSeenFrom_28 : decode cX0_towersSeenFrom 28 = .ok (.goto (-24), 3) := by decide +kernel
theorem dX0_towersSeenFrom_31 : decode cX0_towersSeenFrom 31 = .ok (.iload_n 2, 1) := by decide +kernel
theorem dX0_towersSeenFrom_32 : decode cX0_towersSeenFrom 32 = .ok (.ireturn, 1) := by decide +kernel
theorem dX0_towerThatSeesMost_0 : decode cX0_towerThatSeesMost 0 = .ok (.iconst 0, 1) := by decide +kernel
theorem dX0_towerThatSeesMost_1 : decode cX0_towerThatSeesMost 1 = .ok (.istore_n 1, 1) := by decide +kernel
theorem dX0_towerThatSeesMost_2 : decode cX0_towerThatSeesMost 2 = .ok (.iconst 0, 1) := by decide +kernel
theorem dX0_towerThatSeesMost_3 : decode cX0_towerThatSeesMost 3 = .ok (.istore_n 2, 1) := by decide +kernel
theorem dX0_towerThatSeesMost_4 : decode cX0_towerThatSeesMost 4 = .ok (.iconst 0, 1) := by decide +kernel
theorem dX0_towerThatSeesMost_5 : decode cX0_towerThatSeesMost 5 = .ok (.istore_n 3, 1) := by decide +kernel
theorem dX0_towerThatSeesMost_6 : decode cX0_towerThatSeesMost 6 = .ok (.iload_n 3, 1) := by decide +kernel
theorem dX0_towerThatSeesMost_7 : decode cX0_towerThatSeesMost 7 = .ok (.bipush 10, 2) := by decide +kernel
theorem dX0_towerThatSeesMost_9 : decode cX0_towerThatSeesMost 9 = .ok (.if_icmp .ge 30, 3) := by decide +kernel
theorem dX0_towerThatSeesMost_12 : decode cX0_towerThatSeesMost 12 = .ok (.aload_n 0, 1) := by decide +kernel
theorem dX0_towerThatSeesMost_13 : decode cX0_towerThatSeesMost 13 = .ok (.iload_n 3, 1) := by decide +kernel
theorem dX0_towerThatSeesMost_14 : decode cX0_towerThatSeesMost 14 = .ok (.invokevirtual 86, 3) := by decide +kernel
theorem dX0_towerThatSeesMost_17 : decode cX0_towerThatSeesMost 17 = .ok (.invokestatic 90, 3) := by decide +kernel
theorem dX0_towerThatSeesMost_20 : decode cX0_towerThatSeesMost 20 = .ok (.istore 4, 2) := by decide +kernel
theorem dX0_towerThatSeesMost_22 : decode cX0_towerThatSeesMost 22 = .ok (.iload 4, 2) := by decide +kernel
theorem dX0_towerThatSeesMost_24 : decode cX0_towerThatSeesMost 24 = .ok (.iload_n 2, 1) := by decide +kernel
theorem dX0_towerThatSeesMost_25 : decode cX0_towerThatSeesMost 25 = .ok (.if_icmp .le 8, 3) := by decide +kernel
theorem dX0_towerThatSeesMost_28 : decode cX0_towerThatSeesMost 28 = .ok (.iload 4, 2) := by decide +kernel
theorem dX0_towerThatSeesMost_30 : decode cX0_towerThatSeesMost 30 = .ok (.istore_n 2, 1) := by decide +kernel
theorem dX0_towerThatSeesMost_31 : decode cX0_towerThatSeesMost 31 = .ok (.iload_n 3, 1) := by decide +kernel
theorem dX0_towerThatSeesMost_32 : decode cX0_towerThatSeesMost 32 = .ok (.istore_n 1, 1) := by decide +kernel
theorem dX0_towerThatSeesMost_33 : decode cX0_towerThatSeesMost 33 = .ok (.iinc 3 1, 3) := by decide +kernel
theorem dX0_towerThatSeesMost_36 : decode cX0_towerThatSeesMost 36 = .ok (.goto (-30), 3) := by decide +kernel
theorem dX0_towerThatSeesMost_39 : decode cX0_towerThatSeesMost 39 = .ok (.iload_n 1, 1) := by decide +kernel
theorem dX0_towerThatSeesMost_40 : decode cX0_towerThatSeesMost 40 = .ok (.ireturn, 1) := by decide +kernel
theorem dX0_playersOn_0 : decode cX0_playersOn 0 = .ok (.iconst 0, 1) := by decide +kernel
theorem dX0_playersOn_1 : decode cX0_playersOn 1 = .ok (.istore_n 2, 1) := by decide +kernel
theorem dX0_playersOn_2 : decode cX0_playersOn 2 = .ok (.iconst 0, 1) := by decide +kernel
theorem dX0_playersOn_3 : decode cX0_playersOn 3 = .ok (.istore_n 3, 1) := by decide +kernel
theorem dX0_playersOn_4 : decode cX0_playersOn 4 = .ok (.iload_n 3, 1) := by decide +kernel
theorem dX0_playersOn_5 : decode cX0_playersOn 5 = .ok (.aload_n 0, 1) := by decide +kernel
theorem dX0_playersOn_6 : decode cX0_playersOn 6 = .ok (.getfield 42, 3) := by decide +kernel
theorem dX0_playersOn_9 : decode cX0_playersOn 9 = .ok (.if_icmp .ge 25, 3) := by decide +kernel
theorem dX0_playersOn_12 : decode cX0_playersOn 12 = .ok (.aload_n 0, 1) := by decide +kernel
theorem dX0_playersOn_13 : decode cX0_playersOn 13 = .ok (.getfield 21, 3) := by decide +kernel
theorem dX0_playersOn_16 : decode cX0_playersOn 16 = .ok (.iload_n 3, 1) := by decide +kernel
theorem dX0_playersOn_17 : decode cX0_playersOn 17 = .ok (.iaload, 1) := by decide +kernel
theorem dX0_playersOn_18 : decode cX0_playersOn 18 = .ok (.iload_n 1, 1) := by decide +kernel
theorem dX0_playersOn_19 : decode cX0_playersOn 19 = .ok (.if_icmp .ne 9, 3) := by decide +kernel
theorem dX0_playersOn_22 : decode cX0_playersOn 22 = .ok (.iload_n 2, 1) := by decide +kernel
theorem dX0_playersOn_23 : decode cX0_playersOn 23 = .ok (.iconst 1, 1) := by decide +kernel
theorem dX0_playersOn_24 : decode cX0_playersOn 24 = .ok (.iload_n 3, 1) := by decide +kernel
theorem dX0_playersOn_25 : decode cX0_playersOn 25 = .ok (.ishl, 1) := by decide +kernel
theorem dX0_playersOn_26 : decode cX0_playersOn 26 = .ok (.ior, 1) := by decide +kernel
theorem dX0_playersOn_27 : decode cX0_playersOn 27 = .ok (.istore_n 2, 1) := by decide +kernel
theorem dX0_playersOn_28 : decode cX0_playersOn 28 = .ok (.iinc 3 1, 3) := by decide +kernel
theorem dX0_playersOn_31 : decode cX0_playersOn 31 = .ok (.goto (-27), 3) := by decide +kernel
theorem dX0_playersOn_34 : decode cX0_playersOn 34 = .ok (.iload_n 2, 1) := by decide +kernel
theorem dX0_playersOn_35 : decode cX0_playersOn 35 = .ok (.ireturn, 1) := by decide +kernel
theorem dX0_priceOfStride_0 : decode cX0_priceOfStride 0 = .ok (.aload_n 0, 1) := by decide +kernel
theorem dX0_priceOfStride_1 : decode cX0_priceOfStride 1 = .ok (.getfield 18, 3) := by decide +kernel
theorem dX0_priceOfStride_4 : decode cX0_priceOfStride 4 = .ok (.iconst 1, 1) := by decide +kernel
theorem dX0_priceOfStride_5 : decode cX0_priceOfStride 5 = .ok (.iaload, 1) := by decide +kernel
theorem dX0_priceOfStride_6 : decode cX0_priceOfStride 6 = .ok (.iload_n 2, 1) := by decide +kernel
theorem dX0_priceOfStride_7 : decode cX0_priceOfStride 7 = .ok (.iload_n 1, 1) := by decide +kernel
theorem dX0_priceOfStride_8 : decode cX0_priceOfStride 8 = .ok (.isub, 1) := by decide +kernel
theorem dX0_priceOfStride_9 : decode cX0_priceOfStride 9 = .ok (.invokestatic 95, 3) := by decide +kernel
theorem dX0_priceOfStride_12 : decode cX0_priceOfStride 12 = .ok (.imul, 1) := by decide +kernel
theorem dX0_priceOfStride_13 : decode cX0_priceOfStride 13 = .ok (.iconst 0, 1) := by decide +kernel
theorem dX0_priceOfStride_14 : decode cX0_priceOfStride 14 = .ok (.aload_n 0, 1) := by decide +kernel
theorem dX0_priceOfStride_15 : decode cX0_priceOfStride 15 = .ok (.getfield 9, 3) := by decide +kernel
theorem dX0_priceOfStride_18 : decode cX0_priceOfStride 18 = .ok (.iload_n 2, 1) := by decide +kernel
theorem dX0_priceOfStride_19 : decode cX0_priceOfStride 19 = .ok (.iaload, 1) := by decide +kernel
theorem dX0_priceOfStride_20 : decode cX0_priceOfStride 20 = .ok (.aload_n 0, 1) := by decide +kernel
theorem dX0_priceOfStride_21 : decode cX0_priceOfStride 21 = .ok (.getfield 9, 3) := by decide +kernel
theorem dX0_priceOfStride_24 : decode cX0_priceOfStride 24 = .ok (.iload_n 1, 1) := by decide +kernel
theorem dX0_priceOfStride_25 : decode cX0_priceOfStride 25 = .ok (.iaload, 1) := by decide +kernel
theorem dX0_priceOfStride_26 : decode cX0_priceOfStride 26 = .ok (.isub, 1) := by decide +kernel
theorem dX0_priceOfStride_27 : decode cX0_priceOfStride 27 = .ok (.invokestatic 73, 3) := by decide +kernel
theorem dX0_priceOfStride_30 : decode cX0_priceOfStride 30 = .ok (.iadd, 1) := by decide +kernel
theorem dX0_priceOfStride_31 : decode cX0_priceOfStride 31 = .ok (.ireturn, 1) := by decide +kernel
theorem dX0_refusalOfStride_0 : decode cX0_refusalOfStride 0 = .ok (.aload_n 0, 1) := by decide +kernel
theorem dX0_refusalOfStride_1 : decode cX0_refusalOfStride 1 = .ok (.getfield 21, 3) := by decide +kernel
theorem dX0_refusalOfStride_4 : decode cX0_refusalOfStride 4 = .ok (.iload_n 1, 1) := by decide +kernel
theorem dX0_refusalOfStride_5 : decode cX0_refusalOfStride 5 = .ok (.iaload, 1) := by decide +kernel
theorem dX0_refusalOfStride_6 : decode cX0_refusalOfStride 6 = .ok (.istore_n 3, 1) := by decide +kernel
theorem dX0_refusalOfStride_7 : decode cX0_refusalOfStride 7 = .ok (.iload_n 3, 1) := by decide +kernel
theorem dX0_refusalOfStride_8 : decode cX0_refusalOfStride 8 = .ok (.iload_n 2, 1) := by decide +kernel
theorem dX0_refusalOfStride_9 : decode cX0_refusalOfStride 9 = .ok (.if_icmp .ne 5, 3) := by decide +kernel
theorem dX0_refusalOfStride_12 : decode cX0_refusalOfStride 12 = .ok (.iconst 1, 1) := by decide +kernel
theorem dX0_refusalOfStride_13 : decode cX0_refusalOfStride 13 = .ok (.ireturn, 1) := by decide +kernel
theorem dX0_refusalOfStride_14 : decode cX0_refusalOfStride 14 = .ok (.aload_n 0, 1) := by decide +kernel
theorem dX0_refusalOfStride_15 : decode cX0_refusalOfStride 15 = .ok (.iload_n 3, 1) := by decide +kernel
theorem dX0_refusalOfStride_16 : decode cX0_refusalOfStride 16 = .ok (.iload_n 2, 1) := by decide +kernel
theorem dX0_refusalOfStride_17 : decode cX0_refusalOfStride 17 = .ok (.invokevirtual 82, 3) := by decide +kernel
theorem dX0_refusalOfStride_20 : decode cX0_refusalOfStride 20 = .ok (.ifCond .ne 5, 3) := by decide +kernel
theorem dX0_refusalOfStride_23 : decode cX0_refusalOfStride 23 = .ok (.iconst 2, 1) := by decide +kernel
theorem dX0_refusalOfStride_24 : decode cX0_refusalOfStride 24 = .ok (.ireturn, 1) := by decide +kernel
theorem dX0_refusalOfStride_25 : decode cX0_refusalOfStride 25 = .ok (.aload_n 0, 1) := by decide +kernel
theorem dX0_refusalOfStride_26 : decode cX0_refusalOfStride 26 = .ok (.iload_n 3, 1) := by decide +kernel
theorem dX0_refusalOfStride_27 : decode cX0_refusalOfStride 27 = .ok (.iload_n 2, 1) := by decide +kernel
theorem dX0_refusalOfStride_28 : decode cX0_refusalOfStride 28 = .ok (.invokevirtual 98, 3) := by decide +kernel
theorem dX0_refusalOfStride_31 : decode cX0_refusalOfStride 31 = .ok (.aload_n 0, 1) := by decide +kernel
theorem dX0_refusalOfStride_32 : decode cX0_refusalOfStride 32 = .ok (.getfield 27, 3) := by decide +kernel
theorem dX0_refusalOfStride_35 : decode cX0_refusalOfStride 35 = .ok (.iload_n 1, 1) := by decide +kernel
theorem dX0_refusalOfStride_36 : decode cX0_refusalOfStride 36 = .ok (.iaload, 1) := by decide +kernel
theorem dX0_refusalOfStride_37 : decode cX0_refusalOfStride 37 = .ok (.if_icmp .le 7, 3) := by decide +kernel
theorem dX0_refusalOfStride_40 : decode cX0_refusalOfStride 40 = .ok (.iconst 3, 1) := by decide +kernel
theorem dX0_refusalOfStride_41 : decode cX0_refusalOfStride 41 = .ok (.goto 4, 3) := by decide +kernel
theorem dX0_refusalOfStride_44 : decode cX0_refusalOfStride 44 = .ok (.iconst 0, 1) := by decide +kernel
theorem dX0_refusalOfStride_45 : decode cX0_refusalOfStride 45 = .ok (.ireturn, 1) := by decide +kernel
theorem dX0_towersToStrideTo_0 : decode cX0_towersToStrideTo 0 = .ok (.iconst 0, 1) := by decide +kernel
theorem dX0_towersToStrideTo_1 : decode cX0_towersToStrideTo 1 = .ok (.istore_n 2, 1) := by decide +kernel
theorem dX0_towersToStrideTo_2 : decode cX0_towersToStrideTo 2 = .ok (.iconst 0, 1) := by decide +kernel
theorem dX0_towersToStrideTo_3 : decode cX0_towersToStrideTo 3 = .ok (.istore_n 3, 1) := by decide +kernel
theorem dX0_towersToStrideTo_4 : decode cX0_towersToStrideTo 4 = .ok (.iload_n 3, 1) := by decide +kernel
theorem dX0_towersToStrideTo_5 : decode cX0_towersToStrideTo 5 = .ok (.bipush 10, 2) := by decide +kernel
theorem dX0_towersToStrideTo_7 : decode cX0_towersToStrideTo 7 = .ok (.if_icmp .ge 24, 3) := by decide +kernel
theorem dX0_towersToStrideTo_10 : decode cX0_towersToStrideTo 10 = .ok (.aload_n 0, 1) := by decide +kernel
theorem dX0_towersToStrideTo_11 : decode cX0_towersToStrideTo 11 = .ok (.iload_n 1, 1) := by decide +kernel
theorem dX0_towersToStrideTo_12 : decode cX0_towersToStrideTo 12 = .ok (.iload_n 3, 1) := by decide +kernel
theorem dX0_towersToStrideTo_13 : decode cX0_towersToStrideTo 13 = .ok (.invokevirtual 101, 3) := by decide +kernel
theorem dX0_towersToStrideTo_16 : decode cX0_towersToStrideTo 16 = .ok (.ifCond .ne 9, 3) := by decide +kernel
theorem dX0_towersToStrideTo_19 : decode cX0_towersToStrideTo 19 = .ok (.iload_n 2, 1) := by decide +kernel
theorem dX0_towersToStrideTo_20 : decode cX0_towersToStrideTo 20 = .ok (.iconst 1, 1) := by decide +kernel
theorem dX0_towersToStrideTo_21 : decode cX0_towersToStrideTo 21 = .ok (.iload_n 3, 1) := by decide +kernel
theorem dX0_towersToStrideTo_22 : decode cX0_towersToStrideTo 22 = .ok (.ishl, 1) := by decide +kernel
theorem dX0_towersToStrideTo_23 : decode cX0_towersToStrideTo 23 = .ok (.ior, 1) := by decide +kernel
theorem dX0_towersToStrideTo_24 : decode cX0_towersToStrideTo 24 = .ok (.istore_n 2, 1) := by decide +kernel
theorem dX0_towersToStrideTo_25 : decode cX0_towersToStrideTo 25 = .ok (.iinc 3 1, 3) := by decide +kernel
theorem dX0_towersToStrideTo_28 : decode cX0_towersToStrideTo 28 = .ok (.goto (-24), 3) := by decide +kernel
theorem dX0_towersToStrideTo_31 : decode cX0_towersToStrideTo 31 = .ok (.iload_n 2, 1) := by decide +kernel
theorem dX0_towersToStrideTo_32 : decode cX0_towersToStrideTo 32 = .ok (.ireturn, 1) := by decide +kernel
theorem dX0_refusalOfTag_0 : decode cX0_refusalOfTag 0 = .ok (.iload_n 1, 1) := by decide +kernel
theorem dX0_refusalOfTag_1 : decode cX0_refusalOfTag 1 = .ok (.aload_n 0, 1) := by decide +kernel
theorem dX0_refusalOfTag_2 : decode cX0_refusalOfTag 2 = .ok (.getfield 49, 3) := by decide +kernel
theorem dX0_refusalOfTag_5 : decode cX0_refusalOfTag 5 = .ok (.if_icmp .eq 5, 3) := by decide +kernel
theorem dX0_refusalOfTag_8 : decode cX0_refusalOfTag 8 = .ok (.iconst 5, 1) := by decide +kernel
theorem dX0_refusalOfTag_9 : decode cX0_refusalOfTag 9 = .ok (.ireturn, 1) := by decide +kernel
theorem dX0_refusalOfTag_10 : decode cX0_refusalOfTag 10 = .ok (.iload_n 1, 1) := by decide +kernel
theorem dX0_refusalOfTag_11 : decode cX0_refusalOfTag 11 = .ok (.iload_n 2, 1) := by decide +kernel
theorem dX0_refusalOfTag_12 : decode cX0_refusalOfTag 12 = .ok (.if_icmp .ne 6, 3) := by decide +kernel
theorem dX0_refusalOfTag_15 : decode cX0_refusalOfTag 15 = .ok (.bipush 6, 2) := by decide +kernel
theorem dX0_refusalOfTag_17 : decode cX0_refusalOfTag 17 = .ok (.ireturn, 1) := by decide +kernel
theorem dX0_refusalOfTag_18 : decode cX0_refusalOfTag 18 = .ok (.aload_n 0, 1) := by decide +kernel
theorem dX0_refusalOfTag_19 : decode cX0_refusalOfTag 19 = .ok (.aload_n 0, 1) := by decide +kernel
theorem dX0_refusalOfTag_20 : decode cX0_refusalOfTag 20 = .ok (.getfield 21, 3) := by decide +kernel
theorem dX0_refusalOfTag_23 : decode cX0_refusalOfTag 23 = .ok (.iload_n 1, 1) := by decide +kernel
theorem dX0_refusalOfTag_24 : decode cX0_refusalOfTag 24 = .ok (.iaload, 1) := by decide +kernel
theorem dX0_refusalOfTag_25 : decode cX0_refusalOfTag 25 = .ok (.aload_n 0, 1) := by decide +kernel
theorem dX0_refusalOfTag_26 : decode cX0_refusalOfTag 26 = .ok (.getfield 21, 3) := by decide +kernel
theorem dX0_refusalOfTag_29 : decode cX0_refusalOfTag 29 = .ok (.iload_n 2, 1) := by decide +kernel
theorem dX0_refusalOfTag_30 : decode cX0_refusalOfTag 30 = .ok (.iaload, 1) := by decide +kernel
theorem dX0_refusalOfTag_31 : decode cX0_refusalOfTag 31 = .ok (.invokevirtual 82, 3) := by decide +kernel
theorem dX0_refusalOfTag_34 : decode cX0_refusalOfTag 34 = .ok (.ifCond .ne 5, 3) := by decide +kernel
theorem dX0_refusalOfTag_37 : decode cX0_refusalOfTag 37 = .ok (.iconst 2, 1) := by decide +kernel
theorem dX0_refusalOfTag_38 : decode cX0_refusalOfTag 38 = .ok (.ireturn, 1) := by decide +kernel
theorem dX0_refusalOfTag_39 : decode cX0_refusalOfTag 39 = .ok (.aload_n 0, 1) := by decide +kernel
theorem dX0_refusalOfTag_40 : decode cX0_refusalOfTag 40 = .ok (.getfield 21, 3) := by decide +kernel
theorem dX0_refusalOfTag_43 : decode cX0_refusalOfTag 43 = .ok (.iload_n 1, 1) := by decide +kernel
theorem dX0_refusalOfTag_44 : decode cX0_refusalOfTag 44 = .ok (.iaload, 1) := by decide +kernel
theorem dX0_refusalOfTag_45 : decode cX0_refusalOfTag 45 = .ok (.aload_n 0, 1) := by decide +kernel
theorem dX0_refusalOfTag_46 : decode cX0_refusalOfTag 46 = .ok (.getfield 21, 3) := by decide +kernel
theorem dX0_refusalOfTag_49 : decode cX0_refusalOfTag 49 = .ok (.iload_n 2, 1) := by decide +kernel
theorem dX0_refusalOfTag_50 : decode cX0_refusalOfTag 50 = .ok (.iaload, 1) := by decide +kernel
theorem dX0_refusalOfTag_51 : decode cX0_refusalOfTag 51 = .ok (.isub, 1) := by decide +kernel
theorem dX0_refusalOfTag_52 : decode cX0_refusalOfTag 52 = .ok (.invokestatic 95, 3) := by decide +kernel
theorem dX0_refusalOfTag_55 : decode cX0_refusalOfTag 55 = .ok (.aload_n 0, 1) := by decide +kernel
theorem dX0_refusalOfTag_56 : decode cX0_refusalOfTag 56 = .ok (.getfield 18, 3) := by decide +kernel
theorem dX0_refusalOfTag_59 : decode cX0_refusalOfTag 59 = .ok (.iconst 3, 1) := by decide +kernel
theorem dX0_refusalOfTag_60 : decode cX0_refusalOfTag 60 = .ok (.iaload, 1) := by decide +kernel
theorem dX0_refusalOfTag_61 : decode cX0_refusalOfTag 61 = .ok (.if_icmp .le 8, 3) := by decide +kernel
theorem dX0_refusalOfTag_64 : decode cX0_refusalOfTag 64 = .ok (.bipush 7, 2) := by decide +kernel
theorem dX0_refusalOfTag_66 : decode cX0_refusalOfTag 66 = .ok (.goto 4, 3) := by decide +kernel
theorem dX0_refusalOfTag_69 : decode cX0_refusalOfTag 69 = .ok (.iconst 0, 1) := by decide +kernel
theorem dX0_refusalOfTag_70 : decode cX0_refusalOfTag 70 = .ok (.ireturn, 1) := by decide +kernel
theorem dX0_playersInReachOfIt_0 : decode cX0_playersInReachOfIt 0 = .ok (.iconst 0, 1) := by decide +kernel
theorem dX0_playersInReachOfIt_1 : decode cX0_playersInReachOfIt 1 = .ok (.istore_n 1, 1) := by decide +kernel
theorem dX0_playersInReachOfIt_2 : decode cX0_playersInReachOfIt 2 = .ok (.iconst 0, 1) := by decide +kernel
theorem dX0_playersInReachOfIt_3 : decode cX0_playersInReachOfIt 3 = .ok (.istore_n 2, 1) := by decide +kernel
theorem dX0_playersInReachOfIt_4 : decode cX0_playersInReachOfIt 4 = .ok (.iload_n 2, 1) := by decide +kernel
theorem dX0_playersInReachOfIt_5 : decode cX0_playersInReachOfIt 5 = .ok (.aload_n 0, 1) := by decide +kernel
theorem dX0_playersInReachOfIt_6 : decode cX0_playersInReachOfIt 6 = .ok (.getfield 42, 3) := by decide +kernel
theorem dX0_playersInReachOfIt_9 : decode cX0_playersInReachOfIt 9 = .ok (.if_icmp .ge 27, 3) := by decide +kernel
theorem dX0_playersInReachOfIt_12 : decode cX0_playersInReachOfIt 12 = .ok (.aload_n 0, 1) := by decide +kernel
theorem dX0_playersInReachOfIt_13 : decode cX0_playersInReachOfIt 13 = .ok (.aload_n 0, 1) := by decide +kernel
theorem dX0_playersInReachOfIt_14 : decode cX0_playersInReachOfIt 14 = .ok (.getfield 49, 3) := by decide +kernel
theorem dX0_playersInReachOfIt_17 : decode cX0_playersInReachOfIt 17 = .ok (.iload_n 2, 1) := by decide +kernel
theorem dX0_playersInReachOfIt_18 : decode cX0_playersInReachOfIt 18 = .ok (.invokevirtual 104, 3) := by decide +kernel
theorem dX0_playersInReachOfIt_21 : decode cX0_playersInReachOfIt 21 = .ok (.ifCond .ne 9, 3) := by decide +kernel
theorem dX0_playersInReachOfIt_24 : decode cX0_playersInReachOfIt 24 = .ok (.iload_n 1, 1) := by decide +kernel
theorem dX0_playersInReachOfIt_25 : decode cX0_playersInReachOfIt 25 = .ok (.iconst 1, 1) := by decide +kernel
theorem dX0_playersInReachOfIt_26 : decode cX0_playersInReachOfIt 26 = .ok (.iload_n 2, 1) := by decide +kernel
theorem dX0_playersInReachOfIt_27 : decode cX0_playersInReachOfIt 27 = .ok (.ishl, 1) := by decide +kernel
theorem dX0_playersInReachOfIt_28 : decode cX0_playersInReachOfIt 28 = .ok (.ior, 1) := by decide +kernel
theorem dX0_playersInReachOfIt_29 : decode cX0_playersInReachOfIt 29 = .ok (.istore_n 1, 1) := by decide +kernel
theorem dX0_playersInReachOfIt_30 : decode cX0_playersInReachOfIt 30 = .ok (.iinc 2 1, 3) := by decide +kernel
theorem dX0_playersInReachOfIt_33 : decode cX0_playersInReachOfIt 33 = .ok (.goto (-29), 3) := by decide +kernel
theorem dX0_playersInReachOfIt_36 : decode cX0_playersInReachOfIt 36 = .ok (.iload_n 1, 1) := by decide +kernel
theorem dX0_playersInReachOfIt_37 : decode cX0_playersInReachOfIt 37 = .ok (.ireturn, 1) := by decide +kernel
theorem dX0_moveByStride_0 : decode cX0_moveByStride 0 = .ok (.aload_n 0, 1) := by decide +kernel
theorem dX0_moveByStride_1 : decode cX0_moveByStride 1 = .ok (.aload_n 0, 1) := by decide +kernel
theorem dX0_moveByStride_2 : decode cX0_moveByStride 2 = .ok (.getfield 46, 3) := by decide +kernel
theorem dX0_moveByStride_5 : decode cX0_moveByStride 5 = .ok (.iload_n 1, 1) := by decide +kernel
theorem dX0_moveByStride_6 : decode cX0_moveByStride 6 = .ok (.invokevirtual 101, 3) := by decide +kernel
theorem dX0_moveByStride_9 : decode cX0_moveByStride 9 = .ok (.istore_n 2, 1) := by decide +kernel
theorem dX0_moveByStride_10 : decode cX0_moveByStride 10 = .ok (.iload_n 2, 1) := by decide +kernel
theorem dX0_moveByStride_11 : decode cX0_moveByStride 11 = .ok (.ifCond .eq 9, 3) := by decide +kernel
theorem dX0_moveByStride_14 : decode cX0_moveByStride 14 = .ok (.aload_n 0, 1) := by decide +kernel
theorem dX0_moveByStride_15 : decode cX0_moveByStride 15 = .ok (.iload_n 2, 1) := by decide +kernel
theorem dX0_moveByStride_16 : decode cX0_moveByStride 16 = .ok (.invokevirtual 107, 3) := by decide +kernel
theorem dX0_moveByStride_19 : decode cX0_moveByStride 19 = .ok (.ireturn, 1) := by decide +kernel
theorem dX0_moveByStride_20 : decode cX0_moveByStride 20 = .ok (.aload_n 0, 1) := by decide +kernel
theorem dX0_moveByStride_21 : decode cX0_moveByStride 21 = .ok (.aload_n 0, 1) := by decide +kernel
theorem dX0_moveByStride_22 : decode cX0_moveByStride 22 = .ok (.aload_n 0, 1) := by decide +kernel
theorem dX0_moveByStride_23 : decode cX0_moveByStride 23 = .ok (.getfield 21, 3) := by decide +kernel
theorem dX0_moveByStride_26 : decode cX0_moveByStride 26 = .ok (.aload_n 0, 1) := by decide +kernel
theorem dX0_moveByStride_27 : decode cX0_moveByStride 27 = .ok (.getfield 46, 3) := by decide +kernel
theorem dX0_moveByStride_30 : decode cX0_moveByStride 30 = .ok (.iaload, 1) := by decide +kernel
theorem dX0_moveByStride_31 : decode cX0_moveByStride 31 = .ok (.iload_n 1, 1) := by decide +kernel
theorem dX0_moveByStride_32 : decode cX0_moveByStride 32 = .ok (.invokevirtual 98, 3) := by decide +kernel
theorem dX0_moveByStride_35 : decode cX0_moveByStride 35 = .ok (.invokevirtual 110, 3) := by decide +kernel
theorem dX0_moveByStride_38 : decode cX0_moveByStride 38 = .ok (.aload_n 0, 1) := by decide +kernel
theorem dX0_moveByStride_39 : decode cX0_moveByStride 39 = .ok (.getfield 21, 3) := by decide +kernel
theorem dX0_moveByStride_42 : decode cX0_moveByStride 42 = .ok (.aload_n 0, 1) := by decide +kernel
theorem dX0_moveByStride_43 : decode cX0_moveByStride 43 = .ok (.getfield 46, 3) := by decide +kernel
theorem dX0_moveByStride_46 : decode cX0_moveByStride 46 = .ok (.iload_n 1, 1) := by decide +kernel
theorem dX0_moveByStride_47 : decode cX0_moveByStride 47 = .ok (.iastore, 1) := by decide +kernel
theorem dX0_moveByStride_48 : decode cX0_moveByStride 48 = .ok (.aload_n 0, 1) := by decide +kernel
theorem dX0_moveByStride_49 : decode cX0_moveByStride 49 = .ok (.getfield 24, 3) := by decide +kernel
theorem dX0_moveByStride_52 : decode cX0_moveByStride 52 = .ok (.aload_n 0, 1) := by decide +kernel
theorem dX0_moveByStride_53 : decode cX0_moveByStride 53 = .ok (.getfield 46, 3) := by decide +kernel
theorem dX0_moveByStride_56 : decode cX0_moveByStride 56 = .ok (.dup2, 1) := by decide +kernel
theorem dX0_moveByStride_57 : decode cX0_moveByStride 57 = .ok (.iaload, 1) := by decide +kernel
theorem dX0_moveByStride_58 : decode cX0_moveByStride 58 = .ok (.aload_n 0, 1) := by decide +kernel
theorem dX0_moveByStride_59 : decode cX0_moveByStride 59 = .ok (.getfield 15, 3) := by decide +kernel
theorem dX0_moveByStride_62 : decode cX0_moveByStride 62 = .ok (.iload_n 1, 1) := by decide +kernel
theorem dX0_moveByStride_63 : decode cX0_moveByStride 63 = .ok (.iaload, 1) := by decide +kernel
theorem dX0_moveByStride_64 : decode cX0_moveByStride 64 = .ok (.iadd, 1) := by decide +kernel
theorem dX0_moveByStride_65 : decode cX0_moveByStride 65 = .ok (.iastore, 1) := by decide +kernel
theorem dX0_moveByStride_66 : decode cX0_moveByStride 66 = .ok (.aload_n 0, 1) := by decide +kernel
theorem dX0_moveByStride_67 : decode cX0_moveByStride 67 = .ok (.getfield 15, 3) := by decide +kernel
theorem dX0_moveByStride_70 : decode cX0_moveByStride 70 = .ok (.iload_n 1, 1) := by decide +kernel
theorem dX0_moveByStride_71 : decode cX0_moveByStride 71 = .ok (.iconst 0, 1) := by decide +kernel
theorem dX0_moveByStride_72 : decode cX0_moveByStride 72 = .ok (.iastore, 1) := by decide +kernel
theorem dX0_moveByStride_73 : decode cX0_moveByStride 73 = .ok (.aload_n 0, 1) := by decide +kernel
theorem dX0_moveByStride_74 : decode cX0_moveByStride 74 = .ok (.invokevirtual 114, 3) := by decide +kernel
theorem dX0_moveByStride_77 : decode cX0_moveByStride 77 = .ok (.pop, 1) := by decide +kernel
theorem dX0_moveByStride_78 : decode cX0_moveByStride 78 = .ok (.iconst 0, 1) := by decide +kernel
theorem dX0_moveByStride_79 : decode cX0_moveByStride 79 = .ok (.ireturn, 1) := by decide +kernel
theorem dX0_moveByTurn_0 : decode cX0_moveByTurn 0 = .ok (.aload_n 0, 1) := by decide +kernel
theorem dX0_moveByTurn_1 : decode cX0_moveByTurn 1 = .ok (.getfield 18, 3) := by decide +kernel
theorem dX0_moveByTurn_4 : decode cX0_moveByTurn 4 = .ok (.iconst 2, 1) := by decide +kernel
theorem dX0_moveByTurn_5 : decode cX0_moveByTurn 5 = .ok (.iaload, 1) := by decide +kernel
theorem dX0_moveByTurn_6 : decode cX0_moveByTurn 6 = .ok (.aload_n 0, 1) := by decide +kernel
theorem dX0_moveByTurn_7 : decode cX0_moveByTurn 7 = .ok (.getfield 27, 3) := by decide +kernel
theorem dX0_moveByTurn_10 : decode cX0_moveByTurn 10 = .ok (.aload_n 0, 1) := by decide +kernel
theorem dX0_moveByTurn_11 : decode cX0_moveByTurn 11 = .ok (.getfield 46, 3) := by decide +kernel
theorem dX0_moveByTurn_14 : decode cX0_moveByTurn 14 = .ok (.iaload, 1) := by decide +kernel
theorem dX0_moveByTurn_15 : decode cX0_moveByTurn 15 = .ok (.if_icmp .le 9, 3) := by decide +kernel
theorem dX0_moveByTurn_18 : decode cX0_moveByTurn 18 = .ok (.aload_n 0, 1) := by decide +kernel
theorem dX0_moveByTurn_19 : decode cX0_moveByTurn 19 = .ok (.iconst 4, 1) := by decide +kernel
theorem dX0_moveByTurn_20 : decode cX0_moveByTurn 20 = .ok (.invokevirtual 107, 3) := by decide +kernel
theorem dX0_moveByTurn_23 : decode cX0_moveByTurn 23 = .ok (.ireturn, 1) := by decide +kernel
theorem dX0_moveByTurn_24 : decode cX0_moveByTurn 24 = .ok (.aload_n 0, 1) := by decide +kernel
theorem dX0_moveByTurn_25 : decode cX0_moveByTurn 25 = .ok (.aload_n 0, 1) := by decide +kernel
theorem dX0_moveByTurn_26 : decode cX0_moveByTurn 26 = .ok (.getfield 18, 3) := by decide +kernel
theorem dX0_moveByTurn_29 : decode cX0_moveByTurn 29 = .ok (.iconst 2, 1) := by decide +kernel
theorem dX0_moveByTurn_30 : decode cX0_moveByTurn 30 = .ok (.iaload, 1) := by decide +kernel
theorem dX0_moveByTurn_31 : decode cX0_moveByTurn 31 = .ok (.invokevirtual 110, 3) := by decide +kernel
theorem dX0_moveByTurn_34 : decode cX0_moveByTurn 34 = .ok (.aload_n 0, 1) := by decide +kernel
theorem dX0_moveByTurn_35 : decode cX0_moveByTurn 35 = .ok (.getfield 24, 3) := by decide +kernel
theorem dX0_moveByTurn_38 : decode cX0_moveByTurn 38 = .ok (.aload_n 0, 1) := by decide +kernel
theorem dX0_moveByTurn_39 : decode cX0_moveByTurn 39 = .ok (.getfield 46, 3) := by decide +kernel
theorem dX0_moveByTurn_42 : decode cX0_moveByTurn 42 = .ok (.iaload, 1) := by decide +kernel
theorem dX0_moveByTurn_43 : decode cX0_moveByTurn 43 = .ok (.istore_n 1, 1) := by decide +kernel
theorem dX0_moveByTurn_44 : decode cX0_moveByTurn 44 = .ok (.aload_n 0, 1) := by decide +kernel
theorem dX0_moveByTurn_45 : decode cX0_moveByTurn 45 = .ok (.getfield 24, 3) := by decide +kernel
theorem dX0_moveByTurn_48 : decode cX0_moveByTurn 48 = .ok (.aload_n 0, 1) := by decide +kernel
theorem dX0_moveByTurn_49 : decode cX0_moveByTurn 49 = .ok (.getfield 46, 3) := by decide +kernel
theorem dX0_moveByTurn_52 : decode cX0_moveByTurn 52 = .ok (.aload_n 0, 1) := by decide +kernel
theorem dX0_moveByTurn_53 : decode cX0_moveByTurn 53 = .ok (.getfield 27, 3) := by decide +kernel
theorem dX0_moveByTurn_56 : decode cX0_moveByTurn 56 = .ok (.aload_n 0, 1) := by decide +kernel
theorem dX0_moveByTurn_57 : decode cX0_moveByTurn 57 = .ok (.getfield 46, 3) := by decide +kernel
theorem dX0_moveByTurn_60 : decode cX0_moveByTurn 60 = .ok (.iaload, 1) := by decide +kernel
theorem dX0_moveByTurn_61 : decode cX0_moveByTurn 61 = .ok (.iastore, 1) := by decide +kernel
theorem dX0_moveByTurn_62 : decode cX0_moveByTurn 62 = .ok (.aload_n 0, 1) := by decide +kernel
theorem dX0_moveByTurn_63 : decode cX0_moveByTurn 63 = .ok (.getfield 27, 3) := by decide +kernel
theorem dX0_moveByTurn_66 : decode cX0_moveByTurn 66 = .ok (.aload_n 0, 1) := by decide +kernel
theorem dX0_moveByTurn_67 : decode cX0_moveByTurn 67 = .ok (.getfield 46, 3) := by decide +kernel
theorem dX0_moveByTurn_70 : decode cX0_moveByTurn 70 = .ok (.iload_n 1, 1) := by decide +kernel
theorem dX0_moveByTurn_71 : decode cX0_moveByTurn 71 = .ok (.iastore, 1) := by decide +kernel
theorem dX0_moveByTurn_72 : decode cX0_moveByTurn 72 = .ok (.aload_n 0, 1) := by decide +kernel
theorem dX0_moveByTurn_73 : decode cX0_moveByTurn 73 = .ok (.invokevirtual 114, 3) := by decide +kernel
theorem dX0_moveByTurn_76 : decode cX0_moveByTurn 76 = .ok (.pop, 1) := by decide +kernel
theorem dX0_moveByTurn_77 : decode cX0_moveByTurn 77 = .ok (.iconst 0, 1) := by decide +kernel
theorem dX0_moveByTurn_78 : decode cX0_moveByTurn 78 = .ok (.ireturn, 1) := by decide +kernel
theorem dX0_moveByTag_0 : decode cX0_moveByTag 0 = .ok (.aload_n 0, 1) := by decide +kernel
theorem dX0_moveByTag_1 : decode cX0_moveByTag 1 = .ok (.aload_n 0, 1) := by decide +kernel
theorem dX0_moveByTag_2 : decode cX0_moveByTag 2 = .ok (.getfield 46, 3) := by decide +kernel
theorem dX0_moveByTag_5 : decode cX0_moveByTag 5 = .ok (.iload_n 1, 1) := by decide +kernel
theorem dX0_moveByTag_6 : decode cX0_moveByTag 6 = .ok (.invokevirtual 104, 3) := by decide +kernel
theorem dX0_moveByTag_9 : decode cX0_moveByTag 9 = .ok (.istore_n 2, 1) := by decide +kernel
theorem dX0_moveByTag_10 : decode cX0_moveByTag 10 = .ok (.iload_n 2, 1) := by decide +kernel
theorem dX0_moveByTag_11 : decode cX0_moveByTag 11 = .ok (.ifCond .eq 9, 3) := by decide +kernel
theorem dX0_moveByTag_14 : decode cX0_moveByTag 14 = .ok (.aload_n 0, 1) := by decide +kernel
theorem dX0_moveByTag_15 : decode cX0_moveByTag 15 = .ok (.iload_n 2, 1) := by decide +kernel
theorem dX0_moveByTag_16 : decode cX0_moveByTag 16 = .ok (.invokevirtual 107, 3) := by decide +kernel
theorem dX0_moveByTag_19 : decode cX0_moveByTag 19 = .ok (.ireturn, 1) := by decide +kernel
theorem dX0_moveByTag_20 : decode cX0_moveByTag 20 = .ok (.aload_n 0, 1) := by decide +kernel
theorem dX0_moveByTag_21 : decode cX0_moveByTag 21 = .ok (.getfield 27, 3) := by decide +kernel
theorem dX0_moveByTag_24 : decode cX0_moveByTag 24 = .ok (.iload_n 1, 1) := by decide +kernel
theorem dX0_moveByTag_25 : decode cX0_moveByTag 25 = .ok (.iaload, 1) := by decide +kernel
theorem dX0_moveByTag_26 : decode cX0_moveByTag 26 = .ok (.iconst 2, 1) := by decide +kernel
theorem dX0_moveByTag_27 : decode cX0_moveByTag 27 = .ok (.idiv, 1) := by decide +kernel
theorem dX0_moveByTag_28 : decode cX0_moveByTag 28 = .ok (.istore_n 3, 1) := by decide +kernel
theorem dX0_moveByTag_29 : decode cX0_moveByTag 29 = .ok (.aload_n 0, 1) := by decide +kernel
theorem dX0_moveByTag_30 : decode cX0_moveByTag 30 = .ok (.getfield 27, 3) := by decide +kernel
theorem dX0_moveByTag_33 : decode cX0_moveByTag 33 = .ok (.iload_n 1, 1) := by decide +kernel
theorem dX0_moveByTag_34 : decode cX0_moveByTag 34 = .ok (.dup2, 1) := by decide +kernel
theorem dX0_moveByTag_35 : decode cX0_moveByTag 35 = .ok (.iaload, 1) := by decide +kernel
theorem dX0_moveByTag_36 : decode cX0_moveByTag 36 = .ok (.iload_n 3, 1) := by decide +kernel
theorem dX0_moveByTag_37 : decode cX0_moveByTag 37 = .ok (.isub, 1) := by decide +kernel
theorem dX0_moveByTag_38 : decode cX0_moveByTag 38 = .ok (.iastore, 1) := by decide +kernel
theorem dX0_moveByTag_39 : decode cX0_moveByTag 39 = .ok (.aload_n 0, 1) := by decide +kernel
theorem dX0_moveByTag_40 : decode cX0_moveByTag 40 = .ok (.getfield 24, 3) := by decide +kernel
theorem dX0_moveByTag_43 : decode cX0_moveByTag 43 = .ok (.aload_n 0, 1) := by decide +kernel
theorem dX0_moveByTag_44 : decode cX0_moveByTag 44 = .ok (.getfield 46, 3) := by decide +kernel
theorem dX0_moveByTag_47 : decode cX0_moveByTag 47 = .ok (.dup2, 1) := by decide +kernel
theorem dX0_moveByTag_48 : decode cX0_moveByTag 48 = .ok (.iaload, 1) := by decide +kernel
theorem dX0_moveByTag_49 : decode cX0_moveByTag 49 = .ok (.iload_n 3, 1) := by decide +kernel
theorem dX0_moveByTag_50 : decode cX0_moveByTag 50 = .ok (.iadd, 1) := by decide +kernel
theorem dX0_moveByTag_51 : decode cX0_moveByTag 51 = .ok (.iastore, 1) := by decide +kernel
theorem dX0_moveByTag_52 : decode cX0_moveByTag 52 = .ok (.aload_n 0, 1) := by decide +kernel
theorem dX0_moveByTag_53 : decode cX0_moveByTag 53 = .ok (.getfield 33, 3) := by decide +kernel
theorem dX0_moveByTag_56 : decode cX0_moveByTag 56 = .ok (.aload_n 0, 1) := by decide +kernel
theorem dX0_moveByTag_57 : decode cX0_moveByTag 57 = .ok (.getfield 46, 3) := by decide +kernel
theorem dX0_moveByTag_60 : decode cX0_moveByTag 60 = .ok (.dup2, 1) := by decide +kernel
theorem dX0_moveByTag_61 : decode cX0_moveByTag 61 = .ok (.iaload, 1) := by decide +kernel
theorem dX0_moveByTag_62 : decode cX0_moveByTag 62 = .ok (.iconst 1, 1) := by decide +kernel
theorem dX0_moveByTag_63 : decode cX0_moveByTag 63 = .ok (.iadd, 1) := by decide +kernel
theorem dX0_moveByTag_64 : decode cX0_moveByTag 64 = .ok (.iastore, 1) := by decide +kernel
theorem dX0_moveByTag_65 : decode cX0_moveByTag 65 = .ok (.aload_n 0, 1) := by decide +kernel
theorem dX0_moveByTag_66 : decode cX0_moveByTag 66 = .ok (.getfield 36, 3) := by decide +kernel
theorem dX0_moveByTag_69 : decode cX0_moveByTag 69 = .ok (.iload_n 1, 1) := by decide +kernel
theorem dX0_moveByTag_70 : decode cX0_moveByTag 70 = .ok (.dup2, 1) := by decide +kernel
theorem dX0_moveByTag_71 : decode cX0_moveByTag 71 = .ok (.iaload, 1) := by decide +kernel
theorem dX0_moveByTag_72 : decode cX0_moveByTag 72 = .ok (.iconst 1, 1) := by decide +kernel
theorem dX0_moveByTag_73 : decode cX0_moveByTag 73 = .ok (.iadd, 1) := by decide +kernel
theorem dX0_moveByTag_74 : decode cX0_moveByTag 74 = .ok (.iastore, 1) := by decide +kernel
theorem dX0_moveByTag_75 : decode cX0_moveByTag 75 = .ok (.aload_n 0, 1) := by decide +kernel
theorem dX0_moveByTag_76 : decode cX0_moveByTag 76 = .ok (.dup, 1) := by decide +kernel
theorem dX0_moveByTag_77 : decode cX0_moveByTag 77 = .ok (.getfield 58, 3) := by decide +kernel
theorem dX0_moveByTag_80 : decode cX0_moveByTag 80 = .ok (.iconst 1, 1) := by decide +kernel
theorem dX0_moveByTag_81 : decode cX0_moveByTag 81 = .ok (.iadd, 1) := by decide +kernel
theorem dX0_moveByTag_82 : decode cX0_moveByTag 82 = .ok (.putfield 58, 3) := by decide +kernel
theorem dX0_moveByTag_85 : decode cX0_moveByTag 85 = .ok (.aload_n 0, 1) := by decide +kernel
theorem dX0_moveByTag_86 : decode cX0_moveByTag 86 = .ok (.iload_n 1, 1) := by decide +kernel
theorem dX0_moveByTag_87 : decode cX0_moveByTag 87 = .ok (.putfield 49, 3) := by decide +kernel
theorem dX0_moveByTag_90 : decode cX0_moveByTag 90 = .ok (.aload_n 0, 1) := by decide +kernel
theorem dX0_moveByTag_91 : decode cX0_moveByTag 91 = .ok (.invokevirtual 114, 3) := by decide +kernel
theorem dX0_moveByTag_94 : decode cX0_moveByTag 94 = .ok (.pop, 1) := by decide +kernel
theorem dX0_moveByTag_95 : decode cX0_moveByTag 95 = .ok (.iconst 0, 1) := by decide +kernel
theorem dX0_moveByTag_96 : decode cX0_moveByTag 96 = .ok (.ireturn, 1) := by decide +kernel
theorem dX0_refuse_0 : decode cX0_refuse 0 = .ok (.aload_n 0, 1) := by decide +kernel
theorem dX0_refuse_1 : decode cX0_refuse 1 = .ok (.dup, 1) := by decide +kernel
theorem dX0_refuse_2 : decode cX0_refuse 2 = .ok (.getfield 55, 3) := by decide +kernel
theorem dX0_refuse_5 : decode cX0_refuse 5 = .ok (.iconst 1, 1) := by decide +kernel
theorem dX0_refuse_6 : decode cX0_refuse 6 = .ok (.iadd, 1) := by decide +kernel
theorem dX0_refuse_7 : decode cX0_refuse 7 = .ok (.putfield 55, 3) := by decide +kernel
theorem dX0_refuse_10 : decode cX0_refuse 10 = .ok (.iload_n 1, 1) := by decide +kernel
theorem dX0_refuse_11 : decode cX0_refuse 11 = .ok (.ireturn, 1) := by decide +kernel
theorem dX0_pay_0 : decode cX0_pay 0 = .ok (.aload_n 0, 1) := by decide +kernel
theorem dX0_pay_1 : decode cX0_pay 1 = .ok (.getfield 27, 3) := by decide +kernel
theorem dX0_pay_4 : decode cX0_pay 4 = .ok (.aload_n 0, 1) := by decide +kernel
theorem dX0_pay_5 : decode cX0_pay 5 = .ok (.getfield 46, 3) := by decide +kernel
theorem dX0_pay_8 : decode cX0_pay 8 = .ok (.dup2, 1) := by decide +kernel
theorem dX0_pay_9 : decode cX0_pay 9 = .ok (.iaload, 1) := by decide +kernel
theorem dX0_pay_10 : decode cX0_pay 10 = .ok (.iload_n 1, 1) := by decide +kernel
theorem dX0_pay_11 : decode cX0_pay 11 = .ok (.isub, 1) := by decide +kernel
theorem dX0_pay_12 : decode cX0_pay 12 = .ok (.iastore, 1) := by decide +kernel
theorem dX0_pay_13 : decode cX0_pay 13 = .ok (.aload_n 0, 1) := by decide +kernel
theorem dX0_pay_14 : decode cX0_pay 14 = .ok (.getfield 39, 3) := by decide +kernel
theorem dX0_pay_17 : decode cX0_pay 17 = .ok (.aload_n 0, 1) := by decide +kernel
theorem dX0_pay_18 : decode cX0_pay 18 = .ok (.getfield 46, 3) := by decide +kernel
theorem dX0_pay_21 : decode cX0_pay 21 = .ok (.dup2, 1) := by decide +kernel
theorem dX0_pay_22 : decode cX0_pay 22 = .ok (.iaload, 1) := by decide +kernel
theorem dX0_pay_23 : decode cX0_pay 23 = .ok (.iload_n 1, 1) := by decide +kernel
theorem dX0_pay_24 : decode cX0_pay 24 = .ok (.iadd, 1) := by decide +kernel
theorem dX0_pay_25 : decode cX0_pay 25 = .ok (.iastore, 1) := by decide +kernel
theorem dX0_pay_26 : decode cX0_pay 26 = .ok (.aload_n 0, 1) := by decide +kernel
theorem dX0_pay_27 : decode cX0_pay 27 = .ok (.getfield 15, 3) := by decide +kernel
theorem dX0_pay_30 : decode cX0_pay 30 = .ok (.aload_n 0, 1) := by decide +kernel
theorem dX0_pay_31 : decode cX0_pay 31 = .ok (.getfield 21, 3) := by decide +kernel
theorem dX0_pay_34 : decode cX0_pay 34 = .ok (.aload_n 0, 1) := by decide +kernel
theorem dX0_pay_35 : decode cX0_pay 35 = .ok (.getfield 46, 3) := by decide +kernel
theorem dX0_pay_38 : decode cX0_pay 38 = .ok (.iaload, 1) := by decide +kernel
theorem dX0_pay_39 : decode cX0_pay 39 = .ok (.dup2, 1) := by decide +kernel
theorem dX0_pay_40 : decode cX0_pay 40 = .ok (.iaload, 1) := by decide +kernel
theorem dX0_pay_41 : decode cX0_pay 41 = .ok (.iload_n 1, 1) := by decide +kernel
theorem dX0_pay_42 : decode cX0_pay 42 = .ok (.iadd, 1) := by decide +kernel
theorem dX0_pay_43 : decode cX0_pay 43 = .ok (.iastore, 1) := by decide +kernel
theorem dX0_pay_44 : decode cX0_pay 44 = .ok (.return_, 1) := by decide +kernel
theorem dX0_endMove_0 : decode cX0_endMove 0 = .ok (.aload_n 0, 1) := by decide +kernel
theorem dX0_endMove_1 : decode cX0_endMove 1 = .ok (.getfield 18, 3) := by decide +kernel
theorem dX0_endMove_4 : decode cX0_endMove 4 = .ok (.iconst 0, 1) := by decide +kernel
theorem dX0_endMove_5 : decode cX0_endMove 5 = .ok (.iaload, 1) := by decide +kernel
theorem dX0_endMove_6 : decode cX0_endMove 6 = .ok (.aload_n 0, 1) := by decide +kernel
theorem dX0_endMove_7 : decode cX0_endMove 7 = .ok (.getfield 24, 3) := by decide +kernel
theorem dX0_endMove_10 : decode cX0_endMove 10 = .ok (.aload_n 0, 1) := by decide +kernel
theorem dX0_endMove_11 : decode cX0_endMove 11 = .ok (.getfield 46, 3) := by decide +kernel
theorem dX0_endMove_14 : decode cX0_endMove 14 = .ok (.iaload, 1) := by decide +kernel
theorem dX0_endMove_15 : decode cX0_endMove 15 = .ok (.invokestatic 79, 3) := by decide +kernel
theorem dX0_endMove_18 : decode cX0_endMove 18 = .ok (.istore_n 1, 1) := by decide +kernel
theorem dX0_endMove_19 : decode cX0_endMove 19 = .ok (.aload_n 0, 1) := by decide +kernel
theorem dX0_endMove_20 : decode cX0_endMove 20 = .ok (.getfield 24, 3) := by decide +kernel
theorem dX0_endMove_23 : decode cX0_endMove 23 = .ok (.aload_n 0, 1) := by decide +kernel
theorem dX0_endMove_24 : decode cX0_endMove 24 = .ok (.getfield 46, 3) := by decide +kernel
theorem dX0_endMove_27 : decode cX0_endMove 27 = .ok (.dup2, 1) := by decide +kernel
theorem dX0_endMove_28 : decode cX0_endMove 28 = .ok (.iaload, 1) := by decide +kernel
theorem dX0_endMove_29 : decode cX0_endMove 29 = .ok (.iload_n 1, 1) := by decide +kernel
theorem dX0_endMove_30 : decode cX0_endMove 30 = .ok (.isub, 1) := by decide +kernel
theorem dX0_endMove_31 : decode cX0_endMove 31 = .ok (.iastore, 1) := by decide +kernel
theorem dX0_endMove_32 : decode cX0_endMove 32 = .ok (.aload_n 0, 1) := by decide +kernel
theorem dX0_endMove_33 : decode cX0_endMove 33 = .ok (.getfield 27, 3) := by decide +kernel
theorem dX0_endMove_36 : decode cX0_endMove 36 = .ok (.aload_n 0, 1) := by decide +kernel
theorem dX0_endMove_37 : decode cX0_endMove 37 = .ok (.getfield 46, 3) := by decide +kernel
theorem dX0_endMove_40 : decode cX0_endMove 40 = .ok (.dup2, 1) := by decide +kernel
theorem dX0_endMove_41 : decode cX0_endMove 41 = .ok (.iaload, 1) := by decide +kernel
theorem dX0_endMove_42 : decode cX0_endMove 42 = .ok (.iload_n 1, 1) := by decide +kernel
theorem dX0_endMove_43 : decode cX0_endMove 43 = .ok (.iadd, 1) := by decide +kernel
theorem dX0_endMove_44 : decode cX0_endMove 44 = .ok (.iastore, 1) := by decide +kernel
theorem dX0_endMove_45 : decode cX0_endMove 45 = .ok (.aload_n 0, 1) := by decide +kernel
theorem dX0_endMove_46 : decode cX0_endMove 46 = .ok (.getfield 30, 3) := by decide +kernel
theorem dX0_endMove_49 : decode cX0_endMove 49 = .ok (.aload_n 0, 1) := by decide +kernel
theorem dX0_endMove_50 : decode cX0_endMove 50 = .ok (.getfield 46, 3) := by decide +kernel
theorem dX0_endMove_53 : decode cX0_endMove 53 = .ok (.dup2, 1) := by decide +kernel
theorem dX0_endMove_54 : decode cX0_endMove 54 = .ok (.iaload, 1) := by decide +kernel
theorem dX0_endMove_55 : decode cX0_endMove 55 = .ok (.iconst 1, 1) := by decide +kernel
theorem dX0_endMove_56 : decode cX0_endMove 56 = .ok (.iadd, 1) := by decide +kernel
theorem dX0_endMove_57 : decode cX0_endMove 57 = .ok (.iastore, 1) := by decide +kernel
theorem dX0_endMove_58 : decode cX0_endMove 58 = .ok (.aload_n 0, 1) := by decide +kernel
theorem dX0_endMove_59 : decode cX0_endMove 59 = .ok (.dup, 1) := by decide +kernel
theorem dX0_endMove_60 : decode cX0_endMove 60 = .ok (.getfield 52, 3) := by decide +kernel
theorem dX0_endMove_63 : decode cX0_endMove 63 = .ok (.iconst 1, 1) := by decide +kernel
theorem dX0_endMove_64 : decode cX0_endMove 64 = .ok (.iadd, 1) := by decide +kernel
theorem dX0_endMove_65 : decode cX0_endMove 65 = .ok (.putfield 52, 3) := by decide +kernel
theorem dX0_endMove_68 : decode cX0_endMove 68 = .ok (.aload_n 0, 1) := by decide +kernel
theorem dX0_endMove_69 : decode cX0_endMove 69 = .ok (.aload_n 0, 1) := by decide +kernel
theorem dX0_endMove_70 : decode cX0_endMove 70 = .ok (.getfield 46, 3) := by decide +kernel
theorem dX0_endMove_73 : decode cX0_endMove 73 = .ok (.iconst 1, 1) := by decide +kernel
theorem dX0_endMove_74 : decode cX0_endMove 74 = .ok (.iadd, 1) := by decide +kernel
theorem dX0_endMove_75 : decode cX0_endMove 75 = .ok (.aload_n 0, 1) := by decide +kernel
theorem dX0_endMove_76 : decode cX0_endMove 76 = .ok (.getfield 42, 3) := by decide +kernel
theorem dX0_endMove_79 : decode cX0_endMove 79 = .ok (.if_icmp .ge 12, 3) := by decide +kernel
theorem dX0_endMove_82 : decode cX0_endMove 82 = .ok (.aload_n 0, 1) := by decide +kernel
theorem dX0_endMove_83 : decode cX0_endMove 83 = .ok (.getfield 46, 3) := by decide +kernel
theorem dX0_endMove_86 : decode cX0_endMove 86 = .ok (.iconst 1, 1) := by decide +kernel
theorem dX0_endMove_87 : decode cX0_endMove 87 = .ok (.iadd, 1) := by decide +kernel
theorem dX0_endMove_88 : decode cX0_endMove 88 = .ok (.goto 4, 3) := by decide +kernel
theorem dX0_endMove_91 : decode cX0_endMove 91 = .ok (.iconst 0, 1) := by decide +kernel
theorem dX0_endMove_92 : decode cX0_endMove 92 = .ok (.putfield 46, 3) := by decide +kernel
theorem dX0_endMove_95 : decode cX0_endMove 95 = .ok (.iload_n 1, 1) := by decide +kernel
theorem dX0_endMove_96 : decode cX0_endMove 96 = .ok (.ireturn, 1) := by decide +kernel
theorem dX0_sandBelow_0 : decode cX0_sandBelow 0 = .ok (.iconst 0, 1) := by decide +kernel
theorem dX0_sandBelow_1 : decode cX0_sandBelow 1 = .ok (.istore_n 1, 1) := by decide +kernel
theorem dX0_sandBelow_2 : decode cX0_sandBelow 2 = .ok (.iconst 0, 1) := by decide +kernel
theorem dX0_sandBelow_3 : decode cX0_sandBelow 3 = .ok (.istore_n 2, 1) := by decide +kernel
theorem dX0_sandBelow_4 : decode cX0_sandBelow 4 = .ok (.iload_n 2, 1) := by decide +kernel
theorem dX0_sandBelow_5 : decode cX0_sandBelow 5 = .ok (.aload_n 0, 1) := by decide +kernel
theorem dX0_sandBelow_6 : decode cX0_sandBelow 6 = .ok (.getfield 42, 3) := by decide +kernel
theorem dX0_sandBelow_9 : decode cX0_sandBelow 9 = .ok (.if_icmp .ge 18, 3) := by decide +kernel
theorem dX0_sandBelow_12 : decode cX0_sandBelow 12 = .ok (.iload_n 1, 1) := by decide +kernel
theorem dX0_sandBelow_13 : decode cX0_sandBelow 13 = .ok (.aload_n 0, 1) := by decide +kernel
theorem dX0_sandBelow_14 : decode cX0_sandBelow 14 = .ok (.getfield 27, 3) := by decide +kernel
theorem dX0_sandBelow_17 : decode cX0_sandBelow 17 = .ok (.iload_n 2, 1) := by decide +kernel
theorem dX0_sandBelow_18 : decode cX0_sandBelow 18 = .ok (.iaload, 1) := by decide +kernel
theorem dX0_sandBelow_19 : decode cX0_sandBelow 19 = .ok (.iadd, 1) := by decide +kernel
theorem dX0_sandBelow_20 : decode cX0_sandBelow 20 = .ok (.istore_n 1, 1) := by decide +kernel
theorem dX0_sandBelow_21 : decode cX0_sandBelow 21 = .ok (.iinc 2 1, 3) := by decide +kernel
theorem dX0_sandBelow_24 : decode cX0_sandBelow 24 = .ok (.goto (-20), 3) := by decide +kernel
theorem dX0_sandBelow_27 : decode cX0_sandBelow 27 = .ok (.iload_n 1, 1) := by decide +kernel
theorem dX0_sandBelow_28 : decode cX0_sandBelow 28 = .ok (.ireturn, 1) := by decide +kernel
theorem dX0_sandInGlasses_0 : decode cX0_sandInGlasses 0 = .ok (.aload_n 0, 1) := by decide +kernel
theorem dX0_sandInGlasses_1 : decode cX0_sandInGlasses 1 = .ok (.invokevirtual 118, 3) := by decide +kernel
theorem dX0_sandInGlasses_4 : decode cX0_sandInGlasses 4 = .ok (.istore_n 1, 1) := by decide +kernel
theorem dX0_sandInGlasses_5 : decode cX0_sandInGlasses 5 = .ok (.iconst 0, 1) := by decide +kernel
theorem dX0_sandInGlasses_6 : decode cX0_sandInGlasses 6 = .ok (.istore_n 2, 1) := by decide +kernel
theorem dX0_sandInGlasses_7 : decode cX0_sandInGlasses 7 = .ok (.iload_n 2, 1) := by decide +kernel
theorem dX0_sandInGlasses_8 : decode cX0_sandInGlasses 8 = .ok (.aload_n 0, 1) := by decide +kernel
theorem dX0_sandInGlasses_9 : decode cX0_sandInGlasses 9 = .ok (.getfield 42, 3) := by decide +kernel
theorem dX0_sandInGlasses_12 : decode cX0_sandInGlasses 12 = .ok (.if_icmp .ge 18, 3) := by decide +kernel
theorem dX0_sandInGlasses_15 : decode cX0_sandInGlasses 15 = .ok (.iload_n 1, 1) := by decide +kernel
theorem dX0_sandInGlasses_16 : decode cX0_sandInGlasses 16 = .ok (.aload_n 0, 1) := by decide +kernel
theorem dX0_sandInGlasses_17 : decode cX0_sandInGlasses 17 = .ok (.getfield 24, 3) := by decide +kernel
theorem dX0_sandInGlasses_20 : decode cX0_sandInGlasses 20 = .ok (.iload_n 2, 1) := by decide +kernel
theorem dX0_sandInGlasses_21 : decode cX0_sandInGlasses 21 = .ok (.iaload, 1) := by decide +kernel
theorem dX0_sandInGlasses_22 : decode cX0_sandInGlasses 22 = .ok (.iadd, 1) := by decide +kernel
theorem dX0_sandInGlasses_23 : decode cX0_sandInGlasses 23 = .ok (.istore_n 1, 1) := by decide +kernel
theorem dX0_sandInGlasses_24 : decode cX0_sandInGlasses 24 = .ok (.iinc 2 1, 3) := by decide +kernel
theorem dX0_sandInGlasses_27 : decode cX0_sandInGlasses 27 = .ok (.goto (-20), 3) := by decide +kernel
theorem dX0_sandInGlasses_30 : decode cX0_sandInGlasses 30 = .ok (.iload_n 1, 1) := by decide +kernel
theorem dX0_sandInGlasses_31 : decode cX0_sandInGlasses 31 = .ok (.ireturn, 1) := by decide +kernel
theorem dX0_sandOnTowers_0 : decode cX0_sandOnTowers 0 = .ok (.iconst 0, 1) := by decide +kernel
theorem dX0_sandOnTowers_1 : decode cX0_sandOnTowers 1 = .ok (.istore_n 1, 1) := by decide +kernel
theorem dX0_sandOnTowers_2 : decode cX0_sandOnTowers 2 = .ok (.iconst 0, 1) := by decide +kernel
theorem dX0_sandOnTowers_3 : decode cX0_sandOnTowers 3 = .ok (.istore_n 2, 1) := by decide +kernel
theorem dX0_sandOnTowers_4 : decode cX0_sandOnTowers 4 = .ok (.iload_n 2, 1) := by decide +kernel
theorem dX0_sandOnTowers_5 : decode cX0_sandOnTowers 5 = .ok (.bipush 10, 2) := by decide +kernel
theorem dX0_sandOnTowers_7 : decode cX0_sandOnTowers 7 = .ok (.if_icmp .ge 18, 3) := by decide +kernel
theorem dX0_sandOnTowers_10 : decode cX0_sandOnTowers 10 = .ok (.iload_n 1, 1) := by decide +kernel
theorem dX0_sandOnTowers_11 : decode cX0_sandOnTowers 11 = .ok (.aload_n 0, 1) := by decide +kernel
theorem dX0_sandOnTowers_12 : decode cX0_sandOnTowers 12 = .ok (.getfield 15, 3) := by decide +kernel
theorem dX0_sandOnTowers_15 : decode cX0_sandOnTowers 15 = .ok (.iload_n 2, 1) := by decide +kernel
theorem dX0_sandOnTowers_16 : decode cX0_sandOnTowers 16 = .ok (.iaload, 1) := by decide +kernel
theorem dX0_sandOnTowers_17 : decode cX0_sandOnTowers 17 = .ok (.iadd, 1) := by decide +kernel
theorem dX0_sandOnTowers_18 : decode cX0_sandOnTowers 18 = .ok (.istore_n 1, 1) := by decide +kernel
theorem dX0_sandOnTowers_19 : decode cX0_sandOnTowers 19 = .ok (.iinc 2 1, 3) := by decide +kernel
theorem dX0_sandOnTowers_22 : decode cX0_sandOnTowers 22 = .ok (.goto (-18), 3) := by decide +kernel
theorem dX0_sandOnTowers_25 : decode cX0_sandOnTowers 25 = .ok (.iload_n 1, 1) := by decide +kernel
theorem dX0_sandOnTowers_26 : decode cX0_sandOnTowers 26 = .ok (.ireturn, 1) := by decide +kernel
theorem dX0_shareOfSandBelow_0 : decode cX0_shareOfSandBelow 0 = .ok (.aload_n 0, 1) := by decide +kernel
theorem dX0_shareOfSandBelow_1 : decode cX0_shareOfSandBelow 1 = .ok (.invokevirtual 121, 3) := by decide +kernel
theorem dX0_shareOfSandBelow_4 : decode cX0_shareOfSandBelow 4 = .ok (.istore_n 1, 1) := by decide +kernel
theorem dX0_shareOfSandBelow_5 : decode cX0_shareOfSandBelow 5 = .ok (.iload_n 1, 1) := by decide +kernel
theorem dX0_shareOfSandBelow_6 : decode cX0_shareOfSandBelow 6 = .ok (.ifCond .gt 5, 3) := by decide +kernel
theorem dX0_shareOfSandBelow_9 : decode cX0_shareOfSandBelow 9 = .ok (.dconst 0, 1) := by decide +kernel
theorem dX0_shareOfSandBelow_10 : decode cX0_shareOfSandBelow 10 = .ok (.dreturn, 1) := by decide +kernel
theorem dX0_shareOfSandBelow_11 : decode cX0_shareOfSandBelow 11 = .ok (.aload_n 0, 1) := by decide +kernel
theorem dX0_shareOfSandBelow_12 : decode cX0_shareOfSandBelow 12 = .ok (.invokevirtual 118, 3) := by decide +kernel
theorem dX0_shareOfSandBelow_15 : decode cX0_shareOfSandBelow 15 = .ok (.i2d, 1) := by decide +kernel
theorem dX0_shareOfSandBelow_16 : decode cX0_shareOfSandBelow 16 = .ok (.iload_n 1, 1) := by decide +kernel
theorem dX0_shareOfSandBelow_17 : decode cX0_shareOfSandBelow 17 = .ok (.i2d, 1) := by decide +kernel
theorem dX0_shareOfSandBelow_18 : decode cX0_shareOfSandBelow 18 = .ok (.ddiv, 1) := by decide +kernel
theorem dX0_shareOfSandBelow_19 : decode cX0_shareOfSandBelow 19 = .ok (.dreturn, 1) := by decide +kernel
theorem dX1_init_0 : decode cX1_init 0 = .ok (.aload_n 0, 1) := by decide +kernel
theorem dX1_init_1 : decode cX1_init 1 = .ok (.invokespecial 1, 3) := by decide +kernel
theorem dX1_init_4 : decode cX1_init 4 = .ok (.aload_n 0, 1) := by decide +kernel
theorem dX1_init_5 : decode cX1_init 5 = .ok (.bipush 6, 2) := by decide +kernel
theorem dX1_init_7 : decode cX1_init 7 = .ok (.anewarray 9, 3) := by decide +kernel
theorem dX1_init_10 : decode cX1_init 10 = .ok (.putfield 11, 3) := by decide +kernel
theorem dX1_init_13 : decode cX1_init 13 = .ok (.aload_n 0, 1) := by decide +kernel
theorem dX1_init_14 : decode cX1_init 14 = .ok (.iconst 0, 1) := by decide +kernel
theorem dX1_init_15 : decode cX1_init 15 = .ok (.putfield 15, 3) := by decide +kernel
theorem dX1_init_18 : decode cX1_init 18 = .ok (.aload_n 0, 1) := by decide +kernel
theorem dX1_init_19 : decode cX1_init 19 = .ok (.iconst 0, 1) := by decide +kernel
theorem dX1_init_20 : decode cX1_init 20 = .ok (.putfield 19, 3) := by decide +kernel
theorem dX1_init_23 : decode cX1_init 23 = .ok (.iconst 0, 1) := by decide +kernel
theorem dX1_init_24 : decode cX1_init 24 = .ok (.istore_n 1, 1) := by decide +kernel
theorem dX1_init_25 : decode cX1_init 25 = .ok (.iload_n 1, 1) := by decide +kernel
theorem dX1_init_26 : decode cX1_init 26 = .ok (.bipush 6, 2) := by decide +kernel
theorem dX1_init_28 : decode cX1_init 28 = .ok (.if_icmp .ge 22, 3) := by decide +kernel
theorem dX1_init_31 : decode cX1_init 31 = .ok (.aload_n 0, 1) := by decide +kernel
theorem dX1_init_32 : decode cX1_init 32 = .ok (.getfield 11, 3) := by decide +kernel
theorem dX1_init_35 : decode cX1_init 35 = .ok (.iload_n 1, 1) := by decide +kernel
theorem dX1_init_36 : decode cX1_init 36 = .ok (.new 9, 3) := by decide +kernel
theorem dX1_init_39 : decode cX1_init 39 = .ok (.dup, 1) := by decide +kernel
theorem dX1_init_40 : decode cX1_init 40 = .ok (.invokespecial 22, 3) := by decide +kernel
theorem dX1_init_43 : decode cX1_init 43 = .ok (.aastore, 1) := by decide +kernel
theorem dX1_init_44 : decode cX1_init 44 = .ok (.iinc 1 1, 3) := by decide +kernel
theorem dX1_init_47 : decode cX1_init 47 = .ok (.goto (-22), 3) := by decide +kernel
theorem dX1_init_50 : decode cX1_init 50 = .ok (.return_, 1) := by decide +kernel
theorem dX1_save_0 : decode cX1_save 0 = .ok (.aload_n 0, 1) := by decide +kernel
theorem dX1_save_1 : decode cX1_save 1 = .ok (.getfield 19, 3) := by decide +kernel
theorem dX1_save_4 : decode cX1_save 4 = .ok (.bipush 6, 2) := by decide +kernel
theorem dX1_save_6 : decode cX1_save 6 = .ok (.if_icmp .ne 26, 3) := by decide +kernel
theorem dX1_save_9 : decode cX1_save 9 = .ok (.aload_n 0, 1) := by decide +kernel
theorem dX1_save_10 : decode cX1_save 10 = .ok (.aload_n 0, 1) := by decide +kernel
theorem dX1_save_11 : decode cX1_save 11 = .ok (.getfield 15, 3) := by decide +kernel
theorem dX1_save_14 : decode cX1_save 14 = .ok (.iconst 1, 1) := by decide +kernel
theorem dX1_save_15 : decode cX1_save 15 = .ok (.iadd, 1) := by decide +kernel
theorem dX1_save_16 : decode cX1_save 16 = .ok (.bipush 6, 2) := by decide +kernel
theorem dX1_save_18 : decode cX1_save 18 = .ok (.irem, 1) := by decide +kernel
theorem dX1_save_19 : decode cX1_save 19 = .ok (.putfield 15, 3) := by decide +kernel
theorem dX1_save_22 : decode cX1_save 22 = .ok (.aload_n 0, 1) := by decide +kernel
theorem dX1_save_23 : decode cX1_save 23 = .ok (.dup, 1) := by decide +kernel
theorem dX1_save_24 : decode cX1_save 24 = .ok (.getfield 19, 3) := by decide +kernel
theorem dX1_save_27 : decode cX1_save 27 = .ok (.iconst 1, 1) := by decide +kernel
theorem dX1_save_28 : decode cX1_save 28 = .ok (.isub, 1) := by decide +kernel
theorem dX1_save_29 : decode cX1_save 29 = .ok (.putfield 19, 3) := by decide +kernel
theorem dX1_save_32 : decode cX1_save 32 = .ok (.aload_n 0, 1) := by decide +kernel
theorem dX1_save_33 : decode cX1_save 33 = .ok (.getfield 11, 3) := by decide +kernel
theorem dX1_save_36 : decode cX1_save 36 = .ok (.aload_n 0, 1) := by decide +kernel
theorem dX1_save_37 : decode cX1_save 37 = .ok (.getfield 15, 3) := by decide +kernel
theorem dX1_save_40 : decode cX1_save 40 = .ok (.aload_n 0, 1) := by decide +kernel
theorem dX1_save_41 : decode cX1_save 41 = .ok (.getfield 19, 3) := by decide +kernel
theorem dX1_save_44 : decode cX1_save 44 = .ok (.iadd, 1) := by decide +kernel
theorem dX1_save_45 : decode cX1_save 45 = .ok (.bipush 6, 2) := by decide +kernel
theorem dX1_save_47 : decode cX1_save 47 = .ok (.irem, 1) := by decide +kernel
theorem dX1_save_48 : decode cX1_save 48 = .ok (.aaload, 1) := by decide +kernel
theorem dX1_save_49 : decode cX1_save 49 = .ok (.aload_n 1, 1) := by decide +kernel
theorem dX1_save_50 : decode cX1_save 50 = .ok (.invokevirtual 23, 3) := by decide +kernel
theorem dX1_save_53 : decode cX1_save 53 = .ok (.aload_n 0, 1) := by decide +kernel
theorem dX1_save_54 : decode cX1_save 54 = .ok (.dup, 1) := by decide +kernel
theorem dX1_save_55 : decode cX1_save 55 = .ok (.getfield 19, 3) := by decide +kernel
theorem dX1_save_58 : decode cX1_save 58 = .ok (.iconst 1, 1) := by decide +kernel
theorem dX1_save_59 : decode cX1_save 59 = .ok (.iadd, 1) := by decide +kernel
theorem dX1_save_60 : decode cX1_save 60 = .ok (.putfield 19, 3) := by decide +kernel
theorem dX1_save_63 : decode cX1_save 63 = .ok (.return_, 1) := by decide +kernel
theorem dX1_restoreLatest_0 : decode cX1_restoreLatest 0 = .ok (.aload_n 0, 1) := by decide +kernel
theorem dX1_restoreLatest_1 : decode cX1_restoreLatest 1 = .ok (.getfield 19, 3) := by decide +kernel
theorem dX1_restoreLatest_4 : decode cX1_restoreLatest 4 = .ok (.ifCond .le 34, 3) := by decide +kernel
theorem dX1_restoreLatest_7 : decode cX1_restoreLatest 7 = .ok (.aload_n 0, 1) := by decide +kernel
theorem dX1_restoreLatest_8 : decode cX1_restoreLatest 8 = .ok (.dup, 1) := by decide +kernel
theorem dX1_restoreLatest_9 : decode cX1_restoreLatest 9 = .ok (.getfield 19, 3) := by decide +kernel
theorem dX1_restoreLatest_12 : decode cX1_restoreLatest 12 = .ok (.iconst 1, 1) := by decide +kernel
theorem dX1_restoreLatest_13 : decode cX1_restoreLatest 13 = .ok (.isub, 1) := by decide +kernel
theorem dX1_restoreLatest_14 : decode cX1_restoreLatest 14 = .ok (.putfield 19, 3) := by decide +kernel
theorem dX1_restoreLatest_17 : decode cX1_restoreLatest 17 = .ok (.aload_n 1, 1) := by decide +kernel
theorem dX1_restoreLatest_18 : decode cX1_restoreLatest 18 = .ok (.aload_n 0, 1) := by decide +kernel
theorem dX1_restoreLatest_19 : decode cX1_restoreLatest 19 = .ok (.getfield 11, 3) := by decide +kernel
theorem dX1_restoreLatest_22 : decode cX1_restoreLatest 22 = .ok (.aload_n 0, 1) := by decide +kernel
theorem dX1_restoreLatest_23 : decode cX1_restoreLatest 23 = .ok (.getfield 15, 3) := by decide +kernel
theorem dX1_restoreLatest_26 : decode cX1_restoreLatest 26 = .ok (.aload_n 0, 1) := by decide +kernel
theorem dX1_restoreLatest_27 : decode cX1_restoreLatest 27 = .ok (.getfield 19, 3) := by decide +kernel
theorem dX1_restoreLatest_30 : decode cX1_restoreLatest 30 = .ok (.iadd, 1) := by decide +kernel
theorem dX1_restoreLatest_31 : decode cX1_restoreLatest 31 = .ok (.bipush 6, 2) := by decide +kernel
theorem dX1_restoreLatest_33 : decode cX1_restoreLatest 33 = .ok (.irem, 1) := by decide +kernel
theorem dX1_restoreLatest_34 : decode cX1_restoreLatest 34 = .ok (.aaload, 1) := by decide +kernel
theorem dX1_restoreLatest_35 : decode cX1_restoreLatest 35 = .ok (.invokevirtual 23, 3) := by decide +kernel
theorem dX1_restoreLatest_38 : decode cX1_restoreLatest 38 = .ok (.return_, 1) := by decide +kernel
theorem dX2_init_0 : decode cX2_init 0 = .ok (.aload_n 0, 1) := by decide +kernel
theorem dX2_init_1 : decode cX2_init 1 = .ok (.invokespecial 3, 3) := by decide +kernel
theorem dX2_init_4 : decode cX2_init 4 = .ok (.aload_n 0, 1) := by decide +kernel
theorem dX2_init_5 : decode cX2_init 5 = .ok (.bipush 60, 2) := by decide +kernel
theorem dX2_init_7 : decode cX2_init 7 = .ok (.newarray .int, 2) := by decide +kernel
theorem dX2_init_9 : decode cX2_init 9 = .ok (.putfield 11, 3) := by decide +kernel
theorem dX2_init_12 : decode cX2_init 12 = .ok (.aload_n 0, 1) := by decide +kernel
theorem dX2_init_13 : decode cX2_init 13 = .ok (.iconst 0, 1) := by decide +kernel
theorem dX2_init_14 : decode cX2_init 14 = .ok (.putfield 15, 3) := by decide +kernel
theorem dX2_init_17 : decode cX2_init 17 = .ok (.return_, 1) := by decide +kernel
theorem dX2_add_0 : decode cX2_add 0 = .ok (.aload_n 0, 1) := by decide +kernel
theorem dX2_add_1 : decode cX2_add 1 = .ok (.getfield 15, 3) := by decide +kernel
theorem dX2_add_4 : decode cX2_add 4 = .ok (.bipush 60, 2) := by decide +kernel
theorem dX2_add_6 : decode cX2_add 6 = .ok (.if_icmp .ge 23, 3) := by decide +kernel
theorem dX2_add_9 : decode cX2_add 9 = .ok (.aload_n 0, 1) := by decide +kernel
theorem dX2_add_10 : decode cX2_add 10 = .ok (.getfield 11, 3) := by decide +kernel
theorem dX2_add_13 : decode cX2_add 13 = .ok (.aload_n 0, 1) := by decide +kernel
theorem dX2_add_14 : decode cX2_add 14 = .ok (.getfield 15, 3) := by decide +kernel
theorem dX2_add_17 : decode cX2_add 17 = .ok (.iload_n 1, 1) := by decide +kernel
theorem dX2_add_18 : decode cX2_add 18 = .ok (.iastore, 1) := by decide +kernel
theorem dX2_add_19 : decode cX2_add 19 = .ok (.aload_n 0, 1) := by decide +kernel
theorem dX2_add_20 : decode cX2_add 20 = .ok (.dup, 1) := by decide +kernel
theorem dX2_add_21 : decode cX2_add 21 = .ok (.getfield 15, 3) := by decide +kernel
theorem dX2_add_24 : decode cX2_add 24 = .ok (.iconst 1, 1) := by decide +kernel
theorem dX2_add_25 : decode cX2_add 25 = .ok (.iadd, 1) := by decide +kernel
theorem dX2_add_26 : decode cX2_add 26 = .ok (.putfield 15, 3) := by decide +kernel
theorem dX2_add_29 : decode cX2_add 29 = .ok (.aload_n 0, 1) := by decide +kernel
theorem dX2_add_30 : decode cX2_add 30 = .ok (.getfield 15, 3) := by decide +kernel
theorem dX2_add_33 : decode cX2_add 33 = .ok (.ireturn, 1) := by decide +kernel
theorem dX2_empty_0 : decode cX2_empty 0 = .ok (.aload_n 0, 1) := by decide +kernel
theorem dX2_empty_1 : decode cX2_empty 1 = .ok (.getfield 15, 3) := by decide +kernel
theorem dX2_empty_4 : decode cX2_empty 4 = .ok (.istore_n 1, 1) := by decide +kernel
theorem dX2_empty_5 : decode cX2_empty 5 = .ok (.aload_n 0, 1) := by decide +kernel
theorem dX2_empty_6 : decode cX2_empty 6 = .ok (.iconst 0, 1) := by decide +kernel
theorem dX2_empty_7 : decode cX2_empty 7 = .ok (.putfield 15, 3) := by decide +kernel
theorem dX2_empty_10 : decode cX2_empty 10 = .ok (.iload_n 1, 1) := by decide +kernel
theorem dX2_empty_11 : decode cX2_empty 11 = .ok (.ireturn, 1) := by decide +kernel
theorem dX2_firstWrong_0 : decode cX2_firstWrong 0 = .ok (.iconst 0, 1) := by decide +kernel
theorem dX2_firstWrong_1 : decode cX2_firstWrong 1 = .ok (.istore_n 1, 1) := by decide +kernel
theorem dX2_firstWrong_2 : decode cX2_firstWrong 2 = .ok (.iconst 0, 1) := by decide +kernel
theorem dX2_firstWrong_3 : decode cX2_firstWrong 3 = .ok (.istore_n 2, 1) := by decide +kernel
theorem dX2_firstWrong_4 : decode cX2_firstWrong 4 = .ok (.iload_n 2, 1) := by decide +kernel
theorem dX2_firstWrong_5 : decode cX2_firstWrong 5 = .ok (.aload_n 0, 1) := by decide +kernel
theorem dX2_firstWrong_6 : decode cX2_firstWrong 6 = .ok (.getfield 15, 3) := by decide +kernel
theorem dX2_firstWrong_9 : decode cX2_firstWrong 9 = .ok (.if_icmp .ge 27, 3) := by decide +kernel
theorem dX2_firstWrong_12 : decode cX2_firstWrong 12 = .ok (.iload_n 1, 1) := by decide +kernel
theorem dX2_firstWrong_13 : decode cX2_firstWrong 13 = .ok (.aload_n 0, 1) := by decide +kernel
theorem dX2_firstWrong_14 : decode cX2_firstWrong 14 = .ok (.getfield 11, 3) := by decide +kernel
theorem dX2_firstWrong_17 : decode cX2_firstWrong 17 = .ok (.iload_n 2, 1) := by decide +kernel
theorem dX2_firstWrong_18 : decode cX2_firstWrong 18 = .ok (.iaload, 1) := by decide +kernel
theorem dX2_firstWrong_19 : decode cX2_firstWrong 19 = .ok (.invokestatic 19, 3) := by decide +kernel
theorem dX2_firstWrong_22 : decode cX2_firstWrong 22 = .ok (.istore_n 1, 1) := by decide +kernel
theorem dX2_firstWrong_23 : decode cX2_firstWrong 23 = .ok (.iload_n 1, 1) := by decide +kernel
theorem dX2_firstWrong_24 : decode cX2_firstWrong 24 = .ok (.iconst 3, 1) := by decide +kernel
theorem dX2_firstWrong_25 : decode cX2_firstWrong 25 = .ok (.if_icmp .ne 5, 3) := by decide +kernel
theorem dX2_firstWrong_28 : decode cX2_firstWrong 28 = .ok (.iload_n 2, 1) := by decide +kernel
theorem dX2_firstWrong_29 : decode cX2_firstWrong 29 = .ok (.ireturn, 1) := by decide +kernel
theorem dX2_firstWrong_30 : decode cX2_firstWrong 30 = .ok (.iinc 2 1, 3) := by decide +kernel
theorem dX2_firstWrong_33 : decode cX2_firstWrong 33 = .ok (.goto (-29), 3) := by decide +kernel
theorem dX2_firstWrong_36 : decode cX2_firstWrong 36 = .ok (.aload_n 0, 1) := by decide +kernel
theorem dX2_firstWrong_37 : decode cX2_firstWrong 37 = .ok (.getfield 15, 3) := by decide +kernel
theorem dX2_firstWrong_40 : decode cX2_firstWrong 40 = .ok (.ireturn, 1) := by decide +kernel
theorem dX2_tellsGame_0 : decode cX2_tellsGame 0 = .ok (.aload_n 0, 1) := by decide +kernel
theorem dX2_tellsGame_1 : decode cX2_tellsGame 1 = .ok (.getfield 15, 3) := by decide +kernel
theorem dX2_tellsGame_4 : decode cX2_tellsGame 4 = .ok (.ifCond .le 35, 3) := by decide +kernel
theorem dX2_tellsGame_7 : decode cX2_tellsGame 7 = .ok (.aload_n 0, 1) := by decide +kernel
theorem dX2_tellsGame_8 : decode cX2_tellsGame 8 = .ok (.invokevirtual 23, 3) := by decide +kernel
theorem dX2_tellsGame_11 : decode cX2_tellsGame 11 = .ok (.aload_n 0, 1) := by decide +kernel
theorem dX2_tellsGame_12 : decode cX2_tellsGame 12 = .ok (.getfield 15, 3) := by decide +kernel
theorem dX2_tellsGame_15 : decode cX2_tellsGame 15 = .ok (.if_icmp .ne 24, 3) := by decide +kernel
theorem dX2_tellsGame_18 : decode cX2_tellsGame 18 = .ok (.aload_n 0, 1) := by decide +kernel
theorem dX2_tellsGame_19 : decode cX2_tellsGame 19 = .ok (.getfield 11, 3) := by decide +kernel
theorem dX2_tellsGame_22 : decode cX2_tellsGame 22 = .ok (.aload_n 0, 1) := by decide +kernel
theorem dX2_tellsGame_23 : decode cX2_tellsGame 23 = .ok (.getfield 15, 3) := by decide +kernel
theorem dX2_tellsGame_26 : decode cX2_tellsGame 26 = .ok (.iconst 1, 1) := by decide +kernel
theorem dX2_tellsGame_27 : decode cX2_tellsGame 27 = .ok (.isub, 1) := by decide +kernel
theorem dX2_tellsGame_28 : decode cX2_tellsGame 28 = .ok (.iaload, 1) := by decide +kernel
theorem dX2_tellsGame_29 : decode cX2_tellsGame 29 = .ok (.invokestatic 27, 3) := by decide +kernel
theorem dX2_tellsGame_32 : decode cX2_tellsGame 32 = .ok (.ifCond .ne 7, 3) := by decide +kernel
theorem dX2_tellsGame_35 : decode cX2_tellsGame 35 = .ok (.iconst 1, 1) := by decide +kernel
theorem dX2_tellsGame_36 : decode cX2_tellsGame 36 = .ok (.goto 4, 3) := by decide +kernel
theorem dX2_tellsGame_39 : decode cX2_tellsGame 39 = .ok (.iconst 0, 1) := by decide +kernel
theorem dX2_tellsGame_40 : decode cX2_tellsGame 40 = .ok (.ireturn, 1) := by decide +kernel
theorem dX2_codeAt_0 : decode cX2_codeAt 0 = .ok (.iload_n 1, 1) := by decide +kernel
theorem dX2_codeAt_1 : decode cX2_codeAt 1 = .ok (.ifCond .lt 20, 3) := by decide +kernel
theorem dX2_codeAt_4 : decode cX2_codeAt 4 = .ok (.iload_n 1, 1) := by decide +kernel
theorem dX2_codeAt_5 : decode cX2_codeAt 5 = .ok (.aload_n 0, 1) := by decide +kernel
theorem dX2_codeAt_6 : decode cX2_codeAt 6 = .ok (.getfield 15, 3) := by decide +kernel
theorem dX2_codeAt_9 : decode cX2_codeAt 9 = .ok (.if_icmp .ge 12, 3) := by decide +kernel
theorem dX2_codeAt_12 : decode cX2_codeAt 12 = .ok (.aload_n 0, 1) := by decide +kernel
theorem dX2_codeAt_13 : decode cX2_codeAt 13 = .ok (.getfield 11, 3) := by decide +kernel
theorem dX2_codeAt_16 : decode cX2_codeAt 16 = .ok (.iload_n 1, 1) := by decide +kernel
theorem dX2_codeAt_17 : decode cX2_codeAt 17 = .ok (.iaload, 1) := by decide +kernel
theorem dX2_codeAt_18 : decode cX2_codeAt 18 = .ok (.goto 4, 3) := by decide +kernel
theorem dX2_codeAt_21 : decode cX2_codeAt 21 = .ok (.iconst (-1), 1) := by decide +kernel
theorem dX2_codeAt_22 : decode cX2_codeAt 22 = .ok (.ireturn, 1) := by decide +kernel
theorem dX2_digitAt_0 : decode cX2_digitAt 0 = .ok (.aload_n 0, 1) := by decide +kernel
theorem dX2_digitAt_1 : decode cX2_digitAt 1 = .ok (.iload_n 1, 1) := by decide +kernel
theorem dX2_digitAt_2 : decode cX2_digitAt 2 = .ok (.invokevirtual 31, 3) := by decide +kernel
theorem dX2_digitAt_5 : decode cX2_digitAt 5 = .ok (.istore_n 2, 1) := by decide +kernel
theorem dX2_digitAt_6 : decode cX2_digitAt 6 = .ok (.iload_n 2, 1) := by decide +kernel
theorem dX2_digitAt_7 : decode cX2_digitAt 7 = .ok (.bipush 48, 2) := by decide +kernel
theorem dX2_digitAt_9 : decode cX2_digitAt 9 = .ok (.if_icmp .lt 16, 3) := by decide +kernel
theorem dX2_digitAt_12 : decode cX2_digitAt 12 = .ok (.iload_n 2, 1) := by decide +kernel
theorem dX2_digitAt_13 : decode cX2_digitAt 13 = .ok (.bipush 57, 2) := by decide +kernel
theorem dX2_digitAt_15 : decode cX2_digitAt 15 = .ok (.if_icmp .gt 10, 3) := by decide +kernel
theorem dX2_digitAt_18 : decode cX2_digitAt 18 = .ok (.iload_n 2, 1) := by decide +kernel
theorem dX2_digitAt_19 : decode cX2_digitAt 19 = .ok (.bipush 48, 2) := by decide +kernel
theorem dX2_digitAt_21 : decode cX2_digitAt 21 = .ok (.isub, 1) := by decide +kernel
theorem dX2_digitAt_22 : decode cX2_digitAt 22 = .ok (.goto 4, 3) := by decide +kernel
theorem dX2_digitAt_25 : decode cX2_digitAt 25 = .ok (.iconst (-1), 1) := by decide +kernel
theorem dX2_digitAt_26 : decode cX2_digitAt 26 = .ok (.ireturn, 1) := by decide +kernel
theorem dX2_widthOfMove_0 : decode cX2_widthOfMove 0 = .ok (.aload_n 0, 1) := by decide +kernel
theorem dX2_widthOfMove_1 : decode cX2_widthOfMove 1 = .ok (.iload_n 1, 1) := by decide +kernel
theorem dX2_widthOfMove_2 : decode cX2_widthOfMove 2 = .ok (.invokevirtual 31, 3) := by decide +kernel
theorem dX2_widthOfMove_5 : decode cX2_widthOfMove 5 = .ok (.invokestatic 27, 3) := by decide +kernel
theorem dX2_widthOfMove_8 : decode cX2_widthOfMove 8 = .ok (.ifCond .eq 7, 3) := by decide +kernel
theorem dX2_widthOfMove_11 : decode cX2_widthOfMove 11 = .ok (.iconst 2, 1) := by decide +kernel
theorem dX2_widthOfMove_12 : decode cX2_widthOfMove 12 = .ok (.goto 4, 3) := by decide +kernel
theorem dX2_widthOfMove_15 : decode cX2_widthOfMove 15 = .ok (.iconst 1, 1) := by decide +kernel
theorem dX2_widthOfMove_16 : decode cX2_widthOfMove 16 = .ok (.ireturn, 1) := by decide +kernel
theorem dX2_needsDigit_0 : decode cX2_needsDigit 0 = .ok (.iload_n 0, 1) := by decide +kernel
theorem dX2_needsDigit_1 : decode cX2_needsDigit 1 = .ok (.bipush 115, 2) := by decide +kernel
theorem dX2_needsDigit_3 : decode cX2_needsDigit 3 = .ok (.if_icmp .eq 9, 3) := by decide +kernel
theorem dX2_needsDigit_6 : decode cX2_needsDigit 6 = .ok (.iload_n 0, 1) := by decide +kernel
theorem dX2_needsDigit_7 : decode cX2_needsDigit 7 = .ok (.bipush 116, 2) := by decide +kernel
theorem dX2_needsDigit_9 : decode cX2_needsDigit 9 = .ok (.if_icmp .ne 7, 3) := by decide +kernel
theorem dX2_needsDigit_12 : decode cX2_needsDigit 12 = .ok (.iconst 1, 1) := by decide +kernel
theorem dX2_needsDigit_13 : decode cX2_needsDigit 13 = .ok (.goto 4, 3) := by decide +kernel
theorem dX2_needsDigit_16 : decode cX2_needsDigit 16 = .ok (.iconst 0, 1) := by decide +kernel
theorem dX2_needsDigit_17 : decode cX2_needsDigit 17 = .ok (.ireturn, 1) := by decide +kernel
theorem dX2_awaitedBehind_0 : decode cX2_awaitedBehind 0 = .ok (.iload_n 0, 1) := by decide +kernel
theorem dX2_awaitedBehind_1 : decode cX2_awaitedBehind 1 = .ok (.lookupswitch 63 #[(1, 27), (2, 45)], 27) := by decide +kernel
theorem dX2_awaitedBehind_28 : decode cX2_awaitedBehind 28 = .ok (.iload_n 1, 1) := by decide +kernel
theorem dX2_awaitedBehind_29 : decode cX2_awaitedBehind 29 = .ok (.bipush 48, 2) := by decide +kernel
theorem dX2_awaitedBehind_31 : decode cX2_awaitedBehind 31 = .ok (.if_icmp .lt 13, 3) := by decide +kernel
theorem dX2_awaitedBehind_34 : decode cX2_awaitedBehind 34 = .ok (.iload_n 1, 1) := by decide +kernel
theorem dX2_awaitedBehind_35 : decode cX2_awaitedBehind 35 = .ok (.bipush 57, 2) := by decide +kernel
theorem dX2_awaitedBehind_37 : decode cX2_awaitedBehind 37 = .ok (.if_icmp .gt 7, 3) := by decide +kernel
theorem dX2_awaitedBehind_40 : decode cX2_awaitedBehind 40 = .ok (.iconst 0, 1) := by decide +kernel
theorem dX2_awaitedBehind_41 : decode cX2_awaitedBehind 41 = .ok (.goto 4, 3) := by decide +kernel
theorem dX2_awaitedBehind_44 : decode cX2_awaitedBehind 44 = .ok (.iconst 3, 1) := by decide +kernel
theorem dX2_awaitedBehind_45 : decode cX2_awaitedBehind 45 = .ok (.ireturn, 1) := by decide +kernel
theorem dX2_awaitedBehind_46 : decode cX2_awaitedBehind 46 = .ok (.iload_n 1, 1) := by decide +kernel
theorem dX2_awaitedBehind_47 : decode cX2_awaitedBehind 47 = .ok (.bipush 48, 2) := by decide +kernel
theorem dX2_awaitedBehind_49 : decode cX2_awaitedBehind 49 = .ok (.if_icmp .lt 13, 3) := by decide +kernel
theorem dX2_awaitedBehind_52 : decode cX2_awaitedBehind 52 = .ok (.iload_n 1, 1) := by decide +kernel
theorem dX2_awaitedBehind_53 : decode cX2_awaitedBehind 53 = .ok (.bipush 51, 2) := by decide +kernel
theorem dX2_awaitedBehind_55 : decode cX2_awaitedBehind 55 = .ok (.if_icmp .gt 7, 3) := by decide +kernel
theorem dX2_awaitedBehind_58 : decode cX2_awaitedBehind 58 = .ok (.iconst 0, 1) := by decide +kernel
theorem dX2_awaitedBehind_59 : decode cX2_awaitedBehind 59 = .ok (.goto 4, 3) := by decide +kernel
theorem dX2_awaitedBehind_62 : decode cX2_awaitedBehind 62 = .ok (.iconst 3, 1) := by decide +kernel
theorem dX2_awaitedBehind_63 : decode cX2_awaitedBehind 63 = .ok (.ireturn, 1) := by decide +kernel
theorem dX2_awaitedBehind_64 : decode cX2_awaitedBehind 64 = .ok (.iload_n 1, 1) := by decide +kernel
theorem dX2_awaitedBehind_65 : decode cX2_awaitedBehind 65 = .ok (.invokestatic 35, 3) := by decide +kernel
theorem dX2_awaitedBehind_68 : decode cX2_awaitedBehind 68 = .ok (.ireturn, 1) := by decide +kernel
theorem dX2_awaitedBehindLetter_0 : decode cX2_awaitedBehindLetter 0 = .ok (.iload_n 0, 1) := by decide +kernel
theorem dX2_awaitedBehindLetter_1 : decode cX2_awaitedBehindLetter 1 = .ok (.tableswitch 57 111 119 #[51, 57, 57, 57, 53, 55, 57, 57, 51], 51) := by decide +kernel
theorem dX2_awaitedBehindLetter_52 : decode cX2_awaitedBehindLetter 52 = .ok (.iconst 0, 1) := by decide +kernel
theorem dX2_awaitedBehindLetter_53 : decode cX2_awaitedBehindLetter 53 = .ok (.ireturn, 1) := by decide +kernel
theorem dX2_awaitedBehindLetter_54 : decode cX2_awaitedBehindLetter 54 = .ok (.iconst 1, 1) := by decide +kernel
theorem dX2_awaitedBehindLetter_55 : decode cX2_awaitedBehindLetter 55 = .ok (.ireturn, 1) := by decide +kernel
theorem dX2_awaitedBehindLetter_56 : decode cX2_awaitedBehindLetter 56 = .ok (.iconst 2, 1) := by decide +kernel
theorem dX2_awaitedBehindLetter_57 : decode cX2_awaitedBehindLetter 57 = .ok (.ireturn, 1) := by decide +kernel
theorem dX2_awaitedBehindLetter_58 : decode cX2_awaitedBehindLetter 58 = .ok (.iconst 3, 1) := by decide +kernel
theorem dX2_awaitedBehindLetter_59 : decode cX2_awaitedBehindLetter 59 = .ok (.ireturn, 1) := by decide +kernel
theorem dX3_init_0 : decode cX3_init 0 = .ok (.aload_n 0, 1) := by decide +kernel
theorem dX3_init_1 : decode cX3_init 1 = .ok (.invokespecial 3, 3) := by decide +kernel
theorem dX3_init_4 : decode cX3_init 4 = .ok (.aload_n 0, 1) := by decide +kernel
theorem dX3_init_5 : decode cX3_init 5 = .ok (.bipush 10, 2) := by decide +kernel
theorem dX3_init_7 : decode cX3_init 7 = .ok (.newarray .int, 2) := by decide +kernel
theorem dX3_init_9 : decode cX3_init 9 = .ok (.putfield 9, 3) := by decide +kernel
theorem dX3_init_12 : decode cX3_init 12 = .ok (.aload_n 0, 1) := by decide +kernel
theorem dX3_init_13 : decode cX3_init 13 = .ok (.iconst 0, 1) := by decide +kernel
theorem dX3_init_14 : decode cX3_init 14 = .ok (.putfield 15, 3) := by decide +kernel
theorem dX3_init_17 : decode cX3_init 17 = .ok (.aload_n 0, 1) := by decide +kernel
theorem dX3_init_18 : decode cX3_init 18 = .ok (.iconst 0, 1) := by decide +kernel
theorem dX3_init_19 : decode cX3_init 19 = .ok (.putfield 19, 3) := by decide +kernel
theorem dX3_init_22 : decode cX3_init 22 = .ok (.aload_n 0, 1) := by decide +kernel
theorem dX3_init_23 : decode cX3_init 23 = .ok (.iconst 0, 1) := by decide +kernel
theorem dX3_init_24 : decode cX3_init 24 = .ok (.putfield 22, 3) := by decide +kernel
theorem dX3_init_27 : decode cX3_init 27 = .ok (.return_, 1) := by decide +kernel
theorem dX3_fewestTurns_0 : decode cX3_fewestTurns 0 = .ok (.aload_n 1, 1) := by decide +kernel
theorem dX3_fewestTurns_1 : decode cX3_fewestTurns 1 = .ok (.getfield 25, 3) := by decide +kernel
theorem dX3_fewestTurns_4 : decode cX3_fewestTurns 4 = .ok (.iload_n 3, 1) := by decide +kernel
theorem dX3_fewestTurns_5 : decode cX3_fewestTurns 5 = .ok (.iaload, 1) := by decide +kernel
theorem dX3_fewestTurns_6 : decode cX3_fewestTurns 6 = .ok (.iload 4, 2) := by decide +kernel
theorem dX3_fewestTurns_8 : decode cX3_fewestTurns 8 = .ok (.if_icmp .ne 5, 3) := by decide +kernel
theorem dX3_fewestTurns_11 : decode cX3_fewestTurns 11 = .ok (.iconst 0, 1) := by decide +kernel
theorem dX3_fewestTurns_12 : decode cX3_fewestTurns 12 = .ok (.ireturn, 1) := by decide +kernel
theorem dX3_fewestTurns_13 : decode cX3_fewestTurns 13 = .ok (.aload_n 1, 1) := by decide +kernel
theorem dX3_fewestTurns_14 : decode cX3_fewestTurns 14 = .ok (.getfield 30, 3) := by decide +kernel
theorem dX3_fewestTurns_17 : decode cX3_fewestTurns 17 = .ok (.iconst 0, 1) := by decide +kernel
theorem dX3_fewestTurns_18 : decode cX3_fewestTurns 18 = .ok (.aload_n 0, 1) := by decide +kernel
theorem dX3_fewestTurns_19 : decode cX3_fewestTurns 19 = .ok (.getfield 9, 3) := by decide +kernel
theorem dX3_fewestTurns_22 : decode cX3_fewestTurns 22 = .ok (.iconst 0, 1) := by decide +kernel
theorem dX3_fewestTurns_23 : decode cX3_fewestTurns 23 = .ok (.bipush 10, 2) := by decide +kernel
theorem dX3_fewestTurns_25 : decode cX3_fewestTurns 25 = .ok (.invokestatic 31, 3) := by decide +kernel
theorem dX3_fewestTurns_28 : decode cX3_fewestTurns 28 = .ok (.aload_n 0, 1) := by decide +kernel
theorem dX3_fewestTurns_29 : decode cX3_fewestTurns 29 = .ok (.iload 4, 2) := by decide +kernel
theorem dX3_fewestTurns_31 : decode cX3_fewestTurns 31 = .ok (.putfield 15, 3) := by decide +kernel
theorem dX3_fewestTurns_34 : decode cX3_fewestTurns 34 = .ok (.aload_n 0, 1) := by decide +kernel
theorem dX3_fewestTurns_35 : decode cX3_fewestTurns 35 = .ok (.aload_n 1, 1) := by decide +kernel
theorem dX3_fewestTurns_36 : decode cX3_fewestTurns 36 = .ok (.getfield 37, 3) := by decide +kernel
theorem dX3_fewestTurns_39 : decode cX3_fewestTurns 39 = .ok (.iconst 0, 1) := by decide +kernel
theorem dX3_fewestTurns_40 : decode cX3_fewestTurns 40 = .ok (.iaload, 1) := by decide +kernel
theorem dX3_fewestTurns_41 : decode cX3_fewestTurns 41 = .ok (.putfield 19, 3) := by decide +kernel
theorem dX3_fewestTurns_44 : decode cX3_fewestTurns 44 = .ok (.aload_n 0, 1) := by decide +kernel
theorem dX3_fewestTurns_45 : decode cX3_fewestTurns 45 = .ok (.aload_n 1, 1) := by decide +kernel
theorem dX3_fewestTurns_46 : decode cX3_fewestTurns 46 = .ok (.getfield 37, 3) := by decide +kernel
theorem dX3_fewestTurns_49 : decode cX3_fewestTurns 49 = .ok (.iconst 2, 1) := by decide +kernel
theorem dX3_fewestTurns_50 : decode cX3_fewestTurns 50 = .ok (.iaload, 1) := by decide +kernel
theorem dX3_fewestTurns_51 : decode cX3_fewestTurns 51 = .ok (.putfield 22, 3) := by decide +kernel
theorem dX3_fewestTurns_54 : decode cX3_fewestTurns 54 = .ok (.iconst 1, 1) := by decide +kernel
theorem dX3_fewestTurns_55 : decode cX3_fewestTurns 55 = .ok (.istore 5, 2) := by decide +kernel
theorem dX3_fewestTurns_57 : decode cX3_fewestTurns 57 = .ok (.iload 5, 2) := by decide +kernel
theorem dX3_fewestTurns_59 : decode cX3_fewestTurns 59 = .ok (.iconst 4, 1) := by decide +kernel
theorem dX3_fewestTurns_60 : decode cX3_fewestTurns 60 = .ok (.if_icmp .gt 40, 3) := by decide +kernel
theorem dX3_fewestTurns_63 : decode cX3_fewestTurns 63 = .ok (.aload_n 0, 1) := by decide +kernel
theorem dX3_fewestTurns_64 : decode cX3_fewestTurns 64 = .ok (.aload_n 2, 1) := by decide +kernel
theorem dX3_fewestTurns_65 : decode cX3_fewestTurns 65 = .ok (.aload_n 1, 1) := by decide +kernel
theorem dX3_fewestTurns_66 : decode cX3_fewestTurns 66 = .ok (.getfield 25, 3) := by decide +kernel
theorem dX3_fewestTurns_69 : decode cX3_fewestTurns 69 = .ok (.iload_n 3, 1) := by decide +kernel
theorem dX3_fewestTurns_70 : decode cX3_fewestTurns 70 = .ok (.iaload, 1) := by decide +kernel
theorem dX3_fewestTurns_71 : decode cX3_fewestTurns 71 = .ok (.aload_n 1, 1) := by decide +kernel
theorem dX3_fewestTurns_72 : decode cX3_fewestTurns 72 = .ok (.getfield 40, 3) := by decide +kernel
theorem dX3_fewestTurns_75 : decode cX3_fewestTurns 75 = .ok (.iload_n 3, 1) := by decide +kernel
theorem dX3_fewestTurns_76 : decode cX3_fewestTurns 76 = .ok (.iaload, 1) := by decide +kernel
theorem dX3_fewestTurns_77 : decode cX3_fewestTurns 77 = .ok (.aload_n 1, 1) := by decide +kernel
theorem dX3_fewestTurns_78 : decode cX3_fewestTurns 78 = .ok (.getfield 43, 3) := by decide +kernel
theorem dX3_fewestTurns_81 : decode cX3_fewestTurns 81 = .ok (.iload_n 3, 1) := by decide +kernel
theorem dX3_fewestTurns_82 : decode cX3_fewestTurns 82 = .ok (.iaload, 1) := by decide +kernel
theorem dX3_fewestTurns_83 : decode cX3_fewestTurns 83 = .ok (.iload 5, 2) := by decide +kernel
theorem dX3_fewestTurns_85 : decode cX3_fewestTurns 85 = .ok (.invokestatic 46, 3) := by decide +kernel
theorem dX3_fewestTurns_88 : decode cX3_fewestTurns 88 = .ok (.ifCond .eq 6, 3) := by decide +kernel
theorem dX3_fewestTurns_91 : decode cX3_fewestTurns 91 = .ok (.iload 5, 2) := by decide +kernel
theorem dX3_fewestTurns_93 : decode cX3_fewestTurns 93 = .ok (.ireturn, 1) := by decide +kernel
theorem dX3_fewestTurns_94 : decode cX3_fewestTurns 94 = .ok (.iinc 5 1, 3) := by decide +kernel
theorem dX3_fewestTurns_97 : decode cX3_fewestTurns 97 = .ok (.goto (-40), 3) := by decide +kernel
theorem dX3_fewestTurns_100 : decode cX3_fewestTurns 100 = .ok (.iconst (-1), 1) := by decide +kernel
theorem dX3_fewestTurns_101 : decode cX3_fewestTurns 101 = .ok (.ireturn, 1) := by decide +kernel
theorem dX3_reaches_0 : decode cX3_reaches 0 = .ok (.iload 5, 2) := by decide +kernel
theorem dX3_reaches_2 : decode cX3_reaches 2 = .ok (.ifCond .gt 5, 3) := by decide +kernel
theorem dX3_reaches_5 : decode cX3_reaches 5 = .ok (.iconst 0, 1) := by decide +kernel
theorem dX3_reaches_6 : decode cX3_reaches 6 = .ok (.ireturn, 1) := by decide +kernel
theorem dX3_reaches_7 : decode cX3_reaches 7 = .ok (.aload_n 1, 1) := by decide +kernel
theorem dX3_reaches_8 : decode cX3_reaches 8 = .ok (.getfield 50, 3) := by decide +kernel
theorem dX3_reaches_11 : decode cX3_reaches 11 = .ok (.iload_n 2, 1) := by decide +kernel
theorem dX3_reaches_12 : decode cX3_reaches 12 = .ok (.aaload, 1) := by decide +kernel
theorem dX3_reaches_13 : decode cX3_reaches 13 = .ok (.aload_n 0, 1) := by decide +kernel
theorem dX3_reaches_14 : decode cX3_reaches 14 = .ok (.getfield 15, 3) := by decide +kernel
theorem dX3_reaches_17 : decode cX3_reaches 17 = .ok (.iaload, 1) := by decide +kernel
theorem dX3_reaches_18 : decode cX3_reaches 18 = .ok (.iload 4, 2) := by decide +kernel
theorem dX3_reaches_20 : decode cX3_reaches 20 = .ok (.if_icmp .gt 5, 3) := by decide +kernel
theorem dX3_reaches_23 : decode cX3_reaches 23 = .ok (.iconst 1, 1) := by decide +kernel
theorem dX3_reaches_24 : decode cX3_reaches 24 = .ok (.ireturn, 1) := by decide +kernel
theorem dX3_reaches_25 : decode cX3_reaches 25 = .ok (.iload 5, 2) := by decide +kernel
theorem dX3_reaches_27 : decode cX3_reaches 27 = .ok (.iconst 1, 1) := by decide +kernel
theorem dX3_reaches_28 : decode cX3_reaches 28 = .ok (.if_icmp .ne 5, 3) := by decide +kernel
theorem dX3_reaches_31 : decode cX3_reaches 31 = .ok (.iconst 0, 1) := by decide +kernel
theorem dX3_reaches_32 : decode cX3_reaches 32 = .ok (.ireturn, 1) := by decide +kernel
theorem dX3_reaches_33 : decode cX3_reaches 33 = .ok (.aload_n 0, 1) := by decide +kernel
theorem dX3_reaches_34 : decode cX3_reaches 34 = .ok (.aload_n 1, 1) := by decide +kernel
theorem dX3_reaches_35 : decode cX3_reaches 35 = .ok (.iload_n 2, 1) := by decide +kernel
theorem dX3_reaches_36 : decode cX3_reaches 36 = .ok (.iload_n 3, 1) := by decide +kernel
theorem dX3_reaches_37 : decode cX3_reaches 37 = .ok (.iload 4, 2) := by decide +kernel
theorem dX3_reaches_39 : decode cX3_reaches 39 = .ok (.iload 5, 2) := by decide +kernel
theorem dX3_reaches_41 : decode cX3_reaches 41 = .ok (.invokestatic 56, 3) := by decide +kernel
theorem dX3_reaches_44 : decode cX3_reaches 44 = .ok (.ifCond .ne 31, 3) := by decide +kernel
theorem dX3_reaches_47 : decode cX3_reaches 47 = .ok (.aload_n 0, 1) := by decide +kernel
theorem dX3_reaches_48 : decode cX3_reaches 48 = .ok (.aload_n 1, 1) := by decide +kernel
theorem dX3_reaches_49 : decode cX3_reaches 49 = .ok (.iload_n 2, 1) := by decide +kernel
theorem dX3_reaches_50 : decode cX3_reaches 50 = .ok (.iload_n 3, 1) := by decide +kernel
theorem dX3_reaches_51 : decode cX3_reaches 51 = .ok (.iload 4, 2) := by decide +kernel
theorem dX3_reaches_53 : decode cX3_reaches 53 = .ok (.iload 5, 2) := by decide +kernel
theorem dX3_reaches_55 : decode cX3_reaches 55 = .ok (.invokestatic 59, 3) := by decide +kernel
theorem dX3_reaches_58 : decode cX3_reaches 58 = .ok (.ifCond .ne 17, 3) := by decide +kernel
theorem dX3_reaches_61 : decode cX3_reaches 61 = .ok (.aload_n 0, 1) := by decide +kernel
theorem dX3_reaches_62 : decode cX3_reaches 62 = .ok (.aload_n 1, 1) := by decide +kernel
theorem dX3_reaches_63 : decode cX3_reaches 63 = .ok (.iload_n 2, 1) := by decide +kernel
theorem dX3_reaches_64 : decode cX3_reaches 64 = .ok (.iload_n 3, 1) := by decide +kernel
theorem dX3_reaches_65 : decode cX3_reaches 65 = .ok (.iload 4, 2) := by decide +kernel
theorem dX3_reaches_67 : decode cX3_reaches 67 = .ok (.iload 5, 2) := by decide +kernel
theorem dX3_reaches_69 : decode cX3_reaches 69 = .ok (.invokestatic 62, 3) := by decide +kernel
theorem dX3_reaches_72 : decode cX3_reaches 72 = .ok (.ifCond .eq 7, 3) := by decide +kernel
theorem dX3_reaches_75 : decode cX3_reaches 75 = .ok (.iconst 1, 1) := by decide +kernel
theorem dX3_reaches_76 : decode cX3_reaches 76 = .ok (.goto 4, 3) := by decide +kernel
theorem dX3_reaches_79 : decode cX3_reaches 79 = .ok (.iconst 0, 1) := by decide +kernel
theorem dX3_reaches_80 : decode cX3_reaches 80 = .ok (.ireturn, 1) := by decide +kernel
theorem dX3_reachesBehindRun_0 : decode cX3_reachesBehindRun 0 = .ok (.aload_n 0, 1) := by decide +kernel
theorem dX3_reachesBehindRun_1 : decode cX3_reachesBehindRun 1 = .ok (.getfield 19, 3) := by decide +kernel
theorem dX3_reachesBehindRun_4 : decode cX3_reachesBehindRun 4 = .ok (.iload_n 3, 1) := by decide +kernel
theorem dX3_reachesBehindRun_5 : decode cX3_reachesBehindRun 5 = .ok (.invokestatic 65, 3) := by decide +kernel
theorem dX3_reachesBehindRun_8 : decode cX3_reachesBehindRun 8 = .ok (.istore 6, 2) := by decide +kernel
theorem dX3_reachesBehindRun_10 : decode cX3_reachesBehindRun 10 = .ok (.aload_n 0, 1) := by decide +kernel
theorem dX3_reachesBehindRun_11 : decode cX3_reachesBehindRun 11 = .ok (.aload_n 1, 1) := by decide +kernel
theorem dX3_reachesBehindRun_12 : decode cX3_reachesBehindRun 12 = .ok (.iload_n 2, 1) := by decide +kernel
theorem dX3_reachesBehindRun_13 : decode cX3_reachesBehindRun 13 = .ok (.iload_n 3, 1) := by decide +kernel
theorem dX3_reachesBehindRun_14 : decode cX3_reachesBehindRun 14 = .ok (.iload 6, 2) := by decide +kernel
theorem dX3_reachesBehindRun_16 : decode cX3_reachesBehindRun 16 = .ok (.isub, 1) := by decide +kernel
theorem dX3_reachesBehindRun_17 : decode cX3_reachesBehindRun 17 = .ok (.iload 4, 2) := by decide +kernel
theorem dX3_reachesBehindRun_19 : decode cX3_reachesBehindRun 19 = .ok (.iload 6, 2) := by decide +kernel
theorem dX3_reachesBehindRun_21 : decode cX3_reachesBehindRun 21 = .ok (.iadd, 1) := by decide +kernel
theorem dX3_reachesBehindRun_22 : decode cX3_reachesBehindRun 22 = .ok (.iload 5, 2) := by decide +kernel
theorem dX3_reachesBehindRun_24 : decode cX3_reachesBehindRun 24 = .ok (.iconst 1, 1) := by decide +kernel
theorem dX3_reachesBehindRun_25 : decode cX3_reachesBehindRun 25 = .ok (.isub, 1) := by decide +kernel
theorem dX3_reachesBehindRun_26 : decode cX3_reachesBehindRun 26 = .ok (.invokestatic 46, 3) := by decide +kernel
theorem dX3_reachesBehindRun_29 : decode cX3_reachesBehindRun 29 = .ok (.ireturn, 1) := by decide +kernel
theorem dX3_reachesBehindTurn_0 : decode cX3_reachesBehindTurn 0 = .ok (.aload_n 0, 1) := by decide +kernel
theorem dX3_reachesBehindTurn_1 : decode cX3_reachesBehindTurn 1 = .ok (.getfield 22, 3) := by decide +kernel
theorem dX3_reachesBehindTurn_4 : decode cX3_reachesBehindTurn 4 = .ok (.istore 6, 2) := by decide +kernel
theorem dX3_reachesBehindTurn_6 : decode cX3_reachesBehindTurn 6 = .ok (.iload 6, 2) := by decide +kernel
theorem dX3_reachesBehindTurn_8 : decode cX3_reachesBehindTurn 8 = .ok (.iload 4, 2) := by decide +kernel
theorem dX3_reachesBehindTurn_10 : decode cX3_reachesBehindTurn 10 = .ok (.if_icmp .le 5, 3) := by decide +kernel
theorem dX3_reachesBehindTurn_13 : decode cX3_reachesBehindTurn 13 = .ok (.iconst 0, 1) := by decide +kernel
theorem dX3_reachesBehindTurn_14 : decode cX3_reachesBehindTurn 14 = .ok (.ireturn, 1) := by decide +kernel
theorem dX3_reachesBehindTurn_15 : decode cX3_reachesBehindTurn 15 = .ok (.aload_n 0, 1) := by decide +kernel
theorem dX3_reachesBehindTurn_16 : decode cX3_reachesBehindTurn 16 = .ok (.getfield 9, 3) := by decide +kernel
theorem dX3_reachesBehindTurn_19 : decode cX3_reachesBehindTurn 19 = .ok (.iload_n 2, 1) := by decide +kernel
theorem dX3_reachesBehindTurn_20 : decode cX3_reachesBehindTurn 20 = .ok (.dup2, 1) := by decide +kernel
theorem dX3_reachesBehindTurn_21 : decode cX3_reachesBehindTurn 21 = .ok (.iaload, 1) := by decide +kernel
theorem dX3_reachesBehindTurn_22 : decode cX3_reachesBehindTurn 22 = .ok (.iload 6, 2) := by decide +kernel
theorem dX3_reachesBehindTurn_24 : decode cX3_reachesBehindTurn 24 = .ok (.iadd, 1) := by decide +kernel
theorem dX3_reachesBehindTurn_25 : decode cX3_reachesBehindTurn 25 = .ok (.iastore, 1) := by decide +kernel
theorem dX3_reachesBehindTurn_26 : decode cX3_reachesBehindTurn 26 = .ok (.aload_n 0, 1) := by decide +kernel
theorem dX3_reachesBehindTurn_27 : decode cX3_reachesBehindTurn 27 = .ok (.aload_n 1, 1) := by decide +kernel
theorem dX3_reachesBehindTurn_28 : decode cX3_reachesBehindTurn 28 = .ok (.iload_n 2, 1) := by decide +kernel
theorem dX3_reachesBehindTurn_29 : decode cX3_reachesBehindTurn 29 = .ok (.iload 4, 2) := by decide +kernel
theorem dX3_reachesBehindTurn_31 : decode cX3_reachesBehindTurn 31 = .ok (.iload 6, 2) := by decide +kernel
theorem dX3_reachesBehindTurn_33 : decode cX3_reachesBehindTurn 33 = .ok (.isub, 1) := by decide +kernel
theorem dX3_reachesBehindTurn_34 : decode cX3_reachesBehindTurn 34 = .ok (.iload_n 3, 1) := by decide +kernel
theorem dX3_reachesBehindTurn_35 : decode cX3_reachesBehindTurn 35 = .ok (.iload 5, 2) := by decide +kernel
theorem dX3_reachesBehindTurn_37 : decode cX3_reachesBehindTurn 37 = .ok (.invokestatic 56, 3) := by decide +kernel
theorem dX3_reachesBehindTurn_40 : decode cX3_reachesBehindTurn 40 = .ok (.istore 7, 2) := by decide +kernel
theorem dX3_reachesBehindTurn_42 : decode cX3_reachesBehindTurn 42 = .ok (.aload_n 0, 1) := by decide +kernel
theorem dX3_reachesBehindTurn_43 : decode cX3_reachesBehindTurn 43 = .ok (.getfield 9, 3) := by decide +kernel
theorem dX3_reachesBehindTurn_46 : decode cX3_reachesBehindTurn 46 = .ok (.iload_n 2, 1) := by decide +kernel
theorem dX3_reachesBehindTurn_47 : decode cX3_reachesBehindTurn 47 = .ok (.dup2, 1) := by decide +kernel
theorem dX3_reachesBehindTurn_48 : decode cX3_reachesBehindTurn 48 = .ok (.iaload, 1) := by decide +kernel
theorem dX3_reachesBehindTurn_49 : decode cX3_reachesBehindTurn 49 = .ok (.iload 6, 2) := by decide +kernel
theorem dX3_reachesBehindTurn_51 : decode cX3_reachesBehindTurn 51 = .ok (.isub, 1) := by decide +kernel
theorem dX3_reachesBehindTurn_52 : decode cX3_reachesBehindTurn 52 = .ok (.iastore, 1) := by decide +kernel
theorem dX3_reachesBehindTurn_53 : decode cX3_reachesBehindTurn 53 = .ok (.iload 7, 2) := by decide +kernel
theorem dX3_reachesBehindTurn_55 : decode cX3_reachesBehindTurn 55 = .ok (.ireturn, 1) := by decide +kernel
theorem dX3_reachesBehindStride_0 : decode cX3_reachesBehindStride 0 = .ok (.iconst 0, 1) := by decide +kernel
theorem dX3_reachesBehindStride_1 : decode cX3_reachesBehindStride 1 = .ok (.istore 6, 2) := by decide +kernel
theorem dX3_reachesBehindStride_3 : decode cX3_reachesBehindStride 3 = .ok (.iconst 0, 1) := by decide +kernel
theorem dX3_reachesBehindStride_4 : decode cX3_reachesBehindStride 4 = .ok (.istore 7, 2) := by decide +kernel
theorem dX3_reachesBehindStride_6 : decode cX3_reachesBehindStride 6 = .ok (.iload 7, 2) := by decide +kernel
theorem dX3_reachesBehindStride_8 : decode cX3_reachesBehindStride 8 = .ok (.bipush 10, 2) := by decide +kernel
theorem dX3_reachesBehindStride_10 : decode cX3_reachesBehindStride 10 = .ok (.if_icmp .ge 106, 3) := by decide +kernel
theorem dX3_reachesBehindStride_13 : decode cX3_reachesBehindStride 13 = .ok (.iload 6, 2) := by decide +kernel
theorem dX3_reachesBehindStride_15 : decode cX3_reachesBehindStride 15 = .ok (.ifCond .ne 101, 3) := by decide +kernel
theorem dX3_reachesBehindStride_18 : decode cX3_reachesBehindStride 18 = .ok (.aload_n 1, 1) := by decide +kernel
theorem dX3_reachesBehindStride_19 : decode cX3_reachesBehindStride 19 = .ok (.getfield 50, 3) := by decide +kernel
theorem dX3_reachesBehindStride_22 : decode cX3_reachesBehindStride 22 = .ok (.iload_n 2, 1) := by decide +kernel
theorem dX3_reachesBehindStride_23 : decode cX3_reachesBehindStride 23 = .ok (.aaload, 1) := by decide +kernel
theorem dX3_reachesBehindStride_24 : decode cX3_reachesBehindStride 24 = .ok (.iload 7, 2) := by decide +kernel
theorem dX3_reachesBehindStride_26 : decode cX3_reachesBehindStride 26 = .ok (.iaload, 1) := by decide +kernel
theorem dX3_reachesBehindStride_27 : decode cX3_reachesBehindStride 27 = .ok (.istore 8, 2) := by decide +kernel
theorem dX3_reachesBehindStride_29 : decode cX3_reachesBehindStride 29 = .ok (.iload 7, 2) := by decide +kernel
theorem dX3_reachesBehindStride_31 : decode cX3_reachesBehindStride 31 = .ok (.iload_n 2, 1) := by decide +kernel
theorem dX3_reachesBehindStride_32 : decode cX3_reachesBehindStride 32 = .ok (.if_icmp .eq 78, 3) := by decide +kernel
theorem dX3_reachesBehindStride_35 : decode cX3_reachesBehindStride 35 = .ok (.iload 8, 2) := by decide +kernel
theorem dX3_reachesBehindStride_37 : decode cX3_reachesBehindStride 37 = .ok (.iload 4, 2) := by decide +kernel
theorem dX3_reachesBehindStride_39 : decode cX3_reachesBehindStride 39 = .ok (.if_icmp .gt 71, 3) := by decide +kernel
theorem dX3_reachesBehindStride_42 : decode cX3_reachesBehindStride 42 = .ok (.aload_n 0, 1) := by decide +kernel
theorem dX3_reachesBehindStride_43 : decode cX3_reachesBehindStride 43 = .ok (.getfield 9, 3) := by decide +kernel
theorem dX3_reachesBehindStride_46 : decode cX3_reachesBehindStride 46 = .ok (.iload 7, 2) := by decide +kernel
theorem dX3_reachesBehindStride_48 : decode cX3_reachesBehindStride 48 = .ok (.iaload, 1) := by decide +kernel
theorem dX3_reachesBehindStride_49 : decode cX3_reachesBehindStride 49 = .ok (.istore 9, 2) := by decide +kernel
theorem dX3_reachesBehindStride_51 : decode cX3_reachesBehindStride 51 = .ok (.aload_n 0, 1) := by decide +kernel
theorem dX3_reachesBehindStride_52 : decode cX3_reachesBehindStride 52 = .ok (.getfield 9, 3) := by decide +kernel
theorem dX3_reachesBehindStride_55 : decode cX3_reachesBehindStride 55 = .ok (.iload 7, 2) := by decide +kernel
theorem dX3_reachesBehindStride_57 : decode cX3_reachesBehindStride 57 = .ok (.iconst 0, 1) := by decide +kernel
theorem dX3_reachesBehindStride_58 : decode cX3_reachesBehindStride 58 = .ok (.iastore, 1) := by decide +kernel
theorem dX3_reachesBehindStride_59 : decode cX3_reachesBehindStride 59 = .ok (.aload_n 0, 1) := by decide +kernel
theorem dX3_reachesBehindStride_60 : decode cX3_reachesBehindStride 60 = .ok (.getfield 9, 3) := by decide +kernel
theorem dX3_reachesBehindStride_63 : decode cX3_reachesBehindStride 63 = .ok (.iload_n 2, 1) := by decide +kernel
theorem dX3_reachesBehindStride_64 : decode cX3_reachesBehindStride 64 = .ok (.dup2, 1) := by decide +kernel
theorem dX3_reachesBehindStride_65 : decode cX3_reachesBehindStride 65 = .ok (.iaload, 1) := by decide +kernel
theorem dX3_reachesBehindStride_66 : decode cX3_reachesBehindStride 66 = .ok (.iload 8, 2) := by decide +kernel
theorem dX3_reachesBehindStride_68 : decode cX3_reachesBehindStride 68 = .ok (.iadd, 1) := by decide +kernel
theorem dX3_reachesBehindStride_69 : decode cX3_reachesBehindStride 69 = .ok (.iastore, 1) := by decide +kernel
theorem dX3_reachesBehindStride_70 : decode cX3_reachesBehindStride 70 = .ok (.aload_n 0, 1) := by decide +kernel
theorem dX3_reachesBehindStride_71 : decode cX3_reachesBehindStride 71 = .ok (.aload_n 1, 1) := by decide +kernel
theorem dX3_reachesBehindStride_72 : decode cX3_reachesBehindStride 72 = .ok (.iload 7, 2) := by decide +kernel
theorem dX3_reachesBehindStride_74 : decode cX3_reachesBehindStride 74 = .ok (.iload_n 3, 1) := by decide +kernel
theorem dX3_reachesBehindStride_75 : decode cX3_reachesBehindStride 75 = .ok (.iload 9, 2) := by decide +kernel
theorem dX3_reachesBehindStride_77 : decode cX3_reachesBehindStride 77 = .ok (.iadd, 1) := by decide +kernel
theorem dX3_reachesBehindStride_78 : decode cX3_reachesBehindStride 78 = .ok (.iload 4, 2) := by decide +kernel
theorem dX3_reachesBehindStride_80 : decode cX3_reachesBehindStride 80 = .ok (.iload 8, 2) := by decide +kernel
theorem dX3_reachesBehindStride_82 : decode cX3_reachesBehindStride 82 = .ok (.isub, 1) := by decide +kernel
theorem dX3_reachesBehindStride_83 : decode cX3_reachesBehindStride 83 = .ok (.iload 5, 2) := by decide +kernel
theorem dX3_reachesBehindStride_85 : decode cX3_reachesBehindStride 85 = .ok (.invokestatic 56, 3) := by decide +kernel
theorem dX3_reachesBehindStride_88 : decode cX3_reachesBehindStride 88 = .ok (.istore 6, 2) := by decide +kernel
theorem dX3_reachesBehindStride_90 : decode cX3_reachesBehindStride 90 = .ok (.aload_n 0, 1) := by decide +kernel
theorem dX3_reachesBehindStride_91 : decode cX3_reachesBehindStride 91 = .ok (.getfield 9, 3) := by decide +kernel
theorem dX3_reachesBehindStride_94 : decode cX3_reachesBehindStride 94 = .ok (.iload_n 2, 1) := by decide +kernel
theorem dX3_reachesBehindStride_95 : decode cX3_reachesBehindStride 95 = .ok (.dup2, 1) := by decide +kernel
theorem dX3_reachesBehindStride_96 : decode cX3_reachesBehindStride 96 = .ok (.iaload, 1) := by decide +kernel
theorem dX3_reachesBehindStride_97 : decode cX3_reachesBehindStride 97 = .ok (.iload 8, 2) := by decide +kernel
theorem dX3_reachesBehindStride_99 : decode cX3_reachesBehindStride 99 = .ok (.isub, 1) := by decide +kernel
theorem dX3_reachesBehindStride_100 : decode cX3_reachesBehindStride 100 = .ok (.iastore, 1) := by decide +kernel
theorem dX3_reachesBehindStride_101 : decode cX3_reachesBehindStride 101 = .ok (.aload_n 0, 1) := by decide +kernel
theorem dX3_reachesBehindStride_102 : decode cX3_reachesBehindStride 102 = .ok (.getfield 9, 3) := by decide +kernel
theorem dX3_reachesBehindStride_105 : decode cX3_reachesBehindStride 105 = .ok (.iload 7, 2) := by decide +kernel
theorem dX3_reachesBehindStride_107 : decode cX3_reachesBehindStride 107 = .ok (.iload 9, 2) := by decide +kernel
theorem dX3_reachesBehindStride_109 : decode cX3_reachesBehindStride 109 = .ok (.iastore, 1) := by decide +kernel
theorem dX3_reachesBehindStride_110 : decode cX3_reachesBehindStride 110 = .ok (.iinc 7 1, 3) := by decide +kernel
theorem dX3_reachesBehindStride_113 : decode cX3_reachesBehindStride 113 = .ok (.goto (-107), 3) := by decide +kernel
theorem dX3_reachesBehindStride_116 : decode cX3_reachesBehindStride 116 = .ok (.iload 6, 2) := by decide +kernel
theorem dX3_reachesBehindStride_118 : decode cX3_reachesBehindStride 118 = .ok (.ireturn, 1) := by decide +kernel
theorem dX4_init_0 : decode cX4_init 0 = .ok (.aload_n 0, 1) := by decide +kernel
theorem dX4_init_1 : decode cX4_init 1 = .ok (.invokespecial 3, 3) := by decide +kernel
theorem dX4_init_4 : decode cX4_init 4 = .ok (.aload_n 0, 1) := by decide +kernel
theorem dX4_init_5 : decode cX4_init 5 = .ok (.bipush 10, 2) := by decide +kernel
theorem dX4_init_7 : decode cX4_init 7 = .ok (.bipush 10, 2) := by decide +kernel
theorem dX4_init_9 : decode cX4_init 9 = .ok (.multianewarray 9 2, 4) := by decide +kernel
theorem dX4_init_13 : decode cX4_init 13 = .ok (.putfield 11, 3) := by decide +kernel
theorem dX4_init_16 : decode cX4_init 16 = .ok (.aload_n 0, 1) := by decide +kernel
theorem dX4_init_17 : decode cX4_init 17 = .ok (.bipush 10, 2) := by decide +kernel
theorem dX4_init_19 : decode cX4_init 19 = .ok (.bipush 10, 2) := by decide +kernel
theorem dX4_init_21 : decode cX4_init 21 = .ok (.multianewarray 9 2, 4) := by decide +kernel
theorem dX4_init_25 : decode cX4_init 25 = .ok (.putfield 16, 3) := by decide +kernel
theorem dX4_init_28 : decode cX4_init 28 = .ok (.aload_n 0, 1) := by decide +kernel
theorem dX4_init_29 : decode cX4_init 29 = .ok (.bipush 10, 2) := by decide +kernel
theorem dX4_init_31 : decode cX4_init 31 = .ok (.newarray .int, 2) := by decide +kernel
theorem dX4_init_33 : decode cX4_init 33 = .ok (.putfield 19, 3) := by decide +kernel
theorem dX4_init_36 : decode cX4_init 36 = .ok (.aload_n 0, 1) := by decide +kernel
theorem dX4_init_37 : decode cX4_init 37 = .ok (.bipush 10, 2) := by decide +kernel
theorem dX4_init_39 : decode cX4_init 39 = .ok (.newarray .boolean, 2) := by decide +kernel
theorem dX4_init_41 : decode cX4_init 41 = .ok (.putfield 23, 3) := by decide +kernel
theorem dX4_init_44 : decode cX4_init 44 = .ok (.return_, 1) := by decide +kernel
theorem dX4_layOut_0 : decode cX4_layOut 0 = .ok (.iconst 0, 1) := by decide +kernel
theorem dX4_layOut_1 : decode cX4_layOut 1 = .ok (.istore_n 2, 1) := by decide +kernel
theorem dX4_layOut_2 : decode cX4_layOut 2 = .ok (.iload_n 2, 1) := by decide +kernel
theorem dX4_layOut_3 : decode cX4_layOut 3 = .ok (.bipush 10, 2) := by decide +kernel
theorem dX4_layOut_5 : decode cX4_layOut 5 = .ok (.if_icmp .ge 51, 3) := by decide +kernel
theorem dX4_layOut_8 : decode cX4_layOut 8 = .ok (.iconst 0, 1) := by decide +kernel
theorem dX4_layOut_9 : decode cX4_layOut 9 = .ok (.istore_n 3, 1) := by decide +kernel
theorem dX4_layOut_10 : decode cX4_layOut 10 = .ok (.iload_n 3, 1) := by decide +kernel
theorem dX4_layOut_11 : decode cX4_layOut 11 = .ok (.bipush 10, 2) := by decide +kernel
theorem dX4_layOut_13 : decode cX4_layOut 13 = .ok (.if_icmp .ge 37, 3) := by decide +kernel
theorem dX4_layOut_16 : decode cX4_layOut 16 = .ok (.aload_n 0, 1) := by decide +kernel
theorem dX4_layOut_17 : decode cX4_layOut 17 = .ok (.getfield 11, 3) := by decide +kernel
theorem dX4_layOut_20 : decode cX4_layOut 20 = .ok (.iload_n 2, 1) := by decide +kernel
theorem dX4_layOut_21 : decode cX4_layOut 21 = .ok (.aaload, 1) := by decide +kernel
theorem dX4_layOut_22 : decode cX4_layOut 22 = .ok (.iload_n 3, 1) := by decide +kernel
theorem dX4_layOut_23 : decode cX4_layOut 23 = .ok (.aload_n 1, 1) := by decide +kernel
theorem dX4_layOut_24 : decode cX4_layOut 24 = .ok (.iload_n 2, 1) := by decide +kernel
theorem dX4_layOut_25 : decode cX4_layOut 25 = .ok (.iload_n 3, 1) := by decide +kernel
theorem dX4_layOut_26 : decode cX4_layOut 26 = .ok (.invokevirtual 27, 3) := by decide +kernel
theorem dX4_layOut_29 : decode cX4_layOut 29 = .ok (.ifCond .eq 12, 3) := by decide +kernel
theorem dX4_layOut_32 : decode cX4_layOut 32 = .ok (.aload_n 1, 1) := by decide +kernel
theorem dX4_layOut_33 : decode cX4_layOut 33 = .ok (.iload_n 2, 1) := by decide +kernel
theorem dX4_layOut_34 : decode cX4_layOut 34 = .ok (.iload_n 3, 1) := by decide +kernel
theorem dX4_layOut_35 : decode cX4_layOut 35 = .ok (.invokevirtual 33, 3) := by decide +kernel
theorem dX4_layOut_38 : decode cX4_layOut 38 = .ok (.goto 5, 3) := by decide +kernel
theorem dX4_layOut_41 : decode cX4_layOut 41 = .ok (.ldc 37, 2) := by decide +kernel
theorem dX4_layOut_43 : decode cX4_layOut 43 = .ok (.iastore, 1) := by decide +kernel
theorem dX4_layOut_44 : decode cX4_layOut 44 = .ok (.iinc 3 1, 3) := by decide +kernel
theorem dX4_layOut_47 : decode cX4_layOut 47 = .ok (.goto (-37), 3) := by decide +kernel
theorem dX4_layOut_50 : decode cX4_layOut 50 = .ok (.iinc 2 1, 3) := by decide +kernel
theorem dX4_layOut_53 : decode cX4_layOut 53 = .ok (.goto (-51), 3) := by decide +kernel
theorem dX4_layOut_56 : decode cX4_layOut 56 = .ok (.return_, 1) := by decide +kernel
theorem dX4_cheapestBySettling_0 : decode cX4_cheapestBySettling 0 = .ok (.iconst 0, 1) := by decide +kernel
theorem dX4_cheapestBySettling_1 : decode cX4_cheapestBySettling 1 = .ok (.istore_n 3, 1) := by decide +kernel
theorem dX4_cheapestBySettling_2 : decode cX4_cheapestBySettling 2 = .ok (.iload_n 3, 1) := by decide +kernel
theorem dX4_cheapestBySettling_3 : decode cX4_cheapestBySettling 3 = .ok (.bipush 10, 2) := by decide +kernel
theorem dX4_cheapestBySettling_5 : decode cX4_cheapestBySettling 5 = .ok (.if_icmp .ge 33, 3) := by decide +kernel
theorem dX4_cheapestBySettling_8 : decode cX4_cheapestBySettling 8 = .ok (.aload_n 0, 1) := by decide +kernel
theorem dX4_cheapestBySettling_9 : decode cX4_cheapestBySettling 9 = .ok (.getfield 19, 3) := by decide +kernel
theorem dX4_cheapestBySettling_12 : decode cX4_cheapestBySettling 12 = .ok (.iload_n 3, 1) := by decide +kernel
theorem dX4_cheapestBySettling_13 : decode cX4_cheapestBySettling 13 = .ok (.iload_n 3, 1) := by decide +kernel
theorem dX4_cheapestBySettling_14 : decode cX4_cheapestBySettling 14 = .ok (.iload_n 1, 1) := by decide +kernel
theorem dX4_cheapestBySettling_15 : decode cX4_cheapestBySettling 15 = .ok (.if_icmp .ne 7, 3) := by decide +kernel
theorem dX4_cheapestBySettling_18 : decode cX4_cheapestBySettling 18 = .ok (.iconst 0, 1) := by decide +kernel
theorem dX4_cheapestBySettling_19 : decode cX4_cheapestBySettling 19 = .ok (.goto 5, 3) := by decide +kernel
theorem dX4_cheapestBySettling_22 : decode cX4_cheapestBySettling 22 = .ok (.ldc 37, 2) := by decide +kernel
theorem dX4_cheapestBySettling_24 : decode cX4_cheapestBySettling 24 = .ok (.iastore, 1) := by decide +kernel
theorem dX4_cheapestBySettling_25 : decode cX4_cheapestBySettling 25 = .ok (.aload_n 0, 1) := by decide +kernel
theorem dX4_cheapestBySettling_26 : decode cX4_cheapestBySettling 26 = .ok (.getfield 23, 3) := by decide +kernel
theorem dX4_cheapestBySettling_29 : decode cX4_cheapestBySettling 29 = .ok (.iload_n 3, 1) := by decide +kernel
theorem dX4_cheapestBySettling_30 : decode cX4_cheapestBySettling 30 = .ok (.iconst 0, 1) := by decide +kernel
theorem dX4_cheapestBySettling_31 : decode cX4_cheapestBySettling 31 = .ok (.bastore, 1) := by decide +kernel
theorem dX4_cheapestBySettling_32 : decode cX4_cheapestBySettling 32 = .ok (.iinc 3 1, 3) := by decide +kernel
theorem dX4_cheapestBySettling_35 : decode cX4_cheapestBySettling 35 = .ok (.goto (-33), 3) := by decide +kernel
theorem dX4_cheapestBySettling_38 : decode cX4_cheapestBySettling 38 = .ok (.iconst 0, 1) := by decide +kernel
theorem dX4_cheapestBySettling_39 : decode cX4_cheapestBySettling 39 = .ok (.istore_n 3, 1) := by decide +kernel
theorem dX4_cheapestBySettling_40 : decode cX4_cheapestBySettling 40 = .ok (.iload_n 3, 1) := by decide +kernel
theorem dX4_cheapestBySettling_41 : decode cX4_cheapestBySettling 41 = .ok (.bipush 10, 2) := by decide +kernel
theorem dX4_cheapestBySettling_43 : decode cX4_cheapestBySettling 43 = .ok (.if_icmp .ge 83, 3) := by decide +kernel
theorem dX4_cheapestBySettling_46 : decode cX4_cheapestBySettling 46 = .ok (.aload_n 0, 1) := by decide +kernel
theorem dX4_cheapestBySettling_47 : decode cX4_cheapestBySettling 47 = .ok (.invokevirtual 38, 3) := by decide +kernel
theorem dX4_cheapestBySettling_50 : decode cX4_cheapestBySettling 50 = .ok (.istore 4, 2) := by decide +kernel
theorem dX4_cheapestBySettling_52 : decode cX4_cheapestBySettling 52 = .ok (.iload 4, 2) := by decide +kernel
theorem dX4_cheapestBySettling_54 : decode cX4_cheapestBySettling 54 = .ok (.iconst (-1), 1) := by decide +kernel
theorem dX4_cheapestBySettling_55 : decode cX4_cheapestBySettling 55 = .ok (.if_icmp .ne 6, 3) := by decide +kernel
theorem dX4_cheapestBySettling_58 : decode cX4_cheapestBySettling 58 = .ok (.goto 68, 3) := by decide +kernel
theorem dX4_cheapestBySettling_61 : decode cX4_cheapestBySettling 61 = .ok (.aload_n 0, 1) := by decide +kernel
theorem dX4_cheapestBySettling_62 : decode cX4_cheapestBySettling 62 = .ok (.getfield 23, 3) := by decide +kernel
theorem dX4_cheapestBySettling_65 : decode cX4_cheapestBySettling 65 = .ok (.iload 4, 2) := by decide +kernel
theorem dX4_cheapestBySettling_67 : decode cX4_cheapestBySettling 67 = .ok (.iconst 1, 1) := by decide +kernel
theorem dX4_cheapestBySettling_68 : decode cX4_cheapestBySettling 68 = .ok (.bastore, 1) := by decide +kernel
theorem dX4_cheapestBySettling_69 : decode cX4_cheapestBySettling 69 = .ok (.iconst 0, 1) := by decide +kernel
theorem dX4_cheapestBySettling_70 : decode cX4_cheapestBySettling 70 = .ok (.istore 5, 2) := by decide +kernel
theorem dX4_cheapestBySettling_72 : decode cX4_cheapestBySettling 72 = .ok (.iload 5, 2) := by decide +kernel
theorem dX4_cheapestBySettling_74 : decode cX4_cheapestBySettling 74 = .ok (.bipush 10, 2) := by decide +kernel
theorem dX4_cheapestBySettling_76 : decode cX4_cheapestBySettling 76 = .ok (.if_icmp .ge 44, 3) := by decide +kernel
theorem dX4_cheapestBySettling_79 : decode cX4_cheapestBySettling 79 = .ok (.aload_n 0, 1) := by decide +kernel
theorem dX4_cheapestBySettling_80 : decode cX4_cheapestBySettling 80 = .ok (.getfield 19, 3) := by decide +kernel
theorem dX4_cheapestBySettling_83 : decode cX4_cheapestBySettling 83 = .ok (.iload 5, 2) := by decide +kernel
theorem dX4_cheapestBySettling_85 : decode cX4_cheapestBySettling 85 = .ok (.aload_n 0, 1) := by decide +kernel
theorem dX4_cheapestBySettling_86 : decode cX4_cheapestBySettling 86 = .ok (.getfield 19, 3) := by decide +kernel
theorem dX4_cheapestBySettling_89 : decode cX4_cheapestBySettling 89 = .ok (.iload 5, 2) := by decide +kernel
theorem dX4_cheapestBySettling_91 : decode cX4_cheapestBySettling 91 = .ok (.iaload, 1) := by decide +kernel
theorem dX4_cheapestBySettling_92 : decode cX4_cheapestBySettling 92 = .ok (.aload_n 0, 1) := by decide +kernel
theorem dX4_cheapestBySettling_93 : decode cX4_cheapestBySettling 93 = .ok (.getfield 19, 3) := by decide +kernel
theorem dX4_cheapestBySettling_96 : decode cX4_cheapestBySettling 96 = .ok (.iload 4, 2) := by decide +kernel
theorem dX4_cheapestBySettling_98 : decode cX4_cheapestBySettling 98 = .ok (.iaload, 1) := by decide +kernel
theorem dX4_cheapestBySettling_99 : decode cX4_cheapestBySettling 99 = .ok (.aload_n 0, 1) := by decide +kernel
theorem dX4_cheapestBySettling_100 : decode cX4_cheapestBySettling 100 = .ok (.getfield 11, 3) := by decide +kernel
theorem dX4_cheapestBySettling_103 : decode cX4_cheapestBySettling 103 = .ok (.iload 4, 2) := by decide +kernel
theorem dX4_cheapestBySettling_105 : decode cX4_cheapestBySettling 105 = .ok (.aaload, 1) := by decide +kernel
theorem dX4_cheapestBySettling_106 : decode cX4_cheapestBySettling 106 = .ok (.iload 5, 2) := by decide +kernel
theorem dX4_cheapestBySettling_108 : decode cX4_cheapestBySettling 108 = .ok (.iaload, 1) := by decide +kernel
theorem dX4_cheapestBySettling_109 : decode cX4_cheapestBySettling 109 = .ok (.iadd, 1) := by decide +kernel
theorem dX4_cheapestBySettling_110 : decode cX4_cheapestBySettling 110 = .ok (.invokestatic 42, 3) := by decide +kernel
theorem dX4_cheapestBySettling_113 : decode cX4_cheapestBySettling 113 = .ok (.iastore, 1) := by decide +kernel
theorem dX4_cheapestBySettling_114 : decode cX4_cheapestBySettling 114 = .ok (.iinc 5 1, 3) := by decide +kernel
theorem dX4_cheapestBySettling_117 : decode cX4_cheapestBySettling 117 = .ok (.goto (-45), 3) := by decide +kernel
theorem dX4_cheapestBySettling_120 : decode cX4_cheapestBySettling 120 = .ok (.iinc 3 1, 3) := by decide +kernel
theorem dX4_cheapestBySettling_123 : decode cX4_cheapestBySettling 123 = .ok (.goto (-83), 3) := by decide +kernel
theorem dX4_cheapestBySettling_126 : decode cX4_cheapestBySettling 126 = .ok (.aload_n 0, 1) := by decide +kernel
theorem dX4_cheapestBySettling_127 : decode cX4_cheapestBySettling 127 = .ok (.getfield 19, 3) := by decide +kernel
theorem dX4_cheapestBySettling_130 : decode cX4_cheapestBySettling 130 = .ok (.iload_n 2, 1) := by decide +kernel
theorem dX4_cheapestBySettling_131 : decode cX4_cheapestBySettling 131 = .ok (.iaload, 1) := by decide +kernel
theorem dX4_cheapestBySettling_132 : decode cX4_cheapestBySettling 132 = .ok (.ireturn, 1) := by decide +kernel
theorem dX4_cheapestUnsettled_0 : decode cX4_cheapestUnsettled 0 = .ok (.iconst (-1), 1) := by decide +kernel
theorem dX4_cheapestUnsettled_1 : decode cX4_cheapestUnsettled 1 = .ok (.istore_n 1, 1) := by decide +kernel
theorem dX4_cheapestUnsettled_2 : decode cX4_cheapestUnsettled 2 = .ok (.iconst 0, 1) := by decide +kernel
theorem dX4_cheapestUnsettled_3 : decode cX4_cheapestUnsettled 3 = .ok (.istore_n 2, 1) := by decide +kernel
theorem dX4_cheapestUnsettled_4 : decode cX4_cheapestUnsettled 4 = .ok (.iload_n 2, 1) := by decide +kernel
theorem dX4_cheapestUnsettled_5 : decode cX4_cheapestUnsettled 5 = .ok (.bipush 10, 2) := by decide +kernel
theorem dX4_cheapestUnsettled_7 : decode cX4_cheapestUnsettled 7 = .ok (.if_icmp .ge 40, 3) := by decide +kernel
theorem dX4_cheapestUnsettled_10 : decode cX4_cheapestUnsettled 10 = .ok (.aload_n 0, 1) := by decide +kernel
theorem dX4_cheapestUnsettled_11 : decode cX4_cheapestUnsettled 11 = .ok (.getfield 23, 3) := by decide +kernel
theorem dX4_cheapestUnsettled_14 : decode cX4_cheapestUnsettled 14 = .ok (.iload_n 2, 1) := by decide +kernel
theorem dX4_cheapestUnsettled_15 : decode cX4_cheapestUnsettled 15 = .ok (.baload, 1) := by decide +kernel
theorem dX4_cheapestUnsettled_16 : decode cX4_cheapestUnsettled 16 = .ok (.ifCond .ne 25, 3) := by decide +kernel
theorem dX4_cheapestUnsettled_19 : decode cX4_cheapestUnsettled 19 = .ok (.iload_n 1, 1) := by decide +kernel
theorem dX4_cheapestUnsettled_20 : decode cX4_cheapestUnsettled 20 = .ok (.iconst (-1), 1) := by decide +kernel
theorem dX4_cheapestUnsettled_21 : decode cX4_cheapestUnsettled 21 = .ok (.if_icmp .eq 18, 3) := by decide +kernel
theorem dX4_cheapestUnsettled_24 : decode cX4_cheapestUnsettled 24 = .ok (.aload_n 0, 1) := by decide +kernel
theorem dX4_cheapestUnsettled_25 : decode cX4_cheapestUnsettled 25 = .ok (.getfield 19, 3) := by decide +kernel
theorem dX4_cheapestUnsettled_28 : decode cX4_cheapestUnsettled 28 = .ok (.iload_n 2, 1) := by decide +kernel
theorem dX4_cheapestUnsettled_29 : decode cX4_cheapestUnsettled 29 = .ok (.iaload, 1) := by decide +kernel
theorem dX4_cheapestUnsettled_30 : decode cX4_cheapestUnsettled 30 = .ok (.aload_n 0, 1) := by decide +kernel
theorem dX4_cheapestUnsettled_31 : decode cX4_cheapestUnsettled 31 = .ok (.getfield 19, 3) := by decide +kernel
theorem dX4_cheapestUnsettled_34 : decode cX4_cheapestUnsettled 34 = .ok (.iload_n 1, 1) := by decide +kernel
theorem dX4_cheapestUnsettled_35 : decode cX4_cheapestUnsettled 35 = .ok (.iaload, 1) := by decide +kernel
theorem dX4_cheapestUnsettled_36 : decode cX4_cheapestUnsettled 36 = .ok (.if_icmp .ge 5, 3) := by decide +kernel
theorem dX4_cheapestUnsettled_39 : decode cX4_cheapestUnsettled 39 = .ok (.iload_n 2, 1) := by decide +kernel
theorem dX4_cheapestUnsettled_40 : decode cX4_cheapestUnsettled 40 = .ok (.istore_n 1, 1) := by decide +kernel
theorem dX4_cheapestUnsettled_41 : decode cX4_cheapestUnsettled 41 = .ok (.iinc 2 1, 3) := by decide +kernel
theorem dX4_cheapestUnsettled_44 : decode cX4_cheapestUnsettled 44 = .ok (.goto (-40), 3) := by decide +kernel
theorem dX4_cheapestUnsettled_47 : decode cX4_cheapestUnsettled 47 = .ok (.iload_n 1, 1) := by decide +kernel
theorem dX4_cheapestUnsettled_48 : decode cX4_cheapestUnsettled 48 = .ok (.ireturn, 1) := by decide +kernel
theorem dX4_cheapestByGoingOver_0 : decode cX4_cheapestByGoingOver 0 = .ok (.iconst 0, 1) := by decide +kernel
theorem dX4_cheapestByGoingOver_1 : decode cX4_cheapestByGoingOver 1 = .ok (.istore_n 3, 1) := by decide +kernel
theorem dX4_cheapestByGoingOver_2 : decode cX4_cheapestByGoingOver 2 = .ok (.iload_n 3, 1) := by decide +kernel
theorem dX4_cheapestByGoingOver_3 : decode cX4_cheapestByGoingOver 3 = .ok (.bipush 10, 2) := by decide +kernel
theorem dX4_cheapestByGoingOver_5 : decode cX4_cheapestByGoingOver 5 = .ok (.if_icmp .ge 28, 3) := by decide +kernel
theorem dX4_cheapestByGoingOver_8 : decode cX4_cheapestByGoingOver 8 = .ok (.aload_n 0, 1) := by decide +kernel
theorem dX4_cheapestByGoingOver_9 : decode cX4_cheapestByGoingOver 9 = .ok (.getfield 11, 3) := by decide +kernel
theorem dX4_cheapestByGoingOver_12 : decode cX4_cheapestByGoingOver 12 = .ok (.iload_n 3, 1) := by decide +kernel
theorem dX4_cheapestByGoingOver_13 : decode cX4_cheapestByGoingOver 13 = .ok (.aaload, 1) := by decide +kernel
theorem dX4_cheapestByGoingOver_14 : decode cX4_cheapestByGoingOver 14 = .ok (.iconst 0, 1) := by decide +kernel
theorem dX4_cheapestByGoingOver_15 : decode cX4_cheapestByGoingOver 15 = .ok (.aload_n 0, 1) := by decide +kernel
theorem dX4_cheapestByGoingOver_16 : decode cX4_cheapestByGoingOver 16 = .ok (.getfield 16, 3) := by decide +kernel
theorem dX4_cheapestByGoingOver_19 : decode cX4_cheapestByGoingOver 19 = .ok (.iload_n 3, 1) := by decide +kernel
theorem dX4_cheapestByGoingOver_20 : decode cX4_cheapestByGoingOver 20 = .ok (.aaload, 1) := by decide +kernel
theorem dX4_cheapestByGoingOver_21 : decode cX4_cheapestByGoingOver 21 = .ok (.iconst 0, 1) := by decide +kernel
theorem dX4_cheapestByGoingOver_22 : decode cX4_cheapestByGoingOver 22 = .ok (.bipush 10, 2) := by decide +kernel
theorem dX4_cheapestByGoingOver_24 : decode cX4_cheapestByGoingOver 24 = .ok (.invokestatic 47, 3) := by decide +kernel
theorem dX4_cheapestByGoingOver_27 : decode cX4_cheapestByGoingOver 27 = .ok (.iinc 3 1, 3) := by decide +kernel
theorem dX4_cheapestByGoingOver_30 : decode cX4_cheapestByGoingOver 30 = .ok (.goto (-28), 3) := by decide +kernel
theorem dX4_cheapestByGoingOver_33 : decode cX4_cheapestByGoingOver 33 = .ok (.iconst 0, 1) := by decide +kernel
theorem dX4_cheapestByGoingOver_34 : decode cX4_cheapestByGoingOver 34 = .ok (.istore_n 3, 1) := by decide +kernel
theorem dX4_cheapestByGoingOver_35 : decode cX4_cheapestByGoingOver 35 = .ok (.iload_n 3, 1) := by decide +kernel
theorem dX4_cheapestByGoingOver_36 : decode cX4_cheapestByGoingOver 36 = .ok (.bipush 10, 2) := by decide +kernel
theorem dX4_cheapestByGoingOver_38 : decode cX4_cheapestByGoingOver 38 = .ok (.if_icmp .ge 14, 3) := by decide +kernel
theorem dX4_cheapestByGoingOver_41 : decode cX4_cheapestByGoingOver 41 = .ok (.aload_n 0, 1) := by decide +kernel
theorem dX4_cheapestByGoingOver_42 : decode cX4_cheapestByGoingOver 42 = .ok (.iload_n 3, 1) := by decide +kernel
theorem dX4_cheapestByGoingOver_43 : decode cX4_cheapestByGoingOver 43 = .ok (.invokevirtual 53, 3) := by decide +kernel
theorem dX4_cheapestByGoingOver_46 : decode cX4_cheapestByGoingOver 46 = .ok (.iinc 3 1, 3) := by decide +kernel
theorem dX4_cheapestByGoingOver_49 : decode cX4_cheapestByGoingOver 49 = .ok (.goto (-14), 3) := by decide +kernel
theorem dX4_cheapestByGoingOver_52 : decode cX4_cheapestByGoingOver 52 = .ok (.aload_n 0, 1) := by decide +kernel
theorem dX4_cheapestByGoingOver_53 : decode cX4_cheapestByGoingOver 53 = .ok (.getfield 16, 3) := by decide +kernel
theorem dX4_cheapestByGoingOver_56 : decode cX4_cheapestByGoingOver 56 = .ok (.iload_n 1, 1) := by decide +kernel
theorem dX4_cheapestByGoingOver_57 : decode cX4_cheapestByGoingOver 57 = .ok (.aaload, 1) := by decide +kernel
theorem dX4_cheapestByGoingOver_58 : decode cX4_cheapestByGoingOver 58 = .ok (.iload_n 2, 1) := by decide +kernel
theorem dX4_cheapestByGoingOver_59 : decode cX4_cheapestByGoingOver 59 = .ok (.iaload, 1) := by decide +kernel
theorem dX4_cheapestByGoingOver_60 : decode cX4_cheapestByGoingOver 60 = .ok (.ireturn, 1) := by decide +kernel
theorem dX4_allowGoingOver_0 : decode cX4_allowGoingOver 0 = .ok (.iconst 0, 1) := by decide +kernel
theorem dX4_allowGoingOver_1 : decode cX4_allowGoingOver 1 = .ok (.istore_n 2, 1) := by decide +kernel
theorem dX4_allowGoingOver_2 : decode cX4_allowGoingOver 2 = .ok (.iload_n 2, 1) := by decide +kernel
theorem dX4_allowGoingOver_3 : decode cX4_allowGoingOver 3 = .ok (.bipush 10, 2) := by decide +kernel
theorem dX4_allowGoingOver_5 : decode cX4_allowGoingOver 5 = .ok (.if_icmp .ge 59, 3) := by decide +kernel
theorem dX4_allowGoingOver_8 : decode cX4_allowGoingOver 8 = .ok (.iconst 0, 1) := by decide +kernel
theorem dX4_allowGoingOver_9 : decode cX4_allowGoingOver 9 = .ok (.istore_n 3, 1) := by decide +kernel
theorem dX4_allowGoingOver_10 : decode cX4_allowGoingOver 10 = .ok (.iload_n 3, 1) := by decide +kernel
theorem dX4_allowGoingOver_11 : decode cX4_allowGoingOver 11 = .ok (.bipush 10, 2) := by decide +kernel
theorem dX4_allowGoingOver_13 : decode cX4_allowGoingOver 13 = .ok (.if_icmp .ge 45, 3) := by decide +kernel
theorem dX4_allowGoingOver_16 : decode cX4_allowGoingOver 16 = .ok (.aload_n 0, 1) := by decide +kernel
theorem dX4_allowGoingOver_17 : decode cX4_allowGoingOver 17 = .ok (.getfield 16, 3) := by decide +kernel
theorem dX4_allowGoingOver_20 : decode cX4_allowGoingOver 20 = .ok (.iload_n 2, 1) := by decide +kernel
theorem dX4_allowGoingOver_21 : decode cX4_allowGoingOver 21 = .ok (.aaload, 1) := by decide +kernel
theorem dX4_allowGoingOver_22 : decode cX4_allowGoingOver 22 = .ok (.iload_n 3, 1) := by decide +kernel
theorem dX4_allowGoingOver_23 : decode cX4_allowGoingOver 23 = .ok (.aload_n 0, 1) := by decide +kernel
theorem dX4_allowGoingOver_24 : decode cX4_allowGoingOver 24 = .ok (.getfield 16, 3) := by decide +kernel
theorem dX4_allowGoingOver_27 : decode cX4_allowGoingOver 27 = .ok (.iload_n 2, 1) := by decide +kernel
theorem dX4_allowGoingOver_28 : decode cX4_allowGoingOver 28 = .ok (.aaload, 1) := by decide +kernel
theorem dX4_allowGoingOver_29 : decode cX4_allowGoingOver 29 = .ok (.iload_n 3, 1) := by decide +kernel
theorem dX4_allowGoingOver_30 : decode cX4_allowGoingOver 30 = .ok (.iaload, 1) := by decide +kernel
theorem dX4_allowGoingOver_31 : decode cX4_allowGoingOver 31 = .ok (.aload_n 0, 1) := by decide +kernel
theorem dX4_allowGoingOver_32 : decode cX4_allowGoingOver 32 = .ok (.getfield 16, 3) := by decide +kernel
theorem dX4_allowGoingOver_35 : decode cX4_allowGoingOver 35 = .ok (.iload_n 2, 1) := by decide +kernel
theorem dX4_allowGoingOver_36 : decode cX4_allowGoingOver 36 = .ok (.aaload, 1) := by decide +kernel
theorem dX4_allowGoingOver_37 : decode cX4_allowGoingOver 37 = .ok (.iload_n 1, 1) := by decide +kernel
theorem dX4_allowGoingOver_38 : decode cX4_allowGoingOver 38 = .ok (.iaload, 1) := by decide +kernel
theorem dX4_allowGoingOver_39 : decode cX4_allowGoingOver 39 = .ok (.aload_n 0, 1) := by decide +kernel
end
section
theorem dX4_allowGoingOver_40 : decode cX4_allowGoingOver 40 = .ok (.getfield 16, 3) := by decide +kernel
theorem dX4_allowGoingOver_43 : decode cX4_allowGoingOver 43 = .ok (.iload_n 1, 1) := by decide +kernel
theorem dX4_allowGoingOver_44 : decode cX4_allowGoingOver 44 = .ok (.aaload, 1) := by decide +kernel
theorem dX4_allowGoingOver_45 : decode cX4_allowGoingOver 45 = .ok (.iload_n 3, 1) := by decide +kernel
theorem dX4_allowGoingOver_46 : decode cX4_allowGoingOver 46 = .ok (.iaload, 1) := by decide +kernel
theorem dX4_allowGoingOver_47 : decode cX4_allowGoingOver 47 = .ok (.iadd, 1) := by decide +kernel
theorem dX4_allowGoingOver_48 : decode cX4_allowGoingOver 48 = .ok (.invokestatic 42, 3) := by decide +kernel
theorem dX4_allowGoingOver_51 : decode cX4_allowGoingOver 51 = .ok (.iastore, 1) := by decide +kernel
theorem dX4_allowGoingOver_52 : decode cX4_allowGoingOver 52 = .ok (.iinc 3 1, 3) := by decide +kernel
theorem dX4_allowGoingOver_55 : decode cX4_allowGoingOver 55 = .ok (.goto (-45), 3) := by decide +kernel
theorem dX4_allowGoingOver_58 : decode cX4_allowGoingOver 58 = .ok (.iinc 2 1, 3) := by decide +kernel
theorem dX4_allowGoingOver_61 : decode cX4_allowGoingOver 61 = .ok (.goto (-59), 3) := by decide +kernel
theorem dX4_allowGoingOver_64 : decode cX4_allowGoingOver 64 = .ok (.return_, 1) := by decide +kernel
theorem dX5_init_0 : decode cX5_init 0 = .ok (.aload_n 0, 1) := by decide +kernel
theorem dX5_init_1 : decode cX5_init 1 = .ok (.invokespecial 1, 3) := by decide +kernel
theorem dX5_init_4 : decode cX5_init 4 = .ok (.aload_n 0, 1) := by decide +kernel
theorem dX5_init_5 : decode cX5_init 5 = .ok (.new 7, 3) := by decide +kernel
theorem dX5_init_8 : decode cX5_init 8 = .ok (.dup, 1) := by decide +kernel
theorem dX5_init_9 : decode cX5_init 9 = .ok (.invokespecial 9, 3) := by decide +kernel
theorem dX5_init_12 : decode cX5_init 12 = .ok (.putfield 10, 3) := by decide +kernel
theorem dX5_init_15 : decode cX5_init 15 = .ok (.aload_n 0, 1) := by decide +kernel
theorem dX5_init_16 : decode cX5_init 16 = .ok (.iconst 2, 1) := by decide +kernel
theorem dX5_init_17 : decode cX5_init 17 = .ok (.anewarray 7, 3) := by decide +kernel
theorem dX5_init_20 : decode cX5_init 20 = .ok (.putfield 16, 3) := by decide +kernel
theorem dX5_init_23 : decode cX5_init 23 = .ok (.aload_n 0, 1) := by decide +kernel
theorem dX5_init_24 : decode cX5_init 24 = .ok (.iconst 2, 1) := by decide +kernel
theorem dX5_init_25 : decode cX5_init 25 = .ok (.newarray .boolean, 2) := by decide +kernel
theorem dX5_init_27 : decode cX5_init 27 = .ok (.putfield 20, 3) := by decide +kernel
theorem dX5_init_30 : decode cX5_init 30 = .ok (.aload_n 0, 1) := by decide +kernel
theorem dX5_init_31 : decode cX5_init 31 = .ok (.new 24, 3) := by decide +kernel
theorem dX5_init_34 : decode cX5_init 34 = .ok (.dup, 1) := by decide +kernel
theorem dX5_init_35 : decode cX5_init 35 = .ok (.invokespecial 26, 3) := by decide +kernel
theorem dX5_init_38 : decode cX5_init 38 = .ok (.putfield 27, 3) := by decide +kernel
theorem dX5_init_41 : decode cX5_init 41 = .ok (.aload_n 0, 1) := by decide +kernel
theorem dX5_init_42 : decode cX5_init 42 = .ok (.new 31, 3) := by decide +kernel
theorem dX5_init_45 : decode cX5_init 45 = .ok (.dup, 1) := by decide +kernel
theorem dX5_init_46 : decode cX5_init 46 = .ok (.invokespecial 33, 3) := by decide +kernel
theorem dX5_init_49 : decode cX5_init 49 = .ok (.putfield 34, 3) := by decide +kernel
theorem dX5_init_52 : decode cX5_init 52 = .ok (.aload_n 0, 1) := by decide +kernel
theorem dX5_init_53 : decode cX5_init 53 = .ok (.new 38, 3) := by decide +kernel
theorem dX5_init_56 : decode cX5_init 56 = .ok (.dup, 1) := by decide +kernel
theorem dX5_init_57 : decode cX5_init 57 = .ok (.invokespecial 40, 3) := by decide +kernel
theorem dX5_init_60 : decode cX5_init 60 = .ok (.putfield 41, 3) := by decide +kernel
theorem dX5_init_63 : decode cX5_init 63 = .ok (.aload_n 0, 1) := by decide +kernel
theorem dX5_init_64 : decode cX5_init 64 = .ok (.new 45, 3) := by decide +kernel
theorem dX5_init_67 : decode cX5_init 67 = .ok (.dup, 1) := by decide +kernel
theorem dX5_init_68 : decode cX5_init 68 = .ok (.invokespecial 47, 3) := by decide +kernel
theorem dX5_init_71 : decode cX5_init 71 = .ok (.putfield 48, 3) := by decide +kernel
theorem dX5_init_74 : decode cX5_init 74 = .ok (.iconst 0, 1) := by decide +kernel
theorem dX5_init_75 : decode cX5_init 75 = .ok (.istore_n 1, 1) := by decide +kernel
theorem dX5_init_76 : decode cX5_init 76 = .ok (.iload_n 1, 1) := by decide +kernel
theorem dX5_init_77 : decode cX5_init 77 = .ok (.iconst 2, 1) := by decide +kernel
theorem dX5_init_78 : decode cX5_init 78 = .ok (.if_icmp .ge 22, 3) := by decide +kernel
theorem dX5_init_81 : decode cX5_init 81 = .ok (.aload_n 0, 1) := by decide +kernel
theorem dX5_init_82 : decode cX5_init 82 = .ok (.getfield 16, 3) := by decide +kernel
theorem dX5_init_85 : decode cX5_init 85 = .ok (.iload_n 1, 1) := by decide +kernel
theorem dX5_init_86 : decode cX5_init 86 = .ok (.new 7, 3) := by decide +kernel
theorem dX5_init_89 : decode cX5_init 89 = .ok (.dup, 1) := by decide +kernel
theorem dX5_init_90 : decode cX5_init 90 = .ok (.invokespecial 9, 3) := by decide +kernel
theorem dX5_init_93 : decode cX5_init 93 = .ok (.aastore, 1) := by decide +kernel
theorem dX5_init_94 : decode cX5_init 94 = .ok (.iinc 1 1, 3) := by decide +kernel
theorem dX5_init_97 : decode cX5_init 97 = .ok (.goto (-21), 3) := by decide +kernel
theorem dX5_init_100 : decode cX5_init 100 = .ok (.return_, 1) := by decide +kernel
theorem dX5_height_0 : decode cX5_height 0 = .ok (.iload_n 1, 1) := by decide +kernel
theorem dX5_height_1 : decode cX5_height 1 = .ok (.invokestatic 52, 3) := by decide +kernel
theorem dX5_height_4 : decode cX5_height 4 = .ok (.ifCond .ne 13, 3) := by decide +kernel
theorem dX5_height_7 : decode cX5_height 7 = .ok (.new 56, 3) := by decide +kernel
theorem dX5_height_10 : decode cX5_height 10 = .ok (.dup, 1) := by decide +kernel
theorem dX5_height_11 : decode cX5_height 11 = .ok (.ldc 58, 2) := by decide +kernel
theorem dX5_height_13 : decode cX5_height 13 = .ok (.invokespecial 60, 3) := by decide +kernel
theorem dX5_height_16 : decode cX5_height 16 = .ok (.athrow, 1) := by decide +kernel
theorem dX5_height_17 : decode cX5_height 17 = .ok (.iload_n 2, 1) := by decide +kernel
theorem dX5_height_18 : decode cX5_height 18 = .ok (.ifCond .lt 9, 3) := by decide +kernel
theorem dX5_height_21 : decode cX5_height 21 = .ok (.iload_n 2, 1) := by decide +kernel
theorem dX5_height_22 : decode cX5_height 22 = .ok (.bipush 9, 2) := by decide +kernel
theorem dX5_height_24 : decode cX5_height 24 = .ok (.if_icmp .le 13, 3) := by decide +kernel
theorem dX5_height_27 : decode cX5_height 27 = .ok (.new 63, 3) := by decide +kernel
theorem dX5_height_30 : decode cX5_height 30 = .ok (.dup, 1) := by decide +kernel
theorem dX5_height_31 : decode cX5_height 31 = .ok (.ldc 65, 2) := by decide +kernel
theorem dX5_height_33 : decode cX5_height 33 = .ok (.invokespecial 67, 3) := by decide +kernel
theorem dX5_height_36 : decode cX5_height 36 = .ok (.athrow, 1) := by decide +kernel
theorem dX5_height_37 : decode cX5_height 37 = .ok (.aload_n 0, 1) := by decide +kernel
theorem dX5_height_38 : decode cX5_height 38 = .ok (.getfield 27, 3) := by decide +kernel
theorem dX5_height_41 : decode cX5_height 41 = .ok (.aload_n 0, 1) := by decide +kernel
theorem dX5_height_42 : decode cX5_height 42 = .ok (.getfield 10, 3) := by decide +kernel
theorem dX5_height_45 : decode cX5_height 45 = .ok (.invokevirtual 68, 3) := by decide +kernel
theorem dX5_height_48 : decode cX5_height 48 = .ok (.aload_n 0, 1) := by decide +kernel
theorem dX5_height_49 : decode cX5_height 49 = .ok (.getfield 10, 3) := by decide +kernel
theorem dX5_height_52 : decode cX5_height 52 = .ok (.getfield 72, 3) := by decide +kernel
theorem dX5_height_55 : decode cX5_height 55 = .ok (.iload_n 1, 1) := by decide +kernel
theorem dX5_height_56 : decode cX5_height 56 = .ok (.iaload, 1) := by decide +kernel
theorem dX5_height_57 : decode cX5_height 57 = .ok (.istore_n 3, 1) := by decide +kernel
theorem dX5_height_58 : decode cX5_height 58 = .ok (.aload_n 0, 1) := by decide +kernel
theorem dX5_height_59 : decode cX5_height 59 = .ok (.getfield 10, 3) := by decide +kernel
theorem dX5_height_62 : decode cX5_height 62 = .ok (.getfield 72, 3) := by decide +kernel
theorem dX5_height_65 : decode cX5_height 65 = .ok (.iload_n 1, 1) := by decide +kernel
theorem dX5_height_66 : decode cX5_height 66 = .ok (.iload_n 2, 1) := by decide +kernel
theorem dX5_height_67 : decode cX5_height 67 = .ok (.iastore, 1) := by decide +kernel
theorem dX5_height_68 : decode cX5_height 68 = .ok (.iload_n 3, 1) := by decide +kernel
theorem dX5_height_69 : decode cX5_height 69 = .ok (.ireturn, 1) := by decide +kernel
theorem dX5_player_0 : decode cX5_player 0 = .ok (.iload_n 1, 1) := by decide +kernel
theorem dX5_player_1 : decode cX5_player 1 = .ok (.invokestatic 52, 3) := by decide +kernel
theorem dX5_player_4 : decode cX5_player 4 = .ok (.ifCond .ne 13, 3) := by decide +kernel
theorem dX5_player_7 : decode cX5_player 7 = .ok (.new 56, 3) := by decide +kernel
theorem dX5_player_10 : decode cX5_player 10 = .ok (.dup, 1) := by decide +kernel
theorem dX5_player_11 : decode cX5_player 11 = .ok (.ldc 58, 2) := by decide +kernel
theorem dX5_player_13 : decode cX5_player 13 = .ok (.invokespecial 60, 3) := by decide +kernel
theorem dX5_player_16 : decode cX5_player 16 = .ok (.athrow, 1) := by decide +kernel
theorem dX5_player_17 : decode cX5_player 17 = .ok (.iload_n 2, 1) := by decide +kernel
theorem dX5_player_18 : decode cX5_player 18 = .ok (.ifCond .lt 10, 3) := by decide +kernel
theorem dX5_player_21 : decode cX5_player 21 = .ok (.iload_n 2, 1) := by decide +kernel
theorem dX5_player_22 : decode cX5_player 22 = .ok (.sipush 200, 3) := by decide +kernel
theorem dX5_player_25 : decode cX5_player 25 = .ok (.if_icmp .le 13, 3) := by decide +kernel
theorem dX5_player_28 : decode cX5_player 28 = .ok (.new 63, 3) := by decide +kernel
theorem dX5_player_31 : decode cX5_player 31 = .ok (.dup, 1) := by decide +kernel
theorem dX5_player_32 : decode cX5_player 32 = .ok (.ldc 76, 2) := by decide +kernel
theorem dX5_player_34 : decode cX5_player 34 = .ok (.invokespecial 67, 3) := by decide +kernel
theorem dX5_player_37 : decode cX5_player 37 = .ok (.athrow, 1) := by decide +kernel
theorem dX5_player_38 : decode cX5_player 38 = .ok (.aload_n 0, 1) := by decide +kernel
theorem dX5_player_39 : decode cX5_player 39 = .ok (.getfield 10, 3) := by decide +kernel
theorem dX5_player_42 : decode cX5_player 42 = .ok (.getfield 78, 3) := by decide +kernel
theorem dX5_player_45 : decode cX5_player 45 = .ok (.iconst 4, 1) := by decide +kernel
theorem dX5_player_46 : decode cX5_player 46 = .ok (.if_icmp .lt 13, 3) := by decide +kernel
theorem dX5_player_49 : decode cX5_player 49 = .ok (.new 82, 3) := by decide +kernel
theorem dX5_player_52 : decode cX5_player 52 = .ok (.dup, 1) := by decide +kernel
theorem dX5_player_53 : decode cX5_player 53 = .ok (.ldc 84, 2) := by decide +kernel
theorem dX5_player_55 : decode cX5_player 55 = .ok (.invokespecial 86, 3) := by decide +kernel
theorem dX5_player_58 : decode cX5_player 58 = .ok (.athrow, 1) := by decide +kernel
theorem dX5_player_59 : decode cX5_player 59 = .ok (.aload_n 0, 1) := by decide +kernel
theorem dX5_player_60 : decode cX5_player 60 = .ok (.getfield 27, 3) := by decide +kernel
theorem dX5_player_63 : decode cX5_player 63 = .ok (.aload_n 0, 1) := by decide +kernel
theorem dX5_player_64 : decode cX5_player 64 = .ok (.getfield 10, 3) := by decide +kernel
theorem dX5_player_67 : decode cX5_player 67 = .ok (.invokevirtual 68, 3) := by decide +kernel
theorem dX5_player_70 : decode cX5_player 70 = .ok (.aload_n 0, 1) := by decide +kernel
theorem dX5_player_71 : decode cX5_player 71 = .ok (.getfield 10, 3) := by decide +kernel
theorem dX5_player_74 : decode cX5_player 74 = .ok (.iload_n 1, 1) := by decide +kernel
theorem dX5_player_75 : decode cX5_player 75 = .ok (.iload_n 2, 1) := by decide +kernel
theorem dX5_player_76 : decode cX5_player 76 = .ok (.invokevirtual 87, 3) := by decide +kernel
theorem dX5_player_79 : decode cX5_player 79 = .ok (.ireturn, 1) := by decide +kernel
theorem dX5_set_0 : decode cX5_set 0 = .ok (.iload_n 1, 1) := by decide +kernel
theorem dX5_set_1 : decode cX5_set 1 = .ok (.invokestatic 91, 3) := by decide +kernel
theorem dX5_set_4 : decode cX5_set 4 = .ok (.ifCond .ne 13, 3) := by decide +kernel
theorem dX5_set_7 : decode cX5_set 7 = .ok (.new 56, 3) := by decide +kernel
theorem dX5_set_10 : decode cX5_set 10 = .ok (.dup, 1) := by decide +kernel
theorem dX5_set_11 : decode cX5_set 11 = .ok (.ldc 94, 2) := by decide +kernel
theorem dX5_set_13 : decode cX5_set 13 = .ok (.invokespecial 60, 3) := by decide +kernel
theorem dX5_set_16 : decode cX5_set 16 = .ok (.athrow, 1) := by decide +kernel
theorem dX5_set_17 : decode cX5_set 17 = .ok (.iload_n 2, 1) := by decide +kernel
theorem dX5_set_18 : decode cX5_set 18 = .ok (.getstatic 96, 3) := by decide +kernel
theorem dX5_set_21 : decode cX5_set 21 = .ok (.iload_n 1, 1) := by decide +kernel
theorem dX5_set_22 : decode cX5_set 22 = .ok (.iaload, 1) := by decide +kernel
theorem dX5_set_23 : decode cX5_set 23 = .ok (.if_icmp .lt 12, 3) := by decide +kernel
theorem dX5_set_26 : decode cX5_set 26 = .ok (.iload_n 2, 1) := by decide +kernel
theorem dX5_set_27 : decode cX5_set 27 = .ok (.getstatic 99, 3) := by decide +kernel
theorem dX5_set_30 : decode cX5_set 30 = .ok (.iload_n 1, 1) := by decide +kernel
theorem dX5_set_31 : decode cX5_set 31 = .ok (.iaload, 1) := by decide +kernel
theorem dX5_set_32 : decode cX5_set 32 = .ok (.if_icmp .le 13, 3) := by decide +kernel
theorem dX5_set_35 : decode cX5_set 35 = .ok (.new 63, 3) := by decide +kernel
theorem dX5_set_38 : decode cX5_set 38 = .ok (.dup, 1) := by decide +kernel
theorem dX5_set_39 : decode cX5_set 39 = .ok (.ldc 102, 2) := by decide +kernel
theorem dX5_set_41 : decode cX5_set 41 = .ok (.invokespecial 67, 3) := by decide +kernel
theorem dX5_set_44 : decode cX5_set 44 = .ok (.athrow, 1) := by decide +kernel
theorem dX5_set_45 : decode cX5_set 45 = .ok (.aload_n 0, 1) := by decide +kernel
theorem dX5_set_46 : decode cX5_set 46 = .ok (.getfield 27, 3) := by decide +kernel
theorem dX5_set_49 : decode cX5_set 49 = .ok (.aload_n 0, 1) := by decide +kernel
theorem dX5_set_50 : decode cX5_set 50 = .ok (.getfield 10, 3) := by decide +kernel
theorem dX5_set_53 : decode cX5_set 53 = .ok (.invokevirtual 68, 3) := by decide +kernel
theorem dX5_set_56 : decode cX5_set 56 = .ok (.aload_n 0, 1) := by decide +kernel
theorem dX5_set_57 : decode cX5_set 57 = .ok (.getfield 10, 3) := by decide +kernel
theorem dX5_set_60 : decode cX5_set 60 = .ok (.getfield 104, 3) := by decide +kernel
theorem dX5_set_63 : decode cX5_set 63 = .ok (.iload_n 1, 1) := by decide +kernel
theorem dX5_set_64 : decode cX5_set 64 = .ok (.iaload, 1) := by decide +kernel
theorem dX5_set_65 : decode cX5_set 65 = .ok (.istore_n 3, 1) := by decide +kernel
theorem dX5_set_66 : decode cX5_set 66 = .ok (.aload_n 0, 1) := by decide +kernel
theorem dX5_set_67 : decode cX5_set 67 = .ok (.getfield 10, 3) := by decide +kernel
theorem dX5_set_70 : decode cX5_set 70 = .ok (.getfield 104, 3) := by decide +kernel
theorem dX5_set_73 : decode cX5_set 73 = .ok (.iload_n 1, 1) := by decide +kernel
theorem dX5_set_74 : decode cX5_set 74 = .ok (.iload_n 2, 1) := by decide +kernel
theorem dX5_set_75 : decode cX5_set 75 = .ok (.iastore, 1) := by decide +kernel
theorem dX5_set_76 : decode cX5_set 76 = .ok (.iload_n 3, 1) := by decide +kernel
theorem dX5_set_77 : decode cX5_set 77 = .ok (.ireturn, 1) := by decide +kernel
theorem dX5_rest_0 : decode cX5_rest 0 = .ok (.aload_n 0, 1) := by decide +kernel
theorem dX5_rest_1 : decode cX5_rest 1 = .ok (.getfield 10, 3) := by decide +kernel
theorem dX5_rest_4 : decode cX5_rest 4 = .ok (.invokevirtual 107, 3) := by decide +kernel
theorem dX5_rest_7 : decode cX5_rest 7 = .ok (.ifCond .ne 13, 3) := by decide +kernel
theorem dX5_rest_10 : decode cX5_rest 10 = .ok (.new 82, 3) := by decide +kernel
theorem dX5_rest_13 : decode cX5_rest 13 = .ok (.dup, 1) := by decide +kernel
theorem dX5_rest_14 : decode cX5_rest 14 = .ok (.ldc 111, 2) := by decide +kernel
theorem dX5_rest_16 : decode cX5_rest 16 = .ok (.invokespecial 86, 3) := by decide +kernel
theorem dX5_rest_19 : decode cX5_rest 19 = .ok (.athrow, 1) := by decide +kernel
theorem dX5_rest_20 : decode cX5_rest 20 = .ok (.aload_n 0, 1) := by decide +kernel
theorem dX5_rest_21 : decode cX5_rest 21 = .ok (.getfield 27, 3) := by decide +kernel
theorem dX5_rest_24 : decode cX5_rest 24 = .ok (.aload_n 0, 1) := by decide +kernel
theorem dX5_rest_25 : decode cX5_rest 25 = .ok (.getfield 10, 3) := by decide +kernel
theorem dX5_rest_28 : decode cX5_rest 28 = .ok (.invokevirtual 68, 3) := by decide +kernel
theorem dX5_rest_31 : decode cX5_rest 31 = .ok (.aload_n 0, 1) := by decide +kernel
theorem dX5_rest_32 : decode cX5_rest 32 = .ok (.getfield 10, 3) := by decide +kernel
theorem dX5_rest_35 : decode cX5_rest 35 = .ok (.invokevirtual 113, 3) := by decide +kernel
theorem dX5_rest_38 : decode cX5_rest 38 = .ok (.ireturn, 1) := by decide +kernel
theorem dX5_stride_0 : decode cX5_stride 0 = .ok (.iload_n 1, 1) := by decide +kernel
theorem dX5_stride_1 : decode cX5_stride 1 = .ok (.invokestatic 52, 3) := by decide +kernel
theorem dX5_stride_4 : decode cX5_stride 4 = .ok (.ifCond .ne 13, 3) := by decide +kernel
theorem dX5_stride_7 : decode cX5_stride 7 = .ok (.new 56, 3) := by decide +kernel
theorem dX5_stride_10 : decode cX5_stride 10 = .ok (.dup, 1) := by decide +kernel
theorem dX5_stride_11 : decode cX5_stride 11 = .ok (.ldc 58, 2) := by decide +kernel
theorem dX5_stride_13 : decode cX5_stride 13 = .ok (.invokespecial 60, 3) := by decide +kernel
theorem dX5_stride_16 : decode cX5_stride 16 = .ok (.athrow, 1) := by decide +kernel
theorem dX5_stride_17 : decode cX5_stride 17 = .ok (.aload_n 0, 1) := by decide +kernel
theorem dX5_stride_18 : decode cX5_stride 18 = .ok (.getfield 10, 3) := by decide +kernel
theorem dX5_stride_21 : decode cX5_stride 21 = .ok (.invokevirtual 107, 3) := by decide +kernel
theorem dX5_stride_24 : decode cX5_stride 24 = .ok (.ifCond .ne 13, 3) := by decide +kernel
theorem dX5_stride_27 : decode cX5_stride 27 = .ok (.new 82, 3) := by decide +kernel
theorem dX5_stride_30 : decode cX5_stride 30 = .ok (.dup, 1) := by decide +kernel
theorem dX5_stride_31 : decode cX5_stride 31 = .ok (.ldc 111, 2) := by decide +kernel
theorem dX5_stride_33 : decode cX5_stride 33 = .ok (.invokespecial 86, 3) := by decide +kernel
theorem dX5_stride_36 : decode cX5_stride 36 = .ok (.athrow, 1) := by decide +kernel
theorem dX5_stride_37 : decode cX5_stride 37 = .ok (.aload_n 0, 1) := by decide +kernel
theorem dX5_stride_38 : decode cX5_stride 38 = .ok (.getfield 27, 3) := by decide +kernel
theorem dX5_stride_41 : decode cX5_stride 41 = .ok (.aload_n 0, 1) := by decide +kernel
theorem dX5_stride_42 : decode cX5_stride 42 = .ok (.getfield 10, 3) := by decide +kernel
theorem dX5_stride_45 : decode cX5_stride 45 = .ok (.invokevirtual 68, 3) := by decide +kernel
theorem dX5_stride_48 : decode cX5_stride 48 = .ok (.aload_n 0, 1) := by decide +kernel
theorem dX5_stride_49 : decode cX5_stride 49 = .ok (.getfield 10, 3) := by decide +kernel
theorem dX5_stride_52 : decode cX5_stride 52 = .ok (.iload_n 1, 1) := by decide +kernel
theorem dX5_stride_53 : decode cX5_stride 53 = .ok (.invokevirtual 117, 3) := by decide +kernel
theorem dX5_stride_56 : decode cX5_stride 56 = .ok (.ireturn, 1) := by decide +kernel
theorem dX5_turnOver_0 : decode cX5_turnOver 0 = .ok (.aload_n 0, 1) := by decide +kernel
theorem dX5_turnOver_1 : decode cX5_turnOver 1 = .ok (.getfield 10, 3) := by decide +kernel
theorem dX5_turnOver_4 : decode cX5_turnOver 4 = .ok (.invokevirtual 107, 3) := by decide +kernel
theorem dX5_turnOver_7 : decode cX5_turnOver 7 = .ok (.ifCond .ne 13, 3) := by decide +kernel
theorem dX5_turnOver_10 : decode cX5_turnOver 10 = .ok (.new 82, 3) := by decide +kernel
theorem dX5_turnOver_13 : decode cX5_turnOver 13 = .ok (.dup, 1) := by decide +kernel
theorem dX5_turnOver_14 : decode cX5_turnOver 14 = .ok (.ldc 111, 2) := by decide +kernel
theorem dX5_turnOver_16 : decode cX5_turnOver 16 = .ok (.invokespecial 86, 3) := by decide +kernel
theorem dX5_turnOver_19 : decode cX5_turnOver 19 = .ok (.athrow, 1) := by decide +kernel
theorem dX5_turnOver_20 : decode cX5_turnOver 20 = .ok (.aload_n 0, 1) := by decide +kernel
theorem dX5_turnOver_21 : decode cX5_turnOver 21 = .ok (.getfield 27, 3) := by decide +kernel
theorem dX5_turnOver_24 : decode cX5_turnOver 24 = .ok (.aload_n 0, 1) := by decide +kernel
theorem dX5_turnOver_25 : decode cX5_turnOver 25 = .ok (.getfield 10, 3) := by decide +kernel
theorem dX5_turnOver_28 : decode cX5_turnOver 28 = .ok (.invokevirtual 68, 3) := by decide +kernel
theorem dX5_turnOver_31 : decode cX5_turnOver 31 = .ok (.aload_n 0, 1) := by decide +kernel
theorem dX5_turnOver_32 : decode cX5_turnOver 32 = .ok (.getfield 10, 3) := by decide +kernel
theorem dX5_turnOver_35 : decode cX5_turnOver 35 = .ok (.invokevirtual 121, 3) := by decide +kernel
theorem dX5_turnOver_38 : decode cX5_turnOver 38 = .ok (.ireturn, 1) := by decide +kernel
theorem dX5_tag_0 : decode cX5_tag 0 = .ok (.aload_n 0, 1) := by decide +kernel
theorem dX5_tag_1 : decode cX5_tag 1 = .ok (.getfield 10, 3) := by decide +kernel
theorem dX5_tag_4 : decode cX5_tag 4 = .ok (.iload_n 1, 1) := by decide +kernel
theorem dX5_tag_5 : decode cX5_tag 5 = .ok (.invokevirtual 124, 3) := by decide +kernel
theorem dX5_tag_8 : decode cX5_tag 8 = .ok (.ifCond .ne 13, 3) := by decide +kernel
theorem dX5_tag_11 : decode cX5_tag 11 = .ok (.new 56, 3) := by decide +kernel
theorem dX5_tag_14 : decode cX5_tag 14 = .ok (.dup, 1) := by decide +kernel
theorem dX5_tag_15 : decode cX5_tag 15 = .ok (.ldc 127, 2) := by decide +kernel
theorem dX5_tag_17 : decode cX5_tag 17 = .ok (.invokespecial 60, 3) := by decide +kernel
theorem dX5_tag_20 : decode cX5_tag 20 = .ok (.athrow, 1) := by decide +kernel
theorem dX5_tag_21 : decode cX5_tag 21 = .ok (.aload_n 0, 1) := by decide +kernel
theorem dX5_tag_22 : decode cX5_tag 22 = .ok (.getfield 10, 3) := by decide +kernel
theorem dX5_tag_25 : decode cX5_tag 25 = .ok (.invokevirtual 107, 3) := by decide +kernel
theorem dX5_tag_28 : decode cX5_tag 28 = .ok (.ifCond .ne 13, 3) := by decide +kernel
theorem dX5_tag_31 : decode cX5_tag 31 = .ok (.new 82, 3) := by decide +kernel
theorem dX5_tag_34 : decode cX5_tag 34 = .ok (.dup, 1) := by decide +kernel
theorem dX5_tag_35 : decode cX5_tag 35 = .ok (.ldc 129, 2) := by decide +kernel
theorem dX5_tag_37 : decode cX5_tag 37 = .ok (.invokespecial 86, 3) := by decide +kernel
theorem dX5_tag_40 : decode cX5_tag 40 = .ok (.athrow, 1) := by decide +kernel
theorem dX5_tag_41 : decode cX5_tag 41 = .ok (.aload_n 0, 1) := by decide +kernel
theorem dX5_tag_42 : decode cX5_tag 42 = .ok (.getfield 27, 3) := by decide +kernel
theorem dX5_tag_45 : decode cX5_tag 45 = .ok (.aload_n 0, 1) := by decide +kernel
theorem dX5_tag_46 : decode cX5_tag 46 = .ok (.getfield 10, 3) := by decide +kernel
theorem dX5_tag_49 : decode cX5_tag 49 = .ok (.invokevirtual 68, 3) := by decide +kernel
theorem dX5_tag_52 : decode cX5_tag 52 = .ok (.aload_n 0, 1) := by decide +kernel
theorem dX5_tag_53 : decode cX5_tag 53 = .ok (.getfield 10, 3) := by decide +kernel
theorem dX5_tag_56 : decode cX5_tag 56 = .ok (.iload_n 1, 1) := by decide +kernel
theorem dX5_tag_57 : decode cX5_tag 57 = .ok (.invokevirtual 131, 3) := by decide +kernel
theorem dX5_tag_60 : decode cX5_tag 60 = .ok (.ireturn, 1) := by decide +kernel
theorem dX5_append_0 : decode cX5_append 0 = .ok (.iload_n 1, 1) := by decide +kernel
theorem dX5_append_1 : decode cX5_append 1 = .ok (.bipush 33, 2) := by decide +kernel
theorem dX5_append_3 : decode cX5_append 3 = .ok (.if_icmp .lt 9, 3) := by decide +kernel
theorem dX5_append_6 : decode cX5_append 6 = .ok (.iload_n 1, 1) := by decide +kernel
theorem dX5_append_7 : decode cX5_append 7 = .ok (.bipush 126, 2) := by decide +kernel
theorem dX5_append_9 : decode cX5_append 9 = .ok (.if_icmp .le 13, 3) := by decide +kernel
theorem dX5_append_12 : decode cX5_append 12 = .ok (.new 63, 3) := by decide +kernel
theorem dX5_append_15 : decode cX5_append 15 = .ok (.dup, 1) := by decide +kernel
theorem dX5_append_16 : decode cX5_append 16 = .ok (.ldc 134, 2) := by decide +kernel
theorem dX5_append_18 : decode cX5_append 18 = .ok (.invokespecial 67, 3) := by decide +kernel
theorem dX5_append_21 : decode cX5_append 21 = .ok (.athrow, 1) := by decide +kernel
theorem dX5_append_22 : decode cX5_append 22 = .ok (.aload_n 0, 1) := by decide +kernel
theorem dX5_append_23 : decode cX5_append 23 = .ok (.getfield 34, 3) := by decide +kernel
theorem dX5_append_26 : decode cX5_append 26 = .ok (.getfield 136, 3) := by decide +kernel
theorem dX5_append_29 : decode cX5_append 29 = .ok (.bipush 60, 2) := by decide +kernel
theorem dX5_append_31 : decode cX5_append 31 = .ok (.if_icmp .lt 13, 3) := by decide +kernel
theorem dX5_append_34 : decode cX5_append 34 = .ok (.new 82, 3) := by decide +kernel
theorem dX5_append_37 : decode cX5_append 37 = .ok (.dup, 1) := by decide +kernel
theorem dX5_append_38 : decode cX5_append 38 = .ok (.ldc 139, 2) := by decide +kernel
theorem dX5_append_40 : decode cX5_append 40 = .ok (.invokespecial 86, 3) := by decide +kernel
theorem dX5_append_43 : decode cX5_append 43 = .ok (.athrow, 1) := by decide +kernel
theorem dX5_append_44 : decode cX5_append 44 = .ok (.aload_n 0, 1) := by decide +kernel
theorem dX5_append_45 : decode cX5_append 45 = .ok (.getfield 34, 3) := by decide +kernel
theorem dX5_append_48 : decode cX5_append 48 = .ok (.iload_n 1, 1) := by decide +kernel
theorem dX5_append_49 : decode cX5_append 49 = .ok (.invokevirtual 141, 3) := by decide +kernel
theorem dX5_append_52 : decode cX5_append 52 = .ok (.ireturn, 1) := by decide +kernel
theorem dX5_clearBuffer_0 : decode cX5_clearBuffer 0 = .ok (.aload_n 0, 1) := by decide +kernel
theorem dX5_clearBuffer_1 : decode cX5_clearBuffer 1 = .ok (.getfield 34, 3) := by decide +kernel
theorem dX5_clearBuffer_4 : decode cX5_clearBuffer 4 = .ok (.invokevirtual 144, 3) := by decide +kernel
theorem dX5_clearBuffer_7 : decode cX5_clearBuffer 7 = .ok (.ireturn, 1) := by decide +kernel
theorem dX5_firstError_0 : decode cX5_firstError 0 = .ok (.aload_n 0, 1) := by decide +kernel
theorem dX5_firstError_1 : decode cX5_firstError 1 = .ok (.getfield 34, 3) := by decide +kernel
theorem dX5_firstError_4 : decode cX5_firstError 4 = .ok (.invokevirtual 147, 3) := by decide +kernel
theorem dX5_firstError_7 : decode cX5_firstError 7 = .ok (.ireturn, 1) := by decide +kernel
theorem dX5_run_0 : decode cX5_run 0 = .ok (.aload_n 0, 1) := by decide +kernel
theorem dX5_run_1 : decode cX5_run 1 = .ok (.getfield 34, 3) := by decide +kernel
theorem dX5_run_4 : decode cX5_run 4 = .ok (.invokevirtual 150, 3) := by decide +kernel
theorem dX5_run_7 : decode cX5_run 7 = .ok (.ifCond .ne 13, 3) := by decide +kernel
theorem dX5_run_10 : decode cX5_run 10 = .ok (.new 63, 3) := by decide +kernel
theorem dX5_run_13 : decode cX5_run 13 = .ok (.dup, 1) := by decide +kernel
theorem dX5_run_14 : decode cX5_run 14 = .ok (.ldc 153, 2) := by decide +kernel
theorem dX5_run_16 : decode cX5_run 16 = .ok (.invokespecial 67, 3) := by decide +kernel
theorem dX5_run_19 : decode cX5_run 19 = .ok (.athrow, 1) := by decide +kernel
theorem dX5_run_20 : decode cX5_run 20 = .ok (.aload_n 0, 1) := by decide +kernel
theorem dX5_run_21 : decode cX5_run 21 = .ok (.getfield 27, 3) := by decide +kernel
theorem dX5_run_24 : decode cX5_run 24 = .ok (.aload_n 0, 1) := by decide +kernel
theorem dX5_run_25 : decode cX5_run 25 = .ok (.getfield 10, 3) := by decide +kernel
theorem dX5_run_28 : decode cX5_run 28 = .ok (.invokevirtual 68, 3) := by decide +kernel
theorem dX5_run_31 : decode cX5_run 31 = .ok (.iconst 0, 1) := by decide +kernel
theorem dX5_run_32 : decode cX5_run 32 = .ok (.istore_n 1, 1) := by decide +kernel
theorem dX5_run_33 : decode cX5_run 33 = .ok (.iconst 0, 1) := by decide +kernel
theorem dX5_run_34 : decode cX5_run 34 = .ok (.istore_n 2, 1) := by decide +kernel
theorem dX5_run_35 : decode cX5_run 35 = .ok (.iload_n 1, 1) := by decide +kernel
theorem dX5_run_36 : decode cX5_run 36 = .ok (.bipush 60, 2) := by decide +kernel
theorem dX5_run_38 : decode cX5_run 38 = .ok (.if_icmp .ge 56, 3) := by decide +kernel
theorem dX5_run_41 : decode cX5_run 41 = .ok (.iload_n 2, 1) := by decide +kernel
theorem dX5_run_42 : decode cX5_run 42 = .ok (.aload_n 0, 1) := by decide +kernel
theorem dX5_run_43 : decode cX5_run 43 = .ok (.getfield 34, 3) := by decide +kernel
theorem dX5_run_46 : decode cX5_run 46 = .ok (.getfield 136, 3) := by decide +kernel
theorem dX5_run_49 : decode cX5_run 49 = .ok (.if_icmp .ge 45, 3) := by decide +kernel
theorem dX5_run_52 : decode cX5_run 52 = .ok (.aload_n 0, 1) := by decide +kernel
theorem dX5_run_53 : decode cX5_run 53 = .ok (.aload_n 0, 1) := by decide +kernel
theorem dX5_run_54 : decode cX5_run 54 = .ok (.getfield 34, 3) := by decide +kernel
theorem dX5_run_57 : decode cX5_run 57 = .ok (.iload_n 2, 1) := by decide +kernel
theorem dX5_run_58 : decode cX5_run 58 = .ok (.invokevirtual 155, 3) := by decide +kernel
theorem dX5_run_61 : decode cX5_run 61 = .ok (.aload_n 0, 1) := by decide +kernel
theorem dX5_run_62 : decode cX5_run 62 = .ok (.getfield 34, 3) := by decide +kernel
theorem dX5_run_65 : decode cX5_run 65 = .ok (.iload_n 2, 1) := by decide +kernel
theorem dX5_run_66 : decode cX5_run 66 = .ok (.iconst 1, 1) := by decide +kernel
theorem dX5_run_67 : decode cX5_run 67 = .ok (.iadd, 1) := by decide +kernel
theorem dX5_run_68 : decode cX5_run 68 = .ok (.invokevirtual 158, 3) := by decide +kernel
theorem dX5_run_71 : decode cX5_run 71 = .ok (.invokevirtual 161, 3) := by decide +kernel
theorem dX5_run_74 : decode cX5_run 74 = .ok (.ifCond .eq 20, 3) := by decide +kernel
theorem dX5_run_77 : decode cX5_run 77 = .ok (.iinc 1 1, 3) := by decide +kernel
theorem dX5_run_80 : decode cX5_run 80 = .ok (.iload_n 2, 1) := by decide +kernel
theorem dX5_run_81 : decode cX5_run 81 = .ok (.aload_n 0, 1) := by decide +kernel
theorem dX5_run_82 : decode cX5_run 82 = .ok (.getfield 34, 3) := by decide +kernel
theorem dX5_run_85 : decode cX5_run 85 = .ok (.iload_n 2, 1) := by decide +kernel
theorem dX5_run_86 : decode cX5_run 86 = .ok (.invokevirtual 165, 3) := by decide +kernel
theorem dX5_run_89 : decode cX5_run 89 = .ok (.iadd, 1) := by decide +kernel
theorem dX5_run_90 : decode cX5_run 90 = .ok (.istore_n 2, 1) := by decide +kernel
theorem dX5_run_91 : decode cX5_run 91 = .ok (.goto (-56), 3) := by decide +kernel
theorem dX5_run_94 : decode cX5_run 94 = .ok (.aload_n 0, 1) := by decide +kernel
theorem dX5_run_95 : decode cX5_run 95 = .ok (.getfield 34, 3) := by decide +kernel
theorem dX5_run_98 : decode cX5_run 98 = .ok (.invokevirtual 144, 3) := by decide +kernel
theorem dX5_run_101 : decode cX5_run 101 = .ok (.pop, 1) := by decide +kernel
theorem dX5_run_102 : decode cX5_run 102 = .ok (.iload_n 1, 1) := by decide +kernel
theorem dX5_run_103 : decode cX5_run 103 = .ok (.ireturn, 1) := by decide +kernel
theorem dX5_keep_0 : decode cX5_keep 0 = .ok (.iload_n 1, 1) := by decide +kernel
theorem dX5_keep_1 : decode cX5_keep 1 = .ok (.ifCond .lt 8, 3) := by decide +kernel
theorem dX5_keep_4 : decode cX5_keep 4 = .ok (.iload_n 1, 1) := by decide +kernel
theorem dX5_keep_5 : decode cX5_keep 5 = .ok (.iconst 2, 1) := by decide +kernel
theorem dX5_keep_6 : decode cX5_keep 6 = .ok (.if_icmp .lt 13, 3) := by decide +kernel
theorem dX5_keep_9 : decode cX5_keep 9 = .ok (.new 63, 3) := by decide +kernel
theorem dX5_keep_12 : decode cX5_keep 12 = .ok (.dup, 1) := by decide +kernel
theorem dX5_keep_13 : decode cX5_keep 13 = .ok (.ldc 168, 2) := by decide +kernel
theorem dX5_keep_15 : decode cX5_keep 15 = .ok (.invokespecial 67, 3) := by decide +kernel
theorem dX5_keep_18 : decode cX5_keep 18 = .ok (.athrow, 1) := by decide +kernel
theorem dX5_keep_19 : decode cX5_keep 19 = .ok (.aload_n 0, 1) := by decide +kernel
theorem dX5_keep_20 : decode cX5_keep 20 = .ok (.getfield 16, 3) := by decide +kernel
theorem dX5_keep_23 : decode cX5_keep 23 = .ok (.iload_n 1, 1) := by decide +kernel
theorem dX5_keep_24 : decode cX5_keep 24 = .ok (.aaload, 1) := by decide +kernel
theorem dX5_keep_25 : decode cX5_keep 25 = .ok (.aload_n 0, 1) := by decide +kernel
theorem dX5_keep_26 : decode cX5_keep 26 = .ok (.getfield 10, 3) := by decide +kernel
theorem dX5_keep_29 : decode cX5_keep 29 = .ok (.invokevirtual 170, 3) := by decide +kernel
theorem dX5_keep_32 : decode cX5_keep 32 = .ok (.aload_n 0, 1) := by decide +kernel
theorem dX5_keep_33 : decode cX5_keep 33 = .ok (.getfield 20, 3) := by decide +kernel
theorem dX5_keep_36 : decode cX5_keep 36 = .ok (.iload_n 1, 1) := by decide +kernel
theorem dX5_keep_37 : decode cX5_keep 37 = .ok (.iconst 1, 1) := by decide +kernel
theorem dX5_keep_38 : decode cX5_keep 38 = .ok (.bastore, 1) := by decide +kernel
theorem dX5_keep_39 : decode cX5_keep 39 = .ok (.aload_n 0, 1) := by decide +kernel
theorem dX5_keep_40 : decode cX5_keep 40 = .ok (.getfield 10, 3) := by decide +kernel
theorem dX5_keep_43 : decode cX5_keep 43 = .ok (.getfield 173, 3) := by decide +kernel
theorem dX5_keep_46 : decode cX5_keep 46 = .ok (.ireturn, 1) := by decide +kernel
theorem dX5_goBack_0 : decode cX5_goBack 0 = .ok (.iload_n 1, 1) := by decide +kernel
theorem dX5_goBack_1 : decode cX5_goBack 1 = .ok (.ifCond .lt 8, 3) := by decide +kernel
theorem dX5_goBack_4 : decode cX5_goBack 4 = .ok (.iload_n 1, 1) := by decide +kernel
theorem dX5_goBack_5 : decode cX5_goBack 5 = .ok (.iconst 2, 1) := by decide +kernel
theorem dX5_goBack_6 : decode cX5_goBack 6 = .ok (.if_icmp .lt 13, 3) := by decide +kernel
theorem dX5_goBack_9 : decode cX5_goBack 9 = .ok (.new 63, 3) := by decide +kernel
theorem dX5_goBack_12 : decode cX5_goBack 12 = .ok (.dup, 1) := by decide +kernel
theorem dX5_goBack_13 : decode cX5_goBack 13 = .ok (.ldc 168, 2) := by decide +kernel
theorem dX5_goBack_15 : decode cX5_goBack 15 = .ok (.invokespecial 67, 3) := by decide +kernel
theorem dX5_goBack_18 : decode cX5_goBack 18 = .ok (.athrow, 1) := by decide +kernel
theorem dX5_goBack_19 : decode cX5_goBack 19 = .ok (.aload_n 0, 1) := by decide +kernel
theorem dX5_goBack_20 : decode cX5_goBack 20 = .ok (.getfield 20, 3) := by decide +kernel
theorem dX5_goBack_23 : decode cX5_goBack 23 = .ok (.iload_n 1, 1) := by decide +kernel
theorem dX5_goBack_24 : decode cX5_goBack 24 = .ok (.baload, 1) := by decide +kernel
theorem dX5_goBack_25 : decode cX5_goBack 25 = .ok (.ifCond .ne 13, 3) := by decide +kernel
theorem dX5_goBack_28 : decode cX5_goBack 28 = .ok (.new 82, 3) := by decide +kernel
theorem dX5_goBack_31 : decode cX5_goBack 31 = .ok (.dup, 1) := by decide +kernel
theorem dX5_goBack_32 : decode cX5_goBack 32 = .ok (.ldc 176, 2) := by decide +kernel
theorem dX5_goBack_34 : decode cX5_goBack 34 = .ok (.invokespecial 86, 3) := by decide +kernel
theorem dX5_goBack_37 : decode cX5_goBack 37 = .ok (.athrow, 1) := by decide +kernel
theorem dX5_goBack_38 : decode cX5_goBack 38 = .ok (.aload_n 0, 1) := by decide +kernel
theorem dX5_goBack_39 : decode cX5_goBack 39 = .ok (.getfield 27, 3) := by decide +kernel
theorem dX5_goBack_42 : decode cX5_goBack 42 = .ok (.aload_n 0, 1) := by decide +kernel
theorem dX5_goBack_43 : decode cX5_goBack 43 = .ok (.getfield 10, 3) := by decide +kernel
theorem dX5_goBack_46 : decode cX5_goBack 46 = .ok (.invokevirtual 68, 3) := by decide +kernel
theorem dX5_goBack_49 : decode cX5_goBack 49 = .ok (.aload_n 0, 1) := by decide +kernel
theorem dX5_goBack_50 : decode cX5_goBack 50 = .ok (.getfield 10, 3) := by decide +kernel
theorem dX5_goBack_53 : decode cX5_goBack 53 = .ok (.aload_n 0, 1) := by decide +kernel
theorem dX5_goBack_54 : decode cX5_goBack 54 = .ok (.getfield 16, 3) := by decide +kernel
theorem dX5_goBack_57 : decode cX5_goBack 57 = .ok (.iload_n 1, 1) := by decide +kernel
theorem dX5_goBack_58 : decode cX5_goBack 58 = .ok (.aaload, 1) := by decide +kernel
theorem dX5_goBack_59 : decode cX5_goBack 59 = .ok (.invokevirtual 170, 3) := by decide +kernel
theorem dX5_goBack_62 : decode cX5_goBack 62 = .ok (.aload_n 0, 1) := by decide +kernel
theorem dX5_goBack_63 : decode cX5_goBack 63 = .ok (.getfield 10, 3) := by decide +kernel
theorem dX5_goBack_66 : decode cX5_goBack 66 = .ok (.getfield 173, 3) := by decide +kernel
theorem dX5_goBack_69 : decode cX5_goBack 69 = .ok (.ireturn, 1) := by decide +kernel
theorem dX5_undo_0 : decode cX5_undo 0 = .ok (.aload_n 0, 1) := by decide +kernel
theorem dX5_undo_1 : decode cX5_undo 1 = .ok (.getfield 27, 3) := by decide +kernel
theorem dX5_undo_4 : decode cX5_undo 4 = .ok (.getfield 178, 3) := by decide +kernel
theorem dX5_undo_7 : decode cX5_undo 7 = .ok (.ifCond .gt 13, 3) := by decide +kernel
theorem dX5_undo_10 : decode cX5_undo 10 = .ok (.new 82, 3) := by decide +kernel
theorem dX5_undo_13 : decode cX5_undo 13 = .ok (.dup, 1) := by decide +kernel
theorem dX5_undo_14 : decode cX5_undo 14 = .ok (.ldc 181, 2) := by decide +kernel
theorem dX5_undo_16 : decode cX5_undo 16 = .ok (.invokespecial 86, 3) := by decide +kernel
theorem dX5_undo_19 : decode cX5_undo 19 = .ok (.athrow, 1) := by decide +kernel
theorem dX5_undo_20 : decode cX5_undo 20 = .ok (.aload_n 0, 1) := by decide +kernel
theorem dX5_undo_21 : decode cX5_undo 21 = .ok (.getfield 27, 3) := by decide +kernel
theorem dX5_undo_24 : decode cX5_undo 24 = .ok (.aload_n 0, 1) := by decide +kernel
theorem dX5_undo_25 : decode cX5_undo 25 = .ok (.getfield 10, 3) := by decide +kernel
theorem dX5_undo_28 : decode cX5_undo 28 = .ok (.invokevirtual 183, 3) := by decide +kernel
theorem dX5_undo_31 : decode cX5_undo 31 = .ok (.aload_n 0, 1) := by decide +kernel
theorem dX5_undo_32 : decode cX5_undo 32 = .ok (.getfield 27, 3) := by decide +kernel
theorem dX5_undo_35 : decode cX5_undo 35 = .ok (.getfield 178, 3) := by decide +kernel
theorem dX5_undo_38 : decode cX5_undo 38 = .ok (.ireturn, 1) := by decide +kernel
theorem dX5_tower_0 : decode cX5_tower 0 = .ok (.iload_n 1, 1) := by decide +kernel
theorem dX5_tower_1 : decode cX5_tower 1 = .ok (.invokestatic 52, 3) := by decide +kernel
theorem dX5_tower_4 : decode cX5_tower 4 = .ok (.ifCond .ne 13, 3) := by decide +kernel
theorem dX5_tower_7 : decode cX5_tower 7 = .ok (.new 56, 3) := by decide +kernel
theorem dX5_tower_10 : decode cX5_tower 10 = .ok (.dup, 1) := by decide +kernel
theorem dX5_tower_11 : decode cX5_tower 11 = .ok (.ldc 58, 2) := by decide +kernel
theorem dX5_tower_13 : decode cX5_tower 13 = .ok (.invokespecial 60, 3) := by decide +kernel
theorem dX5_tower_16 : decode cX5_tower 16 = .ok (.athrow, 1) := by decide +kernel
theorem dX5_tower_17 : decode cX5_tower 17 = .ok (.iload_n 2, 1) := by decide +kernel
theorem dX5_tower_18 : decode cX5_tower 18 = .ok (.ifCond .lt 8, 3) := by decide +kernel
theorem dX5_tower_21 : decode cX5_tower 21 = .ok (.iload_n 2, 1) := by decide +kernel
theorem dX5_tower_22 : decode cX5_tower 22 = .ok (.iconst 4, 1) := by decide +kernel
theorem dX5_tower_23 : decode cX5_tower 23 = .ok (.if_icmp .lt 13, 3) := by decide +kernel
theorem dX5_tower_26 : decode cX5_tower 26 = .ok (.new 63, 3) := by decide +kernel
theorem dX5_tower_29 : decode cX5_tower 29 = .ok (.dup, 1) := by decide +kernel
theorem dX5_tower_30 : decode cX5_tower 30 = .ok (.ldc 186, 2) := by decide +kernel
theorem dX5_tower_32 : decode cX5_tower 32 = .ok (.invokespecial 67, 3) := by decide +kernel
theorem dX5_tower_35 : decode cX5_tower 35 = .ok (.athrow, 1) := by decide +kernel
theorem dX5_tower_36 : decode cX5_tower 36 = .ok (.aload_n 0, 1) := by decide +kernel
theorem dX5_tower_37 : decode cX5_tower 37 = .ok (.iload_n 1, 1) := by decide +kernel
theorem dX5_tower_38 : decode cX5_tower 38 = .ok (.iload_n 2, 1) := by decide +kernel
theorem dX5_tower_39 : decode cX5_tower 39 = .ok (.invokevirtual 188, 3) := by decide +kernel
theorem dX5_tower_42 : decode cX5_tower 42 = .ok (.ireturn, 1) := by decide +kernel
theorem dX5_playerOf_0 : decode cX5_playerOf 0 = .ok (.aload_n 0, 1) := by decide +kernel
theorem dX5_playerOf_1 : decode cX5_playerOf 1 = .ok (.getfield 10, 3) := by decide +kernel
theorem dX5_playerOf_4 : decode cX5_playerOf 4 = .ok (.iload_n 1, 1) := by decide +kernel
theorem dX5_playerOf_5 : decode cX5_playerOf 5 = .ok (.invokevirtual 124, 3) := by decide +kernel
theorem dX5_playerOf_8 : decode cX5_playerOf 8 = .ok (.ifCond .ne 13, 3) := by decide +kernel
theorem dX5_playerOf_11 : decode cX5_playerOf 11 = .ok (.new 56, 3) := by decide +kernel
theorem dX5_playerOf_14 : decode cX5_playerOf 14 = .ok (.dup, 1) := by decide +kernel
theorem dX5_playerOf_15 : decode cX5_playerOf 15 = .ok (.ldc 127, 2) := by decide +kernel
theorem dX5_playerOf_17 : decode cX5_playerOf 17 = .ok (.invokespecial 60, 3) := by decide +kernel
theorem dX5_playerOf_20 : decode cX5_playerOf 20 = .ok (.athrow, 1) := by decide +kernel
theorem dX5_playerOf_21 : decode cX5_playerOf 21 = .ok (.iload_n 2, 1) := by decide +kernel
theorem dX5_playerOf_22 : decode cX5_playerOf 22 = .ok (.ifCond .lt 9, 3) := by decide +kernel
theorem dX5_playerOf_25 : decode cX5_playerOf 25 = .ok (.iload_n 2, 1) := by decide +kernel
theorem dX5_playerOf_26 : decode cX5_playerOf 26 = .ok (.bipush 9, 2) := by decide +kernel
theorem dX5_playerOf_28 : decode cX5_playerOf 28 = .ok (.if_icmp .lt 13, 3) := by decide +kernel
theorem dX5_playerOf_31 : decode cX5_playerOf 31 = .ok (.new 63, 3) := by decide +kernel
theorem dX5_playerOf_34 : decode cX5_playerOf 34 = .ok (.dup, 1) := by decide +kernel
theorem dX5_playerOf_35 : decode cX5_playerOf 35 = .ok (.ldc 191, 2) := by decide +kernel
theorem dX5_playerOf_37 : decode cX5_playerOf 37 = .ok (.invokespecial 67, 3) := by decide +kernel
theorem dX5_playerOf_40 : decode cX5_playerOf 40 = .ok (.athrow, 1) := by decide +kernel
theorem dX5_playerOf_41 : decode cX5_playerOf 41 = .ok (.aload_n 0, 1) := by decide +kernel
theorem dX5_playerOf_42 : decode cX5_playerOf 42 = .ok (.iload_n 1, 1) := by decide +kernel
theorem dX5_playerOf_43 : decode cX5_playerOf 43 = .ok (.iload_n 2, 1) := by decide +kernel
theorem dX5_playerOf_44 : decode cX5_playerOf 44 = .ok (.invokevirtual 193, 3) := by decide +kernel
theorem dX5_playerOf_47 : decode cX5_playerOf 47 = .ok (.ireturn, 1) := by decide +kernel
theorem dX5_count_0 : decode cX5_count 0 = .ok (.iload_n 1, 1) := by decide +kernel
theorem dX5_count_1 : decode cX5_count 1 = .ok (.ifCond .lt 9, 3) := by decide +kernel
theorem dX5_count_4 : decode cX5_count 4 = .ok (.iload_n 1, 1) := by decide +kernel
theorem dX5_count_5 : decode cX5_count 5 = .ok (.bipush 11, 2) := by decide +kernel
theorem dX5_count_7 : decode cX5_count 7 = .ok (.if_icmp .lt 13, 3) := by decide +kernel
theorem dX5_count_10 : decode cX5_count 10 = .ok (.new 63, 3) := by decide +kernel
theorem dX5_count_13 : decode cX5_count 13 = .ok (.dup, 1) := by decide +kernel
theorem dX5_count_14 : decode cX5_count 14 = .ok (.ldc 196, 2) := by decide +kernel
theorem dX5_count_16 : decode cX5_count 16 = .ok (.invokespecial 67, 3) := by decide +kernel
theorem dX5_count_19 : decode cX5_count 19 = .ok (.athrow, 1) := by decide +kernel
theorem dX5_count_20 : decode cX5_count 20 = .ok (.aload_n 0, 1) := by decide +kernel
theorem dX5_count_21 : decode cX5_count 21 = .ok (.iload_n 1, 1) := by decide +kernel
theorem dX5_count_22 : decode cX5_count 22 = .ok (.invokevirtual 198, 3) := by decide +kernel
theorem dX5_count_25 : decode cX5_count 25 = .ok (.ireturn, 1) := by decide +kernel
theorem dX5_setting_0 : decode cX5_setting 0 = .ok (.iload_n 1, 1) := by decide +kernel
theorem dX5_setting_1 : decode cX5_setting 1 = .ok (.invokestatic 91, 3) := by decide +kernel
theorem dX5_setting_4 : decode cX5_setting 4 = .ok (.ifCond .ne 13, 3) := by decide +kernel
theorem dX5_setting_7 : decode cX5_setting 7 = .ok (.new 56, 3) := by decide +kernel
theorem dX5_setting_10 : decode cX5_setting 10 = .ok (.dup, 1) := by decide +kernel
theorem dX5_setting_11 : decode cX5_setting 11 = .ok (.ldc 94, 2) := by decide +kernel
theorem dX5_setting_13 : decode cX5_setting 13 = .ok (.invokespecial 60, 3) := by decide +kernel
theorem dX5_setting_16 : decode cX5_setting 16 = .ok (.athrow, 1) := by decide +kernel
theorem dX5_setting_17 : decode cX5_setting 17 = .ok (.aload_n 0, 1) := by decide +kernel
theorem dX5_setting_18 : decode cX5_setting 18 = .ok (.getfield 10, 3) := by decide +kernel
theorem dX5_setting_21 : decode cX5_setting 21 = .ok (.getfield 104, 3) := by decide +kernel
theorem dX5_setting_24 : decode cX5_setting 24 = .ok (.iload_n 1, 1) := by decide +kernel
theorem dX5_setting_25 : decode cX5_setting 25 = .ok (.iaload, 1) := by decide +kernel
theorem dX5_setting_26 : decode cX5_setting 26 = .ok (.ireturn, 1) := by decide +kernel
theorem dX5_price_0 : decode cX5_price 0 = .ok (.iload_n 1, 1) := by decide +kernel
theorem dX5_price_1 : decode cX5_price 1 = .ok (.invokestatic 52, 3) := by decide +kernel
theorem dX5_price_4 : decode cX5_price 4 = .ok (.ifCond .eq 10, 3) := by decide +kernel
theorem dX5_price_7 : decode cX5_price 7 = .ok (.iload_n 2, 1) := by decide +kernel
theorem dX5_price_8 : decode cX5_price 8 = .ok (.invokestatic 52, 3) := by decide +kernel
theorem dX5_price_11 : decode cX5_price 11 = .ok (.ifCond .ne 13, 3) := by decide +kernel
theorem dX5_price_14 : decode cX5_price 14 = .ok (.new 56, 3) := by decide +kernel
theorem dX5_price_17 : decode cX5_price 17 = .ok (.dup, 1) := by decide +kernel
theorem dX5_price_18 : decode cX5_price 18 = .ok (.ldc 58, 2) := by decide +kernel
theorem dX5_price_20 : decode cX5_price 20 = .ok (.invokespecial 60, 3) := by decide +kernel
theorem dX5_price_23 : decode cX5_price 23 = .ok (.athrow, 1) := by decide +kernel
theorem dX5_price_24 : decode cX5_price 24 = .ok (.iload_n 3, 1) := by decide +kernel
theorem dX5_price_25 : decode cX5_price 25 = .ok (.ifCond .eq 18, 3) := by decide +kernel
theorem dX5_price_28 : decode cX5_price 28 = .ok (.iload_n 3, 1) := by decide +kernel
theorem dX5_price_29 : decode cX5_price 29 = .ok (.iconst 1, 1) := by decide +kernel
theorem dX5_price_30 : decode cX5_price 30 = .ok (.if_icmp .eq 13, 3) := by decide +kernel
theorem dX5_price_33 : decode cX5_price 33 = .ok (.new 63, 3) := by decide +kernel
theorem dX5_price_36 : decode cX5_price 36 = .ok (.dup, 1) := by decide +kernel
theorem dX5_price_37 : decode cX5_price 37 = .ok (.ldc 201, 2) := by decide +kernel
theorem dX5_price_39 : decode cX5_price 39 = .ok (.invokespecial 67, 3) := by decide +kernel
theorem dX5_price_42 : decode cX5_price 42 = .ok (.athrow, 1) := by decide +kernel
theorem dX5_price_43 : decode cX5_price 43 = .ok (.aload_n 0, 1) := by decide +kernel
theorem dX5_price_44 : decode cX5_price 44 = .ok (.getfield 41, 3) := by decide +kernel
theorem dX5_price_47 : decode cX5_price 47 = .ok (.aload_n 0, 1) := by decide +kernel
theorem dX5_price_48 : decode cX5_price 48 = .ok (.getfield 10, 3) := by decide +kernel
theorem dX5_price_51 : decode cX5_price 51 = .ok (.invokevirtual 203, 3) := by decide +kernel
theorem dX5_price_54 : decode cX5_price 54 = .ok (.iload_n 3, 1) := by decide +kernel
theorem dX5_price_55 : decode cX5_price 55 = .ok (.ifCond .ne 15, 3) := by decide +kernel
theorem dX5_price_58 : decode cX5_price 58 = .ok (.aload_n 0, 1) := by decide +kernel
theorem dX5_price_59 : decode cX5_price 59 = .ok (.getfield 41, 3) := by decide +kernel
theorem dX5_price_62 : decode cX5_price 62 = .ok (.iload_n 1, 1) := by decide +kernel
theorem dX5_price_63 : decode cX5_price 63 = .ok (.iload_n 2, 1) := by decide +kernel
theorem dX5_price_64 : decode cX5_price 64 = .ok (.invokevirtual 206, 3) := by decide +kernel
theorem dX5_price_67 : decode cX5_price 67 = .ok (.goto 12, 3) := by decide +kernel
theorem dX5_price_70 : decode cX5_price 70 = .ok (.aload_n 0, 1) := by decide +kernel
theorem dX5_price_71 : decode cX5_price 71 = .ok (.getfield 41, 3) := by decide +kernel
theorem dX5_price_74 : decode cX5_price 74 = .ok (.iload_n 1, 1) := by decide +kernel
theorem dX5_price_75 : decode cX5_price 75 = .ok (.iload_n 2, 1) := by decide +kernel
theorem dX5_price_76 : decode cX5_price 76 = .ok (.invokevirtual 209, 3) := by decide +kernel
theorem dX5_price_79 : decode cX5_price 79 = .ok (.ireturn, 1) := by decide +kernel
theorem dX5_whyNot_0 : decode cX5_whyNot 0 = .ok (.aload_n 0, 1) := by decide +kernel
theorem dX5_whyNot_1 : decode cX5_whyNot 1 = .ok (.getfield 10, 3) := by decide +kernel
theorem dX5_whyNot_4 : decode cX5_whyNot 4 = .ok (.iload_n 1, 1) := by decide +kernel
theorem dX5_whyNot_5 : decode cX5_whyNot 5 = .ok (.invokevirtual 124, 3) := by decide +kernel
theorem dX5_whyNot_8 : decode cX5_whyNot 8 = .ok (.ifCond .eq 10, 3) := by decide +kernel
theorem dX5_whyNot_11 : decode cX5_whyNot 11 = .ok (.iload_n 2, 1) := by decide +kernel
theorem dX5_whyNot_12 : decode cX5_whyNot 12 = .ok (.invokestatic 52, 3) := by decide +kernel
theorem dX5_whyNot_15 : decode cX5_whyNot 15 = .ok (.ifCond .ne 13, 3) := by decide +kernel
theorem dX5_whyNot_18 : decode cX5_whyNot 18 = .ok (.new 56, 3) := by decide +kernel
theorem dX5_whyNot_21 : decode cX5_whyNot 21 = .ok (.dup, 1) := by decide +kernel
theorem dX5_whyNot_22 : decode cX5_whyNot 22 = .ok (.ldc 212, 2) := by decide +kernel
theorem dX5_whyNot_24 : decode cX5_whyNot 24 = .ok (.invokespecial 60, 3) := by decide +kernel
theorem dX5_whyNot_27 : decode cX5_whyNot 27 = .ok (.athrow, 1) := by decide +kernel
theorem dX5_whyNot_28 : decode cX5_whyNot 28 = .ok (.aload_n 0, 1) := by decide +kernel
theorem dX5_whyNot_29 : decode cX5_whyNot 29 = .ok (.getfield 10, 3) := by decide +kernel
theorem dX5_whyNot_32 : decode cX5_whyNot 32 = .ok (.iload_n 1, 1) := by decide +kernel
theorem dX5_whyNot_33 : decode cX5_whyNot 33 = .ok (.iload_n 2, 1) := by decide +kernel
theorem dX5_whyNot_34 : decode cX5_whyNot 34 = .ok (.invokevirtual 214, 3) := by decide +kernel
theorem dX5_whyNot_37 : decode cX5_whyNot 37 = .ok (.ireturn, 1) := by decide +kernel
theorem dX5_movesTo_0 : decode cX5_movesTo 0 = .ok (.aload_n 0, 1) := by decide +kernel
theorem dX5_movesTo_1 : decode cX5_movesTo 1 = .ok (.getfield 10, 3) := by decide +kernel
theorem dX5_movesTo_4 : decode cX5_movesTo 4 = .ok (.iload_n 1, 1) := by decide +kernel
theorem dX5_movesTo_5 : decode cX5_movesTo 5 = .ok (.invokevirtual 124, 3) := by decide +kernel
theorem dX5_movesTo_8 : decode cX5_movesTo 8 = .ok (.ifCond .eq 10, 3) := by decide +kernel
theorem dX5_movesTo_11 : decode cX5_movesTo 11 = .ok (.iload_n 2, 1) := by decide +kernel
theorem dX5_movesTo_12 : decode cX5_movesTo 12 = .ok (.invokestatic 52, 3) := by decide +kernel
theorem dX5_movesTo_15 : decode cX5_movesTo 15 = .ok (.ifCond .ne 13, 3) := by decide +kernel
theorem dX5_movesTo_18 : decode cX5_movesTo 18 = .ok (.new 56, 3) := by decide +kernel
theorem dX5_movesTo_21 : decode cX5_movesTo 21 = .ok (.dup, 1) := by decide +kernel
theorem dX5_movesTo_22 : decode cX5_movesTo 22 = .ok (.ldc 212, 2) := by decide +kernel
theorem dX5_movesTo_24 : decode cX5_movesTo 24 = .ok (.invokespecial 60, 3) := by decide +kernel
theorem dX5_movesTo_27 : decode cX5_movesTo 27 = .ok (.athrow, 1) := by decide +kernel
theorem dX5_movesTo_28 : decode cX5_movesTo 28 = .ok (.aload_n 0, 1) := by decide +kernel
theorem dX5_movesTo_29 : decode cX5_movesTo 29 = .ok (.getfield 41, 3) := by decide +kernel
theorem dX5_movesTo_32 : decode cX5_movesTo 32 = .ok (.aload_n 0, 1) := by decide +kernel
theorem dX5_movesTo_33 : decode cX5_movesTo 33 = .ok (.getfield 10, 3) := by decide +kernel
theorem dX5_movesTo_36 : decode cX5_movesTo 36 = .ok (.invokevirtual 203, 3) := by decide +kernel
theorem dX5_movesTo_39 : decode cX5_movesTo 39 = .ok (.aload_n 0, 1) := by decide +kernel
theorem dX5_movesTo_40 : decode cX5_movesTo 40 = .ok (.getfield 48, 3) := by decide +kernel
theorem dX5_movesTo_43 : decode cX5_movesTo 43 = .ok (.aload_n 0, 1) := by decide +kernel
theorem dX5_movesTo_44 : decode cX5_movesTo 44 = .ok (.getfield 10, 3) := by decide +kernel
theorem dX5_movesTo_47 : decode cX5_movesTo 47 = .ok (.aload_n 0, 1) := by decide +kernel
theorem dX5_movesTo_48 : decode cX5_movesTo 48 = .ok (.getfield 41, 3) := by decide +kernel
theorem dX5_movesTo_51 : decode cX5_movesTo 51 = .ok (.iload_n 1, 1) := by decide +kernel
theorem dX5_movesTo_52 : decode cX5_movesTo 52 = .ok (.iload_n 2, 1) := by decide +kernel
theorem dX5_movesTo_53 : decode cX5_movesTo 53 = .ok (.invokevirtual 217, 3) := by decide +kernel
theorem dX5_movesTo_56 : decode cX5_movesTo 56 = .ok (.ireturn, 1) := by decide +kernel
theorem dX5_prey_0 : decode cX5_prey 0 = .ok (.aload_n 0, 1) := by decide +kernel
theorem dX5_prey_1 : decode cX5_prey 1 = .ok (.getfield 10, 3) := by decide +kernel
theorem dX5_prey_4 : decode cX5_prey 4 = .ok (.invokevirtual 221, 3) := by decide +kernel
theorem dX5_prey_7 : decode cX5_prey 7 = .ok (.ireturn, 1) := by decide +kernel
theorem dX5_lookout_0 : decode cX5_lookout 0 = .ok (.aload_n 0, 1) := by decide +kernel
theorem dX5_lookout_1 : decode cX5_lookout 1 = .ok (.getfield 10, 3) := by decide +kernel
theorem dX5_lookout_4 : decode cX5_lookout 4 = .ok (.invokevirtual 224, 3) := by decide +kernel
theorem dX5_lookout_7 : decode cX5_lookout 7 = .ok (.ireturn, 1) := by decide +kernel
theorem dX5_belowShare_0 : decode cX5_belowShare 0 = .ok (.aload_n 0, 1) := by decide +kernel
theorem dX5_belowShare_1 : decode cX5_belowShare 1 = .ok (.getfield 10, 3) := by decide +kernel
theorem dX5_belowShare_4 : decode cX5_belowShare 4 = .ok (.invokevirtual 227, 3) := by decide +kernel
theorem dX5_belowShare_7 : decode cX5_belowShare 7 = .ok (.dreturn, 1) := by decide +kernel
theorem dX5_digest_0 : decode cX5_digest 0 = .ok (.ldc2_w 231, 3) := by decide +kernel
theorem dX5_digest_3 : decode cX5_digest 3 = .ok (.lstore_n 1, 1) := by decide +kernel
theorem dX5_digest_4 : decode cX5_digest 4 = .ok (.iconst 0, 1) := by decide +kernel
theorem dX5_digest_5 : decode cX5_digest 5 = .ok (.istore_n 3, 1) := by decide +kernel
theorem dX5_digest_6 : decode cX5_digest 6 = .ok (.iload_n 3, 1) := by decide +kernel
theorem dX5_digest_7 : decode cX5_digest 7 = .ok (.bipush 11, 2) := by decide +kernel
theorem dX5_digest_9 : decode cX5_digest 9 = .ok (.if_icmp .ge 22, 3) := by decide +kernel
theorem dX5_digest_12 : decode cX5_digest 12 = .ok (.ldc2_w 233, 3) := by decide +kernel
theorem dX5_digest_15 : decode cX5_digest 15 = .ok (.lload_n 1, 1) := by decide +kernel
theorem dX5_digest_16 : decode cX5_digest 16 = .ok (.lmul, 1) := by decide +kernel
theorem dX5_digest_17 : decode cX5_digest 17 = .ok (.aload_n 0, 1) := by decide +kernel
theorem dX5_digest_18 : decode cX5_digest 18 = .ok (.iload_n 3, 1) := by decide +kernel
theorem dX5_digest_19 : decode cX5_digest 19 = .ok (.invokevirtual 198, 3) := by decide +kernel
theorem dX5_digest_22 : decode cX5_digest 22 = .ok (.i2l, 1) := by decide +kernel
theorem dX5_digest_23 : decode cX5_digest 23 = .ok (.ladd, 1) := by decide +kernel
theorem dX5_digest_24 : decode cX5_digest 24 = .ok (.lstore_n 1, 1) := by decide +kernel
theorem dX5_digest_25 : decode cX5_digest 25 = .ok (.iinc 3 1, 3) := by decide +kernel
theorem dX5_digest_28 : decode cX5_digest 28 = .ok (.goto (-22), 3) := by decide +kernel
theorem dX5_digest_31 : decode cX5_digest 31 = .ok (.iconst 0, 1) := by decide +kernel
theorem dX5_digest_32 : decode cX5_digest 32 = .ok (.istore_n 3, 1) := by decide +kernel
theorem dX5_digest_33 : decode cX5_digest 33 = .ok (.iload_n 3, 1) := by decide +kernel
theorem dX5_digest_34 : decode cX5_digest 34 = .ok (.iconst 4, 1) := by decide +kernel
theorem dX5_digest_35 : decode cX5_digest 35 = .ok (.if_icmp .ge 26, 3) := by decide +kernel
theorem dX5_digest_38 : decode cX5_digest 38 = .ok (.ldc2_w 233, 3) := by decide +kernel
theorem dX5_digest_41 : decode cX5_digest 41 = .ok (.lload_n 1, 1) := by decide +kernel
theorem dX5_digest_42 : decode cX5_digest 42 = .ok (.lmul, 1) := by decide +kernel
theorem dX5_digest_43 : decode cX5_digest 43 = .ok (.aload_n 0, 1) := by decide +kernel
theorem dX5_digest_44 : decode cX5_digest 44 = .ok (.getfield 10, 3) := by decide +kernel
theorem dX5_digest_47 : decode cX5_digest 47 = .ok (.getfield 104, 3) := by decide +kernel
theorem dX5_digest_50 : decode cX5_digest 50 = .ok (.iload_n 3, 1) := by decide +kernel
theorem dX5_digest_51 : decode cX5_digest 51 = .ok (.iaload, 1) := by decide +kernel
theorem dX5_digest_52 : decode cX5_digest 52 = .ok (.i2l, 1) := by decide +kernel
theorem dX5_digest_53 : decode cX5_digest 53 = .ok (.ladd, 1) := by decide +kernel
theorem dX5_digest_54 : decode cX5_digest 54 = .ok (.lstore_n 1, 1) := by decide +kernel
theorem dX5_digest_55 : decode cX5_digest 55 = .ok (.iinc 3 1, 3) := by decide +kernel
theorem dX5_digest_58 : decode cX5_digest 58 = .ok (.goto (-25), 3) := by decide +kernel
theorem dX5_digest_61 : decode cX5_digest 61 = .ok (.aload_n 0, 1) := by decide +kernel
theorem dX5_digest_62 : decode cX5_digest 62 = .ok (.getfield 41, 3) := by decide +kernel
theorem dX5_digest_65 : decode cX5_digest 65 = .ok (.aload_n 0, 1) := by decide +kernel
theorem dX5_digest_66 : decode cX5_digest 66 = .ok (.getfield 10, 3) := by decide +kernel
theorem dX5_digest_69 : decode cX5_digest 69 = .ok (.invokevirtual 203, 3) := by decide +kernel
theorem dX5_digest_72 : decode cX5_digest 72 = .ok (.aload_n 0, 1) := by decide +kernel
theorem dX5_digest_73 : decode cX5_digest 73 = .ok (.lload_n 1, 1) := by decide +kernel
theorem dX5_digest_74 : decode cX5_digest 74 = .ok (.invokevirtual 235, 3) := by decide +kernel
theorem dX5_digest_77 : decode cX5_digest 77 = .ok (.lstore_n 1, 1) := by decide +kernel
theorem dX5_digest_78 : decode cX5_digest 78 = .ok (.iconst 0, 1) := by decide +kernel
theorem dX5_digest_79 : decode cX5_digest 79 = .ok (.istore_n 3, 1) := by decide +kernel
theorem dX5_digest_80 : decode cX5_digest 80 = .ok (.iload_n 3, 1) := by decide +kernel
theorem dX5_digest_81 : decode cX5_digest 81 = .ok (.aload_n 0, 1) := by decide +kernel
theorem dX5_digest_82 : decode cX5_digest 82 = .ok (.getfield 10, 3) := by decide +kernel
theorem dX5_digest_85 : decode cX5_digest 85 = .ok (.getfield 78, 3) := by decide +kernel
theorem dX5_digest_88 : decode cX5_digest 88 = .ok (.if_icmp .ge 16, 3) := by decide +kernel
theorem dX5_digest_91 : decode cX5_digest 91 = .ok (.aload_n 0, 1) := by decide +kernel
theorem dX5_digest_92 : decode cX5_digest 92 = .ok (.lload_n 1, 1) := by decide +kernel
theorem dX5_digest_93 : decode cX5_digest 93 = .ok (.iload_n 3, 1) := by decide +kernel
theorem dX5_digest_94 : decode cX5_digest 94 = .ok (.invokevirtual 239, 3) := by decide +kernel
theorem dX5_digest_97 : decode cX5_digest 97 = .ok (.lstore_n 1, 1) := by decide +kernel
theorem dX5_digest_98 : decode cX5_digest 98 = .ok (.iinc 3 1, 3) := by decide +kernel
theorem dX5_digest_101 : decode cX5_digest 101 = .ok (.goto (-21), 3) := by decide +kernel
theorem dX5_digest_104 : decode cX5_digest 104 = .ok (.ldc2_w 233, 3) := by decide +kernel
theorem dX5_digest_107 : decode cX5_digest 107 = .ok (.lload_n 1, 1) := by decide +kernel
theorem dX5_digest_108 : decode cX5_digest 108 = .ok (.lmul, 1) := by decide +kernel
theorem dX5_digest_109 : decode cX5_digest 109 = .ok (.aload_n 0, 1) := by decide +kernel
theorem dX5_digest_110 : decode cX5_digest 110 = .ok (.getfield 10, 3) := by decide +kernel
theorem dX5_digest_113 : decode cX5_digest 113 = .ok (.invokevirtual 221, 3) := by decide +kernel
theorem dX5_digest_116 : decode cX5_digest 116 = .ok (.i2l, 1) := by decide +kernel
theorem dX5_digest_117 : decode cX5_digest 117 = .ok (.ladd, 1) := by decide +kernel
theorem dX5_digest_118 : decode cX5_digest 118 = .ok (.lstore_n 1, 1) := by decide +kernel
theorem dX5_digest_119 : decode cX5_digest 119 = .ok (.ldc2_w 233, 3) := by decide +kernel
theorem dX5_digest_122 : decode cX5_digest 122 = .ok (.lload_n 1, 1) := by decide +kernel
theorem dX5_digest_123 : decode cX5_digest 123 = .ok (.lmul, 1) := by decide +kernel
theorem dX5_digest_124 : decode cX5_digest 124 = .ok (.aload_n 0, 1) := by decide +kernel
theorem dX5_digest_125 : decode cX5_digest 125 = .ok (.getfield 10, 3) := by decide +kernel
theorem dX5_digest_128 : decode cX5_digest 128 = .ok (.invokevirtual 224, 3) := by decide +kernel
theorem dX5_digest_131 : decode cX5_digest 131 = .ok (.i2l, 1) := by decide +kernel
theorem dX5_digest_132 : decode cX5_digest 132 = .ok (.ladd, 1) := by decide +kernel
theorem dX5_digest_133 : decode cX5_digest 133 = .ok (.lstore_n 1, 1) := by decide +kernel
theorem dX5_digest_134 : decode cX5_digest 134 = .ok (.ldc2_w 233, 3) := by decide +kernel
theorem dX5_digest_137 : decode cX5_digest 137 = .ok (.lload_n 1, 1) := by decide +kernel
theorem dX5_digest_138 : decode cX5_digest 138 = .ok (.lmul, 1) := by decide +kernel
theorem dX5_digest_139 : decode cX5_digest 139 = .ok (.aload_n 0, 1) := by decide +kernel
theorem dX5_digest_140 : decode cX5_digest 140 = .ok (.getfield 10, 3) := by decide +kernel
theorem dX5_digest_143 : decode cX5_digest 143 = .ok (.invokevirtual 227, 3) := by decide +kernel
theorem dX5_digest_146 : decode cX5_digest 146 = .ok (.invokestatic 243, 3) := by decide +kernel
theorem dX5_digest_149 : decode cX5_digest 149 = .ok (.ladd, 1) := by decide +kernel
theorem dX5_digest_150 : decode cX5_digest 150 = .ok (.lstore_n 1, 1) := by decide +kernel
theorem dX5_digest_151 : decode cX5_digest 151 = .ok (.iconst 0, 1) := by decide +kernel
theorem dX5_digest_152 : decode cX5_digest 152 = .ok (.istore_n 3, 1) := by decide +kernel
theorem dX5_digest_153 : decode cX5_digest 153 = .ok (.iload_n 3, 1) := by decide +kernel
theorem dX5_digest_154 : decode cX5_digest 154 = .ok (.iconst 2, 1) := by decide +kernel
theorem dX5_digest_155 : decode cX5_digest 155 = .ok (.if_icmp .ge 30, 3) := by decide +kernel
theorem dX5_digest_158 : decode cX5_digest 158 = .ok (.ldc2_w 233, 3) := by decide +kernel
theorem dX5_digest_161 : decode cX5_digest 161 = .ok (.lload_n 1, 1) := by decide +kernel
theorem dX5_digest_162 : decode cX5_digest 162 = .ok (.lmul, 1) := by decide +kernel
theorem dX5_digest_163 : decode cX5_digest 163 = .ok (.aload_n 0, 1) := by decide +kernel
theorem dX5_digest_164 : decode cX5_digest 164 = .ok (.getfield 20, 3) := by decide +kernel
theorem dX5_digest_167 : decode cX5_digest 167 = .ok (.iload_n 3, 1) := by decide +kernel
theorem dX5_digest_168 : decode cX5_digest 168 = .ok (.baload, 1) := by decide +kernel
theorem dX5_digest_169 : decode cX5_digest 169 = .ok (.ifCond .eq 7, 3) := by decide +kernel
theorem dX5_digest_172 : decode cX5_digest 172 = .ok (.lconst 1, 1) := by decide +kernel
theorem dX5_digest_173 : decode cX5_digest 173 = .ok (.goto 4, 3) := by decide +kernel
theorem dX5_digest_176 : decode cX5_digest 176 = .ok (.lconst 0, 1) := by decide +kernel
theorem dX5_digest_177 : decode cX5_digest 177 = .ok (.ladd, 1) := by decide +kernel
theorem dX5_digest_178 : decode cX5_digest 178 = .ok (.lstore_n 1, 1) := by decide +kernel
theorem dX5_digest_179 : decode cX5_digest 179 = .ok (.iinc 3 1, 3) := by decide +kernel
theorem dX5_digest_182 : decode cX5_digest 182 = .ok (.goto (-29), 3) := by decide +kernel
theorem dX5_digest_185 : decode cX5_digest 185 = .ok (.ldc2_w 233, 3) := by decide +kernel
theorem dX5_digest_188 : decode cX5_digest 188 = .ok (.lload_n 1, 1) := by decide +kernel
theorem dX5_digest_189 : decode cX5_digest 189 = .ok (.lmul, 1) := by decide +kernel
theorem dX5_digest_190 : decode cX5_digest 190 = .ok (.aload_n 0, 1) := by decide +kernel
theorem dX5_digest_191 : decode cX5_digest 191 = .ok (.getfield 34, 3) := by decide +kernel
theorem dX5_digest_194 : decode cX5_digest 194 = .ok (.getfield 136, 3) := by decide +kernel
theorem dX5_digest_197 : decode cX5_digest 197 = .ok (.i2l, 1) := by decide +kernel
theorem dX5_digest_198 : decode cX5_digest 198 = .ok (.ladd, 1) := by decide +kernel
theorem dX5_digest_199 : decode cX5_digest 199 = .ok (.lstore_n 1, 1) := by decide +kernel
theorem dX5_digest_200 : decode cX5_digest 200 = .ok (.iconst 0, 1) := by decide +kernel
theorem dX5_digest_201 : decode cX5_digest 201 = .ok (.istore_n 3, 1) := by decide +kernel
theorem dX5_digest_202 : decode cX5_digest 202 = .ok (.iload_n 3, 1) := by decide +kernel
theorem dX5_digest_203 : decode cX5_digest 203 = .ok (.aload_n 0, 1) := by decide +kernel
theorem dX5_digest_204 : decode cX5_digest 204 = .ok (.getfield 34, 3) := by decide +kernel
theorem dX5_digest_207 : decode cX5_digest 207 = .ok (.getfield 136, 3) := by decide +kernel
theorem dX5_digest_210 : decode cX5_digest 210 = .ok (.if_icmp .ge 25, 3) := by decide +kernel
theorem dX5_digest_213 : decode cX5_digest 213 = .ok (.ldc2_w 233, 3) := by decide +kernel
theorem dX5_digest_216 : decode cX5_digest 216 = .ok (.lload_n 1, 1) := by decide +kernel
theorem dX5_digest_217 : decode cX5_digest 217 = .ok (.lmul, 1) := by decide +kernel
theorem dX5_digest_218 : decode cX5_digest 218 = .ok (.aload_n 0, 1) := by decide +kernel
theorem dX5_digest_219 : decode cX5_digest 219 = .ok (.getfield 34, 3) := by decide +kernel
theorem dX5_digest_222 : decode cX5_digest 222 = .ok (.iload_n 3, 1) := by decide +kernel
theorem dX5_digest_223 : decode cX5_digest 223 = .ok (.invokevirtual 155, 3) := by decide +kernel
theorem dX5_digest_226 : decode cX5_digest 226 = .ok (.i2l, 1) := by decide +kernel
theorem dX5_digest_227 : decode cX5_digest 227 = .ok (.ladd, 1) := by decide +kernel
theorem dX5_digest_228 : decode cX5_digest 228 = .ok (.lstore_n 1, 1) := by decide +kernel
theorem dX5_digest_229 : decode cX5_digest 229 = .ok (.iinc 3 1, 3) := by decide +kernel
theorem dX5_digest_232 : decode cX5_digest 232 = .ok (.goto (-30), 3) := by decide +kernel
theorem dX5_digest_235 : decode cX5_digest 235 = .ok (.lload_n 1, 1) := by decide +kernel
theorem dX5_digest_236 : decode cX5_digest 236 = .ok (.lreturn, 1) := by decide +kernel
theorem dX5_isTower_0 : decode cX5_isTower 0 = .ok (.iload_n 0, 1) := by decide +kernel
theorem dX5_isTower_1 : decode cX5_isTower 1 = .ok (.ifCond .lt 13, 3) := by decide +kernel
theorem dX5_isTower_4 : decode cX5_isTower 4 = .ok (.iload_n 0, 1) := by decide +kernel
theorem dX5_isTower_5 : decode cX5_isTower 5 = .ok (.bipush 10, 2) := by decide +kernel
theorem dX5_isTower_7 : decode cX5_isTower 7 = .ok (.if_icmp .ge 7, 3) := by decide +kernel
theorem dX5_isTower_10 : decode cX5_isTower 10 = .ok (.iconst 1, 1) := by decide +kernel
theorem dX5_isTower_11 : decode cX5_isTower 11 = .ok (.goto 4, 3) := by decide +kernel
theorem dX5_isTower_14 : decode cX5_isTower 14 = .ok (.iconst 0, 1) := by decide +kernel
theorem dX5_isTower_15 : decode cX5_isTower 15 = .ok (.ireturn, 1) := by decide +kernel
theorem dX5_isSetting_0 : decode cX5_isSetting 0 = .ok (.iload_n 0, 1) := by decide +kernel
theorem dX5_isSetting_1 : decode cX5_isSetting 1 = .ok (.ifCond .lt 12, 3) := by decide +kernel
theorem dX5_isSetting_4 : decode cX5_isSetting 4 = .ok (.iload_n 0, 1) := by decide +kernel
theorem dX5_isSetting_5 : decode cX5_isSetting 5 = .ok (.iconst 4, 1) := by decide +kernel
theorem dX5_isSetting_6 : decode cX5_isSetting 6 = .ok (.if_icmp .ge 7, 3) := by decide +kernel
theorem dX5_isSetting_9 : decode cX5_isSetting 9 = .ok (.iconst 1, 1) := by decide +kernel
theorem dX5_isSetting_10 : decode cX5_isSetting 10 = .ok (.goto 4, 3) := by decide +kernel
theorem dX5_isSetting_13 : decode cX5_isSetting 13 = .ok (.iconst 0, 1) := by decide +kernel
theorem dX5_isSetting_14 : decode cX5_isSetting 14 = .ok (.ireturn, 1) := by decide +kernel
theorem dX5_playMove_0 : decode cX5_playMove 0 = .ok (.aload_n 0, 1) := by decide +kernel
theorem dX5_playMove_1 : decode cX5_playMove 1 = .ok (.getfield 10, 3) := by decide +kernel
theorem dX5_playMove_4 : decode cX5_playMove 4 = .ok (.invokevirtual 107, 3) := by decide +kernel
theorem dX5_playMove_7 : decode cX5_playMove 7 = .ok (.ifCond .ne 5, 3) := by decide +kernel
theorem dX5_playMove_10 : decode cX5_playMove 10 = .ok (.iconst 0, 1) := by decide +kernel
theorem dX5_playMove_11 : decode cX5_playMove 11 = .ok (.ireturn, 1) := by decide +kernel
theorem dX5_playMove_12 : decode cX5_playMove 12 = .ok (.iload_n 1, 1) := by decide +kernel
theorem dX5_playMove_13 : decode cX5_playMove 13 = .ok (.lookupswitch 85 #[(111, 45), (115, 61), (119, 35)], 35) := by decide +kernel
theorem dX5_playMove_48 : decode cX5_playMove 48 = .ok (.aload_n 0, 1) := by decide +kernel
theorem dX5_playMove_49 : decode cX5_playMove 49 = .ok (.getfield 10, 3) := by decide +kernel
theorem dX5_playMove_52 : decode cX5_playMove 52 = .ok (.invokevirtual 113, 3) := by decide +kernel
theorem dX5_playMove_55 : decode cX5_playMove 55 = .ok (.pop, 1) := by decide +kernel
theorem dX5_playMove_56 : decode cX5_playMove 56 = .ok (.iconst 1, 1) := by decide +kernel
theorem dX5_playMove_57 : decode cX5_playMove 57 = .ok (.ireturn, 1) := by decide +kernel
theorem dX5_playMove_58 : decode cX5_playMove 58 = .ok (.aload_n 0, 1) := by decide +kernel
theorem dX5_playMove_59 : decode cX5_playMove 59 = .ok (.getfield 10, 3) := by decide +kernel
theorem dX5_playMove_62 : decode cX5_playMove 62 = .ok (.invokevirtual 121, 3) := by decide +kernel
theorem dX5_playMove_65 : decode cX5_playMove 65 = .ok (.ifCond .ne 7, 3) := by decide +kernel
theorem dX5_playMove_68 : decode cX5_playMove 68 = .ok (.iconst 1, 1) := by decide +kernel
theorem dX5_playMove_69 : decode cX5_playMove 69 = .ok (.goto 4, 3) := by decide +kernel
theorem dX5_playMove_72 : decode cX5_playMove 72 = .ok (.iconst 0, 1) := by decide +kernel
theorem dX5_playMove_73 : decode cX5_playMove 73 = .ok (.ireturn, 1) := by decide +kernel
theorem dX5_playMove_74 : decode cX5_playMove 74 = .ok (.iload_n 2, 1) := by decide +kernel
theorem dX5_playMove_75 : decode cX5_playMove 75 = .ok (.invokestatic 52, 3) := by decide +kernel
theorem dX5_playMove_78 : decode cX5_playMove 78 = .ok (.ifCond .eq 18, 3) := by decide +kernel
theorem dX5_playMove_81 : decode cX5_playMove 81 = .ok (.aload_n 0, 1) := by decide +kernel
theorem dX5_playMove_82 : decode cX5_playMove 82 = .ok (.getfield 10, 3) := by decide +kernel
theorem dX5_playMove_85 : decode cX5_playMove 85 = .ok (.iload_n 2, 1) := by decide +kernel
theorem dX5_playMove_86 : decode cX5_playMove 86 = .ok (.invokevirtual 117, 3) := by decide +kernel
theorem dX5_playMove_89 : decode cX5_playMove 89 = .ok (.ifCond .ne 7, 3) := by decide +kernel
theorem dX5_playMove_92 : decode cX5_playMove 92 = .ok (.iconst 1, 1) := by decide +kernel
theorem dX5_playMove_93 : decode cX5_playMove 93 = .ok (.goto 4, 3) := by decide +kernel
theorem dX5_playMove_96 : decode cX5_playMove 96 = .ok (.iconst 0, 1) := by decide +kernel
theorem dX5_playMove_97 : decode cX5_playMove 97 = .ok (.ireturn, 1) := by decide +kernel
theorem dX5_playMove_98 : decode cX5_playMove 98 = .ok (.aload_n 0, 1) := by decide +kernel
theorem dX5_playMove_99 : decode cX5_playMove 99 = .ok (.getfield 10, 3) := by decide +kernel
theorem dX5_playMove_102 : decode cX5_playMove 102 = .ok (.iload_n 2, 1) := by decide +kernel
theorem dX5_playMove_103 : decode cX5_playMove 103 = .ok (.invokevirtual 124, 3) := by decide +kernel
theorem dX5_playMove_106 : decode cX5_playMove 106 = .ok (.ifCond .eq 18, 3) := by decide +kernel
theorem dX5_playMove_109 : decode cX5_playMove 109 = .ok (.aload_n 0, 1) := by decide +kernel
theorem dX5_playMove_110 : decode cX5_playMove 110 = .ok (.getfield 10, 3) := by decide +kernel
theorem dX5_playMove_113 : decode cX5_playMove 113 = .ok (.iload_n 2, 1) := by decide +kernel
theorem dX5_playMove_114 : decode cX5_playMove 114 = .ok (.invokevirtual 131, 3) := by decide +kernel
theorem dX5_playMove_117 : decode cX5_playMove 117 = .ok (.ifCond .ne 7, 3) := by decide +kernel
theorem dX5_playMove_120 : decode cX5_playMove 120 = .ok (.iconst 1, 1) := by decide +kernel
theorem dX5_playMove_121 : decode cX5_playMove 121 = .ok (.goto 4, 3) := by decide +kernel
theorem dX5_playMove_124 : decode cX5_playMove 124 = .ok (.iconst 0, 1) := by decide +kernel
theorem dX5_playMove_125 : decode cX5_playMove 125 = .ok (.ireturn, 1) := by decide +kernel
theorem dX5_towerProperty_0 : decode cX5_towerProperty 0 = .ok (.iload_n 2, 1) := by decide +kernel
theorem dX5_towerProperty_1 : decode cX5_towerProperty 1 = .ok (.tableswitch 56 0 2 #[27, 37, 47], 27) := by decide +kernel
theorem dX5_towerProperty_28 : decode cX5_towerProperty 28 = .ok (.aload_n 0, 1) := by decide +kernel
theorem dX5_towerProperty_29 : decode cX5_towerProperty 29 = .ok (.getfield 10, 3) := by decide +kernel
theorem dX5_towerProperty_32 : decode cX5_towerProperty 32 = .ok (.getfield 72, 3) := by decide +kernel
theorem dX5_towerProperty_35 : decode cX5_towerProperty 35 = .ok (.iload_n 1, 1) := by decide +kernel
theorem dX5_towerProperty_36 : decode cX5_towerProperty 36 = .ok (.iaload, 1) := by decide +kernel
theorem dX5_towerProperty_37 : decode cX5_towerProperty 37 = .ok (.ireturn, 1) := by decide +kernel
theorem dX5_towerProperty_38 : decode cX5_towerProperty 38 = .ok (.aload_n 0, 1) := by decide +kernel
theorem dX5_towerProperty_39 : decode cX5_towerProperty 39 = .ok (.getfield 10, 3) := by decide +kernel
theorem dX5_towerProperty_42 : decode cX5_towerProperty 42 = .ok (.getfield 247, 3) := by decide +kernel
theorem dX5_towerProperty_45 : decode cX5_towerProperty 45 = .ok (.iload_n 1, 1) := by decide +kernel
theorem dX5_towerProperty_46 : decode cX5_towerProperty 46 = .ok (.iaload, 1) := by decide +kernel
theorem dX5_towerProperty_47 : decode cX5_towerProperty 47 = .ok (.ireturn, 1) := by decide +kernel
theorem dX5_towerProperty_48 : decode cX5_towerProperty 48 = .ok (.aload_n 0, 1) := by decide +kernel
theorem dX5_towerProperty_49 : decode cX5_towerProperty 49 = .ok (.getfield 10, 3) := by decide +kernel
theorem dX5_towerProperty_52 : decode cX5_towerProperty 52 = .ok (.iload_n 1, 1) := by decide +kernel
theorem dX5_towerProperty_53 : decode cX5_towerProperty 53 = .ok (.invokevirtual 250, 3) := by decide +kernel
theorem dX5_towerProperty_56 : decode cX5_towerProperty 56 = .ok (.ireturn, 1) := by decide +kernel
theorem dX5_towerProperty_57 : decode cX5_towerProperty 57 = .ok (.aload_n 0, 1) := by decide +kernel
theorem dX5_towerProperty_58 : decode cX5_towerProperty 58 = .ok (.getfield 10, 3) := by decide +kernel
theorem dX5_towerProperty_61 : decode cX5_towerProperty 61 = .ok (.iload_n 1, 1) := by decide +kernel
theorem dX5_towerProperty_62 : decode cX5_towerProperty 62 = .ok (.invokevirtual 253, 3) := by decide +kernel
theorem dX5_towerProperty_65 : decode cX5_towerProperty 65 = .ok (.ireturn, 1) := by decide +kernel
theorem dX5_playerProperty_0 : decode cX5_playerProperty 0 = .ok (.iload_n 2, 1) := by decide +kernel
theorem dX5_playerProperty_1 : decode cX5_playerProperty 1 = .ok (.tableswitch 134 0 7 #[47, 57, 67, 77, 94, 104, 114, 124], 47) := by decide +kernel
theorem dX5_playerProperty_48 : decode cX5_playerProperty 48 = .ok (.aload_n 0, 1) := by decide +kernel
theorem dX5_playerProperty_49 : decode cX5_playerProperty 49 = .ok (.getfield 10, 3) := by decide +kernel
theorem dX5_playerProperty_52 : decode cX5_playerProperty 52 = .ok (.getfield 256, 3) := by decide +kernel
theorem dX5_playerProperty_55 : decode cX5_playerProperty 55 = .ok (.iload_n 1, 1) := by decide +kernel
theorem dX5_playerProperty_56 : decode cX5_playerProperty 56 = .ok (.iaload, 1) := by decide +kernel
theorem dX5_playerProperty_57 : decode cX5_playerProperty 57 = .ok (.ireturn, 1) := by decide +kernel
theorem dX5_playerProperty_58 : decode cX5_playerProperty 58 = .ok (.aload_n 0, 1) := by decide +kernel
theorem dX5_playerProperty_59 : decode cX5_playerProperty 59 = .ok (.getfield 10, 3) := by decide +kernel
theorem dX5_playerProperty_62 : decode cX5_playerProperty 62 = .ok (.getfield 259, 3) := by decide +kernel
theorem dX5_playerProperty_65 : decode cX5_playerProperty 65 = .ok (.iload_n 1, 1) := by decide +kernel
theorem dX5_playerProperty_66 : decode cX5_playerProperty 66 = .ok (.iaload, 1) := by decide +kernel
theorem dX5_playerProperty_67 : decode cX5_playerProperty 67 = .ok (.ireturn, 1) := by decide +kernel
theorem dX5_playerProperty_68 : decode cX5_playerProperty 68 = .ok (.aload_n 0, 1) := by decide +kernel
theorem dX5_playerProperty_69 : decode cX5_playerProperty 69 = .ok (.getfield 10, 3) := by decide +kernel
theorem dX5_playerProperty_72 : decode cX5_playerProperty 72 = .ok (.getfield 262, 3) := by decide +kernel
theorem dX5_playerProperty_75 : decode cX5_playerProperty 75 = .ok (.iload_n 1, 1) := by decide +kernel
theorem dX5_playerProperty_76 : decode cX5_playerProperty 76 = .ok (.iaload, 1) := by decide +kernel
theorem dX5_playerProperty_77 : decode cX5_playerProperty 77 = .ok (.ireturn, 1) := by decide +kernel
theorem dX5_playerProperty_78 : decode cX5_playerProperty 78 = .ok (.aload_n 0, 1) := by decide +kernel
theorem dX5_playerProperty_79 : decode cX5_playerProperty 79 = .ok (.getfield 10, 3) := by decide +kernel
theorem dX5_playerProperty_82 : decode cX5_playerProperty 82 = .ok (.getfield 265, 3) := by decide +kernel
theorem dX5_playerProperty_85 : decode cX5_playerProperty 85 = .ok (.iload_n 1, 1) := by decide +kernel
theorem dX5_playerProperty_86 : decode cX5_playerProperty 86 = .ok (.if_icmp .ne 7, 3) := by decide +kernel
theorem dX5_playerProperty_89 : decode cX5_playerProperty 89 = .ok (.iconst 1, 1) := by decide +kernel
theorem dX5_playerProperty_90 : decode cX5_playerProperty 90 = .ok (.goto 4, 3) := by decide +kernel
theorem dX5_playerProperty_93 : decode cX5_playerProperty 93 = .ok (.iconst 0, 1) := by decide +kernel
theorem dX5_playerProperty_94 : decode cX5_playerProperty 94 = .ok (.ireturn, 1) := by decide +kernel
theorem dX5_playerProperty_95 : decode cX5_playerProperty 95 = .ok (.aload_n 0, 1) := by decide +kernel
theorem dX5_playerProperty_96 : decode cX5_playerProperty 96 = .ok (.getfield 10, 3) := by decide +kernel
theorem dX5_playerProperty_99 : decode cX5_playerProperty 99 = .ok (.getfield 268, 3) := by decide +kernel
theorem dX5_playerProperty_102 : decode cX5_playerProperty 102 = .ok (.iload_n 1, 1) := by decide +kernel
theorem dX5_playerProperty_103 : decode cX5_playerProperty 103 = .ok (.iaload, 1) := by decide +kernel
theorem dX5_playerProperty_104 : decode cX5_playerProperty 104 = .ok (.ireturn, 1) := by decide +kernel
theorem dX5_playerProperty_105 : decode cX5_playerProperty 105 = .ok (.aload_n 0, 1) := by decide +kernel
theorem dX5_playerProperty_106 : decode cX5_playerProperty 106 = .ok (.getfield 10, 3) := by decide +kernel
theorem dX5_playerProperty_109 : decode cX5_playerProperty 109 = .ok (.getfield 271, 3) := by decide +kernel
theorem dX5_playerProperty_112 : decode cX5_playerProperty 112 = .ok (.iload_n 1, 1) := by decide +kernel
theorem dX5_playerProperty_113 : decode cX5_playerProperty 113 = .ok (.iaload, 1) := by decide +kernel
theorem dX5_playerProperty_114 : decode cX5_playerProperty 114 = .ok (.ireturn, 1) := by decide +kernel
theorem dX5_playerProperty_115 : decode cX5_playerProperty 115 = .ok (.aload_n 0, 1) := by decide +kernel
theorem dX5_playerProperty_116 : decode cX5_playerProperty 116 = .ok (.getfield 10, 3) := by decide +kernel
theorem dX5_playerProperty_119 : decode cX5_playerProperty 119 = .ok (.getfield 274, 3) := by decide +kernel
theorem dX5_playerProperty_122 : decode cX5_playerProperty 122 = .ok (.iload_n 1, 1) := by decide +kernel
theorem dX5_playerProperty_123 : decode cX5_playerProperty 123 = .ok (.iaload, 1) := by decide +kernel
theorem dX5_playerProperty_124 : decode cX5_playerProperty 124 = .ok (.ireturn, 1) := by decide +kernel
theorem dX5_playerProperty_125 : decode cX5_playerProperty 125 = .ok (.aload_n 0, 1) := by decide +kernel
theorem dX5_playerProperty_126 : decode cX5_playerProperty 126 = .ok (.getfield 10, 3) := by decide +kernel
theorem dX5_playerProperty_129 : decode cX5_playerProperty 129 = .ok (.getfield 277, 3) := by decide +kernel
theorem dX5_playerProperty_132 : decode cX5_playerProperty 132 = .ok (.iload_n 1, 1) := by decide +kernel
theorem dX5_playerProperty_133 : decode cX5_playerProperty 133 = .ok (.iaload, 1) := by decide +kernel
theorem dX5_playerProperty_134 : decode cX5_playerProperty 134 = .ok (.ireturn, 1) := by decide +kernel
theorem dX5_playerProperty_135 : decode cX5_playerProperty 135 = .ok (.aload_n 0, 1) := by decide +kernel
theorem dX5_playerProperty_136 : decode cX5_playerProperty 136 = .ok (.getfield 10, 3) := by decide +kernel
theorem dX5_playerProperty_139 : decode cX5_playerProperty 139 = .ok (.iload_n 1, 1) := by decide +kernel
theorem dX5_playerProperty_140 : decode cX5_playerProperty 140 = .ok (.invokevirtual 280, 3) := by decide +kernel
theorem dX5_playerProperty_143 : decode cX5_playerProperty 143 = .ok (.ireturn, 1) := by decide +kernel
theorem dX5_number_0 : decode cX5_number 0 = .ok (.iload_n 1, 1) := by decide +kernel
theorem dX5_number_1 : decode cX5_number 1 = .ok (.tableswitch 171 0 9 #[55, 63, 85, 107, 115, 123, 131, 147, 155, 163], 55) := by decide +kernel
theorem dX5_number_56 : decode cX5_number 56 = .ok (.aload_n 0, 1) := by decide +kernel
theorem dX5_number_57 : decode cX5_number 57 = .ok (.getfield 10, 3) := by decide +kernel
theorem dX5_number_60 : decode cX5_number 60 = .ok (.getfield 78, 3) := by decide +kernel
theorem dX5_number_63 : decode cX5_number 63 = .ok (.ireturn, 1) := by decide +kernel
theorem dX5_number_64 : decode cX5_number 64 = .ok (.aload_n 0, 1) := by decide +kernel
theorem dX5_number_65 : decode cX5_number 65 = .ok (.getfield 10, 3) := by decide +kernel
theorem dX5_number_68 : decode cX5_number 68 = .ok (.getfield 78, 3) := by decide +kernel
theorem dX5_number_71 : decode cX5_number 71 = .ok (.ifCond .le 13, 3) := by decide +kernel
theorem dX5_number_74 : decode cX5_number 74 = .ok (.aload_n 0, 1) := by decide +kernel
theorem dX5_number_75 : decode cX5_number 75 = .ok (.getfield 10, 3) := by decide +kernel
theorem dX5_number_78 : decode cX5_number 78 = .ok (.getfield 283, 3) := by decide +kernel
theorem dX5_number_81 : decode cX5_number 81 = .ok (.goto 4, 3) := by decide +kernel
theorem dX5_number_84 : decode cX5_number 84 = .ok (.iconst (-1), 1) := by decide +kernel
theorem dX5_number_85 : decode cX5_number 85 = .ok (.ireturn, 1) := by decide +kernel
theorem dX5_number_86 : decode cX5_number 86 = .ok (.aload_n 0, 1) := by decide +kernel
theorem dX5_number_87 : decode cX5_number 87 = .ok (.getfield 10, 3) := by decide +kernel
theorem dX5_number_90 : decode cX5_number 90 = .ok (.getfield 78, 3) := by decide +kernel
theorem dX5_number_93 : decode cX5_number 93 = .ok (.ifCond .le 13, 3) := by decide +kernel
theorem dX5_number_96 : decode cX5_number 96 = .ok (.aload_n 0, 1) := by decide +kernel
theorem dX5_number_97 : decode cX5_number 97 = .ok (.getfield 10, 3) := by decide +kernel
theorem dX5_number_100 : decode cX5_number 100 = .ok (.getfield 265, 3) := by decide +kernel
theorem dX5_number_103 : decode cX5_number 103 = .ok (.goto 4, 3) := by decide +kernel
theorem dX5_number_106 : decode cX5_number 106 = .ok (.iconst (-1), 1) := by decide +kernel
theorem dX5_number_107 : decode cX5_number 107 = .ok (.ireturn, 1) := by decide +kernel
theorem dX5_number_108 : decode cX5_number 108 = .ok (.aload_n 0, 1) := by decide +kernel
theorem dX5_number_109 : decode cX5_number 109 = .ok (.getfield 10, 3) := by decide +kernel
theorem dX5_number_112 : decode cX5_number 112 = .ok (.getfield 173, 3) := by decide +kernel
theorem dX5_number_115 : decode cX5_number 115 = .ok (.ireturn, 1) := by decide +kernel
theorem dX5_number_116 : decode cX5_number 116 = .ok (.aload_n 0, 1) := by decide +kernel
theorem dX5_number_117 : decode cX5_number 117 = .ok (.getfield 10, 3) := by decide +kernel
theorem dX5_number_120 : decode cX5_number 120 = .ok (.getfield 286, 3) := by decide +kernel
theorem dX5_number_123 : decode cX5_number 123 = .ok (.ireturn, 1) := by decide +kernel
theorem dX5_number_124 : decode cX5_number 124 = .ok (.aload_n 0, 1) := by decide +kernel
theorem dX5_number_125 : decode cX5_number 125 = .ok (.getfield 10, 3) := by decide +kernel
theorem dX5_number_128 : decode cX5_number 128 = .ok (.getfield 289, 3) := by decide +kernel
theorem dX5_number_131 : decode cX5_number 131 = .ok (.ireturn, 1) := by decide +kernel
theorem dX5_number_132 : decode cX5_number 132 = .ok (.aload_n 0, 1) := by decide +kernel
theorem dX5_number_133 : decode cX5_number 133 = .ok (.getfield 10, 3) := by decide +kernel
theorem dX5_number_136 : decode cX5_number 136 = .ok (.invokevirtual 292, 3) := by decide +kernel
theorem dX5_number_139 : decode cX5_number 139 = .ok (.aload_n 0, 1) := by decide +kernel
theorem dX5_number_140 : decode cX5_number 140 = .ok (.getfield 10, 3) := by decide +kernel
theorem dX5_number_143 : decode cX5_number 143 = .ok (.invokevirtual 295, 3) := by decide +kernel
theorem dX5_number_146 : decode cX5_number 146 = .ok (.iadd, 1) := by decide +kernel
theorem dX5_number_147 : decode cX5_number 147 = .ok (.ireturn, 1) := by decide +kernel
theorem dX5_number_148 : decode cX5_number 148 = .ok (.aload_n 0, 1) := by decide +kernel
theorem dX5_number_149 : decode cX5_number 149 = .ok (.getfield 10, 3) := by decide +kernel
theorem dX5_number_152 : decode cX5_number 152 = .ok (.invokevirtual 292, 3) := by decide +kernel
theorem dX5_number_155 : decode cX5_number 155 = .ok (.ireturn, 1) := by decide +kernel
theorem dX5_number_156 : decode cX5_number 156 = .ok (.aload_n 0, 1) := by decide +kernel
theorem dX5_number_157 : decode cX5_number 157 = .ok (.getfield 10, 3) := by decide +kernel
theorem dX5_number_160 : decode cX5_number 160 = .ok (.invokevirtual 295, 3) := by decide +kernel
theorem dX5_number_163 : decode cX5_number 163 = .ok (.ireturn, 1) := by decide +kernel
theorem dX5_number_164 : decode cX5_number 164 = .ok (.aload_n 0, 1) := by decide +kernel
theorem dX5_number_165 : decode cX5_number 165 = .ok (.getfield 10, 3) := by decide +kernel
theorem dX5_number_168 : decode cX5_number 168 = .ok (.getfield 298, 3) := by decide +kernel
theorem dX5_number_171 : decode cX5_number 171 = .ok (.ireturn, 1) := by decide +kernel
theorem dX5_number_172 : decode cX5_number 172 = .ok (.aload_n 0, 1) := by decide +kernel
theorem dX5_number_173 : decode cX5_number 173 = .ok (.getfield 27, 3) := by decide +kernel
theorem dX5_number_176 : decode cX5_number 176 = .ok (.getfield 178, 3) := by decide +kernel
theorem dX5_number_179 : decode cX5_number 179 = .ok (.ireturn, 1) := by decide +kernel
theorem dX5_withTowers_0 : decode cX5_withTowers 0 = .ok (.lload_n 1, 1) := by decide +kernel
theorem dX5_withTowers_1 : decode cX5_withTowers 1 = .ok (.lstore_n 3, 1) := by decide +kernel
theorem dX5_withTowers_2 : decode cX5_withTowers 2 = .ok (.iconst 0, 1) := by decide +kernel
theorem dX5_withTowers_3 : decode cX5_withTowers 3 = .ok (.istore 5, 2) := by decide +kernel
theorem dX5_withTowers_5 : decode cX5_withTowers 5 = .ok (.iload 5, 2) := by decide +kernel
theorem dX5_withTowers_7 : decode cX5_withTowers 7 = .ok (.bipush 10, 2) := by decide +kernel
theorem dX5_withTowers_9 : decode cX5_withTowers 9 = .ok (.if_icmp .ge 76, 3) := by decide +kernel
theorem dX5_withTowers_12 : decode cX5_withTowers 12 = .ok (.iconst 0, 1) := by decide +kernel
theorem dX5_withTowers_13 : decode cX5_withTowers 13 = .ok (.istore 6, 2) := by decide +kernel
theorem dX5_withTowers_15 : decode cX5_withTowers 15 = .ok (.iload 6, 2) := by decide +kernel
theorem dX5_withTowers_17 : decode cX5_withTowers 17 = .ok (.iconst 4, 1) := by decide +kernel
theorem dX5_withTowers_18 : decode cX5_withTowers 18 = .ok (.if_icmp .ge 25, 3) := by decide +kernel
theorem dX5_withTowers_21 : decode cX5_withTowers 21 = .ok (.ldc2_w 233, 3) := by decide +kernel
theorem dX5_withTowers_24 : decode cX5_withTowers 24 = .ok (.lload_n 3, 1) := by decide +kernel
theorem dX5_withTowers_25 : decode cX5_withTowers 25 = .ok (.lmul, 1) := by decide +kernel
theorem dX5_withTowers_26 : decode cX5_withTowers 26 = .ok (.aload_n 0, 1) := by decide +kernel
theorem dX5_withTowers_27 : decode cX5_withTowers 27 = .ok (.iload 5, 2) := by decide +kernel
theorem dX5_withTowers_29 : decode cX5_withTowers 29 = .ok (.iload 6, 2) := by decide +kernel
theorem dX5_withTowers_31 : decode cX5_withTowers 31 = .ok (.invokevirtual 188, 3) := by decide +kernel
theorem dX5_withTowers_34 : decode cX5_withTowers 34 = .ok (.i2l, 1) := by decide +kernel
theorem dX5_withTowers_35 : decode cX5_withTowers 35 = .ok (.ladd, 1) := by decide +kernel
theorem dX5_withTowers_36 : decode cX5_withTowers 36 = .ok (.lstore_n 3, 1) := by decide +kernel
theorem dX5_withTowers_37 : decode cX5_withTowers 37 = .ok (.iinc 6 1, 3) := by decide +kernel
theorem dX5_withTowers_40 : decode cX5_withTowers 40 = .ok (.goto (-25), 3) := by decide +kernel
theorem dX5_withTowers_43 : decode cX5_withTowers 43 = .ok (.ldc2_w 233, 3) := by decide +kernel
theorem dX5_withTowers_46 : decode cX5_withTowers 46 = .ok (.lload_n 3, 1) := by decide +kernel
theorem dX5_withTowers_47 : decode cX5_withTowers 47 = .ok (.lmul, 1) := by decide +kernel
theorem dX5_withTowers_48 : decode cX5_withTowers 48 = .ok (.aload_n 0, 1) := by decide +kernel
theorem dX5_withTowers_49 : decode cX5_withTowers 49 = .ok (.getfield 41, 3) := by decide +kernel
theorem dX5_withTowers_52 : decode cX5_withTowers 52 = .ok (.iconst 0, 1) := by decide +kernel
theorem dX5_withTowers_53 : decode cX5_withTowers 53 = .ok (.iload 5, 2) := by decide +kernel
theorem dX5_withTowers_55 : decode cX5_withTowers 55 = .ok (.invokevirtual 206, 3) := by decide +kernel
theorem dX5_withTowers_58 : decode cX5_withTowers 58 = .ok (.i2l, 1) := by decide +kernel
theorem dX5_withTowers_59 : decode cX5_withTowers 59 = .ok (.ladd, 1) := by decide +kernel
theorem dX5_withTowers_60 : decode cX5_withTowers 60 = .ok (.lstore_n 3, 1) := by decide +kernel
theorem dX5_withTowers_61 : decode cX5_withTowers 61 = .ok (.ldc2_w 233, 3) := by decide +kernel
theorem dX5_withTowers_64 : decode cX5_withTowers 64 = .ok (.lload_n 3, 1) := by decide +kernel
theorem dX5_withTowers_65 : decode cX5_withTowers 65 = .ok (.lmul, 1) := by decide +kernel
theorem dX5_withTowers_66 : decode cX5_withTowers 66 = .ok (.aload_n 0, 1) := by decide +kernel
theorem dX5_withTowers_67 : decode cX5_withTowers 67 = .ok (.getfield 41, 3) := by decide +kernel
theorem dX5_withTowers_70 : decode cX5_withTowers 70 = .ok (.iconst 0, 1) := by decide +kernel
theorem dX5_withTowers_71 : decode cX5_withTowers 71 = .ok (.iload 5, 2) := by decide +kernel
theorem dX5_withTowers_73 : decode cX5_withTowers 73 = .ok (.invokevirtual 209, 3) := by decide +kernel
theorem dX5_withTowers_76 : decode cX5_withTowers 76 = .ok (.i2l, 1) := by decide +kernel
theorem dX5_withTowers_77 : decode cX5_withTowers 77 = .ok (.ladd, 1) := by decide +kernel
theorem dX5_withTowers_78 : decode cX5_withTowers 78 = .ok (.lstore_n 3, 1) := by decide +kernel
theorem dX5_withTowers_79 : decode cX5_withTowers 79 = .ok (.iinc 5 1, 3) := by decide +kernel
theorem dX5_withTowers_82 : decode cX5_withTowers 82 = .ok (.goto (-77), 3) := by decide +kernel
theorem dX5_withTowers_85 : decode cX5_withTowers 85 = .ok (.lload_n 3, 1) := by decide +kernel
theorem dX5_withTowers_86 : decode cX5_withTowers 86 = .ok (.lreturn, 1) := by decide +kernel
theorem dX5_withPlayer_0 : decode cX5_withPlayer 0 = .ok (.lload_n 1, 1) := by decide +kernel
theorem dX5_withPlayer_1 : decode cX5_withPlayer 1 = .ok (.lstore 4, 2) := by decide +kernel
theorem dX5_withPlayer_3 : decode cX5_withPlayer 3 = .ok (.iconst 0, 1) := by decide +kernel
theorem dX5_withPlayer_4 : decode cX5_withPlayer 4 = .ok (.istore 6, 2) := by decide +kernel
theorem dX5_withPlayer_6 : decode cX5_withPlayer 6 = .ok (.iload 6, 2) := by decide +kernel
theorem dX5_withPlayer_8 : decode cX5_withPlayer 8 = .ok (.bipush 9, 2) := by decide +kernel
theorem dX5_withPlayer_10 : decode cX5_withPlayer 10 = .ok (.if_icmp .ge 26, 3) := by decide +kernel
theorem dX5_withPlayer_13 : decode cX5_withPlayer 13 = .ok (.ldc2_w 233, 3) := by decide +kernel
theorem dX5_withPlayer_16 : decode cX5_withPlayer 16 = .ok (.lload 4, 2) := by decide +kernel
theorem dX5_withPlayer_18 : decode cX5_withPlayer 18 = .ok (.lmul, 1) := by decide +kernel
theorem dX5_withPlayer_19 : decode cX5_withPlayer 19 = .ok (.aload_n 0, 1) := by decide +kernel
theorem dX5_withPlayer_20 : decode cX5_withPlayer 20 = .ok (.iload_n 3, 1) := by decide +kernel
theorem dX5_withPlayer_21 : decode cX5_withPlayer 21 = .ok (.iload 6, 2) := by decide +kernel
theorem dX5_withPlayer_23 : decode cX5_withPlayer 23 = .ok (.invokevirtual 193, 3) := by decide +kernel
theorem dX5_withPlayer_26 : decode cX5_withPlayer 26 = .ok (.i2l, 1) := by decide +kernel
theorem dX5_withPlayer_27 : decode cX5_withPlayer 27 = .ok (.ladd, 1) := by decide +kernel
theorem dX5_withPlayer_28 : decode cX5_withPlayer 28 = .ok (.lstore 4, 2) := by decide +kernel
theorem dX5_withPlayer_30 : decode cX5_withPlayer 30 = .ok (.iinc 6 1, 3) := by decide +kernel
theorem dX5_withPlayer_33 : decode cX5_withPlayer 33 = .ok (.goto (-27), 3) := by decide +kernel
theorem dX5_withPlayer_36 : decode cX5_withPlayer 36 = .ok (.iconst 0, 1) := by decide +kernel
theorem dX5_withPlayer_37 : decode cX5_withPlayer 37 = .ok (.istore 6, 2) := by decide +kernel
theorem dX5_withPlayer_39 : decode cX5_withPlayer 39 = .ok (.iload 6, 2) := by decide +kernel
theorem dX5_withPlayer_41 : decode cX5_withPlayer 41 = .ok (.bipush 10, 2) := by decide +kernel
theorem dX5_withPlayer_43 : decode cX5_withPlayer 43 = .ok (.if_icmp .ge 29, 3) := by decide +kernel
theorem dX5_withPlayer_46 : decode cX5_withPlayer 46 = .ok (.ldc2_w 233, 3) := by decide +kernel
theorem dX5_withPlayer_49 : decode cX5_withPlayer 49 = .ok (.lload 4, 2) := by decide +kernel
theorem dX5_withPlayer_51 : decode cX5_withPlayer 51 = .ok (.lmul, 1) := by decide +kernel
theorem dX5_withPlayer_52 : decode cX5_withPlayer 52 = .ok (.aload_n 0, 1) := by decide +kernel
theorem dX5_withPlayer_53 : decode cX5_withPlayer 53 = .ok (.getfield 10, 3) := by decide +kernel
theorem dX5_withPlayer_56 : decode cX5_withPlayer 56 = .ok (.iload_n 3, 1) := by decide +kernel
theorem dX5_withPlayer_57 : decode cX5_withPlayer 57 = .ok (.iload 6, 2) := by decide +kernel
theorem dX5_withPlayer_59 : decode cX5_withPlayer 59 = .ok (.invokevirtual 214, 3) := by decide +kernel
theorem dX5_withPlayer_62 : decode cX5_withPlayer 62 = .ok (.i2l, 1) := by decide +kernel
theorem dX5_withPlayer_63 : decode cX5_withPlayer 63 = .ok (.ladd, 1) := by decide +kernel
theorem dX5_withPlayer_64 : decode cX5_withPlayer 64 = .ok (.lstore 4, 2) := by decide +kernel
theorem dX5_withPlayer_66 : decode cX5_withPlayer 66 = .ok (.iinc 6 1, 3) := by decide +kernel
theorem dX5_withPlayer_69 : decode cX5_withPlayer 69 = .ok (.goto (-30), 3) := by decide +kernel
theorem dX5_withPlayer_72 : decode cX5_withPlayer 72 = .ok (.ldc2_w 233, 3) := by decide +kernel
theorem dX5_withPlayer_75 : decode cX5_withPlayer 75 = .ok (.lload 4, 2) := by decide +kernel
theorem dX5_withPlayer_77 : decode cX5_withPlayer 77 = .ok (.lmul, 1) := by decide +kernel
theorem dX5_withPlayer_78 : decode cX5_withPlayer 78 = .ok (.aload_n 0, 1) := by decide +kernel
theorem dX5_withPlayer_79 : decode cX5_withPlayer 79 = .ok (.getfield 48, 3) := by decide +kernel
theorem dX5_withPlayer_82 : decode cX5_withPlayer 82 = .ok (.aload_n 0, 1) := by decide +kernel
theorem dX5_withPlayer_83 : decode cX5_withPlayer 83 = .ok (.getfield 10, 3) := by decide +kernel
theorem dX5_withPlayer_86 : decode cX5_withPlayer 86 = .ok (.aload_n 0, 1) := by decide +kernel
theorem dX5_withPlayer_87 : decode cX5_withPlayer 87 = .ok (.getfield 41, 3) := by decide +kernel
theorem dX5_withPlayer_90 : decode cX5_withPlayer 90 = .ok (.iload_n 3, 1) := by decide +kernel
theorem dX5_withPlayer_91 : decode cX5_withPlayer 91 = .ok (.bipush 9, 2) := by decide +kernel
theorem dX5_withPlayer_93 : decode cX5_withPlayer 93 = .ok (.invokevirtual 217, 3) := by decide +kernel
theorem dX5_withPlayer_96 : decode cX5_withPlayer 96 = .ok (.i2l, 1) := by decide +kernel
theorem dX5_withPlayer_97 : decode cX5_withPlayer 97 = .ok (.ladd, 1) := by decide +kernel
theorem dX5_withPlayer_98 : decode cX5_withPlayer 98 = .ok (.lreturn, 1) := by decide +kernel
theorem dX5_bitsOf_0 : decode cX5_bitsOf 0 = .ok (.dload_n 0, 1) := by decide +kernel
theorem dX5_bitsOf_1 : decode cX5_bitsOf 1 = .ok (.dconst 0, 1) := by decide +kernel
theorem dX5_bitsOf_2 : decode cX5_bitsOf 2 = .ok (.dcmp .g, 1) := by decide +kernel
theorem dX5_bitsOf_3 : decode cX5_bitsOf 3 = .ok (.ifCond .gt 5, 3) := by decide +kernel
theorem dX5_bitsOf_6 : decode cX5_bitsOf 6 = .ok (.lconst 0, 1) := by decide +kernel
theorem dX5_bitsOf_7 : decode cX5_bitsOf 7 = .ok (.lreturn, 1) := by decide +kernel
theorem dX5_bitsOf_8 : decode cX5_bitsOf 8 = .ok (.dload_n 0, 1) := by decide +kernel
theorem dX5_bitsOf_9 : decode cX5_bitsOf 9 = .ok (.dstore_n 2, 1) := by decide +kernel
theorem dX5_bitsOf_10 : decode cX5_bitsOf 10 = .ok (.ldc2_w 301, 3) := by decide +kernel
theorem dX5_bitsOf_13 : decode cX5_bitsOf 13 = .ok (.lstore 4, 2) := by decide +kernel
theorem dX5_bitsOf_15 : decode cX5_bitsOf 15 = .ok (.iconst 0, 1) := by decide +kernel
theorem dX5_bitsOf_16 : decode cX5_bitsOf 16 = .ok (.istore 6, 2) := by decide +kernel
theorem dX5_bitsOf_18 : decode cX5_bitsOf 18 = .ok (.iload 6, 2) := by decide +kernel
theorem dX5_bitsOf_20 : decode cX5_bitsOf 20 = .ok (.sipush 1000, 3) := by decide +kernel
theorem dX5_bitsOf_23 : decode cX5_bitsOf 23 = .ok (.if_icmp .ge 27, 3) := by decide +kernel
theorem dX5_bitsOf_26 : decode cX5_bitsOf 26 = .ok (.dload_n 2, 1) := by decide +kernel
theorem dX5_bitsOf_27 : decode cX5_bitsOf 27 = .ok (.dconst 1, 1) := by decide +kernel
theorem dX5_bitsOf_28 : decode cX5_bitsOf 28 = .ok (.dcmp .g, 1) := by decide +kernel
theorem dX5_bitsOf_29 : decode cX5_bitsOf 29 = .ok (.ifCond .ge 21, 3) := by decide +kernel
theorem dX5_bitsOf_32 : decode cX5_bitsOf 32 = .ok (.dload_n 2, 1) := by decide +kernel
theorem dX5_bitsOf_33 : decode cX5_bitsOf 33 = .ok (.ldc2_w 303, 3) := by decide +kernel
theorem dX5_bitsOf_36 : decode cX5_bitsOf 36 = .ok (.dmul, 1) := by decide +kernel
theorem dX5_bitsOf_37 : decode cX5_bitsOf 37 = .ok (.dstore_n 2, 1) := by decide +kernel
theorem dX5_bitsOf_38 : decode cX5_bitsOf 38 = .ok (.lload 4, 2) := by decide +kernel
theorem dX5_bitsOf_40 : decode cX5_bitsOf 40 = .ok (.lconst 1, 1) := by decide +kernel
theorem dX5_bitsOf_41 : decode cX5_bitsOf 41 = .ok (.lsub, 1) := by decide +kernel
theorem dX5_bitsOf_42 : decode cX5_bitsOf 42 = .ok (.lstore 4, 2) := by decide +kernel
theorem dX5_bitsOf_44 : decode cX5_bitsOf 44 = .ok (.iinc 6 1, 3) := by decide +kernel
theorem dX5_bitsOf_47 : decode cX5_bitsOf 47 = .ok (.goto (-29), 3) := by decide +kernel
theorem dX5_bitsOf_50 : decode cX5_bitsOf 50 = .ok (.lload 4, 2) := by decide +kernel
theorem dX5_bitsOf_52 : decode cX5_bitsOf 52 = .ok (.bipush 52, 2) := by decide +kernel
theorem dX5_bitsOf_54 : decode cX5_bitsOf 54 = .ok (.lshl, 1) := by decide +kernel
theorem dX5_bitsOf_55 : decode cX5_bitsOf 55 = .ok (.dload_n 2, 1) := by decide +kernel
theorem dX5_bitsOf_56 : decode cX5_bitsOf 56 = .ok (.dconst 1, 1) := by decide +kernel
theorem dX5_bitsOf_57 : decode cX5_bitsOf 57 = .ok (.dsub, 1) := by decide +kernel
theorem dX5_bitsOf_58 : decode cX5_bitsOf 58 = .ok (.ldc2_w 305, 3) := by decide +kernel
theorem dX5_bitsOf_61 : decode cX5_bitsOf 61 = .ok (.dmul, 1) := by decide +kernel
theorem dX5_bitsOf_62 : decode cX5_bitsOf 62 = .ok (.d2l, 1) := by decide +kernel
theorem dX5_bitsOf_63 : decode cX5_bitsOf 63 = .ok (.ladd, 1) := by decide +kernel
theorem dX5_bitsOf_64 : decode cX5_bitsOf 64 = .ok (.lreturn, 1) := by decide +kernel
theorem dX6_init_0 : decode cX6_init 0 = .ok (.aload_n 0, 1) := by decide +kernel
theorem dX6_init_1 : decode cX6_init 1 = .ok (.invokespecial 1, 3) := by decide +kernel
theorem dX6_init_4 : decode cX6_init 4 = .ok (.aload_n 0, 1) := by decide +kernel
theorem dX6_init_5 : decode cX6_init 5 = .ok (.bipush 59, 2) := by decide +kernel
theorem dX6_init_7 : decode cX6_init 7 = .ok (.newarray .int, 2) := by decide +kernel
theorem dX6_init_9 : decode cX6_init 9 = .ok (.putfield 7, 3) := by decide +kernel
theorem dX6_init_12 : decode cX6_init 12 = .ok (.aload_n 0, 1) := by decide +kernel
theorem dX6_init_13 : decode cX6_init 13 = .ok (.sipush 354, 3) := by decide +kernel
theorem dX6_init_16 : decode cX6_init 16 = .ok (.newarray .int, 2) := by decide +kernel
theorem dX6_init_18 : decode cX6_init 18 = .ok (.putfield 13, 3) := by decide +kernel
theorem dX6_init_21 : decode cX6_init 21 = .ok (.aload_n 0, 1) := by decide +kernel
theorem dX6_init_22 : decode cX6_init 22 = .ok (.bipush 59, 2) := by decide +kernel
theorem dX6_init_24 : decode cX6_init 24 = .ok (.newarray .int, 2) := by decide +kernel
theorem dX6_init_26 : decode cX6_init 26 = .ok (.putfield 16, 3) := by decide +kernel
theorem dX6_init_29 : decode cX6_init 29 = .ok (.aload_n 0, 1) := by decide +kernel
theorem dX6_init_30 : decode cX6_init 30 = .ok (.bipush 118, 2) := by decide +kernel
theorem dX6_init_32 : decode cX6_init 32 = .ok (.newarray .int, 2) := by decide +kernel
theorem dX6_init_34 : decode cX6_init 34 = .ok (.putfield 19, 3) := by decide +kernel
theorem dX6_init_37 : decode cX6_init 37 = .ok (.aload_n 0, 1) := by decide +kernel
theorem dX6_init_38 : decode cX6_init 38 = .ok (.iconst 2, 1) := by decide +kernel
theorem dX6_init_39 : decode cX6_init 39 = .ok (.newarray .boolean, 2) := by decide +kernel
theorem dX6_init_41 : decode cX6_init 41 = .ok (.putfield 22, 3) := by decide +kernel
theorem dX6_init_44 : decode cX6_init 44 = .ok (.aload_n 0, 1) := by decide +kernel
theorem dX6_init_45 : decode cX6_init 45 = .ok (.bipush 60, 2) := by decide +kernel
theorem dX6_init_47 : decode cX6_init 47 = .ok (.newarray .int, 2) := by decide +kernel
theorem dX6_init_49 : decode cX6_init 49 = .ok (.putfield 26, 3) := by decide +kernel
theorem dX6_init_52 : decode cX6_init 52 = .ok (.aload_n 0, 1) := by decide +kernel
theorem dX6_init_53 : decode cX6_init 53 = .ok (.bipush 10, 2) := by decide +kernel
theorem dX6_init_55 : decode cX6_init 55 = .ok (.newarray .int, 2) := by decide +kernel
theorem dX6_init_57 : decode cX6_init 57 = .ok (.putfield 29, 3) := by decide +kernel
theorem dX6_init_60 : decode cX6_init 60 = .ok (.aload_n 0, 1) := by decide +kernel
theorem dX6_init_61 : decode cX6_init 61 = .ok (.bipush 10, 2) := by decide +kernel
theorem dX6_init_63 : decode cX6_init 63 = .ok (.newarray .int, 2) := by decide +kernel
theorem dX6_init_65 : decode cX6_init 65 = .ok (.putfield 32, 3) := by decide +kernel
theorem dX6_init_68 : decode cX6_init 68 = .ok (.aload_n 0, 1) := by decide +kernel
theorem dX6_init_69 : decode cX6_init 69 = .ok (.getfield 7, 3) := by decide +kernel
theorem dX6_init_72 : decode cX6_init 72 = .ok (.iconst 0, 1) := by decide +kernel
theorem dX6_init_73 : decode cX6_init 73 = .ok (.iconst 3, 1) := by decide +kernel
theorem dX6_init_74 : decode cX6_init 74 = .ok (.iastore, 1) := by decide +kernel
theorem dX6_init_75 : decode cX6_init 75 = .ok (.aload_n 0, 1) := by decide +kernel
theorem dX6_init_76 : decode cX6_init 76 = .ok (.getfield 7, 3) := by decide +kernel
theorem dX6_init_79 : decode cX6_init 79 = .ok (.iconst 1, 1) := by decide +kernel
theorem dX6_init_80 : decode cX6_init 80 = .ok (.iconst 2, 1) := by decide +kernel
theorem dX6_init_81 : decode cX6_init 81 = .ok (.iastore, 1) := by decide +kernel
theorem dX6_init_82 : decode cX6_init 82 = .ok (.aload_n 0, 1) := by decide +kernel
theorem dX6_init_83 : decode cX6_init 83 = .ok (.getfield 7, 3) := by decide +kernel
theorem dX6_init_86 : decode cX6_init 86 = .ok (.iconst 2, 1) := by decide +kernel
theorem dX6_init_87 : decode cX6_init 87 = .ok (.iconst 1, 1) := by decide +kernel
theorem dX6_init_88 : decode cX6_init 88 = .ok (.iastore, 1) := by decide +kernel
theorem dX6_init_89 : decode cX6_init 89 = .ok (.aload_n 0, 1) := by decide +kernel
theorem dX6_init_90 : decode cX6_init 90 = .ok (.getfield 7, 3) := by decide +kernel
theorem dX6_init_93 : decode cX6_init 93 = .ok (.iconst 3, 1) := by decide +kernel
theorem dX6_init_94 : decode cX6_init 94 = .ok (.iconst 1, 1) := by decide +kernel
theorem dX6_init_95 : decode cX6_init 95 = .ok (.iastore, 1) := by decide +kernel
theorem dX6_init_96 : decode cX6_init 96 = .ok (.return_, 1) := by decide +kernel
theorem dX6_thrown_0 : decode cX6_thrown 0 = .ok (.aload_n 0, 1) := by decide +kernel
theorem dX6_thrown_1 : decode cX6_thrown 1 = .ok (.getfield 35, 3) := by decide +kernel
theorem dX6_thrown_4 : decode cX6_thrown 4 = .ok (.ireturn, 1) := by decide +kernel
theorem dX6_wrong_0 : decode cX6_wrong 0 = .ok (.aload_n 0, 1) := by decide +kernel
theorem dX6_wrong_1 : decode cX6_wrong 1 = .ok (.iload_n 1, 1) := by decide +kernel
theorem dX6_wrong_2 : decode cX6_wrong 2 = .ok (.putfield 35, 3) := by decide +kernel
theorem dX6_wrong_5 : decode cX6_wrong 5 = .ok (.iconst 0, 1) := by decide +kernel
theorem dX6_wrong_6 : decode cX6_wrong 6 = .ok (.ireturn, 1) := by decide +kernel
theorem dX6_in_0 : decode cX6_in 0 = .ok (.iload_n 0, 1) := by decide +kernel
theorem dX6_in_1 : decode cX6_in 1 = .ok (.iload_n 1, 1) := by decide +kernel
theorem dX6_in_2 : decode cX6_in 2 = .ok (.if_icmp .lt 12, 3) := by decide +kernel
theorem dX6_in_5 : decode cX6_in 5 = .ok (.iload_n 0, 1) := by decide +kernel
theorem dX6_in_6 : decode cX6_in 6 = .ok (.iload_n 2, 1) := by decide +kernel
theorem dX6_in_7 : decode cX6_in 7 = .ok (.if_icmp .gt 7, 3) := by decide +kernel
theorem dX6_in_10 : decode cX6_in 10 = .ok (.iconst 1, 1) := by decide +kernel
theorem dX6_in_11 : decode cX6_in 11 = .ok (.goto 4, 3) := by decide +kernel
theorem dX6_in_14 : decode cX6_in 14 = .ok (.iconst 0, 1) := by decide +kernel
theorem dX6_in_15 : decode cX6_in 15 = .ok (.ireturn, 1) := by decide +kernel
theorem dX6_its_0 : decode cX6_its 0 = .ok (.aload_n 0, 1) := by decide +kernel
theorem dX6_its_1 : decode cX6_its 1 = .ok (.getfield 7, 3) := by decide +kernel
theorem dX6_its_4 : decode cX6_its 4 = .ok (.bipush 31, 2) := by decide +kernel
theorem dX6_its_6 : decode cX6_its 6 = .ok (.bipush 7, 2) := by decide +kernel
theorem dX6_its_8 : decode cX6_its 8 = .ok (.iload_n 1, 1) := by decide +kernel
theorem dX6_its_9 : decode cX6_its 9 = .ok (.imul, 1) := by decide +kernel
theorem dX6_its_10 : decode cX6_its 10 = .ok (.iadd, 1) := by decide +kernel
theorem dX6_its_11 : decode cX6_its 11 = .ok (.iload_n 2, 1) := by decide +kernel
theorem dX6_its_12 : decode cX6_its 12 = .ok (.iadd, 1) := by decide +kernel
theorem dX6_its_13 : decode cX6_its 13 = .ok (.iaload, 1) := by decide +kernel
theorem dX6_its_14 : decode cX6_its 14 = .ok (.ireturn, 1) := by decide +kernel
theorem dX6_more_0 : decode cX6_more 0 = .ok (.aload_n 0, 1) := by decide +kernel
theorem dX6_more_1 : decode cX6_more 1 = .ok (.getfield 7, 3) := by decide +kernel
theorem dX6_more_4 : decode cX6_more 4 = .ok (.bipush 31, 2) := by decide +kernel
theorem dX6_more_6 : decode cX6_more 6 = .ok (.bipush 7, 2) := by decide +kernel
theorem dX6_more_8 : decode cX6_more 8 = .ok (.iload_n 1, 1) := by decide +kernel
theorem dX6_more_9 : decode cX6_more 9 = .ok (.imul, 1) := by decide +kernel
theorem dX6_more_10 : decode cX6_more 10 = .ok (.iadd, 1) := by decide +kernel
theorem dX6_more_11 : decode cX6_more 11 = .ok (.iload_n 2, 1) := by decide +kernel
theorem dX6_more_12 : decode cX6_more 12 = .ok (.iadd, 1) := by decide +kernel
theorem dX6_more_13 : decode cX6_more 13 = .ok (.dup2, 1) := by decide +kernel
theorem dX6_more_14 : decode cX6_more 14 = .ok (.iaload, 1) := by decide +kernel
theorem dX6_more_15 : decode cX6_more 15 = .ok (.iload_n 3, 1) := by decide +kernel
theorem dX6_more_16 : decode cX6_more 16 = .ok (.iadd, 1) := by decide +kernel
theorem dX6_more_17 : decode cX6_more 17 = .ok (.iastore, 1) := by decide +kernel
theorem dX6_more_18 : decode cX6_more 18 = .ok (.return_, 1) := by decide +kernel
theorem dX6_isPlayer_0 : decode cX6_isPlayer 0 = .ok (.iload_n 1, 1) := by decide +kernel
theorem dX6_isPlayer_1 : decode cX6_isPlayer 1 = .ok (.iconst 0, 1) := by decide +kernel
theorem dX6_isPlayer_2 : decode cX6_isPlayer 2 = .ok (.aload_n 0, 1) := by decide +kernel
theorem dX6_isPlayer_3 : decode cX6_isPlayer 3 = .ok (.getfield 7, 3) := by decide +kernel
theorem dX6_isPlayer_6 : decode cX6_isPlayer 6 = .ok (.iconst 4, 1) := by decide +kernel
theorem dX6_isPlayer_7 : decode cX6_isPlayer 7 = .ok (.iaload, 1) := by decide +kernel
theorem dX6_isPlayer_8 : decode cX6_isPlayer 8 = .ok (.iconst 1, 1) := by decide +kernel
theorem dX6_isPlayer_9 : decode cX6_isPlayer 9 = .ok (.isub, 1) := by decide +kernel
theorem dX6_isPlayer_10 : decode cX6_isPlayer 10 = .ok (.invokestatic 39, 3) := by decide +kernel
theorem dX6_isPlayer_13 : decode cX6_isPlayer 13 = .ok (.ireturn, 1) := by decide +kernel
theorem dX6_remember_0 : decode cX6_remember 0 = .ok (.iconst 0, 1) := by decide +kernel
theorem dX6_remember_1 : decode cX6_remember 1 = .ok (.istore_n 1, 1) := by decide +kernel
theorem dX6_remember_2 : decode cX6_remember 2 = .ok (.iload_n 1, 1) := by decide +kernel
theorem dX6_remember_3 : decode cX6_remember 3 = .ok (.bipush 59, 2) := by decide +kernel
theorem dX6_remember_5 : decode cX6_remember 5 = .ok (.if_icmp .ge 21, 3) := by decide +kernel
theorem dX6_remember_8 : decode cX6_remember 8 = .ok (.aload_n 0, 1) := by decide +kernel
theorem dX6_remember_9 : decode cX6_remember 9 = .ok (.getfield 16, 3) := by decide +kernel
theorem dX6_remember_12 : decode cX6_remember 12 = .ok (.iload_n 1, 1) := by decide +kernel
theorem dX6_remember_13 : decode cX6_remember 13 = .ok (.aload_n 0, 1) := by decide +kernel
theorem dX6_remember_14 : decode cX6_remember 14 = .ok (.getfield 7, 3) := by decide +kernel
theorem dX6_remember_17 : decode cX6_remember 17 = .ok (.iload_n 1, 1) := by decide +kernel
theorem dX6_remember_18 : decode cX6_remember 18 = .ok (.iaload, 1) := by decide +kernel
theorem dX6_remember_19 : decode cX6_remember 19 = .ok (.iastore, 1) := by decide +kernel
theorem dX6_remember_20 : decode cX6_remember 20 = .ok (.iinc 1 1, 3) := by decide +kernel
theorem dX6_remember_23 : decode cX6_remember 23 = .ok (.goto (-21), 3) := by decide +kernel
theorem dX6_remember_26 : decode cX6_remember 26 = .ok (.return_, 1) := by decide +kernel
theorem dX6_record_0 : decode cX6_record 0 = .ok (.aload_n 0, 1) := by decide +kernel
theorem dX6_record_1 : decode cX6_record 1 = .ok (.getfield 43, 3) := by decide +kernel
theorem dX6_record_4 : decode cX6_record 4 = .ok (.bipush 6, 2) := by decide +kernel
theorem dX6_record_6 : decode cX6_record 6 = .ok (.if_icmp .ne 43, 3) := by decide +kernel
theorem dX6_record_9 : decode cX6_record 9 = .ok (.iconst 0, 1) := by decide +kernel
theorem dX6_record_10 : decode cX6_record 10 = .ok (.istore_n 2, 1) := by decide +kernel
theorem dX6_record_11 : decode cX6_record 11 = .ok (.iload_n 2, 1) := by decide +kernel
theorem dX6_record_12 : decode cX6_record 12 = .ok (.sipush 295, 3) := by decide +kernel
theorem dX6_record_15 : decode cX6_record 15 = .ok (.if_icmp .ge 24, 3) := by decide +kernel
theorem dX6_record_18 : decode cX6_record 18 = .ok (.aload_n 0, 1) := by decide +kernel
theorem dX6_record_19 : decode cX6_record 19 = .ok (.getfield 13, 3) := by decide +kernel
theorem dX6_record_22 : decode cX6_record 22 = .ok (.iload_n 2, 1) := by decide +kernel
theorem dX6_record_23 : decode cX6_record 23 = .ok (.aload_n 0, 1) := by decide +kernel
theorem dX6_record_24 : decode cX6_record 24 = .ok (.getfield 13, 3) := by decide +kernel
theorem dX6_record_27 : decode cX6_record 27 = .ok (.bipush 59, 2) := by decide +kernel
theorem dX6_record_29 : decode cX6_record 29 = .ok (.iload_n 2, 1) := by decide +kernel
theorem dX6_record_30 : decode cX6_record 30 = .ok (.iadd, 1) := by decide +kernel
theorem dX6_record_31 : decode cX6_record 31 = .ok (.iaload, 1) := by decide +kernel
theorem dX6_record_32 : decode cX6_record 32 = .ok (.iastore, 1) := by decide +kernel
theorem dX6_record_33 : decode cX6_record 33 = .ok (.iinc 2 1, 3) := by decide +kernel
theorem dX6_record_36 : decode cX6_record 36 = .ok (.goto (-25), 3) := by decide +kernel
theorem dX6_record_39 : decode cX6_record 39 = .ok (.aload_n 0, 1) := by decide +kernel
theorem dX6_record_40 : decode cX6_record 40 = .ok (.dup, 1) := by decide +kernel
theorem dX6_record_41 : decode cX6_record 41 = .ok (.getfield 43, 3) := by decide +kernel
theorem dX6_record_44 : decode cX6_record 44 = .ok (.iconst 1, 1) := by decide +kernel
theorem dX6_record_45 : decode cX6_record 45 = .ok (.isub, 1) := by decide +kernel
theorem dX6_record_46 : decode cX6_record 46 = .ok (.putfield 43, 3) := by decide +kernel
theorem dX6_record_49 : decode cX6_record 49 = .ok (.iconst 0, 1) := by decide +kernel
theorem dX6_record_50 : decode cX6_record 50 = .ok (.istore_n 2, 1) := by decide +kernel
theorem dX6_record_51 : decode cX6_record 51 = .ok (.iload_n 2, 1) := by decide +kernel
theorem dX6_record_52 : decode cX6_record 52 = .ok (.bipush 59, 2) := by decide +kernel
theorem dX6_record_54 : decode cX6_record 54 = .ok (.if_icmp .ge 29, 3) := by decide +kernel
theorem dX6_record_57 : decode cX6_record 57 = .ok (.aload_n 0, 1) := by decide +kernel
theorem dX6_record_58 : decode cX6_record 58 = .ok (.getfield 13, 3) := by decide +kernel
theorem dX6_record_61 : decode cX6_record 61 = .ok (.bipush 59, 2) := by decide +kernel
theorem dX6_record_63 : decode cX6_record 63 = .ok (.aload_n 0, 1) := by decide +kernel
theorem dX6_record_64 : decode cX6_record 64 = .ok (.getfield 43, 3) := by decide +kernel
theorem dX6_record_67 : decode cX6_record 67 = .ok (.imul, 1) := by decide +kernel
theorem dX6_record_68 : decode cX6_record 68 = .ok (.iload_n 2, 1) := by decide +kernel
theorem dX6_record_69 : decode cX6_record 69 = .ok (.iadd, 1) := by decide +kernel
theorem dX6_record_70 : decode cX6_record 70 = .ok (.aload_n 0, 1) := by decide +kernel
theorem dX6_record_71 : decode cX6_record 71 = .ok (.getfield 16, 3) := by decide +kernel
theorem dX6_record_74 : decode cX6_record 74 = .ok (.iload_n 2, 1) := by decide +kernel
theorem dX6_record_75 : decode cX6_record 75 = .ok (.iaload, 1) := by decide +kernel
theorem dX6_record_76 : decode cX6_record 76 = .ok (.iastore, 1) := by decide +kernel
theorem dX6_record_77 : decode cX6_record 77 = .ok (.iinc 2 1, 3) := by decide +kernel
theorem dX6_record_80 : decode cX6_record 80 = .ok (.goto (-29), 3) := by decide +kernel
theorem dX6_record_83 : decode cX6_record 83 = .ok (.aload_n 0, 1) := by decide +kernel
theorem dX6_record_84 : decode cX6_record 84 = .ok (.dup, 1) := by decide +kernel
theorem dX6_record_85 : decode cX6_record 85 = .ok (.getfield 43, 3) := by decide +kernel
theorem dX6_record_88 : decode cX6_record 88 = .ok (.iconst 1, 1) := by decide +kernel
theorem dX6_record_89 : decode cX6_record 89 = .ok (.iadd, 1) := by decide +kernel
theorem dX6_record_90 : decode cX6_record 90 = .ok (.putfield 43, 3) := by decide +kernel
theorem dX6_record_93 : decode cX6_record 93 = .ok (.iload_n 1, 1) := by decide +kernel
theorem dX6_record_94 : decode cX6_record 94 = .ok (.ireturn, 1) := by decide +kernel
theorem dX6_undo_0 : decode cX6_undo 0 = .ok (.aload_n 0, 1) := by decide +kernel
theorem dX6_undo_1 : decode cX6_undo 1 = .ok (.iconst 0, 1) := by decide +kernel
theorem dX6_undo_2 : decode cX6_undo 2 = .ok (.putfield 35, 3) := by decide +kernel
theorem dX6_undo_5 : decode cX6_undo 5 = .ok (.aload_n 0, 1) := by decide +kernel
theorem dX6_undo_6 : decode cX6_undo 6 = .ok (.getfield 43, 3) := by decide +kernel
theorem dX6_undo_9 : decode cX6_undo 9 = .ok (.ifCond .ne 9, 3) := by decide +kernel
theorem dX6_undo_12 : decode cX6_undo 12 = .ok (.aload_n 0, 1) := by decide +kernel
theorem dX6_undo_13 : decode cX6_undo 13 = .ok (.iconst 1, 1) := by decide +kernel
theorem dX6_undo_14 : decode cX6_undo 14 = .ok (.invokevirtual 46, 3) := by decide +kernel
theorem dX6_undo_17 : decode cX6_undo 17 = .ok (.ireturn, 1) := by decide +kernel
theorem dX6_undo_18 : decode cX6_undo 18 = .ok (.aload_n 0, 1) := by decide +kernel
theorem dX6_undo_19 : decode cX6_undo 19 = .ok (.dup, 1) := by decide +kernel
theorem dX6_undo_20 : decode cX6_undo 20 = .ok (.getfield 43, 3) := by decide +kernel
theorem dX6_undo_23 : decode cX6_undo 23 = .ok (.iconst 1, 1) := by decide +kernel
theorem dX6_undo_24 : decode cX6_undo 24 = .ok (.isub, 1) := by decide +kernel
theorem dX6_undo_25 : decode cX6_undo 25 = .ok (.putfield 43, 3) := by decide +kernel
theorem dX6_undo_28 : decode cX6_undo 28 = .ok (.iconst 0, 1) := by decide +kernel
theorem dX6_undo_29 : decode cX6_undo 29 = .ok (.istore_n 1, 1) := by decide +kernel
theorem dX6_undo_30 : decode cX6_undo 30 = .ok (.iload_n 1, 1) := by decide +kernel
theorem dX6_undo_31 : decode cX6_undo 31 = .ok (.bipush 59, 2) := by decide +kernel
theorem dX6_undo_33 : decode cX6_undo 33 = .ok (.if_icmp .ge 29, 3) := by decide +kernel
theorem dX6_undo_36 : decode cX6_undo 36 = .ok (.aload_n 0, 1) := by decide +kernel
theorem dX6_undo_37 : decode cX6_undo 37 = .ok (.getfield 7, 3) := by decide +kernel
theorem dX6_undo_40 : decode cX6_undo 40 = .ok (.iload_n 1, 1) := by decide +kernel
theorem dX6_undo_41 : decode cX6_undo 41 = .ok (.aload_n 0, 1) := by decide +kernel
theorem dX6_undo_42 : decode cX6_undo 42 = .ok (.getfield 13, 3) := by decide +kernel
theorem dX6_undo_45 : decode cX6_undo 45 = .ok (.bipush 59, 2) := by decide +kernel
theorem dX6_undo_47 : decode cX6_undo 47 = .ok (.aload_n 0, 1) := by decide +kernel
theorem dX6_undo_48 : decode cX6_undo 48 = .ok (.getfield 43, 3) := by decide +kernel
theorem dX6_undo_51 : decode cX6_undo 51 = .ok (.imul, 1) := by decide +kernel
theorem dX6_undo_52 : decode cX6_undo 52 = .ok (.iload_n 1, 1) := by decide +kernel
theorem dX6_undo_53 : decode cX6_undo 53 = .ok (.iadd, 1) := by decide +kernel
theorem dX6_undo_54 : decode cX6_undo 54 = .ok (.iaload, 1) := by decide +kernel
theorem dX6_undo_55 : decode cX6_undo 55 = .ok (.iastore, 1) := by decide +kernel
theorem dX6_undo_56 : decode cX6_undo 56 = .ok (.iinc 1 1, 3) := by decide +kernel
theorem dX6_undo_59 : decode cX6_undo 59 = .ok (.goto (-29), 3) := by decide +kernel
theorem dX6_undo_62 : decode cX6_undo 62 = .ok (.aload_n 0, 1) := by decide +kernel
theorem dX6_undo_63 : decode cX6_undo 63 = .ok (.getfield 43, 3) := by decide +kernel
theorem dX6_undo_66 : decode cX6_undo 66 = .ok (.ireturn, 1) := by decide +kernel
theorem dX6_keep_0 : decode cX6_keep 0 = .ok (.aload_n 0, 1) := by decide +kernel
theorem dX6_keep_1 : decode cX6_keep 1 = .ok (.iconst 0, 1) := by decide +kernel
theorem dX6_keep_2 : decode cX6_keep 2 = .ok (.putfield 35, 3) := by decide +kernel
theorem dX6_keep_5 : decode cX6_keep 5 = .ok (.iload_n 1, 1) := by decide +kernel
theorem dX6_keep_6 : decode cX6_keep 6 = .ok (.iconst 0, 1) := by decide +kernel
theorem dX6_keep_7 : decode cX6_keep 7 = .ok (.iconst 1, 1) := by decide +kernel
theorem dX6_keep_8 : decode cX6_keep 8 = .ok (.invokestatic 39, 3) := by decide +kernel
theorem dX6_keep_11 : decode cX6_keep 11 = .ok (.ifCond .ne 9, 3) := by decide +kernel
theorem dX6_keep_14 : decode cX6_keep 14 = .ok (.aload_n 0, 1) := by decide +kernel
theorem dX6_keep_15 : decode cX6_keep 15 = .ok (.iconst 1, 1) := by decide +kernel
theorem dX6_keep_16 : decode cX6_keep 16 = .ok (.invokevirtual 46, 3) := by decide +kernel
theorem dX6_keep_19 : decode cX6_keep 19 = .ok (.ireturn, 1) := by decide +kernel
theorem dX6_keep_20 : decode cX6_keep 20 = .ok (.iconst 0, 1) := by decide +kernel
theorem dX6_keep_21 : decode cX6_keep 21 = .ok (.istore_n 2, 1) := by decide +kernel
theorem dX6_keep_22 : decode cX6_keep 22 = .ok (.iload_n 2, 1) := by decide +kernel
theorem dX6_keep_23 : decode cX6_keep 23 = .ok (.bipush 59, 2) := by decide +kernel
theorem dX6_keep_25 : decode cX6_keep 25 = .ok (.if_icmp .ge 26, 3) := by decide +kernel
theorem dX6_keep_28 : decode cX6_keep 28 = .ok (.aload_n 0, 1) := by decide +kernel
theorem dX6_keep_29 : decode cX6_keep 29 = .ok (.getfield 19, 3) := by decide +kernel
theorem dX6_keep_32 : decode cX6_keep 32 = .ok (.bipush 59, 2) := by decide +kernel
theorem dX6_keep_34 : decode cX6_keep 34 = .ok (.iload_n 1, 1) := by decide +kernel
theorem dX6_keep_35 : decode cX6_keep 35 = .ok (.imul, 1) := by decide +kernel
theorem dX6_keep_36 : decode cX6_keep 36 = .ok (.iload_n 2, 1) := by decide +kernel
theorem dX6_keep_37 : decode cX6_keep 37 = .ok (.iadd, 1) := by decide +kernel
theorem dX6_keep_38 : decode cX6_keep 38 = .ok (.aload_n 0, 1) := by decide +kernel
theorem dX6_keep_39 : decode cX6_keep 39 = .ok (.getfield 7, 3) := by decide +kernel
theorem dX6_keep_42 : decode cX6_keep 42 = .ok (.iload_n 2, 1) := by decide +kernel
theorem dX6_keep_43 : decode cX6_keep 43 = .ok (.iaload, 1) := by decide +kernel
theorem dX6_keep_44 : decode cX6_keep 44 = .ok (.iastore, 1) := by decide +kernel
theorem dX6_keep_45 : decode cX6_keep 45 = .ok (.iinc 2 1, 3) := by decide +kernel
theorem dX6_keep_48 : decode cX6_keep 48 = .ok (.goto (-26), 3) := by decide +kernel
theorem dX6_keep_51 : decode cX6_keep 51 = .ok (.aload_n 0, 1) := by decide +kernel
theorem dX6_keep_52 : decode cX6_keep 52 = .ok (.getfield 22, 3) := by decide +kernel
theorem dX6_keep_55 : decode cX6_keep 55 = .ok (.iload_n 1, 1) := by decide +kernel
theorem dX6_keep_56 : decode cX6_keep 56 = .ok (.iconst 1, 1) := by decide +kernel
theorem dX6_keep_57 : decode cX6_keep 57 = .ok (.bastore, 1) := by decide +kernel
theorem dX6_keep_58 : decode cX6_keep 58 = .ok (.aload_n 0, 1) := by decide +kernel
theorem dX6_keep_59 : decode cX6_keep 59 = .ok (.getfield 7, 3) := by decide +kernel
theorem dX6_keep_62 : decode cX6_keep 62 = .ok (.bipush 7, 2) := by decide +kernel
theorem dX6_keep_64 : decode cX6_keep 64 = .ok (.iaload, 1) := by decide +kernel
theorem dX6_keep_65 : decode cX6_keep 65 = .ok (.ireturn, 1) := by decide +kernel
theorem dX6_goBack_0 : decode cX6_goBack 0 = .ok (.aload_n 0, 1) := by decide +kernel
theorem dX6_goBack_1 : decode cX6_goBack 1 = .ok (.iconst 0, 1) := by decide +kernel
theorem dX6_goBack_2 : decode cX6_goBack 2 = .ok (.putfield 35, 3) := by decide +kernel
theorem dX6_goBack_5 : decode cX6_goBack 5 = .ok (.iload_n 1, 1) := by decide +kernel
theorem dX6_goBack_6 : decode cX6_goBack 6 = .ok (.iconst 0, 1) := by decide +kernel
theorem dX6_goBack_7 : decode cX6_goBack 7 = .ok (.iconst 1, 1) := by decide +kernel
theorem dX6_goBack_8 : decode cX6_goBack 8 = .ok (.invokestatic 39, 3) := by decide +kernel
theorem dX6_goBack_11 : decode cX6_goBack 11 = .ok (.ifCond .ne 9, 3) := by decide +kernel
theorem dX6_goBack_14 : decode cX6_goBack 14 = .ok (.aload_n 0, 1) := by decide +kernel
theorem dX6_goBack_15 : decode cX6_goBack 15 = .ok (.iconst 1, 1) := by decide +kernel
theorem dX6_goBack_16 : decode cX6_goBack 16 = .ok (.invokevirtual 46, 3) := by decide +kernel
theorem dX6_goBack_19 : decode cX6_goBack 19 = .ok (.ireturn, 1) := by decide +kernel
theorem dX6_goBack_20 : decode cX6_goBack 20 = .ok (.aload_n 0, 1) := by decide +kernel
theorem dX6_goBack_21 : decode cX6_goBack 21 = .ok (.getfield 22, 3) := by decide +kernel
theorem dX6_goBack_24 : decode cX6_goBack 24 = .ok (.iload_n 1, 1) := by decide +kernel
theorem dX6_goBack_25 : decode cX6_goBack 25 = .ok (.baload, 1) := by decide +kernel
theorem dX6_goBack_26 : decode cX6_goBack 26 = .ok (.ifCond .ne 9, 3) := by decide +kernel
theorem dX6_goBack_29 : decode cX6_goBack 29 = .ok (.aload_n 0, 1) := by decide +kernel
theorem dX6_goBack_30 : decode cX6_goBack 30 = .ok (.iconst 2, 1) := by decide +kernel
theorem dX6_goBack_31 : decode cX6_goBack 31 = .ok (.invokevirtual 46, 3) := by decide +kernel
theorem dX6_goBack_34 : decode cX6_goBack 34 = .ok (.ireturn, 1) := by decide +kernel
theorem dX6_goBack_35 : decode cX6_goBack 35 = .ok (.aload_n 0, 1) := by decide +kernel
theorem dX6_goBack_36 : decode cX6_goBack 36 = .ok (.invokevirtual 50, 3) := by decide +kernel
theorem dX6_goBack_39 : decode cX6_goBack 39 = .ok (.iconst 0, 1) := by decide +kernel
theorem dX6_goBack_40 : decode cX6_goBack 40 = .ok (.istore_n 2, 1) := by decide +kernel
theorem dX6_goBack_41 : decode cX6_goBack 41 = .ok (.iload_n 2, 1) := by decide +kernel
theorem dX6_goBack_42 : decode cX6_goBack 42 = .ok (.bipush 59, 2) := by decide +kernel
theorem dX6_goBack_44 : decode cX6_goBack 44 = .ok (.if_icmp .ge 26, 3) := by decide +kernel
theorem dX6_goBack_47 : decode cX6_goBack 47 = .ok (.aload_n 0, 1) := by decide +kernel
theorem dX6_goBack_48 : decode cX6_goBack 48 = .ok (.getfield 7, 3) := by decide +kernel
theorem dX6_goBack_51 : decode cX6_goBack 51 = .ok (.iload_n 2, 1) := by decide +kernel
theorem dX6_goBack_52 : decode cX6_goBack 52 = .ok (.aload_n 0, 1) := by decide +kernel
theorem dX6_goBack_53 : decode cX6_goBack 53 = .ok (.getfield 19, 3) := by decide +kernel
theorem dX6_goBack_56 : decode cX6_goBack 56 = .ok (.bipush 59, 2) := by decide +kernel
theorem dX6_goBack_58 : decode cX6_goBack 58 = .ok (.iload_n 1, 1) := by decide +kernel
theorem dX6_goBack_59 : decode cX6_goBack 59 = .ok (.imul, 1) := by decide +kernel
theorem dX6_goBack_60 : decode cX6_goBack 60 = .ok (.iload_n 2, 1) := by decide +kernel
theorem dX6_goBack_61 : decode cX6_goBack 61 = .ok (.iadd, 1) := by decide +kernel
theorem dX6_goBack_62 : decode cX6_goBack 62 = .ok (.iaload, 1) := by decide +kernel
theorem dX6_goBack_63 : decode cX6_goBack 63 = .ok (.iastore, 1) := by decide +kernel
theorem dX6_goBack_64 : decode cX6_goBack 64 = .ok (.iinc 2 1, 3) := by decide +kernel
theorem dX6_goBack_67 : decode cX6_goBack 67 = .ok (.goto (-26), 3) := by decide +kernel
theorem dX6_goBack_70 : decode cX6_goBack 70 = .ok (.aload_n 0, 1) := by decide +kernel
theorem dX6_goBack_71 : decode cX6_goBack 71 = .ok (.aload_n 0, 1) := by decide +kernel
theorem dX6_goBack_72 : decode cX6_goBack 72 = .ok (.getfield 7, 3) := by decide +kernel
theorem dX6_goBack_75 : decode cX6_goBack 75 = .ok (.bipush 7, 2) := by decide +kernel
theorem dX6_goBack_77 : decode cX6_goBack 77 = .ok (.iaload, 1) := by decide +kernel
theorem dX6_goBack_78 : decode cX6_goBack 78 = .ok (.invokevirtual 53, 3) := by decide +kernel
theorem dX6_goBack_81 : decode cX6_goBack 81 = .ok (.ireturn, 1) := by decide +kernel
theorem dX6_size_0 : decode cX6_size 0 = .ok (.iload_n 0, 1) := by decide +kernel
theorem dX6_size_1 : decode cX6_size 1 = .ok (.ifCond .ge 8, 3) := by decide +kernel
theorem dX6_size_4 : decode cX6_size 4 = .ok (.iload_n 0, 1) := by decide +kernel
theorem dX6_size_5 : decode cX6_size 5 = .ok (.ineg, 1) := by decide +kernel
theorem dX6_size_6 : decode cX6_size 6 = .ok (.goto 4, 3) := by decide +kernel
theorem dX6_size_9 : decode cX6_size 9 = .ok (.iload_n 0, 1) := by decide +kernel
theorem dX6_size_10 : decode cX6_size 10 = .ok (.ireturn, 1) := by decide +kernel
theorem dX6_sees_0 : decode cX6_sees 0 = .ok (.aload_n 0, 1) := by decide +kernel
theorem dX6_sees_1 : decode cX6_sees 1 = .ok (.getfield 7, 3) := by decide +kernel
theorem dX6_sees_4 : decode cX6_sees 4 = .ok (.bipush 11, 2) := by decide +kernel
theorem dX6_sees_6 : decode cX6_sees 6 = .ok (.iload_n 1, 1) := by decide +kernel
theorem dX6_sees_7 : decode cX6_sees 7 = .ok (.iadd, 1) := by decide +kernel
theorem dX6_sees_8 : decode cX6_sees 8 = .ok (.iaload, 1) := by decide +kernel
theorem dX6_sees_9 : decode cX6_sees 9 = .ok (.aload_n 0, 1) := by decide +kernel
theorem dX6_sees_10 : decode cX6_sees 10 = .ok (.getfield 7, 3) := by decide +kernel
theorem dX6_sees_13 : decode cX6_sees 13 = .ok (.bipush 11, 2) := by decide +kernel
theorem dX6_sees_15 : decode cX6_sees 15 = .ok (.iload_n 2, 1) := by decide +kernel
theorem dX6_sees_16 : decode cX6_sees 16 = .ok (.iadd, 1) := by decide +kernel
theorem dX6_sees_17 : decode cX6_sees 17 = .ok (.iaload, 1) := by decide +kernel
theorem dX6_sees_18 : decode cX6_sees 18 = .ok (.if_icmp .le 15, 3) := by decide +kernel
theorem dX6_sees_21 : decode cX6_sees 21 = .ok (.aload_n 0, 1) := by decide +kernel
theorem dX6_sees_22 : decode cX6_sees 22 = .ok (.getfield 7, 3) := by decide +kernel
theorem dX6_sees_25 : decode cX6_sees 25 = .ok (.bipush 11, 2) := by decide +kernel
theorem dX6_sees_27 : decode cX6_sees 27 = .ok (.iload_n 1, 1) := by decide +kernel
theorem dX6_sees_28 : decode cX6_sees 28 = .ok (.iadd, 1) := by decide +kernel
theorem dX6_sees_29 : decode cX6_sees 29 = .ok (.iaload, 1) := by decide +kernel
theorem dX6_sees_30 : decode cX6_sees 30 = .ok (.goto 12, 3) := by decide +kernel
theorem dX6_sees_33 : decode cX6_sees 33 = .ok (.aload_n 0, 1) := by decide +kernel
theorem dX6_sees_34 : decode cX6_sees 34 = .ok (.getfield 7, 3) := by decide +kernel
theorem dX6_sees_37 : decode cX6_sees 37 = .ok (.bipush 11, 2) := by decide +kernel
theorem dX6_sees_39 : decode cX6_sees 39 = .ok (.iload_n 2, 1) := by decide +kernel
theorem dX6_sees_40 : decode cX6_sees 40 = .ok (.iadd, 1) := by decide +kernel
theorem dX6_sees_41 : decode cX6_sees 41 = .ok (.iaload, 1) := by decide +kernel
theorem dX6_sees_42 : decode cX6_sees 42 = .ok (.istore_n 3, 1) := by decide +kernel
theorem dX6_sees_43 : decode cX6_sees 43 = .ok (.iload_n 1, 1) := by decide +kernel
theorem dX6_sees_44 : decode cX6_sees 44 = .ok (.iload_n 2, 1) := by decide +kernel
theorem dX6_sees_45 : decode cX6_sees 45 = .ok (.if_icmp .ge 7, 3) := by decide +kernel
theorem dX6_sees_48 : decode cX6_sees 48 = .ok (.iload_n 1, 1) := by decide +kernel
theorem dX6_sees_49 : decode cX6_sees 49 = .ok (.goto 4, 3) := by decide +kernel
theorem dX6_sees_52 : decode cX6_sees 52 = .ok (.iload_n 2, 1) := by decide +kernel
theorem dX6_sees_53 : decode cX6_sees 53 = .ok (.istore 4, 2) := by decide +kernel
theorem dX6_sees_55 : decode cX6_sees 55 = .ok (.iload_n 1, 1) := by decide +kernel
theorem dX6_sees_56 : decode cX6_sees 56 = .ok (.iload_n 2, 1) := by decide +kernel
theorem dX6_sees_57 : decode cX6_sees 57 = .ok (.if_icmp .ge 7, 3) := by decide +kernel
theorem dX6_sees_60 : decode cX6_sees 60 = .ok (.iload_n 2, 1) := by decide +kernel
theorem dX6_sees_61 : decode cX6_sees 61 = .ok (.goto 4, 3) := by decide +kernel
theorem dX6_sees_64 : decode cX6_sees 64 = .ok (.iload_n 1, 1) := by decide +kernel
theorem dX6_sees_65 : decode cX6_sees 65 = .ok (.istore 5, 2) := by decide +kernel
theorem dX6_sees_67 : decode cX6_sees 67 = .ok (.iload 4, 2) := by decide +kernel
theorem dX6_sees_69 : decode cX6_sees 69 = .ok (.iconst 1, 1) := by decide +kernel
theorem dX6_sees_70 : decode cX6_sees 70 = .ok (.iadd, 1) := by decide +kernel
theorem dX6_sees_71 : decode cX6_sees 71 = .ok (.istore 6, 2) := by decide +kernel
theorem dX6_sees_73 : decode cX6_sees 73 = .ok (.iload 6, 2) := by decide +kernel
theorem dX6_sees_75 : decode cX6_sees 75 = .ok (.iload 5, 2) := by decide +kernel
theorem dX6_sees_77 : decode cX6_sees 77 = .ok (.if_icmp .ge 25, 3) := by decide +kernel
theorem dX6_sees_80 : decode cX6_sees 80 = .ok (.aload_n 0, 1) := by decide +kernel
theorem dX6_sees_81 : decode cX6_sees 81 = .ok (.getfield 7, 3) := by decide +kernel
theorem dX6_sees_84 : decode cX6_sees 84 = .ok (.bipush 11, 2) := by decide +kernel
theorem dX6_sees_86 : decode cX6_sees 86 = .ok (.iload 6, 2) := by decide +kernel
theorem dX6_sees_88 : decode cX6_sees 88 = .ok (.iadd, 1) := by decide +kernel
theorem dX6_sees_89 : decode cX6_sees 89 = .ok (.iaload, 1) := by decide +kernel
theorem dX6_sees_90 : decode cX6_sees 90 = .ok (.iload_n 3, 1) := by decide +kernel
theorem dX6_sees_91 : decode cX6_sees 91 = .ok (.if_icmp .le 5, 3) := by decide +kernel
theorem dX6_sees_94 : decode cX6_sees 94 = .ok (.iconst 0, 1) := by decide +kernel
theorem dX6_sees_95 : decode cX6_sees 95 = .ok (.ireturn, 1) := by decide +kernel
theorem dX6_sees_96 : decode cX6_sees 96 = .ok (.iinc 6 1, 3) := by decide +kernel
theorem dX6_sees_99 : decode cX6_sees 99 = .ok (.goto (-26), 3) := by decide +kernel
theorem dX6_sees_102 : decode cX6_sees 102 = .ok (.iconst 1, 1) := by decide +kernel
theorem dX6_sees_103 : decode cX6_sees 103 = .ok (.ireturn, 1) := by decide +kernel
theorem dX6_strideOf_0 : decode cX6_strideOf 0 = .ok (.aload_n 0, 1) := by decide +kernel
theorem dX6_strideOf_1 : decode cX6_strideOf 1 = .ok (.getfield 7, 3) := by decide +kernel
theorem dX6_strideOf_4 : decode cX6_strideOf 4 = .ok (.bipush 11, 2) := by decide +kernel
theorem dX6_strideOf_6 : decode cX6_strideOf 6 = .ok (.iload_n 2, 1) := by decide +kernel
theorem dX6_strideOf_7 : decode cX6_strideOf 7 = .ok (.iadd, 1) := by decide +kernel
theorem dX6_strideOf_8 : decode cX6_strideOf 8 = .ok (.iaload, 1) := by decide +kernel
theorem dX6_strideOf_9 : decode cX6_strideOf 9 = .ok (.aload_n 0, 1) := by decide +kernel
theorem dX6_strideOf_10 : decode cX6_strideOf 10 = .ok (.getfield 7, 3) := by decide +kernel
theorem dX6_strideOf_13 : decode cX6_strideOf 13 = .ok (.bipush 11, 2) := by decide +kernel
theorem dX6_strideOf_15 : decode cX6_strideOf 15 = .ok (.iload_n 1, 1) := by decide +kernel
theorem dX6_strideOf_16 : decode cX6_strideOf 16 = .ok (.iadd, 1) := by decide +kernel
theorem dX6_strideOf_17 : decode cX6_strideOf 17 = .ok (.iaload, 1) := by decide +kernel
theorem dX6_strideOf_18 : decode cX6_strideOf 18 = .ok (.isub, 1) := by decide +kernel
theorem dX6_strideOf_19 : decode cX6_strideOf 19 = .ok (.istore_n 3, 1) := by decide +kernel
theorem dX6_strideOf_20 : decode cX6_strideOf 20 = .ok (.aload_n 0, 1) := by decide +kernel
theorem dX6_strideOf_21 : decode cX6_strideOf 21 = .ok (.getfield 7, 3) := by decide +kernel
theorem dX6_strideOf_24 : decode cX6_strideOf 24 = .ok (.iconst 1, 1) := by decide +kernel
theorem dX6_strideOf_25 : decode cX6_strideOf 25 = .ok (.iaload, 1) := by decide +kernel
theorem dX6_strideOf_26 : decode cX6_strideOf 26 = .ok (.iload_n 1, 1) := by decide +kernel
theorem dX6_strideOf_27 : decode cX6_strideOf 27 = .ok (.iload_n 2, 1) := by decide +kernel
theorem dX6_strideOf_28 : decode cX6_strideOf 28 = .ok (.isub, 1) := by decide +kernel
theorem dX6_strideOf_29 : decode cX6_strideOf 29 = .ok (.invokestatic 56, 3) := by decide +kernel
theorem dX6_strideOf_32 : decode cX6_strideOf 32 = .ok (.imul, 1) := by decide +kernel
theorem dX6_strideOf_33 : decode cX6_strideOf 33 = .ok (.iload_n 3, 1) := by decide +kernel
theorem dX6_strideOf_34 : decode cX6_strideOf 34 = .ok (.ifCond .le 7, 3) := by decide +kernel
theorem dX6_strideOf_37 : decode cX6_strideOf 37 = .ok (.iload_n 3, 1) := by decide +kernel
theorem dX6_strideOf_38 : decode cX6_strideOf 38 = .ok (.goto 4, 3) := by decide +kernel
theorem dX6_strideOf_41 : decode cX6_strideOf 41 = .ok (.iconst 0, 1) := by decide +kernel
theorem dX6_strideOf_42 : decode cX6_strideOf 42 = .ok (.iadd, 1) := by decide +kernel
theorem dX6_strideOf_43 : decode cX6_strideOf 43 = .ok (.ireturn, 1) := by decide +kernel
theorem dX6_seen_0 : decode cX6_seen 0 = .ok (.iconst 0, 1) := by decide +kernel
theorem dX6_seen_1 : decode cX6_seen 1 = .ok (.istore_n 2, 1) := by decide +kernel
theorem dX6_seen_2 : decode cX6_seen 2 = .ok (.iconst 0, 1) := by decide +kernel
theorem dX6_seen_3 : decode cX6_seen 3 = .ok (.istore_n 3, 1) := by decide +kernel
theorem dX6_seen_4 : decode cX6_seen 4 = .ok (.iload_n 3, 1) := by decide +kernel
theorem dX6_seen_5 : decode cX6_seen 5 = .ok (.bipush 10, 2) := by decide +kernel
theorem dX6_seen_7 : decode cX6_seen 7 = .ok (.if_icmp .ge 28, 3) := by decide +kernel
theorem dX6_seen_10 : decode cX6_seen 10 = .ok (.iload_n 2, 1) := by decide +kernel
theorem dX6_seen_11 : decode cX6_seen 11 = .ok (.aload_n 0, 1) := by decide +kernel
theorem dX6_seen_12 : decode cX6_seen 12 = .ok (.iload_n 1, 1) := by decide +kernel
theorem dX6_seen_13 : decode cX6_seen 13 = .ok (.iload_n 3, 1) := by decide +kernel
theorem dX6_seen_14 : decode cX6_seen 14 = .ok (.invokevirtual 59, 3) := by decide +kernel
theorem dX6_seen_17 : decode cX6_seen 17 = .ok (.ifCond .eq 9, 3) := by decide +kernel
theorem dX6_seen_20 : decode cX6_seen 20 = .ok (.iconst 1, 1) := by decide +kernel
theorem dX6_seen_21 : decode cX6_seen 21 = .ok (.iload_n 3, 1) := by decide +kernel
theorem dX6_seen_22 : decode cX6_seen 22 = .ok (.ishl, 1) := by decide +kernel
theorem dX6_seen_23 : decode cX6_seen 23 = .ok (.goto 4, 3) := by decide +kernel
theorem dX6_seen_26 : decode cX6_seen 26 = .ok (.iconst 0, 1) := by decide +kernel
theorem dX6_seen_27 : decode cX6_seen 27 = .ok (.ior, 1) := by decide +kernel
theorem dX6_seen_28 : decode cX6_seen 28 = .ok (.istore_n 2, 1) := by decide +kernel
theorem dX6_seen_29 : decode cX6_seen 29 = .ok (.iinc 3 1, 3) := by decide +kernel
theorem dX6_seen_32 : decode cX6_seen 32 = .ok (.goto (-28), 3) := by decide +kernel
theorem dX6_seen_35 : decode cX6_seen 35 = .ok (.iload_n 2, 1) := by decide +kernel
theorem dX6_seen_36 : decode cX6_seen 36 = .ok (.ireturn, 1) := by decide +kernel
end
section
theorem dX6_take_0 : decode cX6_take 0 = .ok (.aload_n 0, 1) := by decide +kernel
theorem dX6_take_1 : decode cX6_take 1 = .ok (.aload_n 0, 1) := by decide +kernel
theorem dX6_take_2 : decode cX6_take 2 = .ok (.iload_n 1, 1) := by decide +kernel
theorem dX6_take_3 : decode cX6_take 3 = .ok (.iconst 0, 1) := by decide +kernel
theorem dX6_take_4 : decode cX6_take 4 = .ok (.invokevirtual 63, 3) := by decide +kernel
theorem dX6_take_7 : decode cX6_take 7 = .ok (.putfield 67, 3) := by decide +kernel
theorem dX6_take_10 : decode cX6_take 10 = .ok (.aload_n 0, 1) := by decide +kernel
theorem dX6_take_11 : decode cX6_take 11 = .ok (.aload_n 0, 1) := by decide +kernel
theorem dX6_take_12 : decode cX6_take 12 = .ok (.iload_n 1, 1) := by decide +kernel
theorem dX6_take_13 : decode cX6_take 13 = .ok (.iconst 1, 1) := by decide +kernel
theorem dX6_take_14 : decode cX6_take 14 = .ok (.invokevirtual 63, 3) := by decide +kernel
theorem dX6_take_17 : decode cX6_take 17 = .ok (.putfield 70, 3) := by decide +kernel
theorem dX6_take_20 : decode cX6_take 20 = .ok (.aload_n 0, 1) := by decide +kernel
theorem dX6_take_21 : decode cX6_take 21 = .ok (.aload_n 0, 1) := by decide +kernel
theorem dX6_take_22 : decode cX6_take 22 = .ok (.iload_n 1, 1) := by decide +kernel
theorem dX6_take_23 : decode cX6_take 23 = .ok (.iconst 2, 1) := by decide +kernel
theorem dX6_take_24 : decode cX6_take 24 = .ok (.invokevirtual 63, 3) := by decide +kernel
theorem dX6_take_27 : decode cX6_take 27 = .ok (.putfield 73, 3) := by decide +kernel
theorem dX6_take_30 : decode cX6_take 30 = .ok (.iconst 0, 1) := by decide +kernel
theorem dX6_take_31 : decode cX6_take 31 = .ok (.istore_n 2, 1) := by decide +kernel
theorem dX6_take_32 : decode cX6_take 32 = .ok (.iload_n 2, 1) := by decide +kernel
theorem dX6_take_33 : decode cX6_take 33 = .ok (.bipush 10, 2) := by decide +kernel
theorem dX6_take_35 : decode cX6_take 35 = .ok (.if_icmp .ge 24, 3) := by decide +kernel
theorem dX6_take_38 : decode cX6_take 38 = .ok (.aload_n 0, 1) := by decide +kernel
theorem dX6_take_39 : decode cX6_take 39 = .ok (.getfield 29, 3) := by decide +kernel
theorem dX6_take_42 : decode cX6_take 42 = .ok (.iload_n 2, 1) := by decide +kernel
theorem dX6_take_43 : decode cX6_take 43 = .ok (.aload_n 0, 1) := by decide +kernel
theorem dX6_take_44 : decode cX6_take 44 = .ok (.getfield 7, 3) := by decide +kernel
theorem dX6_take_47 : decode cX6_take 47 = .ok (.bipush 21, 2) := by decide +kernel
theorem dX6_take_49 : decode cX6_take 49 = .ok (.iload_n 2, 1) := by decide +kernel
theorem dX6_take_50 : decode cX6_take 50 = .ok (.iadd, 1) := by decide +kernel
theorem dX6_take_51 : decode cX6_take 51 = .ok (.iaload, 1) := by decide +kernel
theorem dX6_take_52 : decode cX6_take 52 = .ok (.iastore, 1) := by decide +kernel
theorem dX6_take_53 : decode cX6_take 53 = .ok (.iinc 2 1, 3) := by decide +kernel
theorem dX6_take_56 : decode cX6_take 56 = .ok (.goto (-24), 3) := by decide +kernel
theorem dX6_take_59 : decode cX6_take 59 = .ok (.return_, 1) := by decide +kernel
theorem dX6_strideReason_0 : decode cX6_strideReason 0 = .ok (.aload_n 0, 1) := by decide +kernel
theorem dX6_strideReason_1 : decode cX6_strideReason 1 = .ok (.getfield 67, 3) := by decide +kernel
theorem dX6_strideReason_4 : decode cX6_strideReason 4 = .ok (.iload_n 1, 1) := by decide +kernel
theorem dX6_strideReason_5 : decode cX6_strideReason 5 = .ok (.if_icmp .ne 7, 3) := by decide +kernel
theorem dX6_strideReason_8 : decode cX6_strideReason 8 = .ok (.iconst 1, 1) := by decide +kernel
theorem dX6_strideReason_9 : decode cX6_strideReason 9 = .ok (.goto 40, 3) := by decide +kernel
theorem dX6_strideReason_12 : decode cX6_strideReason 12 = .ok (.aload_n 0, 1) := by decide +kernel
theorem dX6_strideReason_13 : decode cX6_strideReason 13 = .ok (.aload_n 0, 1) := by decide +kernel
theorem dX6_strideReason_14 : decode cX6_strideReason 14 = .ok (.getfield 67, 3) := by decide +kernel
theorem dX6_strideReason_17 : decode cX6_strideReason 17 = .ok (.iload_n 1, 1) := by decide +kernel
theorem dX6_strideReason_18 : decode cX6_strideReason 18 = .ok (.invokevirtual 59, 3) := by decide +kernel
theorem dX6_strideReason_21 : decode cX6_strideReason 21 = .ok (.ifCond .ne 7, 3) := by decide +kernel
theorem dX6_strideReason_24 : decode cX6_strideReason 24 = .ok (.iconst 2, 1) := by decide +kernel
theorem dX6_strideReason_25 : decode cX6_strideReason 25 = .ok (.goto 24, 3) := by decide +kernel
theorem dX6_strideReason_28 : decode cX6_strideReason 28 = .ok (.aload_n 0, 1) := by decide +kernel
theorem dX6_strideReason_29 : decode cX6_strideReason 29 = .ok (.aload_n 0, 1) := by decide +kernel
theorem dX6_strideReason_30 : decode cX6_strideReason 30 = .ok (.getfield 67, 3) := by decide +kernel
theorem dX6_strideReason_33 : decode cX6_strideReason 33 = .ok (.iload_n 1, 1) := by decide +kernel
theorem dX6_strideReason_34 : decode cX6_strideReason 34 = .ok (.invokevirtual 76, 3) := by decide +kernel
theorem dX6_strideReason_37 : decode cX6_strideReason 37 = .ok (.aload_n 0, 1) := by decide +kernel
theorem dX6_strideReason_38 : decode cX6_strideReason 38 = .ok (.getfield 73, 3) := by decide +kernel
theorem dX6_strideReason_41 : decode cX6_strideReason 41 = .ok (.if_icmp .le 7, 3) := by decide +kernel
theorem dX6_strideReason_44 : decode cX6_strideReason 44 = .ok (.iconst 3, 1) := by decide +kernel
theorem dX6_strideReason_45 : decode cX6_strideReason 45 = .ok (.goto 4, 3) := by decide +kernel
theorem dX6_strideReason_48 : decode cX6_strideReason 48 = .ok (.iconst 0, 1) := by decide +kernel
theorem dX6_strideReason_49 : decode cX6_strideReason 49 = .ok (.ireturn, 1) := by decide +kernel
theorem dX6_strides_0 : decode cX6_strides 0 = .ok (.aload_n 0, 1) := by decide +kernel
theorem dX6_strides_1 : decode cX6_strides 1 = .ok (.aload_n 0, 1) := by decide +kernel
theorem dX6_strides_2 : decode cX6_strides 2 = .ok (.getfield 67, 3) := by decide +kernel
theorem dX6_strides_5 : decode cX6_strides 5 = .ok (.iload_n 1, 1) := by decide +kernel
theorem dX6_strides_6 : decode cX6_strides 6 = .ok (.invokevirtual 76, 3) := by decide +kernel
theorem dX6_strides_9 : decode cX6_strides 9 = .ok (.istore_n 2, 1) := by decide +kernel
theorem dX6_strides_10 : decode cX6_strides 10 = .ok (.aload_n 0, 1) := by decide +kernel
theorem dX6_strides_11 : decode cX6_strides 11 = .ok (.dup, 1) := by decide +kernel
theorem dX6_strides_12 : decode cX6_strides 12 = .ok (.getfield 73, 3) := by decide +kernel
theorem dX6_strides_15 : decode cX6_strides 15 = .ok (.iload_n 2, 1) := by decide +kernel
theorem dX6_strides_16 : decode cX6_strides 16 = .ok (.isub, 1) := by decide +kernel
theorem dX6_strides_17 : decode cX6_strides 17 = .ok (.putfield 73, 3) := by decide +kernel
theorem dX6_strides_20 : decode cX6_strides 20 = .ok (.aload_n 0, 1) := by decide +kernel
theorem dX6_strides_21 : decode cX6_strides 21 = .ok (.getfield 29, 3) := by decide +kernel
theorem dX6_strides_24 : decode cX6_strides 24 = .ok (.aload_n 0, 1) := by decide +kernel
theorem dX6_strides_25 : decode cX6_strides 25 = .ok (.getfield 67, 3) := by decide +kernel
theorem dX6_strides_28 : decode cX6_strides 28 = .ok (.dup2, 1) := by decide +kernel
theorem dX6_strides_29 : decode cX6_strides 29 = .ok (.iaload, 1) := by decide +kernel
theorem dX6_strides_30 : decode cX6_strides 30 = .ok (.iload_n 2, 1) := by decide +kernel
theorem dX6_strides_31 : decode cX6_strides 31 = .ok (.iadd, 1) := by decide +kernel
theorem dX6_strides_32 : decode cX6_strides 32 = .ok (.iastore, 1) := by decide +kernel
theorem dX6_strides_33 : decode cX6_strides 33 = .ok (.aload_n 0, 1) := by decide +kernel
theorem dX6_strides_34 : decode cX6_strides 34 = .ok (.iload_n 1, 1) := by decide +kernel
theorem dX6_strides_35 : decode cX6_strides 35 = .ok (.putfield 67, 3) := by decide +kernel
theorem dX6_strides_38 : decode cX6_strides 38 = .ok (.aload_n 0, 1) := by decide +kernel
theorem dX6_strides_39 : decode cX6_strides 39 = .ok (.dup, 1) := by decide +kernel
theorem dX6_strides_40 : decode cX6_strides 40 = .ok (.getfield 70, 3) := by decide +kernel
theorem dX6_strides_43 : decode cX6_strides 43 = .ok (.aload_n 0, 1) := by decide +kernel
theorem dX6_strides_44 : decode cX6_strides 44 = .ok (.getfield 29, 3) := by decide +kernel
theorem dX6_strides_47 : decode cX6_strides 47 = .ok (.iload_n 1, 1) := by decide +kernel
theorem dX6_strides_48 : decode cX6_strides 48 = .ok (.iaload, 1) := by decide +kernel
theorem dX6_strides_49 : decode cX6_strides 49 = .ok (.iadd, 1) := by decide +kernel
theorem dX6_strides_50 : decode cX6_strides 50 = .ok (.putfield 70, 3) := by decide +kernel
theorem dX6_strides_53 : decode cX6_strides 53 = .ok (.aload_n 0, 1) := by decide +kernel
theorem dX6_strides_54 : decode cX6_strides 54 = .ok (.getfield 29, 3) := by decide +kernel
theorem dX6_strides_57 : decode cX6_strides 57 = .ok (.iload_n 1, 1) := by decide +kernel
theorem dX6_strides_58 : decode cX6_strides 58 = .ok (.iconst 0, 1) := by decide +kernel
theorem dX6_strides_59 : decode cX6_strides 59 = .ok (.iastore, 1) := by decide +kernel
theorem dX6_strides_60 : decode cX6_strides 60 = .ok (.return_, 1) := by decide +kernel
theorem dX6_turns_0 : decode cX6_turns 0 = .ok (.aload_n 0, 1) := by decide +kernel
theorem dX6_turns_1 : decode cX6_turns 1 = .ok (.dup, 1) := by decide +kernel
theorem dX6_turns_2 : decode cX6_turns 2 = .ok (.getfield 73, 3) := by decide +kernel
theorem dX6_turns_5 : decode cX6_turns 5 = .ok (.aload_n 0, 1) := by decide +kernel
theorem dX6_turns_6 : decode cX6_turns 6 = .ok (.getfield 7, 3) := by decide +kernel
theorem dX6_turns_9 : decode cX6_turns 9 = .ok (.iconst 2, 1) := by decide +kernel
theorem dX6_turns_10 : decode cX6_turns 10 = .ok (.iaload, 1) := by decide +kernel
theorem dX6_turns_11 : decode cX6_turns 11 = .ok (.isub, 1) := by decide +kernel
theorem dX6_turns_12 : decode cX6_turns 12 = .ok (.putfield 73, 3) := by decide +kernel
theorem dX6_turns_15 : decode cX6_turns 15 = .ok (.aload_n 0, 1) := by decide +kernel
theorem dX6_turns_16 : decode cX6_turns 16 = .ok (.getfield 29, 3) := by decide +kernel
theorem dX6_turns_19 : decode cX6_turns 19 = .ok (.aload_n 0, 1) := by decide +kernel
theorem dX6_turns_20 : decode cX6_turns 20 = .ok (.getfield 67, 3) := by decide +kernel
theorem dX6_turns_23 : decode cX6_turns 23 = .ok (.dup2, 1) := by decide +kernel
theorem dX6_turns_24 : decode cX6_turns 24 = .ok (.iaload, 1) := by decide +kernel
theorem dX6_turns_25 : decode cX6_turns 25 = .ok (.aload_n 0, 1) := by decide +kernel
theorem dX6_turns_26 : decode cX6_turns 26 = .ok (.getfield 7, 3) := by decide +kernel
theorem dX6_turns_29 : decode cX6_turns 29 = .ok (.iconst 2, 1) := by decide +kernel
theorem dX6_turns_30 : decode cX6_turns 30 = .ok (.iaload, 1) := by decide +kernel
theorem dX6_turns_31 : decode cX6_turns 31 = .ok (.iadd, 1) := by decide +kernel
theorem dX6_turns_32 : decode cX6_turns 32 = .ok (.iastore, 1) := by decide +kernel
theorem dX6_turns_33 : decode cX6_turns 33 = .ok (.aload_n 0, 1) := by decide +kernel
theorem dX6_turns_34 : decode cX6_turns 34 = .ok (.getfield 70, 3) := by decide +kernel
theorem dX6_turns_37 : decode cX6_turns 37 = .ok (.istore_n 1, 1) := by decide +kernel
theorem dX6_turns_38 : decode cX6_turns 38 = .ok (.aload_n 0, 1) := by decide +kernel
theorem dX6_turns_39 : decode cX6_turns 39 = .ok (.aload_n 0, 1) := by decide +kernel
theorem dX6_turns_40 : decode cX6_turns 40 = .ok (.getfield 73, 3) := by decide +kernel
theorem dX6_turns_43 : decode cX6_turns 43 = .ok (.putfield 70, 3) := by decide +kernel
theorem dX6_turns_46 : decode cX6_turns 46 = .ok (.aload_n 0, 1) := by decide +kernel
theorem dX6_turns_47 : decode cX6_turns 47 = .ok (.iload_n 1, 1) := by decide +kernel
theorem dX6_turns_48 : decode cX6_turns 48 = .ok (.putfield 73, 3) := by decide +kernel
theorem dX6_turns_51 : decode cX6_turns 51 = .ok (.return_, 1) := by decide +kernel
theorem dX6_runs_0 : decode cX6_runs 0 = .ok (.aload_n 0, 1) := by decide +kernel
theorem dX6_runs_1 : decode cX6_runs 1 = .ok (.getfield 7, 3) := by decide +kernel
theorem dX6_runs_4 : decode cX6_runs 4 = .ok (.iconst 0, 1) := by decide +kernel
theorem dX6_runs_5 : decode cX6_runs 5 = .ok (.iaload, 1) := by decide +kernel
theorem dX6_runs_6 : decode cX6_runs 6 = .ok (.aload_n 0, 1) := by decide +kernel
theorem dX6_runs_7 : decode cX6_runs 7 = .ok (.getfield 70, 3) := by decide +kernel
theorem dX6_runs_10 : decode cX6_runs 10 = .ok (.if_icmp .ge 12, 3) := by decide +kernel
theorem dX6_runs_13 : decode cX6_runs 13 = .ok (.aload_n 0, 1) := by decide +kernel
theorem dX6_runs_14 : decode cX6_runs 14 = .ok (.getfield 7, 3) := by decide +kernel
theorem dX6_runs_17 : decode cX6_runs 17 = .ok (.iconst 0, 1) := by decide +kernel
theorem dX6_runs_18 : decode cX6_runs 18 = .ok (.iaload, 1) := by decide +kernel
theorem dX6_runs_19 : decode cX6_runs 19 = .ok (.goto 7, 3) := by decide +kernel
theorem dX6_runs_22 : decode cX6_runs 22 = .ok (.aload_n 0, 1) := by decide +kernel
theorem dX6_runs_23 : decode cX6_runs 23 = .ok (.getfield 70, 3) := by decide +kernel
theorem dX6_runs_26 : decode cX6_runs 26 = .ok (.istore_n 1, 1) := by decide +kernel
theorem dX6_runs_27 : decode cX6_runs 27 = .ok (.aload_n 0, 1) := by decide +kernel
theorem dX6_runs_28 : decode cX6_runs 28 = .ok (.dup, 1) := by decide +kernel
theorem dX6_runs_29 : decode cX6_runs 29 = .ok (.getfield 70, 3) := by decide +kernel
theorem dX6_runs_32 : decode cX6_runs 32 = .ok (.iload_n 1, 1) := by decide +kernel
theorem dX6_runs_33 : decode cX6_runs 33 = .ok (.isub, 1) := by decide +kernel
theorem dX6_runs_34 : decode cX6_runs 34 = .ok (.putfield 70, 3) := by decide +kernel
theorem dX6_runs_37 : decode cX6_runs 37 = .ok (.aload_n 0, 1) := by decide +kernel
theorem dX6_runs_38 : decode cX6_runs 38 = .ok (.dup, 1) := by decide +kernel
theorem dX6_runs_39 : decode cX6_runs 39 = .ok (.getfield 73, 3) := by decide +kernel
theorem dX6_runs_42 : decode cX6_runs 42 = .ok (.iload_n 1, 1) := by decide +kernel
theorem dX6_runs_43 : decode cX6_runs 43 = .ok (.iadd, 1) := by decide +kernel
theorem dX6_runs_44 : decode cX6_runs 44 = .ok (.putfield 73, 3) := by decide +kernel
theorem dX6_runs_47 : decode cX6_runs 47 = .ok (.iload_n 1, 1) := by decide +kernel
theorem dX6_runs_48 : decode cX6_runs 48 = .ok (.ireturn, 1) := by decide +kernel
theorem dX6_put_0 : decode cX6_put 0 = .ok (.aload_n 0, 1) := by decide +kernel
theorem dX6_put_1 : decode cX6_put 1 = .ok (.getfield 7, 3) := by decide +kernel
theorem dX6_put_4 : decode cX6_put 4 = .ok (.bipush 31, 2) := by decide +kernel
theorem dX6_put_6 : decode cX6_put 6 = .ok (.bipush 7, 2) := by decide +kernel
theorem dX6_put_8 : decode cX6_put 8 = .ok (.iload_n 1, 1) := by decide +kernel
theorem dX6_put_9 : decode cX6_put 9 = .ok (.imul, 1) := by decide +kernel
theorem dX6_put_10 : decode cX6_put 10 = .ok (.iadd, 1) := by decide +kernel
theorem dX6_put_11 : decode cX6_put 11 = .ok (.iconst 0, 1) := by decide +kernel
theorem dX6_put_12 : decode cX6_put 12 = .ok (.iadd, 1) := by decide +kernel
theorem dX6_put_13 : decode cX6_put 13 = .ok (.aload_n 0, 1) := by decide +kernel
theorem dX6_put_14 : decode cX6_put 14 = .ok (.getfield 67, 3) := by decide +kernel
theorem dX6_put_17 : decode cX6_put 17 = .ok (.iastore, 1) := by decide +kernel
theorem dX6_put_18 : decode cX6_put 18 = .ok (.aload_n 0, 1) := by decide +kernel
theorem dX6_put_19 : decode cX6_put 19 = .ok (.getfield 7, 3) := by decide +kernel
theorem dX6_put_22 : decode cX6_put 22 = .ok (.bipush 31, 2) := by decide +kernel
theorem dX6_put_24 : decode cX6_put 24 = .ok (.bipush 7, 2) := by decide +kernel
theorem dX6_put_26 : decode cX6_put 26 = .ok (.iload_n 1, 1) := by decide +kernel
theorem dX6_put_27 : decode cX6_put 27 = .ok (.imul, 1) := by decide +kernel
theorem dX6_put_28 : decode cX6_put 28 = .ok (.iadd, 1) := by decide +kernel
theorem dX6_put_29 : decode cX6_put 29 = .ok (.iconst 1, 1) := by decide +kernel
theorem dX6_put_30 : decode cX6_put 30 = .ok (.iadd, 1) := by decide +kernel
theorem dX6_put_31 : decode cX6_put 31 = .ok (.aload_n 0, 1) := by decide +kernel
theorem dX6_put_32 : decode cX6_put 32 = .ok (.getfield 70, 3) := by decide +kernel
theorem dX6_put_35 : decode cX6_put 35 = .ok (.iastore, 1) := by decide +kernel
theorem dX6_put_36 : decode cX6_put 36 = .ok (.aload_n 0, 1) := by decide +kernel
theorem dX6_put_37 : decode cX6_put 37 = .ok (.getfield 7, 3) := by decide +kernel
theorem dX6_put_40 : decode cX6_put 40 = .ok (.bipush 31, 2) := by decide +kernel
theorem dX6_put_42 : decode cX6_put 42 = .ok (.bipush 7, 2) := by decide +kernel
theorem dX6_put_44 : decode cX6_put 44 = .ok (.iload_n 1, 1) := by decide +kernel
theorem dX6_put_45 : decode cX6_put 45 = .ok (.imul, 1) := by decide +kernel
theorem dX6_put_46 : decode cX6_put 46 = .ok (.iadd, 1) := by decide +kernel
theorem dX6_put_47 : decode cX6_put 47 = .ok (.iconst 2, 1) := by decide +kernel
theorem dX6_put_48 : decode cX6_put 48 = .ok (.iadd, 1) := by decide +kernel
theorem dX6_put_49 : decode cX6_put 49 = .ok (.aload_n 0, 1) := by decide +kernel
theorem dX6_put_50 : decode cX6_put 50 = .ok (.getfield 73, 3) := by decide +kernel
theorem dX6_put_53 : decode cX6_put 53 = .ok (.iastore, 1) := by decide +kernel
theorem dX6_put_54 : decode cX6_put 54 = .ok (.iconst 0, 1) := by decide +kernel
theorem dX6_put_55 : decode cX6_put 55 = .ok (.istore_n 2, 1) := by decide +kernel
theorem dX6_put_56 : decode cX6_put 56 = .ok (.iload_n 2, 1) := by decide +kernel
theorem dX6_put_57 : decode cX6_put 57 = .ok (.bipush 10, 2) := by decide +kernel
theorem dX6_put_59 : decode cX6_put 59 = .ok (.if_icmp .ge 24, 3) := by decide +kernel
theorem dX6_put_62 : decode cX6_put 62 = .ok (.aload_n 0, 1) := by decide +kernel
theorem dX6_put_63 : decode cX6_put 63 = .ok (.getfield 7, 3) := by decide +kernel
theorem dX6_put_66 : decode cX6_put 66 = .ok (.bipush 21, 2) := by decide +kernel
theorem dX6_put_68 : decode cX6_put 68 = .ok (.iload_n 2, 1) := by decide +kernel
theorem dX6_put_69 : decode cX6_put 69 = .ok (.iadd, 1) := by decide +kernel
theorem dX6_put_70 : decode cX6_put 70 = .ok (.aload_n 0, 1) := by decide +kernel
theorem dX6_put_71 : decode cX6_put 71 = .ok (.getfield 29, 3) := by decide +kernel
theorem dX6_put_74 : decode cX6_put 74 = .ok (.iload_n 2, 1) := by decide +kernel
theorem dX6_put_75 : decode cX6_put 75 = .ok (.iaload, 1) := by decide +kernel
theorem dX6_put_76 : decode cX6_put 76 = .ok (.iastore, 1) := by decide +kernel
theorem dX6_put_77 : decode cX6_put 77 = .ok (.iinc 2 1, 3) := by decide +kernel
theorem dX6_put_80 : decode cX6_put 80 = .ok (.goto (-24), 3) := by decide +kernel
theorem dX6_put_83 : decode cX6_put 83 = .ok (.return_, 1) := by decide +kernel
theorem dX6_ends_0 : decode cX6_ends 0 = .ok (.aload_n 0, 1) := by decide +kernel
theorem dX6_ends_1 : decode cX6_ends 1 = .ok (.getfield 7, 3) := by decide +kernel
theorem dX6_ends_4 : decode cX6_ends 4 = .ok (.iconst 5, 1) := by decide +kernel
theorem dX6_ends_5 : decode cX6_ends 5 = .ok (.iaload, 1) := by decide +kernel
theorem dX6_ends_6 : decode cX6_ends 6 = .ok (.istore_n 1, 1) := by decide +kernel
theorem dX6_ends_7 : decode cX6_ends 7 = .ok (.aload_n 0, 1) := by decide +kernel
theorem dX6_ends_8 : decode cX6_ends 8 = .ok (.invokevirtual 79, 3) := by decide +kernel
theorem dX6_ends_11 : decode cX6_ends 11 = .ok (.istore_n 2, 1) := by decide +kernel
theorem dX6_ends_12 : decode cX6_ends 12 = .ok (.aload_n 0, 1) := by decide +kernel
theorem dX6_ends_13 : decode cX6_ends 13 = .ok (.iload_n 1, 1) := by decide +kernel
theorem dX6_ends_14 : decode cX6_ends 14 = .ok (.invokevirtual 83, 3) := by decide +kernel
theorem dX6_ends_17 : decode cX6_ends 17 = .ok (.aload_n 0, 1) := by decide +kernel
theorem dX6_ends_18 : decode cX6_ends 18 = .ok (.iload_n 1, 1) := by decide +kernel
theorem dX6_ends_19 : decode cX6_ends 19 = .ok (.iconst 3, 1) := by decide +kernel
theorem dX6_ends_20 : decode cX6_ends 20 = .ok (.iconst 1, 1) := by decide +kernel
theorem dX6_ends_21 : decode cX6_ends 21 = .ok (.invokevirtual 87, 3) := by decide +kernel
theorem dX6_ends_24 : decode cX6_ends 24 = .ok (.aload_n 0, 1) := by decide +kernel
theorem dX6_ends_25 : decode cX6_ends 25 = .ok (.getfield 7, 3) := by decide +kernel
theorem dX6_ends_28 : decode cX6_ends 28 = .ok (.bipush 7, 2) := by decide +kernel
theorem dX6_ends_30 : decode cX6_ends 30 = .ok (.dup2, 1) := by decide +kernel
theorem dX6_ends_31 : decode cX6_ends 31 = .ok (.iaload, 1) := by decide +kernel
theorem dX6_ends_32 : decode cX6_ends 32 = .ok (.iconst 1, 1) := by decide +kernel
theorem dX6_ends_33 : decode cX6_ends 33 = .ok (.iadd, 1) := by decide +kernel
theorem dX6_ends_34 : decode cX6_ends 34 = .ok (.iastore, 1) := by decide +kernel
theorem dX6_ends_35 : decode cX6_ends 35 = .ok (.aload_n 0, 1) := by decide +kernel
theorem dX6_ends_36 : decode cX6_ends 36 = .ok (.getfield 7, 3) := by decide +kernel
theorem dX6_ends_39 : decode cX6_ends 39 = .ok (.iconst 5, 1) := by decide +kernel
theorem dX6_ends_40 : decode cX6_ends 40 = .ok (.iload_n 1, 1) := by decide +kernel
theorem dX6_ends_41 : decode cX6_ends 41 = .ok (.iconst 1, 1) := by decide +kernel
theorem dX6_ends_42 : decode cX6_ends 42 = .ok (.iadd, 1) := by decide +kernel
theorem dX6_ends_43 : decode cX6_ends 43 = .ok (.aload_n 0, 1) := by decide +kernel
theorem dX6_ends_44 : decode cX6_ends 44 = .ok (.getfield 7, 3) := by decide +kernel
theorem dX6_ends_47 : decode cX6_ends 47 = .ok (.iconst 4, 1) := by decide +kernel
theorem dX6_ends_48 : decode cX6_ends 48 = .ok (.iaload, 1) := by decide +kernel
theorem dX6_ends_49 : decode cX6_ends 49 = .ok (.irem, 1) := by decide +kernel
theorem dX6_ends_50 : decode cX6_ends 50 = .ok (.iastore, 1) := by decide +kernel
theorem dX6_ends_51 : decode cX6_ends 51 = .ok (.iload_n 2, 1) := by decide +kernel
theorem dX6_ends_52 : decode cX6_ends 52 = .ok (.ireturn, 1) := by decide +kernel
theorem dX6_refuses_0 : decode cX6_refuses 0 = .ok (.aload_n 0, 1) := by decide +kernel
theorem dX6_refuses_1 : decode cX6_refuses 1 = .ok (.getfield 7, 3) := by decide +kernel
theorem dX6_refuses_4 : decode cX6_refuses 4 = .ok (.bipush 8, 2) := by decide +kernel
theorem dX6_refuses_6 : decode cX6_refuses 6 = .ok (.dup2, 1) := by decide +kernel
theorem dX6_refuses_7 : decode cX6_refuses 7 = .ok (.iaload, 1) := by decide +kernel
theorem dX6_refuses_8 : decode cX6_refuses 8 = .ok (.iconst 1, 1) := by decide +kernel
theorem dX6_refuses_9 : decode cX6_refuses 9 = .ok (.iadd, 1) := by decide +kernel
theorem dX6_refuses_10 : decode cX6_refuses 10 = .ok (.iastore, 1) := by decide +kernel
theorem dX6_refuses_11 : decode cX6_refuses 11 = .ok (.iload_n 1, 1) := by decide +kernel
theorem dX6_refuses_12 : decode cX6_refuses 12 = .ok (.ireturn, 1) := by decide +kernel
theorem dX6_waits_0 : decode cX6_waits 0 = .ok (.aload_n 0, 1) := by decide +kernel
theorem dX6_waits_1 : decode cX6_waits 1 = .ok (.aload_n 0, 1) := by decide +kernel
theorem dX6_waits_2 : decode cX6_waits 2 = .ok (.getfield 7, 3) := by decide +kernel
theorem dX6_waits_5 : decode cX6_waits 5 = .ok (.iconst 5, 1) := by decide +kernel
theorem dX6_waits_6 : decode cX6_waits 6 = .ok (.iaload, 1) := by decide +kernel
theorem dX6_waits_7 : decode cX6_waits 7 = .ok (.invokevirtual 91, 3) := by decide +kernel
theorem dX6_waits_10 : decode cX6_waits 10 = .ok (.aload_n 0, 1) := by decide +kernel
theorem dX6_waits_11 : decode cX6_waits 11 = .ok (.invokevirtual 94, 3) := by decide +kernel
theorem dX6_waits_14 : decode cX6_waits 14 = .ok (.ireturn, 1) := by decide +kernel
theorem dX6_goes_0 : decode cX6_goes 0 = .ok (.aload_n 0, 1) := by decide +kernel
theorem dX6_goes_1 : decode cX6_goes 1 = .ok (.getfield 7, 3) := by decide +kernel
theorem dX6_goes_4 : decode cX6_goes 4 = .ok (.iconst 5, 1) := by decide +kernel
theorem dX6_goes_5 : decode cX6_goes 5 = .ok (.iaload, 1) := by decide +kernel
theorem dX6_goes_6 : decode cX6_goes 6 = .ok (.istore_n 2, 1) := by decide +kernel
theorem dX6_goes_7 : decode cX6_goes 7 = .ok (.aload_n 0, 1) := by decide +kernel
theorem dX6_goes_8 : decode cX6_goes 8 = .ok (.iload_n 2, 1) := by decide +kernel
theorem dX6_goes_9 : decode cX6_goes 9 = .ok (.invokevirtual 91, 3) := by decide +kernel
theorem dX6_goes_12 : decode cX6_goes 12 = .ok (.aload_n 0, 1) := by decide +kernel
theorem dX6_goes_13 : decode cX6_goes 13 = .ok (.iload_n 1, 1) := by decide +kernel
theorem dX6_goes_14 : decode cX6_goes 14 = .ok (.invokevirtual 97, 3) := by decide +kernel
theorem dX6_goes_17 : decode cX6_goes 17 = .ok (.istore_n 3, 1) := by decide +kernel
theorem dX6_goes_18 : decode cX6_goes 18 = .ok (.iload_n 3, 1) := by decide +kernel
theorem dX6_goes_19 : decode cX6_goes 19 = .ok (.ifCond .eq 9, 3) := by decide +kernel
theorem dX6_goes_22 : decode cX6_goes 22 = .ok (.aload_n 0, 1) := by decide +kernel
theorem dX6_goes_23 : decode cX6_goes 23 = .ok (.iload_n 3, 1) := by decide +kernel
theorem dX6_goes_24 : decode cX6_goes 24 = .ok (.invokevirtual 100, 3) := by decide +kernel
theorem dX6_goes_27 : decode cX6_goes 27 = .ok (.ireturn, 1) := by decide +kernel
theorem dX6_goes_28 : decode cX6_goes 28 = .ok (.aload_n 0, 1) := by decide +kernel
theorem dX6_goes_29 : decode cX6_goes 29 = .ok (.iload_n 2, 1) := by decide +kernel
theorem dX6_goes_30 : decode cX6_goes 30 = .ok (.bipush 6, 2) := by decide +kernel
theorem dX6_goes_32 : decode cX6_goes 32 = .ok (.aload_n 0, 1) := by decide +kernel
theorem dX6_goes_33 : decode cX6_goes 33 = .ok (.aload_n 0, 1) := by decide +kernel
theorem dX6_goes_34 : decode cX6_goes 34 = .ok (.getfield 67, 3) := by decide +kernel
theorem dX6_goes_37 : decode cX6_goes 37 = .ok (.iload_n 1, 1) := by decide +kernel
theorem dX6_goes_38 : decode cX6_goes 38 = .ok (.invokevirtual 76, 3) := by decide +kernel
theorem dX6_goes_41 : decode cX6_goes 41 = .ok (.invokevirtual 87, 3) := by decide +kernel
theorem dX6_goes_44 : decode cX6_goes 44 = .ok (.aload_n 0, 1) := by decide +kernel
theorem dX6_goes_45 : decode cX6_goes 45 = .ok (.iload_n 1, 1) := by decide +kernel
theorem dX6_goes_46 : decode cX6_goes 46 = .ok (.invokevirtual 103, 3) := by decide +kernel
theorem dX6_goes_49 : decode cX6_goes 49 = .ok (.aload_n 0, 1) := by decide +kernel
theorem dX6_goes_50 : decode cX6_goes 50 = .ok (.invokevirtual 94, 3) := by decide +kernel
theorem dX6_goes_53 : decode cX6_goes 53 = .ok (.istore 4, 2) := by decide +kernel
theorem dX6_goes_55 : decode cX6_goes 55 = .ok (.iconst 0, 1) := by decide +kernel
theorem dX6_goes_56 : decode cX6_goes 56 = .ok (.ireturn, 1) := by decide +kernel
theorem dX6_overs_0 : decode cX6_overs 0 = .ok (.aload_n 0, 1) := by decide +kernel
theorem dX6_overs_1 : decode cX6_overs 1 = .ok (.getfield 7, 3) := by decide +kernel
theorem dX6_overs_4 : decode cX6_overs 4 = .ok (.iconst 5, 1) := by decide +kernel
theorem dX6_overs_5 : decode cX6_overs 5 = .ok (.iaload, 1) := by decide +kernel
theorem dX6_overs_6 : decode cX6_overs 6 = .ok (.istore_n 1, 1) := by decide +kernel
theorem dX6_overs_7 : decode cX6_overs 7 = .ok (.aload_n 0, 1) := by decide +kernel
theorem dX6_overs_8 : decode cX6_overs 8 = .ok (.iload_n 1, 1) := by decide +kernel
theorem dX6_overs_9 : decode cX6_overs 9 = .ok (.invokevirtual 91, 3) := by decide +kernel
theorem dX6_overs_12 : decode cX6_overs 12 = .ok (.aload_n 0, 1) := by decide +kernel
theorem dX6_overs_13 : decode cX6_overs 13 = .ok (.getfield 7, 3) := by decide +kernel
theorem dX6_overs_16 : decode cX6_overs 16 = .ok (.iconst 2, 1) := by decide +kernel
theorem dX6_overs_17 : decode cX6_overs 17 = .ok (.iaload, 1) := by decide +kernel
theorem dX6_overs_18 : decode cX6_overs 18 = .ok (.aload_n 0, 1) := by decide +kernel
theorem dX6_overs_19 : decode cX6_overs 19 = .ok (.getfield 73, 3) := by decide +kernel
theorem dX6_overs_22 : decode cX6_overs 22 = .ok (.if_icmp .le 9, 3) := by decide +kernel
theorem dX6_overs_25 : decode cX6_overs 25 = .ok (.aload_n 0, 1) := by decide +kernel
theorem dX6_overs_26 : decode cX6_overs 26 = .ok (.iconst 4, 1) := by decide +kernel
theorem dX6_overs_27 : decode cX6_overs 27 = .ok (.invokevirtual 100, 3) := by decide +kernel
theorem dX6_overs_30 : decode cX6_overs 30 = .ok (.ireturn, 1) := by decide +kernel
theorem dX6_overs_31 : decode cX6_overs 31 = .ok (.aload_n 0, 1) := by decide +kernel
theorem dX6_overs_32 : decode cX6_overs 32 = .ok (.iload_n 1, 1) := by decide +kernel
theorem dX6_overs_33 : decode cX6_overs 33 = .ok (.bipush 6, 2) := by decide +kernel
theorem dX6_overs_35 : decode cX6_overs 35 = .ok (.aload_n 0, 1) := by decide +kernel
theorem dX6_overs_36 : decode cX6_overs 36 = .ok (.getfield 7, 3) := by decide +kernel
theorem dX6_overs_39 : decode cX6_overs 39 = .ok (.iconst 2, 1) := by decide +kernel
theorem dX6_overs_40 : decode cX6_overs 40 = .ok (.iaload, 1) := by decide +kernel
theorem dX6_overs_41 : decode cX6_overs 41 = .ok (.invokevirtual 87, 3) := by decide +kernel
theorem dX6_overs_44 : decode cX6_overs 44 = .ok (.aload_n 0, 1) := by decide +kernel
theorem dX6_overs_45 : decode cX6_overs 45 = .ok (.invokevirtual 106, 3) := by decide +kernel
theorem dX6_overs_48 : decode cX6_overs 48 = .ok (.aload_n 0, 1) := by decide +kernel
theorem dX6_overs_49 : decode cX6_overs 49 = .ok (.invokevirtual 94, 3) := by decide +kernel
theorem dX6_overs_52 : decode cX6_overs 52 = .ok (.istore_n 2, 1) := by decide +kernel
theorem dX6_overs_53 : decode cX6_overs 53 = .ok (.iconst 0, 1) := by decide +kernel
theorem dX6_overs_54 : decode cX6_overs 54 = .ok (.ireturn, 1) := by decide +kernel
theorem dX6_tagReason_0 : decode cX6_tagReason 0 = .ok (.aload_n 0, 1) := by decide +kernel
theorem dX6_tagReason_1 : decode cX6_tagReason 1 = .ok (.iload_n 1, 1) := by decide +kernel
theorem dX6_tagReason_2 : decode cX6_tagReason 2 = .ok (.iconst 0, 1) := by decide +kernel
theorem dX6_tagReason_3 : decode cX6_tagReason 3 = .ok (.invokevirtual 63, 3) := by decide +kernel
theorem dX6_tagReason_6 : decode cX6_tagReason 6 = .ok (.istore_n 3, 1) := by decide +kernel
theorem dX6_tagReason_7 : decode cX6_tagReason 7 = .ok (.aload_n 0, 1) := by decide +kernel
theorem dX6_tagReason_8 : decode cX6_tagReason 8 = .ok (.iload_n 2, 1) := by decide +kernel
theorem dX6_tagReason_9 : decode cX6_tagReason 9 = .ok (.iconst 0, 1) := by decide +kernel
theorem dX6_tagReason_10 : decode cX6_tagReason 10 = .ok (.invokevirtual 63, 3) := by decide +kernel
theorem dX6_tagReason_13 : decode cX6_tagReason 13 = .ok (.istore 4, 2) := by decide +kernel
theorem dX6_tagReason_15 : decode cX6_tagReason 15 = .ok (.iload_n 1, 1) := by decide +kernel
theorem dX6_tagReason_16 : decode cX6_tagReason 16 = .ok (.aload_n 0, 1) := by decide +kernel
theorem dX6_tagReason_17 : decode cX6_tagReason 17 = .ok (.getfield 7, 3) := by decide +kernel
theorem dX6_tagReason_20 : decode cX6_tagReason 20 = .ok (.bipush 6, 2) := by decide +kernel
theorem dX6_tagReason_22 : decode cX6_tagReason 22 = .ok (.iaload, 1) := by decide +kernel
theorem dX6_tagReason_23 : decode cX6_tagReason 23 = .ok (.if_icmp .eq 7, 3) := by decide +kernel
theorem dX6_tagReason_26 : decode cX6_tagReason 26 = .ok (.iconst 5, 1) := by decide +kernel
theorem dX6_tagReason_27 : decode cX6_tagReason 27 = .ok (.goto 49, 3) := by decide +kernel
theorem dX6_tagReason_30 : decode cX6_tagReason 30 = .ok (.iload_n 1, 1) := by decide +kernel
theorem dX6_tagReason_31 : decode cX6_tagReason 31 = .ok (.iload_n 2, 1) := by decide +kernel
theorem dX6_tagReason_32 : decode cX6_tagReason 32 = .ok (.if_icmp .ne 8, 3) := by decide +kernel
theorem dX6_tagReason_35 : decode cX6_tagReason 35 = .ok (.bipush 6, 2) := by decide +kernel
theorem dX6_tagReason_37 : decode cX6_tagReason 37 = .ok (.goto 39, 3) := by decide +kernel
theorem dX6_tagReason_40 : decode cX6_tagReason 40 = .ok (.aload_n 0, 1) := by decide +kernel
theorem dX6_tagReason_41 : decode cX6_tagReason 41 = .ok (.iload_n 3, 1) := by decide +kernel
theorem dX6_tagReason_42 : decode cX6_tagReason 42 = .ok (.iload 4, 2) := by decide +kernel
theorem dX6_tagReason_44 : decode cX6_tagReason 44 = .ok (.invokevirtual 59, 3) := by decide +kernel
theorem dX6_tagReason_47 : decode cX6_tagReason 47 = .ok (.ifCond .ne 7, 3) := by decide +kernel
theorem dX6_tagReason_50 : decode cX6_tagReason 50 = .ok (.iconst 2, 1) := by decide +kernel
theorem dX6_tagReason_51 : decode cX6_tagReason 51 = .ok (.goto 25, 3) := by decide +kernel
theorem dX6_tagReason_54 : decode cX6_tagReason 54 = .ok (.iload_n 3, 1) := by decide +kernel
theorem dX6_tagReason_55 : decode cX6_tagReason 55 = .ok (.iload 4, 2) := by decide +kernel
theorem dX6_tagReason_57 : decode cX6_tagReason 57 = .ok (.isub, 1) := by decide +kernel
theorem dX6_tagReason_58 : decode cX6_tagReason 58 = .ok (.invokestatic 56, 3) := by decide +kernel
theorem dX6_tagReason_61 : decode cX6_tagReason 61 = .ok (.aload_n 0, 1) := by decide +kernel
theorem dX6_tagReason_62 : decode cX6_tagReason 62 = .ok (.getfield 7, 3) := by decide +kernel
theorem dX6_tagReason_65 : decode cX6_tagReason 65 = .ok (.iconst 3, 1) := by decide +kernel
theorem dX6_tagReason_66 : decode cX6_tagReason 66 = .ok (.iaload, 1) := by decide +kernel
theorem dX6_tagReason_67 : decode cX6_tagReason 67 = .ok (.if_icmp .le 8, 3) := by decide +kernel
theorem dX6_tagReason_70 : decode cX6_tagReason 70 = .ok (.bipush 7, 2) := by decide +kernel
theorem dX6_tagReason_72 : decode cX6_tagReason 72 = .ok (.goto 4, 3) := by decide +kernel
theorem dX6_tagReason_75 : decode cX6_tagReason 75 = .ok (.iconst 0, 1) := by decide +kernel
theorem dX6_tagReason_76 : decode cX6_tagReason 76 = .ok (.ireturn, 1) := by decide +kernel
theorem dX6_tags_0 : decode cX6_tags 0 = .ok (.aload_n 0, 1) := by decide +kernel
theorem dX6_tags_1 : decode cX6_tags 1 = .ok (.getfield 7, 3) := by decide +kernel
theorem dX6_tags_4 : decode cX6_tags 4 = .ok (.iconst 5, 1) := by decide +kernel
theorem dX6_tags_5 : decode cX6_tags 5 = .ok (.iaload, 1) := by decide +kernel
theorem dX6_tags_6 : decode cX6_tags 6 = .ok (.istore_n 2, 1) := by decide +kernel
theorem dX6_tags_7 : decode cX6_tags 7 = .ok (.aload_n 0, 1) := by decide +kernel
theorem dX6_tags_8 : decode cX6_tags 8 = .ok (.iload_n 2, 1) := by decide +kernel
theorem dX6_tags_9 : decode cX6_tags 9 = .ok (.iload_n 1, 1) := by decide +kernel
theorem dX6_tags_10 : decode cX6_tags 10 = .ok (.invokevirtual 109, 3) := by decide +kernel
theorem dX6_tags_13 : decode cX6_tags 13 = .ok (.istore_n 3, 1) := by decide +kernel
theorem dX6_tags_14 : decode cX6_tags 14 = .ok (.iload_n 3, 1) := by decide +kernel
theorem dX6_tags_15 : decode cX6_tags 15 = .ok (.ifCond .eq 9, 3) := by decide +kernel
theorem dX6_tags_18 : decode cX6_tags 18 = .ok (.aload_n 0, 1) := by decide +kernel
theorem dX6_tags_19 : decode cX6_tags 19 = .ok (.iload_n 3, 1) := by decide +kernel
theorem dX6_tags_20 : decode cX6_tags 20 = .ok (.invokevirtual 100, 3) := by decide +kernel
theorem dX6_tags_23 : decode cX6_tags 23 = .ok (.ireturn, 1) := by decide +kernel
theorem dX6_tags_24 : decode cX6_tags 24 = .ok (.aload_n 0, 1) := by decide +kernel
theorem dX6_tags_25 : decode cX6_tags 25 = .ok (.iload_n 1, 1) := by decide +kernel
theorem dX6_tags_26 : decode cX6_tags 26 = .ok (.iconst 2, 1) := by decide +kernel
theorem dX6_tags_27 : decode cX6_tags 27 = .ok (.invokevirtual 63, 3) := by decide +kernel
theorem dX6_tags_30 : decode cX6_tags 30 = .ok (.iconst 2, 1) := by decide +kernel
theorem dX6_tags_31 : decode cX6_tags 31 = .ok (.idiv, 1) := by decide +kernel
theorem dX6_tags_32 : decode cX6_tags 32 = .ok (.istore 4, 2) := by decide +kernel
theorem dX6_tags_34 : decode cX6_tags 34 = .ok (.aload_n 0, 1) := by decide +kernel
theorem dX6_tags_35 : decode cX6_tags 35 = .ok (.iload_n 1, 1) := by decide +kernel
theorem dX6_tags_36 : decode cX6_tags 36 = .ok (.iconst 2, 1) := by decide +kernel
theorem dX6_tags_37 : decode cX6_tags 37 = .ok (.iload 4, 2) := by decide +kernel
theorem dX6_tags_39 : decode cX6_tags 39 = .ok (.ineg, 1) := by decide +kernel
theorem dX6_tags_40 : decode cX6_tags 40 = .ok (.invokevirtual 87, 3) := by decide +kernel
theorem dX6_tags_43 : decode cX6_tags 43 = .ok (.aload_n 0, 1) := by decide +kernel
theorem dX6_tags_44 : decode cX6_tags 44 = .ok (.iload_n 2, 1) := by decide +kernel
theorem dX6_tags_45 : decode cX6_tags 45 = .ok (.iconst 1, 1) := by decide +kernel
theorem dX6_tags_46 : decode cX6_tags 46 = .ok (.iload 4, 2) := by decide +kernel
theorem dX6_tags_48 : decode cX6_tags 48 = .ok (.invokevirtual 87, 3) := by decide +kernel
theorem dX6_tags_51 : decode cX6_tags 51 = .ok (.aload_n 0, 1) := by decide +kernel
theorem dX6_tags_52 : decode cX6_tags 52 = .ok (.iload_n 2, 1) := by decide +kernel
theorem dX6_tags_53 : decode cX6_tags 53 = .ok (.iconst 4, 1) := by decide +kernel
theorem dX6_tags_54 : decode cX6_tags 54 = .ok (.iconst 1, 1) := by decide +kernel
theorem dX6_tags_55 : decode cX6_tags 55 = .ok (.invokevirtual 87, 3) := by decide +kernel
theorem dX6_tags_58 : decode cX6_tags 58 = .ok (.aload_n 0, 1) := by decide +kernel
theorem dX6_tags_59 : decode cX6_tags 59 = .ok (.iload_n 1, 1) := by decide +kernel
theorem dX6_tags_60 : decode cX6_tags 60 = .ok (.iconst 5, 1) := by decide +kernel
theorem dX6_tags_61 : decode cX6_tags 61 = .ok (.iconst 1, 1) := by decide +kernel
theorem dX6_tags_62 : decode cX6_tags 62 = .ok (.invokevirtual 87, 3) := by decide +kernel
theorem dX6_tags_65 : decode cX6_tags 65 = .ok (.aload_n 0, 1) := by decide +kernel
theorem dX6_tags_66 : decode cX6_tags 66 = .ok (.getfield 7, 3) := by decide +kernel
theorem dX6_tags_69 : decode cX6_tags 69 = .ok (.bipush 9, 2) := by decide +kernel
theorem dX6_tags_71 : decode cX6_tags 71 = .ok (.dup2, 1) := by decide +kernel
theorem dX6_tags_72 : decode cX6_tags 72 = .ok (.iaload, 1) := by decide +kernel
theorem dX6_tags_73 : decode cX6_tags 73 = .ok (.iconst 1, 1) := by decide +kernel
theorem dX6_tags_74 : decode cX6_tags 74 = .ok (.iadd, 1) := by decide +kernel
theorem dX6_tags_75 : decode cX6_tags 75 = .ok (.iastore, 1) := by decide +kernel
theorem dX6_tags_76 : decode cX6_tags 76 = .ok (.aload_n 0, 1) := by decide +kernel
theorem dX6_tags_77 : decode cX6_tags 77 = .ok (.getfield 7, 3) := by decide +kernel
theorem dX6_tags_80 : decode cX6_tags 80 = .ok (.bipush 6, 2) := by decide +kernel
theorem dX6_tags_82 : decode cX6_tags 82 = .ok (.iload_n 1, 1) := by decide +kernel
theorem dX6_tags_83 : decode cX6_tags 83 = .ok (.iastore, 1) := by decide +kernel
theorem dX6_tags_84 : decode cX6_tags 84 = .ok (.aload_n 0, 1) := by decide +kernel
theorem dX6_tags_85 : decode cX6_tags 85 = .ok (.iload_n 2, 1) := by decide +kernel
theorem dX6_tags_86 : decode cX6_tags 86 = .ok (.invokevirtual 91, 3) := by decide +kernel
theorem dX6_tags_89 : decode cX6_tags 89 = .ok (.aload_n 0, 1) := by decide +kernel
theorem dX6_tags_90 : decode cX6_tags 90 = .ok (.invokevirtual 94, 3) := by decide +kernel
theorem dX6_tags_93 : decode cX6_tags 93 = .ok (.istore 5, 2) := by decide +kernel
theorem dX6_tags_95 : decode cX6_tags 95 = .ok (.iconst 0, 1) := by decide +kernel
theorem dX6_tags_96 : decode cX6_tags 96 = .ok (.ireturn, 1) := by decide +kernel
theorem dX6_isOver_0 : decode cX6_isOver 0 = .ok (.aload_n 0, 1) := by decide +kernel
theorem dX6_isOver_1 : decode cX6_isOver 1 = .ok (.getfield 7, 3) := by decide +kernel
theorem dX6_isOver_4 : decode cX6_isOver 4 = .ok (.iconst 4, 1) := by decide +kernel
theorem dX6_isOver_5 : decode cX6_isOver 5 = .ok (.iaload, 1) := by decide +kernel
theorem dX6_isOver_6 : decode cX6_isOver 6 = .ok (.ifCond .eq 16, 3) := by decide +kernel
theorem dX6_isOver_9 : decode cX6_isOver 9 = .ok (.aload_n 0, 1) := by decide +kernel
theorem dX6_isOver_10 : decode cX6_isOver 10 = .ok (.getfield 7, 3) := by decide +kernel
theorem dX6_isOver_13 : decode cX6_isOver 13 = .ok (.bipush 7, 2) := by decide +kernel
theorem dX6_isOver_15 : decode cX6_isOver 15 = .ok (.iaload, 1) := by decide +kernel
theorem dX6_isOver_16 : decode cX6_isOver 16 = .ok (.sipush 9999, 3) := by decide +kernel
theorem dX6_isOver_19 : decode cX6_isOver 19 = .ok (.if_icmp .lt 7, 3) := by decide +kernel
theorem dX6_isOver_22 : decode cX6_isOver 22 = .ok (.iconst 1, 1) := by decide +kernel
theorem dX6_isOver_23 : decode cX6_isOver 23 = .ok (.goto 4, 3) := by decide +kernel
theorem dX6_isOver_26 : decode cX6_isOver 26 = .ok (.iconst 0, 1) := by decide +kernel
theorem dX6_isOver_27 : decode cX6_isOver 27 = .ok (.ireturn, 1) := by decide +kernel
theorem dX6_height_0 : decode cX6_height 0 = .ok (.aload_n 0, 1) := by decide +kernel
theorem dX6_height_1 : decode cX6_height 1 = .ok (.iconst 0, 1) := by decide +kernel
theorem dX6_height_2 : decode cX6_height 2 = .ok (.putfield 35, 3) := by decide +kernel
theorem dX6_height_5 : decode cX6_height 5 = .ok (.iload_n 1, 1) := by decide +kernel
theorem dX6_height_6 : decode cX6_height 6 = .ok (.iconst 0, 1) := by decide +kernel
theorem dX6_height_7 : decode cX6_height 7 = .ok (.bipush 9, 2) := by decide +kernel
theorem dX6_height_9 : decode cX6_height 9 = .ok (.invokestatic 39, 3) := by decide +kernel
theorem dX6_height_12 : decode cX6_height 12 = .ok (.ifCond .ne 9, 3) := by decide +kernel
theorem dX6_height_15 : decode cX6_height 15 = .ok (.aload_n 0, 1) := by decide +kernel
theorem dX6_height_16 : decode cX6_height 16 = .ok (.iconst 1, 1) := by decide +kernel
theorem dX6_height_17 : decode cX6_height 17 = .ok (.invokevirtual 46, 3) := by decide +kernel
theorem dX6_height_20 : decode cX6_height 20 = .ok (.ireturn, 1) := by decide +kernel
theorem dX6_height_21 : decode cX6_height 21 = .ok (.iload_n 2, 1) := by decide +kernel
theorem dX6_height_22 : decode cX6_height 22 = .ok (.iconst 0, 1) := by decide +kernel
theorem dX6_height_23 : decode cX6_height 23 = .ok (.bipush 9, 2) := by decide +kernel
theorem dX6_height_25 : decode cX6_height 25 = .ok (.invokestatic 39, 3) := by decide +kernel
theorem dX6_height_28 : decode cX6_height 28 = .ok (.ifCond .ne 9, 3) := by decide +kernel
theorem dX6_height_31 : decode cX6_height 31 = .ok (.aload_n 0, 1) := by decide +kernel
theorem dX6_height_32 : decode cX6_height 32 = .ok (.iconst 2, 1) := by decide +kernel
theorem dX6_height_33 : decode cX6_height 33 = .ok (.invokevirtual 46, 3) := by decide +kernel
theorem dX6_height_36 : decode cX6_height 36 = .ok (.ireturn, 1) := by decide +kernel
theorem dX6_height_37 : decode cX6_height 37 = .ok (.aload_n 0, 1) := by decide +kernel
theorem dX6_height_38 : decode cX6_height 38 = .ok (.invokevirtual 50, 3) := by decide +kernel
theorem dX6_height_41 : decode cX6_height 41 = .ok (.aload_n 0, 1) := by decide +kernel
theorem dX6_height_42 : decode cX6_height 42 = .ok (.getfield 7, 3) := by decide +kernel
theorem dX6_height_45 : decode cX6_height 45 = .ok (.bipush 11, 2) := by decide +kernel
theorem dX6_height_47 : decode cX6_height 47 = .ok (.iload_n 1, 1) := by decide +kernel
theorem dX6_height_48 : decode cX6_height 48 = .ok (.iadd, 1) := by decide +kernel
theorem dX6_height_49 : decode cX6_height 49 = .ok (.iaload, 1) := by decide +kernel
theorem dX6_height_50 : decode cX6_height 50 = .ok (.istore_n 3, 1) := by decide +kernel
theorem dX6_height_51 : decode cX6_height 51 = .ok (.aload_n 0, 1) := by decide +kernel
theorem dX6_height_52 : decode cX6_height 52 = .ok (.getfield 7, 3) := by decide +kernel
theorem dX6_height_55 : decode cX6_height 55 = .ok (.bipush 11, 2) := by decide +kernel
theorem dX6_height_57 : decode cX6_height 57 = .ok (.iload_n 1, 1) := by decide +kernel
theorem dX6_height_58 : decode cX6_height 58 = .ok (.iadd, 1) := by decide +kernel
theorem dX6_height_59 : decode cX6_height 59 = .ok (.iload_n 2, 1) := by decide +kernel
theorem dX6_height_60 : decode cX6_height 60 = .ok (.iastore, 1) := by decide +kernel
theorem dX6_height_61 : decode cX6_height 61 = .ok (.aload_n 0, 1) := by decide +kernel
theorem dX6_height_62 : decode cX6_height 62 = .ok (.iload_n 3, 1) := by decide +kernel
theorem dX6_height_63 : decode cX6_height 63 = .ok (.invokevirtual 53, 3) := by decide +kernel
theorem dX6_height_66 : decode cX6_height 66 = .ok (.ireturn, 1) := by decide +kernel
theorem dX6_player_0 : decode cX6_player 0 = .ok (.aload_n 0, 1) := by decide +kernel
theorem dX6_player_1 : decode cX6_player 1 = .ok (.iconst 0, 1) := by decide +kernel
theorem dX6_player_2 : decode cX6_player 2 = .ok (.putfield 35, 3) := by decide +kernel
theorem dX6_player_5 : decode cX6_player 5 = .ok (.iload_n 1, 1) := by decide +kernel
theorem dX6_player_6 : decode cX6_player 6 = .ok (.iconst 0, 1) := by decide +kernel
theorem dX6_player_7 : decode cX6_player 7 = .ok (.bipush 9, 2) := by decide +kernel
theorem dX6_player_9 : decode cX6_player 9 = .ok (.invokestatic 39, 3) := by decide +kernel
theorem dX6_player_12 : decode cX6_player 12 = .ok (.ifCond .ne 9, 3) := by decide +kernel
theorem dX6_player_15 : decode cX6_player 15 = .ok (.aload_n 0, 1) := by decide +kernel
theorem dX6_player_16 : decode cX6_player 16 = .ok (.iconst 1, 1) := by decide +kernel
theorem dX6_player_17 : decode cX6_player 17 = .ok (.invokevirtual 46, 3) := by decide +kernel
theorem dX6_player_20 : decode cX6_player 20 = .ok (.ireturn, 1) := by decide +kernel
theorem dX6_player_21 : decode cX6_player 21 = .ok (.iload_n 2, 1) := by decide +kernel
theorem dX6_player_22 : decode cX6_player 22 = .ok (.iconst 0, 1) := by decide +kernel
theorem dX6_player_23 : decode cX6_player 23 = .ok (.sipush 200, 3) := by decide +kernel
theorem dX6_player_26 : decode cX6_player 26 = .ok (.invokestatic 39, 3) := by decide +kernel
theorem dX6_player_29 : decode cX6_player 29 = .ok (.ifCond .ne 9, 3) := by decide +kernel
theorem dX6_player_32 : decode cX6_player 32 = .ok (.aload_n 0, 1) := by decide +kernel
theorem dX6_player_33 : decode cX6_player 33 = .ok (.iconst 2, 1) := by decide +kernel
theorem dX6_player_34 : decode cX6_player 34 = .ok (.invokevirtual 46, 3) := by decide +kernel
theorem dX6_player_37 : decode cX6_player 37 = .ok (.ireturn, 1) := by decide +kernel
theorem dX6_player_38 : decode cX6_player 38 = .ok (.aload_n 0, 1) := by decide +kernel
theorem dX6_player_39 : decode cX6_player 39 = .ok (.getfield 7, 3) := by decide +kernel
theorem dX6_player_42 : decode cX6_player 42 = .ok (.iconst 4, 1) := by decide +kernel
theorem dX6_player_43 : decode cX6_player 43 = .ok (.iaload, 1) := by decide +kernel
theorem dX6_player_44 : decode cX6_player 44 = .ok (.istore_n 3, 1) := by decide +kernel
theorem dX6_player_45 : decode cX6_player 45 = .ok (.iload_n 3, 1) := by decide +kernel
theorem dX6_player_46 : decode cX6_player 46 = .ok (.iconst 4, 1) := by decide +kernel
theorem dX6_player_47 : decode cX6_player 47 = .ok (.if_icmp .ne 9, 3) := by decide +kernel
theorem dX6_player_50 : decode cX6_player 50 = .ok (.aload_n 0, 1) := by decide +kernel
theorem dX6_player_51 : decode cX6_player 51 = .ok (.iconst 3, 1) := by decide +kernel
theorem dX6_player_52 : decode cX6_player 52 = .ok (.invokevirtual 46, 3) := by decide +kernel
theorem dX6_player_55 : decode cX6_player 55 = .ok (.ireturn, 1) := by decide +kernel
theorem dX6_player_56 : decode cX6_player 56 = .ok (.aload_n 0, 1) := by decide +kernel
theorem dX6_player_57 : decode cX6_player 57 = .ok (.invokevirtual 50, 3) := by decide +kernel
theorem dX6_player_60 : decode cX6_player 60 = .ok (.aload_n 0, 1) := by decide +kernel
theorem dX6_player_61 : decode cX6_player 61 = .ok (.getfield 7, 3) := by decide +kernel
theorem dX6_player_64 : decode cX6_player 64 = .ok (.bipush 31, 2) := by decide +kernel
theorem dX6_player_66 : decode cX6_player 66 = .ok (.bipush 7, 2) := by decide +kernel
theorem dX6_player_68 : decode cX6_player 68 = .ok (.iload_n 3, 1) := by decide +kernel
theorem dX6_player_69 : decode cX6_player 69 = .ok (.imul, 1) := by decide +kernel
theorem dX6_player_70 : decode cX6_player 70 = .ok (.iadd, 1) := by decide +kernel
theorem dX6_player_71 : decode cX6_player 71 = .ok (.iconst 0, 1) := by decide +kernel
theorem dX6_player_72 : decode cX6_player 72 = .ok (.iadd, 1) := by decide +kernel
theorem dX6_player_73 : decode cX6_player 73 = .ok (.iload_n 1, 1) := by decide +kernel
theorem dX6_player_74 : decode cX6_player 74 = .ok (.iastore, 1) := by decide +kernel
theorem dX6_player_75 : decode cX6_player 75 = .ok (.aload_n 0, 1) := by decide +kernel
theorem dX6_player_76 : decode cX6_player 76 = .ok (.getfield 7, 3) := by decide +kernel
theorem dX6_player_79 : decode cX6_player 79 = .ok (.bipush 31, 2) := by decide +kernel
theorem dX6_player_81 : decode cX6_player 81 = .ok (.bipush 7, 2) := by decide +kernel
theorem dX6_player_83 : decode cX6_player 83 = .ok (.iload_n 3, 1) := by decide +kernel
theorem dX6_player_84 : decode cX6_player 84 = .ok (.imul, 1) := by decide +kernel
theorem dX6_player_85 : decode cX6_player 85 = .ok (.iadd, 1) := by decide +kernel
theorem dX6_player_86 : decode cX6_player 86 = .ok (.iconst 1, 1) := by decide +kernel
theorem dX6_player_87 : decode cX6_player 87 = .ok (.iadd, 1) := by decide +kernel
theorem dX6_player_88 : decode cX6_player 88 = .ok (.iload_n 2, 1) := by decide +kernel
theorem dX6_player_89 : decode cX6_player 89 = .ok (.iastore, 1) := by decide +kernel
theorem dX6_player_90 : decode cX6_player 90 = .ok (.aload_n 0, 1) := by decide +kernel
theorem dX6_player_91 : decode cX6_player 91 = .ok (.getfield 7, 3) := by decide +kernel
theorem dX6_player_94 : decode cX6_player 94 = .ok (.bipush 10, 2) := by decide +kernel
theorem dX6_player_96 : decode cX6_player 96 = .ok (.dup2, 1) := by decide +kernel
theorem dX6_player_97 : decode cX6_player 97 = .ok (.iaload, 1) := by decide +kernel
theorem dX6_player_98 : decode cX6_player 98 = .ok (.iload_n 2, 1) := by decide +kernel
theorem dX6_player_99 : decode cX6_player 99 = .ok (.iadd, 1) := by decide +kernel
theorem dX6_player_100 : decode cX6_player 100 = .ok (.iastore, 1) := by decide +kernel
theorem dX6_player_101 : decode cX6_player 101 = .ok (.aload_n 0, 1) := by decide +kernel
theorem dX6_player_102 : decode cX6_player 102 = .ok (.getfield 7, 3) := by decide +kernel
theorem dX6_player_105 : decode cX6_player 105 = .ok (.iconst 4, 1) := by decide +kernel
theorem dX6_player_106 : decode cX6_player 106 = .ok (.dup2, 1) := by decide +kernel
theorem dX6_player_107 : decode cX6_player 107 = .ok (.iaload, 1) := by decide +kernel
theorem dX6_player_108 : decode cX6_player 108 = .ok (.iconst 1, 1) := by decide +kernel
theorem dX6_player_109 : decode cX6_player 109 = .ok (.iadd, 1) := by decide +kernel
theorem dX6_player_110 : decode cX6_player 110 = .ok (.iastore, 1) := by decide +kernel
theorem dX6_player_111 : decode cX6_player 111 = .ok (.aload_n 0, 1) := by decide +kernel
theorem dX6_player_112 : decode cX6_player 112 = .ok (.iload_n 3, 1) := by decide +kernel
theorem dX6_player_113 : decode cX6_player 113 = .ok (.invokevirtual 53, 3) := by decide +kernel
theorem dX6_player_116 : decode cX6_player 116 = .ok (.ireturn, 1) := by decide +kernel
theorem dX6_set_0 : decode cX6_set 0 = .ok (.aload_n 0, 1) := by decide +kernel
theorem dX6_set_1 : decode cX6_set 1 = .ok (.iconst 0, 1) := by decide +kernel
theorem dX6_set_2 : decode cX6_set 2 = .ok (.putfield 35, 3) := by decide +kernel
theorem dX6_set_5 : decode cX6_set 5 = .ok (.iload_n 1, 1) := by decide +kernel
theorem dX6_set_6 : decode cX6_set 6 = .ok (.iconst 0, 1) := by decide +kernel
theorem dX6_set_7 : decode cX6_set 7 = .ok (.iconst 3, 1) := by decide +kernel
theorem dX6_set_8 : decode cX6_set 8 = .ok (.invokestatic 39, 3) := by decide +kernel
theorem dX6_set_11 : decode cX6_set 11 = .ok (.ifCond .ne 9, 3) := by decide +kernel
theorem dX6_set_14 : decode cX6_set 14 = .ok (.aload_n 0, 1) := by decide +kernel
theorem dX6_set_15 : decode cX6_set 15 = .ok (.iconst 1, 1) := by decide +kernel
theorem dX6_set_16 : decode cX6_set 16 = .ok (.invokevirtual 46, 3) := by decide +kernel
theorem dX6_set_19 : decode cX6_set 19 = .ok (.ireturn, 1) := by decide +kernel
theorem dX6_set_20 : decode cX6_set 20 = .ok (.iload_n 2, 1) := by decide +kernel
theorem dX6_set_21 : decode cX6_set 21 = .ok (.iload_n 1, 1) := by decide +kernel
theorem dX6_set_22 : decode cX6_set 22 = .ok (.ifCond .ne 7, 3) := by decide +kernel
theorem dX6_set_25 : decode cX6_set 25 = .ok (.iconst 1, 1) := by decide +kernel
theorem dX6_set_26 : decode cX6_set 26 = .ok (.goto 4, 3) := by decide +kernel
theorem dX6_set_29 : decode cX6_set 29 = .ok (.iconst 0, 1) := by decide +kernel
theorem dX6_set_30 : decode cX6_set 30 = .ok (.iload_n 1, 1) := by decide +kernel
theorem dX6_set_31 : decode cX6_set 31 = .ok (.ifCond .eq 8, 3) := by decide +kernel
theorem dX6_set_34 : decode cX6_set 34 = .ok (.iload_n 1, 1) := by decide +kernel
theorem dX6_set_35 : decode cX6_set 35 = .ok (.iconst 2, 1) := by decide +kernel
theorem dX6_set_36 : decode cX6_set 36 = .ok (.if_icmp .ne 8, 3) := by decide +kernel
theorem dX6_set_39 : decode cX6_set 39 = .ok (.bipush 20, 2) := by decide +kernel
theorem dX6_set_41 : decode cX6_set 41 = .ok (.goto 5, 3) := by decide +kernel
theorem dX6_set_44 : decode cX6_set 44 = .ok (.bipush 9, 2) := by decide +kernel
theorem dX6_set_46 : decode cX6_set 46 = .ok (.invokestatic 39, 3) := by decide +kernel
theorem dX6_set_49 : decode cX6_set 49 = .ok (.ifCond .ne 9, 3) := by decide +kernel
theorem dX6_set_52 : decode cX6_set 52 = .ok (.aload_n 0, 1) := by decide +kernel
theorem dX6_set_53 : decode cX6_set 53 = .ok (.iconst 2, 1) := by decide +kernel
theorem dX6_set_54 : decode cX6_set 54 = .ok (.invokevirtual 46, 3) := by decide +kernel
theorem dX6_set_57 : decode cX6_set 57 = .ok (.ireturn, 1) := by decide +kernel
theorem dX6_set_58 : decode cX6_set 58 = .ok (.aload_n 0, 1) := by decide +kernel
theorem dX6_set_59 : decode cX6_set 59 = .ok (.invokevirtual 50, 3) := by decide +kernel
theorem dX6_set_62 : decode cX6_set 62 = .ok (.aload_n 0, 1) := by decide +kernel
theorem dX6_set_63 : decode cX6_set 63 = .ok (.getfield 7, 3) := by decide +kernel
theorem dX6_set_66 : decode cX6_set 66 = .ok (.iload_n 1, 1) := by decide +kernel
theorem dX6_set_67 : decode cX6_set 67 = .ok (.iaload, 1) := by decide +kernel
theorem dX6_set_68 : decode cX6_set 68 = .ok (.istore_n 3, 1) := by decide +kernel
theorem dX6_set_69 : decode cX6_set 69 = .ok (.aload_n 0, 1) := by decide +kernel
theorem dX6_set_70 : decode cX6_set 70 = .ok (.getfield 7, 3) := by decide +kernel
theorem dX6_set_73 : decode cX6_set 73 = .ok (.iload_n 1, 1) := by decide +kernel
theorem dX6_set_74 : decode cX6_set 74 = .ok (.iload_n 2, 1) := by decide +kernel
theorem dX6_set_75 : decode cX6_set 75 = .ok (.iastore, 1) := by decide +kernel
theorem dX6_set_76 : decode cX6_set 76 = .ok (.aload_n 0, 1) := by decide +kernel
theorem dX6_set_77 : decode cX6_set 77 = .ok (.iload_n 3, 1) := by decide +kernel
theorem dX6_set_78 : decode cX6_set 78 = .ok (.invokevirtual 53, 3) := by decide +kernel
theorem dX6_set_81 : decode cX6_set 81 = .ok (.ireturn, 1) := by decide +kernel
theorem dX6_rest_0 : decode cX6_rest 0 = .ok (.aload_n 0, 1) := by decide +kernel
theorem dX6_rest_1 : decode cX6_rest 1 = .ok (.iconst 0, 1) := by decide +kernel
theorem dX6_rest_2 : decode cX6_rest 2 = .ok (.putfield 35, 3) := by decide +kernel
theorem dX6_rest_5 : decode cX6_rest 5 = .ok (.aload_n 0, 1) := by decide +kernel
theorem dX6_rest_6 : decode cX6_rest 6 = .ok (.invokevirtual 112, 3) := by decide +kernel
theorem dX6_rest_9 : decode cX6_rest 9 = .ok (.ifCond .eq 9, 3) := by decide +kernel
theorem dX6_rest_12 : decode cX6_rest 12 = .ok (.aload_n 0, 1) := by decide +kernel
theorem dX6_rest_13 : decode cX6_rest 13 = .ok (.iconst 1, 1) := by decide +kernel
theorem dX6_rest_14 : decode cX6_rest 14 = .ok (.invokevirtual 46, 3) := by decide +kernel
theorem dX6_rest_17 : decode cX6_rest 17 = .ok (.ireturn, 1) := by decide +kernel
theorem dX6_rest_18 : decode cX6_rest 18 = .ok (.aload_n 0, 1) := by decide +kernel
theorem dX6_rest_19 : decode cX6_rest 19 = .ok (.invokevirtual 50, 3) := by decide +kernel
theorem dX6_rest_22 : decode cX6_rest 22 = .ok (.aload_n 0, 1) := by decide +kernel
theorem dX6_rest_23 : decode cX6_rest 23 = .ok (.aload_n 0, 1) := by decide +kernel
theorem dX6_rest_24 : decode cX6_rest 24 = .ok (.invokevirtual 116, 3) := by decide +kernel
theorem dX6_rest_27 : decode cX6_rest 27 = .ok (.invokevirtual 53, 3) := by decide +kernel
theorem dX6_rest_30 : decode cX6_rest 30 = .ok (.ireturn, 1) := by decide +kernel
theorem dX6_stride_0 : decode cX6_stride 0 = .ok (.aload_n 0, 1) := by decide +kernel
theorem dX6_stride_1 : decode cX6_stride 1 = .ok (.iconst 0, 1) := by decide +kernel
theorem dX6_stride_2 : decode cX6_stride 2 = .ok (.putfield 35, 3) := by decide +kernel
theorem dX6_stride_5 : decode cX6_stride 5 = .ok (.iload_n 1, 1) := by decide +kernel
theorem dX6_stride_6 : decode cX6_stride 6 = .ok (.iconst 0, 1) := by decide +kernel
theorem dX6_stride_7 : decode cX6_stride 7 = .ok (.bipush 9, 2) := by decide +kernel
theorem dX6_stride_9 : decode cX6_stride 9 = .ok (.invokestatic 39, 3) := by decide +kernel
theorem dX6_stride_12 : decode cX6_stride 12 = .ok (.ifCond .ne 9, 3) := by decide +kernel
theorem dX6_stride_15 : decode cX6_stride 15 = .ok (.aload_n 0, 1) := by decide +kernel
theorem dX6_stride_16 : decode cX6_stride 16 = .ok (.iconst 1, 1) := by decide +kernel
theorem dX6_stride_17 : decode cX6_stride 17 = .ok (.invokevirtual 46, 3) := by decide +kernel
theorem dX6_stride_20 : decode cX6_stride 20 = .ok (.ireturn, 1) := by decide +kernel
theorem dX6_stride_21 : decode cX6_stride 21 = .ok (.aload_n 0, 1) := by decide +kernel
theorem dX6_stride_22 : decode cX6_stride 22 = .ok (.invokevirtual 112, 3) := by decide +kernel
theorem dX6_stride_25 : decode cX6_stride 25 = .ok (.ifCond .eq 9, 3) := by decide +kernel
theorem dX6_stride_28 : decode cX6_stride 28 = .ok (.aload_n 0, 1) := by decide +kernel
theorem dX6_stride_29 : decode cX6_stride 29 = .ok (.iconst 2, 1) := by decide +kernel
theorem dX6_stride_30 : decode cX6_stride 30 = .ok (.invokevirtual 46, 3) := by decide +kernel
theorem dX6_stride_33 : decode cX6_stride 33 = .ok (.ireturn, 1) := by decide +kernel
theorem dX6_stride_34 : decode cX6_stride 34 = .ok (.aload_n 0, 1) := by decide +kernel
theorem dX6_stride_35 : decode cX6_stride 35 = .ok (.invokevirtual 50, 3) := by decide +kernel
theorem dX6_stride_38 : decode cX6_stride 38 = .ok (.aload_n 0, 1) := by decide +kernel
theorem dX6_stride_39 : decode cX6_stride 39 = .ok (.aload_n 0, 1) := by decide +kernel
theorem dX6_stride_40 : decode cX6_stride 40 = .ok (.iload_n 1, 1) := by decide +kernel
theorem dX6_stride_41 : decode cX6_stride 41 = .ok (.invokevirtual 119, 3) := by decide +kernel
theorem dX6_stride_44 : decode cX6_stride 44 = .ok (.invokevirtual 53, 3) := by decide +kernel
theorem dX6_stride_47 : decode cX6_stride 47 = .ok (.ireturn, 1) := by decide +kernel
theorem dX6_turnOver_0 : decode cX6_turnOver 0 = .ok (.aload_n 0, 1) := by decide +kernel
theorem dX6_turnOver_1 : decode cX6_turnOver 1 = .ok (.iconst 0, 1) := by decide +kernel
theorem dX6_turnOver_2 : decode cX6_turnOver 2 = .ok (.putfield 35, 3) := by decide +kernel
theorem dX6_turnOver_5 : decode cX6_turnOver 5 = .ok (.aload_n 0, 1) := by decide +kernel
theorem dX6_turnOver_6 : decode cX6_turnOver 6 = .ok (.invokevirtual 112, 3) := by decide +kernel
theorem dX6_turnOver_9 : decode cX6_turnOver 9 = .ok (.ifCond .eq 9, 3) := by decide +kernel
theorem dX6_turnOver_12 : decode cX6_turnOver 12 = .ok (.aload_n 0, 1) := by decide +kernel
theorem dX6_turnOver_13 : decode cX6_turnOver 13 = .ok (.iconst 1, 1) := by decide +kernel
theorem dX6_turnOver_14 : decode cX6_turnOver 14 = .ok (.invokevirtual 46, 3) := by decide +kernel
theorem dX6_turnOver_17 : decode cX6_turnOver 17 = .ok (.ireturn, 1) := by decide +kernel
theorem dX6_turnOver_18 : decode cX6_turnOver 18 = .ok (.aload_n 0, 1) := by decide +kernel
theorem dX6_turnOver_19 : decode cX6_turnOver 19 = .ok (.invokevirtual 50, 3) := by decide +kernel
theorem dX6_turnOver_22 : decode cX6_turnOver 22 = .ok (.aload_n 0, 1) := by decide +kernel
theorem dX6_turnOver_23 : decode cX6_turnOver 23 = .ok (.aload_n 0, 1) := by decide +kernel
theorem dX6_turnOver_24 : decode cX6_turnOver 24 = .ok (.invokevirtual 122, 3) := by decide +kernel
theorem dX6_turnOver_27 : decode cX6_turnOver 27 = .ok (.invokevirtual 53, 3) := by decide +kernel
theorem dX6_turnOver_30 : decode cX6_turnOver 30 = .ok (.ireturn, 1) := by decide +kernel
theorem dX6_tag_0 : decode cX6_tag 0 = .ok (.aload_n 0, 1) := by decide +kernel
theorem dX6_tag_1 : decode cX6_tag 1 = .ok (.iconst 0, 1) := by decide +kernel
theorem dX6_tag_2 : decode cX6_tag 2 = .ok (.putfield 35, 3) := by decide +kernel
theorem dX6_tag_5 : decode cX6_tag 5 = .ok (.aload_n 0, 1) := by decide +kernel
theorem dX6_tag_6 : decode cX6_tag 6 = .ok (.iload_n 1, 1) := by decide +kernel
theorem dX6_tag_7 : decode cX6_tag 7 = .ok (.invokevirtual 125, 3) := by decide +kernel
theorem dX6_tag_10 : decode cX6_tag 10 = .ok (.ifCond .ne 9, 3) := by decide +kernel
theorem dX6_tag_13 : decode cX6_tag 13 = .ok (.aload_n 0, 1) := by decide +kernel
theorem dX6_tag_14 : decode cX6_tag 14 = .ok (.iconst 1, 1) := by decide +kernel
theorem dX6_tag_15 : decode cX6_tag 15 = .ok (.invokevirtual 46, 3) := by decide +kernel
theorem dX6_tag_18 : decode cX6_tag 18 = .ok (.ireturn, 1) := by decide +kernel
theorem dX6_tag_19 : decode cX6_tag 19 = .ok (.aload_n 0, 1) := by decide +kernel
theorem dX6_tag_20 : decode cX6_tag 20 = .ok (.invokevirtual 112, 3) := by decide +kernel
theorem dX6_tag_23 : decode cX6_tag 23 = .ok (.ifCond .eq 9, 3) := by decide +kernel
theorem dX6_tag_26 : decode cX6_tag 26 = .ok (.aload_n 0, 1) := by decide +kernel
theorem dX6_tag_27 : decode cX6_tag 27 = .ok (.iconst 2, 1) := by decide +kernel
theorem dX6_tag_28 : decode cX6_tag 28 = .ok (.invokevirtual 46, 3) := by decide +kernel
theorem dX6_tag_31 : decode cX6_tag 31 = .ok (.ireturn, 1) := by decide +kernel
theorem dX6_tag_32 : decode cX6_tag 32 = .ok (.aload_n 0, 1) := by decide +kernel
theorem dX6_tag_33 : decode cX6_tag 33 = .ok (.invokevirtual 50, 3) := by decide +kernel
theorem dX6_tag_36 : decode cX6_tag 36 = .ok (.aload_n 0, 1) := by decide +kernel
theorem dX6_tag_37 : decode cX6_tag 37 = .ok (.aload_n 0, 1) := by decide +kernel
theorem dX6_tag_38 : decode cX6_tag 38 = .ok (.iload_n 1, 1) := by decide +kernel
theorem dX6_tag_39 : decode cX6_tag 39 = .ok (.invokevirtual 129, 3) := by decide +kernel
theorem dX6_tag_42 : decode cX6_tag 42 = .ok (.invokevirtual 53, 3) := by decide +kernel
theorem dX6_tag_45 : decode cX6_tag 45 = .ok (.ireturn, 1) := by decide +kernel
theorem dX6_append_0 : decode cX6_append 0 = .ok (.aload_n 0, 1) := by decide +kernel
theorem dX6_append_1 : decode cX6_append 1 = .ok (.iconst 0, 1) := by decide +kernel
theorem dX6_append_2 : decode cX6_append 2 = .ok (.putfield 35, 3) := by decide +kernel
theorem dX6_append_5 : decode cX6_append 5 = .ok (.iload_n 1, 1) := by decide +kernel
theorem dX6_append_6 : decode cX6_append 6 = .ok (.bipush 33, 2) := by decide +kernel
theorem dX6_append_8 : decode cX6_append 8 = .ok (.bipush 126, 2) := by decide +kernel
theorem dX6_append_10 : decode cX6_append 10 = .ok (.invokestatic 39, 3) := by decide +kernel
theorem dX6_append_13 : decode cX6_append 13 = .ok (.ifCond .ne 9, 3) := by decide +kernel
theorem dX6_append_16 : decode cX6_append 16 = .ok (.aload_n 0, 1) := by decide +kernel
theorem dX6_append_17 : decode cX6_append 17 = .ok (.iconst 1, 1) := by decide +kernel
theorem dX6_append_18 : decode cX6_append 18 = .ok (.invokevirtual 46, 3) := by decide +kernel
theorem dX6_append_21 : decode cX6_append 21 = .ok (.ireturn, 1) := by decide +kernel
theorem dX6_append_22 : decode cX6_append 22 = .ok (.aload_n 0, 1) := by decide +kernel
theorem dX6_append_23 : decode cX6_append 23 = .ok (.getfield 132, 3) := by decide +kernel
theorem dX6_append_26 : decode cX6_append 26 = .ok (.bipush 60, 2) := by decide +kernel
theorem dX6_append_28 : decode cX6_append 28 = .ok (.if_icmp .ne 9, 3) := by decide +kernel
theorem dX6_append_31 : decode cX6_append 31 = .ok (.aload_n 0, 1) := by decide +kernel
theorem dX6_append_32 : decode cX6_append 32 = .ok (.iconst 2, 1) := by decide +kernel
theorem dX6_append_33 : decode cX6_append 33 = .ok (.invokevirtual 46, 3) := by decide +kernel
theorem dX6_append_36 : decode cX6_append 36 = .ok (.ireturn, 1) := by decide +kernel
theorem dX6_append_37 : decode cX6_append 37 = .ok (.aload_n 0, 1) := by decide +kernel
theorem dX6_append_38 : decode cX6_append 38 = .ok (.getfield 26, 3) := by decide +kernel
theorem dX6_append_41 : decode cX6_append 41 = .ok (.aload_n 0, 1) := by decide +kernel
theorem dX6_append_42 : decode cX6_append 42 = .ok (.getfield 132, 3) := by decide +kernel
theorem dX6_append_45 : decode cX6_append 45 = .ok (.iload_n 1, 1) := by decide +kernel
theorem dX6_append_46 : decode cX6_append 46 = .ok (.iastore, 1) := by decide +kernel
theorem dX6_append_47 : decode cX6_append 47 = .ok (.aload_n 0, 1) := by decide +kernel
theorem dX6_append_48 : decode cX6_append 48 = .ok (.dup, 1) := by decide +kernel
theorem dX6_append_49 : decode cX6_append 49 = .ok (.getfield 132, 3) := by decide +kernel
theorem dX6_append_52 : decode cX6_append 52 = .ok (.iconst 1, 1) := by decide +kernel
theorem dX6_append_53 : decode cX6_append 53 = .ok (.iadd, 1) := by decide +kernel
theorem dX6_append_54 : decode cX6_append 54 = .ok (.putfield 132, 3) := by decide +kernel
theorem dX6_append_57 : decode cX6_append 57 = .ok (.aload_n 0, 1) := by decide +kernel
theorem dX6_append_58 : decode cX6_append 58 = .ok (.getfield 132, 3) := by decide +kernel
theorem dX6_append_61 : decode cX6_append 61 = .ok (.ireturn, 1) := by decide +kernel
theorem dX6_clearBuffer_0 : decode cX6_clearBuffer 0 = .ok (.aload_n 0, 1) := by decide +kernel
theorem dX6_clearBuffer_1 : decode cX6_clearBuffer 1 = .ok (.iconst 0, 1) := by decide +kernel
theorem dX6_clearBuffer_2 : decode cX6_clearBuffer 2 = .ok (.putfield 35, 3) := by decide +kernel
theorem dX6_clearBuffer_5 : decode cX6_clearBuffer 5 = .ok (.aload_n 0, 1) := by decide +kernel
theorem dX6_clearBuffer_6 : decode cX6_clearBuffer 6 = .ok (.getfield 132, 3) := by decide +kernel
theorem dX6_clearBuffer_9 : decode cX6_clearBuffer 9 = .ok (.istore_n 1, 1) := by decide +kernel
theorem dX6_clearBuffer_10 : decode cX6_clearBuffer 10 = .ok (.aload_n 0, 1) := by decide +kernel
theorem dX6_clearBuffer_11 : decode cX6_clearBuffer 11 = .ok (.iconst 0, 1) := by decide +kernel
theorem dX6_clearBuffer_12 : decode cX6_clearBuffer 12 = .ok (.putfield 132, 3) := by decide +kernel
theorem dX6_clearBuffer_15 : decode cX6_clearBuffer 15 = .ok (.iload_n 1, 1) := by decide +kernel
theorem dX6_clearBuffer_16 : decode cX6_clearBuffer 16 = .ok (.ireturn, 1) := by decide +kernel
theorem dX6_codeAt_0 : decode cX6_codeAt 0 = .ok (.iload_n 1, 1) := by decide +kernel
theorem dX6_codeAt_1 : decode cX6_codeAt 1 = .ok (.aload_n 0, 1) := by decide +kernel
theorem dX6_codeAt_2 : decode cX6_codeAt 2 = .ok (.getfield 132, 3) := by decide +kernel
theorem dX6_codeAt_5 : decode cX6_codeAt 5 = .ok (.if_icmp .ge 12, 3) := by decide +kernel
theorem dX6_codeAt_8 : decode cX6_codeAt 8 = .ok (.aload_n 0, 1) := by decide +kernel
theorem dX6_codeAt_9 : decode cX6_codeAt 9 = .ok (.getfield 26, 3) := by decide +kernel
theorem dX6_codeAt_12 : decode cX6_codeAt 12 = .ok (.iload_n 1, 1) := by decide +kernel
theorem dX6_codeAt_13 : decode cX6_codeAt 13 = .ok (.iaload, 1) := by decide +kernel
theorem dX6_codeAt_14 : decode cX6_codeAt 14 = .ok (.goto 4, 3) := by decide +kernel
theorem dX6_codeAt_17 : decode cX6_codeAt 17 = .ok (.iconst 0, 1) := by decide +kernel
theorem dX6_codeAt_18 : decode cX6_codeAt 18 = .ok (.ireturn, 1) := by decide +kernel
theorem dX6_moveAt_0 : decode cX6_moveAt 0 = .ok (.aload_n 0, 1) := by decide +kernel
theorem dX6_moveAt_1 : decode cX6_moveAt 1 = .ok (.iload_n 1, 1) := by decide +kernel
theorem dX6_moveAt_2 : decode cX6_moveAt 2 = .ok (.invokevirtual 135, 3) := by decide +kernel
theorem dX6_moveAt_5 : decode cX6_moveAt 5 = .ok (.istore_n 2, 1) := by decide +kernel
theorem dX6_moveAt_6 : decode cX6_moveAt 6 = .ok (.iload_n 2, 1) := by decide +kernel
theorem dX6_moveAt_7 : decode cX6_moveAt 7 = .ok (.bipush 119, 2) := by decide +kernel
theorem dX6_moveAt_9 : decode cX6_moveAt 9 = .ok (.if_icmp .eq 9, 3) := by decide +kernel
theorem dX6_moveAt_12 : decode cX6_moveAt 12 = .ok (.iload_n 2, 1) := by decide +kernel
theorem dX6_moveAt_13 : decode cX6_moveAt 13 = .ok (.bipush 111, 2) := by decide +kernel
theorem dX6_moveAt_15 : decode cX6_moveAt 15 = .ok (.if_icmp .ne 5, 3) := by decide +kernel
theorem dX6_moveAt_18 : decode cX6_moveAt 18 = .ok (.iconst 1, 1) := by decide +kernel
theorem dX6_moveAt_19 : decode cX6_moveAt 19 = .ok (.ireturn, 1) := by decide +kernel
theorem dX6_moveAt_20 : decode cX6_moveAt 20 = .ok (.iload_n 2, 1) := by decide +kernel
theorem dX6_moveAt_21 : decode cX6_moveAt 21 = .ok (.bipush 115, 2) := by decide +kernel
theorem dX6_moveAt_23 : decode cX6_moveAt 23 = .ok (.if_icmp .eq 12, 3) := by decide +kernel
theorem dX6_moveAt_26 : decode cX6_moveAt 26 = .ok (.iload_n 2, 1) := by decide +kernel
theorem dX6_moveAt_27 : decode cX6_moveAt 27 = .ok (.bipush 116, 2) := by decide +kernel
theorem dX6_moveAt_29 : decode cX6_moveAt 29 = .ok (.if_icmp .eq 6, 3) := by decide +kernel
theorem dX6_moveAt_32 : decode cX6_moveAt 32 = .ok (.bipush (-10), 2) := by decide +kernel
theorem dX6_moveAt_34 : decode cX6_moveAt 34 = .ok (.ireturn, 1) := by decide +kernel
theorem dX6_moveAt_35 : decode cX6_moveAt 35 = .ok (.aload_n 0, 1) := by decide +kernel
theorem dX6_moveAt_36 : decode cX6_moveAt 36 = .ok (.iload_n 1, 1) := by decide +kernel
theorem dX6_moveAt_37 : decode cX6_moveAt 37 = .ok (.iconst 1, 1) := by decide +kernel
theorem dX6_moveAt_38 : decode cX6_moveAt 38 = .ok (.iadd, 1) := by decide +kernel
theorem dX6_moveAt_39 : decode cX6_moveAt 39 = .ok (.invokevirtual 135, 3) := by decide +kernel
theorem dX6_moveAt_42 : decode cX6_moveAt 42 = .ok (.bipush 48, 2) := by decide +kernel
theorem dX6_moveAt_44 : decode cX6_moveAt 44 = .ok (.iload_n 2, 1) := by decide +kernel
theorem dX6_moveAt_45 : decode cX6_moveAt 45 = .ok (.bipush 115, 2) := by decide +kernel
theorem dX6_moveAt_47 : decode cX6_moveAt 47 = .ok (.if_icmp .ne 8, 3) := by decide +kernel
theorem dX6_moveAt_50 : decode cX6_moveAt 50 = .ok (.bipush 57, 2) := by decide +kernel
theorem dX6_moveAt_52 : decode cX6_moveAt 52 = .ok (.goto 5, 3) := by decide +kernel
theorem dX6_moveAt_55 : decode cX6_moveAt 55 = .ok (.bipush 51, 2) := by decide +kernel
theorem dX6_moveAt_57 : decode cX6_moveAt 57 = .ok (.invokestatic 39, 3) := by decide +kernel
theorem dX6_moveAt_60 : decode cX6_moveAt 60 = .ok (.ifCond .eq 7, 3) := by decide +kernel
theorem dX6_moveAt_63 : decode cX6_moveAt 63 = .ok (.iconst 2, 1) := by decide +kernel
theorem dX6_moveAt_64 : decode cX6_moveAt 64 = .ok (.goto 5, 3) := by decide +kernel
theorem dX6_moveAt_67 : decode cX6_moveAt 67 = .ok (.bipush (-9), 2) := by decide +kernel
theorem dX6_moveAt_69 : decode cX6_moveAt 69 = .ok (.ireturn, 1) := by decide +kernel
theorem dX6_firstError_0 : decode cX6_firstError 0 = .ok (.aload_n 0, 1) := by decide +kernel
theorem dX6_firstError_1 : decode cX6_firstError 1 = .ok (.iconst 0, 1) := by decide +kernel
theorem dX6_firstError_2 : decode cX6_firstError 2 = .ok (.putfield 35, 3) := by decide +kernel
theorem dX6_firstError_5 : decode cX6_firstError 5 = .ok (.aload_n 0, 1) := by decide +kernel
theorem dX6_firstError_6 : decode cX6_firstError 6 = .ok (.invokevirtual 138, 3) := by decide +kernel
theorem dX6_firstError_9 : decode cX6_firstError 9 = .ok (.ireturn, 1) := by decide +kernel
theorem dX6_error_0 : decode cX6_error 0 = .ok (.iconst 0, 1) := by decide +kernel
theorem dX6_error_1 : decode cX6_error 1 = .ok (.istore_n 1, 1) := by decide +kernel
theorem dX6_error_2 : decode cX6_error 2 = .ok (.iload_n 1, 1) := by decide +kernel
theorem dX6_error_3 : decode cX6_error 3 = .ok (.aload_n 0, 1) := by decide +kernel
theorem dX6_error_4 : decode cX6_error 4 = .ok (.getfield 132, 3) := by decide +kernel
theorem dX6_error_7 : decode cX6_error 7 = .ok (.if_icmp .ge 27, 3) := by decide +kernel
theorem dX6_error_10 : decode cX6_error 10 = .ok (.aload_n 0, 1) := by decide +kernel
theorem dX6_error_11 : decode cX6_error 11 = .ok (.iload_n 1, 1) := by decide +kernel
theorem dX6_error_12 : decode cX6_error 12 = .ok (.invokevirtual 141, 3) := by decide +kernel
theorem dX6_error_15 : decode cX6_error 15 = .ok (.istore_n 2, 1) := by decide +kernel
theorem dX6_error_16 : decode cX6_error 16 = .ok (.iload_n 2, 1) := by decide +kernel
theorem dX6_error_17 : decode cX6_error 17 = .ok (.ifCond .ge 10, 3) := by decide +kernel
theorem dX6_error_20 : decode cX6_error 20 = .ok (.iload_n 1, 1) := by decide +kernel
theorem dX6_error_21 : decode cX6_error 21 = .ok (.iload_n 2, 1) := by decide +kernel
theorem dX6_error_22 : decode cX6_error 22 = .ok (.iadd, 1) := by decide +kernel
theorem dX6_error_23 : decode cX6_error 23 = .ok (.bipush 10, 2) := by decide +kernel
theorem dX6_error_25 : decode cX6_error 25 = .ok (.iadd, 1) := by decide +kernel
theorem dX6_error_26 : decode cX6_error 26 = .ok (.ireturn, 1) := by decide +kernel
theorem dX6_error_27 : decode cX6_error 27 = .ok (.iload_n 1, 1) := by decide +kernel
theorem dX6_error_28 : decode cX6_error 28 = .ok (.iload_n 2, 1) := by decide +kernel
theorem dX6_error_29 : decode cX6_error 29 = .ok (.iadd, 1) := by decide +kernel
theorem dX6_error_30 : decode cX6_error 30 = .ok (.istore_n 1, 1) := by decide +kernel
theorem dX6_error_31 : decode cX6_error 31 = .ok (.goto (-29), 3) := by decide +kernel
theorem dX6_error_34 : decode cX6_error 34 = .ok (.aload_n 0, 1) := by decide +kernel
theorem dX6_error_35 : decode cX6_error 35 = .ok (.getfield 132, 3) := by decide +kernel
theorem dX6_error_38 : decode cX6_error 38 = .ok (.ireturn, 1) := by decide +kernel
theorem dX6_isGame_0 : decode cX6_isGame 0 = .ok (.iconst 0, 1) := by decide +kernel
theorem dX6_isGame_1 : decode cX6_isGame 1 = .ok (.istore_n 1, 1) := by decide +kernel
theorem dX6_isGame_2 : decode cX6_isGame 2 = .ok (.iconst 1, 1) := by decide +kernel
theorem dX6_isGame_3 : decode cX6_isGame 3 = .ok (.istore_n 2, 1) := by decide +kernel
theorem dX6_isGame_4 : decode cX6_isGame 4 = .ok (.iload_n 1, 1) := by decide +kernel
theorem dX6_isGame_5 : decode cX6_isGame 5 = .ok (.aload_n 0, 1) := by decide +kernel
theorem dX6_isGame_6 : decode cX6_isGame 6 = .ok (.getfield 132, 3) := by decide +kernel
theorem dX6_isGame_9 : decode cX6_isGame 9 = .ok (.if_icmp .ge 20, 3) := by decide +kernel
theorem dX6_isGame_12 : decode cX6_isGame 12 = .ok (.iload_n 2, 1) := by decide +kernel
theorem dX6_isGame_13 : decode cX6_isGame 13 = .ok (.ifCond .le 16, 3) := by decide +kernel
theorem dX6_isGame_16 : decode cX6_isGame 16 = .ok (.aload_n 0, 1) := by decide +kernel
theorem dX6_isGame_17 : decode cX6_isGame 17 = .ok (.iload_n 1, 1) := by decide +kernel
theorem dX6_isGame_18 : decode cX6_isGame 18 = .ok (.invokevirtual 141, 3) := by decide +kernel
theorem dX6_isGame_21 : decode cX6_isGame 21 = .ok (.istore_n 2, 1) := by decide +kernel
theorem dX6_isGame_22 : decode cX6_isGame 22 = .ok (.iload_n 1, 1) := by decide +kernel
theorem dX6_isGame_23 : decode cX6_isGame 23 = .ok (.iload_n 2, 1) := by decide +kernel
theorem dX6_isGame_24 : decode cX6_isGame 24 = .ok (.iadd, 1) := by decide +kernel
theorem dX6_isGame_25 : decode cX6_isGame 25 = .ok (.istore_n 1, 1) := by decide +kernel
theorem dX6_isGame_26 : decode cX6_isGame 26 = .ok (.goto (-22), 3) := by decide +kernel
theorem dX6_isGame_29 : decode cX6_isGame 29 = .ok (.aload_n 0, 1) := by decide +kernel
theorem dX6_isGame_30 : decode cX6_isGame 30 = .ok (.getfield 132, 3) := by decide +kernel
theorem dX6_isGame_33 : decode cX6_isGame 33 = .ok (.ifCond .le 19, 3) := by decide +kernel
theorem dX6_isGame_36 : decode cX6_isGame 36 = .ok (.iload_n 2, 1) := by decide +kernel
theorem dX6_isGame_37 : decode cX6_isGame 37 = .ok (.ifCond .le 15, 3) := by decide +kernel
theorem dX6_isGame_40 : decode cX6_isGame 40 = .ok (.iload_n 1, 1) := by decide +kernel
theorem dX6_isGame_41 : decode cX6_isGame 41 = .ok (.aload_n 0, 1) := by decide +kernel
theorem dX6_isGame_42 : decode cX6_isGame 42 = .ok (.getfield 132, 3) := by decide +kernel
theorem dX6_isGame_45 : decode cX6_isGame 45 = .ok (.if_icmp .ne 7, 3) := by decide +kernel
theorem dX6_isGame_48 : decode cX6_isGame 48 = .ok (.iconst 1, 1) := by decide +kernel
theorem dX6_isGame_49 : decode cX6_isGame 49 = .ok (.goto 4, 3) := by decide +kernel
theorem dX6_isGame_52 : decode cX6_isGame 52 = .ok (.iconst 0, 1) := by decide +kernel
theorem dX6_isGame_53 : decode cX6_isGame 53 = .ok (.ireturn, 1) := by decide +kernel
theorem dX6_does_0 : decode cX6_does 0 = .ok (.aload_n 0, 1) := by decide +kernel
theorem dX6_does_1 : decode cX6_does 1 = .ok (.getfield 26, 3) := by decide +kernel
theorem dX6_does_4 : decode cX6_does 4 = .ok (.iload_n 1, 1) := by decide +kernel
theorem dX6_does_5 : decode cX6_does 5 = .ok (.iaload, 1) := by decide +kernel
theorem dX6_does_6 : decode cX6_does 6 = .ok (.istore_n 2, 1) := by decide +kernel
theorem dX6_does_7 : decode cX6_does 7 = .ok (.aload_n 0, 1) := by decide +kernel
theorem dX6_does_8 : decode cX6_does 8 = .ok (.iload_n 1, 1) := by decide +kernel
theorem dX6_does_9 : decode cX6_does 9 = .ok (.iconst 1, 1) := by decide +kernel
theorem dX6_does_10 : decode cX6_does 10 = .ok (.iadd, 1) := by decide +kernel
theorem dX6_does_11 : decode cX6_does 11 = .ok (.invokevirtual 135, 3) := by decide +kernel
theorem dX6_does_14 : decode cX6_does 14 = .ok (.bipush 48, 2) := by decide +kernel
theorem dX6_does_16 : decode cX6_does 16 = .ok (.isub, 1) := by decide +kernel
theorem dX6_does_17 : decode cX6_does 17 = .ok (.istore_n 3, 1) := by decide +kernel
theorem dX6_does_18 : decode cX6_does 18 = .ok (.aload_n 0, 1) := by decide +kernel
theorem dX6_does_19 : decode cX6_does 19 = .ok (.invokevirtual 112, 3) := by decide +kernel
theorem dX6_does_22 : decode cX6_does 22 = .ok (.ifCond .ne 17, 3) := by decide +kernel
theorem dX6_does_25 : decode cX6_does 25 = .ok (.iload_n 2, 1) := by decide +kernel
theorem dX6_does_26 : decode cX6_does 26 = .ok (.bipush 116, 2) := by decide +kernel
theorem dX6_does_28 : decode cX6_does 28 = .ok (.if_icmp .ne 13, 3) := by decide +kernel
theorem dX6_does_31 : decode cX6_does 31 = .ok (.aload_n 0, 1) := by decide +kernel
theorem dX6_does_32 : decode cX6_does 32 = .ok (.iload_n 3, 1) := by decide +kernel
theorem dX6_does_33 : decode cX6_does 33 = .ok (.invokevirtual 125, 3) := by decide +kernel
theorem dX6_does_36 : decode cX6_does 36 = .ok (.ifCond .ne 5, 3) := by decide +kernel
theorem dX6_does_39 : decode cX6_does 39 = .ok (.iconst 0, 1) := by decide +kernel
theorem dX6_does_40 : decode cX6_does 40 = .ok (.ireturn, 1) := by decide +kernel
theorem dX6_does_41 : decode cX6_does 41 = .ok (.iload_n 2, 1) := by decide +kernel
theorem dX6_does_42 : decode cX6_does 42 = .ok (.bipush 119, 2) := by decide +kernel
theorem dX6_does_44 : decode cX6_does 44 = .ok (.if_icmp .ne 11, 3) := by decide +kernel
theorem dX6_does_47 : decode cX6_does 47 = .ok (.aload_n 0, 1) := by decide +kernel
theorem dX6_does_48 : decode cX6_does 48 = .ok (.invokevirtual 116, 3) := by decide +kernel
theorem dX6_does_51 : decode cX6_does 51 = .ok (.istore 4, 2) := by decide +kernel
theorem dX6_does_53 : decode cX6_does 53 = .ok (.iconst 1, 1) := by decide +kernel
theorem dX6_does_54 : decode cX6_does 54 = .ok (.ireturn, 1) := by decide +kernel
theorem dX6_does_55 : decode cX6_does 55 = .ok (.iload_n 2, 1) := by decide +kernel
theorem dX6_does_56 : decode cX6_does 56 = .ok (.bipush 115, 2) := by decide +kernel
theorem dX6_does_58 : decode cX6_does 58 = .ok (.if_icmp .ne 11, 3) := by decide +kernel
theorem dX6_does_61 : decode cX6_does 61 = .ok (.aload_n 0, 1) := by decide +kernel
theorem dX6_does_62 : decode cX6_does 62 = .ok (.iload_n 3, 1) := by decide +kernel
theorem dX6_does_63 : decode cX6_does 63 = .ok (.invokevirtual 119, 3) := by decide +kernel
theorem dX6_does_66 : decode cX6_does 66 = .ok (.goto 21, 3) := by decide +kernel
theorem dX6_does_69 : decode cX6_does 69 = .ok (.iload_n 2, 1) := by decide +kernel
theorem dX6_does_70 : decode cX6_does 70 = .ok (.bipush 111, 2) := by decide +kernel
theorem dX6_does_72 : decode cX6_does 72 = .ok (.if_icmp .ne 10, 3) := by decide +kernel
theorem dX6_does_75 : decode cX6_does 75 = .ok (.aload_n 0, 1) := by decide +kernel
theorem dX6_does_76 : decode cX6_does 76 = .ok (.invokevirtual 122, 3) := by decide +kernel
theorem dX6_does_79 : decode cX6_does 79 = .ok (.goto 8, 3) := by decide +kernel
theorem dX6_does_82 : decode cX6_does 82 = .ok (.aload_n 0, 1) := by decide +kernel
theorem dX6_does_83 : decode cX6_does 83 = .ok (.iload_n 3, 1) := by decide +kernel
theorem dX6_does_84 : decode cX6_does 84 = .ok (.invokevirtual 129, 3) := by decide +kernel
theorem dX6_does_87 : decode cX6_does 87 = .ok (.ifCond .ne 7, 3) := by decide +kernel
theorem dX6_does_90 : decode cX6_does 90 = .ok (.iconst 1, 1) := by decide +kernel
theorem dX6_does_91 : decode cX6_does 91 = .ok (.goto 4, 3) := by decide +kernel
theorem dX6_does_94 : decode cX6_does 94 = .ok (.iconst 0, 1) := by decide +kernel
theorem dX6_does_95 : decode cX6_does 95 = .ok (.ireturn, 1) := by decide +kernel
theorem dX6_run_0 : decode cX6_run 0 = .ok (.aload_n 0, 1) := by decide +kernel
theorem dX6_run_1 : decode cX6_run 1 = .ok (.iconst 0, 1) := by decide +kernel
theorem dX6_run_2 : decode cX6_run 2 = .ok (.putfield 35, 3) := by decide +kernel
theorem dX6_run_5 : decode cX6_run 5 = .ok (.aload_n 0, 1) := by decide +kernel
theorem dX6_run_6 : decode cX6_run 6 = .ok (.invokevirtual 144, 3) := by decide +kernel
theorem dX6_run_9 : decode cX6_run 9 = .ok (.ifCond .ne 9, 3) := by decide +kernel
theorem dX6_run_12 : decode cX6_run 12 = .ok (.aload_n 0, 1) := by decide +kernel
theorem dX6_run_13 : decode cX6_run 13 = .ok (.iconst 1, 1) := by decide +kernel
theorem dX6_run_14 : decode cX6_run 14 = .ok (.invokevirtual 46, 3) := by decide +kernel
theorem dX6_run_17 : decode cX6_run 17 = .ok (.ireturn, 1) := by decide +kernel
theorem dX6_run_18 : decode cX6_run 18 = .ok (.aload_n 0, 1) := by decide +kernel
theorem dX6_run_19 : decode cX6_run 19 = .ok (.invokevirtual 50, 3) := by decide +kernel
theorem dX6_run_22 : decode cX6_run 22 = .ok (.iconst 0, 1) := by decide +kernel
theorem dX6_run_23 : decode cX6_run 23 = .ok (.istore_n 1, 1) := by decide +kernel
theorem dX6_run_24 : decode cX6_run 24 = .ok (.iconst 0, 1) := by decide +kernel
theorem dX6_run_25 : decode cX6_run 25 = .ok (.istore_n 2, 1) := by decide +kernel
theorem dX6_run_26 : decode cX6_run 26 = .ok (.iconst 1, 1) := by decide +kernel
theorem dX6_run_27 : decode cX6_run 27 = .ok (.istore_n 3, 1) := by decide +kernel
theorem dX6_run_28 : decode cX6_run 28 = .ok (.iload_n 2, 1) := by decide +kernel
theorem dX6_run_29 : decode cX6_run 29 = .ok (.aload_n 0, 1) := by decide +kernel
theorem dX6_run_30 : decode cX6_run 30 = .ok (.getfield 132, 3) := by decide +kernel
theorem dX6_run_33 : decode cX6_run 33 = .ok (.if_icmp .ge 36, 3) := by decide +kernel
theorem dX6_run_36 : decode cX6_run 36 = .ok (.iload_n 3, 1) := by decide +kernel
theorem dX6_run_37 : decode cX6_run 37 = .ok (.ifCond .eq 32, 3) := by decide +kernel
theorem dX6_run_40 : decode cX6_run 40 = .ok (.aload_n 0, 1) := by decide +kernel
theorem dX6_run_41 : decode cX6_run 41 = .ok (.iload_n 2, 1) := by decide +kernel
theorem dX6_run_42 : decode cX6_run 42 = .ok (.invokevirtual 147, 3) := by decide +kernel
theorem dX6_run_45 : decode cX6_run 45 = .ok (.istore_n 3, 1) := by decide +kernel
theorem dX6_run_46 : decode cX6_run 46 = .ok (.iload_n 1, 1) := by decide +kernel
theorem dX6_run_47 : decode cX6_run 47 = .ok (.iload_n 3, 1) := by decide +kernel
theorem dX6_run_48 : decode cX6_run 48 = .ok (.ifCond .eq 7, 3) := by decide +kernel
theorem dX6_run_51 : decode cX6_run 51 = .ok (.iconst 1, 1) := by decide +kernel
theorem dX6_run_52 : decode cX6_run 52 = .ok (.goto 4, 3) := by decide +kernel
theorem dX6_run_55 : decode cX6_run 55 = .ok (.iconst 0, 1) := by decide +kernel
theorem dX6_run_56 : decode cX6_run 56 = .ok (.iadd, 1) := by decide +kernel
theorem dX6_run_57 : decode cX6_run 57 = .ok (.istore_n 1, 1) := by decide +kernel
theorem dX6_run_58 : decode cX6_run 58 = .ok (.iload_n 2, 1) := by decide +kernel
theorem dX6_run_59 : decode cX6_run 59 = .ok (.aload_n 0, 1) := by decide +kernel
theorem dX6_run_60 : decode cX6_run 60 = .ok (.iload_n 2, 1) := by decide +kernel
theorem dX6_run_61 : decode cX6_run 61 = .ok (.invokevirtual 141, 3) := by decide +kernel
theorem dX6_run_64 : decode cX6_run 64 = .ok (.iadd, 1) := by decide +kernel
theorem dX6_run_65 : decode cX6_run 65 = .ok (.istore_n 2, 1) := by decide +kernel
theorem dX6_run_66 : decode cX6_run 66 = .ok (.goto (-38), 3) := by decide +kernel
theorem dX6_run_69 : decode cX6_run 69 = .ok (.aload_n 0, 1) := by decide +kernel
theorem dX6_run_70 : decode cX6_run 70 = .ok (.iconst 0, 1) := by decide +kernel
theorem dX6_run_71 : decode cX6_run 71 = .ok (.putfield 132, 3) := by decide +kernel
theorem dX6_run_74 : decode cX6_run 74 = .ok (.aload_n 0, 1) := by decide +kernel
theorem dX6_run_75 : decode cX6_run 75 = .ok (.iload_n 1, 1) := by decide +kernel
theorem dX6_run_76 : decode cX6_run 76 = .ok (.invokevirtual 53, 3) := by decide +kernel
theorem dX6_run_79 : decode cX6_run 79 = .ok (.ireturn, 1) := by decide +kernel
theorem dX6_standing_0 : decode cX6_standing 0 = .ok (.iconst 0, 1) := by decide +kernel
theorem dX6_standing_1 : decode cX6_standing 1 = .ok (.istore_n 2, 1) := by decide +kernel
theorem dX6_standing_2 : decode cX6_standing 2 = .ok (.iconst 0, 1) := by decide +kernel
theorem dX6_standing_3 : decode cX6_standing 3 = .ok (.istore_n 3, 1) := by decide +kernel
theorem dX6_standing_4 : decode cX6_standing 4 = .ok (.iload_n 3, 1) := by decide +kernel
theorem dX6_standing_5 : decode cX6_standing 5 = .ok (.aload_n 0, 1) := by decide +kernel
theorem dX6_standing_6 : decode cX6_standing 6 = .ok (.getfield 7, 3) := by decide +kernel
theorem dX6_standing_9 : decode cX6_standing 9 = .ok (.iconst 4, 1) := by decide +kernel
theorem dX6_standing_10 : decode cX6_standing 10 = .ok (.iaload, 1) := by decide +kernel
theorem dX6_standing_11 : decode cX6_standing 11 = .ok (.if_icmp .ge 29, 3) := by decide +kernel
theorem dX6_standing_14 : decode cX6_standing 14 = .ok (.iload_n 2, 1) := by decide +kernel
theorem dX6_standing_15 : decode cX6_standing 15 = .ok (.aload_n 0, 1) := by decide +kernel
theorem dX6_standing_16 : decode cX6_standing 16 = .ok (.iload_n 3, 1) := by decide +kernel
theorem dX6_standing_17 : decode cX6_standing 17 = .ok (.iconst 0, 1) := by decide +kernel
theorem dX6_standing_18 : decode cX6_standing 18 = .ok (.invokevirtual 63, 3) := by decide +kernel
theorem dX6_standing_21 : decode cX6_standing 21 = .ok (.iload_n 1, 1) := by decide +kernel
theorem dX6_standing_22 : decode cX6_standing 22 = .ok (.if_icmp .ne 9, 3) := by decide +kernel
theorem dX6_standing_25 : decode cX6_standing 25 = .ok (.iconst 1, 1) := by decide +kernel
theorem dX6_standing_26 : decode cX6_standing 26 = .ok (.iload_n 3, 1) := by decide +kernel
theorem dX6_standing_27 : decode cX6_standing 27 = .ok (.ishl, 1) := by decide +kernel
theorem dX6_standing_28 : decode cX6_standing 28 = .ok (.goto 4, 3) := by decide +kernel
theorem dX6_standing_31 : decode cX6_standing 31 = .ok (.iconst 0, 1) := by decide +kernel
theorem dX6_standing_32 : decode cX6_standing 32 = .ok (.ior, 1) := by decide +kernel
theorem dX6_standing_33 : decode cX6_standing 33 = .ok (.istore_n 2, 1) := by decide +kernel
theorem dX6_standing_34 : decode cX6_standing 34 = .ok (.iinc 3 1, 3) := by decide +kernel
theorem dX6_standing_37 : decode cX6_standing 37 = .ok (.goto (-33), 3) := by decide +kernel
theorem dX6_standing_40 : decode cX6_standing 40 = .ok (.iload_n 2, 1) := by decide +kernel
theorem dX6_standing_41 : decode cX6_standing 41 = .ok (.ireturn, 1) := by decide +kernel
theorem dX6_towerOf_0 : decode cX6_towerOf 0 = .ok (.iload_n 2, 1) := by decide +kernel
theorem dX6_towerOf_1 : decode cX6_towerOf 1 = .ok (.ifCond .ne 15, 3) := by decide +kernel
theorem dX6_towerOf_4 : decode cX6_towerOf 4 = .ok (.aload_n 0, 1) := by decide +kernel
theorem dX6_towerOf_5 : decode cX6_towerOf 5 = .ok (.getfield 7, 3) := by decide +kernel
theorem dX6_towerOf_8 : decode cX6_towerOf 8 = .ok (.bipush 11, 2) := by decide +kernel
theorem dX6_towerOf_10 : decode cX6_towerOf 10 = .ok (.iload_n 1, 1) := by decide +kernel
theorem dX6_towerOf_11 : decode cX6_towerOf 11 = .ok (.iadd, 1) := by decide +kernel
theorem dX6_towerOf_12 : decode cX6_towerOf 12 = .ok (.iaload, 1) := by decide +kernel
theorem dX6_towerOf_13 : decode cX6_towerOf 13 = .ok (.goto 38, 3) := by decide +kernel
theorem dX6_towerOf_16 : decode cX6_towerOf 16 = .ok (.iload_n 2, 1) := by decide +kernel
theorem dX6_towerOf_17 : decode cX6_towerOf 17 = .ok (.iconst 1, 1) := by decide +kernel
theorem dX6_towerOf_18 : decode cX6_towerOf 18 = .ok (.if_icmp .ne 15, 3) := by decide +kernel
theorem dX6_towerOf_21 : decode cX6_towerOf 21 = .ok (.aload_n 0, 1) := by decide +kernel
theorem dX6_towerOf_22 : decode cX6_towerOf 22 = .ok (.getfield 7, 3) := by decide +kernel
theorem dX6_towerOf_25 : decode cX6_towerOf 25 = .ok (.bipush 21, 2) := by decide +kernel
theorem dX6_towerOf_27 : decode cX6_towerOf 27 = .ok (.iload_n 1, 1) := by decide +kernel
theorem dX6_towerOf_28 : decode cX6_towerOf 28 = .ok (.iadd, 1) := by decide +kernel
theorem dX6_towerOf_29 : decode cX6_towerOf 29 = .ok (.iaload, 1) := by decide +kernel
theorem dX6_towerOf_30 : decode cX6_towerOf 30 = .ok (.goto 21, 3) := by decide +kernel
theorem dX6_towerOf_33 : decode cX6_towerOf 33 = .ok (.iload_n 2, 1) := by decide +kernel
theorem dX6_towerOf_34 : decode cX6_towerOf 34 = .ok (.iconst 2, 1) := by decide +kernel
theorem dX6_towerOf_35 : decode cX6_towerOf 35 = .ok (.if_icmp .ne 11, 3) := by decide +kernel
theorem dX6_towerOf_38 : decode cX6_towerOf 38 = .ok (.aload_n 0, 1) := by decide +kernel
theorem dX6_towerOf_39 : decode cX6_towerOf 39 = .ok (.iload_n 1, 1) := by decide +kernel
theorem dX6_towerOf_40 : decode cX6_towerOf 40 = .ok (.invokevirtual 150, 3) := by decide +kernel
theorem dX6_towerOf_43 : decode cX6_towerOf 43 = .ok (.goto 8, 3) := by decide +kernel
theorem dX6_towerOf_46 : decode cX6_towerOf 46 = .ok (.aload_n 0, 1) := by decide +kernel
theorem dX6_towerOf_47 : decode cX6_towerOf 47 = .ok (.iload_n 1, 1) := by decide +kernel
theorem dX6_towerOf_48 : decode cX6_towerOf 48 = .ok (.invokevirtual 153, 3) := by decide +kernel
theorem dX6_towerOf_51 : decode cX6_towerOf 51 = .ok (.ireturn, 1) := by decide +kernel
theorem dX6_tower_0 : decode cX6_tower 0 = .ok (.aload_n 0, 1) := by decide +kernel
theorem dX6_tower_1 : decode cX6_tower 1 = .ok (.iconst 0, 1) := by decide +kernel
theorem dX6_tower_2 : decode cX6_tower 2 = .ok (.putfield 35, 3) := by decide +kernel
theorem dX6_tower_5 : decode cX6_tower 5 = .ok (.iload_n 1, 1) := by decide +kernel
theorem dX6_tower_6 : decode cX6_tower 6 = .ok (.iconst 0, 1) := by decide +kernel
theorem dX6_tower_7 : decode cX6_tower 7 = .ok (.bipush 9, 2) := by decide +kernel
theorem dX6_tower_9 : decode cX6_tower 9 = .ok (.invokestatic 39, 3) := by decide +kernel
theorem dX6_tower_12 : decode cX6_tower 12 = .ok (.ifCond .ne 9, 3) := by decide +kernel
theorem dX6_tower_15 : decode cX6_tower 15 = .ok (.aload_n 0, 1) := by decide +kernel
theorem dX6_tower_16 : decode cX6_tower 16 = .ok (.iconst 1, 1) := by decide +kernel
theorem dX6_tower_17 : decode cX6_tower 17 = .ok (.invokevirtual 46, 3) := by decide +kernel
theorem dX6_tower_20 : decode cX6_tower 20 = .ok (.ireturn, 1) := by decide +kernel
theorem dX6_tower_21 : decode cX6_tower 21 = .ok (.iload_n 2, 1) := by decide +kernel
theorem dX6_tower_22 : decode cX6_tower 22 = .ok (.iconst 0, 1) := by decide +kernel
theorem dX6_tower_23 : decode cX6_tower 23 = .ok (.iconst 3, 1) := by decide +kernel
theorem dX6_tower_24 : decode cX6_tower 24 = .ok (.invokestatic 39, 3) := by decide +kernel
theorem dX6_tower_27 : decode cX6_tower 27 = .ok (.ifCond .eq 12, 3) := by decide +kernel
theorem dX6_tower_30 : decode cX6_tower 30 = .ok (.aload_n 0, 1) := by decide +kernel
theorem dX6_tower_31 : decode cX6_tower 31 = .ok (.iload_n 1, 1) := by decide +kernel
theorem dX6_tower_32 : decode cX6_tower 32 = .ok (.iload_n 2, 1) := by decide +kernel
theorem dX6_tower_33 : decode cX6_tower 33 = .ok (.invokevirtual 156, 3) := by decide +kernel
theorem dX6_tower_36 : decode cX6_tower 36 = .ok (.goto 8, 3) := by decide +kernel
theorem dX6_tower_39 : decode cX6_tower 39 = .ok (.aload_n 0, 1) := by decide +kernel
theorem dX6_tower_40 : decode cX6_tower 40 = .ok (.iconst 2, 1) := by decide +kernel
theorem dX6_tower_41 : decode cX6_tower 41 = .ok (.invokevirtual 46, 3) := by decide +kernel
theorem dX6_tower_44 : decode cX6_tower 44 = .ok (.ireturn, 1) := by decide +kernel
theorem dX6_reasonOf_0 : decode cX6_reasonOf 0 = .ok (.aload_n 0, 1) := by decide +kernel
theorem dX6_reasonOf_1 : decode cX6_reasonOf 1 = .ok (.iload_n 1, 1) := by decide +kernel
theorem dX6_reasonOf_2 : decode cX6_reasonOf 2 = .ok (.invokevirtual 91, 3) := by decide +kernel
theorem dX6_reasonOf_5 : decode cX6_reasonOf 5 = .ok (.aload_n 0, 1) := by decide +kernel
theorem dX6_reasonOf_6 : decode cX6_reasonOf 6 = .ok (.iload_n 2, 1) := by decide +kernel
theorem dX6_reasonOf_7 : decode cX6_reasonOf 7 = .ok (.invokevirtual 97, 3) := by decide +kernel
theorem dX6_reasonOf_10 : decode cX6_reasonOf 10 = .ok (.ireturn, 1) := by decide +kernel
theorem dX6_strideable_0 : decode cX6_strideable 0 = .ok (.iconst 0, 1) := by decide +kernel
theorem dX6_strideable_1 : decode cX6_strideable 1 = .ok (.istore_n 2, 1) := by decide +kernel
theorem dX6_strideable_2 : decode cX6_strideable 2 = .ok (.iconst 0, 1) := by decide +kernel
theorem dX6_strideable_3 : decode cX6_strideable 3 = .ok (.istore_n 3, 1) := by decide +kernel
theorem dX6_strideable_4 : decode cX6_strideable 4 = .ok (.iload_n 3, 1) := by decide +kernel
theorem dX6_strideable_5 : decode cX6_strideable 5 = .ok (.bipush 10, 2) := by decide +kernel
theorem dX6_strideable_7 : decode cX6_strideable 7 = .ok (.if_icmp .ge 28, 3) := by decide +kernel
theorem dX6_strideable_10 : decode cX6_strideable 10 = .ok (.iload_n 2, 1) := by decide +kernel
theorem dX6_strideable_11 : decode cX6_strideable 11 = .ok (.aload_n 0, 1) := by decide +kernel
theorem dX6_strideable_12 : decode cX6_strideable 12 = .ok (.iload_n 1, 1) := by decide +kernel
theorem dX6_strideable_13 : decode cX6_strideable 13 = .ok (.iload_n 3, 1) := by decide +kernel
theorem dX6_strideable_14 : decode cX6_strideable 14 = .ok (.invokevirtual 159, 3) := by decide +kernel
theorem dX6_strideable_17 : decode cX6_strideable 17 = .ok (.ifCond .ne 9, 3) := by decide +kernel
theorem dX6_strideable_20 : decode cX6_strideable 20 = .ok (.iconst 1, 1) := by decide +kernel
theorem dX6_strideable_21 : decode cX6_strideable 21 = .ok (.iload_n 3, 1) := by decide +kernel
theorem dX6_strideable_22 : decode cX6_strideable 22 = .ok (.ishl, 1) := by decide +kernel
theorem dX6_strideable_23 : decode cX6_strideable 23 = .ok (.goto 4, 3) := by decide +kernel
theorem dX6_strideable_26 : decode cX6_strideable 26 = .ok (.iconst 0, 1) := by decide +kernel
theorem dX6_strideable_27 : decode cX6_strideable 27 = .ok (.ior, 1) := by decide +kernel
theorem dX6_strideable_28 : decode cX6_strideable 28 = .ok (.istore_n 2, 1) := by decide +kernel
theorem dX6_strideable_29 : decode cX6_strideable 29 = .ok (.iinc 3 1, 3) := by decide +kernel
theorem dX6_strideable_32 : decode cX6_strideable 32 = .ok (.goto (-28), 3) := by decide +kernel
theorem dX6_strideable_35 : decode cX6_strideable 35 = .ok (.iload_n 2, 1) := by decide +kernel
theorem dX6_strideable_36 : decode cX6_strideable 36 = .ok (.ireturn, 1) := by decide +kernel
theorem dX6_propertyOf_0 : decode cX6_propertyOf 0 = .ok (.iload_n 2, 1) := by decide +kernel
theorem dX6_propertyOf_1 : decode cX6_propertyOf 1 = .ok (.iconst 3, 1) := by decide +kernel
theorem dX6_propertyOf_2 : decode cX6_propertyOf 2 = .ok (.if_icmp .ge 12, 3) := by decide +kernel
theorem dX6_propertyOf_5 : decode cX6_propertyOf 5 = .ok (.aload_n 0, 1) := by decide +kernel
theorem dX6_propertyOf_6 : decode cX6_propertyOf 6 = .ok (.iload_n 1, 1) := by decide +kernel
theorem dX6_propertyOf_7 : decode cX6_propertyOf 7 = .ok (.iload_n 2, 1) := by decide +kernel
theorem dX6_propertyOf_8 : decode cX6_propertyOf 8 = .ok (.invokevirtual 63, 3) := by decide +kernel
theorem dX6_propertyOf_11 : decode cX6_propertyOf 11 = .ok (.goto 49, 3) := by decide +kernel
theorem dX6_propertyOf_14 : decode cX6_propertyOf 14 = .ok (.iload_n 2, 1) := by decide +kernel
theorem dX6_propertyOf_15 : decode cX6_propertyOf 15 = .ok (.iconst 3, 1) := by decide +kernel
theorem dX6_propertyOf_16 : decode cX6_propertyOf 16 = .ok (.if_icmp .ne 22, 3) := by decide +kernel
theorem dX6_propertyOf_19 : decode cX6_propertyOf 19 = .ok (.iload_n 1, 1) := by decide +kernel
theorem dX6_propertyOf_20 : decode cX6_propertyOf 20 = .ok (.aload_n 0, 1) := by decide +kernel
theorem dX6_propertyOf_21 : decode cX6_propertyOf 21 = .ok (.getfield 7, 3) := by decide +kernel
theorem dX6_propertyOf_24 : decode cX6_propertyOf 24 = .ok (.bipush 6, 2) := by decide +kernel
theorem dX6_propertyOf_26 : decode cX6_propertyOf 26 = .ok (.iaload, 1) := by decide +kernel
theorem dX6_propertyOf_27 : decode cX6_propertyOf 27 = .ok (.if_icmp .ne 7, 3) := by decide +kernel
theorem dX6_propertyOf_30 : decode cX6_propertyOf 30 = .ok (.iconst 1, 1) := by decide +kernel
theorem dX6_propertyOf_31 : decode cX6_propertyOf 31 = .ok (.goto 29, 3) := by decide +kernel
theorem dX6_propertyOf_34 : decode cX6_propertyOf 34 = .ok (.iconst 0, 1) := by decide +kernel
theorem dX6_propertyOf_35 : decode cX6_propertyOf 35 = .ok (.goto 25, 3) := by decide +kernel
theorem dX6_propertyOf_38 : decode cX6_propertyOf 38 = .ok (.iload_n 2, 1) := by decide +kernel
theorem dX6_propertyOf_39 : decode cX6_propertyOf 39 = .ok (.bipush 8, 2) := by decide +kernel
theorem dX6_propertyOf_41 : decode cX6_propertyOf 41 = .ok (.if_icmp .ge 14, 3) := by decide +kernel
theorem dX6_propertyOf_44 : decode cX6_propertyOf 44 = .ok (.aload_n 0, 1) := by decide +kernel
theorem dX6_propertyOf_45 : decode cX6_propertyOf 45 = .ok (.iload_n 1, 1) := by decide +kernel
theorem dX6_propertyOf_46 : decode cX6_propertyOf 46 = .ok (.iload_n 2, 1) := by decide +kernel
theorem dX6_propertyOf_47 : decode cX6_propertyOf 47 = .ok (.iconst 1, 1) := by decide +kernel
theorem dX6_propertyOf_48 : decode cX6_propertyOf 48 = .ok (.isub, 1) := by decide +kernel
theorem dX6_propertyOf_49 : decode cX6_propertyOf 49 = .ok (.invokevirtual 63, 3) := by decide +kernel
theorem dX6_propertyOf_52 : decode cX6_propertyOf 52 = .ok (.goto 8, 3) := by decide +kernel
theorem dX6_propertyOf_55 : decode cX6_propertyOf 55 = .ok (.aload_n 0, 1) := by decide +kernel
theorem dX6_propertyOf_56 : decode cX6_propertyOf 56 = .ok (.iload_n 1, 1) := by decide +kernel
theorem dX6_propertyOf_57 : decode cX6_propertyOf 57 = .ok (.invokevirtual 162, 3) := by decide +kernel
theorem dX6_propertyOf_60 : decode cX6_propertyOf 60 = .ok (.ireturn, 1) := by decide +kernel
theorem dX6_playerOf_0 : decode cX6_playerOf 0 = .ok (.aload_n 0, 1) := by decide +kernel
theorem dX6_playerOf_1 : decode cX6_playerOf 1 = .ok (.iconst 0, 1) := by decide +kernel
theorem dX6_playerOf_2 : decode cX6_playerOf 2 = .ok (.putfield 35, 3) := by decide +kernel
theorem dX6_playerOf_5 : decode cX6_playerOf 5 = .ok (.aload_n 0, 1) := by decide +kernel
theorem dX6_playerOf_6 : decode cX6_playerOf 6 = .ok (.iload_n 1, 1) := by decide +kernel
theorem dX6_playerOf_7 : decode cX6_playerOf 7 = .ok (.invokevirtual 125, 3) := by decide +kernel
theorem dX6_playerOf_10 : decode cX6_playerOf 10 = .ok (.ifCond .ne 9, 3) := by decide +kernel
theorem dX6_playerOf_13 : decode cX6_playerOf 13 = .ok (.aload_n 0, 1) := by decide +kernel
theorem dX6_playerOf_14 : decode cX6_playerOf 14 = .ok (.iconst 1, 1) := by decide +kernel
theorem dX6_playerOf_15 : decode cX6_playerOf 15 = .ok (.invokevirtual 46, 3) := by decide +kernel
theorem dX6_playerOf_18 : decode cX6_playerOf 18 = .ok (.ireturn, 1) := by decide +kernel
theorem dX6_playerOf_19 : decode cX6_playerOf 19 = .ok (.iload_n 2, 1) := by decide +kernel
theorem dX6_playerOf_20 : decode cX6_playerOf 20 = .ok (.iconst 0, 1) := by decide +kernel
theorem dX6_playerOf_21 : decode cX6_playerOf 21 = .ok (.bipush 8, 2) := by decide +kernel
theorem dX6_playerOf_23 : decode cX6_playerOf 23 = .ok (.invokestatic 39, 3) := by decide +kernel
theorem dX6_playerOf_26 : decode cX6_playerOf 26 = .ok (.ifCond .eq 12, 3) := by decide +kernel
theorem dX6_playerOf_29 : decode cX6_playerOf 29 = .ok (.aload_n 0, 1) := by decide +kernel
theorem dX6_playerOf_30 : decode cX6_playerOf 30 = .ok (.iload_n 1, 1) := by decide +kernel
theorem dX6_playerOf_31 : decode cX6_playerOf 31 = .ok (.iload_n 2, 1) := by decide +kernel
theorem dX6_playerOf_32 : decode cX6_playerOf 32 = .ok (.invokevirtual 165, 3) := by decide +kernel
theorem dX6_playerOf_35 : decode cX6_playerOf 35 = .ok (.goto 8, 3) := by decide +kernel
theorem dX6_playerOf_38 : decode cX6_playerOf 38 = .ok (.aload_n 0, 1) := by decide +kernel
theorem dX6_playerOf_39 : decode cX6_playerOf 39 = .ok (.iconst 2, 1) := by decide +kernel
theorem dX6_playerOf_40 : decode cX6_playerOf 40 = .ok (.invokevirtual 46, 3) := by decide +kernel
theorem dX6_playerOf_43 : decode cX6_playerOf 43 = .ok (.ireturn, 1) := by decide +kernel
theorem dX6_inGlasses_0 : decode cX6_inGlasses 0 = .ok (.iconst 0, 1) := by decide +kernel
theorem dX6_inGlasses_1 : decode cX6_inGlasses 1 = .ok (.istore_n 1, 1) := by decide +kernel
theorem dX6_inGlasses_2 : decode cX6_inGlasses 2 = .ok (.iconst 0, 1) := by decide +kernel
theorem dX6_inGlasses_3 : decode cX6_inGlasses 3 = .ok (.istore_n 2, 1) := by decide +kernel
theorem dX6_inGlasses_4 : decode cX6_inGlasses 4 = .ok (.iload_n 2, 1) := by decide +kernel
theorem dX6_inGlasses_5 : decode cX6_inGlasses 5 = .ok (.aload_n 0, 1) := by decide +kernel
theorem dX6_inGlasses_6 : decode cX6_inGlasses 6 = .ok (.getfield 7, 3) := by decide +kernel
theorem dX6_inGlasses_9 : decode cX6_inGlasses 9 = .ok (.iconst 4, 1) := by decide +kernel
theorem dX6_inGlasses_10 : decode cX6_inGlasses 10 = .ok (.iaload, 1) := by decide +kernel
theorem dX6_inGlasses_11 : decode cX6_inGlasses 11 = .ok (.if_icmp .ge 25, 3) := by decide +kernel
theorem dX6_inGlasses_14 : decode cX6_inGlasses 14 = .ok (.iload_n 1, 1) := by decide +kernel
theorem dX6_inGlasses_15 : decode cX6_inGlasses 15 = .ok (.aload_n 0, 1) := by decide +kernel
theorem dX6_inGlasses_16 : decode cX6_inGlasses 16 = .ok (.iload_n 2, 1) := by decide +kernel
theorem dX6_inGlasses_17 : decode cX6_inGlasses 17 = .ok (.iconst 1, 1) := by decide +kernel
theorem dX6_inGlasses_18 : decode cX6_inGlasses 18 = .ok (.invokevirtual 63, 3) := by decide +kernel
theorem dX6_inGlasses_21 : decode cX6_inGlasses 21 = .ok (.aload_n 0, 1) := by decide +kernel
theorem dX6_inGlasses_22 : decode cX6_inGlasses 22 = .ok (.iload_n 2, 1) := by decide +kernel
theorem dX6_inGlasses_23 : decode cX6_inGlasses 23 = .ok (.iconst 2, 1) := by decide +kernel
theorem dX6_inGlasses_24 : decode cX6_inGlasses 24 = .ok (.invokevirtual 63, 3) := by decide +kernel
theorem dX6_inGlasses_27 : decode cX6_inGlasses 27 = .ok (.iadd, 1) := by decide +kernel
theorem dX6_inGlasses_28 : decode cX6_inGlasses 28 = .ok (.iadd, 1) := by decide +kernel
theorem dX6_inGlasses_29 : decode cX6_inGlasses 29 = .ok (.istore_n 1, 1) := by decide +kernel
theorem dX6_inGlasses_30 : decode cX6_inGlasses 30 = .ok (.iinc 2 1, 3) := by decide +kernel
theorem dX6_inGlasses_33 : decode cX6_inGlasses 33 = .ok (.goto (-29), 3) := by decide +kernel
theorem dX6_inGlasses_36 : decode cX6_inGlasses 36 = .ok (.iload_n 1, 1) := by decide +kernel
theorem dX6_inGlasses_37 : decode cX6_inGlasses 37 = .ok (.ireturn, 1) := by decide +kernel
theorem dX6_onTowers_0 : decode cX6_onTowers 0 = .ok (.iconst 0, 1) := by decide +kernel
theorem dX6_onTowers_1 : decode cX6_onTowers 1 = .ok (.istore_n 1, 1) := by decide +kernel
theorem dX6_onTowers_2 : decode cX6_onTowers 2 = .ok (.iconst 0, 1) := by decide +kernel
theorem dX6_onTowers_3 : decode cX6_onTowers 3 = .ok (.istore_n 2, 1) := by decide +kernel
theorem dX6_onTowers_4 : decode cX6_onTowers 4 = .ok (.iload_n 2, 1) := by decide +kernel
theorem dX6_onTowers_5 : decode cX6_onTowers 5 = .ok (.bipush 10, 2) := by decide +kernel
theorem dX6_onTowers_7 : decode cX6_onTowers 7 = .ok (.if_icmp .ge 21, 3) := by decide +kernel
theorem dX6_onTowers_10 : decode cX6_onTowers 10 = .ok (.iload_n 1, 1) := by decide +kernel
theorem dX6_onTowers_11 : decode cX6_onTowers 11 = .ok (.aload_n 0, 1) := by decide +kernel
theorem dX6_onTowers_12 : decode cX6_onTowers 12 = .ok (.getfield 7, 3) := by decide +kernel
theorem dX6_onTowers_15 : decode cX6_onTowers 15 = .ok (.bipush 21, 2) := by decide +kernel
theorem dX6_onTowers_17 : decode cX6_onTowers 17 = .ok (.iload_n 2, 1) := by decide +kernel
theorem dX6_onTowers_18 : decode cX6_onTowers 18 = .ok (.iadd, 1) := by decide +kernel
theorem dX6_onTowers_19 : decode cX6_onTowers 19 = .ok (.iaload, 1) := by decide +kernel
theorem dX6_onTowers_20 : decode cX6_onTowers 20 = .ok (.iadd, 1) := by decide +kernel
theorem dX6_onTowers_21 : decode cX6_onTowers 21 = .ok (.istore_n 1, 1) := by decide +kernel
theorem dX6_onTowers_22 : decode cX6_onTowers 22 = .ok (.iinc 2 1, 3) := by decide +kernel
theorem dX6_onTowers_25 : decode cX6_onTowers 25 = .ok (.goto (-21), 3) := by decide +kernel
theorem dX6_onTowers_28 : decode cX6_onTowers 28 = .ok (.iload_n 1, 1) := by decide +kernel
theorem dX6_onTowers_29 : decode cX6_onTowers 29 = .ok (.ireturn, 1) := by decide +kernel
theorem dX6_numberOf_0 : decode cX6_numberOf 0 = .ok (.iload_n 1, 1) := by decide +kernel
theorem dX6_numberOf_1 : decode cX6_numberOf 1 = .ok (.tableswitch 155 0 9 #[55, 62, 82, 103, 111, 119, 127, 137, 142, 147], 55) := by decide +kernel
theorem dX6_numberOf_56 : decode cX6_numberOf 56 = .ok (.aload_n 0, 1) := by decide +kernel
theorem dX6_numberOf_57 : decode cX6_numberOf 57 = .ok (.getfield 7, 3) := by decide +kernel
theorem dX6_numberOf_60 : decode cX6_numberOf 60 = .ok (.iconst 4, 1) := by decide +kernel
theorem dX6_numberOf_61 : decode cX6_numberOf 61 = .ok (.iaload, 1) := by decide +kernel
theorem dX6_numberOf_62 : decode cX6_numberOf 62 = .ok (.ireturn, 1) := by decide +kernel
theorem dX6_numberOf_63 : decode cX6_numberOf 63 = .ok (.aload_n 0, 1) := by decide +kernel
theorem dX6_numberOf_64 : decode cX6_numberOf 64 = .ok (.getfield 7, 3) := by decide +kernel
theorem dX6_numberOf_67 : decode cX6_numberOf 67 = .ok (.iconst 4, 1) := by decide +kernel
theorem dX6_numberOf_68 : decode cX6_numberOf 68 = .ok (.iaload, 1) := by decide +kernel
theorem dX6_numberOf_69 : decode cX6_numberOf 69 = .ok (.ifCond .ne 7, 3) := by decide +kernel
theorem dX6_numberOf_72 : decode cX6_numberOf 72 = .ok (.iconst (-1), 1) := by decide +kernel
theorem dX6_numberOf_73 : decode cX6_numberOf 73 = .ok (.goto 9, 3) := by decide +kernel
theorem dX6_numberOf_76 : decode cX6_numberOf 76 = .ok (.aload_n 0, 1) := by decide +kernel
theorem dX6_numberOf_77 : decode cX6_numberOf 77 = .ok (.getfield 7, 3) := by decide +kernel
theorem dX6_numberOf_80 : decode cX6_numberOf 80 = .ok (.iconst 5, 1) := by decide +kernel
theorem dX6_numberOf_81 : decode cX6_numberOf 81 = .ok (.iaload, 1) := by decide +kernel
theorem dX6_numberOf_82 : decode cX6_numberOf 82 = .ok (.ireturn, 1) := by decide +kernel
theorem dX6_numberOf_83 : decode cX6_numberOf 83 = .ok (.aload_n 0, 1) := by decide +kernel
theorem dX6_numberOf_84 : decode cX6_numberOf 84 = .ok (.getfield 7, 3) := by decide +kernel
theorem dX6_numberOf_87 : decode cX6_numberOf 87 = .ok (.iconst 4, 1) := by decide +kernel
theorem dX6_numberOf_88 : decode cX6_numberOf 88 = .ok (.iaload, 1) := by decide +kernel
theorem dX6_numberOf_89 : decode cX6_numberOf 89 = .ok (.ifCond .ne 7, 3) := by decide +kernel
theorem dX6_numberOf_92 : decode cX6_numberOf 92 = .ok (.iconst (-1), 1) := by decide +kernel
theorem dX6_numberOf_93 : decode cX6_numberOf 93 = .ok (.goto 10, 3) := by decide +kernel
theorem dX6_numberOf_96 : decode cX6_numberOf 96 = .ok (.aload_n 0, 1) := by decide +kernel
theorem dX6_numberOf_97 : decode cX6_numberOf 97 = .ok (.getfield 7, 3) := by decide +kernel
theorem dX6_numberOf_100 : decode cX6_numberOf 100 = .ok (.bipush 6, 2) := by decide +kernel
theorem dX6_numberOf_102 : decode cX6_numberOf 102 = .ok (.iaload, 1) := by decide +kernel
theorem dX6_numberOf_103 : decode cX6_numberOf 103 = .ok (.ireturn, 1) := by decide +kernel
theorem dX6_numberOf_104 : decode cX6_numberOf 104 = .ok (.aload_n 0, 1) := by decide +kernel
theorem dX6_numberOf_105 : decode cX6_numberOf 105 = .ok (.getfield 7, 3) := by decide +kernel
theorem dX6_numberOf_108 : decode cX6_numberOf 108 = .ok (.bipush 7, 2) := by decide +kernel
theorem dX6_numberOf_110 : decode cX6_numberOf 110 = .ok (.iaload, 1) := by decide +kernel
theorem dX6_numberOf_111 : decode cX6_numberOf 111 = .ok (.ireturn, 1) := by decide +kernel
theorem dX6_numberOf_112 : decode cX6_numberOf 112 = .ok (.aload_n 0, 1) := by decide +kernel
theorem dX6_numberOf_113 : decode cX6_numberOf 113 = .ok (.getfield 7, 3) := by decide +kernel
theorem dX6_numberOf_116 : decode cX6_numberOf 116 = .ok (.bipush 8, 2) := by decide +kernel
theorem dX6_numberOf_118 : decode cX6_numberOf 118 = .ok (.iaload, 1) := by decide +kernel
theorem dX6_numberOf_119 : decode cX6_numberOf 119 = .ok (.ireturn, 1) := by decide +kernel
theorem dX6_numberOf_120 : decode cX6_numberOf 120 = .ok (.aload_n 0, 1) := by decide +kernel
theorem dX6_numberOf_121 : decode cX6_numberOf 121 = .ok (.getfield 7, 3) := by decide +kernel
theorem dX6_numberOf_124 : decode cX6_numberOf 124 = .ok (.bipush 9, 2) := by decide +kernel
theorem dX6_numberOf_126 : decode cX6_numberOf 126 = .ok (.iaload, 1) := by decide +kernel
theorem dX6_numberOf_127 : decode cX6_numberOf 127 = .ok (.ireturn, 1) := by decide +kernel
theorem dX6_numberOf_128 : decode cX6_numberOf 128 = .ok (.aload_n 0, 1) := by decide +kernel
theorem dX6_numberOf_129 : decode cX6_numberOf 129 = .ok (.invokevirtual 168, 3) := by decide +kernel
theorem dX6_numberOf_132 : decode cX6_numberOf 132 = .ok (.aload_n 0, 1) := by decide +kernel
theorem dX6_numberOf_133 : decode cX6_numberOf 133 = .ok (.invokevirtual 171, 3) := by decide +kernel
theorem dX6_numberOf_136 : decode cX6_numberOf 136 = .ok (.iadd, 1) := by decide +kernel
theorem dX6_numberOf_137 : decode cX6_numberOf 137 = .ok (.ireturn, 1) := by decide +kernel
theorem dX6_numberOf_138 : decode cX6_numberOf 138 = .ok (.aload_n 0, 1) := by decide +kernel
theorem dX6_numberOf_139 : decode cX6_numberOf 139 = .ok (.invokevirtual 168, 3) := by decide +kernel
theorem dX6_numberOf_142 : decode cX6_numberOf 142 = .ok (.ireturn, 1) := by decide +kernel
theorem dX6_numberOf_143 : decode cX6_numberOf 143 = .ok (.aload_n 0, 1) := by decide +kernel
theorem dX6_numberOf_144 : decode cX6_numberOf 144 = .ok (.invokevirtual 171, 3) := by decide +kernel
theorem dX6_numberOf_147 : decode cX6_numberOf 147 = .ok (.ireturn, 1) := by decide +kernel
theorem dX6_numberOf_148 : decode cX6_numberOf 148 = .ok (.aload_n 0, 1) := by decide +kernel
theorem dX6_numberOf_149 : decode cX6_numberOf 149 = .ok (.getfield 7, 3) := by decide +kernel
theorem dX6_numberOf_152 : decode cX6_numberOf 152 = .ok (.bipush 10, 2) := by decide +kernel
theorem dX6_numberOf_154 : decode cX6_numberOf 154 = .ok (.iaload, 1) := by decide +kernel
theorem dX6_numberOf_155 : decode cX6_numberOf 155 = .ok (.ireturn, 1) := by decide +kernel
theorem dX6_numberOf_156 : decode cX6_numberOf 156 = .ok (.aload_n 0, 1) := by decide +kernel
theorem dX6_numberOf_157 : decode cX6_numberOf 157 = .ok (.getfield 43, 3) := by decide +kernel
theorem dX6_numberOf_160 : decode cX6_numberOf 160 = .ok (.ireturn, 1) := by decide +kernel
theorem dX6_count_0 : decode cX6_count 0 = .ok (.aload_n 0, 1) := by decide +kernel
theorem dX6_count_1 : decode cX6_count 1 = .ok (.iconst 0, 1) := by decide +kernel
theorem dX6_count_2 : decode cX6_count 2 = .ok (.putfield 35, 3) := by decide +kernel
theorem dX6_count_5 : decode cX6_count 5 = .ok (.iload_n 1, 1) := by decide +kernel
theorem dX6_count_6 : decode cX6_count 6 = .ok (.iconst 0, 1) := by decide +kernel
theorem dX6_count_7 : decode cX6_count 7 = .ok (.bipush 10, 2) := by decide +kernel
theorem dX6_count_9 : decode cX6_count 9 = .ok (.invokestatic 39, 3) := by decide +kernel
theorem dX6_count_12 : decode cX6_count 12 = .ok (.ifCond .eq 11, 3) := by decide +kernel
theorem dX6_count_15 : decode cX6_count 15 = .ok (.aload_n 0, 1) := by decide +kernel
theorem dX6_count_16 : decode cX6_count 16 = .ok (.iload_n 1, 1) := by decide +kernel
theorem dX6_count_17 : decode cX6_count 17 = .ok (.invokevirtual 174, 3) := by decide +kernel
theorem dX6_count_20 : decode cX6_count 20 = .ok (.goto 8, 3) := by decide +kernel
theorem dX6_count_23 : decode cX6_count 23 = .ok (.aload_n 0, 1) := by decide +kernel
theorem dX6_count_24 : decode cX6_count 24 = .ok (.iconst 1, 1) := by decide +kernel
theorem dX6_count_25 : decode cX6_count 25 = .ok (.invokevirtual 46, 3) := by decide +kernel
theorem dX6_count_28 : decode cX6_count 28 = .ok (.ireturn, 1) := by decide +kernel
theorem dX6_setting_0 : decode cX6_setting 0 = .ok (.aload_n 0, 1) := by decide +kernel
theorem dX6_setting_1 : decode cX6_setting 1 = .ok (.iconst 0, 1) := by decide +kernel
theorem dX6_setting_2 : decode cX6_setting 2 = .ok (.putfield 35, 3) := by decide +kernel
theorem dX6_setting_5 : decode cX6_setting 5 = .ok (.iload_n 1, 1) := by decide +kernel
theorem dX6_setting_6 : decode cX6_setting 6 = .ok (.iconst 0, 1) := by decide +kernel
theorem dX6_setting_7 : decode cX6_setting 7 = .ok (.iconst 3, 1) := by decide +kernel
theorem dX6_setting_8 : decode cX6_setting 8 = .ok (.invokestatic 39, 3) := by decide +kernel
theorem dX6_setting_11 : decode cX6_setting 11 = .ok (.ifCond .eq 12, 3) := by decide +kernel
theorem dX6_setting_14 : decode cX6_setting 14 = .ok (.aload_n 0, 1) := by decide +kernel
theorem dX6_setting_15 : decode cX6_setting 15 = .ok (.getfield 7, 3) := by decide +kernel
theorem dX6_setting_18 : decode cX6_setting 18 = .ok (.iload_n 1, 1) := by decide +kernel
theorem dX6_setting_19 : decode cX6_setting 19 = .ok (.iaload, 1) := by decide +kernel
theorem dX6_setting_20 : decode cX6_setting 20 = .ok (.goto 8, 3) := by decide +kernel
theorem dX6_setting_23 : decode cX6_setting 23 = .ok (.aload_n 0, 1) := by decide +kernel
theorem dX6_setting_24 : decode cX6_setting 24 = .ok (.iconst 1, 1) := by decide +kernel
theorem dX6_setting_25 : decode cX6_setting 25 = .ok (.invokevirtual 46, 3) := by decide +kernel
theorem dX6_setting_28 : decode cX6_setting 28 = .ok (.ireturn, 1) := by decide +kernel
theorem dX6_cheapest_0 : decode cX6_cheapest 0 = .ok (.iconst 0, 1) := by decide +kernel
theorem dX6_cheapest_1 : decode cX6_cheapest 1 = .ok (.istore_n 3, 1) := by decide +kernel
theorem dX6_cheapest_2 : decode cX6_cheapest 2 = .ok (.iload_n 3, 1) := by decide +kernel
theorem dX6_cheapest_3 : decode cX6_cheapest 3 = .ok (.bipush 10, 2) := by decide +kernel
theorem dX6_cheapest_5 : decode cX6_cheapest 5 = .ok (.if_icmp .ge 26, 3) := by decide +kernel
theorem dX6_cheapest_8 : decode cX6_cheapest 8 = .ok (.aload_n 0, 1) := by decide +kernel
theorem dX6_cheapest_9 : decode cX6_cheapest 9 = .ok (.getfield 32, 3) := by decide +kernel
theorem dX6_cheapest_12 : decode cX6_cheapest 12 = .ok (.iload_n 3, 1) := by decide +kernel
theorem dX6_cheapest_13 : decode cX6_cheapest 13 = .ok (.iload_n 3, 1) := by decide +kernel
theorem dX6_cheapest_14 : decode cX6_cheapest 14 = .ok (.iload_n 1, 1) := by decide +kernel
theorem dX6_cheapest_15 : decode cX6_cheapest 15 = .ok (.if_icmp .ne 7, 3) := by decide +kernel
theorem dX6_cheapest_18 : decode cX6_cheapest 18 = .ok (.iconst 0, 1) := by decide +kernel
theorem dX6_cheapest_19 : decode cX6_cheapest 19 = .ok (.goto 5, 3) := by decide +kernel
theorem dX6_cheapest_22 : decode cX6_cheapest 22 = .ok (.ldc 177, 2) := by decide +kernel
theorem dX6_cheapest_24 : decode cX6_cheapest 24 = .ok (.iastore, 1) := by decide +kernel
theorem dX6_cheapest_25 : decode cX6_cheapest 25 = .ok (.iinc 3 1, 3) := by decide +kernel
theorem dX6_cheapest_28 : decode cX6_cheapest 28 = .ok (.goto (-26), 3) := by decide +kernel
theorem dX6_cheapest_31 : decode cX6_cheapest 31 = .ok (.iconst 1, 1) := by decide +kernel
theorem dX6_cheapest_32 : decode cX6_cheapest 32 = .ok (.istore_n 3, 1) := by decide +kernel
theorem dX6_cheapest_33 : decode cX6_cheapest 33 = .ok (.iload_n 3, 1) := by decide +kernel
theorem dX6_cheapest_34 : decode cX6_cheapest 34 = .ok (.ifCond .eq 97, 3) := by decide +kernel
theorem dX6_cheapest_37 : decode cX6_cheapest 37 = .ok (.iconst 0, 1) := by decide +kernel
theorem dX6_cheapest_38 : decode cX6_cheapest 38 = .ok (.istore_n 3, 1) := by decide +kernel
theorem dX6_cheapest_39 : decode cX6_cheapest 39 = .ok (.iconst 0, 1) := by decide +kernel
theorem dX6_cheapest_40 : decode cX6_cheapest 40 = .ok (.istore 4, 2) := by decide +kernel
theorem dX6_cheapest_42 : decode cX6_cheapest 42 = .ok (.iload 4, 2) := by decide +kernel
theorem dX6_cheapest_44 : decode cX6_cheapest 44 = .ok (.bipush 100, 2) := by decide +kernel
theorem dX6_cheapest_46 : decode cX6_cheapest 46 = .ok (.if_icmp .ge 82, 3) := by decide +kernel
theorem dX6_cheapest_49 : decode cX6_cheapest 49 = .ok (.iload 4, 2) := by decide +kernel
theorem dX6_cheapest_51 : decode cX6_cheapest 51 = .ok (.bipush 10, 2) := by decide +kernel
theorem dX6_cheapest_53 : decode cX6_cheapest 53 = .ok (.idiv, 1) := by decide +kernel
theorem dX6_cheapest_54 : decode cX6_cheapest 54 = .ok (.istore 5, 2) := by decide +kernel
theorem dX6_cheapest_56 : decode cX6_cheapest 56 = .ok (.iload 4, 2) := by decide +kernel
theorem dX6_cheapest_58 : decode cX6_cheapest 58 = .ok (.bipush 10, 2) := by decide +kernel
theorem dX6_cheapest_60 : decode cX6_cheapest 60 = .ok (.irem, 1) := by decide +kernel
theorem dX6_cheapest_61 : decode cX6_cheapest 61 = .ok (.istore 6, 2) := by decide +kernel
theorem dX6_cheapest_63 : decode cX6_cheapest 63 = .ok (.aload_n 0, 1) := by decide +kernel
theorem dX6_cheapest_64 : decode cX6_cheapest 64 = .ok (.getfield 32, 3) := by decide +kernel
theorem dX6_cheapest_67 : decode cX6_cheapest 67 = .ok (.iload 5, 2) := by decide +kernel
theorem dX6_cheapest_69 : decode cX6_cheapest 69 = .ok (.iaload, 1) := by decide +kernel
theorem dX6_cheapest_70 : decode cX6_cheapest 70 = .ok (.aload_n 0, 1) := by decide +kernel
theorem dX6_cheapest_71 : decode cX6_cheapest 71 = .ok (.iload 5, 2) := by decide +kernel
theorem dX6_cheapest_73 : decode cX6_cheapest 73 = .ok (.iload 6, 2) := by decide +kernel
theorem dX6_cheapest_75 : decode cX6_cheapest 75 = .ok (.invokevirtual 76, 3) := by decide +kernel
theorem dX6_cheapest_78 : decode cX6_cheapest 78 = .ok (.iadd, 1) := by decide +kernel
theorem dX6_cheapest_79 : decode cX6_cheapest 79 = .ok (.istore 7, 2) := by decide +kernel
theorem dX6_cheapest_81 : decode cX6_cheapest 81 = .ok (.iload 5, 2) := by decide +kernel
theorem dX6_cheapest_83 : decode cX6_cheapest 83 = .ok (.iload 6, 2) := by decide +kernel
theorem dX6_cheapest_85 : decode cX6_cheapest 85 = .ok (.if_icmp .eq 37, 3) := by decide +kernel
theorem dX6_cheapest_88 : decode cX6_cheapest 88 = .ok (.iload 7, 2) := by decide +kernel
theorem dX6_cheapest_90 : decode cX6_cheapest 90 = .ok (.aload_n 0, 1) := by decide +kernel
theorem dX6_cheapest_91 : decode cX6_cheapest 91 = .ok (.getfield 32, 3) := by decide +kernel
theorem dX6_cheapest_94 : decode cX6_cheapest 94 = .ok (.iload 6, 2) := by decide +kernel
theorem dX6_cheapest_96 : decode cX6_cheapest 96 = .ok (.iaload, 1) := by decide +kernel
theorem dX6_cheapest_97 : decode cX6_cheapest 97 = .ok (.if_icmp .ge 25, 3) := by decide +kernel
theorem dX6_cheapest_100 : decode cX6_cheapest 100 = .ok (.aload_n 0, 1) := by decide +kernel
theorem dX6_cheapest_101 : decode cX6_cheapest 101 = .ok (.iload 5, 2) := by decide +kernel
theorem dX6_cheapest_103 : decode cX6_cheapest 103 = .ok (.iload 6, 2) := by decide +kernel
theorem dX6_cheapest_105 : decode cX6_cheapest 105 = .ok (.invokevirtual 59, 3) := by decide +kernel
theorem dX6_cheapest_108 : decode cX6_cheapest 108 = .ok (.ifCond .eq 14, 3) := by decide +kernel
theorem dX6_cheapest_111 : decode cX6_cheapest 111 = .ok (.aload_n 0, 1) := by decide +kernel
theorem dX6_cheapest_112 : decode cX6_cheapest 112 = .ok (.getfield 32, 3) := by decide +kernel
theorem dX6_cheapest_115 : decode cX6_cheapest 115 = .ok (.iload 6, 2) := by decide +kernel
theorem dX6_cheapest_117 : decode cX6_cheapest 117 = .ok (.iload 7, 2) := by decide +kernel
theorem dX6_cheapest_119 : decode cX6_cheapest 119 = .ok (.iastore, 1) := by decide +kernel
theorem dX6_cheapest_120 : decode cX6_cheapest 120 = .ok (.iconst 1, 1) := by decide +kernel
theorem dX6_cheapest_121 : decode cX6_cheapest 121 = .ok (.istore_n 3, 1) := by decide +kernel
theorem dX6_cheapest_122 : decode cX6_cheapest 122 = .ok (.iinc 4 1, 3) := by decide +kernel
theorem dX6_cheapest_125 : decode cX6_cheapest 125 = .ok (.goto (-83), 3) := by decide +kernel
theorem dX6_cheapest_128 : decode cX6_cheapest 128 = .ok (.goto (-95), 3) := by decide +kernel
theorem dX6_cheapest_131 : decode cX6_cheapest 131 = .ok (.aload_n 0, 1) := by decide +kernel
theorem dX6_cheapest_132 : decode cX6_cheapest 132 = .ok (.getfield 32, 3) := by decide +kernel
theorem dX6_cheapest_135 : decode cX6_cheapest 135 = .ok (.iload_n 2, 1) := by decide +kernel
theorem dX6_cheapest_136 : decode cX6_cheapest 136 = .ok (.iaload, 1) := by decide +kernel
theorem dX6_cheapest_137 : decode cX6_cheapest 137 = .ok (.ireturn, 1) := by decide +kernel
theorem dX6_price_0 : decode cX6_price 0 = .ok (.aload_n 0, 1) := by decide +kernel
theorem dX6_price_1 : decode cX6_price 1 = .ok (.iconst 0, 1) := by decide +kernel
theorem dX6_price_2 : decode cX6_price 2 = .ok (.putfield 35, 3) := by decide +kernel
theorem dX6_price_5 : decode cX6_price 5 = .ok (.iload_n 1, 1) := by decide +kernel
theorem dX6_price_6 : decode cX6_price 6 = .ok (.iconst 0, 1) := by decide +kernel
theorem dX6_price_7 : decode cX6_price 7 = .ok (.bipush 9, 2) := by decide +kernel
theorem dX6_price_9 : decode cX6_price 9 = .ok (.invokestatic 39, 3) := by decide +kernel
theorem dX6_price_12 : decode cX6_price 12 = .ok (.ifCond .eq 13, 3) := by decide +kernel
theorem dX6_price_15 : decode cX6_price 15 = .ok (.iload_n 2, 1) := by decide +kernel
theorem dX6_price_16 : decode cX6_price 16 = .ok (.iconst 0, 1) := by decide +kernel
theorem dX6_price_17 : decode cX6_price 17 = .ok (.bipush 9, 2) := by decide +kernel
theorem dX6_price_19 : decode cX6_price 19 = .ok (.invokestatic 39, 3) := by decide +kernel
theorem dX6_price_22 : decode cX6_price 22 = .ok (.ifCond .ne 9, 3) := by decide +kernel
theorem dX6_price_25 : decode cX6_price 25 = .ok (.aload_n 0, 1) := by decide +kernel
theorem dX6_price_26 : decode cX6_price 26 = .ok (.iconst 1, 1) := by decide +kernel
theorem dX6_price_27 : decode cX6_price 27 = .ok (.invokevirtual 46, 3) := by decide +kernel
theorem dX6_price_30 : decode cX6_price 30 = .ok (.ireturn, 1) := by decide +kernel
theorem dX6_price_31 : decode cX6_price 31 = .ok (.iload_n 3, 1) := by decide +kernel
theorem dX6_price_32 : decode cX6_price 32 = .ok (.iconst 0, 1) := by decide +kernel
theorem dX6_price_33 : decode cX6_price 33 = .ok (.iconst 1, 1) := by decide +kernel
theorem dX6_price_34 : decode cX6_price 34 = .ok (.invokestatic 39, 3) := by decide +kernel
theorem dX6_price_37 : decode cX6_price 37 = .ok (.ifCond .eq 12, 3) := by decide +kernel
theorem dX6_price_40 : decode cX6_price 40 = .ok (.aload_n 0, 1) := by decide +kernel
theorem dX6_price_41 : decode cX6_price 41 = .ok (.iload_n 1, 1) := by decide +kernel
theorem dX6_price_42 : decode cX6_price 42 = .ok (.iload_n 2, 1) := by decide +kernel
theorem dX6_price_43 : decode cX6_price 43 = .ok (.invokevirtual 178, 3) := by decide +kernel
theorem dX6_price_46 : decode cX6_price 46 = .ok (.goto 8, 3) := by decide +kernel
theorem dX6_price_49 : decode cX6_price 49 = .ok (.aload_n 0, 1) := by decide +kernel
theorem dX6_price_50 : decode cX6_price 50 = .ok (.iconst 2, 1) := by decide +kernel
theorem dX6_price_51 : decode cX6_price 51 = .ok (.invokevirtual 46, 3) := by decide +kernel
theorem dX6_price_54 : decode cX6_price 54 = .ok (.ireturn, 1) := by decide +kernel
theorem dX6_whyNot_0 : decode cX6_whyNot 0 = .ok (.aload_n 0, 1) := by decide +kernel
theorem dX6_whyNot_1 : decode cX6_whyNot 1 = .ok (.iconst 0, 1) := by decide +kernel
theorem dX6_whyNot_2 : decode cX6_whyNot 2 = .ok (.putfield 35, 3) := by decide +kernel
theorem dX6_whyNot_5 : decode cX6_whyNot 5 = .ok (.aload_n 0, 1) := by decide +kernel
theorem dX6_whyNot_6 : decode cX6_whyNot 6 = .ok (.iload_n 1, 1) := by decide +kernel
theorem dX6_whyNot_7 : decode cX6_whyNot 7 = .ok (.invokevirtual 125, 3) := by decide +kernel
theorem dX6_whyNot_10 : decode cX6_whyNot 10 = .ok (.ifCond .eq 22, 3) := by decide +kernel
theorem dX6_whyNot_13 : decode cX6_whyNot 13 = .ok (.iload_n 2, 1) := by decide +kernel
theorem dX6_whyNot_14 : decode cX6_whyNot 14 = .ok (.iconst 0, 1) := by decide +kernel
theorem dX6_whyNot_15 : decode cX6_whyNot 15 = .ok (.bipush 9, 2) := by decide +kernel
theorem dX6_whyNot_17 : decode cX6_whyNot 17 = .ok (.invokestatic 39, 3) := by decide +kernel
theorem dX6_whyNot_20 : decode cX6_whyNot 20 = .ok (.ifCond .eq 12, 3) := by decide +kernel
theorem dX6_whyNot_23 : decode cX6_whyNot 23 = .ok (.aload_n 0, 1) := by decide +kernel
theorem dX6_whyNot_24 : decode cX6_whyNot 24 = .ok (.iload_n 1, 1) := by decide +kernel
theorem dX6_whyNot_25 : decode cX6_whyNot 25 = .ok (.iload_n 2, 1) := by decide +kernel
theorem dX6_whyNot_26 : decode cX6_whyNot 26 = .ok (.invokevirtual 159, 3) := by decide +kernel
theorem dX6_whyNot_29 : decode cX6_whyNot 29 = .ok (.goto 8, 3) := by decide +kernel
theorem dX6_whyNot_32 : decode cX6_whyNot 32 = .ok (.aload_n 0, 1) := by decide +kernel
theorem dX6_whyNot_33 : decode cX6_whyNot 33 = .ok (.iconst 1, 1) := by decide +kernel
theorem dX6_whyNot_34 : decode cX6_whyNot 34 = .ok (.invokevirtual 46, 3) := by decide +kernel
theorem dX6_whyNot_37 : decode cX6_whyNot 37 = .ok (.ireturn, 1) := by decide +kernel
theorem dX6_breaks_0 : decode cX6_breaks 0 = .ok (.aload_n 0, 1) := by decide +kernel
theorem dX6_breaks_1 : decode cX6_breaks 1 = .ok (.iload_n 1, 1) := by decide +kernel
theorem dX6_breaks_2 : decode cX6_breaks 2 = .ok (.invokevirtual 91, 3) := by decide +kernel
theorem dX6_breaks_5 : decode cX6_breaks 5 = .ok (.iload_n 2, 1) := by decide +kernel
theorem dX6_breaks_6 : decode cX6_breaks 6 = .ok (.istore 4, 2) := by decide +kernel
theorem dX6_breaks_8 : decode cX6_breaks 8 = .ok (.iload_n 3, 1) := by decide +kernel
theorem dX6_breaks_9 : decode cX6_breaks 9 = .ok (.bipush 12, 2) := by decide +kernel
theorem dX6_breaks_11 : decode cX6_breaks 11 = .ok (.idiv, 1) := by decide +kernel
theorem dX6_breaks_12 : decode cX6_breaks 12 = .ok (.istore 5, 2) := by decide +kernel
theorem dX6_breaks_14 : decode cX6_breaks 14 = .ok (.iload 5, 2) := by decide +kernel
theorem dX6_breaks_16 : decode cX6_breaks 16 = .ok (.ifCond .le 119, 3) := by decide +kernel
theorem dX6_breaks_19 : decode cX6_breaks 19 = .ok (.iload 4, 2) := by decide +kernel
theorem dX6_breaks_21 : decode cX6_breaks 21 = .ok (.iload 5, 2) := by decide +kernel
theorem dX6_breaks_23 : decode cX6_breaks 23 = .ok (.idiv, 1) := by decide +kernel
theorem dX6_breaks_24 : decode cX6_breaks 24 = .ok (.istore 6, 2) := by decide +kernel
theorem dX6_breaks_26 : decode cX6_breaks 26 = .ok (.iload 4, 2) := by decide +kernel
theorem dX6_breaks_28 : decode cX6_breaks 28 = .ok (.iload 5, 2) := by decide +kernel
theorem dX6_breaks_30 : decode cX6_breaks 30 = .ok (.irem, 1) := by decide +kernel
theorem dX6_breaks_31 : decode cX6_breaks 31 = .ok (.istore 4, 2) := by decide +kernel
theorem dX6_breaks_33 : decode cX6_breaks 33 = .ok (.iload 6, 2) := by decide +kernel
theorem dX6_breaks_35 : decode cX6_breaks 35 = .ok (.bipush 10, 2) := by decide +kernel
theorem dX6_breaks_37 : decode cX6_breaks 37 = .ok (.if_icmp .ge 20, 3) := by decide +kernel
theorem dX6_breaks_40 : decode cX6_breaks 40 = .ok (.aload_n 0, 1) := by decide +kernel
theorem dX6_breaks_41 : decode cX6_breaks 41 = .ok (.iload 6, 2) := by decide +kernel
theorem dX6_breaks_43 : decode cX6_breaks 43 = .ok (.invokevirtual 97, 3) := by decide +kernel
theorem dX6_breaks_46 : decode cX6_breaks 46 = .ok (.ifCond .ne 7, 3) := by decide +kernel
theorem dX6_breaks_49 : decode cX6_breaks 49 = .ok (.iconst 1, 1) := by decide +kernel
theorem dX6_breaks_50 : decode cX6_breaks 50 = .ok (.goto 32, 3) := by decide +kernel
theorem dX6_breaks_53 : decode cX6_breaks 53 = .ok (.iconst 0, 1) := by decide +kernel
theorem dX6_breaks_54 : decode cX6_breaks 54 = .ok (.goto 28, 3) := by decide +kernel
theorem dX6_breaks_57 : decode cX6_breaks 57 = .ok (.iload 6, 2) := by decide +kernel
theorem dX6_breaks_59 : decode cX6_breaks 59 = .ok (.bipush 10, 2) := by decide +kernel
theorem dX6_breaks_61 : decode cX6_breaks 61 = .ok (.if_icmp .eq 16, 3) := by decide +kernel
theorem dX6_breaks_64 : decode cX6_breaks 64 = .ok (.aload_n 0, 1) := by decide +kernel
theorem dX6_breaks_65 : decode cX6_breaks 65 = .ok (.getfield 7, 3) := by decide +kernel
theorem dX6_breaks_68 : decode cX6_breaks 68 = .ok (.iconst 2, 1) := by decide +kernel
theorem dX6_breaks_69 : decode cX6_breaks 69 = .ok (.iaload, 1) := by decide +kernel
theorem dX6_breaks_70 : decode cX6_breaks 70 = .ok (.aload_n 0, 1) := by decide +kernel
theorem dX6_breaks_71 : decode cX6_breaks 71 = .ok (.getfield 73, 3) := by decide +kernel
theorem dX6_breaks_74 : decode cX6_breaks 74 = .ok (.if_icmp .gt 7, 3) := by decide +kernel
theorem dX6_breaks_77 : decode cX6_breaks 77 = .ok (.iconst 1, 1) := by decide +kernel
theorem dX6_breaks_78 : decode cX6_breaks 78 = .ok (.goto 4, 3) := by decide +kernel
theorem dX6_breaks_81 : decode cX6_breaks 81 = .ok (.iconst 0, 1) := by decide +kernel
theorem dX6_breaks_82 : decode cX6_breaks 82 = .ok (.istore 7, 2) := by decide +kernel
theorem dX6_breaks_84 : decode cX6_breaks 84 = .ok (.iload 7, 2) := by decide +kernel
theorem dX6_breaks_86 : decode cX6_breaks 86 = .ok (.ifCond .ne 6, 3) := by decide +kernel
theorem dX6_breaks_89 : decode cX6_breaks 89 = .ok (.iload 5, 2) := by decide +kernel
theorem dX6_breaks_91 : decode cX6_breaks 91 = .ok (.ireturn, 1) := by decide +kernel
theorem dX6_breaks_92 : decode cX6_breaks 92 = .ok (.iload 6, 2) := by decide +kernel
theorem dX6_breaks_94 : decode cX6_breaks 94 = .ok (.bipush 10, 2) := by decide +kernel
theorem dX6_breaks_96 : decode cX6_breaks 96 = .ok (.if_icmp .ge 12, 3) := by decide +kernel
theorem dX6_breaks_99 : decode cX6_breaks 99 = .ok (.aload_n 0, 1) := by decide +kernel
theorem dX6_breaks_100 : decode cX6_breaks 100 = .ok (.iload 6, 2) := by decide +kernel
theorem dX6_breaks_102 : decode cX6_breaks 102 = .ok (.invokevirtual 103, 3) := by decide +kernel
theorem dX6_breaks_105 : decode cX6_breaks 105 = .ok (.goto 14, 3) := by decide +kernel
theorem dX6_breaks_108 : decode cX6_breaks 108 = .ok (.iload 6, 2) := by decide +kernel
theorem dX6_breaks_110 : decode cX6_breaks 110 = .ok (.bipush 11, 2) := by decide +kernel
theorem dX6_breaks_112 : decode cX6_breaks 112 = .ok (.if_icmp .ne 7, 3) := by decide +kernel
theorem dX6_breaks_115 : decode cX6_breaks 115 = .ok (.aload_n 0, 1) := by decide +kernel
theorem dX6_breaks_116 : decode cX6_breaks 116 = .ok (.invokevirtual 106, 3) := by decide +kernel
theorem dX6_breaks_119 : decode cX6_breaks 119 = .ok (.aload_n 0, 1) := by decide +kernel
theorem dX6_breaks_120 : decode cX6_breaks 120 = .ok (.invokevirtual 79, 3) := by decide +kernel
theorem dX6_breaks_123 : decode cX6_breaks 123 = .ok (.istore 8, 2) := by decide +kernel
theorem dX6_breaks_125 : decode cX6_breaks 125 = .ok (.iload 5, 2) := by decide +kernel
theorem dX6_breaks_127 : decode cX6_breaks 127 = .ok (.bipush 12, 2) := by decide +kernel
theorem dX6_breaks_129 : decode cX6_breaks 129 = .ok (.idiv, 1) := by decide +kernel
theorem dX6_breaks_130 : decode cX6_breaks 130 = .ok (.istore 5, 2) := by decide +kernel
theorem dX6_breaks_132 : decode cX6_breaks 132 = .ok (.goto (-118), 3) := by decide +kernel
theorem dX6_breaks_135 : decode cX6_breaks 135 = .ok (.iconst 0, 1) := by decide +kernel
theorem dX6_breaks_136 : decode cX6_breaks 136 = .ok (.ireturn, 1) := by decide +kernel
theorem dX6_fewest_0 : decode cX6_fewest 0 = .ok (.aload_n 0, 1) := by decide +kernel
theorem dX6_fewest_1 : decode cX6_fewest 1 = .ok (.iload_n 1, 1) := by decide +kernel
theorem dX6_fewest_2 : decode cX6_fewest 2 = .ok (.iconst 0, 1) := by decide +kernel
theorem dX6_fewest_3 : decode cX6_fewest 3 = .ok (.invokevirtual 63, 3) := by decide +kernel
theorem dX6_fewest_6 : decode cX6_fewest 6 = .ok (.iload_n 2, 1) := by decide +kernel
theorem dX6_fewest_7 : decode cX6_fewest 7 = .ok (.if_icmp .ne 5, 3) := by decide +kernel
theorem dX6_fewest_10 : decode cX6_fewest 10 = .ok (.iconst 0, 1) := by decide +kernel
theorem dX6_fewest_11 : decode cX6_fewest 11 = .ok (.ireturn, 1) := by decide +kernel
theorem dX6_fewest_12 : decode cX6_fewest 12 = .ok (.iconst 1, 1) := by decide +kernel
theorem dX6_fewest_13 : decode cX6_fewest 13 = .ok (.istore_n 3, 1) := by decide +kernel
theorem dX6_fewest_14 : decode cX6_fewest 14 = .ok (.iconst 1, 1) := by decide +kernel
theorem dX6_fewest_15 : decode cX6_fewest 15 = .ok (.istore 4, 2) := by decide +kernel
theorem dX6_fewest_17 : decode cX6_fewest 17 = .ok (.iload 4, 2) := by decide +kernel
theorem dX6_fewest_19 : decode cX6_fewest 19 = .ok (.iconst 5, 1) := by decide +kernel
theorem dX6_fewest_20 : decode cX6_fewest 20 = .ok (.if_icmp .ge 76, 3) := by decide +kernel
theorem dX6_fewest_23 : decode cX6_fewest 23 = .ok (.iload_n 3, 1) := by decide +kernel
theorem dX6_fewest_24 : decode cX6_fewest 24 = .ok (.bipush 12, 2) := by decide +kernel
theorem dX6_fewest_26 : decode cX6_fewest 26 = .ok (.imul, 1) := by decide +kernel
theorem dX6_fewest_27 : decode cX6_fewest 27 = .ok (.istore_n 3, 1) := by decide +kernel
theorem dX6_fewest_28 : decode cX6_fewest 28 = .ok (.iconst 0, 1) := by decide +kernel
theorem dX6_fewest_29 : decode cX6_fewest 29 = .ok (.istore 5, 2) := by decide +kernel
theorem dX6_fewest_31 : decode cX6_fewest 31 = .ok (.iload 5, 2) := by decide +kernel
theorem dX6_fewest_33 : decode cX6_fewest 33 = .ok (.iload_n 3, 1) := by decide +kernel
theorem dX6_fewest_34 : decode cX6_fewest 34 = .ok (.if_icmp .ge 56, 3) := by decide +kernel
theorem dX6_fewest_37 : decode cX6_fewest 37 = .ok (.aload_n 0, 1) := by decide +kernel
theorem dX6_fewest_38 : decode cX6_fewest 38 = .ok (.iload_n 1, 1) := by decide +kernel
theorem dX6_fewest_39 : decode cX6_fewest 39 = .ok (.iload 5, 2) := by decide +kernel
theorem dX6_fewest_41 : decode cX6_fewest 41 = .ok (.iload_n 3, 1) := by decide +kernel
theorem dX6_fewest_42 : decode cX6_fewest 42 = .ok (.invokevirtual 181, 3) := by decide +kernel
theorem dX6_fewest_45 : decode cX6_fewest 45 = .ok (.istore 6, 2) := by decide +kernel
theorem dX6_fewest_47 : decode cX6_fewest 47 = .ok (.iload 6, 2) := by decide +kernel
theorem dX6_fewest_49 : decode cX6_fewest 49 = .ok (.ifCond .ne 14, 3) := by decide +kernel
theorem dX6_fewest_52 : decode cX6_fewest 52 = .ok (.aload_n 0, 1) := by decide +kernel
theorem dX6_fewest_53 : decode cX6_fewest 53 = .ok (.getfield 67, 3) := by decide +kernel
theorem dX6_fewest_56 : decode cX6_fewest 56 = .ok (.iload_n 2, 1) := by decide +kernel
theorem dX6_fewest_57 : decode cX6_fewest 57 = .ok (.if_icmp .ne 6, 3) := by decide +kernel
theorem dX6_fewest_60 : decode cX6_fewest 60 = .ok (.iload 4, 2) := by decide +kernel
theorem dX6_fewest_62 : decode cX6_fewest 62 = .ok (.ireturn, 1) := by decide +kernel
end
section
theorem dX6_fewest_63 : decode cX6_fewest 63 = .ok (.iload 6, 2) := by decide +kernel
theorem dX6_fewest_65 : decode cX6_fewest 65 = .ok (.ifCond .ne 10, 3) := by decide +kernel
theorem dX6_fewest_68 : decode cX6_fewest 68 = .ok (.iload 5, 2) := by decide +kernel
theorem dX6_fewest_70 : decode cX6_fewest 70 = .ok (.iconst 1, 1) := by decide +kernel
theorem dX6_fewest_71 : decode cX6_fewest 71 = .ok (.iadd, 1) := by decide +kernel
theorem dX6_fewest_72 : decode cX6_fewest 72 = .ok (.goto 13, 3) := by decide +kernel
theorem dX6_fewest_75 : decode cX6_fewest 75 = .ok (.iload 5, 2) := by decide +kernel
theorem dX6_fewest_77 : decode cX6_fewest 77 = .ok (.iload 6, 2) := by decide +kernel
theorem dX6_fewest_79 : decode cX6_fewest 79 = .ok (.idiv, 1) := by decide +kernel
theorem dX6_fewest_80 : decode cX6_fewest 80 = .ok (.iconst 1, 1) := by decide +kernel
theorem dX6_fewest_81 : decode cX6_fewest 81 = .ok (.iadd, 1) := by decide +kernel
theorem dX6_fewest_82 : decode cX6_fewest 82 = .ok (.iload 6, 2) := by decide +kernel
theorem dX6_fewest_84 : decode cX6_fewest 84 = .ok (.imul, 1) := by decide +kernel
theorem dX6_fewest_85 : decode cX6_fewest 85 = .ok (.istore 5, 2) := by decide +kernel
theorem dX6_fewest_87 : decode cX6_fewest 87 = .ok (.goto (-56), 3) := by decide +kernel
theorem dX6_fewest_90 : decode cX6_fewest 90 = .ok (.iinc 4 1, 3) := by decide +kernel
theorem dX6_fewest_93 : decode cX6_fewest 93 = .ok (.goto (-76), 3) := by decide +kernel
theorem dX6_fewest_96 : decode cX6_fewest 96 = .ok (.iconst (-1), 1) := by decide +kernel
theorem dX6_fewest_97 : decode cX6_fewest 97 = .ok (.ireturn, 1) := by decide +kernel
theorem dX6_movesTo_0 : decode cX6_movesTo 0 = .ok (.aload_n 0, 1) := by decide +kernel
theorem dX6_movesTo_1 : decode cX6_movesTo 1 = .ok (.iconst 0, 1) := by decide +kernel
theorem dX6_movesTo_2 : decode cX6_movesTo 2 = .ok (.putfield 35, 3) := by decide +kernel
theorem dX6_movesTo_5 : decode cX6_movesTo 5 = .ok (.aload_n 0, 1) := by decide +kernel
theorem dX6_movesTo_6 : decode cX6_movesTo 6 = .ok (.iload_n 1, 1) := by decide +kernel
theorem dX6_movesTo_7 : decode cX6_movesTo 7 = .ok (.invokevirtual 125, 3) := by decide +kernel
theorem dX6_movesTo_10 : decode cX6_movesTo 10 = .ok (.ifCond .eq 22, 3) := by decide +kernel
theorem dX6_movesTo_13 : decode cX6_movesTo 13 = .ok (.iload_n 2, 1) := by decide +kernel
theorem dX6_movesTo_14 : decode cX6_movesTo 14 = .ok (.iconst 0, 1) := by decide +kernel
theorem dX6_movesTo_15 : decode cX6_movesTo 15 = .ok (.bipush 9, 2) := by decide +kernel
theorem dX6_movesTo_17 : decode cX6_movesTo 17 = .ok (.invokestatic 39, 3) := by decide +kernel
theorem dX6_movesTo_20 : decode cX6_movesTo 20 = .ok (.ifCond .eq 12, 3) := by decide +kernel
theorem dX6_movesTo_23 : decode cX6_movesTo 23 = .ok (.aload_n 0, 1) := by decide +kernel
theorem dX6_movesTo_24 : decode cX6_movesTo 24 = .ok (.iload_n 1, 1) := by decide +kernel
theorem dX6_movesTo_25 : decode cX6_movesTo 25 = .ok (.iload_n 2, 1) := by decide +kernel
theorem dX6_movesTo_26 : decode cX6_movesTo 26 = .ok (.invokevirtual 185, 3) := by decide +kernel
theorem dX6_movesTo_29 : decode cX6_movesTo 29 = .ok (.goto 8, 3) := by decide +kernel
theorem dX6_movesTo_32 : decode cX6_movesTo 32 = .ok (.aload_n 0, 1) := by decide +kernel
theorem dX6_movesTo_33 : decode cX6_movesTo 33 = .ok (.iconst 1, 1) := by decide +kernel
theorem dX6_movesTo_34 : decode cX6_movesTo 34 = .ok (.invokevirtual 46, 3) := by decide +kernel
theorem dX6_movesTo_37 : decode cX6_movesTo 37 = .ok (.ireturn, 1) := by decide +kernel
theorem dX6_huntable_0 : decode cX6_huntable 0 = .ok (.iconst 0, 1) := by decide +kernel
theorem dX6_huntable_1 : decode cX6_huntable 1 = .ok (.istore_n 1, 1) := by decide +kernel
theorem dX6_huntable_2 : decode cX6_huntable 2 = .ok (.iconst 0, 1) := by decide +kernel
theorem dX6_huntable_3 : decode cX6_huntable 3 = .ok (.istore_n 2, 1) := by decide +kernel
theorem dX6_huntable_4 : decode cX6_huntable 4 = .ok (.iload_n 2, 1) := by decide +kernel
theorem dX6_huntable_5 : decode cX6_huntable 5 = .ok (.aload_n 0, 1) := by decide +kernel
theorem dX6_huntable_6 : decode cX6_huntable 6 = .ok (.getfield 7, 3) := by decide +kernel
theorem dX6_huntable_9 : decode cX6_huntable 9 = .ok (.iconst 4, 1) := by decide +kernel
theorem dX6_huntable_10 : decode cX6_huntable 10 = .ok (.iaload, 1) := by decide +kernel
theorem dX6_huntable_11 : decode cX6_huntable 11 = .ok (.if_icmp .ge 34, 3) := by decide +kernel
theorem dX6_huntable_14 : decode cX6_huntable 14 = .ok (.iload_n 1, 1) := by decide +kernel
theorem dX6_huntable_15 : decode cX6_huntable 15 = .ok (.aload_n 0, 1) := by decide +kernel
theorem dX6_huntable_16 : decode cX6_huntable 16 = .ok (.aload_n 0, 1) := by decide +kernel
theorem dX6_huntable_17 : decode cX6_huntable 17 = .ok (.getfield 7, 3) := by decide +kernel
theorem dX6_huntable_20 : decode cX6_huntable 20 = .ok (.bipush 6, 2) := by decide +kernel
theorem dX6_huntable_22 : decode cX6_huntable 22 = .ok (.iaload, 1) := by decide +kernel
theorem dX6_huntable_23 : decode cX6_huntable 23 = .ok (.iload_n 2, 1) := by decide +kernel
theorem dX6_huntable_24 : decode cX6_huntable 24 = .ok (.invokevirtual 109, 3) := by decide +kernel
theorem dX6_huntable_27 : decode cX6_huntable 27 = .ok (.ifCond .ne 9, 3) := by decide +kernel
theorem dX6_huntable_30 : decode cX6_huntable 30 = .ok (.iconst 1, 1) := by decide +kernel
theorem dX6_huntable_31 : decode cX6_huntable 31 = .ok (.iload_n 2, 1) := by decide +kernel
theorem dX6_huntable_32 : decode cX6_huntable 32 = .ok (.ishl, 1) := by decide +kernel
theorem dX6_huntable_33 : decode cX6_huntable 33 = .ok (.goto 4, 3) := by decide +kernel
theorem dX6_huntable_36 : decode cX6_huntable 36 = .ok (.iconst 0, 1) := by decide +kernel
theorem dX6_huntable_37 : decode cX6_huntable 37 = .ok (.ior, 1) := by decide +kernel
theorem dX6_huntable_38 : decode cX6_huntable 38 = .ok (.istore_n 1, 1) := by decide +kernel
theorem dX6_huntable_39 : decode cX6_huntable 39 = .ok (.iinc 2 1, 3) := by decide +kernel
theorem dX6_huntable_42 : decode cX6_huntable 42 = .ok (.goto (-38), 3) := by decide +kernel
theorem dX6_huntable_45 : decode cX6_huntable 45 = .ok (.iload_n 1, 1) := by decide +kernel
theorem dX6_huntable_46 : decode cX6_huntable 46 = .ok (.ireturn, 1) := by decide +kernel
theorem dX6_prey_0 : decode cX6_prey 0 = .ok (.aload_n 0, 1) := by decide +kernel
theorem dX6_prey_1 : decode cX6_prey 1 = .ok (.iconst 0, 1) := by decide +kernel
theorem dX6_prey_2 : decode cX6_prey 2 = .ok (.putfield 35, 3) := by decide +kernel
theorem dX6_prey_5 : decode cX6_prey 5 = .ok (.aload_n 0, 1) := by decide +kernel
theorem dX6_prey_6 : decode cX6_prey 6 = .ok (.invokevirtual 188, 3) := by decide +kernel
theorem dX6_prey_9 : decode cX6_prey 9 = .ok (.ireturn, 1) := by decide +kernel
theorem dX6_bits_0 : decode cX6_bits 0 = .ok (.iconst 0, 1) := by decide +kernel
theorem dX6_bits_1 : decode cX6_bits 1 = .ok (.istore_n 1, 1) := by decide +kernel
theorem dX6_bits_2 : decode cX6_bits 2 = .ok (.iconst 0, 1) := by decide +kernel
theorem dX6_bits_3 : decode cX6_bits 3 = .ok (.istore_n 2, 1) := by decide +kernel
theorem dX6_bits_4 : decode cX6_bits 4 = .ok (.iload_n 2, 1) := by decide +kernel
theorem dX6_bits_5 : decode cX6_bits 5 = .ok (.bipush 10, 2) := by decide +kernel
theorem dX6_bits_7 : decode cX6_bits 7 = .ok (.if_icmp .ge 17, 3) := by decide +kernel
theorem dX6_bits_10 : decode cX6_bits 10 = .ok (.iload_n 1, 1) := by decide +kernel
theorem dX6_bits_11 : decode cX6_bits 11 = .ok (.iload_n 0, 1) := by decide +kernel
theorem dX6_bits_12 : decode cX6_bits 12 = .ok (.iload_n 2, 1) := by decide +kernel
theorem dX6_bits_13 : decode cX6_bits 13 = .ok (.ishr, 1) := by decide +kernel
theorem dX6_bits_14 : decode cX6_bits 14 = .ok (.iconst 1, 1) := by decide +kernel
theorem dX6_bits_15 : decode cX6_bits 15 = .ok (.iand, 1) := by decide +kernel
theorem dX6_bits_16 : decode cX6_bits 16 = .ok (.iadd, 1) := by decide +kernel
theorem dX6_bits_17 : decode cX6_bits 17 = .ok (.istore_n 1, 1) := by decide +kernel
theorem dX6_bits_18 : decode cX6_bits 18 = .ok (.iinc 2 1, 3) := by decide +kernel
theorem dX6_bits_21 : decode cX6_bits 21 = .ok (.goto (-17), 3) := by decide +kernel
theorem dX6_bits_24 : decode cX6_bits 24 = .ok (.iload_n 1, 1) := by decide +kernel
theorem dX6_bits_25 : decode cX6_bits 25 = .ok (.ireturn, 1) := by decide +kernel
theorem dX6_widest_0 : decode cX6_widest 0 = .ok (.iconst 0, 1) := by decide +kernel
theorem dX6_widest_1 : decode cX6_widest 1 = .ok (.istore_n 1, 1) := by decide +kernel
theorem dX6_widest_2 : decode cX6_widest 2 = .ok (.iconst 1, 1) := by decide +kernel
theorem dX6_widest_3 : decode cX6_widest 3 = .ok (.istore_n 2, 1) := by decide +kernel
theorem dX6_widest_4 : decode cX6_widest 4 = .ok (.iload_n 2, 1) := by decide +kernel
theorem dX6_widest_5 : decode cX6_widest 5 = .ok (.bipush 10, 2) := by decide +kernel
theorem dX6_widest_7 : decode cX6_widest 7 = .ok (.if_icmp .ge 34, 3) := by decide +kernel
theorem dX6_widest_10 : decode cX6_widest 10 = .ok (.aload_n 0, 1) := by decide +kernel
theorem dX6_widest_11 : decode cX6_widest 11 = .ok (.iload_n 2, 1) := by decide +kernel
theorem dX6_widest_12 : decode cX6_widest 12 = .ok (.invokevirtual 153, 3) := by decide +kernel
theorem dX6_widest_15 : decode cX6_widest 15 = .ok (.invokestatic 191, 3) := by decide +kernel
theorem dX6_widest_18 : decode cX6_widest 18 = .ok (.aload_n 0, 1) := by decide +kernel
theorem dX6_widest_19 : decode cX6_widest 19 = .ok (.iload_n 1, 1) := by decide +kernel
theorem dX6_widest_20 : decode cX6_widest 20 = .ok (.invokevirtual 153, 3) := by decide +kernel
theorem dX6_widest_23 : decode cX6_widest 23 = .ok (.invokestatic 191, 3) := by decide +kernel
theorem dX6_widest_26 : decode cX6_widest 26 = .ok (.if_icmp .le 7, 3) := by decide +kernel
theorem dX6_widest_29 : decode cX6_widest 29 = .ok (.iload_n 2, 1) := by decide +kernel
theorem dX6_widest_30 : decode cX6_widest 30 = .ok (.goto 4, 3) := by decide +kernel
theorem dX6_widest_33 : decode cX6_widest 33 = .ok (.iload_n 1, 1) := by decide +kernel
theorem dX6_widest_34 : decode cX6_widest 34 = .ok (.istore_n 1, 1) := by decide +kernel
theorem dX6_widest_35 : decode cX6_widest 35 = .ok (.iinc 2 1, 3) := by decide +kernel
theorem dX6_widest_38 : decode cX6_widest 38 = .ok (.goto (-34), 3) := by decide +kernel
theorem dX6_widest_41 : decode cX6_widest 41 = .ok (.iload_n 1, 1) := by decide +kernel
theorem dX6_widest_42 : decode cX6_widest 42 = .ok (.ireturn, 1) := by decide +kernel
theorem dX6_lookout_0 : decode cX6_lookout 0 = .ok (.aload_n 0, 1) := by decide +kernel
theorem dX6_lookout_1 : decode cX6_lookout 1 = .ok (.iconst 0, 1) := by decide +kernel
theorem dX6_lookout_2 : decode cX6_lookout 2 = .ok (.putfield 35, 3) := by decide +kernel
theorem dX6_lookout_5 : decode cX6_lookout 5 = .ok (.aload_n 0, 1) := by decide +kernel
theorem dX6_lookout_6 : decode cX6_lookout 6 = .ok (.invokevirtual 194, 3) := by decide +kernel
theorem dX6_lookout_9 : decode cX6_lookout 9 = .ok (.ireturn, 1) := by decide +kernel
theorem dX6_share_0 : decode cX6_share 0 = .ok (.iconst 0, 1) := by decide +kernel
theorem dX6_share_1 : decode cX6_share 1 = .ok (.istore_n 1, 1) := by decide +kernel
theorem dX6_share_2 : decode cX6_share 2 = .ok (.iconst 0, 1) := by decide +kernel
theorem dX6_share_3 : decode cX6_share 3 = .ok (.istore_n 2, 1) := by decide +kernel
theorem dX6_share_4 : decode cX6_share 4 = .ok (.iload_n 2, 1) := by decide +kernel
theorem dX6_share_5 : decode cX6_share 5 = .ok (.aload_n 0, 1) := by decide +kernel
theorem dX6_share_6 : decode cX6_share 6 = .ok (.getfield 7, 3) := by decide +kernel
theorem dX6_share_9 : decode cX6_share 9 = .ok (.iconst 4, 1) := by decide +kernel
theorem dX6_share_10 : decode cX6_share 10 = .ok (.iaload, 1) := by decide +kernel
theorem dX6_share_11 : decode cX6_share 11 = .ok (.if_icmp .ge 18, 3) := by decide +kernel
theorem dX6_share_14 : decode cX6_share 14 = .ok (.iload_n 1, 1) := by decide +kernel
theorem dX6_share_15 : decode cX6_share 15 = .ok (.aload_n 0, 1) := by decide +kernel
theorem dX6_share_16 : decode cX6_share 16 = .ok (.iload_n 2, 1) := by decide +kernel
theorem dX6_share_17 : decode cX6_share 17 = .ok (.iconst 2, 1) := by decide +kernel
theorem dX6_share_18 : decode cX6_share 18 = .ok (.invokevirtual 63, 3) := by decide +kernel
theorem dX6_share_21 : decode cX6_share 21 = .ok (.iadd, 1) := by decide +kernel
theorem dX6_share_22 : decode cX6_share 22 = .ok (.istore_n 1, 1) := by decide +kernel
theorem dX6_share_23 : decode cX6_share 23 = .ok (.iinc 2 1, 3) := by decide +kernel
theorem dX6_share_26 : decode cX6_share 26 = .ok (.goto (-22), 3) := by decide +kernel
theorem dX6_share_29 : decode cX6_share 29 = .ok (.aload_n 0, 1) := by decide +kernel
theorem dX6_share_30 : decode cX6_share 30 = .ok (.invokevirtual 168, 3) := by decide +kernel
theorem dX6_share_33 : decode cX6_share 33 = .ok (.ifCond .ne 7, 3) := by decide +kernel
theorem dX6_share_36 : decode cX6_share 36 = .ok (.dconst 0, 1) := by decide +kernel
theorem dX6_share_37 : decode cX6_share 37 = .ok (.goto 11, 3) := by decide +kernel
theorem dX6_share_40 : decode cX6_share 40 = .ok (.iload_n 1, 1) := by decide +kernel
theorem dX6_share_41 : decode cX6_share 41 = .ok (.i2d, 1) := by decide +kernel
theorem dX6_share_42 : decode cX6_share 42 = .ok (.aload_n 0, 1) := by decide +kernel
theorem dX6_share_43 : decode cX6_share 43 = .ok (.invokevirtual 168, 3) := by decide +kernel
theorem dX6_share_46 : decode cX6_share 46 = .ok (.i2d, 1) := by decide +kernel
theorem dX6_share_47 : decode cX6_share 47 = .ok (.ddiv, 1) := by decide +kernel
theorem dX6_share_48 : decode cX6_share 48 = .ok (.dreturn, 1) := by decide +kernel
theorem dX6_belowShare_0 : decode cX6_belowShare 0 = .ok (.aload_n 0, 1) := by decide +kernel
theorem dX6_belowShare_1 : decode cX6_belowShare 1 = .ok (.iconst 0, 1) := by decide +kernel
theorem dX6_belowShare_2 : decode cX6_belowShare 2 = .ok (.putfield 35, 3) := by decide +kernel
theorem dX6_belowShare_5 : decode cX6_belowShare 5 = .ok (.aload_n 0, 1) := by decide +kernel
theorem dX6_belowShare_6 : decode cX6_belowShare 6 = .ok (.invokevirtual 197, 3) := by decide +kernel
theorem dX6_belowShare_9 : decode cX6_belowShare 9 = .ok (.dreturn, 1) := by decide +kernel
theorem dX6_digest_0 : decode cX6_digest 0 = .ok (.aload_n 0, 1) := by decide +kernel
theorem dX6_digest_1 : decode cX6_digest 1 = .ok (.iconst 0, 1) := by decide +kernel
theorem dX6_digest_2 : decode cX6_digest 2 = .ok (.putfield 35, 3) := by decide +kernel
theorem dX6_digest_5 : decode cX6_digest 5 = .ok (.ldc2_w 201, 3) := by decide +kernel
theorem dX6_digest_8 : decode cX6_digest 8 = .ok (.lstore_n 1, 1) := by decide +kernel
theorem dX6_digest_9 : decode cX6_digest 9 = .ok (.iconst 0, 1) := by decide +kernel
theorem dX6_digest_10 : decode cX6_digest 10 = .ok (.istore_n 3, 1) := by decide +kernel
theorem dX6_digest_11 : decode cX6_digest 11 = .ok (.iload_n 3, 1) := by decide +kernel
theorem dX6_digest_12 : decode cX6_digest 12 = .ok (.bipush 10, 2) := by decide +kernel
theorem dX6_digest_14 : decode cX6_digest 14 = .ok (.if_icmp .gt 22, 3) := by decide +kernel
theorem dX6_digest_17 : decode cX6_digest 17 = .ok (.ldc2_w 203, 3) := by decide +kernel
theorem dX6_digest_20 : decode cX6_digest 20 = .ok (.lload_n 1, 1) := by decide +kernel
theorem dX6_digest_21 : decode cX6_digest 21 = .ok (.lmul, 1) := by decide +kernel
theorem dX6_digest_22 : decode cX6_digest 22 = .ok (.aload_n 0, 1) := by decide +kernel
theorem dX6_digest_23 : decode cX6_digest 23 = .ok (.iload_n 3, 1) := by decide +kernel
theorem dX6_digest_24 : decode cX6_digest 24 = .ok (.invokevirtual 174, 3) := by decide +kernel
theorem dX6_digest_27 : decode cX6_digest 27 = .ok (.i2l, 1) := by decide +kernel
theorem dX6_digest_28 : decode cX6_digest 28 = .ok (.ladd, 1) := by decide +kernel
theorem dX6_digest_29 : decode cX6_digest 29 = .ok (.lstore_n 1, 1) := by decide +kernel
theorem dX6_digest_30 : decode cX6_digest 30 = .ok (.iinc 3 1, 3) := by decide +kernel
theorem dX6_digest_33 : decode cX6_digest 33 = .ok (.goto (-22), 3) := by decide +kernel
theorem dX6_digest_36 : decode cX6_digest 36 = .ok (.iconst 0, 1) := by decide +kernel
theorem dX6_digest_37 : decode cX6_digest 37 = .ok (.istore_n 3, 1) := by decide +kernel
theorem dX6_digest_38 : decode cX6_digest 38 = .ok (.iload_n 3, 1) := by decide +kernel
theorem dX6_digest_39 : decode cX6_digest 39 = .ok (.iconst 4, 1) := by decide +kernel
theorem dX6_digest_40 : decode cX6_digest 40 = .ok (.if_icmp .ge 23, 3) := by decide +kernel
theorem dX6_digest_43 : decode cX6_digest 43 = .ok (.ldc2_w 203, 3) := by decide +kernel
theorem dX6_digest_46 : decode cX6_digest 46 = .ok (.lload_n 1, 1) := by decide +kernel
theorem dX6_digest_47 : decode cX6_digest 47 = .ok (.lmul, 1) := by decide +kernel
theorem dX6_digest_48 : decode cX6_digest 48 = .ok (.aload_n 0, 1) := by decide +kernel
theorem dX6_digest_49 : decode cX6_digest 49 = .ok (.getfield 7, 3) := by decide +kernel
theorem dX6_digest_52 : decode cX6_digest 52 = .ok (.iload_n 3, 1) := by decide +kernel
theorem dX6_digest_53 : decode cX6_digest 53 = .ok (.iaload, 1) := by decide +kernel
theorem dX6_digest_54 : decode cX6_digest 54 = .ok (.i2l, 1) := by decide +kernel
theorem dX6_digest_55 : decode cX6_digest 55 = .ok (.ladd, 1) := by decide +kernel
theorem dX6_digest_56 : decode cX6_digest 56 = .ok (.lstore_n 1, 1) := by decide +kernel
theorem dX6_digest_57 : decode cX6_digest 57 = .ok (.iinc 3 1, 3) := by decide +kernel
theorem dX6_digest_60 : decode cX6_digest 60 = .ok (.goto (-22), 3) := by decide +kernel
theorem dX6_digest_63 : decode cX6_digest 63 = .ok (.iconst 0, 1) := by decide +kernel
theorem dX6_digest_64 : decode cX6_digest 64 = .ok (.istore_n 3, 1) := by decide +kernel
theorem dX6_digest_65 : decode cX6_digest 65 = .ok (.iload_n 3, 1) := by decide +kernel
theorem dX6_digest_66 : decode cX6_digest 66 = .ok (.bipush 10, 2) := by decide +kernel
theorem dX6_digest_68 : decode cX6_digest 68 = .ok (.if_icmp .ge 67, 3) := by decide +kernel
theorem dX6_digest_71 : decode cX6_digest 71 = .ok (.iconst 0, 1) := by decide +kernel
theorem dX6_digest_72 : decode cX6_digest 72 = .ok (.istore 4, 2) := by decide +kernel
theorem dX6_digest_74 : decode cX6_digest 74 = .ok (.iload 4, 2) := by decide +kernel
theorem dX6_digest_76 : decode cX6_digest 76 = .ok (.iconst 4, 1) := by decide +kernel
theorem dX6_digest_77 : decode cX6_digest 77 = .ok (.if_icmp .ge 24, 3) := by decide +kernel
theorem dX6_digest_80 : decode cX6_digest 80 = .ok (.ldc2_w 203, 3) := by decide +kernel
theorem dX6_digest_83 : decode cX6_digest 83 = .ok (.lload_n 1, 1) := by decide +kernel
theorem dX6_digest_84 : decode cX6_digest 84 = .ok (.lmul, 1) := by decide +kernel
theorem dX6_digest_85 : decode cX6_digest 85 = .ok (.aload_n 0, 1) := by decide +kernel
theorem dX6_digest_86 : decode cX6_digest 86 = .ok (.iload_n 3, 1) := by decide +kernel
theorem dX6_digest_87 : decode cX6_digest 87 = .ok (.iload 4, 2) := by decide +kernel
theorem dX6_digest_89 : decode cX6_digest 89 = .ok (.invokevirtual 156, 3) := by decide +kernel
theorem dX6_digest_92 : decode cX6_digest 92 = .ok (.i2l, 1) := by decide +kernel
theorem dX6_digest_93 : decode cX6_digest 93 = .ok (.ladd, 1) := by decide +kernel
theorem dX6_digest_94 : decode cX6_digest 94 = .ok (.lstore_n 1, 1) := by decide +kernel
theorem dX6_digest_95 : decode cX6_digest 95 = .ok (.iinc 4 1, 3) := by decide +kernel
theorem dX6_digest_98 : decode cX6_digest 98 = .ok (.goto (-24), 3) := by decide +kernel
theorem dX6_digest_101 : decode cX6_digest 101 = .ok (.ldc2_w 203, 3) := by decide +kernel
theorem dX6_digest_104 : decode cX6_digest 104 = .ok (.lload_n 1, 1) := by decide +kernel
theorem dX6_digest_105 : decode cX6_digest 105 = .ok (.lmul, 1) := by decide +kernel
theorem dX6_digest_106 : decode cX6_digest 106 = .ok (.aload_n 0, 1) := by decide +kernel
theorem dX6_digest_107 : decode cX6_digest 107 = .ok (.iconst 0, 1) := by decide +kernel
theorem dX6_digest_108 : decode cX6_digest 108 = .ok (.iload_n 3, 1) := by decide +kernel
theorem dX6_digest_109 : decode cX6_digest 109 = .ok (.invokevirtual 178, 3) := by decide +kernel
theorem dX6_digest_112 : decode cX6_digest 112 = .ok (.i2l, 1) := by decide +kernel
theorem dX6_digest_113 : decode cX6_digest 113 = .ok (.ladd, 1) := by decide +kernel
theorem dX6_digest_114 : decode cX6_digest 114 = .ok (.lstore_n 1, 1) := by decide +kernel
theorem dX6_digest_115 : decode cX6_digest 115 = .ok (.ldc2_w 203, 3) := by decide +kernel
theorem dX6_digest_118 : decode cX6_digest 118 = .ok (.lload_n 1, 1) := by decide +kernel
theorem dX6_digest_119 : decode cX6_digest 119 = .ok (.lmul, 1) := by decide +kernel
theorem dX6_digest_120 : decode cX6_digest 120 = .ok (.aload_n 0, 1) := by decide +kernel
theorem dX6_digest_121 : decode cX6_digest 121 = .ok (.iconst 0, 1) := by decide +kernel
theorem dX6_digest_122 : decode cX6_digest 122 = .ok (.iload_n 3, 1) := by decide +kernel
theorem dX6_digest_123 : decode cX6_digest 123 = .ok (.invokevirtual 178, 3) := by decide +kernel
theorem dX6_digest_126 : decode cX6_digest 126 = .ok (.i2l, 1) := by decide +kernel
theorem dX6_digest_127 : decode cX6_digest 127 = .ok (.ladd, 1) := by decide +kernel
theorem dX6_digest_128 : decode cX6_digest 128 = .ok (.lstore_n 1, 1) := by decide +kernel
theorem dX6_digest_129 : decode cX6_digest 129 = .ok (.iinc 3 1, 3) := by decide +kernel
theorem dX6_digest_132 : decode cX6_digest 132 = .ok (.goto (-67), 3) := by decide +kernel
theorem dX6_digest_135 : decode cX6_digest 135 = .ok (.iconst 0, 1) := by decide +kernel
theorem dX6_digest_136 : decode cX6_digest 136 = .ok (.istore_n 3, 1) := by decide +kernel
theorem dX6_digest_137 : decode cX6_digest 137 = .ok (.iload_n 3, 1) := by decide +kernel
theorem dX6_digest_138 : decode cX6_digest 138 = .ok (.aload_n 0, 1) := by decide +kernel
theorem dX6_digest_139 : decode cX6_digest 139 = .ok (.getfield 7, 3) := by decide +kernel
theorem dX6_digest_142 : decode cX6_digest 142 = .ok (.iconst 4, 1) := by decide +kernel
theorem dX6_digest_143 : decode cX6_digest 143 = .ok (.iaload, 1) := by decide +kernel
theorem dX6_digest_144 : decode cX6_digest 144 = .ok (.if_icmp .ge 86, 3) := by decide +kernel
theorem dX6_digest_147 : decode cX6_digest 147 = .ok (.iconst 0, 1) := by decide +kernel
theorem dX6_digest_148 : decode cX6_digest 148 = .ok (.istore 4, 2) := by decide +kernel
theorem dX6_digest_150 : decode cX6_digest 150 = .ok (.iload 4, 2) := by decide +kernel
theorem dX6_digest_152 : decode cX6_digest 152 = .ok (.bipush 8, 2) := by decide +kernel
theorem dX6_digest_154 : decode cX6_digest 154 = .ok (.if_icmp .gt 24, 3) := by decide +kernel
theorem dX6_digest_157 : decode cX6_digest 157 = .ok (.ldc2_w 203, 3) := by decide +kernel
theorem dX6_digest_160 : decode cX6_digest 160 = .ok (.lload_n 1, 1) := by decide +kernel
theorem dX6_digest_161 : decode cX6_digest 161 = .ok (.lmul, 1) := by decide +kernel
theorem dX6_digest_162 : decode cX6_digest 162 = .ok (.aload_n 0, 1) := by decide +kernel
theorem dX6_digest_163 : decode cX6_digest 163 = .ok (.iload_n 3, 1) := by decide +kernel
theorem dX6_digest_164 : decode cX6_digest 164 = .ok (.iload 4, 2) := by decide +kernel
theorem dX6_digest_166 : decode cX6_digest 166 = .ok (.invokevirtual 165, 3) := by decide +kernel
theorem dX6_digest_169 : decode cX6_digest 169 = .ok (.i2l, 1) := by decide +kernel
theorem dX6_digest_170 : decode cX6_digest 170 = .ok (.ladd, 1) := by decide +kernel
theorem dX6_digest_171 : decode cX6_digest 171 = .ok (.lstore_n 1, 1) := by decide +kernel
theorem dX6_digest_172 : decode cX6_digest 172 = .ok (.iinc 4 1, 3) := by decide +kernel
theorem dX6_digest_175 : decode cX6_digest 175 = .ok (.goto (-25), 3) := by decide +kernel
theorem dX6_digest_178 : decode cX6_digest 178 = .ok (.iconst 0, 1) := by decide +kernel
theorem dX6_digest_179 : decode cX6_digest 179 = .ok (.istore 4, 2) := by decide +kernel
theorem dX6_digest_181 : decode cX6_digest 181 = .ok (.iload 4, 2) := by decide +kernel
theorem dX6_digest_183 : decode cX6_digest 183 = .ok (.bipush 10, 2) := by decide +kernel
theorem dX6_digest_185 : decode cX6_digest 185 = .ok (.if_icmp .ge 24, 3) := by decide +kernel
theorem dX6_digest_188 : decode cX6_digest 188 = .ok (.ldc2_w 203, 3) := by decide +kernel
theorem dX6_digest_191 : decode cX6_digest 191 = .ok (.lload_n 1, 1) := by decide +kernel
theorem dX6_digest_192 : decode cX6_digest 192 = .ok (.lmul, 1) := by decide +kernel
theorem dX6_digest_193 : decode cX6_digest 193 = .ok (.aload_n 0, 1) := by decide +kernel
theorem dX6_digest_194 : decode cX6_digest 194 = .ok (.iload_n 3, 1) := by decide +kernel
theorem dX6_digest_195 : decode cX6_digest 195 = .ok (.iload 4, 2) := by decide +kernel
theorem dX6_digest_197 : decode cX6_digest 197 = .ok (.invokevirtual 159, 3) := by decide +kernel
theorem dX6_digest_200 : decode cX6_digest 200 = .ok (.i2l, 1) := by decide +kernel
theorem dX6_digest_201 : decode cX6_digest 201 = .ok (.ladd, 1) := by decide +kernel
theorem dX6_digest_202 : decode cX6_digest 202 = .ok (.lstore_n 1, 1) := by decide +kernel
theorem dX6_digest_203 : decode cX6_digest 203 = .ok (.iinc 4 1, 3) := by decide +kernel
theorem dX6_digest_206 : decode cX6_digest 206 = .ok (.goto (-25), 3) := by decide +kernel
theorem dX6_digest_209 : decode cX6_digest 209 = .ok (.ldc2_w 203, 3) := by decide +kernel
theorem dX6_digest_212 : decode cX6_digest 212 = .ok (.lload_n 1, 1) := by decide +kernel
theorem dX6_digest_213 : decode cX6_digest 213 = .ok (.lmul, 1) := by decide +kernel
theorem dX6_digest_214 : decode cX6_digest 214 = .ok (.aload_n 0, 1) := by decide +kernel
theorem dX6_digest_215 : decode cX6_digest 215 = .ok (.iload_n 3, 1) := by decide +kernel
theorem dX6_digest_216 : decode cX6_digest 216 = .ok (.bipush 9, 2) := by decide +kernel
theorem dX6_digest_218 : decode cX6_digest 218 = .ok (.invokevirtual 185, 3) := by decide +kernel
theorem dX6_digest_221 : decode cX6_digest 221 = .ok (.i2l, 1) := by decide +kernel
theorem dX6_digest_222 : decode cX6_digest 222 = .ok (.ladd, 1) := by decide +kernel
theorem dX6_digest_223 : decode cX6_digest 223 = .ok (.lstore_n 1, 1) := by decide +kernel
theorem dX6_digest_224 : decode cX6_digest 224 = .ok (.iinc 3 1, 3) := by decide +kernel
theorem dX6_digest_227 : decode cX6_digest 227 = .ok (.goto (-90), 3) := by decide +kernel
theorem dX6_digest_230 : decode cX6_digest 230 = .ok (.ldc2_w 203, 3) := by decide +kernel
theorem dX6_digest_233 : decode cX6_digest 233 = .ok (.lload_n 1, 1) := by decide +kernel
theorem dX6_digest_234 : decode cX6_digest 234 = .ok (.lmul, 1) := by decide +kernel
theorem dX6_digest_235 : decode cX6_digest 235 = .ok (.aload_n 0, 1) := by decide +kernel
theorem dX6_digest_236 : decode cX6_digest 236 = .ok (.invokevirtual 188, 3) := by decide +kernel
theorem dX6_digest_239 : decode cX6_digest 239 = .ok (.i2l, 1) := by decide +kernel
theorem dX6_digest_240 : decode cX6_digest 240 = .ok (.ladd, 1) := by decide +kernel
theorem dX6_digest_241 : decode cX6_digest 241 = .ok (.lstore_n 1, 1) := by decide +kernel
theorem dX6_digest_242 : decode cX6_digest 242 = .ok (.ldc2_w 203, 3) := by decide +kernel
theorem dX6_digest_245 : decode cX6_digest 245 = .ok (.lload_n 1, 1) := by decide +kernel
theorem dX6_digest_246 : decode cX6_digest 246 = .ok (.lmul, 1) := by decide +kernel
theorem dX6_digest_247 : decode cX6_digest 247 = .ok (.aload_n 0, 1) := by decide +kernel
theorem dX6_digest_248 : decode cX6_digest 248 = .ok (.invokevirtual 194, 3) := by decide +kernel
theorem dX6_digest_251 : decode cX6_digest 251 = .ok (.i2l, 1) := by decide +kernel
theorem dX6_digest_252 : decode cX6_digest 252 = .ok (.ladd, 1) := by decide +kernel
theorem dX6_digest_253 : decode cX6_digest 253 = .ok (.lstore_n 1, 1) := by decide +kernel
theorem dX6_digest_254 : decode cX6_digest 254 = .ok (.ldc2_w 203, 3) := by decide +kernel
theorem dX6_digest_257 : decode cX6_digest 257 = .ok (.lload_n 1, 1) := by decide +kernel
theorem dX6_digest_258 : decode cX6_digest 258 = .ok (.lmul, 1) := by decide +kernel
theorem dX6_digest_259 : decode cX6_digest 259 = .ok (.aload_n 0, 1) := by decide +kernel
theorem dX6_digest_260 : decode cX6_digest 260 = .ok (.invokevirtual 197, 3) := by decide +kernel
theorem dX6_digest_263 : decode cX6_digest 263 = .ok (.invokestatic 205, 3) := by decide +kernel
theorem dX6_digest_266 : decode cX6_digest 266 = .ok (.ladd, 1) := by decide +kernel
theorem dX6_digest_267 : decode cX6_digest 267 = .ok (.lstore_n 1, 1) := by decide +kernel
theorem dX6_digest_268 : decode cX6_digest 268 = .ok (.iconst 0, 1) := by decide +kernel
theorem dX6_digest_269 : decode cX6_digest 269 = .ok (.istore_n 3, 1) := by decide +kernel
theorem dX6_digest_270 : decode cX6_digest 270 = .ok (.iload_n 3, 1) := by decide +kernel
theorem dX6_digest_271 : decode cX6_digest 271 = .ok (.iconst 2, 1) := by decide +kernel
theorem dX6_digest_272 : decode cX6_digest 272 = .ok (.if_icmp .ge 31, 3) := by decide +kernel
theorem dX6_digest_275 : decode cX6_digest 275 = .ok (.ldc2_w 203, 3) := by decide +kernel
theorem dX6_digest_278 : decode cX6_digest 278 = .ok (.lload_n 1, 1) := by decide +kernel
theorem dX6_digest_279 : decode cX6_digest 279 = .ok (.lmul, 1) := by decide +kernel
theorem dX6_digest_280 : decode cX6_digest 280 = .ok (.aload_n 0, 1) := by decide +kernel
theorem dX6_digest_281 : decode cX6_digest 281 = .ok (.getfield 22, 3) := by decide +kernel
theorem dX6_digest_284 : decode cX6_digest 284 = .ok (.iload_n 3, 1) := by decide +kernel
theorem dX6_digest_285 : decode cX6_digest 285 = .ok (.baload, 1) := by decide +kernel
theorem dX6_digest_286 : decode cX6_digest 286 = .ok (.ifCond .eq 7, 3) := by decide +kernel
theorem dX6_digest_289 : decode cX6_digest 289 = .ok (.iconst 1, 1) := by decide +kernel
theorem dX6_digest_290 : decode cX6_digest 290 = .ok (.goto 4, 3) := by decide +kernel
theorem dX6_digest_293 : decode cX6_digest 293 = .ok (.iconst 0, 1) := by decide +kernel
theorem dX6_digest_294 : decode cX6_digest 294 = .ok (.i2l, 1) := by decide +kernel
theorem dX6_digest_295 : decode cX6_digest 295 = .ok (.ladd, 1) := by decide +kernel
theorem dX6_digest_296 : decode cX6_digest 296 = .ok (.lstore_n 1, 1) := by decide +kernel
theorem dX6_digest_297 : decode cX6_digest 297 = .ok (.iinc 3 1, 3) := by decide +kernel
theorem dX6_digest_300 : decode cX6_digest 300 = .ok (.goto (-30), 3) := by decide +kernel
theorem dX6_digest_303 : decode cX6_digest 303 = .ok (.ldc2_w 203, 3) := by decide +kernel
theorem dX6_digest_306 : decode cX6_digest 306 = .ok (.lload_n 1, 1) := by decide +kernel
theorem dX6_digest_307 : decode cX6_digest 307 = .ok (.lmul, 1) := by decide +kernel
theorem dX6_digest_308 : decode cX6_digest 308 = .ok (.aload_n 0, 1) := by decide +kernel
theorem dX6_digest_309 : decode cX6_digest 309 = .ok (.getfield 132, 3) := by decide +kernel
theorem dX6_digest_312 : decode cX6_digest 312 = .ok (.i2l, 1) := by decide +kernel
theorem dX6_digest_313 : decode cX6_digest 313 = .ok (.ladd, 1) := by decide +kernel
theorem dX6_digest_314 : decode cX6_digest 314 = .ok (.lstore_n 1, 1) := by decide +kernel
theorem dX6_digest_315 : decode cX6_digest 315 = .ok (.iconst 0, 1) := by decide +kernel
theorem dX6_digest_316 : decode cX6_digest 316 = .ok (.istore_n 3, 1) := by decide +kernel
theorem dX6_digest_317 : decode cX6_digest 317 = .ok (.iload_n 3, 1) := by decide +kernel
theorem dX6_digest_318 : decode cX6_digest 318 = .ok (.aload_n 0, 1) := by decide +kernel
theorem dX6_digest_319 : decode cX6_digest 319 = .ok (.getfield 132, 3) := by decide +kernel
theorem dX6_digest_322 : decode cX6_digest 322 = .ok (.if_icmp .ge 23, 3) := by decide +kernel
theorem dX6_digest_325 : decode cX6_digest 325 = .ok (.ldc2_w 203, 3) := by decide +kernel
theorem dX6_digest_328 : decode cX6_digest 328 = .ok (.lload_n 1, 1) := by decide +kernel
theorem dX6_digest_329 : decode cX6_digest 329 = .ok (.lmul, 1) := by decide +kernel
theorem dX6_digest_330 : decode cX6_digest 330 = .ok (.aload_n 0, 1) := by decide +kernel
theorem dX6_digest_331 : decode cX6_digest 331 = .ok (.getfield 26, 3) := by decide +kernel
theorem dX6_digest_334 : decode cX6_digest 334 = .ok (.iload_n 3, 1) := by decide +kernel
theorem dX6_digest_335 : decode cX6_digest 335 = .ok (.iaload, 1) := by decide +kernel
theorem dX6_digest_336 : decode cX6_digest 336 = .ok (.i2l, 1) := by decide +kernel
theorem dX6_digest_337 : decode cX6_digest 337 = .ok (.ladd, 1) := by decide +kernel
theorem dX6_digest_338 : decode cX6_digest 338 = .ok (.lstore_n 1, 1) := by decide +kernel
theorem dX6_digest_339 : decode cX6_digest 339 = .ok (.iinc 3 1, 3) := by decide +kernel
theorem dX6_digest_342 : decode cX6_digest 342 = .ok (.goto (-25), 3) := by decide +kernel
theorem dX6_digest_345 : decode cX6_digest 345 = .ok (.lload_n 1, 1) := by decide +kernel
theorem dX6_digest_346 : decode cX6_digest 346 = .ok (.lreturn, 1) := by decide +kernel
theorem dJxe99ae_isNaN_b9ae7_0 : decode cJxe99ae_isNaN_b9ae7 0 = .ok (.dload_n 0, 1) := by decide +kernel
theorem dJxe99ae_isNaN_b9ae7_1 : decode cJxe99ae_isNaN_b9ae7 1 = .ok (.dload_n 0, 1) := by decide +kernel
theorem dJxe99ae_isNaN_b9ae7_2 : decode cJxe99ae_isNaN_b9ae7 2 = .ok (.dcmp .l, 1) := by decide +kernel
theorem dJxe99ae_isNaN_b9ae7_3 : decode cJxe99ae_isNaN_b9ae7 3 = .ok (.ifCond .eq 7, 3) := by decide +kernel
theorem dJxe99ae_isNaN_b9ae7_6 : decode cJxe99ae_isNaN_b9ae7 6 = .ok (.iconst 1, 1) := by decide +kernel
theorem dJxe99ae_isNaN_b9ae7_7 : decode cJxe99ae_isNaN_b9ae7 7 = .ok (.goto 4, 3) := by decide +kernel
theorem dJxe99ae_isNaN_b9ae7_10 : decode cJxe99ae_isNaN_b9ae7 10 = .ok (.iconst 0, 1) := by decide +kernel
theorem dJxe99ae_isNaN_b9ae7_11 : decode cJxe99ae_isNaN_b9ae7 11 = .ok (.ireturn, 1) := by decide +kernel
theorem dJxe99ae_doubleToLongBits_ccdee_0 : decode cJxe99ae_doubleToLongBits_ccdee 0 = .ok (.dload_n 0, 1) := by decide +kernel
theorem dJxe99ae_doubleToLongBits_ccdee_1 : decode cJxe99ae_doubleToLongBits_ccdee 1 = .ok (.invokestatic 122, 3) := by decide +kernel
theorem dJxe99ae_doubleToLongBits_ccdee_4 : decode cJxe99ae_doubleToLongBits_ccdee 4 = .ok (.ifCond .ne 8, 3) := by decide +kernel
theorem dJxe99ae_doubleToLongBits_ccdee_7 : decode cJxe99ae_doubleToLongBits_ccdee 7 = .ok (.dload_n 0, 1) := by decide +kernel
theorem dJxe99ae_doubleToLongBits_ccdee_8 : decode cJxe99ae_doubleToLongBits_ccdee 8 = .ok (.invokestatic 134, 3) := by decide +kernel
theorem dJxe99ae_doubleToLongBits_ccdee_11 : decode cJxe99ae_doubleToLongBits_ccdee 11 = .ok (.lreturn, 1) := by decide +kernel
theorem dJxe99ae_doubleToLongBits_ccdee_12 : decode cJxe99ae_doubleToLongBits_ccdee 12 = .ok (.ldc2_w 137, 3) := by decide +kernel
theorem dJxe99ae_doubleToLongBits_ccdee_15 : decode cJxe99ae_doubleToLongBits_ccdee 15 = .ok (.lreturn, 1) := by decide +kernel
theorem dJ6_bitCount_0f7a4_0 : decode cJ6_bitCount_0f7a4 0 = .ok (.iload_n 0, 1) := by decide +kernel
theorem dJ6_bitCount_0f7a4_1 : decode cJ6_bitCount_0f7a4 1 = .ok (.iload_n 0, 1) := by decide +kernel
theorem dJ6_bitCount_0f7a4_2 : decode cJ6_bitCount_0f7a4 2 = .ok (.iconst 1, 1) := by decide +kernel
theorem dJ6_bitCount_0f7a4_3 : decode cJ6_bitCount_0f7a4 3 = .ok (.iushr, 1) := by decide +kernel
theorem dJ6_bitCount_0f7a4_4 : decode cJ6_bitCount_0f7a4 4 = .ok (.ldc_w 265, 3) := by decide +kernel
theorem dJ6_bitCount_0f7a4_7 : decode cJ6_bitCount_0f7a4 7 = .ok (.iand, 1) := by decide +kernel
theorem dJ6_bitCount_0f7a4_8 : decode cJ6_bitCount_0f7a4 8 = .ok (.isub, 1) := by decide +kernel
theorem dJ6_bitCount_0f7a4_9 : decode cJ6_bitCount_0f7a4 9 = .ok (.istore_n 0, 1) := by decide +kernel
theorem dJ6_bitCount_0f7a4_10 : decode cJ6_bitCount_0f7a4 10 = .ok (.iload_n 0, 1) := by decide +kernel
theorem dJ6_bitCount_0f7a4_11 : decode cJ6_bitCount_0f7a4 11 = .ok (.ldc_w 266, 3) := by decide +kernel
theorem dJ6_bitCount_0f7a4_14 : decode cJ6_bitCount_0f7a4 14 = .ok (.iand, 1) := by decide +kernel
theorem dJ6_bitCount_0f7a4_15 : decode cJ6_bitCount_0f7a4 15 = .ok (.iload_n 0, 1) := by decide +kernel
theorem dJ6_bitCount_0f7a4_16 : decode cJ6_bitCount_0f7a4 16 = .ok (.iconst 2, 1) := by decide +kernel
theorem dJ6_bitCount_0f7a4_17 : decode cJ6_bitCount_0f7a4 17 = .ok (.iushr, 1) := by decide +kernel
theorem dJ6_bitCount_0f7a4_18 : decode cJ6_bitCount_0f7a4 18 = .ok (.ldc_w 266, 3) := by decide +kernel
theorem dJ6_bitCount_0f7a4_21 : decode cJ6_bitCount_0f7a4 21 = .ok (.iand, 1) := by decide +kernel
theorem dJ6_bitCount_0f7a4_22 : decode cJ6_bitCount_0f7a4 22 = .ok (.iadd, 1) := by decide +kernel
theorem dJ6_bitCount_0f7a4_23 : decode cJ6_bitCount_0f7a4 23 = .ok (.istore_n 0, 1) := by decide +kernel
theorem dJ6_bitCount_0f7a4_24 : decode cJ6_bitCount_0f7a4 24 = .ok (.iload_n 0, 1) := by decide +kernel
theorem dJ6_bitCount_0f7a4_25 : decode cJ6_bitCount_0f7a4 25 = .ok (.iload_n 0, 1) := by decide +kernel
theorem dJ6_bitCount_0f7a4_26 : decode cJ6_bitCount_0f7a4 26 = .ok (.iconst 4, 1) := by decide +kernel
theorem dJ6_bitCount_0f7a4_27 : decode cJ6_bitCount_0f7a4 27 = .ok (.iushr, 1) := by decide +kernel
theorem dJ6_bitCount_0f7a4_28 : decode cJ6_bitCount_0f7a4 28 = .ok (.iadd, 1) := by decide +kernel
theorem dJ6_bitCount_0f7a4_29 : decode cJ6_bitCount_0f7a4 29 = .ok (.ldc_w 267, 3) := by decide +kernel
theorem dJ6_bitCount_0f7a4_32 : decode cJ6_bitCount_0f7a4 32 = .ok (.iand, 1) := by decide +kernel
theorem dJ6_bitCount_0f7a4_33 : decode cJ6_bitCount_0f7a4 33 = .ok (.istore_n 0, 1) := by decide +kernel
theorem dJ6_bitCount_0f7a4_34 : decode cJ6_bitCount_0f7a4 34 = .ok (.iload_n 0, 1) := by decide +kernel
theorem dJ6_bitCount_0f7a4_35 : decode cJ6_bitCount_0f7a4 35 = .ok (.iload_n 0, 1) := by decide +kernel
theorem dJ6_bitCount_0f7a4_36 : decode cJ6_bitCount_0f7a4 36 = .ok (.bipush 8, 2) := by decide +kernel
theorem dJ6_bitCount_0f7a4_38 : decode cJ6_bitCount_0f7a4 38 = .ok (.iushr, 1) := by decide +kernel
theorem dJ6_bitCount_0f7a4_39 : decode cJ6_bitCount_0f7a4 39 = .ok (.iadd, 1) := by decide +kernel
theorem dJ6_bitCount_0f7a4_40 : decode cJ6_bitCount_0f7a4 40 = .ok (.istore_n 0, 1) := by decide +kernel
theorem dJ6_bitCount_0f7a4_41 : decode cJ6_bitCount_0f7a4 41 = .ok (.iload_n 0, 1) := by decide +kernel
theorem dJ6_bitCount_0f7a4_42 : decode cJ6_bitCount_0f7a4 42 = .ok (.iload_n 0, 1) := by decide +kernel
theorem dJ6_bitCount_0f7a4_43 : decode cJ6_bitCount_0f7a4 43 = .ok (.bipush 16, 2) := by decide +kernel
theorem dJ6_bitCount_0f7a4_45 : decode cJ6_bitCount_0f7a4 45 = .ok (.iushr, 1) := by decide +kernel
theorem dJ6_bitCount_0f7a4_46 : decode cJ6_bitCount_0f7a4 46 = .ok (.iadd, 1) := by decide +kernel
theorem dJ6_bitCount_0f7a4_47 : decode cJ6_bitCount_0f7a4 47 = .ok (.istore_n 0, 1) := by decide +kernel
theorem dJ6_bitCount_0f7a4_48 : decode cJ6_bitCount_0f7a4 48 = .ok (.iload_n 0, 1) := by decide +kernel
theorem dJ6_bitCount_0f7a4_49 : decode cJ6_bitCount_0f7a4 49 = .ok (.bipush 63, 2) := by decide +kernel
theorem dJ6_bitCount_0f7a4_51 : decode cJ6_bitCount_0f7a4 51 = .ok (.iand, 1) := by decide +kernel
theorem dJ6_bitCount_0f7a4_52 : decode cJ6_bitCount_0f7a4 52 = .ok (.ireturn, 1) := by decide +kernel
theorem dJ9_abs_0f7a4_0 : decode cJ9_abs_0f7a4 0 = .ok (.iload_n 0, 1) := by decide +kernel
theorem dJ9_abs_0f7a4_1 : decode cJ9_abs_0f7a4 1 = .ok (.ifCond .ge 8, 3) := by decide +kernel
theorem dJ9_abs_0f7a4_4 : decode cJ9_abs_0f7a4 4 = .ok (.iload_n 0, 1) := by decide +kernel
theorem dJ9_abs_0f7a4_5 : decode cJ9_abs_0f7a4 5 = .ok (.ineg, 1) := by decide +kernel
theorem dJ9_abs_0f7a4_6 : decode cJ9_abs_0f7a4 6 = .ok (.goto 4, 3) := by decide +kernel
theorem dJ9_abs_0f7a4_9 : decode cJ9_abs_0f7a4 9 = .ok (.iload_n 0, 1) := by decide +kernel
theorem dJ9_abs_0f7a4_10 : decode cJ9_abs_0f7a4 10 = .ok (.ireturn, 1) := by decide +kernel
theorem dJ9_max_7cf53_0 : decode cJ9_max_7cf53 0 = .ok (.iload_n 0, 1) := by decide +kernel
theorem dJ9_max_7cf53_1 : decode cJ9_max_7cf53 1 = .ok (.iload_n 1, 1) := by decide +kernel
theorem dJ9_max_7cf53_2 : decode cJ9_max_7cf53 2 = .ok (.if_icmp .lt 7, 3) := by decide +kernel
theorem dJ9_max_7cf53_5 : decode cJ9_max_7cf53 5 = .ok (.iload_n 0, 1) := by decide +kernel
theorem dJ9_max_7cf53_6 : decode cJ9_max_7cf53 6 = .ok (.goto 4, 3) := by decide +kernel
theorem dJ9_max_7cf53_9 : decode cJ9_max_7cf53 9 = .ok (.iload_n 1, 1) := by decide +kernel
theorem dJ9_max_7cf53_10 : decode cJ9_max_7cf53 10 = .ok (.ireturn, 1) := by decide +kernel
theorem dJ9_min_7cf53_0 : decode cJ9_min_7cf53 0 = .ok (.iload_n 0, 1) := by decide +kernel
theorem dJ9_min_7cf53_1 : decode cJ9_min_7cf53 1 = .ok (.iload_n 1, 1) := by decide +kernel
theorem dJ9_min_7cf53_2 : decode cJ9_min_7cf53 2 = .ok (.if_icmp .gt 7, 3) := by decide +kernel
theorem dJ9_min_7cf53_5 : decode cJ9_min_7cf53 5 = .ok (.iload_n 0, 1) := by decide +kernel
theorem dJ9_min_7cf53_6 : decode cJ9_min_7cf53 6 = .ok (.goto 4, 3) := by decide +kernel
theorem dJ9_min_7cf53_9 : decode cJ9_min_7cf53 9 = .ok (.iload_n 1, 1) := by decide +kernel
theorem dJ9_min_7cf53_10 : decode cJ9_min_7cf53 10 = .ok (.ireturn, 1) := by decide +kernel
theorem dL_height_0 : decode cL_height 0 = .ok (.aload_n 3, 1) := by decide +kernel
theorem dL_height_1 : decode cL_height 1 = .ok (.iconst 0, 1) := by decide +kernel
theorem dL_height_2 : decode cL_height 2 = .ok (.aload_n 0, 1) := by decide +kernel
theorem dL_height_3 : decode cL_height 3 = .ok (.iload_n 1, 1) := by decide +kernel
theorem dL_height_4 : decode cL_height 4 = .ok (.iload_n 2, 1) := by decide +kernel
theorem dL_height_5 : decode cL_height 5 = .ok (.invokevirtual 7, 3) := by decide +kernel
theorem dL_height_8 : decode cL_height 8 = .ok (.i2l, 1) := by decide +kernel
theorem dL_height_9 : decode cL_height 9 = .ok (.lastore, 1) := by decide +kernel
theorem dL_height_10 : decode cL_height 10 = .ok (.goto 11, 3) := by decide +kernel
theorem dL_height_13 : decode cL_height 13 = .ok (.astore 4, 2) := by decide +kernel
theorem dL_height_15 : decode cL_height 15 = .ok (.iconst 1, 1) := by decide +kernel
theorem dL_height_16 : decode cL_height 16 = .ok (.ireturn, 1) := by decide +kernel
theorem dL_height_17 : decode cL_height 17 = .ok (.astore 4, 2) := by decide +kernel
theorem dL_height_19 : decode cL_height 19 = .ok (.iconst 2, 1) := by decide +kernel
theorem dL_height_20 : decode cL_height 20 = .ok (.ireturn, 1) := by decide +kernel
theorem dL_height_21 : decode cL_height 21 = .ok (.iconst 0, 1) := by decide +kernel
theorem dL_height_22 : decode cL_height 22 = .ok (.ireturn, 1) := by decide +kernel
theorem dL_player_0 : decode cL_player 0 = .ok (.aload_n 3, 1) := by decide +kernel
theorem dL_player_1 : decode cL_player 1 = .ok (.iconst 0, 1) := by decide +kernel
theorem dL_player_2 : decode cL_player 2 = .ok (.aload_n 0, 1) := by decide +kernel
theorem dL_player_3 : decode cL_player 3 = .ok (.iload_n 1, 1) := by decide +kernel
theorem dL_player_4 : decode cL_player 4 = .ok (.iload_n 2, 1) := by decide +kernel
theorem dL_player_5 : decode cL_player 5 = .ok (.invokevirtual 17, 3) := by decide +kernel
theorem dL_player_8 : decode cL_player 8 = .ok (.i2l, 1) := by decide +kernel
theorem dL_player_9 : decode cL_player 9 = .ok (.lastore, 1) := by decide +kernel
theorem dL_player_10 : decode cL_player 10 = .ok (.goto 15, 3) := by decide +kernel
theorem dL_player_13 : decode cL_player 13 = .ok (.astore 4, 2) := by decide +kernel
theorem dL_player_15 : decode cL_player 15 = .ok (.iconst 1, 1) := by decide +kernel
theorem dL_player_16 : decode cL_player 16 = .ok (.ireturn, 1) := by decide +kernel
theorem dL_player_17 : decode cL_player 17 = .ok (.astore 4, 2) := by decide +kernel
theorem dL_player_19 : decode cL_player 19 = .ok (.iconst 2, 1) := by decide +kernel
theorem dL_player_20 : decode cL_player 20 = .ok (.ireturn, 1) := by decide +kernel
theorem dL_player_21 : decode cL_player 21 = .ok (.astore 4, 2) := by decide +kernel
theorem dL_player_23 : decode cL_player 23 = .ok (.iconst 3, 1) := by decide +kernel
theorem dL_player_24 : decode cL_player 24 = .ok (.ireturn, 1) := by decide +kernel
theorem dL_player_25 : decode cL_player 25 = .ok (.iconst 0, 1) := by decide +kernel
theorem dL_player_26 : decode cL_player 26 = .ok (.ireturn, 1) := by decide +kernel
theorem dL_set_0 : decode cL_set 0 = .ok (.aload_n 3, 1) := by decide +kernel
theorem dL_set_1 : decode cL_set 1 = .ok (.iconst 0, 1) := by decide +kernel
theorem dL_set_2 : decode cL_set 2 = .ok (.aload_n 0, 1) := by decide +kernel
theorem dL_set_3 : decode cL_set 3 = .ok (.iload_n 1, 1) := by decide +kernel
theorem dL_set_4 : decode cL_set 4 = .ok (.iload_n 2, 1) := by decide +kernel
theorem dL_set_5 : decode cL_set 5 = .ok (.invokevirtual 22, 3) := by decide +kernel
theorem dL_set_8 : decode cL_set 8 = .ok (.i2l, 1) := by decide +kernel
theorem dL_set_9 : decode cL_set 9 = .ok (.lastore, 1) := by decide +kernel
theorem dL_set_10 : decode cL_set 10 = .ok (.goto 11, 3) := by decide +kernel
theorem dL_set_13 : decode cL_set 13 = .ok (.astore 4, 2) := by decide +kernel
theorem dL_set_15 : decode cL_set 15 = .ok (.iconst 1, 1) := by decide +kernel
theorem dL_set_16 : decode cL_set 16 = .ok (.ireturn, 1) := by decide +kernel
theorem dL_set_17 : decode cL_set 17 = .ok (.astore 4, 2) := by decide +kernel
theorem dL_set_19 : decode cL_set 19 = .ok (.iconst 2, 1) := by decide +kernel
theorem dL_set_20 : decode cL_set 20 = .ok (.ireturn, 1) := by decide +kernel
theorem dL_set_21 : decode cL_set 21 = .ok (.iconst 0, 1) := by decide +kernel
theorem dL_set_22 : decode cL_set 22 = .ok (.ireturn, 1) := by decide +kernel
theorem dL_rest_0 : decode cL_rest 0 = .ok (.aload_n 1, 1) := by decide +kernel
theorem dL_rest_1 : decode cL_rest 1 = .ok (.iconst 0, 1) := by decide +kernel
theorem dL_rest_2 : decode cL_rest 2 = .ok (.aload_n 0, 1) := by decide +kernel
theorem dL_rest_3 : decode cL_rest 3 = .ok (.invokevirtual 25, 3) := by decide +kernel
theorem dL_rest_6 : decode cL_rest 6 = .ok (.i2l, 1) := by decide +kernel
theorem dL_rest_7 : decode cL_rest 7 = .ok (.lastore, 1) := by decide +kernel
theorem dL_rest_8 : decode cL_rest 8 = .ok (.goto 6, 3) := by decide +kernel
theorem dL_rest_11 : decode cL_rest 11 = .ok (.astore_n 2, 1) := by decide +kernel
theorem dL_rest_12 : decode cL_rest 12 = .ok (.iconst 1, 1) := by decide +kernel
theorem dL_rest_13 : decode cL_rest 13 = .ok (.ireturn, 1) := by decide +kernel
theorem dL_rest_14 : decode cL_rest 14 = .ok (.iconst 0, 1) := by decide +kernel
theorem dL_rest_15 : decode cL_rest 15 = .ok (.ireturn, 1) := by decide +kernel
theorem dL_stride_0 : decode cL_stride 0 = .ok (.aload_n 2, 1) := by decide +kernel
theorem dL_stride_1 : decode cL_stride 1 = .ok (.iconst 0, 1) := by decide +kernel
theorem dL_stride_2 : decode cL_stride 2 = .ok (.aload_n 0, 1) := by decide +kernel
theorem dL_stride_3 : decode cL_stride 3 = .ok (.iload_n 1, 1) := by decide +kernel
theorem dL_stride_4 : decode cL_stride 4 = .ok (.invokevirtual 29, 3) := by decide +kernel
theorem dL_stride_7 : decode cL_stride 7 = .ok (.i2l, 1) := by decide +kernel
theorem dL_stride_8 : decode cL_stride 8 = .ok (.lastore, 1) := by decide +kernel
theorem dL_stride_9 : decode cL_stride 9 = .ok (.goto 9, 3) := by decide +kernel
theorem dL_stride_12 : decode cL_stride 12 = .ok (.astore_n 3, 1) := by decide +kernel
theorem dL_stride_13 : decode cL_stride 13 = .ok (.iconst 1, 1) := by decide +kernel
theorem dL_stride_14 : decode cL_stride 14 = .ok (.ireturn, 1) := by decide +kernel
theorem dL_stride_15 : decode cL_stride 15 = .ok (.astore_n 3, 1) := by decide +kernel
theorem dL_stride_16 : decode cL_stride 16 = .ok (.iconst 2, 1) := by decide +kernel
theorem dL_stride_17 : decode cL_stride 17 = .ok (.ireturn, 1) := by decide +kernel
theorem dL_stride_18 : decode cL_stride 18 = .ok (.iconst 0, 1) := by decide +kernel
theorem dL_stride_19 : decode cL_stride 19 = .ok (.ireturn, 1) := by decide +kernel
theorem dL_turnOver_0 : decode cL_turnOver 0 = .ok (.aload_n 1, 1) := by decide +kernel
theorem dL_turnOver_1 : decode cL_turnOver 1 = .ok (.iconst 0, 1) := by decide +kernel
theorem dL_turnOver_2 : decode cL_turnOver 2 = .ok (.aload_n 0, 1) := by decide +kernel
theorem dL_turnOver_3 : decode cL_turnOver 3 = .ok (.invokevirtual 33, 3) := by decide +kernel
theorem dL_turnOver_6 : decode cL_turnOver 6 = .ok (.i2l, 1) := by decide +kernel
theorem dL_turnOver_7 : decode cL_turnOver 7 = .ok (.lastore, 1) := by decide +kernel
theorem dL_turnOver_8 : decode cL_turnOver 8 = .ok (.goto 6, 3) := by decide +kernel
theorem dL_turnOver_11 : decode cL_turnOver 11 = .ok (.astore_n 2, 1) := by decide +kernel
theorem dL_turnOver_12 : decode cL_turnOver 12 = .ok (.iconst 1, 1) := by decide +kernel
theorem dL_turnOver_13 : decode cL_turnOver 13 = .ok (.ireturn, 1) := by decide +kernel
theorem dL_turnOver_14 : decode cL_turnOver 14 = .ok (.iconst 0, 1) := by decide +kernel
theorem dL_turnOver_15 : decode cL_turnOver 15 = .ok (.ireturn, 1) := by decide +kernel
theorem dL_tag_0 : decode cL_tag 0 = .ok (.aload_n 2, 1) := by decide +kernel
theorem dL_tag_1 : decode cL_tag 1 = .ok (.iconst 0, 1) := by decide +kernel
theorem dL_tag_2 : decode cL_tag 2 = .ok (.aload_n 0, 1) := by decide +kernel
theorem dL_tag_3 : decode cL_tag 3 = .ok (.iload_n 1, 1) := by decide +kernel
theorem dL_tag_4 : decode cL_tag 4 = .ok (.invokevirtual 36, 3) := by decide +kernel
theorem dL_tag_7 : decode cL_tag 7 = .ok (.i2l, 1) := by decide +kernel
theorem dL_tag_8 : decode cL_tag 8 = .ok (.lastore, 1) := by decide +kernel
theorem dL_tag_9 : decode cL_tag 9 = .ok (.goto 9, 3) := by decide +kernel
theorem dL_tag_12 : decode cL_tag 12 = .ok (.astore_n 3, 1) := by decide +kernel
theorem dL_tag_13 : decode cL_tag 13 = .ok (.iconst 1, 1) := by decide +kernel
theorem dL_tag_14 : decode cL_tag 14 = .ok (.ireturn, 1) := by decide +kernel
theorem dL_tag_15 : decode cL_tag 15 = .ok (.astore_n 3, 1) := by decide +kernel
theorem dL_tag_16 : decode cL_tag 16 = .ok (.iconst 2, 1) := by decide +kernel
theorem dL_tag_17 : decode cL_tag 17 = .ok (.ireturn, 1) := by decide +kernel
theorem dL_tag_18 : decode cL_tag 18 = .ok (.iconst 0, 1) := by decide +kernel
theorem dL_tag_19 : decode cL_tag 19 = .ok (.ireturn, 1) := by decide +kernel
theorem dL_append_0 : decode cL_append 0 = .ok (.aload_n 2, 1) := by decide +kernel
theorem dL_append_1 : decode cL_append 1 = .ok (.iconst 0, 1) := by decide +kernel
theorem dL_append_2 : decode cL_append 2 = .ok (.aload_n 0, 1) := by decide +kernel
theorem dL_append_3 : decode cL_append 3 = .ok (.iload_n 1, 1) := by decide +kernel
theorem dL_append_4 : decode cL_append 4 = .ok (.invokevirtual 39, 3) := by decide +kernel
theorem dL_append_7 : decode cL_append 7 = .ok (.i2l, 1) := by decide +kernel
theorem dL_append_8 : decode cL_append 8 = .ok (.lastore, 1) := by decide +kernel
theorem dL_append_9 : decode cL_append 9 = .ok (.goto 9, 3) := by decide +kernel
theorem dL_append_12 : decode cL_append 12 = .ok (.astore_n 3, 1) := by decide +kernel
theorem dL_append_13 : decode cL_append 13 = .ok (.iconst 1, 1) := by decide +kernel
theorem dL_append_14 : decode cL_append 14 = .ok (.ireturn, 1) := by decide +kernel
theorem dL_append_15 : decode cL_append 15 = .ok (.astore_n 3, 1) := by decide +kernel
theorem dL_append_16 : decode cL_append 16 = .ok (.iconst 2, 1) := by decide +kernel
theorem dL_append_17 : decode cL_append 17 = .ok (.ireturn, 1) := by decide +kernel
theorem dL_append_18 : decode cL_append 18 = .ok (.iconst 0, 1) := by decide +kernel
theorem dL_append_19 : decode cL_append 19 = .ok (.ireturn, 1) := by decide +kernel
theorem dL_run_0 : decode cL_run 0 = .ok (.aload_n 1, 1) := by decide +kernel
theorem dL_run_1 : decode cL_run 1 = .ok (.iconst 0, 1) := by decide +kernel
theorem dL_run_2 : decode cL_run 2 = .ok (.aload_n 0, 1) := by decide +kernel
theorem dL_run_3 : decode cL_run 3 = .ok (.invokevirtual 42, 3) := by decide +kernel
theorem dL_run_6 : decode cL_run 6 = .ok (.i2l, 1) := by decide +kernel
theorem dL_run_7 : decode cL_run 7 = .ok (.lastore, 1) := by decide +kernel
theorem dL_run_8 : decode cL_run 8 = .ok (.goto 6, 3) := by decide +kernel
theorem dL_run_11 : decode cL_run 11 = .ok (.astore_n 2, 1) := by decide +kernel
theorem dL_run_12 : decode cL_run 12 = .ok (.iconst 1, 1) := by decide +kernel
theorem dL_run_13 : decode cL_run 13 = .ok (.ireturn, 1) := by decide +kernel
theorem dL_run_14 : decode cL_run 14 = .ok (.iconst 0, 1) := by decide +kernel
theorem dL_run_15 : decode cL_run 15 = .ok (.ireturn, 1) := by decide +kernel
theorem dL_keep_0 : decode cL_keep 0 = .ok (.aload_n 2, 1) := by decide +kernel
theorem dL_keep_1 : decode cL_keep 1 = .ok (.iconst 0, 1) := by decide +kernel
theorem dL_keep_2 : decode cL_keep 2 = .ok (.aload_n 0, 1) := by decide +kernel
theorem dL_keep_3 : decode cL_keep 3 = .ok (.iload_n 1, 1) := by decide +kernel
theorem dL_keep_4 : decode cL_keep 4 = .ok (.invokevirtual 45, 3) := by decide +kernel
theorem dL_keep_7 : decode cL_keep 7 = .ok (.i2l, 1) := by decide +kernel
theorem dL_keep_8 : decode cL_keep 8 = .ok (.lastore, 1) := by decide +kernel
theorem dL_keep_9 : decode cL_keep 9 = .ok (.goto 6, 3) := by decide +kernel
theorem dL_keep_12 : decode cL_keep 12 = .ok (.astore_n 3, 1) := by decide +kernel
theorem dL_keep_13 : decode cL_keep 13 = .ok (.iconst 1, 1) := by decide +kernel
theorem dL_keep_14 : decode cL_keep 14 = .ok (.ireturn, 1) := by decide +kernel
theorem dL_keep_15 : decode cL_keep 15 = .ok (.iconst 0, 1) := by decide +kernel
theorem dL_keep_16 : decode cL_keep 16 = .ok (.ireturn, 1) := by decide +kernel
theorem dL_goBack_0 : decode cL_goBack 0 = .ok (.aload_n 2, 1) := by decide +kernel
theorem dL_goBack_1 : decode cL_goBack 1 = .ok (.iconst 0, 1) := by decide +kernel
theorem dL_goBack_2 : decode cL_goBack 2 = .ok (.aload_n 0, 1) := by decide +kernel
theorem dL_goBack_3 : decode cL_goBack 3 = .ok (.iload_n 1, 1) := by decide +kernel
theorem dL_goBack_4 : decode cL_goBack 4 = .ok (.invokevirtual 48, 3) := by decide +kernel
theorem dL_goBack_7 : decode cL_goBack 7 = .ok (.i2l, 1) := by decide +kernel
theorem dL_goBack_8 : decode cL_goBack 8 = .ok (.lastore, 1) := by decide +kernel
theorem dL_goBack_9 : decode cL_goBack 9 = .ok (.goto 9, 3) := by decide +kernel
theorem dL_goBack_12 : decode cL_goBack 12 = .ok (.astore_n 3, 1) := by decide +kernel
theorem dL_goBack_13 : decode cL_goBack 13 = .ok (.iconst 1, 1) := by decide +kernel
theorem dL_goBack_14 : decode cL_goBack 14 = .ok (.ireturn, 1) := by decide +kernel
theorem dL_goBack_15 : decode cL_goBack 15 = .ok (.astore_n 3, 1) := by decide +kernel
theorem dL_goBack_16 : decode cL_goBack 16 = .ok (.iconst 2, 1) := by decide +kernel
theorem dL_goBack_17 : decode cL_goBack 17 = .ok (.ireturn, 1) := by decide +kernel
theorem dL_goBack_18 : decode cL_goBack 18 = .ok (.iconst 0, 1) := by decide +kernel
theorem dL_goBack_19 : decode cL_goBack 19 = .ok (.ireturn, 1) := by decide +kernel
theorem dL_undo_0 : decode cL_undo 0 = .ok (.aload_n 1, 1) := by decide +kernel
theorem dL_undo_1 : decode cL_undo 1 = .ok (.iconst 0, 1) := by decide +kernel
theorem dL_undo_2 : decode cL_undo 2 = .ok (.aload_n 0, 1) := by decide +kernel
theorem dL_undo_3 : decode cL_undo 3 = .ok (.invokevirtual 51, 3) := by decide +kernel
theorem dL_undo_6 : decode cL_undo 6 = .ok (.i2l, 1) := by decide +kernel
theorem dL_undo_7 : decode cL_undo 7 = .ok (.lastore, 1) := by decide +kernel
theorem dL_undo_8 : decode cL_undo 8 = .ok (.goto 6, 3) := by decide +kernel
theorem dL_undo_11 : decode cL_undo 11 = .ok (.astore_n 2, 1) := by decide +kernel
theorem dL_undo_12 : decode cL_undo 12 = .ok (.iconst 1, 1) := by decide +kernel
theorem dL_undo_13 : decode cL_undo 13 = .ok (.ireturn, 1) := by decide +kernel
theorem dL_undo_14 : decode cL_undo 14 = .ok (.iconst 0, 1) := by decide +kernel
theorem dL_undo_15 : decode cL_undo 15 = .ok (.ireturn, 1) := by decide +kernel
theorem dL_tower_0 : decode cL_tower 0 = .ok (.aload_n 3, 1) := by decide +kernel
theorem dL_tower_1 : decode cL_tower 1 = .ok (.iconst 0, 1) := by decide +kernel
theorem dL_tower_2 : decode cL_tower 2 = .ok (.aload_n 0, 1) := by decide +kernel
theorem dL_tower_3 : decode cL_tower 3 = .ok (.iload_n 1, 1) := by decide +kernel
theorem dL_tower_4 : decode cL_tower 4 = .ok (.iload_n 2, 1) := by decide +kernel
theorem dL_tower_5 : decode cL_tower 5 = .ok (.invokevirtual 54, 3) := by decide +kernel
theorem dL_tower_8 : decode cL_tower 8 = .ok (.i2l, 1) := by decide +kernel
theorem dL_tower_9 : decode cL_tower 9 = .ok (.lastore, 1) := by decide +kernel
theorem dL_tower_10 : decode cL_tower 10 = .ok (.goto 11, 3) := by decide +kernel
theorem dL_tower_13 : decode cL_tower 13 = .ok (.astore 4, 2) := by decide +kernel
theorem dL_tower_15 : decode cL_tower 15 = .ok (.iconst 1, 1) := by decide +kernel
theorem dL_tower_16 : decode cL_tower 16 = .ok (.ireturn, 1) := by decide +kernel
theorem dL_tower_17 : decode cL_tower 17 = .ok (.astore 4, 2) := by decide +kernel
theorem dL_tower_19 : decode cL_tower 19 = .ok (.iconst 2, 1) := by decide +kernel
theorem dL_tower_20 : decode cL_tower 20 = .ok (.ireturn, 1) := by decide +kernel
theorem dL_tower_21 : decode cL_tower 21 = .ok (.iconst 0, 1) := by decide +kernel
theorem dL_tower_22 : decode cL_tower 22 = .ok (.ireturn, 1) := by decide +kernel
theorem dL_playerOf_0 : decode cL_playerOf 0 = .ok (.aload_n 3, 1) := by decide +kernel
theorem dL_playerOf_1 : decode cL_playerOf 1 = .ok (.iconst 0, 1) := by decide +kernel
theorem dL_playerOf_2 : decode cL_playerOf 2 = .ok (.aload_n 0, 1) := by decide +kernel
theorem dL_playerOf_3 : decode cL_playerOf 3 = .ok (.iload_n 1, 1) := by decide +kernel
theorem dL_playerOf_4 : decode cL_playerOf 4 = .ok (.iload_n 2, 1) := by decide +kernel
theorem dL_playerOf_5 : decode cL_playerOf 5 = .ok (.invokevirtual 57, 3) := by decide +kernel
theorem dL_playerOf_8 : decode cL_playerOf 8 = .ok (.i2l, 1) := by decide +kernel
theorem dL_playerOf_9 : decode cL_playerOf 9 = .ok (.lastore, 1) := by decide +kernel
theorem dL_playerOf_10 : decode cL_playerOf 10 = .ok (.goto 11, 3) := by decide +kernel
theorem dL_playerOf_13 : decode cL_playerOf 13 = .ok (.astore 4, 2) := by decide +kernel
theorem dL_playerOf_15 : decode cL_playerOf 15 = .ok (.iconst 1, 1) := by decide +kernel
theorem dL_playerOf_16 : decode cL_playerOf 16 = .ok (.ireturn, 1) := by decide +kernel
theorem dL_playerOf_17 : decode cL_playerOf 17 = .ok (.astore 4, 2) := by decide +kernel
theorem dL_playerOf_19 : decode cL_playerOf 19 = .ok (.iconst 2, 1) := by decide +kernel
theorem dL_playerOf_20 : decode cL_playerOf 20 = .ok (.ireturn, 1) := by decide +kernel
theorem dL_playerOf_21 : decode cL_playerOf 21 = .ok (.iconst 0, 1) := by decide +kernel
theorem dL_playerOf_22 : decode cL_playerOf 22 = .ok (.ireturn, 1) := by decide +kernel
theorem dL_count_0 : decode cL_count 0 = .ok (.aload_n 2, 1) := by decide +kernel
theorem dL_count_1 : decode cL_count 1 = .ok (.iconst 0, 1) := by decide +kernel
theorem dL_count_2 : decode cL_count 2 = .ok (.aload_n 0, 1) := by decide +kernel
theorem dL_count_3 : decode cL_count 3 = .ok (.iload_n 1, 1) := by decide +kernel
theorem dL_count_4 : decode cL_count 4 = .ok (.invokevirtual 60, 3) := by decide +kernel
theorem dL_count_7 : decode cL_count 7 = .ok (.i2l, 1) := by decide +kernel
theorem dL_count_8 : decode cL_count 8 = .ok (.lastore, 1) := by decide +kernel
theorem dL_count_9 : decode cL_count 9 = .ok (.goto 6, 3) := by decide +kernel
theorem dL_count_12 : decode cL_count 12 = .ok (.astore_n 3, 1) := by decide +kernel
theorem dL_count_13 : decode cL_count 13 = .ok (.iconst 1, 1) := by decide +kernel
theorem dL_count_14 : decode cL_count 14 = .ok (.ireturn, 1) := by decide +kernel
theorem dL_count_15 : decode cL_count 15 = .ok (.iconst 0, 1) := by decide +kernel
theorem dL_count_16 : decode cL_count 16 = .ok (.ireturn, 1) := by decide +kernel
theorem dL_setting_0 : decode cL_setting 0 = .ok (.aload_n 2, 1) := by decide +kernel
theorem dL_setting_1 : decode cL_setting 1 = .ok (.iconst 0, 1) := by decide +kernel
theorem dL_setting_2 : decode cL_setting 2 = .ok (.aload_n 0, 1) := by decide +kernel
theorem dL_setting_3 : decode cL_setting 3 = .ok (.iload_n 1, 1) := by decide +kernel
theorem dL_setting_4 : decode cL_setting 4 = .ok (.invokevirtual 63, 3) := by decide +kernel
theorem dL_setting_7 : decode cL_setting 7 = .ok (.i2l, 1) := by decide +kernel
theorem dL_setting_8 : decode cL_setting 8 = .ok (.lastore, 1) := by decide +kernel
theorem dL_setting_9 : decode cL_setting 9 = .ok (.goto 6, 3) := by decide +kernel
theorem dL_setting_12 : decode cL_setting 12 = .ok (.astore_n 3, 1) := by decide +kernel
theorem dL_setting_13 : decode cL_setting 13 = .ok (.iconst 1, 1) := by decide +kernel
theorem dL_setting_14 : decode cL_setting 14 = .ok (.ireturn, 1) := by decide +kernel
theorem dL_setting_15 : decode cL_setting 15 = .ok (.iconst 0, 1) := by decide +kernel
theorem dL_setting_16 : decode cL_setting 16 = .ok (.ireturn, 1) := by decide +kernel
theorem dL_price_0 : decode cL_price 0 = .ok (.aload 4, 2) := by decide +kernel
theorem dL_price_2 : decode cL_price 2 = .ok (.iconst 0, 1) := by decide +kernel
theorem dL_price_3 : decode cL_price 3 = .ok (.aload_n 0, 1) := by decide +kernel
theorem dL_price_4 : decode cL_price 4 = .ok (.iload_n 1, 1) := by decide +kernel
theorem dL_price_5 : decode cL_price 5 = .ok (.iload_n 2, 1) := by decide +kernel
theorem dL_price_6 : decode cL_price 6 = .ok (.iload_n 3, 1) := by decide +kernel
theorem dL_price_7 : decode cL_price 7 = .ok (.invokevirtual 66, 3) := by decide +kernel
theorem dL_price_10 : decode cL_price 10 = .ok (.i2l, 1) := by decide +kernel
theorem dL_price_11 : decode cL_price 11 = .ok (.lastore, 1) := by decide +kernel
theorem dL_price_12 : decode cL_price 12 = .ok (.goto 11, 3) := by decide +kernel
theorem dL_price_15 : decode cL_price 15 = .ok (.astore 5, 2) := by decide +kernel
theorem dL_price_17 : decode cL_price 17 = .ok (.iconst 1, 1) := by decide +kernel
theorem dL_price_18 : decode cL_price 18 = .ok (.ireturn, 1) := by decide +kernel
theorem dL_price_19 : decode cL_price 19 = .ok (.astore 5, 2) := by decide +kernel
theorem dL_price_21 : decode cL_price 21 = .ok (.iconst 2, 1) := by decide +kernel
theorem dL_price_22 : decode cL_price 22 = .ok (.ireturn, 1) := by decide +kernel
theorem dL_price_23 : decode cL_price 23 = .ok (.iconst 0, 1) := by decide +kernel
theorem dL_price_24 : decode cL_price 24 = .ok (.ireturn, 1) := by decide +kernel
theorem dL_whyNot_0 : decode cL_whyNot 0 = .ok (.aload_n 3, 1) := by decide +kernel
theorem dL_whyNot_1 : decode cL_whyNot 1 = .ok (.iconst 0, 1) := by decide +kernel
theorem dL_whyNot_2 : decode cL_whyNot 2 = .ok (.aload_n 0, 1) := by decide +kernel
theorem dL_whyNot_3 : decode cL_whyNot 3 = .ok (.iload_n 1, 1) := by decide +kernel
theorem dL_whyNot_4 : decode cL_whyNot 4 = .ok (.iload_n 2, 1) := by decide +kernel
theorem dL_whyNot_5 : decode cL_whyNot 5 = .ok (.invokevirtual 70, 3) := by decide +kernel
theorem dL_whyNot_8 : decode cL_whyNot 8 = .ok (.i2l, 1) := by decide +kernel
theorem dL_whyNot_9 : decode cL_whyNot 9 = .ok (.lastore, 1) := by decide +kernel
theorem dL_whyNot_10 : decode cL_whyNot 10 = .ok (.goto 7, 3) := by decide +kernel
theorem dL_whyNot_13 : decode cL_whyNot 13 = .ok (.astore 4, 2) := by decide +kernel
theorem dL_whyNot_15 : decode cL_whyNot 15 = .ok (.iconst 1, 1) := by decide +kernel
theorem dL_whyNot_16 : decode cL_whyNot 16 = .ok (.ireturn, 1) := by decide +kernel
theorem dL_whyNot_17 : decode cL_whyNot 17 = .ok (.iconst 0, 1) := by decide +kernel
theorem dL_whyNot_18 : decode cL_whyNot 18 = .ok (.ireturn, 1) := by decide +kernel
theorem dL_movesTo_0 : decode cL_movesTo 0 = .ok (.aload_n 3, 1) := by decide +kernel
theorem dL_movesTo_1 : decode cL_movesTo 1 = .ok (.iconst 0, 1) := by decide +kernel
theorem dL_movesTo_2 : decode cL_movesTo 2 = .ok (.aload_n 0, 1) := by decide +kernel
theorem dL_movesTo_3 : decode cL_movesTo 3 = .ok (.iload_n 1, 1) := by decide +kernel
theorem dL_movesTo_4 : decode cL_movesTo 4 = .ok (.iload_n 2, 1) := by decide +kernel
theorem dL_movesTo_5 : decode cL_movesTo 5 = .ok (.invokevirtual 73, 3) := by decide +kernel
theorem dL_movesTo_8 : decode cL_movesTo 8 = .ok (.i2l, 1) := by decide +kernel
theorem dL_movesTo_9 : decode cL_movesTo 9 = .ok (.lastore, 1) := by decide +kernel
theorem dL_movesTo_10 : decode cL_movesTo 10 = .ok (.goto 7, 3) := by decide +kernel
theorem dL_movesTo_13 : decode cL_movesTo 13 = .ok (.astore 4, 2) := by decide +kernel
theorem dL_movesTo_15 : decode cL_movesTo 15 = .ok (.iconst 1, 1) := by decide +kernel
theorem dL_movesTo_16 : decode cL_movesTo 16 = .ok (.ireturn, 1) := by decide +kernel
theorem dL_movesTo_17 : decode cL_movesTo 17 = .ok (.iconst 0, 1) := by decide +kernel
theorem dL_movesTo_18 : decode cL_movesTo 18 = .ok (.ireturn, 1) := by decide +kernel
theorem dL_law_0 : decode cL_law 0 = .ok (.new 8, 3) := by decide +kernel
theorem dL_law_3 : decode cL_law 3 = .ok (.dup, 1) := by decide +kernel
theorem dL_law_4 : decode cL_law 4 = .ok (.invokespecial 76, 3) := by decide +kernel
theorem dL_law_7 : decode cL_law 7 = .ok (.astore_n 1, 1) := by decide +kernel
theorem dL_law_8 : decode cL_law 8 = .ok (.new 77, 3) := by decide +kernel
theorem dL_law_11 : decode cL_law 11 = .ok (.dup, 1) := by decide +kernel
theorem dL_law_12 : decode cL_law 12 = .ok (.invokespecial 79, 3) := by decide +kernel
theorem dL_law_15 : decode cL_law 15 = .ok (.astore_n 2, 1) := by decide +kernel
theorem dL_law_16 : decode cL_law 16 = .ok (.iconst 1, 1) := by decide +kernel
theorem dL_law_17 : decode cL_law 17 = .ok (.newarray .long, 2) := by decide +kernel
theorem dL_law_19 : decode cL_law 19 = .ok (.astore_n 3, 1) := by decide +kernel
theorem dL_law_20 : decode cL_law 20 = .ok (.iconst 0, 1) := by decide +kernel
theorem dL_law_21 : decode cL_law 21 = .ok (.istore 4, 2) := by decide +kernel
theorem dL_law_23 : decode cL_law 23 = .ok (.iload 4, 2) := by decide +kernel
theorem dL_law_25 : decode cL_law 25 = .ok (.aload_n 0, 1) := by decide +kernel
theorem dL_law_26 : decode cL_law 26 = .ok (.arraylength, 1) := by decide +kernel
theorem dL_law_27 : decode cL_law 27 = .ok (.iconst 4, 1) := by decide +kernel
theorem dL_law_28 : decode cL_law 28 = .ok (.isub, 1) := by decide +kernel
theorem dL_law_29 : decode cL_law 29 = .ok (.if_icmp .gt 1360, 3) := by decide +kernel
theorem dL_law_32 : decode cL_law 32 = .ok (.aload_n 0, 1) := by decide +kernel
theorem dL_law_33 : decode cL_law 33 = .ok (.iload 4, 2) := by decide +kernel
theorem dL_law_35 : decode cL_law 35 = .ok (.iaload, 1) := by decide +kernel
theorem dL_law_36 : decode cL_law 36 = .ok (.bipush 31, 2) := by decide +kernel
theorem dL_law_38 : decode cL_law 38 = .ok (.iand, 1) := by decide +kernel
theorem dL_law_39 : decode cL_law 39 = .ok (.tableswitch 1344 0 24 #[113, 181, 249, 317, 361, 417, 461, 517, 573, 586, 599, 643, 699, 755, 799, 867, 935, 991, 1047, 1127, 1195, 1263, 1276, 1289, 1330], 113) := by decide +kernel
theorem dL_law_152 : decode cL_law 152 = .ok (.aload_n 1, 1) := by decide +kernel
theorem dL_law_153 : decode cL_law 153 = .ok (.aload_n 0, 1) := by decide +kernel
theorem dL_law_154 : decode cL_law 154 = .ok (.iload 4, 2) := by decide +kernel
theorem dL_law_156 : decode cL_law 156 = .ok (.iconst 1, 1) := by decide +kernel
theorem dL_law_157 : decode cL_law 157 = .ok (.iadd, 1) := by decide +kernel
theorem dL_law_158 : decode cL_law 158 = .ok (.iaload, 1) := by decide +kernel
theorem dL_law_159 : decode cL_law 159 = .ok (.aload_n 0, 1) := by decide +kernel
theorem dL_law_160 : decode cL_law 160 = .ok (.iload 4, 2) := by decide +kernel
theorem dL_law_162 : decode cL_law 162 = .ok (.iconst 2, 1) := by decide +kernel
theorem dL_law_163 : decode cL_law 163 = .ok (.iadd, 1) := by decide +kernel
theorem dL_law_164 : decode cL_law 164 = .ok (.iaload, 1) := by decide +kernel
theorem dL_law_165 : decode cL_law 165 = .ok (.aload_n 3, 1) := by decide +kernel
theorem dL_law_166 : decode cL_law 166 = .ok (.invokestatic 80, 3) := by decide +kernel
theorem dL_law_169 : decode cL_law 169 = .ok (.istore 5, 2) := by decide +kernel
theorem dL_law_171 : decode cL_law 171 = .ok (.aload_n 2, 1) := by decide +kernel
theorem dL_law_172 : decode cL_law 172 = .ok (.aload_n 0, 1) := by decide +kernel
theorem dL_law_173 : decode cL_law 173 = .ok (.iload 4, 2) := by decide +kernel
theorem dL_law_175 : decode cL_law 175 = .ok (.iconst 1, 1) := by decide +kernel
theorem dL_law_176 : decode cL_law 176 = .ok (.iadd, 1) := by decide +kernel
theorem dL_law_177 : decode cL_law 177 = .ok (.iaload, 1) := by decide +kernel
theorem dL_law_178 : decode cL_law 178 = .ok (.aload_n 0, 1) := by decide +kernel
theorem dL_law_179 : decode cL_law 179 = .ok (.iload 4, 2) := by decide +kernel
theorem dL_law_181 : decode cL_law 181 = .ok (.iconst 2, 1) := by decide +kernel
theorem dL_law_182 : decode cL_law 182 = .ok (.iadd, 1) := by decide +kernel
theorem dL_law_183 : decode cL_law 183 = .ok (.iaload, 1) := by decide +kernel
theorem dL_law_184 : decode cL_law 184 = .ok (.invokevirtual 85, 3) := by decide +kernel
theorem dL_law_187 : decode cL_law 187 = .ok (.istore 6, 2) := by decide +kernel
theorem dL_law_189 : decode cL_law 189 = .ok (.aload_n 2, 1) := by decide +kernel
theorem dL_law_190 : decode cL_law 190 = .ok (.invokevirtual 86, 3) := by decide +kernel
theorem dL_law_193 : decode cL_law 193 = .ok (.iload 5, 2) := by decide +kernel
theorem dL_law_195 : decode cL_law 195 = .ok (.if_icmp .eq 5, 3) := by decide +kernel
theorem dL_law_198 : decode cL_law 198 = .ok (.iconst 0, 1) := by decide +kernel
theorem dL_law_199 : decode cL_law 199 = .ok (.ireturn, 1) := by decide +kernel
theorem dL_law_200 : decode cL_law 200 = .ok (.iload 5, 2) := by decide +kernel
theorem dL_law_202 : decode cL_law 202 = .ok (.ifCond .ne 15, 3) := by decide +kernel
theorem dL_law_205 : decode cL_law 205 = .ok (.aload_n 3, 1) := by decide +kernel
theorem dL_law_206 : decode cL_law 206 = .ok (.iconst 0, 1) := by decide +kernel
theorem dL_law_207 : decode cL_law 207 = .ok (.laload, 1) := by decide +kernel
theorem dL_law_208 : decode cL_law 208 = .ok (.iload 6, 2) := by decide +kernel
theorem dL_law_210 : decode cL_law 210 = .ok (.i2l, 1) := by decide +kernel
theorem dL_law_211 : decode cL_law 211 = .ok (.lcmp, 1) := by decide +kernel
theorem dL_law_212 : decode cL_law 212 = .ok (.ifCond .eq 5, 3) := by decide +kernel
theorem dL_law_215 : decode cL_law 215 = .ok (.iconst 0, 1) := by decide +kernel
theorem dL_law_216 : decode cL_law 216 = .ok (.ireturn, 1) := by decide +kernel
theorem dL_law_217 : decode cL_law 217 = .ok (.goto 1166, 3) := by decide +kernel
theorem dL_law_220 : decode cL_law 220 = .ok (.aload_n 1, 1) := by decide +kernel
theorem dL_law_221 : decode cL_law 221 = .ok (.aload_n 0, 1) := by decide +kernel
theorem dL_law_222 : decode cL_law 222 = .ok (.iload 4, 2) := by decide +kernel
theorem dL_law_224 : decode cL_law 224 = .ok (.iconst 1, 1) := by decide +kernel
theorem dL_law_225 : decode cL_law 225 = .ok (.iadd, 1) := by decide +kernel
theorem dL_law_226 : decode cL_law 226 = .ok (.iaload, 1) := by decide +kernel
theorem dL_law_227 : decode cL_law 227 = .ok (.aload_n 0, 1) := by decide +kernel
theorem dL_law_228 : decode cL_law 228 = .ok (.iload 4, 2) := by decide +kernel
theorem dL_law_230 : decode cL_law 230 = .ok (.iconst 2, 1) := by decide +kernel
theorem dL_law_231 : decode cL_law 231 = .ok (.iadd, 1) := by decide +kernel
theorem dL_law_232 : decode cL_law 232 = .ok (.iaload, 1) := by decide +kernel
theorem dL_law_233 : decode cL_law 233 = .ok (.aload_n 3, 1) := by decide +kernel
theorem dL_law_234 : decode cL_law 234 = .ok (.invokestatic 89, 3) := by decide +kernel
theorem dL_law_237 : decode cL_law 237 = .ok (.istore 5, 2) := by decide +kernel
theorem dL_law_239 : decode cL_law 239 = .ok (.aload_n 2, 1) := by decide +kernel
theorem dL_law_240 : decode cL_law 240 = .ok (.aload_n 0, 1) := by decide +kernel
theorem dL_law_241 : decode cL_law 241 = .ok (.iload 4, 2) := by decide +kernel
theorem dL_law_243 : decode cL_law 243 = .ok (.iconst 1, 1) := by decide +kernel
theorem dL_law_244 : decode cL_law 244 = .ok (.iadd, 1) := by decide +kernel
theorem dL_law_245 : decode cL_law 245 = .ok (.iaload, 1) := by decide +kernel
theorem dL_law_246 : decode cL_law 246 = .ok (.aload_n 0, 1) := by decide +kernel
theorem dL_law_247 : decode cL_law 247 = .ok (.iload 4, 2) := by decide +kernel
theorem dL_law_249 : decode cL_law 249 = .ok (.iconst 2, 1) := by decide +kernel
theorem dL_law_250 : decode cL_law 250 = .ok (.iadd, 1) := by decide +kernel
theorem dL_law_251 : decode cL_law 251 = .ok (.iaload, 1) := by decide +kernel
theorem dL_law_252 : decode cL_law 252 = .ok (.invokevirtual 91, 3) := by decide +kernel
theorem dL_law_255 : decode cL_law 255 = .ok (.istore 6, 2) := by decide +kernel
theorem dL_law_257 : decode cL_law 257 = .ok (.aload_n 2, 1) := by decide +kernel
theorem dL_law_258 : decode cL_law 258 = .ok (.invokevirtual 86, 3) := by decide +kernel
theorem dL_law_261 : decode cL_law 261 = .ok (.iload 5, 2) := by decide +kernel
theorem dL_law_263 : decode cL_law 263 = .ok (.if_icmp .eq 5, 3) := by decide +kernel
theorem dL_law_266 : decode cL_law 266 = .ok (.iconst 0, 1) := by decide +kernel
theorem dL_law_267 : decode cL_law 267 = .ok (.ireturn, 1) := by decide +kernel
theorem dL_law_268 : decode cL_law 268 = .ok (.iload 5, 2) := by decide +kernel
theorem dL_law_270 : decode cL_law 270 = .ok (.ifCond .ne 15, 3) := by decide +kernel
theorem dL_law_273 : decode cL_law 273 = .ok (.aload_n 3, 1) := by decide +kernel
theorem dL_law_274 : decode cL_law 274 = .ok (.iconst 0, 1) := by decide +kernel
theorem dL_law_275 : decode cL_law 275 = .ok (.laload, 1) := by decide +kernel
theorem dL_law_276 : decode cL_law 276 = .ok (.iload 6, 2) := by decide +kernel
theorem dL_law_278 : decode cL_law 278 = .ok (.i2l, 1) := by decide +kernel
theorem dL_law_279 : decode cL_law 279 = .ok (.lcmp, 1) := by decide +kernel
theorem dL_law_280 : decode cL_law 280 = .ok (.ifCond .eq 5, 3) := by decide +kernel
theorem dL_law_283 : decode cL_law 283 = .ok (.iconst 0, 1) := by decide +kernel
theorem dL_law_284 : decode cL_law 284 = .ok (.ireturn, 1) := by decide +kernel
theorem dL_law_285 : decode cL_law 285 = .ok (.goto 1098, 3) := by decide +kernel
theorem dL_law_288 : decode cL_law 288 = .ok (.aload_n 1, 1) := by decide +kernel
theorem dL_law_289 : decode cL_law 289 = .ok (.aload_n 0, 1) := by decide +kernel
theorem dL_law_290 : decode cL_law 290 = .ok (.iload 4, 2) := by decide +kernel
theorem dL_law_292 : decode cL_law 292 = .ok (.iconst 1, 1) := by decide +kernel
theorem dL_law_293 : decode cL_law 293 = .ok (.iadd, 1) := by decide +kernel
theorem dL_law_294 : decode cL_law 294 = .ok (.iaload, 1) := by decide +kernel
theorem dL_law_295 : decode cL_law 295 = .ok (.aload_n 0, 1) := by decide +kernel
theorem dL_law_296 : decode cL_law 296 = .ok (.iload 4, 2) := by decide +kernel
theorem dL_law_298 : decode cL_law 298 = .ok (.iconst 2, 1) := by decide +kernel
theorem dL_law_299 : decode cL_law 299 = .ok (.iadd, 1) := by decide +kernel
theorem dL_law_300 : decode cL_law 300 = .ok (.iaload, 1) := by decide +kernel
theorem dL_law_301 : decode cL_law 301 = .ok (.aload_n 3, 1) := by decide +kernel
theorem dL_law_302 : decode cL_law 302 = .ok (.invokestatic 92, 3) := by decide +kernel
theorem dL_law_305 : decode cL_law 305 = .ok (.istore 5, 2) := by decide +kernel
theorem dL_law_307 : decode cL_law 307 = .ok (.aload_n 2, 1) := by decide +kernel
theorem dL_law_308 : decode cL_law 308 = .ok (.aload_n 0, 1) := by decide +kernel
theorem dL_law_309 : decode cL_law 309 = .ok (.iload 4, 2) := by decide +kernel
theorem dL_law_311 : decode cL_law 311 = .ok (.iconst 1, 1) := by decide +kernel
theorem dL_law_312 : decode cL_law 312 = .ok (.iadd, 1) := by decide +kernel
theorem dL_law_313 : decode cL_law 313 = .ok (.iaload, 1) := by decide +kernel
theorem dL_law_314 : decode cL_law 314 = .ok (.aload_n 0, 1) := by decide +kernel
theorem dL_law_315 : decode cL_law 315 = .ok (.iload 4, 2) := by decide +kernel
theorem dL_law_317 : decode cL_law 317 = .ok (.iconst 2, 1) := by decide +kernel
theorem dL_law_318 : decode cL_law 318 = .ok (.iadd, 1) := by decide +kernel
theorem dL_law_319 : decode cL_law 319 = .ok (.iaload, 1) := by decide +kernel
theorem dL_law_320 : decode cL_law 320 = .ok (.invokevirtual 94, 3) := by decide +kernel
theorem dL_law_323 : decode cL_law 323 = .ok (.istore 6, 2) := by decide +kernel
theorem dL_law_325 : decode cL_law 325 = .ok (.aload_n 2, 1) := by decide +kernel
theorem dL_law_326 : decode cL_law 326 = .ok (.invokevirtual 86, 3) := by decide +kernel
theorem dL_law_329 : decode cL_law 329 = .ok (.iload 5, 2) := by decide +kernel
theorem dL_law_331 : decode cL_law 331 = .ok (.if_icmp .eq 5, 3) := by decide +kernel
theorem dL_law_334 : decode cL_law 334 = .ok (.iconst 0, 1) := by decide +kernel
theorem dL_law_335 : decode cL_law 335 = .ok (.ireturn, 1) := by decide +kernel
theorem dL_law_336 : decode cL_law 336 = .ok (.iload 5, 2) := by decide +kernel
theorem dL_law_338 : decode cL_law 338 = .ok (.ifCond .ne 15, 3) := by decide +kernel
theorem dL_law_341 : decode cL_law 341 = .ok (.aload_n 3, 1) := by decide +kernel
theorem dL_law_342 : decode cL_law 342 = .ok (.iconst 0, 1) := by decide +kernel
theorem dL_law_343 : decode cL_law 343 = .ok (.laload, 1) := by decide +kernel
theorem dL_law_344 : decode cL_law 344 = .ok (.iload 6, 2) := by decide +kernel
theorem dL_law_346 : decode cL_law 346 = .ok (.i2l, 1) := by decide +kernel
theorem dL_law_347 : decode cL_law 347 = .ok (.lcmp, 1) := by decide +kernel
theorem dL_law_348 : decode cL_law 348 = .ok (.ifCond .eq 5, 3) := by decide +kernel
theorem dL_law_351 : decode cL_law 351 = .ok (.iconst 0, 1) := by decide +kernel
theorem dL_law_352 : decode cL_law 352 = .ok (.ireturn, 1) := by decide +kernel
theorem dL_law_353 : decode cL_law 353 = .ok (.goto 1030, 3) := by decide +kernel
theorem dL_law_356 : decode cL_law 356 = .ok (.aload_n 1, 1) := by decide +kernel
theorem dL_law_357 : decode cL_law 357 = .ok (.aload_n 3, 1) := by decide +kernel
theorem dL_law_358 : decode cL_law 358 = .ok (.invokestatic 95, 3) := by decide +kernel
theorem dL_law_361 : decode cL_law 361 = .ok (.istore 5, 2) := by decide +kernel
theorem dL_law_363 : decode cL_law 363 = .ok (.aload_n 2, 1) := by decide +kernel
theorem dL_law_364 : decode cL_law 364 = .ok (.invokevirtual 98, 3) := by decide +kernel
theorem dL_law_367 : decode cL_law 367 = .ok (.istore 6, 2) := by decide +kernel
theorem dL_law_369 : decode cL_law 369 = .ok (.aload_n 2, 1) := by decide +kernel
theorem dL_law_370 : decode cL_law 370 = .ok (.invokevirtual 86, 3) := by decide +kernel
theorem dL_law_373 : decode cL_law 373 = .ok (.iload 5, 2) := by decide +kernel
theorem dL_law_375 : decode cL_law 375 = .ok (.if_icmp .eq 5, 3) := by decide +kernel
theorem dL_law_378 : decode cL_law 378 = .ok (.iconst 0, 1) := by decide +kernel
theorem dL_law_379 : decode cL_law 379 = .ok (.ireturn, 1) := by decide +kernel
theorem dL_law_380 : decode cL_law 380 = .ok (.iload 5, 2) := by decide +kernel
theorem dL_law_382 : decode cL_law 382 = .ok (.ifCond .ne 15, 3) := by decide +kernel
theorem dL_law_385 : decode cL_law 385 = .ok (.aload_n 3, 1) := by decide +kernel
theorem dL_law_386 : decode cL_law 386 = .ok (.iconst 0, 1) := by decide +kernel
theorem dL_law_387 : decode cL_law 387 = .ok (.laload, 1) := by decide +kernel
theorem dL_law_388 : decode cL_law 388 = .ok (.iload 6, 2) := by decide +kernel
theorem dL_law_390 : decode cL_law 390 = .ok (.i2l, 1) := by decide +kernel
theorem dL_law_391 : decode cL_law 391 = .ok (.lcmp, 1) := by decide +kernel
theorem dL_law_392 : decode cL_law 392 = .ok (.ifCond .eq 5, 3) := by decide +kernel
theorem dL_law_395 : decode cL_law 395 = .ok (.iconst 0, 1) := by decide +kernel
theorem dL_law_396 : decode cL_law 396 = .ok (.ireturn, 1) := by decide +kernel
theorem dL_law_397 : decode cL_law 397 = .ok (.goto 986, 3) := by decide +kernel
theorem dL_law_400 : decode cL_law 400 = .ok (.aload_n 1, 1) := by decide +kernel
theorem dL_law_401 : decode cL_law 401 = .ok (.aload_n 0, 1) := by decide +kernel
theorem dL_law_402 : decode cL_law 402 = .ok (.iload 4, 2) := by decide +kernel
theorem dL_law_404 : decode cL_law 404 = .ok (.iconst 1, 1) := by decide +kernel
theorem dL_law_405 : decode cL_law 405 = .ok (.iadd, 1) := by decide +kernel
theorem dL_law_406 : decode cL_law 406 = .ok (.iaload, 1) := by decide +kernel
theorem dL_law_407 : decode cL_law 407 = .ok (.aload_n 3, 1) := by decide +kernel
theorem dL_law_408 : decode cL_law 408 = .ok (.invokestatic 99, 3) := by decide +kernel
theorem dL_law_411 : decode cL_law 411 = .ok (.istore 5, 2) := by decide +kernel
theorem dL_law_413 : decode cL_law 413 = .ok (.aload_n 2, 1) := by decide +kernel
theorem dL_law_414 : decode cL_law 414 = .ok (.aload_n 0, 1) := by decide +kernel
theorem dL_law_415 : decode cL_law 415 = .ok (.iload 4, 2) := by decide +kernel
theorem dL_law_417 : decode cL_law 417 = .ok (.iconst 1, 1) := by decide +kernel
theorem dL_law_418 : decode cL_law 418 = .ok (.iadd, 1) := by decide +kernel
theorem dL_law_419 : decode cL_law 419 = .ok (.iaload, 1) := by decide +kernel
theorem dL_law_420 : decode cL_law 420 = .ok (.invokevirtual 102, 3) := by decide +kernel
theorem dL_law_423 : decode cL_law 423 = .ok (.istore 6, 2) := by decide +kernel
theorem dL_law_425 : decode cL_law 425 = .ok (.aload_n 2, 1) := by decide +kernel
theorem dL_law_426 : decode cL_law 426 = .ok (.invokevirtual 86, 3) := by decide +kernel
theorem dL_law_429 : decode cL_law 429 = .ok (.iload 5, 2) := by decide +kernel
theorem dL_law_431 : decode cL_law 431 = .ok (.if_icmp .eq 5, 3) := by decide +kernel
theorem dL_law_434 : decode cL_law 434 = .ok (.iconst 0, 1) := by decide +kernel
theorem dL_law_435 : decode cL_law 435 = .ok (.ireturn, 1) := by decide +kernel
theorem dL_law_436 : decode cL_law 436 = .ok (.iload 5, 2) := by decide +kernel
theorem dL_law_438 : decode cL_law 438 = .ok (.ifCond .ne 15, 3) := by decide +kernel
theorem dL_law_441 : decode cL_law 441 = .ok (.aload_n 3, 1) := by decide +kernel
theorem dL_law_442 : decode cL_law 442 = .ok (.iconst 0, 1) := by decide +kernel
theorem dL_law_443 : decode cL_law 443 = .ok (.laload, 1) := by decide +kernel
theorem dL_law_444 : decode cL_law 444 = .ok (.iload 6, 2) := by decide +kernel
theorem dL_law_446 : decode cL_law 446 = .ok (.i2l, 1) := by decide +kernel
theorem dL_law_447 : decode cL_law 447 = .ok (.lcmp, 1) := by decide +kernel
theorem dL_law_448 : decode cL_law 448 = .ok (.ifCond .eq 5, 3) := by decide +kernel
theorem dL_law_451 : decode cL_law 451 = .ok (.iconst 0, 1) := by decide +kernel
theorem dL_law_452 : decode cL_law 452 = .ok (.ireturn, 1) := by decide +kernel
theorem dL_law_453 : decode cL_law 453 = .ok (.goto 930, 3) := by decide +kernel
theorem dL_law_456 : decode cL_law 456 = .ok (.aload_n 1, 1) := by decide +kernel
theorem dL_law_457 : decode cL_law 457 = .ok (.aload_n 3, 1) := by decide +kernel
theorem dL_law_458 : decode cL_law 458 = .ok (.invokestatic 103, 3) := by decide +kernel
theorem dL_law_461 : decode cL_law 461 = .ok (.istore 5, 2) := by decide +kernel
theorem dL_law_463 : decode cL_law 463 = .ok (.aload_n 2, 1) := by decide +kernel
theorem dL_law_464 : decode cL_law 464 = .ok (.invokevirtual 105, 3) := by decide +kernel
theorem dL_law_467 : decode cL_law 467 = .ok (.istore 6, 2) := by decide +kernel
theorem dL_law_469 : decode cL_law 469 = .ok (.aload_n 2, 1) := by decide +kernel
theorem dL_law_470 : decode cL_law 470 = .ok (.invokevirtual 86, 3) := by decide +kernel
theorem dL_law_473 : decode cL_law 473 = .ok (.iload 5, 2) := by decide +kernel
theorem dL_law_475 : decode cL_law 475 = .ok (.if_icmp .eq 5, 3) := by decide +kernel
theorem dL_law_478 : decode cL_law 478 = .ok (.iconst 0, 1) := by decide +kernel
theorem dL_law_479 : decode cL_law 479 = .ok (.ireturn, 1) := by decide +kernel
theorem dL_law_480 : decode cL_law 480 = .ok (.iload 5, 2) := by decide +kernel
theorem dL_law_482 : decode cL_law 482 = .ok (.ifCond .ne 15, 3) := by decide +kernel
theorem dL_law_485 : decode cL_law 485 = .ok (.aload_n 3, 1) := by decide +kernel
theorem dL_law_486 : decode cL_law 486 = .ok (.iconst 0, 1) := by decide +kernel
theorem dL_law_487 : decode cL_law 487 = .ok (.laload, 1) := by decide +kernel
theorem dL_law_488 : decode cL_law 488 = .ok (.iload 6, 2) := by decide +kernel
theorem dL_law_490 : decode cL_law 490 = .ok (.i2l, 1) := by decide +kernel
theorem dL_law_491 : decode cL_law 491 = .ok (.lcmp, 1) := by decide +kernel
theorem dL_law_492 : decode cL_law 492 = .ok (.ifCond .eq 5, 3) := by decide +kernel
theorem dL_law_495 : decode cL_law 495 = .ok (.iconst 0, 1) := by decide +kernel
theorem dL_law_496 : decode cL_law 496 = .ok (.ireturn, 1) := by decide +kernel
theorem dL_law_497 : decode cL_law 497 = .ok (.goto 886, 3) := by decide +kernel
theorem dL_law_500 : decode cL_law 500 = .ok (.aload_n 1, 1) := by decide +kernel
theorem dL_law_501 : decode cL_law 501 = .ok (.aload_n 0, 1) := by decide +kernel
theorem dL_law_502 : decode cL_law 502 = .ok (.iload 4, 2) := by decide +kernel
theorem dL_law_504 : decode cL_law 504 = .ok (.iconst 1, 1) := by decide +kernel
theorem dL_law_505 : decode cL_law 505 = .ok (.iadd, 1) := by decide +kernel
theorem dL_law_506 : decode cL_law 506 = .ok (.iaload, 1) := by decide +kernel
theorem dL_law_507 : decode cL_law 507 = .ok (.aload_n 3, 1) := by decide +kernel
theorem dL_law_508 : decode cL_law 508 = .ok (.invokestatic 106, 3) := by decide +kernel
theorem dL_law_511 : decode cL_law 511 = .ok (.istore 5, 2) := by decide +kernel
theorem dL_law_513 : decode cL_law 513 = .ok (.aload_n 2, 1) := by decide +kernel
theorem dL_law_514 : decode cL_law 514 = .ok (.aload_n 0, 1) := by decide +kernel
theorem dL_law_515 : decode cL_law 515 = .ok (.iload 4, 2) := by decide +kernel
theorem dL_law_517 : decode cL_law 517 = .ok (.iconst 1, 1) := by decide +kernel
theorem dL_law_518 : decode cL_law 518 = .ok (.iadd, 1) := by decide +kernel
theorem dL_law_519 : decode cL_law 519 = .ok (.iaload, 1) := by decide +kernel
theorem dL_law_520 : decode cL_law 520 = .ok (.invokevirtual 108, 3) := by decide +kernel
theorem dL_law_523 : decode cL_law 523 = .ok (.istore 6, 2) := by decide +kernel
theorem dL_law_525 : decode cL_law 525 = .ok (.aload_n 2, 1) := by decide +kernel
theorem dL_law_526 : decode cL_law 526 = .ok (.invokevirtual 86, 3) := by decide +kernel
theorem dL_law_529 : decode cL_law 529 = .ok (.iload 5, 2) := by decide +kernel
theorem dL_law_531 : decode cL_law 531 = .ok (.if_icmp .eq 5, 3) := by decide +kernel
theorem dL_law_534 : decode cL_law 534 = .ok (.iconst 0, 1) := by decide +kernel
theorem dL_law_535 : decode cL_law 535 = .ok (.ireturn, 1) := by decide +kernel
theorem dL_law_536 : decode cL_law 536 = .ok (.iload 5, 2) := by decide +kernel
theorem dL_law_538 : decode cL_law 538 = .ok (.ifCond .ne 15, 3) := by decide +kernel
theorem dL_law_541 : decode cL_law 541 = .ok (.aload_n 3, 1) := by decide +kernel
theorem dL_law_542 : decode cL_law 542 = .ok (.iconst 0, 1) := by decide +kernel
theorem dL_law_543 : decode cL_law 543 = .ok (.laload, 1) := by decide +kernel
theorem dL_law_544 : decode cL_law 544 = .ok (.iload 6, 2) := by decide +kernel
theorem dL_law_546 : decode cL_law 546 = .ok (.i2l, 1) := by decide +kernel
theorem dL_law_547 : decode cL_law 547 = .ok (.lcmp, 1) := by decide +kernel
theorem dL_law_548 : decode cL_law 548 = .ok (.ifCond .eq 5, 3) := by decide +kernel
theorem dL_law_551 : decode cL_law 551 = .ok (.iconst 0, 1) := by decide +kernel
theorem dL_law_552 : decode cL_law 552 = .ok (.ireturn, 1) := by decide +kernel
theorem dL_law_553 : decode cL_law 553 = .ok (.goto 830, 3) := by decide +kernel
theorem dL_law_556 : decode cL_law 556 = .ok (.aload_n 1, 1) := by decide +kernel
theorem dL_law_557 : decode cL_law 557 = .ok (.aload_n 0, 1) := by decide +kernel
theorem dL_law_558 : decode cL_law 558 = .ok (.iload 4, 2) := by decide +kernel
theorem dL_law_560 : decode cL_law 560 = .ok (.iconst 1, 1) := by decide +kernel
theorem dL_law_561 : decode cL_law 561 = .ok (.iadd, 1) := by decide +kernel
theorem dL_law_562 : decode cL_law 562 = .ok (.iaload, 1) := by decide +kernel
theorem dL_law_563 : decode cL_law 563 = .ok (.aload_n 3, 1) := by decide +kernel
theorem dL_law_564 : decode cL_law 564 = .ok (.invokestatic 109, 3) := by decide +kernel
theorem dL_law_567 : decode cL_law 567 = .ok (.istore 5, 2) := by decide +kernel
theorem dL_law_569 : decode cL_law 569 = .ok (.aload_n 2, 1) := by decide +kernel
theorem dL_law_570 : decode cL_law 570 = .ok (.aload_n 0, 1) := by decide +kernel
theorem dL_law_571 : decode cL_law 571 = .ok (.iload 4, 2) := by decide +kernel
theorem dL_law_573 : decode cL_law 573 = .ok (.iconst 1, 1) := by decide +kernel
theorem dL_law_574 : decode cL_law 574 = .ok (.iadd, 1) := by decide +kernel
theorem dL_law_575 : decode cL_law 575 = .ok (.iaload, 1) := by decide +kernel
theorem dL_law_576 : decode cL_law 576 = .ok (.invokevirtual 111, 3) := by decide +kernel
theorem dL_law_579 : decode cL_law 579 = .ok (.istore 6, 2) := by decide +kernel
theorem dL_law_581 : decode cL_law 581 = .ok (.aload_n 2, 1) := by decide +kernel
theorem dL_law_582 : decode cL_law 582 = .ok (.invokevirtual 86, 3) := by decide +kernel
theorem dL_law_585 : decode cL_law 585 = .ok (.iload 5, 2) := by decide +kernel
theorem dL_law_587 : decode cL_law 587 = .ok (.if_icmp .eq 5, 3) := by decide +kernel
theorem dL_law_590 : decode cL_law 590 = .ok (.iconst 0, 1) := by decide +kernel
theorem dL_law_591 : decode cL_law 591 = .ok (.ireturn, 1) := by decide +kernel
theorem dL_law_592 : decode cL_law 592 = .ok (.iload 5, 2) := by decide +kernel
theorem dL_law_594 : decode cL_law 594 = .ok (.ifCond .ne 15, 3) := by decide +kernel
theorem dL_law_597 : decode cL_law 597 = .ok (.aload_n 3, 1) := by decide +kernel
theorem dL_law_598 : decode cL_law 598 = .ok (.iconst 0, 1) := by decide +kernel
theorem dL_law_599 : decode cL_law 599 = .ok (.laload, 1) := by decide +kernel
theorem dL_law_600 : decode cL_law 600 = .ok (.iload 6, 2) := by decide +kernel
theorem dL_law_602 : decode cL_law 602 = .ok (.i2l, 1) := by decide +kernel
theorem dL_law_603 : decode cL_law 603 = .ok (.lcmp, 1) := by decide +kernel
theorem dL_law_604 : decode cL_law 604 = .ok (.ifCond .eq 5, 3) := by decide +kernel
theorem dL_law_607 : decode cL_law 607 = .ok (.iconst 0, 1) := by decide +kernel
theorem dL_law_608 : decode cL_law 608 = .ok (.ireturn, 1) := by decide +kernel
theorem dL_law_609 : decode cL_law 609 = .ok (.goto 774, 3) := by decide +kernel
theorem dL_law_612 : decode cL_law 612 = .ok (.aload_n 1, 1) := by decide +kernel
theorem dL_law_613 : decode cL_law 613 = .ok (.invokevirtual 112, 3) := by decide +kernel
theorem dL_law_616 : decode cL_law 616 = .ok (.aload_n 2, 1) := by decide +kernel
theorem dL_law_617 : decode cL_law 617 = .ok (.invokevirtual 115, 3) := by decide +kernel
theorem dL_law_620 : decode cL_law 620 = .ok (.if_icmp .eq 763, 3) := by decide +kernel
theorem dL_law_623 : decode cL_law 623 = .ok (.iconst 0, 1) := by decide +kernel
theorem dL_law_624 : decode cL_law 624 = .ok (.ireturn, 1) := by decide +kernel
theorem dL_law_625 : decode cL_law 625 = .ok (.aload_n 1, 1) := by decide +kernel
theorem dL_law_626 : decode cL_law 626 = .ok (.invokevirtual 116, 3) := by decide +kernel
theorem dL_law_629 : decode cL_law 629 = .ok (.aload_n 2, 1) := by decide +kernel
theorem dL_law_630 : decode cL_law 630 = .ok (.invokevirtual 119, 3) := by decide +kernel
theorem dL_law_633 : decode cL_law 633 = .ok (.if_icmp .eq 750, 3) := by decide +kernel
theorem dL_law_636 : decode cL_law 636 = .ok (.iconst 0, 1) := by decide +kernel
theorem dL_law_637 : decode cL_law 637 = .ok (.ireturn, 1) := by decide +kernel
theorem dL_law_638 : decode cL_law 638 = .ok (.aload_n 1, 1) := by decide +kernel
theorem dL_law_639 : decode cL_law 639 = .ok (.aload_n 3, 1) := by decide +kernel
theorem dL_law_640 : decode cL_law 640 = .ok (.invokestatic 120, 3) := by decide +kernel
theorem dL_law_643 : decode cL_law 643 = .ok (.istore 5, 2) := by decide +kernel
theorem dL_law_645 : decode cL_law 645 = .ok (.aload_n 2, 1) := by decide +kernel
theorem dL_law_646 : decode cL_law 646 = .ok (.invokevirtual 122, 3) := by decide +kernel
theorem dL_law_649 : decode cL_law 649 = .ok (.istore 6, 2) := by decide +kernel
theorem dL_law_651 : decode cL_law 651 = .ok (.aload_n 2, 1) := by decide +kernel
theorem dL_law_652 : decode cL_law 652 = .ok (.invokevirtual 86, 3) := by decide +kernel
theorem dL_law_655 : decode cL_law 655 = .ok (.iload 5, 2) := by decide +kernel
theorem dL_law_657 : decode cL_law 657 = .ok (.if_icmp .eq 5, 3) := by decide +kernel
theorem dL_law_660 : decode cL_law 660 = .ok (.iconst 0, 1) := by decide +kernel
theorem dL_law_661 : decode cL_law 661 = .ok (.ireturn, 1) := by decide +kernel
theorem dL_law_662 : decode cL_law 662 = .ok (.iload 5, 2) := by decide +kernel
theorem dL_law_664 : decode cL_law 664 = .ok (.ifCond .ne 15, 3) := by decide +kernel
theorem dL_law_667 : decode cL_law 667 = .ok (.aload_n 3, 1) := by decide +kernel
theorem dL_law_668 : decode cL_law 668 = .ok (.iconst 0, 1) := by decide +kernel
theorem dL_law_669 : decode cL_law 669 = .ok (.laload, 1) := by decide +kernel
theorem dL_law_670 : decode cL_law 670 = .ok (.iload 6, 2) := by decide +kernel
theorem dL_law_672 : decode cL_law 672 = .ok (.i2l, 1) := by decide +kernel
theorem dL_law_673 : decode cL_law 673 = .ok (.lcmp, 1) := by decide +kernel
theorem dL_law_674 : decode cL_law 674 = .ok (.ifCond .eq 5, 3) := by decide +kernel
theorem dL_law_677 : decode cL_law 677 = .ok (.iconst 0, 1) := by decide +kernel
theorem dL_law_678 : decode cL_law 678 = .ok (.ireturn, 1) := by decide +kernel
theorem dL_law_679 : decode cL_law 679 = .ok (.goto 704, 3) := by decide +kernel
theorem dL_law_682 : decode cL_law 682 = .ok (.aload_n 1, 1) := by decide +kernel
theorem dL_law_683 : decode cL_law 683 = .ok (.aload_n 0, 1) := by decide +kernel
theorem dL_law_684 : decode cL_law 684 = .ok (.iload 4, 2) := by decide +kernel
theorem dL_law_686 : decode cL_law 686 = .ok (.iconst 1, 1) := by decide +kernel
theorem dL_law_687 : decode cL_law 687 = .ok (.iadd, 1) := by decide +kernel
theorem dL_law_688 : decode cL_law 688 = .ok (.iaload, 1) := by decide +kernel
theorem dL_law_689 : decode cL_law 689 = .ok (.aload_n 3, 1) := by decide +kernel
theorem dL_law_690 : decode cL_law 690 = .ok (.invokestatic 123, 3) := by decide +kernel
theorem dL_law_693 : decode cL_law 693 = .ok (.istore 5, 2) := by decide +kernel
theorem dL_law_695 : decode cL_law 695 = .ok (.aload_n 2, 1) := by decide +kernel
theorem dL_law_696 : decode cL_law 696 = .ok (.aload_n 0, 1) := by decide +kernel
theorem dL_law_697 : decode cL_law 697 = .ok (.iload 4, 2) := by decide +kernel
theorem dL_law_699 : decode cL_law 699 = .ok (.iconst 1, 1) := by decide +kernel
theorem dL_law_700 : decode cL_law 700 = .ok (.iadd, 1) := by decide +kernel
theorem dL_law_701 : decode cL_law 701 = .ok (.iaload, 1) := by decide +kernel
theorem dL_law_702 : decode cL_law 702 = .ok (.invokevirtual 125, 3) := by decide +kernel
theorem dL_law_705 : decode cL_law 705 = .ok (.istore 6, 2) := by decide +kernel
theorem dL_law_707 : decode cL_law 707 = .ok (.aload_n 2, 1) := by decide +kernel
theorem dL_law_708 : decode cL_law 708 = .ok (.invokevirtual 86, 3) := by decide +kernel
theorem dL_law_711 : decode cL_law 711 = .ok (.iload 5, 2) := by decide +kernel
theorem dL_law_713 : decode cL_law 713 = .ok (.if_icmp .eq 5, 3) := by decide +kernel
theorem dL_law_716 : decode cL_law 716 = .ok (.iconst 0, 1) := by decide +kernel
theorem dL_law_717 : decode cL_law 717 = .ok (.ireturn, 1) := by decide +kernel
theorem dL_law_718 : decode cL_law 718 = .ok (.iload 5, 2) := by decide +kernel
theorem dL_law_720 : decode cL_law 720 = .ok (.ifCond .ne 15, 3) := by decide +kernel
theorem dL_law_723 : decode cL_law 723 = .ok (.aload_n 3, 1) := by decide +kernel
theorem dL_law_724 : decode cL_law 724 = .ok (.iconst 0, 1) := by decide +kernel
theorem dL_law_725 : decode cL_law 725 = .ok (.laload, 1) := by decide +kernel
theorem dL_law_726 : decode cL_law 726 = .ok (.iload 6, 2) := by decide +kernel
theorem dL_law_728 : decode cL_law 728 = .ok (.i2l, 1) := by decide +kernel
theorem dL_law_729 : decode cL_law 729 = .ok (.lcmp, 1) := by decide +kernel
theorem dL_law_730 : decode cL_law 730 = .ok (.ifCond .eq 5, 3) := by decide +kernel
theorem dL_law_733 : decode cL_law 733 = .ok (.iconst 0, 1) := by decide +kernel
theorem dL_law_734 : decode cL_law 734 = .ok (.ireturn, 1) := by decide +kernel
theorem dL_law_735 : decode cL_law 735 = .ok (.goto 648, 3) := by decide +kernel
theorem dL_law_738 : decode cL_law 738 = .ok (.aload_n 1, 1) := by decide +kernel
theorem dL_law_739 : decode cL_law 739 = .ok (.aload_n 0, 1) := by decide +kernel
theorem dL_law_740 : decode cL_law 740 = .ok (.iload 4, 2) := by decide +kernel
theorem dL_law_742 : decode cL_law 742 = .ok (.iconst 1, 1) := by decide +kernel
theorem dL_law_743 : decode cL_law 743 = .ok (.iadd, 1) := by decide +kernel
theorem dL_law_744 : decode cL_law 744 = .ok (.iaload, 1) := by decide +kernel
theorem dL_law_745 : decode cL_law 745 = .ok (.aload_n 3, 1) := by decide +kernel
theorem dL_law_746 : decode cL_law 746 = .ok (.invokestatic 126, 3) := by decide +kernel
theorem dL_law_749 : decode cL_law 749 = .ok (.istore 5, 2) := by decide +kernel
theorem dL_law_751 : decode cL_law 751 = .ok (.aload_n 2, 1) := by decide +kernel
theorem dL_law_752 : decode cL_law 752 = .ok (.aload_n 0, 1) := by decide +kernel
theorem dL_law_753 : decode cL_law 753 = .ok (.iload 4, 2) := by decide +kernel
theorem dL_law_755 : decode cL_law 755 = .ok (.iconst 1, 1) := by decide +kernel
theorem dL_law_756 : decode cL_law 756 = .ok (.iadd, 1) := by decide +kernel
theorem dL_law_757 : decode cL_law 757 = .ok (.iaload, 1) := by decide +kernel
theorem dL_law_758 : decode cL_law 758 = .ok (.invokevirtual 128, 3) := by decide +kernel
theorem dL_law_761 : decode cL_law 761 = .ok (.istore 6, 2) := by decide +kernel
theorem dL_law_763 : decode cL_law 763 = .ok (.aload_n 2, 1) := by decide +kernel
theorem dL_law_764 : decode cL_law 764 = .ok (.invokevirtual 86, 3) := by decide +kernel
theorem dL_law_767 : decode cL_law 767 = .ok (.iload 5, 2) := by decide +kernel
theorem dL_law_769 : decode cL_law 769 = .ok (.if_icmp .eq 5, 3) := by decide +kernel
theorem dL_law_772 : decode cL_law 772 = .ok (.iconst 0, 1) := by decide +kernel
theorem dL_law_773 : decode cL_law 773 = .ok (.ireturn, 1) := by decide +kernel
theorem dL_law_774 : decode cL_law 774 = .ok (.iload 5, 2) := by decide +kernel
theorem dL_law_776 : decode cL_law 776 = .ok (.ifCond .ne 15, 3) := by decide +kernel
theorem dL_law_779 : decode cL_law 779 = .ok (.aload_n 3, 1) := by decide +kernel
theorem dL_law_780 : decode cL_law 780 = .ok (.iconst 0, 1) := by decide +kernel
theorem dL_law_781 : decode cL_law 781 = .ok (.laload, 1) := by decide +kernel
theorem dL_law_782 : decode cL_law 782 = .ok (.iload 6, 2) := by decide +kernel
theorem dL_law_784 : decode cL_law 784 = .ok (.i2l, 1) := by decide +kernel
theorem dL_law_785 : decode cL_law 785 = .ok (.lcmp, 1) := by decide +kernel
theorem dL_law_786 : decode cL_law 786 = .ok (.ifCond .eq 5, 3) := by decide +kernel
theorem dL_law_789 : decode cL_law 789 = .ok (.iconst 0, 1) := by decide +kernel
theorem dL_law_790 : decode cL_law 790 = .ok (.ireturn, 1) := by decide +kernel
theorem dL_law_791 : decode cL_law 791 = .ok (.goto 592, 3) := by decide +kernel
theorem dL_law_794 : decode cL_law 794 = .ok (.aload_n 1, 1) := by decide +kernel
theorem dL_law_795 : decode cL_law 795 = .ok (.aload_n 3, 1) := by decide +kernel
theorem dL_law_796 : decode cL_law 796 = .ok (.invokestatic 129, 3) := by decide +kernel
theorem dL_law_799 : decode cL_law 799 = .ok (.istore 5, 2) := by decide +kernel
theorem dL_law_801 : decode cL_law 801 = .ok (.aload_n 2, 1) := by decide +kernel
theorem dL_law_802 : decode cL_law 802 = .ok (.invokevirtual 131, 3) := by decide +kernel
theorem dL_law_805 : decode cL_law 805 = .ok (.istore 6, 2) := by decide +kernel
theorem dL_law_807 : decode cL_law 807 = .ok (.aload_n 2, 1) := by decide +kernel
theorem dL_law_808 : decode cL_law 808 = .ok (.invokevirtual 86, 3) := by decide +kernel
theorem dL_law_811 : decode cL_law 811 = .ok (.iload 5, 2) := by decide +kernel
theorem dL_law_813 : decode cL_law 813 = .ok (.if_icmp .eq 5, 3) := by decide +kernel
theorem dL_law_816 : decode cL_law 816 = .ok (.iconst 0, 1) := by decide +kernel
theorem dL_law_817 : decode cL_law 817 = .ok (.ireturn, 1) := by decide +kernel
theorem dL_law_818 : decode cL_law 818 = .ok (.iload 5, 2) := by decide +kernel
theorem dL_law_820 : decode cL_law 820 = .ok (.ifCond .ne 15, 3) := by decide +kernel
theorem dL_law_823 : decode cL_law 823 = .ok (.aload_n 3, 1) := by decide +kernel
theorem dL_law_824 : decode cL_law 824 = .ok (.iconst 0, 1) := by decide +kernel
theorem dL_law_825 : decode cL_law 825 = .ok (.laload, 1) := by decide +kernel
theorem dL_law_826 : decode cL_law 826 = .ok (.iload 6, 2) := by decide +kernel
theorem dL_law_828 : decode cL_law 828 = .ok (.i2l, 1) := by decide +kernel
theorem dL_law_829 : decode cL_law 829 = .ok (.lcmp, 1) := by decide +kernel
theorem dL_law_830 : decode cL_law 830 = .ok (.ifCond .eq 5, 3) := by decide +kernel
theorem dL_law_833 : decode cL_law 833 = .ok (.iconst 0, 1) := by decide +kernel
theorem dL_law_834 : decode cL_law 834 = .ok (.ireturn, 1) := by decide +kernel
theorem dL_law_835 : decode cL_law 835 = .ok (.goto 548, 3) := by decide +kernel
theorem dL_law_838 : decode cL_law 838 = .ok (.aload_n 1, 1) := by decide +kernel
theorem dL_law_839 : decode cL_law 839 = .ok (.aload_n 0, 1) := by decide +kernel
theorem dL_law_840 : decode cL_law 840 = .ok (.iload 4, 2) := by decide +kernel
theorem dL_law_842 : decode cL_law 842 = .ok (.iconst 1, 1) := by decide +kernel
theorem dL_law_843 : decode cL_law 843 = .ok (.iadd, 1) := by decide +kernel
theorem dL_law_844 : decode cL_law 844 = .ok (.iaload, 1) := by decide +kernel
theorem dL_law_845 : decode cL_law 845 = .ok (.aload_n 0, 1) := by decide +kernel
theorem dL_law_846 : decode cL_law 846 = .ok (.iload 4, 2) := by decide +kernel
theorem dL_law_848 : decode cL_law 848 = .ok (.iconst 2, 1) := by decide +kernel
theorem dL_law_849 : decode cL_law 849 = .ok (.iadd, 1) := by decide +kernel
theorem dL_law_850 : decode cL_law 850 = .ok (.iaload, 1) := by decide +kernel
theorem dL_law_851 : decode cL_law 851 = .ok (.aload_n 3, 1) := by decide +kernel
theorem dL_law_852 : decode cL_law 852 = .ok (.invokestatic 132, 3) := by decide +kernel
theorem dL_law_855 : decode cL_law 855 = .ok (.istore 5, 2) := by decide +kernel
theorem dL_law_857 : decode cL_law 857 = .ok (.aload_n 2, 1) := by decide +kernel
theorem dL_law_858 : decode cL_law 858 = .ok (.aload_n 0, 1) := by decide +kernel
theorem dL_law_859 : decode cL_law 859 = .ok (.iload 4, 2) := by decide +kernel
theorem dL_law_861 : decode cL_law 861 = .ok (.iconst 1, 1) := by decide +kernel
theorem dL_law_862 : decode cL_law 862 = .ok (.iadd, 1) := by decide +kernel
theorem dL_law_863 : decode cL_law 863 = .ok (.iaload, 1) := by decide +kernel
theorem dL_law_864 : decode cL_law 864 = .ok (.aload_n 0, 1) := by decide +kernel
theorem dL_law_865 : decode cL_law 865 = .ok (.iload 4, 2) := by decide +kernel
theorem dL_law_867 : decode cL_law 867 = .ok (.iconst 2, 1) := by decide +kernel
theorem dL_law_868 : decode cL_law 868 = .ok (.iadd, 1) := by decide +kernel
theorem dL_law_869 : decode cL_law 869 = .ok (.iaload, 1) := by decide +kernel
theorem dL_law_870 : decode cL_law 870 = .ok (.invokevirtual 134, 3) := by decide +kernel
theorem dL_law_873 : decode cL_law 873 = .ok (.istore 6, 2) := by decide +kernel
theorem dL_law_875 : decode cL_law 875 = .ok (.aload_n 2, 1) := by decide +kernel
theorem dL_law_876 : decode cL_law 876 = .ok (.invokevirtual 86, 3) := by decide +kernel
theorem dL_law_879 : decode cL_law 879 = .ok (.iload 5, 2) := by decide +kernel
theorem dL_law_881 : decode cL_law 881 = .ok (.if_icmp .eq 5, 3) := by decide +kernel
theorem dL_law_884 : decode cL_law 884 = .ok (.iconst 0, 1) := by decide +kernel
theorem dL_law_885 : decode cL_law 885 = .ok (.ireturn, 1) := by decide +kernel
theorem dL_law_886 : decode cL_law 886 = .ok (.iload 5, 2) := by decide +kernel
theorem dL_law_888 : decode cL_law 888 = .ok (.ifCond .ne 15, 3) := by decide +kernel
theorem dL_law_891 : decode cL_law 891 = .ok (.aload_n 3, 1) := by decide +kernel
theorem dL_law_892 : decode cL_law 892 = .ok (.iconst 0, 1) := by decide +kernel
theorem dL_law_893 : decode cL_law 893 = .ok (.laload, 1) := by decide +kernel
theorem dL_law_894 : decode cL_law 894 = .ok (.iload 6, 2) := by decide +kernel
theorem dL_law_896 : decode cL_law 896 = .ok (.i2l, 1) := by decide +kernel
theorem dL_law_897 : decode cL_law 897 = .ok (.lcmp, 1) := by decide +kernel
theorem dL_law_898 : decode cL_law 898 = .ok (.ifCond .eq 5, 3) := by decide +kernel
theorem dL_law_901 : decode cL_law 901 = .ok (.iconst 0, 1) := by decide +kernel
theorem dL_law_902 : decode cL_law 902 = .ok (.ireturn, 1) := by decide +kernel
theorem dL_law_903 : decode cL_law 903 = .ok (.goto 480, 3) := by decide +kernel
theorem dL_law_906 : decode cL_law 906 = .ok (.aload_n 1, 1) := by decide +kernel
theorem dL_law_907 : decode cL_law 907 = .ok (.aload_n 0, 1) := by decide +kernel
theorem dL_law_908 : decode cL_law 908 = .ok (.iload 4, 2) := by decide +kernel
theorem dL_law_910 : decode cL_law 910 = .ok (.iconst 1, 1) := by decide +kernel
theorem dL_law_911 : decode cL_law 911 = .ok (.iadd, 1) := by decide +kernel
theorem dL_law_912 : decode cL_law 912 = .ok (.iaload, 1) := by decide +kernel
theorem dL_law_913 : decode cL_law 913 = .ok (.aload_n 0, 1) := by decide +kernel
theorem dL_law_914 : decode cL_law 914 = .ok (.iload 4, 2) := by decide +kernel
theorem dL_law_916 : decode cL_law 916 = .ok (.iconst 2, 1) := by decide +kernel
theorem dL_law_917 : decode cL_law 917 = .ok (.iadd, 1) := by decide +kernel
theorem dL_law_918 : decode cL_law 918 = .ok (.iaload, 1) := by decide +kernel
theorem dL_law_919 : decode cL_law 919 = .ok (.aload_n 3, 1) := by decide +kernel
theorem dL_law_920 : decode cL_law 920 = .ok (.invokestatic 135, 3) := by decide +kernel
theorem dL_law_923 : decode cL_law 923 = .ok (.istore 5, 2) := by decide +kernel
theorem dL_law_925 : decode cL_law 925 = .ok (.aload_n 2, 1) := by decide +kernel
theorem dL_law_926 : decode cL_law 926 = .ok (.aload_n 0, 1) := by decide +kernel
theorem dL_law_927 : decode cL_law 927 = .ok (.iload 4, 2) := by decide +kernel
theorem dL_law_929 : decode cL_law 929 = .ok (.iconst 1, 1) := by decide +kernel
theorem dL_law_930 : decode cL_law 930 = .ok (.iadd, 1) := by decide +kernel
theorem dL_law_931 : decode cL_law 931 = .ok (.iaload, 1) := by decide +kernel
theorem dL_law_932 : decode cL_law 932 = .ok (.aload_n 0, 1) := by decide +kernel
theorem dL_law_933 : decode cL_law 933 = .ok (.iload 4, 2) := by decide +kernel
theorem dL_law_935 : decode cL_law 935 = .ok (.iconst 2, 1) := by decide +kernel
theorem dL_law_936 : decode cL_law 936 = .ok (.iadd, 1) := by decide +kernel
theorem dL_law_937 : decode cL_law 937 = .ok (.iaload, 1) := by decide +kernel
theorem dL_law_938 : decode cL_law 938 = .ok (.invokevirtual 137, 3) := by decide +kernel
theorem dL_law_941 : decode cL_law 941 = .ok (.istore 6, 2) := by decide +kernel
theorem dL_law_943 : decode cL_law 943 = .ok (.aload_n 2, 1) := by decide +kernel
theorem dL_law_944 : decode cL_law 944 = .ok (.invokevirtual 86, 3) := by decide +kernel
theorem dL_law_947 : decode cL_law 947 = .ok (.iload 5, 2) := by decide +kernel
theorem dL_law_949 : decode cL_law 949 = .ok (.if_icmp .eq 5, 3) := by decide +kernel
theorem dL_law_952 : decode cL_law 952 = .ok (.iconst 0, 1) := by decide +kernel
theorem dL_law_953 : decode cL_law 953 = .ok (.ireturn, 1) := by decide +kernel
theorem dL_law_954 : decode cL_law 954 = .ok (.iload 5, 2) := by decide +kernel
theorem dL_law_956 : decode cL_law 956 = .ok (.ifCond .ne 15, 3) := by decide +kernel
theorem dL_law_959 : decode cL_law 959 = .ok (.aload_n 3, 1) := by decide +kernel
theorem dL_law_960 : decode cL_law 960 = .ok (.iconst 0, 1) := by decide +kernel
theorem dL_law_961 : decode cL_law 961 = .ok (.laload, 1) := by decide +kernel
theorem dL_law_962 : decode cL_law 962 = .ok (.iload 6, 2) := by decide +kernel
theorem dL_law_964 : decode cL_law 964 = .ok (.i2l, 1) := by decide +kernel
theorem dL_law_965 : decode cL_law 965 = .ok (.lcmp, 1) := by decide +kernel
theorem dL_law_966 : decode cL_law 966 = .ok (.ifCond .eq 5, 3) := by decide +kernel
theorem dL_law_969 : decode cL_law 969 = .ok (.iconst 0, 1) := by decide +kernel
theorem dL_law_970 : decode cL_law 970 = .ok (.ireturn, 1) := by decide +kernel
theorem dL_law_971 : decode cL_law 971 = .ok (.goto 412, 3) := by decide +kernel
theorem dL_law_974 : decode cL_law 974 = .ok (.aload_n 1, 1) := by decide +kernel
theorem dL_law_975 : decode cL_law 975 = .ok (.aload_n 0, 1) := by decide +kernel
theorem dL_law_976 : decode cL_law 976 = .ok (.iload 4, 2) := by decide +kernel
theorem dL_law_978 : decode cL_law 978 = .ok (.iconst 1, 1) := by decide +kernel
theorem dL_law_979 : decode cL_law 979 = .ok (.iadd, 1) := by decide +kernel
theorem dL_law_980 : decode cL_law 980 = .ok (.iaload, 1) := by decide +kernel
theorem dL_law_981 : decode cL_law 981 = .ok (.aload_n 3, 1) := by decide +kernel
theorem dL_law_982 : decode cL_law 982 = .ok (.invokestatic 138, 3) := by decide +kernel
theorem dL_law_985 : decode cL_law 985 = .ok (.istore 5, 2) := by decide +kernel
theorem dL_law_987 : decode cL_law 987 = .ok (.aload_n 2, 1) := by decide +kernel
theorem dL_law_988 : decode cL_law 988 = .ok (.aload_n 0, 1) := by decide +kernel
theorem dL_law_989 : decode cL_law 989 = .ok (.iload 4, 2) := by decide +kernel
theorem dL_law_991 : decode cL_law 991 = .ok (.iconst 1, 1) := by decide +kernel
theorem dL_law_992 : decode cL_law 992 = .ok (.iadd, 1) := by decide +kernel
theorem dL_law_993 : decode cL_law 993 = .ok (.iaload, 1) := by decide +kernel
theorem dL_law_994 : decode cL_law 994 = .ok (.invokevirtual 140, 3) := by decide +kernel
theorem dL_law_997 : decode cL_law 997 = .ok (.istore 6, 2) := by decide +kernel
theorem dL_law_999 : decode cL_law 999 = .ok (.aload_n 2, 1) := by decide +kernel
theorem dL_law_1000 : decode cL_law 1000 = .ok (.invokevirtual 86, 3) := by decide +kernel
theorem dL_law_1003 : decode cL_law 1003 = .ok (.iload 5, 2) := by decide +kernel
theorem dL_law_1005 : decode cL_law 1005 = .ok (.if_icmp .eq 5, 3) := by decide +kernel
theorem dL_law_1008 : decode cL_law 1008 = .ok (.iconst 0, 1) := by decide +kernel
theorem dL_law_1009 : decode cL_law 1009 = .ok (.ireturn, 1) := by decide +kernel
theorem dL_law_1010 : decode cL_law 1010 = .ok (.iload 5, 2) := by decide +kernel
theorem dL_law_1012 : decode cL_law 1012 = .ok (.ifCond .ne 15, 3) := by decide +kernel
theorem dL_law_1015 : decode cL_law 1015 = .ok (.aload_n 3, 1) := by decide +kernel
theorem dL_law_1016 : decode cL_law 1016 = .ok (.iconst 0, 1) := by decide +kernel
theorem dL_law_1017 : decode cL_law 1017 = .ok (.laload, 1) := by decide +kernel
theorem dL_law_1018 : decode cL_law 1018 = .ok (.iload 6, 2) := by decide +kernel
theorem dL_law_1020 : decode cL_law 1020 = .ok (.i2l, 1) := by decide +kernel
theorem dL_law_1021 : decode cL_law 1021 = .ok (.lcmp, 1) := by decide +kernel
theorem dL_law_1022 : decode cL_law 1022 = .ok (.ifCond .eq 5, 3) := by decide +kernel
theorem dL_law_1025 : decode cL_law 1025 = .ok (.iconst 0, 1) := by decide +kernel
theorem dL_law_1026 : decode cL_law 1026 = .ok (.ireturn, 1) := by decide +kernel
theorem dL_law_1027 : decode cL_law 1027 = .ok (.goto 356, 3) := by decide +kernel
theorem dL_law_1030 : decode cL_law 1030 = .ok (.aload_n 1, 1) := by decide +kernel
theorem dL_law_1031 : decode cL_law 1031 = .ok (.aload_n 0, 1) := by decide +kernel
theorem dL_law_1032 : decode cL_law 1032 = .ok (.iload 4, 2) := by decide +kernel
theorem dL_law_1034 : decode cL_law 1034 = .ok (.iconst 1, 1) := by decide +kernel
theorem dL_law_1035 : decode cL_law 1035 = .ok (.iadd, 1) := by decide +kernel
theorem dL_law_1036 : decode cL_law 1036 = .ok (.iaload, 1) := by decide +kernel
theorem dL_law_1037 : decode cL_law 1037 = .ok (.aload_n 3, 1) := by decide +kernel
theorem dL_law_1038 : decode cL_law 1038 = .ok (.invokestatic 141, 3) := by decide +kernel
theorem dL_law_1041 : decode cL_law 1041 = .ok (.istore 5, 2) := by decide +kernel
theorem dL_law_1043 : decode cL_law 1043 = .ok (.aload_n 2, 1) := by decide +kernel
theorem dL_law_1044 : decode cL_law 1044 = .ok (.aload_n 0, 1) := by decide +kernel
theorem dL_law_1045 : decode cL_law 1045 = .ok (.iload 4, 2) := by decide +kernel
theorem dL_law_1047 : decode cL_law 1047 = .ok (.iconst 1, 1) := by decide +kernel
theorem dL_law_1048 : decode cL_law 1048 = .ok (.iadd, 1) := by decide +kernel
theorem dL_law_1049 : decode cL_law 1049 = .ok (.iaload, 1) := by decide +kernel
theorem dL_law_1050 : decode cL_law 1050 = .ok (.invokevirtual 143, 3) := by decide +kernel
theorem dL_law_1053 : decode cL_law 1053 = .ok (.istore 6, 2) := by decide +kernel
theorem dL_law_1055 : decode cL_law 1055 = .ok (.aload_n 2, 1) := by decide +kernel
theorem dL_law_1056 : decode cL_law 1056 = .ok (.invokevirtual 86, 3) := by decide +kernel
theorem dL_law_1059 : decode cL_law 1059 = .ok (.iload 5, 2) := by decide +kernel
theorem dL_law_1061 : decode cL_law 1061 = .ok (.if_icmp .eq 5, 3) := by decide +kernel
theorem dL_law_1064 : decode cL_law 1064 = .ok (.iconst 0, 1) := by decide +kernel
theorem dL_law_1065 : decode cL_law 1065 = .ok (.ireturn, 1) := by decide +kernel
theorem dL_law_1066 : decode cL_law 1066 = .ok (.iload 5, 2) := by decide +kernel
theorem dL_law_1068 : decode cL_law 1068 = .ok (.ifCond .ne 15, 3) := by decide +kernel
theorem dL_law_1071 : decode cL_law 1071 = .ok (.aload_n 3, 1) := by decide +kernel
theorem dL_law_1072 : decode cL_law 1072 = .ok (.iconst 0, 1) := by decide +kernel
theorem dL_law_1073 : decode cL_law 1073 = .ok (.laload, 1) := by decide +kernel
theorem dL_law_1074 : decode cL_law 1074 = .ok (.iload 6, 2) := by decide +kernel
theorem dL_law_1076 : decode cL_law 1076 = .ok (.i2l, 1) := by decide +kernel
theorem dL_law_1077 : decode cL_law 1077 = .ok (.lcmp, 1) := by decide +kernel
theorem dL_law_1078 : decode cL_law 1078 = .ok (.ifCond .eq 5, 3) := by decide +kernel
theorem dL_law_1081 : decode cL_law 1081 = .ok (.iconst 0, 1) := by decide +kernel
theorem dL_law_1082 : decode cL_law 1082 = .ok (.ireturn, 1) := by decide +kernel
theorem dL_law_1083 : decode cL_law 1083 = .ok (.goto 300, 3) := by decide +kernel
theorem dL_law_1086 : decode cL_law 1086 = .ok (.aload_n 1, 1) := by decide +kernel
theorem dL_law_1087 : decode cL_law 1087 = .ok (.aload_n 0, 1) := by decide +kernel
theorem dL_law_1088 : decode cL_law 1088 = .ok (.iload 4, 2) := by decide +kernel
theorem dL_law_1090 : decode cL_law 1090 = .ok (.iconst 1, 1) := by decide +kernel
theorem dL_law_1091 : decode cL_law 1091 = .ok (.iadd, 1) := by decide +kernel
theorem dL_law_1092 : decode cL_law 1092 = .ok (.iaload, 1) := by decide +kernel
theorem dL_law_1093 : decode cL_law 1093 = .ok (.aload_n 0, 1) := by decide +kernel
theorem dL_law_1094 : decode cL_law 1094 = .ok (.iload 4, 2) := by decide +kernel
theorem dL_law_1096 : decode cL_law 1096 = .ok (.iconst 2, 1) := by decide +kernel
theorem dL_law_1097 : decode cL_law 1097 = .ok (.iadd, 1) := by decide +kernel
theorem dL_law_1098 : decode cL_law 1098 = .ok (.iaload, 1) := by decide +kernel
theorem dL_law_1099 : decode cL_law 1099 = .ok (.aload_n 0, 1) := by decide +kernel
theorem dL_law_1100 : decode cL_law 1100 = .ok (.iload 4, 2) := by decide +kernel
theorem dL_law_1102 : decode cL_law 1102 = .ok (.iconst 3, 1) := by decide +kernel
theorem dL_law_1103 : decode cL_law 1103 = .ok (.iadd, 1) := by decide +kernel
theorem dL_law_1104 : decode cL_law 1104 = .ok (.iaload, 1) := by decide +kernel
theorem dL_law_1105 : decode cL_law 1105 = .ok (.aload_n 3, 1) := by decide +kernel
theorem dL_law_1106 : decode cL_law 1106 = .ok (.invokestatic 144, 3) := by decide +kernel
theorem dL_law_1109 : decode cL_law 1109 = .ok (.istore 5, 2) := by decide +kernel
theorem dL_law_1111 : decode cL_law 1111 = .ok (.aload_n 2, 1) := by decide +kernel
theorem dL_law_1112 : decode cL_law 1112 = .ok (.aload_n 0, 1) := by decide +kernel
theorem dL_law_1113 : decode cL_law 1113 = .ok (.iload 4, 2) := by decide +kernel
theorem dL_law_1115 : decode cL_law 1115 = .ok (.iconst 1, 1) := by decide +kernel
theorem dL_law_1116 : decode cL_law 1116 = .ok (.iadd, 1) := by decide +kernel
theorem dL_law_1117 : decode cL_law 1117 = .ok (.iaload, 1) := by decide +kernel
theorem dL_law_1118 : decode cL_law 1118 = .ok (.aload_n 0, 1) := by decide +kernel
theorem dL_law_1119 : decode cL_law 1119 = .ok (.iload 4, 2) := by decide +kernel
theorem dL_law_1121 : decode cL_law 1121 = .ok (.iconst 2, 1) := by decide +kernel
theorem dL_law_1122 : decode cL_law 1122 = .ok (.iadd, 1) := by decide +kernel
theorem dL_law_1123 : decode cL_law 1123 = .ok (.iaload, 1) := by decide +kernel
theorem dL_law_1124 : decode cL_law 1124 = .ok (.aload_n 0, 1) := by decide +kernel
theorem dL_law_1125 : decode cL_law 1125 = .ok (.iload 4, 2) := by decide +kernel
theorem dL_law_1127 : decode cL_law 1127 = .ok (.iconst 3, 1) := by decide +kernel
theorem dL_law_1128 : decode cL_law 1128 = .ok (.iadd, 1) := by decide +kernel
theorem dL_law_1129 : decode cL_law 1129 = .ok (.iaload, 1) := by decide +kernel
theorem dL_law_1130 : decode cL_law 1130 = .ok (.invokevirtual 147, 3) := by decide +kernel
theorem dL_law_1133 : decode cL_law 1133 = .ok (.istore 6, 2) := by decide +kernel
theorem dL_law_1135 : decode cL_law 1135 = .ok (.aload_n 2, 1) := by decide +kernel
theorem dL_law_1136 : decode cL_law 1136 = .ok (.invokevirtual 86, 3) := by decide +kernel
theorem dL_law_1139 : decode cL_law 1139 = .ok (.iload 5, 2) := by decide +kernel
theorem dL_law_1141 : decode cL_law 1141 = .ok (.if_icmp .eq 5, 3) := by decide +kernel
theorem dL_law_1144 : decode cL_law 1144 = .ok (.iconst 0, 1) := by decide +kernel
theorem dL_law_1145 : decode cL_law 1145 = .ok (.ireturn, 1) := by decide +kernel
theorem dL_law_1146 : decode cL_law 1146 = .ok (.iload 5, 2) := by decide +kernel
theorem dL_law_1148 : decode cL_law 1148 = .ok (.ifCond .ne 15, 3) := by decide +kernel
theorem dL_law_1151 : decode cL_law 1151 = .ok (.aload_n 3, 1) := by decide +kernel
theorem dL_law_1152 : decode cL_law 1152 = .ok (.iconst 0, 1) := by decide +kernel
theorem dL_law_1153 : decode cL_law 1153 = .ok (.laload, 1) := by decide +kernel
theorem dL_law_1154 : decode cL_law 1154 = .ok (.iload 6, 2) := by decide +kernel
theorem dL_law_1156 : decode cL_law 1156 = .ok (.i2l, 1) := by decide +kernel
theorem dL_law_1157 : decode cL_law 1157 = .ok (.lcmp, 1) := by decide +kernel
theorem dL_law_1158 : decode cL_law 1158 = .ok (.ifCond .eq 5, 3) := by decide +kernel
theorem dL_law_1161 : decode cL_law 1161 = .ok (.iconst 0, 1) := by decide +kernel
theorem dL_law_1162 : decode cL_law 1162 = .ok (.ireturn, 1) := by decide +kernel
theorem dL_law_1163 : decode cL_law 1163 = .ok (.goto 220, 3) := by decide +kernel
theorem dL_law_1166 : decode cL_law 1166 = .ok (.aload_n 1, 1) := by decide +kernel
theorem dL_law_1167 : decode cL_law 1167 = .ok (.aload_n 0, 1) := by decide +kernel
theorem dL_law_1168 : decode cL_law 1168 = .ok (.iload 4, 2) := by decide +kernel
theorem dL_law_1170 : decode cL_law 1170 = .ok (.iconst 1, 1) := by decide +kernel
theorem dL_law_1171 : decode cL_law 1171 = .ok (.iadd, 1) := by decide +kernel
theorem dL_law_1172 : decode cL_law 1172 = .ok (.iaload, 1) := by decide +kernel
theorem dL_law_1173 : decode cL_law 1173 = .ok (.aload_n 0, 1) := by decide +kernel
theorem dL_law_1174 : decode cL_law 1174 = .ok (.iload 4, 2) := by decide +kernel
theorem dL_law_1176 : decode cL_law 1176 = .ok (.iconst 2, 1) := by decide +kernel
theorem dL_law_1177 : decode cL_law 1177 = .ok (.iadd, 1) := by decide +kernel
theorem dL_law_1178 : decode cL_law 1178 = .ok (.iaload, 1) := by decide +kernel
theorem dL_law_1179 : decode cL_law 1179 = .ok (.aload_n 3, 1) := by decide +kernel
theorem dL_law_1180 : decode cL_law 1180 = .ok (.invokestatic 148, 3) := by decide +kernel
theorem dL_law_1183 : decode cL_law 1183 = .ok (.istore 5, 2) := by decide +kernel
theorem dL_law_1185 : decode cL_law 1185 = .ok (.aload_n 2, 1) := by decide +kernel
theorem dL_law_1186 : decode cL_law 1186 = .ok (.aload_n 0, 1) := by decide +kernel
theorem dL_law_1187 : decode cL_law 1187 = .ok (.iload 4, 2) := by decide +kernel
theorem dL_law_1189 : decode cL_law 1189 = .ok (.iconst 1, 1) := by decide +kernel
theorem dL_law_1190 : decode cL_law 1190 = .ok (.iadd, 1) := by decide +kernel
theorem dL_law_1191 : decode cL_law 1191 = .ok (.iaload, 1) := by decide +kernel
theorem dL_law_1192 : decode cL_law 1192 = .ok (.aload_n 0, 1) := by decide +kernel
theorem dL_law_1193 : decode cL_law 1193 = .ok (.iload 4, 2) := by decide +kernel
theorem dL_law_1195 : decode cL_law 1195 = .ok (.iconst 2, 1) := by decide +kernel
theorem dL_law_1196 : decode cL_law 1196 = .ok (.iadd, 1) := by decide +kernel
theorem dL_law_1197 : decode cL_law 1197 = .ok (.iaload, 1) := by decide +kernel
theorem dL_law_1198 : decode cL_law 1198 = .ok (.invokevirtual 150, 3) := by decide +kernel
theorem dL_law_1201 : decode cL_law 1201 = .ok (.istore 6, 2) := by decide +kernel
theorem dL_law_1203 : decode cL_law 1203 = .ok (.aload_n 2, 1) := by decide +kernel
theorem dL_law_1204 : decode cL_law 1204 = .ok (.invokevirtual 86, 3) := by decide +kernel
theorem dL_law_1207 : decode cL_law 1207 = .ok (.iload 5, 2) := by decide +kernel
theorem dL_law_1209 : decode cL_law 1209 = .ok (.if_icmp .eq 5, 3) := by decide +kernel
theorem dL_law_1212 : decode cL_law 1212 = .ok (.iconst 0, 1) := by decide +kernel
theorem dL_law_1213 : decode cL_law 1213 = .ok (.ireturn, 1) := by decide +kernel
theorem dL_law_1214 : decode cL_law 1214 = .ok (.iload 5, 2) := by decide +kernel
theorem dL_law_1216 : decode cL_law 1216 = .ok (.ifCond .ne 15, 3) := by decide +kernel
theorem dL_law_1219 : decode cL_law 1219 = .ok (.aload_n 3, 1) := by decide +kernel
theorem dL_law_1220 : decode cL_law 1220 = .ok (.iconst 0, 1) := by decide +kernel
theorem dL_law_1221 : decode cL_law 1221 = .ok (.laload, 1) := by decide +kernel
theorem dL_law_1222 : decode cL_law 1222 = .ok (.iload 6, 2) := by decide +kernel
theorem dL_law_1224 : decode cL_law 1224 = .ok (.i2l, 1) := by decide +kernel
theorem dL_law_1225 : decode cL_law 1225 = .ok (.lcmp, 1) := by decide +kernel
theorem dL_law_1226 : decode cL_law 1226 = .ok (.ifCond .eq 5, 3) := by decide +kernel
theorem dL_law_1229 : decode cL_law 1229 = .ok (.iconst 0, 1) := by decide +kernel
theorem dL_law_1230 : decode cL_law 1230 = .ok (.ireturn, 1) := by decide +kernel
theorem dL_law_1231 : decode cL_law 1231 = .ok (.goto 152, 3) := by decide +kernel
theorem dL_law_1234 : decode cL_law 1234 = .ok (.aload_n 1, 1) := by decide +kernel
theorem dL_law_1235 : decode cL_law 1235 = .ok (.aload_n 0, 1) := by decide +kernel
theorem dL_law_1236 : decode cL_law 1236 = .ok (.iload 4, 2) := by decide +kernel
theorem dL_law_1238 : decode cL_law 1238 = .ok (.iconst 1, 1) := by decide +kernel
theorem dL_law_1239 : decode cL_law 1239 = .ok (.iadd, 1) := by decide +kernel
theorem dL_law_1240 : decode cL_law 1240 = .ok (.iaload, 1) := by decide +kernel
theorem dL_law_1241 : decode cL_law 1241 = .ok (.aload_n 0, 1) := by decide +kernel
theorem dL_law_1242 : decode cL_law 1242 = .ok (.iload 4, 2) := by decide +kernel
theorem dL_law_1244 : decode cL_law 1244 = .ok (.iconst 2, 1) := by decide +kernel
theorem dL_law_1245 : decode cL_law 1245 = .ok (.iadd, 1) := by decide +kernel
theorem dL_law_1246 : decode cL_law 1246 = .ok (.iaload, 1) := by decide +kernel
theorem dL_law_1247 : decode cL_law 1247 = .ok (.aload_n 3, 1) := by decide +kernel
theorem dL_law_1248 : decode cL_law 1248 = .ok (.invokestatic 151, 3) := by decide +kernel
theorem dL_law_1251 : decode cL_law 1251 = .ok (.istore 5, 2) := by decide +kernel
theorem dL_law_1253 : decode cL_law 1253 = .ok (.aload_n 2, 1) := by decide +kernel
theorem dL_law_1254 : decode cL_law 1254 = .ok (.aload_n 0, 1) := by decide +kernel
theorem dL_law_1255 : decode cL_law 1255 = .ok (.iload 4, 2) := by decide +kernel
theorem dL_law_1257 : decode cL_law 1257 = .ok (.iconst 1, 1) := by decide +kernel
theorem dL_law_1258 : decode cL_law 1258 = .ok (.iadd, 1) := by decide +kernel
theorem dL_law_1259 : decode cL_law 1259 = .ok (.iaload, 1) := by decide +kernel
theorem dL_law_1260 : decode cL_law 1260 = .ok (.aload_n 0, 1) := by decide +kernel
theorem dL_law_1261 : decode cL_law 1261 = .ok (.iload 4, 2) := by decide +kernel
theorem dL_law_1263 : decode cL_law 1263 = .ok (.iconst 2, 1) := by decide +kernel
theorem dL_law_1264 : decode cL_law 1264 = .ok (.iadd, 1) := by decide +kernel
theorem dL_law_1265 : decode cL_law 1265 = .ok (.iaload, 1) := by decide +kernel
theorem dL_law_1266 : decode cL_law 1266 = .ok (.invokevirtual 153, 3) := by decide +kernel
theorem dL_law_1269 : decode cL_law 1269 = .ok (.istore 6, 2) := by decide +kernel
theorem dL_law_1271 : decode cL_law 1271 = .ok (.aload_n 2, 1) := by decide +kernel
theorem dL_law_1272 : decode cL_law 1272 = .ok (.invokevirtual 86, 3) := by decide +kernel
theorem dL_law_1275 : decode cL_law 1275 = .ok (.iload 5, 2) := by decide +kernel
theorem dL_law_1277 : decode cL_law 1277 = .ok (.if_icmp .eq 5, 3) := by decide +kernel
theorem dL_law_1280 : decode cL_law 1280 = .ok (.iconst 0, 1) := by decide +kernel
theorem dL_law_1281 : decode cL_law 1281 = .ok (.ireturn, 1) := by decide +kernel
theorem dL_law_1282 : decode cL_law 1282 = .ok (.iload 5, 2) := by decide +kernel
theorem dL_law_1284 : decode cL_law 1284 = .ok (.ifCond .ne 15, 3) := by decide +kernel
theorem dL_law_1287 : decode cL_law 1287 = .ok (.aload_n 3, 1) := by decide +kernel
theorem dL_law_1288 : decode cL_law 1288 = .ok (.iconst 0, 1) := by decide +kernel
theorem dL_law_1289 : decode cL_law 1289 = .ok (.laload, 1) := by decide +kernel
theorem dL_law_1290 : decode cL_law 1290 = .ok (.iload 6, 2) := by decide +kernel
theorem dL_law_1292 : decode cL_law 1292 = .ok (.i2l, 1) := by decide +kernel
theorem dL_law_1293 : decode cL_law 1293 = .ok (.lcmp, 1) := by decide +kernel
theorem dL_law_1294 : decode cL_law 1294 = .ok (.ifCond .eq 5, 3) := by decide +kernel
theorem dL_law_1297 : decode cL_law 1297 = .ok (.iconst 0, 1) := by decide +kernel
theorem dL_law_1298 : decode cL_law 1298 = .ok (.ireturn, 1) := by decide +kernel
theorem dL_law_1299 : decode cL_law 1299 = .ok (.goto 84, 3) := by decide +kernel
theorem dL_law_1302 : decode cL_law 1302 = .ok (.aload_n 1, 1) := by decide +kernel
theorem dL_law_1303 : decode cL_law 1303 = .ok (.invokevirtual 154, 3) := by decide +kernel
theorem dL_law_1306 : decode cL_law 1306 = .ok (.aload_n 2, 1) := by decide +kernel
theorem dL_law_1307 : decode cL_law 1307 = .ok (.invokevirtual 157, 3) := by decide +kernel
theorem dL_law_1310 : decode cL_law 1310 = .ok (.if_icmp .eq 73, 3) := by decide +kernel
theorem dL_law_1313 : decode cL_law 1313 = .ok (.iconst 0, 1) := by decide +kernel
theorem dL_law_1314 : decode cL_law 1314 = .ok (.ireturn, 1) := by decide +kernel
theorem dL_law_1315 : decode cL_law 1315 = .ok (.aload_n 1, 1) := by decide +kernel
theorem dL_law_1316 : decode cL_law 1316 = .ok (.invokevirtual 158, 3) := by decide +kernel
theorem dL_law_1319 : decode cL_law 1319 = .ok (.aload_n 2, 1) := by decide +kernel
theorem dL_law_1320 : decode cL_law 1320 = .ok (.invokevirtual 161, 3) := by decide +kernel
theorem dL_law_1323 : decode cL_law 1323 = .ok (.if_icmp .eq 60, 3) := by decide +kernel
theorem dL_law_1326 : decode cL_law 1326 = .ok (.iconst 0, 1) := by decide +kernel
theorem dL_law_1327 : decode cL_law 1327 = .ok (.ireturn, 1) := by decide +kernel
theorem dL_law_1328 : decode cL_law 1328 = .ok (.aload_n 1, 1) := by decide +kernel
theorem dL_law_1329 : decode cL_law 1329 = .ok (.invokevirtual 162, 3) := by decide +kernel
theorem dL_law_1332 : decode cL_law 1332 = .ok (.dstore 5, 2) := by decide +kernel
theorem dL_law_1334 : decode cL_law 1334 = .ok (.aload_n 2, 1) := by decide +kernel
theorem dL_law_1335 : decode cL_law 1335 = .ok (.invokevirtual 166, 3) := by decide +kernel
theorem dL_law_1338 : decode cL_law 1338 = .ok (.dstore 7, 2) := by decide +kernel
theorem dL_law_1340 : decode cL_law 1340 = .ok (.dload 5, 2) := by decide +kernel
theorem dL_law_1342 : decode cL_law 1342 = .ok (.dload 7, 2) := by decide +kernel
theorem dL_law_1344 : decode cL_law 1344 = .ok (.dcmp .l, 1) := by decide +kernel
theorem dL_law_1345 : decode cL_law 1345 = .ok (.ifCond .eq 21, 3) := by decide +kernel
theorem dL_law_1348 : decode cL_law 1348 = .ok (.dload 5, 2) := by decide +kernel
theorem dL_law_1350 : decode cL_law 1350 = .ok (.dload 5, 2) := by decide +kernel
theorem dL_law_1352 : decode cL_law 1352 = .ok (.dcmp .l, 1) := by decide +kernel
theorem dL_law_1353 : decode cL_law 1353 = .ok (.ifCond .eq 11, 3) := by decide +kernel
theorem dL_law_1356 : decode cL_law 1356 = .ok (.dload 7, 2) := by decide +kernel
theorem dL_law_1358 : decode cL_law 1358 = .ok (.dload 7, 2) := by decide +kernel
theorem dL_law_1360 : decode cL_law 1360 = .ok (.dcmp .l, 1) := by decide +kernel
theorem dL_law_1361 : decode cL_law 1361 = .ok (.ifCond .ne 5, 3) := by decide +kernel
theorem dL_law_1364 : decode cL_law 1364 = .ok (.iconst 0, 1) := by decide +kernel
theorem dL_law_1365 : decode cL_law 1365 = .ok (.ireturn, 1) := by decide +kernel
theorem dL_law_1366 : decode cL_law 1366 = .ok (.goto 17, 3) := by decide +kernel
theorem dL_law_1369 : decode cL_law 1369 = .ok (.aload_n 1, 1) := by decide +kernel
theorem dL_law_1370 : decode cL_law 1370 = .ok (.invokevirtual 167, 3) := by decide +kernel
theorem dL_law_1373 : decode cL_law 1373 = .ok (.aload_n 2, 1) := by decide +kernel
theorem dL_law_1374 : decode cL_law 1374 = .ok (.invokevirtual 171, 3) := by decide +kernel
theorem dL_law_1377 : decode cL_law 1377 = .ok (.lcmp, 1) := by decide +kernel
theorem dL_law_1378 : decode cL_law 1378 = .ok (.ifCond .eq 5, 3) := by decide +kernel
theorem dL_law_1381 : decode cL_law 1381 = .ok (.iconst 0, 1) := by decide +kernel
theorem dL_law_1382 : decode cL_law 1382 = .ok (.ireturn, 1) := by decide +kernel
theorem dL_law_1383 : decode cL_law 1383 = .ok (.iinc 4 4, 3) := by decide +kernel
theorem dL_law_1386 : decode cL_law 1386 = .ok (.goto (-1363), 3) := by decide +kernel
theorem dL_law_1389 : decode cL_law 1389 = .ok (.iconst 1, 1) := by decide +kernel
theorem dL_law_1390 : decode cL_law 1390 = .ok (.ireturn, 1) := by decide +kernel
end
section
/-! the pure steps: cells of the world as numbers, their ints as a function; a method runs by steps; the least predicate closed under the steps backwards -/
abbrev ev_M : Type := Nat → Nat → Int32
abbrev ev_R : Type := Option Value × Nat
abbrev ev_X : Type := Nat × (Nat → Int32) × List (Nat × Nat × Nat × Nat)
def ev_ms (μ : ev_M) (k i : Nat) (x : Int32) : ev_M := fun q => if q = k then upd (μ k) i x else μ q
def ev_cp (μ : ev_M) (k0 k1 n : Nat) : ev_M := fun q => if q = k1 then (fun j => if j < n then μ k0 j else μ k1 j) else μ q
def ev_lyA : List (Nat × Nat × List (Option Nat)) := [(0, 5, [some 44, some 1, some 2, some 3, some 5, some 7, some 12]), (3, 2, [some 55, some 66]), (2, 2, []), (0, 1, [some 4, none, none]), (3, 6, [some 77, some 88, some 99, some 110, some 121, some 132]), (0, 2, [some 6, none]), (1, 60, []),
  (0, 4, [some 8, some 9, some 10, some 11]), (5, 10, [some 24, some 25, some 26, some 27, some 28, some 29, some 30, some 31, some 32, some 33]), (5, 10, [some 34, some 35, some 36, some 37, some 38, some 39, some 40, some 41, some 42, some 43]), (1, 10, []), (2, 10, []),
  (0, 3, [some 13, none, none, none]), (1, 10, []), (0, 6, [some 15, some 16, some 17, some 18, some 19, none, some 20, none, none, none, none, none, some 21, some 22]), (1, 59, []), (1, 354, []), (1, 59, []), (1, 118, []), (2, 2, []), (1, 60, []), (1, 10, []), (1, 10, []), (4, 1, [])]
def ev_lyG (k : Nat) : List (Option Nat) := [some (k + 1), some (k + 2), some (k + 3), some (k + 4), some (k + 5), some (k + 6), some (k + 7), some (k + 8), some (k + 9), some (k + 10), none, none, none, none, none, none, none]
/-- a cell of the world: 0 an object of the class of that number with its references, 1 ints, 2 booleans, 3 games, 4 longs, 5 rows of ints -/
def ev_lay (k : Nat) : Nat × Nat × List (Option Nat) := if k < 24 then ev_lyA.getD k (9, 0, []) else if k < 44 then (1, 10, []) else if k < 143 then (if (k - 44) % 11 = 0 then (0, 0, ev_lyG k) else if (k - 44) % 11 ≤ 2 then (1, 10, []) else (1, 4, [])) else (9, 0, [])
/-- a field of a cell of a class: none where it isn't one, some none an int, some (some r) the cell r -/
def ev_fld (k0 ci k : Nat) : Option (Option Nat) := match ev_lay k0 with
  | (t, c, fs) => if t = 0 ∧ c = ci then fs[k]? else none
def ev_ok1 (L : List Value) (k : Nat) : Prop := k < L.length ∧ ∀ (j : Nat) (v : Value), j + 1 = k → L[j]? = some v → v.category = 1
def ev_ok2 (L : List Value) (k : Nat) : Prop := k + 1 < L.length ∧ ∀ (j : Nat) (v : Value), j + 1 = k → L[j]? = some v → v.category = 1
def ev_wk : List Value → List Value → Prop
  | [], [] => True
  | v :: s, w :: t => (w = .null ∨ w = v) ∧ ev_wk s t
  | _, _ => False

/-! tables: classes, methods, what the pool numbers say; by program out of the printed tables -/
def ev_cnT : List String := [RX0, RX1, RX2, RX3, RX4, RX5, RX6, RJ6, RJxe99ae, RL]
def ev_cn (o : Nat) : String := ev_cnT.getD o ""
def ev_ynT : List MethodName := [yX5_clearBuffer, yX2_empty, yX5_firstError, yX2_firstWrong, yX2_awaitedBehind, yX2_awaitedBehindLetter, yX5_prey, yX0_playersInReachOfIt, yX0_refusalOfTag, yX0_sees, yX5_lookout, yX0_towerThatSeesMost, yX0_towersSeenFrom, yJ6_bitCount_0f7a4, yX5_belowShare, yX0_shareOfSandBelow, yX0_sandInGlasses, yX0_sandBelow, yX5_digest, yX5_number, yX0_sandOnTowers, yX4_layOut, yX0_priceOfStride, yX5_withTowers, yX5_towerProperty, yX0_playersOn, yX4_cheapestBySettling, yX4_cheapestUnsettled, yX4_cheapestByGoingOver, yX4_allowGoingOver, yX5_withPlayer, yX5_playerProperty, yX0_towersToStrideTo, yX0_refusalOfStride, yX3_fewestTurns, yX3_reaches, yX3_reachesBehindRun, yX3_reachesBehindTurn, yX3_reachesBehindStride, yX5_bitsOf, yX2_codeAt, yL_height, yX5_height, yX5_isTower, yX1_save, yX0_become, yL_player, yX5_player, yX0_addPlayer, yL_set, yX5_set, yX5_isSetting, yL_rest, yX5_rest, yX0_takesMoves, yX0_endMove, yL_stride, yX5_stride, yX0_moveByStride, yX0_refuse, yX0_pay, yL_turnOver, yX5_turnOver, yX0_moveByTurn, yL_tag, yX5_tag, yX0_hasPlayer, yX0_moveByTag, yL_append, yX5_append, yX2_add, yL_run, yX5_run, yX2_tellsGame, yX2_needsDigit, yX2_digitAt, yX5_playMove, yX2_widthOfMove, yL_keep, yX5_keep, yL_goBack, yX5_goBack, yL_undo, yX5_undo, yX1_restoreLatest, yL_tower, yX5_tower, yL_playerOf, yX5_playerOf, yL_count, yX5_count, yL_setting, yX5_setting, yL_price, yX5_price, yL_whyNot, yX5_whyNot, yL_movesTo, yX5_movesTo, yX6_thrown, yX6_undo, yX6_wrong, yX6_keep, yX6_in, yX6_goBack, yX6_remember, yX6_record, yX6_height, yX6_player, yX6_set, yX6_rest, yX6_isOver, yX6_waits, yX6_take, yX6_its, yX6_ends, yX6_runs, yX6_put, yX6_more, yX6_stride, yX6_goes, yX6_strideReason, yX6_sees, yX6_strideOf, yX6_size, yX6_refuses, yX6_strides, yX6_turnOver, yX6_overs, yX6_turns, yX6_tag, yX6_isPlayer, yX6_tags, yX6_tagReason, yX6_append, yX6_clearBuffer, yX6_firstError, yX6_error, yX6_moveAt, yX6_codeAt, yX6_run, yX6_isGame, yX6_does, yX6_tower, yX6_towerOf, yX6_standing, yX6_seen, yX6_playerOf, yX6_propertyOf, yX6_strideable, yX6_reasonOf, yX6_count, yX6_numberOf, yX6_inGlasses, yX6_onTowers, yX6_setting, yX6_price, yX6_cheapest, yX6_whyNot, yX6_movesTo, yX6_fewest, yX6_breaks, yX6_prey, yX6_huntable, yX6_lookout, yX6_widest, yX6_bits, yX6_belowShare, yX6_share, yX6_digest, yJxe99ae_doubleToLongBits_ccdee, yJxe99ae_isNaN_b9ae7]
def ev_yn (y : Nat) : MethodName := ev_ynT.getD y ⟨"", "", ""⟩
def ev_ybT : List ByteArray := [cX5_clearBuffer, cX2_empty, cX5_firstError, cX2_firstWrong, cX2_awaitedBehind, cX2_awaitedBehindLetter, cX5_prey, cX0_playersInReachOfIt, cX0_refusalOfTag, cX0_sees, cX5_lookout, cX0_towerThatSeesMost, cX0_towersSeenFrom, cJ6_bitCount_0f7a4, cX5_belowShare, cX0_shareOfSandBelow, cX0_sandInGlasses, cX0_sandBelow, cX5_digest, cX5_number, cX0_sandOnTowers, cX4_layOut, cX0_priceOfStride, cX5_withTowers, cX5_towerProperty, cX0_playersOn, cX4_cheapestBySettling, cX4_cheapestUnsettled, cX4_cheapestByGoingOver, cX4_allowGoingOver, cX5_withPlayer, cX5_playerProperty, cX0_towersToStrideTo, cX0_refusalOfStride, cX3_fewestTurns, cX3_reaches, cX3_reachesBehindRun, cX3_reachesBehindTurn, cX3_reachesBehindStride, cX5_bitsOf, cX2_codeAt, cL_height, cX5_height, cX5_isTower, cX1_save, cX0_become, cL_player, cX5_player, cX0_addPlayer, cL_set, cX5_set, cX5_isSetting, cL_rest, cX5_rest, cX0_takesMoves, cX0_endMove, cL_stride, cX5_stride, cX0_moveByStride, cX0_refuse, cX0_pay, cL_turnOver, cX5_turnOver, cX0_moveByTurn, cL_tag, cX5_tag, cX0_hasPlayer, cX0_moveByTag, cL_append, cX5_append, cX2_add, cL_run, cX5_run, cX2_tellsGame, cX2_needsDigit, cX2_digitAt, cX5_playMove, cX2_widthOfMove, cL_keep, cX5_keep, cL_goBack, cX5_goBack, cL_undo, cX5_undo, cX1_restoreLatest, cL_tower, cX5_tower, cL_playerOf, cX5_playerOf, cL_count, cX5_count, cL_setting, cX5_setting, cL_price, cX5_price, cL_whyNot, cX5_whyNot, cL_movesTo, cX5_movesTo, cX6_thrown, cX6_undo, cX6_wrong, cX6_keep, cX6_in, cX6_goBack, cX6_remember, cX6_record, cX6_height, cX6_player, cX6_set, cX6_rest, cX6_isOver, cX6_waits, cX6_take, cX6_its, cX6_ends, cX6_runs, cX6_put, cX6_more, cX6_stride, cX6_goes, cX6_strideReason, cX6_sees, cX6_strideOf, cX6_size, cX6_refuses, cX6_strides, cX6_turnOver, cX6_overs, cX6_turns, cX6_tag, cX6_isPlayer, cX6_tags, cX6_tagReason, cX6_append, cX6_clearBuffer, cX6_firstError, cX6_error, cX6_moveAt, cX6_codeAt, cX6_run, cX6_isGame, cX6_does, cX6_tower, cX6_towerOf, cX6_standing, cX6_seen, cX6_playerOf, cX6_propertyOf, cX6_strideable, cX6_reasonOf, cX6_count, cX6_numberOf, cX6_inGlasses, cX6_onTowers, cX6_setting, cX6_price, cX6_cheapest, cX6_whyNot, cX6_movesTo, cX6_fewest, cX6_breaks, cX6_prey, cX6_huntable, cX6_lookout, cX6_widest, cX6_bits, cX6_belowShare, cX6_share, cX6_digest, cJxe99ae_doubleToLongBits_ccdee, cJxe99ae_isNaN_b9ae7]
def ev_yb (y : Nat) : ByteArray := ev_ybT.getD y ByteArray.empty
def ev_yLT : List Nat := [1, 2, 1, 3, 2, 1, 1, 3, 3, 6, 1, 5, 4, 1, 1, 2, 3, 3, 4, 2, 3, 4, 3, 7, 3, 4, 6, 3, 4, 4, 7, 3, 4, 4, 6, 6, 7, 8, 10, 7, 2, 5, 4, 1, 2, 2, 5, 3, 4, 5, 4, 1, 3, 1, 1, 2, 4, 2, 3, 2, 2, 3, 1, 2, 4, 2, 2, 4, 4, 2, 2, 3, 3, 1, 1, 3, 3, 2, 4, 2, 4, 2, 3, 1, 2, 5, 3, 5, 3, 4, 2, 4, 2, 6, 4, 5, 3, 5, 3, 1, 2, 2, 3, 3, 3, 2, 3, 4, 4, 4, 1, 1, 1, 3, 3, 3, 2, 3, 4, 2, 5, 2, 7, 4, 1, 2, 3, 1, 3, 2, 2, 2, 6, 5, 2, 2, 1, 3, 3, 2, 4, 3, 5, 3, 3, 4, 4, 3, 3, 4, 3, 2, 2, 3, 3, 2, 4, 8, 3, 3, 7, 9, 1, 3, 1, 3, 3, 1, 3, 5, 2, 2]
def ev_yL (y : Nat) : Nat := ev_yLT.getD y 0
def ev_yrT : List (Option FieldType) := [(some .int), (some .int), (some .int), (some .int), (some .int), (some .int), (some .int), (some .int), (some .int), (some .boolean), (some .int), (some .int), (some .int), (some .int), (some .double), (some .double), (some .int), (some .int), (some .long), (some .int), (some .int), none, (some .int), (some .long), (some .int), (some .int), (some .int), (some .int), (some .int), none, (some .long), (some .int), (some .int), (some .int), (some .int), (some .boolean), (some .boolean), (some .boolean), (some .boolean), (some .long), (some .int), (some .int), (some .int), (some .boolean), none, none, (some .int), (some .int), (some .int), (some .int), (some .int), (some .boolean), (some .int), (some .int), (some .boolean), (some .int), (some .int), (some .int), (some .int), (some .int), none, (some .int), (some .int), (some .int), (some .int), (some .int), (some .boolean), (some .int), (some .int), (some .int), (some .int), (some .int), (some .int), (some .boolean), (some .boolean), (some .int), (some .boolean), (some .int), (some .int), (some .int), (some .int), (some .int), (some .int), (some .int), none, (some .int), (some .int), (some .int), (some .int), (some .int), (some .int), (some .int), (some .int), (some .int), (some .int), (some .int), (some .int), (some .int), (some .int), (some .int), (some .int), (some .int), (some .int), (some .boolean), (some .int), none, (some .int), (some .int), (some .int), (some .int), (some .int), (some .boolean), (some .int), none, (some .int), (some .int), (some .int), none, none, (some .int), (some .int), (some .int), (some .boolean), (some .int), (some .int), (some .int), none, (some .int), (some .int), none, (some .int), (some .boolean), (some .int), (some .int), (some .int), (some .int), (some .int), (some .int), (some .int), (some .int), (some .int), (some .boolean), (some .boolean), (some .int), (some .int), (some .int), (some .int), (some .int), (some .int), (some .int), (some .int), (some .int), (some .int), (some .int), (some .int), (some .int), (some .int), (some .int), (some .int), (some .int), (some .int), (some .int), (some .int), (some .int), (some .int), (some .int), (some .int), (some .double), (some .double), (some .long), (some .long), (some .boolean)]
def ev_yr (y : Nat) : Option FieldType := ev_yrT.getD y none
def ev_yoT : List Nat := [5, 2, 5, 2, 2, 2, 5, 0, 0, 0, 5, 0, 0, 7, 5, 0, 0, 0, 5, 5, 0, 4, 0, 5, 5, 0, 4, 4, 4, 4, 5, 5, 0, 0, 3, 3, 3, 3, 3, 5, 2, 9, 5, 5, 1, 0, 9, 5, 0, 9, 5, 5, 9, 5, 0, 0, 9, 5, 0, 0, 0, 9, 5, 0, 9, 5, 0, 0, 9, 5, 2, 9, 5, 2, 2, 2, 5, 2, 9, 5, 9, 5, 9, 5, 1, 9, 5, 9, 5, 9, 5, 9, 5, 9, 5, 9, 5, 9, 5, 6, 6, 6, 6, 6, 6, 6, 6, 6, 6, 6, 6, 6, 6, 6, 6, 6, 6, 6, 6, 6, 6, 6, 6, 6, 6, 6, 6, 6, 6, 6, 6, 6, 6, 6, 6, 6, 6, 6, 6, 6, 6, 6, 6, 6, 6, 6, 6, 6, 6, 6, 6, 6, 6, 6, 6, 6, 6, 6, 6, 6, 6, 6, 6, 6, 6, 6, 6, 6, 6, 6, 8, 8]
def ev_yo (y : Nat) : Nat := ev_yoT.getD y 0
def ev_kdT : List Nat := [0, 0, 0, 0, 1, 1, 0, 0, 0, 0, 0, 0, 0, 1, 0, 0, 0, 0, 0, 0, 0, 0, 0, 0, 0, 0, 0, 0, 0, 0, 0, 0, 0, 0, 0, 1, 1, 1, 1, 1, 0, 1, 0, 1, 0, 0, 1, 0, 0, 1, 0, 1, 1, 0, 0, 0, 1, 0, 0, 0, 0, 1, 0, 0, 1, 0, 0, 0, 1, 0, 0, 1, 0, 0, 1, 0, 0, 0, 1, 0, 1, 0, 1, 0, 0, 1, 0, 1, 0, 1, 0, 1, 0, 1, 0, 1, 0, 1, 0, 0, 0, 0, 0, 1, 0, 0, 0, 0, 0, 0, 0, 0, 0, 0, 0, 0, 0, 0, 0, 0, 0, 0, 0, 0, 1, 0, 0, 0, 0, 0, 0, 0, 0, 0, 0, 0, 0, 0, 0, 0, 0, 0, 0, 0, 0, 0, 0, 0, 0, 0, 0, 0, 0, 0, 0, 0, 0, 0, 0, 0, 0, 0, 0, 0, 0, 0, 1, 0, 0, 0, 1, 1]
def ev_kd (y : Nat) : Nat := ev_kdT.getD y 9
def ev_npT : List Nat := [0, 0, 0, 0, 2, 1, 0, 0, 2, 2, 0, 0, 1, 1, 0, 0, 0, 0, 0, 1, 0, 1, 2, 1, 2, 1, 2, 0, 2, 1, 2, 2, 1, 2, 4, 6, 6, 6, 6, 1, 1, 4, 2, 1, 1, 1, 4, 2, 2, 4, 2, 1, 2, 0, 0, 0, 3, 1, 1, 1, 1, 2, 0, 0, 3, 1, 1, 1, 3, 1, 1, 2, 0, 0, 1, 1, 2, 1, 3, 1, 3, 1, 2, 0, 1, 4, 2, 4, 2, 3, 1, 3, 1, 5, 3, 4, 2, 4, 2, 0, 0, 1, 1, 3, 1, 0, 1, 2, 2, 2, 0, 0, 0, 1, 2, 0, 0, 1, 3, 1, 1, 1, 2, 2, 1, 1, 1, 0, 0, 0, 1, 1, 1, 2, 1, 0, 0, 0, 1, 1, 0, 0, 1, 2, 2, 1, 1, 2, 2, 1, 2, 1, 1, 0, 0, 1, 3, 2, 2, 2, 2, 3, 0, 0, 0, 0, 1, 0, 0, 0, 1, 1]
def ev_np (y : Nat) : Nat := ev_npT.getD y 0
def ev_mcT : List Nat := [0, 0, 0, 0, 0, 0, 0, 0, 0, 0, 0, 0, 0, 0, 0, 0, 0, 0, 0, 0, 0, 0, 0, 0, 0, 0, 0, 0, 0, 0, 0, 0, 0, 0, 0, 0, 0, 0, 0, 0, 0, 1, 1, 0, 0, 0, 1, 1, 0, 1, 1, 0, 1, 1, 0, 0, 1, 1, 0, 0, 0, 1, 1, 0, 1, 1, 0, 0, 1, 1, 0, 1, 1, 0, 0, 0, 0, 0, 1, 1, 1, 1, 1, 1, 0, 1, 1, 1, 1, 1, 1, 1, 1, 1, 1, 1, 1, 1, 1, 0, 0, 0, 0, 0, 0, 0, 0, 0, 0, 0, 0, 0, 0, 0, 0, 0, 0, 0, 0, 0, 0, 0, 0, 0, 0, 0, 0, 0, 0, 0, 0, 0, 0, 0, 0, 0, 0, 0, 0, 0, 0, 0, 0, 0, 0, 0, 0, 0, 0, 0, 0, 0, 0, 0, 0, 0, 0, 0, 0, 0, 0, 0, 0, 0, 0, 0, 0, 0, 0, 0, 0, 0]
def ev_mc (y : Nat) : Nat := ev_mcT.getD y 0
def ev_thT : List Nat := [0, 0, 0, 0, 0, 0, 0, 0, 0, 0, 0, 0, 0, 0, 0, 0, 0, 0, 0, 0, 0, 0, 0, 0, 0, 0, 0, 0, 0, 0, 0, 0, 0, 0, 0, 0, 0, 0, 0, 0, 0, 0, 1, 0, 0, 0, 0, 1, 0, 0, 1, 0, 0, 1, 0, 0, 0, 1, 0, 0, 0, 0, 1, 0, 0, 1, 0, 0, 0, 1, 0, 0, 1, 0, 0, 0, 0, 0, 0, 1, 0, 1, 0, 1, 0, 0, 1, 0, 1, 0, 1, 0, 1, 0, 1, 0, 1, 0, 1, 0, 0, 0, 0, 0, 0, 0, 0, 0, 0, 0, 0, 0, 0, 0, 0, 0, 0, 0, 0, 0, 0, 0, 0, 0, 0, 0, 0, 0, 0, 0, 0, 0, 0, 0, 0, 0, 0, 0, 0, 0, 0, 0, 0, 0, 0, 0, 0, 0, 0, 0, 0, 0, 0, 0, 0, 0, 0, 0, 0, 0, 0, 0, 0, 0, 0, 0, 0, 0, 0, 0, 0, 0]
def ev_th (y : Nat) : Nat := ev_thT.getD y 0
def ev_yhT : List (List (Nat × Nat × Nat × Nat)) := [[], [], [], [], [], [], [], [], [], [], [], [], [], [], [], [], [], [], [], [], [], [], [], [], [], [], [], [], [], [], [], [], [], [], [], [], [], [], [], [], [], [(0, 10, 13, 13), (0, 10, 17, 15)], [], [], [], [], [(0, 10, 13, 13), (0, 10, 17, 15), (0, 10, 21, 20)], [], [], [(0, 10, 13, 13), (0, 10, 17, 15)], [], [], [(0, 8, 11, 20)], [], [], [], [(0, 9, 12, 13), (0, 9, 15, 20)], [], [], [], [], [(0, 8, 11, 20)], [], [], [(0, 9, 12, 13), (0, 9, 15, 20)], [], [], [], [(0, 9, 12, 15), (0, 9, 15, 20)], [], [], [(0, 8, 11, 15)], [], [], [], [], [], [], [(0, 9, 12, 15)], [], [(0, 9, 12, 15), (0, 9, 15, 20)], [], [(0, 8, 11, 20)], [], [], [(0, 10, 13, 13), (0, 10, 17, 15)], [], [(0, 10, 13, 13), (0, 10, 17, 15)], [], [(0, 9, 12, 15)], [], [(0, 9, 12, 13)], [], [(0, 12, 15, 13), (0, 12, 19, 15)], [], [(0, 10, 13, 13)], [], [(0, 10, 13, 13)], [], [], [], [], [], [], [], [], [], [], [], [], [], [], [], [], [], [], [], [], [], [], [], [], [], [], [], [], [], [], [], [], [], [], [], [], [], [], [], [], [], [], [], [], [], [], [], [], [], [], [], [], [], [], [], [], [], [], [], [], [], [], [], [], [], [], [], [], [], [], [], [], [], []]
def ev_yh (y : Nat) : List (Nat × Nat × Nat × Nat) := ev_yhT.getD y []
def ev_mrT : List ((Nat × Nat) × Nat × Nat × Nat × Nat × Nat × Nat) := [((9, 112), 0, 260, 261, 262, 54, 263), ((5, 144), 1, 264, 265, 266, 57, 267), ((9, 116), 2, 268, 269, 270, 54, 271), ((5, 147), 3, 272, 273, 274, 57, 275), ((2, 19), 4, 276, 277, 0, 57, 278), ((2, 35), 5, 279, 280, 0, 57, 281), ((9, 154), 6, 282, 283, 284, 54, 285), ((5, 221), 7, 286, 287, 288, 55, 289), ((0, 104), 8, 290, 291, 292, 55, 293), ((0, 82), 9, 294, 295, 296, 55, 297), ((9, 158), 10, 307, 308, 309, 54, 310), ((5, 224), 11, 311, 312, 313, 55, 314), ((0, 86), 12, 315, 316, 317, 55, 318), ((0, 90), 13, 319, 320, 0, 69, 321), ((9, 162), 14, 325, 326, 327, 54, 328), ((5, 227), 15, 329, 330, 331, 55, 332), ((0, 121), 16, 333, 334, 335, 55, 336), ((0, 118), 17, 337, 338, 339, 55, 340), ((9, 167), 18, 341, 342, 343, 54, 344), ((5, 198), 19, 347, 349, 0, 54, 350), ((5, 292), 16, 351, 334, 335, 55, 336), ((5, 295), 20, 352, 353, 354, 55, 355), ((5, 203), 21, 356, 357, 358, 58, 359), ((4, 27), 9, 360, 295, 296, 55, 297), ((4, 33), 22, 361, 362, 363, 55, 364), ((5, 235), 23, 366, 368, 1, 54, 369), ((5, 188), 24, 370, 372, 2, 54, 373), ((5, 250), 25, 374, 375, 376, 55, 377), ((5, 253), 12, 378, 316, 317, 55, 318), ((5, 206), 26, 379, 380, 381, 58, 382), ((4, 38), 27, 383, 385, 3, 58, 386), ((5, 209), 28, 388, 389, 390, 58, 391), ((4, 53), 29, 395, 397, 4, 58, 398), ((5, 239), 30, 399, 401, 5, 54, 402), ((5, 193), 31, 403, 405, 6, 54, 406), ((5, 280), 32, 407, 408, 409, 55, 410), ((0, 101), 33, 411, 412, 413, 55, 414), ((0, 98), 22, 415, 362, 363, 55, 364), ((5, 214), 33, 416, 412, 413, 55, 414), ((5, 217), 34, 417, 418, 419, 59, 420), ((3, 46), 35, 422, 423, 0, 59, 424), ((3, 56), 36, 425, 426, 0, 59, 427), ((3, 59), 37, 429, 430, 0, 59, 431), ((3, 62), 38, 432, 433, 0, 59, 434), ((5, 243), 39, 435, 436, 0, 54, 437), ((5, 155), 40, 441, 442, 443, 57, 444), ((9, 80), 41, 445, 446, 0, 53, 447), ((9, 7), 42, 450, 451, 452, 54, 453), ((5, 52), 43, 454, 455, 0, 54, 456), ((5, 68), 44, 541, 542, 543, 56, 544), ((1, 23), 45, 545, 546, 547, 55, 548), ((9, 89), 46, 550, 551, 0, 53, 552), ((9, 17), 47, 554, 555, 556, 54, 557), ((5, 87), 48, 575, 576, 577, 55, 578), ((9, 92), 49, 579, 580, 0, 53, 581), ((9, 22), 50, 582, 583, 584, 54, 585), ((5, 91), 51, 586, 587, 0, 54, 588), ((9, 95), 52, 595, 596, 0, 53, 597), ((9, 25), 53, 598, 599, 600, 54, 601), ((5, 107), 54, 602, 603, 604, 55, 605), ((5, 113), 55, 607, 608, 609, 55, 610), ((9, 99), 56, 611, 612, 0, 53, 613), ((9, 29), 57, 614, 615, 616, 54, 617), ((5, 117), 58, 618, 619, 620, 55, 621), ((0, 107), 59, 622, 624, 8, 55, 625), ((0, 110), 60, 626, 628, 9, 55, 629), ((0, 114), 55, 630, 608, 609, 55, 610), ((9, 103), 61, 631, 632, 0, 53, 633), ((9, 33), 62, 634, 635, 636, 54, 637), ((5, 121), 63, 638, 639, 640, 55, 641), ((9, 106), 64, 642, 643, 0, 53, 644), ((9, 36), 65, 645, 646, 647, 54, 648), ((5, 124), 66, 649, 650, 651, 55, 652), ((5, 131), 67, 655, 656, 657, 55, 658), ((9, 109), 68, 659, 660, 0, 53, 661), ((9, 39), 69, 662, 663, 664, 54, 665), ((5, 141), 70, 668, 669, 670, 57, 671), ((9, 120), 71, 672, 673, 0, 53, 674), ((9, 42), 72, 675, 676, 677, 54, 678), ((5, 150), 73, 679, 680, 681, 57, 682), ((2, 23), 3, 683, 273, 274, 57, 275), ((2, 27), 74, 684, 685, 0, 57, 686), ((5, 158), 75, 688, 689, 690, 57, 691), ((2, 31), 40, 692, 442, 443, 57, 444), ((5, 161), 76, 693, 695, 10, 54, 696), ((5, 165), 77, 697, 698, 699, 57, 700), ((9, 123), 78, 701, 702, 0, 53, 703), ((9, 45), 79, 704, 705, 706, 54, 707), ((5, 170), 45, 709, 546, 547, 55, 548), ((9, 126), 80, 710, 711, 0, 53, 712), ((9, 48), 81, 713, 714, 715, 54, 716), ((9, 129), 82, 718, 719, 0, 53, 720), ((9, 51), 83, 721, 722, 723, 54, 724), ((5, 183), 84, 726, 727, 728, 56, 729), ((9, 132), 85, 730, 731, 0, 53, 732), ((9, 54), 86, 733, 734, 735, 54, 736), ((9, 135), 87, 738, 739, 0, 53, 740), ((9, 57), 88, 741, 742, 743, 54, 744), ((9, 138), 89, 746, 747, 0, 53, 748), ((9, 60), 90, 749, 750, 751, 54, 752), ((9, 141), 91, 754, 755, 0, 53, 756), ((9, 63), 92, 757, 758, 759, 54, 760), ((9, 144), 93, 761, 762, 0, 53, 763), ((9, 66), 94, 764, 765, 766, 54, 767), ((9, 148), 95, 769, 770, 0, 53, 771), ((9, 70), 96, 772, 773, 774, 54, 775), ((9, 151), 97, 777, 778, 0, 53, 779), ((9, 73), 98, 780, 781, 782, 54, 783), ((9, 86), 99, 833, 834, 835, 60, 836), ((9, 131), 100, 837, 838, 839, 60, 840), ((6, 46), 101, 841, 843, 11, 60, 844), ((9, 125), 102, 845, 846, 847, 60, 848), ((6, 39), 103, 849, 850, 0, 60, 851), ((9, 128), 104, 852, 853, 854, 60, 855), ((6, 50), 105, 856, 858, 12, 60, 859), ((6, 53), 106, 860, 862, 13, 60, 863), ((9, 85), 107, 864, 865, 866, 60, 867), ((9, 91), 108, 868, 869, 870, 60, 871), ((9, 94), 109, 872, 873, 874, 60, 875), ((9, 98), 110, 876, 877, 878, 60, 879), ((6, 112), 111, 880, 882, 14, 60, 883), ((6, 116), 112, 884, 886, 15, 60, 887), ((6, 91), 113, 888, 890, 16, 60, 891), ((6, 63), 114, 892, 894, 17, 60, 895), ((6, 94), 115, 896, 898, 18, 60, 899), ((6, 79), 116, 900, 902, 19, 60, 903), ((6, 83), 117, 904, 906, 20, 60, 907), ((6, 87), 118, 908, 910, 21, 60, 911), ((9, 102), 119, 912, 913, 914, 60, 915), ((6, 119), 120, 916, 918, 22, 60, 919), ((6, 97), 121, 920, 922, 23, 60, 923), ((6, 59), 122, 924, 926, 24, 60, 927), ((6, 76), 123, 928, 930, 25, 60, 931), ((6, 56), 124, 932, 933, 0, 60, 934), ((6, 100), 125, 935, 937, 26, 60, 938), ((6, 103), 126, 939, 941, 27, 60, 942), ((9, 105), 127, 943, 944, 945, 60, 946), ((6, 122), 128, 947, 949, 28, 60, 950), ((6, 106), 129, 951, 953, 29, 60, 954), ((9, 108), 130, 955, 956, 957, 60, 958), ((6, 125), 131, 959, 961, 30, 60, 962), ((6, 129), 132, 963, 965, 31, 60, 966), ((6, 109), 133, 967, 969, 32, 60, 970), ((9, 111), 134, 971, 972, 973, 60, 974), ((9, 115), 135, 975, 976, 977, 60, 978), ((9, 119), 136, 979, 980, 981, 60, 982), ((6, 138), 137, 983, 985, 33, 60, 986), ((6, 141), 138, 987, 989, 34, 60, 990), ((6, 135), 139, 991, 993, 35, 60, 994), ((9, 122), 140, 995, 996, 997, 60, 998), ((6, 144), 141, 999, 1001, 36, 60, 1002), ((6, 147), 142, 1003, 1005, 37, 60, 1006), ((9, 134), 143, 1007, 1008, 1009, 60, 1010), ((6, 156), 144, 1011, 1013, 38, 60, 1014), ((6, 150), 145, 1015, 1017, 39, 60, 1018), ((6, 153), 146, 1019, 1021, 40, 60, 1022), ((9, 137), 147, 1023, 1024, 1025, 60, 1026), ((6, 165), 148, 1027, 1029, 41, 60, 1030), ((6, 162), 149, 1031, 1033, 42, 60, 1034), ((6, 159), 150, 1035, 1037, 43, 60, 1038), ((9, 140), 151, 1039, 1040, 1041, 60, 1042), ((6, 174), 152, 1043, 1045, 44, 60, 1046), ((6, 168), 153, 1047, 1049, 45, 60, 1050), ((6, 171), 154, 1051, 1053, 46, 60, 1054), ((9, 143), 155, 1055, 1056, 1057, 60, 1058), ((9, 147), 156, 1059, 1060, 1061, 60, 1062), ((6, 178), 157, 1063, 1065, 47, 60, 1066), ((9, 150), 158, 1068, 1069, 1070, 60, 1071), ((9, 153), 159, 1072, 1073, 1074, 60, 1075), ((6, 185), 160, 1076, 1078, 48, 60, 1079), ((6, 181), 161, 1080, 1082, 49, 60, 1083), ((9, 157), 162, 1084, 1085, 1086, 60, 1087), ((6, 188), 163, 1088, 1090, 50, 60, 1091), ((9, 161), 164, 1092, 1093, 1094, 60, 1095), ((6, 194), 165, 1096, 1098, 51, 60, 1099), ((6, 191), 166, 1100, 1101, 0, 60, 1102), ((9, 166), 167, 1103, 1104, 1105, 60, 1106), ((6, 197), 168, 1107, 1109, 52, 60, 1110), ((9, 171), 169, 1111, 1112, 1113, 60, 1114), ((6, 205), 170, 1117, 1118, 0, 70, 1119), ((8, 122), 171, 1120, 1121, 0, 70, 1122)]
def ev_mqT : List ((Nat × Nat) × Nat) := [((0, 73), 901), ((0, 79), 902), ((0, 95), 903), ((4, 42), 902), ((3, 65), 902), ((8, 134), 904)]
def ev_mr (oc i : Nat) : Option Nat := match ev_mrT.lookup (oc, i) with
  | some q => some q.1
  | none => ev_mqT.lookup (oc, i)
def ev_cpT : List ((Nat × Nat) × Nat) := [((4, 47), 392), ((3, 31), 421), ((0, 67), 549)]
def ev_cpr (oc i : Nat) : Bool := (ev_cpT.lookup (oc, i)).isSome
def ev_frT : List ((Nat × Nat) × Nat × Nat × Nat) := [((0, 9), 0, 0, 87), ((5, 72), 0, 0, 88), ((0, 15), 0, 1, 89), ((3, 30), 0, 1, 90), ((5, 247), 0, 1, 91), ((0, 18), 0, 2, 92), ((3, 37), 0, 2, 93), ((5, 104), 0, 2, 94), ((0, 21), 0, 3, 95), ((3, 25), 0, 3, 96), ((5, 256), 0, 3, 97), ((0, 24), 0, 4, 98), ((3, 40), 0, 4, 99), ((5, 259), 0, 4, 100), ((0, 27), 0, 5, 101), ((3, 43), 0, 5, 102), ((5, 262), 0, 5, 103), ((0, 30), 0, 6, 104), ((5, 268), 0, 6, 105), ((0, 33), 0, 7, 106), ((5, 271), 0, 7, 107), ((0, 36), 0, 8, 108), ((5, 274), 0, 8, 109), ((0, 39), 0, 9, 110), ((5, 277), 0, 9, 111), ((0, 42), 0, 10, 112), ((5, 78), 0, 10, 113), ((0, 46), 0, 11, 114), ((5, 283), 0, 11, 115), ((0, 49), 0, 12, 116), ((5, 265), 0, 12, 117), ((0, 52), 0, 13, 118), ((5, 173), 0, 13, 119), ((0, 55), 0, 14, 120), ((5, 286), 0, 14, 121), ((0, 58), 0, 15, 122), ((5, 289), 0, 15, 123), ((0, 61), 0, 16, 124), ((5, 298), 0, 16, 125), ((1, 11), 1, 0, 171), ((1, 15), 1, 1, 172), ((1, 19), 1, 2, 173), ((5, 178), 1, 2, 174), ((2, 11), 2, 0, 189), ((2, 15), 2, 1, 190), ((5, 136), 2, 1, 191), ((4, 11), 4, 0, 205), ((3, 50), 4, 0, 206), ((4, 16), 4, 1, 207), ((4, 19), 4, 2, 208), ((4, 23), 4, 3, 209), ((3, 9), 3, 0, 225), ((3, 15), 3, 1, 226), ((3, 19), 3, 2, 227), ((3, 22), 3, 3, 228), ((5, 10), 5, 0, 238), ((5, 16), 5, 1, 239), ((5, 20), 5, 2, 240), ((5, 27), 5, 3, 241), ((5, 34), 5, 4, 242), ((5, 41), 5, 5, 243), ((5, 48), 5, 6, 244), ((6, 7), 6, 0, 790), ((6, 13), 6, 1, 791), ((6, 16), 6, 2, 792), ((6, 19), 6, 3, 793), ((6, 22), 6, 4, 794), ((6, 43), 6, 5, 795), ((6, 26), 6, 6, 796), ((6, 132), 6, 7, 797), ((6, 35), 6, 8, 798), ((6, 67), 6, 9, 799), ((6, 70), 6, 10, 800), ((6, 73), 6, 11, 801), ((6, 29), 6, 12, 802), ((6, 32), 6, 13, 803)]
def ev_fr (oc i : Nat) : Option (Nat × Nat) := (ev_frT.lookup (oc, i)).map (fun q => (q.1, q.2.1))
def ev_srT : List ((Nat × Nat) × Nat × Nat) := [((5, 96), 201, 590), ((5, 99), 202, 592)]
def ev_sr (oc i : Nat) : Option Nat := (ev_srT.lookup (oc, i)).map (·.1)
def ev_st (r i : Nat) : Option Int32 := if r = 201 then ([1, 0, 0, 0] : List Int32)[i]? else if r = 202 then ([20, 9, 20, 9] : List Int32)[i]? else none
def ev_ciT : List ((Nat × Nat) × Int32 × Nat) := [((7, 265), 1431655765, 322), ((7, 266), 858993459, 323), ((7, 267), 252645135, 324), ((4, 37), 1000000, 365), ((6, 177), 100000, 1067)]
def ev_ci (oc i : Nat) : Option Int32 := (ev_ciT.lookup (oc, i)).map (·.1)
def ev_clT : List ((Nat × Nat) × Int64 × Nat) := [((5, 231), 3229, 345), ((5, 233), 31, 346), ((5, 301), 1023, 438), ((6, 201), 3229, 1115), ((6, 203), 31, 1116), ((8, 137), 9221120237041090560, 1126)]
def ev_cl (oc i : Nat) : Option Int64 := (ev_clT.lookup (oc, i)).map (·.1)
def ev_cdT : List ((Nat × Nat) × UInt64 × Nat) := [((5, 303), 4611686018427387904, 439), ((5, 305), 4841369599423283200, 440)]
def ev_cd (oc i : Nat) : Option UInt64 := (ev_cdT.lookup (oc, i)).map (·.1)
/-- where the class throws: the numbers of new, of the text and of <init> -/
def ev_trT : List ((Nat × Nat × Nat) × Nat) := [((56, 58, 60), 0), ((56, 65, 60), 0), ((56, 76, 60), 0), ((56, 84, 60), 0), ((56, 94, 60), 0), ((56, 102, 60), 0), ((56, 111, 60), 0), ((56, 127, 60), 0), ((56, 129, 60), 0), ((56, 134, 60), 0), ((56, 139, 60), 0), ((56, 153, 60), 0), ((56, 168, 60), 0), ((56, 176, 60), 0), ((56, 181, 60), 0), ((56, 186, 60), 0), ((56, 191, 60), 0), ((56, 196, 60), 0), ((56, 201, 60), 0), ((56, 212, 60), 0), ((63, 58, 67), 1), ((63, 65, 67), 1), ((63, 76, 67), 1), ((63, 84, 67), 1), ((63, 94, 67), 1), ((63, 102, 67), 1), ((63, 111, 67), 1), ((63, 127, 67), 1), ((63, 129, 67), 1), ((63, 134, 67), 1), ((63, 139, 67), 1), ((63, 153, 67), 1), ((63, 168, 67), 1), ((63, 176, 67), 1), ((63, 181, 67), 1), ((63, 186, 67), 1), ((63, 191, 67), 1), ((63, 196, 67), 1), ((63, 201, 67), 1), ((63, 212, 67), 1), ((82, 58, 86), 2), ((82, 65, 86), 2), ((82, 76, 86), 2), ((82, 84, 86), 2), ((82, 94, 86), 2), ((82, 102, 86), 2), ((82, 111, 86), 2), ((82, 127, 86), 2), ((82, 129, 86), 2), ((82, 134, 86), 2), ((82, 139, 86), 2), ((82, 153, 86), 2), ((82, 168, 86), 2), ((82, 176, 86), 2), ((82, 181, 86), 2), ((82, 186, 86), 2), ((82, 191, 86), 2), ((82, 196, 86), 2), ((82, 201, 86), 2), ((82, 212, 86), 2)]
def ev_tr (oc ik is ic : Nat) : Option Nat := if oc = 5 then ev_trT.lookup (ik, is, ic) else none
def ev_ct (E : Nat) : Nat := if E = 0 then 13 else if E = 1 then 15 else 20
def ev_hd (hh : List (Nat × Nat × Nat × Nat)) (pc E : Nat) : Option Nat := (hh.find? (fun h => decide (h.1 ≤ pc) && decide (pc < h.2.1) && decide (h.2.2.2 = ev_ct E))).map (fun h => h.2.2.1)

def ev_c_iconst (cc : ByteArray) (P : Nat → List Value → List Value → ev_M → Nat → Prop) : Prop := ∀ (pc : Nat) (L st : List Value) (μ : ev_M) (a : Nat) (n : Int), decode cc pc = .ok (.iconst n, 1) → P (pc + 1) L (.int (Int32.ofInt n) :: st) μ a → P pc L (st) μ a
def ev_c_bipush (cc : ByteArray) (P : Nat → List Value → List Value → ev_M → Nat → Prop) : Prop := ∀ (pc : Nat) (L st : List Value) (μ : ev_M) (a : Nat) (n : Int), decode cc pc = .ok (.bipush n, 2) → P (pc + 2) L (.int ((Int8.ofInt n).toInt32) :: st) μ a → P pc L (st) μ a
def ev_c_sipush (cc : ByteArray) (P : Nat → List Value → List Value → ev_M → Nat → Prop) : Prop := ∀ (pc : Nat) (L st : List Value) (μ : ev_M) (a : Nat) (n : Int), decode cc pc = .ok (.sipush n, 3) → P (pc + 3) L (.int ((Int16.ofInt n).toInt32) :: st) μ a → P pc L (st) μ a
def ev_c_lconst (cc : ByteArray) (P : Nat → List Value → List Value → ev_M → Nat → Prop) : Prop := ∀ (pc : Nat) (L st : List Value) (μ : ev_M) (a : Nat) (n : Fin 2), decode cc pc = .ok (.lconst n, 1) → P (pc + 1) L (.long (Int64.ofNat (n : Nat)) :: st) μ a → P pc L (st) μ a
def ev_c_dconst0 (cc : ByteArray) (P : Nat → List Value → List Value → ev_M → Nat → Prop) : Prop := ∀ (pc : Nat) (L st : List Value) (μ : ev_M) (a : Nat), decode cc pc = .ok (.dconst 0, 1) → P (pc + 1) L (.double FP.dconst0 :: st) μ a → P pc L (st) μ a
def ev_c_dconst1 (cc : ByteArray) (P : Nat → List Value → List Value → ev_M → Nat → Prop) : Prop := ∀ (pc : Nat) (L st : List Value) (μ : ev_M) (a : Nat), decode cc pc = .ok (.dconst 1, 1) → P (pc + 1) L (.double FP.dconst1 :: st) μ a → P pc L (st) μ a
def ev_c_ldc (oc : Nat) (cc : ByteArray) (P : Nat → List Value → List Value → ev_M → Nat → Prop) : Prop := ∀ (pc : Nat) (L st : List Value) (μ : ev_M) (a : Nat) (i : Nat) (v : Int32), decode cc pc = .ok (.ldc i, 2) → (ev_ci oc i = some v) → P (pc + 2) L (.int v :: st) μ a → P pc L (st) μ a
def ev_c_ldcw (oc : Nat) (cc : ByteArray) (P : Nat → List Value → List Value → ev_M → Nat → Prop) : Prop := ∀ (pc : Nat) (L st : List Value) (μ : ev_M) (a : Nat) (i : Nat) (v : Int32), decode cc pc = .ok (.ldc_w i, 3) → (ev_ci oc i = some v) → P (pc + 3) L (.int v :: st) μ a → P pc L (st) μ a
def ev_c_ldc2 (oc : Nat) (cc : ByteArray) (P : Nat → List Value → List Value → ev_M → Nat → Prop) : Prop := ∀ (pc : Nat) (L st : List Value) (μ : ev_M) (a : Nat) (i : Nat) (v : Int64), decode cc pc = .ok (.ldc2_w i, 3) → (ev_cl oc i = some v) → P (pc + 3) L (.long v :: st) μ a → P pc L (st) μ a
def ev_c_ldc2d (oc : Nat) (cc : ByteArray) (P : Nat → List Value → List Value → ev_M → Nat → Prop) : Prop := ∀ (pc : Nat) (L st : List Value) (μ : ev_M) (a : Nat) (i : Nat) (v : UInt64), decode cc pc = .ok (.ldc2_w i, 3) → (ev_cd oc i = some v) → P (pc + 3) L (.double v :: st) μ a → P pc L (st) μ a
def ev_c_iload_n (cc : ByteArray) (P : Nat → List Value → List Value → ev_M → Nat → Prop) : Prop := ∀ (pc : Nat) (L st : List Value) (μ : ev_M) (a : Nat) (k : Fin 4) (x : Int32), decode cc pc = .ok (.iload_n k, 1) → (L[(k : Nat)]? = some (.int x)) → P (pc + 1) L (.int x :: st) μ a → P pc L (st) μ a
def ev_c_iload (cc : ByteArray) (P : Nat → List Value → List Value → ev_M → Nat → Prop) : Prop := ∀ (pc : Nat) (L st : List Value) (μ : ev_M) (a : Nat) (k : Nat) (x : Int32), decode cc pc = .ok (.iload k, 2) → (L[k]? = some (.int x)) → P (pc + 2) L (.int x :: st) μ a → P pc L (st) μ a
def ev_c_lload_n (cc : ByteArray) (P : Nat → List Value → List Value → ev_M → Nat → Prop) : Prop := ∀ (pc : Nat) (L st : List Value) (μ : ev_M) (a : Nat) (k : Fin 4) (x : Int64), decode cc pc = .ok (.lload_n k, 1) → (L[(k : Nat)]? = some (.long x)) → P (pc + 1) L (.long x :: st) μ a → P pc L (st) μ a
def ev_c_lload (cc : ByteArray) (P : Nat → List Value → List Value → ev_M → Nat → Prop) : Prop := ∀ (pc : Nat) (L st : List Value) (μ : ev_M) (a : Nat) (k : Nat) (x : Int64), decode cc pc = .ok (.lload k, 2) → (L[k]? = some (.long x)) → P (pc + 2) L (.long x :: st) μ a → P pc L (st) μ a
def ev_c_dload_n (cc : ByteArray) (P : Nat → List Value → List Value → ev_M → Nat → Prop) : Prop := ∀ (pc : Nat) (L st : List Value) (μ : ev_M) (a : Nat) (k : Fin 4) (x : UInt64), decode cc pc = .ok (.dload_n k, 1) → (L[(k : Nat)]? = some (.double x)) → P (pc + 1) L (.double x :: st) μ a → P pc L (st) μ a
def ev_c_dload (cc : ByteArray) (P : Nat → List Value → List Value → ev_M → Nat → Prop) : Prop := ∀ (pc : Nat) (L st : List Value) (μ : ev_M) (a : Nat) (k : Nat) (x : UInt64), decode cc pc = .ok (.dload k, 2) → (L[k]? = some (.double x)) → P (pc + 2) L (.double x :: st) μ a → P pc L (st) μ a
def ev_c_aload_n (cc : ByteArray) (P : Nat → List Value → List Value → ev_M → Nat → Prop) : Prop := ∀ (pc : Nat) (L st : List Value) (μ : ev_M) (a : Nat) (k : Fin 4) (x : Nat), decode cc pc = .ok (.aload_n k, 1) → (L[(k : Nat)]? = some (.ref x)) → P (pc + 1) L (.ref x :: st) μ a → P pc L (st) μ a
def ev_c_aload (cc : ByteArray) (P : Nat → List Value → List Value → ev_M → Nat → Prop) : Prop := ∀ (pc : Nat) (L st : List Value) (μ : ev_M) (a : Nat) (k : Nat) (x : Nat), decode cc pc = .ok (.aload k, 2) → (L[k]? = some (.ref x)) → P (pc + 2) L (.ref x :: st) μ a → P pc L (st) μ a
def ev_c_istore_n (cc : ByteArray) (P : Nat → List Value → List Value → ev_M → Nat → Prop) : Prop := ∀ (pc : Nat) (L st : List Value) (μ : ev_M) (a : Nat) (k : Fin 4) (x : Int32), decode cc pc = .ok (.istore_n k, 1) → (ev_ok1 L (k : Nat)) → P (pc + 1) (L.set (k : Nat) (.int x)) (st) μ a → P pc L (.int x :: st) μ a
def ev_c_istore (cc : ByteArray) (P : Nat → List Value → List Value → ev_M → Nat → Prop) : Prop := ∀ (pc : Nat) (L st : List Value) (μ : ev_M) (a : Nat) (k : Nat) (x : Int32), decode cc pc = .ok (.istore k, 2) → (ev_ok1 L k) → P (pc + 2) (L.set k (.int x)) (st) μ a → P pc L (.int x :: st) μ a
def ev_c_astore_n (cc : ByteArray) (P : Nat → List Value → List Value → ev_M → Nat → Prop) : Prop := ∀ (pc : Nat) (L st : List Value) (μ : ev_M) (a : Nat) (k : Fin 4) (x : Nat), decode cc pc = .ok (.astore_n k, 1) → (ev_ok1 L (k : Nat)) → P (pc + 1) (L.set (k : Nat) (.ref x)) (st) μ a → P pc L (.ref x :: st) μ a
def ev_c_astore (cc : ByteArray) (P : Nat → List Value → List Value → ev_M → Nat → Prop) : Prop := ∀ (pc : Nat) (L st : List Value) (μ : ev_M) (a : Nat) (k : Nat) (x : Nat), decode cc pc = .ok (.astore k, 2) → (ev_ok1 L k) → P (pc + 2) (L.set k (.ref x)) (st) μ a → P pc L (.ref x :: st) μ a
def ev_c_lstore_n (cc : ByteArray) (P : Nat → List Value → List Value → ev_M → Nat → Prop) : Prop := ∀ (pc : Nat) (L st : List Value) (μ : ev_M) (a : Nat) (k : Fin 4) (x : Int64), decode cc pc = .ok (.lstore_n k, 1) → (ev_ok2 L (k : Nat)) → P (pc + 1) ((L.set (k : Nat) (.long x)).set ((k : Nat) + 1) .null) (st) μ a → P pc L (.long x :: st) μ a
def ev_c_lstore (cc : ByteArray) (P : Nat → List Value → List Value → ev_M → Nat → Prop) : Prop := ∀ (pc : Nat) (L st : List Value) (μ : ev_M) (a : Nat) (k : Nat) (x : Int64), decode cc pc = .ok (.lstore k, 2) → (ev_ok2 L k) → P (pc + 2) ((L.set k (.long x)).set (k + 1) .null) (st) μ a → P pc L (.long x :: st) μ a
def ev_c_dstore_n (cc : ByteArray) (P : Nat → List Value → List Value → ev_M → Nat → Prop) : Prop := ∀ (pc : Nat) (L st : List Value) (μ : ev_M) (a : Nat) (k : Fin 4) (x : UInt64), decode cc pc = .ok (.dstore_n k, 1) → (ev_ok2 L (k : Nat)) → P (pc + 1) ((L.set (k : Nat) (.double x)).set ((k : Nat) + 1) .null) (st) μ a → P pc L (.double x :: st) μ a
def ev_c_dstore (cc : ByteArray) (P : Nat → List Value → List Value → ev_M → Nat → Prop) : Prop := ∀ (pc : Nat) (L st : List Value) (μ : ev_M) (a : Nat) (k : Nat) (x : UInt64), decode cc pc = .ok (.dstore k, 2) → (ev_ok2 L k) → P (pc + 2) ((L.set k (.double x)).set (k + 1) .null) (st) μ a → P pc L (.double x :: st) μ a
def ev_c_iinc (cc : ByteArray) (P : Nat → List Value → List Value → ev_M → Nat → Prop) : Prop := ∀ (pc : Nat) (L st : List Value) (μ : ev_M) (a : Nat) (k : Nat) (n : Int) (x : Int32), decode cc pc = .ok (.iinc k n, 3) → (L[k]? = some (.int x)) → (ev_ok1 L k) → P (pc + 3) (L.set k (.int (x + Int32.ofInt n))) (st) μ a → P pc L (st) μ a
def ev_c_iadd (cc : ByteArray) (P : Nat → List Value → List Value → ev_M → Nat → Prop) : Prop := ∀ (pc : Nat) (L st : List Value) (μ : ev_M) (a : Nat) (x y : Int32), decode cc pc = .ok (.iadd, 1) → P (pc + 1) L (.int (x + y) :: st) μ a → P pc L (.int y :: .int x :: st) μ a
def ev_c_isub (cc : ByteArray) (P : Nat → List Value → List Value → ev_M → Nat → Prop) : Prop := ∀ (pc : Nat) (L st : List Value) (μ : ev_M) (a : Nat) (x y : Int32), decode cc pc = .ok (.isub, 1) → P (pc + 1) L (.int (x - y) :: st) μ a → P pc L (.int y :: .int x :: st) μ a
def ev_c_imul (cc : ByteArray) (P : Nat → List Value → List Value → ev_M → Nat → Prop) : Prop := ∀ (pc : Nat) (L st : List Value) (μ : ev_M) (a : Nat) (x y : Int32), decode cc pc = .ok (.imul, 1) → P (pc + 1) L (.int (x * y) :: st) μ a → P pc L (.int y :: .int x :: st) μ a
def ev_c_iand (cc : ByteArray) (P : Nat → List Value → List Value → ev_M → Nat → Prop) : Prop := ∀ (pc : Nat) (L st : List Value) (μ : ev_M) (a : Nat) (x y : Int32), decode cc pc = .ok (.iand, 1) → P (pc + 1) L (.int (x &&& y) :: st) μ a → P pc L (.int y :: .int x :: st) μ a
def ev_c_ior (cc : ByteArray) (P : Nat → List Value → List Value → ev_M → Nat → Prop) : Prop := ∀ (pc : Nat) (L st : List Value) (μ : ev_M) (a : Nat) (x y : Int32), decode cc pc = .ok (.ior, 1) → P (pc + 1) L (.int (x ||| y) :: st) μ a → P pc L (.int y :: .int x :: st) μ a
def ev_c_ishl (cc : ByteArray) (P : Nat → List Value → List Value → ev_M → Nat → Prop) : Prop := ∀ (pc : Nat) (L st : List Value) (μ : ev_M) (a : Nat) (x y : Int32), decode cc pc = .ok (.ishl, 1) → P (pc + 1) L (.int (x <<< (y &&& 31)) :: st) μ a → P pc L (.int y :: .int x :: st) μ a
def ev_c_ishr (cc : ByteArray) (P : Nat → List Value → List Value → ev_M → Nat → Prop) : Prop := ∀ (pc : Nat) (L st : List Value) (μ : ev_M) (a : Nat) (x y : Int32), decode cc pc = .ok (.ishr, 1) → P (pc + 1) L (.int (x >>> (y &&& 31)) :: st) μ a → P pc L (.int y :: .int x :: st) μ a
def ev_c_iushr (cc : ByteArray) (P : Nat → List Value → List Value → ev_M → Nat → Prop) : Prop := ∀ (pc : Nat) (L st : List Value) (μ : ev_M) (a : Nat) (x y : Int32), decode cc pc = .ok (.iushr, 1) → P (pc + 1) L (.int (x.toUInt32 >>> (y.toUInt32 &&& Int32.toUInt32 31)).toInt32 :: st) μ a → P pc L (.int y :: .int x :: st) μ a
def ev_c_idiv (cc : ByteArray) (P : Nat → List Value → List Value → ev_M → Nat → Prop) : Prop := ∀ (pc : Nat) (L st : List Value) (μ : ev_M) (a : Nat) (x y : Int32), decode cc pc = .ok (.idiv, 1) → (¬ y = 0) → P (pc + 1) L (.int (x / y) :: st) μ a → P pc L (.int y :: .int x :: st) μ a
def ev_c_irem (cc : ByteArray) (P : Nat → List Value → List Value → ev_M → Nat → Prop) : Prop := ∀ (pc : Nat) (L st : List Value) (μ : ev_M) (a : Nat) (x y : Int32), decode cc pc = .ok (.irem, 1) → (¬ y = 0) → P (pc + 1) L (.int (x - x / y * y) :: st) μ a → P pc L (.int y :: .int x :: st) μ a
def ev_c_ineg (cc : ByteArray) (P : Nat → List Value → List Value → ev_M → Nat → Prop) : Prop := ∀ (pc : Nat) (L st : List Value) (μ : ev_M) (a : Nat) (x : Int32), decode cc pc = .ok (.ineg, 1) → P (pc + 1) L (.int (-x) :: st) μ a → P pc L (.int x :: st) μ a
def ev_c_ladd (cc : ByteArray) (P : Nat → List Value → List Value → ev_M → Nat → Prop) : Prop := ∀ (pc : Nat) (L st : List Value) (μ : ev_M) (a : Nat) (x y : Int64), decode cc pc = .ok (.ladd, 1) → P (pc + 1) L (.long (x + y) :: st) μ a → P pc L (.long y :: .long x :: st) μ a
def ev_c_lsub (cc : ByteArray) (P : Nat → List Value → List Value → ev_M → Nat → Prop) : Prop := ∀ (pc : Nat) (L st : List Value) (μ : ev_M) (a : Nat) (x y : Int64), decode cc pc = .ok (.lsub, 1) → P (pc + 1) L (.long (x - y) :: st) μ a → P pc L (.long y :: .long x :: st) μ a
def ev_c_lmul (cc : ByteArray) (P : Nat → List Value → List Value → ev_M → Nat → Prop) : Prop := ∀ (pc : Nat) (L st : List Value) (μ : ev_M) (a : Nat) (x y : Int64), decode cc pc = .ok (.lmul, 1) → P (pc + 1) L (.long (x * y) :: st) μ a → P pc L (.long y :: .long x :: st) μ a
def ev_c_lshl (cc : ByteArray) (P : Nat → List Value → List Value → ev_M → Nat → Prop) : Prop := ∀ (pc : Nat) (L st : List Value) (μ : ev_M) (a : Nat) (x : Int64) (y : Int32), decode cc pc = .ok (.lshl, 1) → P (pc + 1) L (.long (x <<< (y.toInt64 &&& 63)) :: st) μ a → P pc L (.int y :: .long x :: st) μ a
def ev_c_lcmp (cc : ByteArray) (P : Nat → List Value → List Value → ev_M → Nat → Prop) : Prop := ∀ (pc : Nat) (L st : List Value) (μ : ev_M) (a : Nat) (x y : Int64), decode cc pc = .ok (.lcmp, 1) → P (pc + 1) L (.int (lg_cmp x y) :: st) μ a → P pc L (.long y :: .long x :: st) μ a
def ev_c_i2l (cc : ByteArray) (P : Nat → List Value → List Value → ev_M → Nat → Prop) : Prop := ∀ (pc : Nat) (L st : List Value) (μ : ev_M) (a : Nat) (x : Int32), decode cc pc = .ok (.i2l, 1) → P (pc + 1) L (.long x.toInt64 :: st) μ a → P pc L (.int x :: st) μ a
def ev_c_i2d (cc : ByteArray) (P : Nat → List Value → List Value → ev_M → Nat → Prop) : Prop := ∀ (pc : Nat) (L st : List Value) (μ : ev_M) (a : Nat) (x : Int32), decode cc pc = .ok (.i2d, 1) → P (pc + 1) L (.double (FP.i2d x) :: st) μ a → P pc L (.int x :: st) μ a
def ev_c_d2l (cc : ByteArray) (P : Nat → List Value → List Value → ev_M → Nat → Prop) : Prop := ∀ (pc : Nat) (L st : List Value) (μ : ev_M) (a : Nat) (x : UInt64), decode cc pc = .ok (.d2l, 1) → P (pc + 1) L (.long (FP.d2l x) :: st) μ a → P pc L (.double x :: st) μ a
def ev_c_dmul (cc : ByteArray) (P : Nat → List Value → List Value → ev_M → Nat → Prop) : Prop := ∀ (pc : Nat) (L st : List Value) (μ : ev_M) (a : Nat) (x y : UInt64), decode cc pc = .ok (.dmul, 1) → (vf_n64 (FP.dmul x y)) → P (pc + 1) L (.double (FP.dmul x y) :: st) μ a → P pc L (.double y :: .double x :: st) μ a
def ev_c_dsub (cc : ByteArray) (P : Nat → List Value → List Value → ev_M → Nat → Prop) : Prop := ∀ (pc : Nat) (L st : List Value) (μ : ev_M) (a : Nat) (x y : UInt64), decode cc pc = .ok (.dsub, 1) → (vf_n64 (FP.dsub x y)) → P (pc + 1) L (.double (FP.dsub x y) :: st) μ a → P pc L (.double y :: .double x :: st) μ a
def ev_c_ddiv (cc : ByteArray) (P : Nat → List Value → List Value → ev_M → Nat → Prop) : Prop := ∀ (pc : Nat) (L st : List Value) (μ : ev_M) (a : Nat) (x y : UInt64), decode cc pc = .ok (.ddiv, 1) → (vf_n64 (FP.ddiv x y)) → P (pc + 1) L (.double (FP.ddiv x y) :: st) μ a → P pc L (.double y :: .double x :: st) μ a
def ev_c_dcmp (cc : ByteArray) (P : Nat → List Value → List Value → ev_M → Nat → Prop) : Prop := ∀ (pc : Nat) (L st : List Value) (μ : ev_M) (a : Nat) (x y : UInt64) (op : CmpOp), decode cc pc = .ok (.dcmp op, 1) → P (pc + 1) L (.int (Op.cmpValue (FP.dcmp x y) op) :: st) μ a → P pc L (.double y :: .double x :: st) μ a
def ev_c_dup (cc : ByteArray) (P : Nat → List Value → List Value → ev_M → Nat → Prop) : Prop := ∀ (pc : Nat) (L st : List Value) (μ : ev_M) (a : Nat) (v : Value), decode cc pc = .ok (.dup, 1) → (v.category = 1) → P (pc + 1) L (v :: v :: st) μ a → P pc L (v :: st) μ a
def ev_c_dup2 (cc : ByteArray) (P : Nat → List Value → List Value → ev_M → Nat → Prop) : Prop := ∀ (pc : Nat) (L st : List Value) (μ : ev_M) (a : Nat) (v w : Value), decode cc pc = .ok (.dup2, 1) → (v.category = 1) → (w.category = 1) → P (pc + 1) L (v :: w :: v :: w :: st) μ a → P pc L (v :: w :: st) μ a
def ev_c_pop (cc : ByteArray) (P : Nat → List Value → List Value → ev_M → Nat → Prop) : Prop := ∀ (pc : Nat) (L st : List Value) (μ : ev_M) (a : Nat) (v : Value), decode cc pc = .ok (.pop, 1) → (v.category = 1) → P (pc + 1) L (st) μ a → P pc L (v :: st) μ a
def ev_c_getI (oc : Nat) (cc : ByteArray) (P : Nat → List Value → List Value → ev_M → Nat → Prop) : Prop := ∀ (pc : Nat) (L st : List Value) (μ : ev_M) (a : Nat) (i k0 ci k : Nat), decode cc pc = .ok (.getfield i, 3) → (ev_fr oc i = some (ci, k)) → (ev_fld k0 ci k = some none) → P (pc + 3) L (.int (μ k0 k) :: st) μ a → P pc L (.ref k0 :: st) μ a
def ev_c_getR (oc : Nat) (cc : ByteArray) (P : Nat → List Value → List Value → ev_M → Nat → Prop) : Prop := ∀ (pc : Nat) (L st : List Value) (μ : ev_M) (a : Nat) (i k0 ci k r : Nat), decode cc pc = .ok (.getfield i, 3) → (ev_fr oc i = some (ci, k)) → (ev_fld k0 ci k = some (some r)) → P (pc + 3) L (.ref r :: st) μ a → P pc L (.ref k0 :: st) μ a
def ev_c_putI (oc : Nat) (cc : ByteArray) (P : Nat → List Value → List Value → ev_M → Nat → Prop) : Prop := ∀ (pc : Nat) (L st : List Value) (μ : ev_M) (a : Nat) (i k0 ci k : Nat) (x : Int32), decode cc pc = .ok (.putfield i, 3) → (ev_fr oc i = some (ci, k)) → (ev_fld k0 ci k = some none) → P (pc + 3) L (st) (ev_ms μ k0 k x) a → P pc L (.int x :: .ref k0 :: st) μ a
def ev_c_gets (oc : Nat) (cc : ByteArray) (P : Nat → List Value → List Value → ev_M → Nat → Prop) : Prop := ∀ (pc : Nat) (L st : List Value) (μ : ev_M) (a : Nat) (i r : Nat), decode cc pc = .ok (.getstatic i, 3) → (ev_sr oc i = some r) → P (pc + 3) L (.ref r :: st) μ a → P pc L (st) μ a
def ev_c_iald (cc : ByteArray) (P : Nat → List Value → List Value → ev_M → Nat → Prop) : Prop := ∀ (pc : Nat) (L st : List Value) (μ : ev_M) (a : Nat) (k0 n i : Nat) (rs : List (Option Nat)), decode cc pc = .ok (.iaload, 1) → (ev_lay k0 = (1, n, rs)) → (i < n) → P (pc + 1) L (.int (μ k0 i) :: st) μ a → P pc L (.int (nI i) :: .ref k0 :: st) μ a
def ev_c_zald (cc : ByteArray) (P : Nat → List Value → List Value → ev_M → Nat → Prop) : Prop := ∀ (pc : Nat) (L st : List Value) (μ : ev_M) (a : Nat) (k0 n i : Nat) (rs : List (Option Nat)), decode cc pc = .ok (.baload, 1) → (ev_lay k0 = (2, n, rs)) → (i < n) → P (pc + 1) L (.int (μ k0 i) :: st) μ a → P pc L (.int (nI i) :: .ref k0 :: st) μ a
def ev_c_lald (cc : ByteArray) (P : Nat → List Value → List Value → ev_M → Nat → Prop) : Prop := ∀ (pc : Nat) (L st : List Value) (μ : ev_M) (a : Nat) (k0 n i : Nat) (rs : List (Option Nat)), decode cc pc = .ok (.laload, 1) → (ev_lay k0 = (4, n, rs)) → (i < n) → P (pc + 1) L (.long (μ k0 i).toInt64 :: st) μ a → P pc L (.int (nI i) :: .ref k0 :: st) μ a
def ev_c_aald (cc : ByteArray) (P : Nat → List Value → List Value → ev_M → Nat → Prop) : Prop := ∀ (pc : Nat) (L st : List Value) (μ : ev_M) (a : Nat) (k0 n i r : Nat) (rs : List (Option Nat)), decode cc pc = .ok (.aaload, 1) → (ev_lay k0 = (3, n, rs)) → (i < n) → (rs.getD i none = some r) → P (pc + 1) L (.ref r :: st) μ a → P pc L (.int (nI i) :: .ref k0 :: st) μ a
def ev_c_aaldq (cc : ByteArray) (P : Nat → List Value → List Value → ev_M → Nat → Prop) : Prop := ∀ (pc : Nat) (L st : List Value) (μ : ev_M) (a : Nat) (k0 n i r : Nat) (rs : List (Option Nat)), decode cc pc = .ok (.aaload, 1) → (ev_lay k0 = (5, n, rs)) → (i < n) → (rs.getD i none = some r) → P (pc + 1) L (.ref r :: st) μ a → P pc L (.int (nI i) :: .ref k0 :: st) μ a
def ev_c_iast (cc : ByteArray) (P : Nat → List Value → List Value → ev_M → Nat → Prop) : Prop := ∀ (pc : Nat) (L st : List Value) (μ : ev_M) (a : Nat) (k0 n i : Nat) (rs : List (Option Nat)) (x : Int32), decode cc pc = .ok (.iastore, 1) → (ev_lay k0 = (1, n, rs)) → (i < n) → P (pc + 1) L (st) (ev_ms μ k0 i x) a → P pc L (.int x :: .int (nI i) :: .ref k0 :: st) μ a
def ev_c_zast (cc : ByteArray) (P : Nat → List Value → List Value → ev_M → Nat → Prop) : Prop := ∀ (pc : Nat) (L st : List Value) (μ : ev_M) (a : Nat) (k0 n i : Nat) (rs : List (Option Nat)) (x : Int32), decode cc pc = .ok (.bastore, 1) → (ev_lay k0 = (2, n, rs)) → (i < n) → (vp_nar .boolean x = x) → P (pc + 1) L (st) (ev_ms μ k0 i x) a → P pc L (.int x :: .int (nI i) :: .ref k0 :: st) μ a
def ev_c_last (cc : ByteArray) (P : Nat → List Value → List Value → ev_M → Nat → Prop) : Prop := ∀ (pc : Nat) (L st : List Value) (μ : ev_M) (a : Nat) (k0 n i : Nat) (rs : List (Option Nat)) (x : Int32), decode cc pc = .ok (.lastore, 1) → (ev_lay k0 = (4, n, rs)) → (i < n) → P (pc + 1) L (st) (ev_ms μ k0 i x) a → P pc L (.long x.toInt64 :: .int (nI i) :: .ref k0 :: st) μ a
def ev_c_sald (cc : ByteArray) (ex : ev_X) (P : Nat → List Value → List Value → ev_M → Nat → Prop) : Prop := ∀ (pc : Nat) (L st : List Value) (μ : ev_M) (a : Nat) (i : Nat), decode cc pc = .ok (.iaload, 1) → (i + 1 < ex.1) → P (pc + 1) L (.int (ex.2.1 i) :: st) μ a → P pc L (.int (nI i) :: .ref 200 :: st) μ a
def ev_c_slen (cc : ByteArray) (ex : ev_X) (P : Nat → List Value → List Value → ev_M → Nat → Prop) : Prop := ∀ (pc : Nat) (L st : List Value) (μ : ev_M) (a : Nat), decode cc pc = .ok (.arraylength, 1) → (0 < ex.1) → P (pc + 1) L (.int (nI (ex.1 - 1)) :: st) μ a → P pc L (.ref 200 :: st) μ a
def ev_c_tald (cc : ByteArray) (P : Nat → List Value → List Value → ev_M → Nat → Prop) : Prop := ∀ (pc : Nat) (L st : List Value) (μ : ev_M) (a : Nat) (r i : Nat) (v : Int32), decode cc pc = .ok (.iaload, 1) → (ev_st r i = some v) → P (pc + 1) L (.int v :: st) μ a → P pc L (.int (nI i) :: .ref r :: st) μ a
def ev_c_copy (oc : Nat) (cc : ByteArray) (P : Nat → List Value → List Value → ev_M → Nat → Prop) : Prop := ∀ (pc : Nat) (L st : List Value) (μ : ev_M) (a : Nat) (i k0 k1 n0 n1 n : Nat) (r0 r1 : List (Option Nat)), decode cc pc = .ok (.invokestatic i, 3) → (ev_cpr oc i = true) → (ev_lay k0 = (1, n0, r0)) → (ev_lay k1 = (1, n1, r1)) → (n ≤ n0) → (n ≤ n1) → ((st.map Value.category).sum ≤ 8) → P (pc + 3) L (st) (ev_cp μ k0 k1 n) a → P pc L (.int (nI n) :: .int (nI 0) :: .ref k1 :: .int (nI 0) :: .ref k0 :: st) μ a
def ev_c_mmax (oc : Nat) (cc : ByteArray) (P : Nat → List Value → List Value → ev_M → Nat → Prop) : Prop := ∀ (pc : Nat) (L st : List Value) (μ : ev_M) (a : Nat) (i : Nat) (x y : Int32), decode cc pc = .ok (.invokestatic i, 3) → (ev_mr oc i = some 901) → ((st.map Value.category).sum ≤ 8) → P (pc + 3) L (.int (if x < y then y else x) :: st) μ a → P pc L (.int y :: .int x :: st) μ a
def ev_c_mmin (oc : Nat) (cc : ByteArray) (P : Nat → List Value → List Value → ev_M → Nat → Prop) : Prop := ∀ (pc : Nat) (L st : List Value) (μ : ev_M) (a : Nat) (i : Nat) (x y : Int32), decode cc pc = .ok (.invokestatic i, 3) → (ev_mr oc i = some 902) → ((st.map Value.category).sum ≤ 8) → P (pc + 3) L (.int (if y < x then y else x) :: st) μ a → P pc L (.int y :: .int x :: st) μ a
def ev_c_mabs (oc : Nat) (cc : ByteArray) (P : Nat → List Value → List Value → ev_M → Nat → Prop) : Prop := ∀ (pc : Nat) (L st : List Value) (μ : ev_M) (a : Nat) (i : Nat) (x : Int32), decode cc pc = .ok (.invokestatic i, 3) → (ev_mr oc i = some 903) → ((st.map Value.category).sum ≤ 8) → P (pc + 3) L (.int (if 0 ≤ x then x else 0 - x) :: st) μ a → P pc L (.int x :: st) μ a
def ev_c_rawl (oc : Nat) (cc : ByteArray) (P : Nat → List Value → List Value → ev_M → Nat → Prop) : Prop := ∀ (pc : Nat) (L st : List Value) (μ : ev_M) (a : Nat) (i : Nat) (x : UInt64), decode cc pc = .ok (.invokestatic i, 3) → (ev_mr oc i = some 904) → ((st.map Value.category).sum ≤ 8) → P (pc + 3) L (.long x.toInt64 :: st) μ a → P pc L (.double x :: st) μ a
def ev_c_icmp_eq (cc : ByteArray) (P : Nat → List Value → List Value → ev_M → Nat → Prop) : Prop := ∀ (pc : Nat) (L st : List Value) (μ : ev_M) (a : Nat) (x y : Int32) (off : Int) (tgt : Nat), decode cc pc = .ok (.if_icmp .eq off, 3) → (pc : Int) + off = (tgt : Int) → (x = y → P tgt L st μ a) → (¬ (x = y) → P (pc + 3) L st μ a) → P pc L (.int y :: .int x :: st) μ a
def ev_c_icmp_ne (cc : ByteArray) (P : Nat → List Value → List Value → ev_M → Nat → Prop) : Prop := ∀ (pc : Nat) (L st : List Value) (μ : ev_M) (a : Nat) (x y : Int32) (off : Int) (tgt : Nat), decode cc pc = .ok (.if_icmp .ne off, 3) → (pc : Int) + off = (tgt : Int) → (¬ x = y → P tgt L st μ a) → (x = y → P (pc + 3) L st μ a) → P pc L (.int y :: .int x :: st) μ a
def ev_c_icmp_lt (cc : ByteArray) (P : Nat → List Value → List Value → ev_M → Nat → Prop) : Prop := ∀ (pc : Nat) (L st : List Value) (μ : ev_M) (a : Nat) (x y : Int32) (off : Int) (tgt : Nat), decode cc pc = .ok (.if_icmp .lt off, 3) → (pc : Int) + off = (tgt : Int) → (x < y → P tgt L st μ a) → (¬ (x < y) → P (pc + 3) L st μ a) → P pc L (.int y :: .int x :: st) μ a
def ev_c_icmp_ge (cc : ByteArray) (P : Nat → List Value → List Value → ev_M → Nat → Prop) : Prop := ∀ (pc : Nat) (L st : List Value) (μ : ev_M) (a : Nat) (x y : Int32) (off : Int) (tgt : Nat), decode cc pc = .ok (.if_icmp .ge off, 3) → (pc : Int) + off = (tgt : Int) → (y ≤ x → P tgt L st μ a) → (¬ (y ≤ x) → P (pc + 3) L st μ a) → P pc L (.int y :: .int x :: st) μ a
def ev_c_icmp_gt (cc : ByteArray) (P : Nat → List Value → List Value → ev_M → Nat → Prop) : Prop := ∀ (pc : Nat) (L st : List Value) (μ : ev_M) (a : Nat) (x y : Int32) (off : Int) (tgt : Nat), decode cc pc = .ok (.if_icmp .gt off, 3) → (pc : Int) + off = (tgt : Int) → (y < x → P tgt L st μ a) → (¬ (y < x) → P (pc + 3) L st μ a) → P pc L (.int y :: .int x :: st) μ a
def ev_c_icmp_le (cc : ByteArray) (P : Nat → List Value → List Value → ev_M → Nat → Prop) : Prop := ∀ (pc : Nat) (L st : List Value) (μ : ev_M) (a : Nat) (x y : Int32) (off : Int) (tgt : Nat), decode cc pc = .ok (.if_icmp .le off, 3) → (pc : Int) + off = (tgt : Int) → (x ≤ y → P tgt L st μ a) → (¬ (x ≤ y) → P (pc + 3) L st μ a) → P pc L (.int y :: .int x :: st) μ a
def ev_c_if_eq (cc : ByteArray) (P : Nat → List Value → List Value → ev_M → Nat → Prop) : Prop := ∀ (pc : Nat) (L st : List Value) (μ : ev_M) (a : Nat) (x : Int32) (off : Int) (tgt : Nat), decode cc pc = .ok (.ifCond .eq off, 3) → (pc : Int) + off = (tgt : Int) → (x = 0 → P tgt L st μ a) → (¬ (x = 0) → P (pc + 3) L st μ a) → P pc L (.int x :: st) μ a
def ev_c_if_ne (cc : ByteArray) (P : Nat → List Value → List Value → ev_M → Nat → Prop) : Prop := ∀ (pc : Nat) (L st : List Value) (μ : ev_M) (a : Nat) (x : Int32) (off : Int) (tgt : Nat), decode cc pc = .ok (.ifCond .ne off, 3) → (pc : Int) + off = (tgt : Int) → (¬ x = 0 → P tgt L st μ a) → (x = 0 → P (pc + 3) L st μ a) → P pc L (.int x :: st) μ a
def ev_c_if_lt (cc : ByteArray) (P : Nat → List Value → List Value → ev_M → Nat → Prop) : Prop := ∀ (pc : Nat) (L st : List Value) (μ : ev_M) (a : Nat) (x : Int32) (off : Int) (tgt : Nat), decode cc pc = .ok (.ifCond .lt off, 3) → (pc : Int) + off = (tgt : Int) → (x < 0 → P tgt L st μ a) → (¬ (x < 0) → P (pc + 3) L st μ a) → P pc L (.int x :: st) μ a
def ev_c_if_ge (cc : ByteArray) (P : Nat → List Value → List Value → ev_M → Nat → Prop) : Prop := ∀ (pc : Nat) (L st : List Value) (μ : ev_M) (a : Nat) (x : Int32) (off : Int) (tgt : Nat), decode cc pc = .ok (.ifCond .ge off, 3) → (pc : Int) + off = (tgt : Int) → (0 ≤ x → P tgt L st μ a) → (¬ (0 ≤ x) → P (pc + 3) L st μ a) → P pc L (.int x :: st) μ a
def ev_c_if_gt (cc : ByteArray) (P : Nat → List Value → List Value → ev_M → Nat → Prop) : Prop := ∀ (pc : Nat) (L st : List Value) (μ : ev_M) (a : Nat) (x : Int32) (off : Int) (tgt : Nat), decode cc pc = .ok (.ifCond .gt off, 3) → (pc : Int) + off = (tgt : Int) → (0 < x → P tgt L st μ a) → (¬ (0 < x) → P (pc + 3) L st μ a) → P pc L (.int x :: st) μ a
def ev_c_if_le (cc : ByteArray) (P : Nat → List Value → List Value → ev_M → Nat → Prop) : Prop := ∀ (pc : Nat) (L st : List Value) (μ : ev_M) (a : Nat) (x : Int32) (off : Int) (tgt : Nat), decode cc pc = .ok (.ifCond .le off, 3) → (pc : Int) + off = (tgt : Int) → (x ≤ 0 → P tgt L st μ a) → (¬ (x ≤ 0) → P (pc + 3) L st μ a) → P pc L (.int x :: st) μ a
def ev_c_goto (cc : ByteArray) (P : Nat → List Value → List Value → ev_M → Nat → Prop) : Prop := ∀ (pc : Nat) (L st : List Value) (μ : ev_M) (a : Nat) (off : Int) (tgt : Nat), decode cc pc = .ok (.goto off, 3) → (pc : Int) + off = (tgt : Int) → P tgt L st μ a → P pc L st μ a
def ev_c_tabin (cc : ByteArray) (P : Nat → List Value → List Value → ev_M → Nat → Prop) : Prop := ∀ (pc : Nat) (L st : List Value) (μ : ev_M) (a : Nat) (x : Int32) (dflt lo hi off : Int) (offs : Array Int) (len tgt : Nat), decode cc pc = .ok (.tableswitch dflt lo hi offs, len) → ¬ x.toInt < lo → ¬ hi < x.toInt → offs[(x.toInt - lo).toNat]? = some off → (pc : Int) + off = (tgt : Int) → P tgt L st μ a → P pc L (.int x :: st) μ a
def ev_c_tabout (cc : ByteArray) (P : Nat → List Value → List Value → ev_M → Nat → Prop) : Prop := ∀ (pc : Nat) (L st : List Value) (μ : ev_M) (a : Nat) (x : Int32) (dflt lo hi : Int) (offs : Array Int) (len tgt : Nat), decode cc pc = .ok (.tableswitch dflt lo hi offs, len) → (x.toInt < lo ∨ hi < x.toInt) → (pc : Int) + dflt = (tgt : Int) → P tgt L st μ a → P pc L (.int x :: st) μ a
def ev_c_look (cc : ByteArray) (P : Nat → List Value → List Value → ev_M → Nat → Prop) : Prop := ∀ (pc : Nat) (L st : List Value) (μ : ev_M) (a : Nat) (x : Int32) (dflt off : Int) (ps : Array (Int × Int)) (len tgt : Nat), decode cc pc = .ok (.lookupswitch dflt ps, len) → (ps.toList.zip (ps.toList.drop 1)).all (fun (a, next) => a.1 < next.1) = true → Op.lookupswitch.offset ps.toList dflt x.toInt = off → (pc : Int) + off = (tgt : Int) → P tgt L st μ a → P pc L (.int x :: st) μ a
def ev_c_forget  (P : Nat → List Value → List Value → ev_M → Nat → Prop) : Prop := ∀ (pc : Nat) (L L2 st : List Value) (μ : ev_M) (a : Nat), ev_wk L L2 → P pc L2 st μ a → P pc L st μ a
def ev_c_callv (call : Nat → List Value → ev_M → ev_R → ev_M → Prop) (oc : Nat) (cc : ByteArray) (am : Nat) (P : Nat → List Value → List Value → ev_M → Nat → Prop) : Prop := ∀ (pc : Nat) (L st : List Value) (μ μ2 : ev_M) (a i y r : Nat) (as : List Value) (v : Option Value), decode cc pc = .ok (.invokevirtual i, 3) → ev_mr oc i = some y → ev_kd y = 0 → as.length = ev_np y → (ev_lay r).1 = 0 → (ev_lay r).2.1 = ev_yo y → call y (.ref r :: as) μ (v, 0) μ2 → a + ev_mc y ≤ am → (st.map Value.category).sum ≤ 8 → P (pc + 3) L (v.toList ++ st) μ2 (a + ev_mc y) → P pc L (as.reverse ++ .ref r :: st) μ a
def ev_c_calls (call : Nat → List Value → ev_M → ev_R → ev_M → Prop) (oc : Nat) (cc : ByteArray) (am : Nat) (P : Nat → List Value → List Value → ev_M → Nat → Prop) : Prop := ∀ (pc : Nat) (L st : List Value) (μ μ2 : ev_M) (a i y : Nat) (as : List Value) (v : Option Value), decode cc pc = .ok (.invokestatic i, 3) → ev_mr oc i = some y → ev_kd y = 1 → as.length = ev_np y → call y as μ (v, 0) μ2 → a + ev_mc y ≤ am → (st.map Value.category).sum ≤ 8 → P (pc + 3) L (v.toList ++ st) μ2 (a + ev_mc y) → P pc L (as.reverse ++ st) μ a
def ev_c_catch_n (call : Nat → List Value → ev_M → ev_R → ev_M → Prop) (oc : Nat) (cc : ByteArray) (rt : Option FieldType) (am : Nat) (ex : ev_X) (rf : ev_R) (μf : ev_M) (P : Nat → List Value → List Value → ev_M → Nat → Prop) : Prop := ∀ (pc : Nat) (L st : List Value) (μ μ2 : ev_M) (a i y r E hp : Nat) (as : List Value) (k : Fin 4) (n : Int), decode cc pc = .ok (.invokevirtual i, 3) → ev_mr oc i = some y → ev_kd y = 0 → as.length = ev_np y → (ev_lay r).1 = 0 → (ev_lay r).2.1 = ev_yo y → ev_th y = 1 → oc = 9 → call y (.ref r :: as) μ (none, E + 1) μ2 → a + ev_mc y ≤ am → (st.map Value.category).sum ≤ 8 → E < 3 → (ex.2.2.all (fun h => decide (h.2.2.2 = ev_ct 0) || decide (h.2.2.2 = ev_ct 1) || decide (h.2.2.2 = ev_ct 2))) = true → ev_hd ex.2.2 pc E = some hp → (k : Nat) < L.length → decode cc hp = .ok (.astore_n k, 1) → decode cc (hp + 1) = .ok (.iconst n, 1) → decode cc (hp + 1 + 1) = .ok (.ireturn, 1) → rt = some .int → rf = (some (.int (Int32.ofInt n)), 0) → μf = μ2 → P pc L (as.reverse ++ .ref r :: st) μ a
def ev_c_catch (call : Nat → List Value → ev_M → ev_R → ev_M → Prop) (oc : Nat) (cc : ByteArray) (rt : Option FieldType) (am : Nat) (ex : ev_X) (rf : ev_R) (μf : ev_M) (P : Nat → List Value → List Value → ev_M → Nat → Prop) : Prop := ∀ (pc : Nat) (L st : List Value) (μ μ2 : ev_M) (a i y r E hp : Nat) (as : List Value) (k : Nat) (n : Int), decode cc pc = .ok (.invokevirtual i, 3) → ev_mr oc i = some y → ev_kd y = 0 → as.length = ev_np y → (ev_lay r).1 = 0 → (ev_lay r).2.1 = ev_yo y → ev_th y = 1 → oc = 9 → call y (.ref r :: as) μ (none, E + 1) μ2 → a + ev_mc y ≤ am → (st.map Value.category).sum ≤ 8 → E < 3 → (ex.2.2.all (fun h => decide (h.2.2.2 = ev_ct 0) || decide (h.2.2.2 = ev_ct 1) || decide (h.2.2.2 = ev_ct 2))) = true → ev_hd ex.2.2 pc E = some hp → (k : Nat) < L.length → decode cc hp = .ok (.astore k, 2) → decode cc (hp + 2) = .ok (.iconst n, 1) → decode cc (hp + 2 + 1) = .ok (.ireturn, 1) → rt = some .int → rf = (some (.int (Int32.ofInt n)), 0) → μf = μ2 → P pc L (as.reverse ++ .ref r :: st) μ a
def ev_c_ireturn (cc : ByteArray) (rt : Option FieldType) (am : Nat) (rf : ev_R) (μf : ev_M) (P : Nat → List Value → List Value → ev_M → Nat → Prop) : Prop := ∀ (pc : Nat) (L : List Value) (μ : ev_M) (a : Nat) (x : Int32) (ty : FieldType), decode cc pc = .ok (.ireturn, 1) → rt = some ty → narrow ty (.int x) = .int x → rf = (some (.int x), 0) → μf = μ → a ≤ am → P pc L [.int x] μ a
def ev_c_lreturn (cc : ByteArray) (rt : Option FieldType) (am : Nat) (rf : ev_R) (μf : ev_M) (P : Nat → List Value → List Value → ev_M → Nat → Prop) : Prop := ∀ (pc : Nat) (L : List Value) (μ : ev_M) (a : Nat) (x : Int64), decode cc pc = .ok (.lreturn, 1) → rt = some .long → rf = (some (.long x), 0) → μf = μ → a ≤ am → P pc L [.long x] μ a
def ev_c_dreturn (cc : ByteArray) (rt : Option FieldType) (am : Nat) (rf : ev_R) (μf : ev_M) (P : Nat → List Value → List Value → ev_M → Nat → Prop) : Prop := ∀ (pc : Nat) (L : List Value) (μ : ev_M) (a : Nat) (x : UInt64), decode cc pc = .ok (.dreturn, 1) → rt = some .double → rf = (some (.double x), 0) → μf = μ → a ≤ am → P pc L [.double x] μ a
def ev_c_vreturn (cc : ByteArray) (rt : Option FieldType) (am : Nat) (rf : ev_R) (μf : ev_M) (P : Nat → List Value → List Value → ev_M → Nat → Prop) : Prop := ∀ (pc : Nat) (L : List Value) (μ : ev_M) (a : Nat), decode cc pc = .ok (.return_, 1) → rt = none → rf = (none, 0) → μf = μ → a ≤ am → P pc L [] μ a
def ev_c_throw (oc : Nat) (cc : ByteArray) (am : Nat) (rf : ev_R) (μf : ev_M) (P : Nat → List Value → List Value → ev_M → Nat → Prop) : Prop := ∀ (pc : Nat) (L : List Value) (μ : ev_M) (a ik is ic E : Nat), decode cc pc = .ok (.new ik, 3) → decode cc (pc + 3) = .ok (.dup, 1) → decode cc (pc + 4) = .ok (.ldc is, 2) → decode cc (pc + 6) = .ok (.invokespecial ic, 3) → decode cc (pc + 9) = .ok (.athrow, 1) → ev_tr oc ik is ic = some E → a + 1 ≤ am → rf = (none, E + 1) → μf = μ → P pc L [] μ a
def ev_c_throww (oc : Nat) (cc : ByteArray) (am : Nat) (rf : ev_R) (μf : ev_M) (P : Nat → List Value → List Value → ev_M → Nat → Prop) : Prop := ∀ (pc : Nat) (L : List Value) (μ : ev_M) (a ik is ic E : Nat), decode cc pc = .ok (.new ik, 3) → decode cc (pc + 3) = .ok (.dup, 1) → decode cc (pc + 4) = .ok (.ldc_w is, 3) → decode cc (pc + 7) = .ok (.invokespecial ic, 3) → decode cc (pc + 10) = .ok (.athrow, 1) → ev_tr oc ik is ic = some E → a + 1 ≤ am → rf = (none, E + 1) → μf = μ → P pc L [] μ a
def ev_Cl (call : Nat → List Value → ev_M → ev_R → ev_M → Prop) (oc : Nat) (cc : ByteArray) (rt : Option FieldType) (am : Nat) (ex : ev_X) (rf : ev_R) (μf : ev_M) (P : Nat → List Value → List Value → ev_M → Nat → Prop) : Prop :=
  ev_c_iconst cc P ∧
  ev_c_bipush cc P ∧
  ev_c_sipush cc P ∧
  ev_c_lconst cc P ∧
  ev_c_dconst0 cc P ∧
  ev_c_dconst1 cc P ∧
  ev_c_ldc oc cc P ∧
  ev_c_ldcw oc cc P ∧
  ev_c_ldc2 oc cc P ∧
  ev_c_ldc2d oc cc P ∧
  ev_c_iload_n cc P ∧
  ev_c_iload cc P ∧
  ev_c_lload_n cc P ∧
  ev_c_lload cc P ∧
  ev_c_dload_n cc P ∧
  ev_c_dload cc P ∧
  ev_c_aload_n cc P ∧
  ev_c_aload cc P ∧
  ev_c_istore_n cc P ∧
  ev_c_istore cc P ∧
  ev_c_astore_n cc P ∧
  ev_c_astore cc P ∧
  ev_c_lstore_n cc P ∧
  ev_c_lstore cc P ∧
  ev_c_dstore_n cc P ∧
  ev_c_dstore cc P ∧
  ev_c_iinc cc P ∧
  ev_c_iadd cc P ∧
  ev_c_isub cc P ∧
  ev_c_imul cc P ∧
  ev_c_iand cc P ∧
  ev_c_ior cc P ∧
  ev_c_ishl cc P ∧
  ev_c_ishr cc P ∧
  ev_c_iushr cc P ∧
  ev_c_idiv cc P ∧
  ev_c_irem cc P ∧
  ev_c_ineg cc P ∧
  ev_c_ladd cc P ∧
  ev_c_lsub cc P ∧
  ev_c_lmul cc P ∧
  ev_c_lshl cc P ∧
  ev_c_lcmp cc P ∧
  ev_c_i2l cc P ∧
  ev_c_i2d cc P ∧
  ev_c_d2l cc P ∧
  ev_c_dmul cc P ∧
  ev_c_dsub cc P ∧
  ev_c_ddiv cc P ∧
  ev_c_dcmp cc P ∧
  ev_c_dup cc P ∧
  ev_c_dup2 cc P ∧
  ev_c_pop cc P ∧
  ev_c_getI oc cc P ∧
  ev_c_getR oc cc P ∧
  ev_c_putI oc cc P ∧
  ev_c_gets oc cc P ∧
  ev_c_iald cc P ∧
  ev_c_zald cc P ∧
  ev_c_lald cc P ∧
  ev_c_aald cc P ∧
  ev_c_aaldq cc P ∧
  ev_c_iast cc P ∧
  ev_c_zast cc P ∧
  ev_c_last cc P ∧
  ev_c_sald cc ex P ∧
  ev_c_slen cc ex P ∧
  ev_c_tald cc P ∧
  ev_c_copy oc cc P ∧
  ev_c_mmax oc cc P ∧
  ev_c_mmin oc cc P ∧
  ev_c_mabs oc cc P ∧
  ev_c_rawl oc cc P ∧
  ev_c_icmp_eq cc P ∧
  ev_c_icmp_ne cc P ∧
  ev_c_icmp_lt cc P ∧
  ev_c_icmp_ge cc P ∧
  ev_c_icmp_gt cc P ∧
  ev_c_icmp_le cc P ∧
  ev_c_if_eq cc P ∧
  ev_c_if_ne cc P ∧
  ev_c_if_lt cc P ∧
  ev_c_if_ge cc P ∧
  ev_c_if_gt cc P ∧
  ev_c_if_le cc P ∧
  ev_c_goto cc P ∧
  ev_c_tabin cc P ∧
  ev_c_tabout cc P ∧
  ev_c_look cc P ∧
  ev_c_forget  P ∧
  ev_c_callv call oc cc am P ∧
  ev_c_calls call oc cc am P ∧
  ev_c_catch_n call oc cc rt am ex rf μf P ∧
  ev_c_catch call oc cc rt am ex rf μf P ∧
  ev_c_ireturn cc rt am rf μf P ∧
  ev_c_lreturn cc rt am rf μf P ∧
  ev_c_dreturn cc rt am rf μf P ∧
  ev_c_vreturn cc rt am rf μf P ∧
  ev_c_throw oc cc am rf μf P ∧
  ev_c_throww oc cc am rf μf P
/-- from here the method comes to the result rf with the world μf -/
def ev_Ev (call : Nat → List Value → ev_M → ev_R → ev_M → Prop) (oc : Nat) (cc : ByteArray) (rt : Option FieldType) (am : Nat) (ex : ev_X) (rf : ev_R) (μf : ev_M) (pc : Nat) (L st : List Value) (μ : ev_M) (a : Nat) : Prop := ∀ P : Nat → List Value → List Value → ev_M → Nat → Prop, ev_Cl call oc cc rt am ex rf μf P → P pc L st μ a
section EvRows
variable {call : Nat → List Value → ev_M → ev_R → ev_M → Prop} {oc : Nat} {cc : ByteArray} {rt : Option FieldType} {am : Nat} {ex : ev_X} {rf : ev_R} {μf : ev_M}
theorem ev_iconst {pc : Nat} {L st : List Value} {μ : ev_M} {a : Nat} {n : Int} (h0 : decode cc pc = .ok (.iconst n, 1)) (k1 : ev_Ev call oc cc rt am ex rf μf (pc + 1) L (.int (Int32.ofInt n) :: st) μ a) : ev_Ev call oc cc rt am ex rf μf pc L (st) μ a := fun P hP => hP.1 _ _ _ _ _ _ h0 (k1 P hP)
theorem ev_bipush {pc : Nat} {L st : List Value} {μ : ev_M} {a : Nat} {n : Int} (h0 : decode cc pc = .ok (.bipush n, 2)) (k1 : ev_Ev call oc cc rt am ex rf μf (pc + 2) L (.int ((Int8.ofInt n).toInt32) :: st) μ a) : ev_Ev call oc cc rt am ex rf μf pc L (st) μ a := fun P hP => hP.2.1 _ _ _ _ _ _ h0 (k1 P hP)
theorem ev_sipush {pc : Nat} {L st : List Value} {μ : ev_M} {a : Nat} {n : Int} (h0 : decode cc pc = .ok (.sipush n, 3)) (k1 : ev_Ev call oc cc rt am ex rf μf (pc + 3) L (.int ((Int16.ofInt n).toInt32) :: st) μ a) : ev_Ev call oc cc rt am ex rf μf pc L (st) μ a := fun P hP => hP.2.2.1 _ _ _ _ _ _ h0 (k1 P hP)
theorem ev_lconst {pc : Nat} {L st : List Value} {μ : ev_M} {a : Nat} {n : Fin 2} (h0 : decode cc pc = .ok (.lconst n, 1)) (k1 : ev_Ev call oc cc rt am ex rf μf (pc + 1) L (.long (Int64.ofNat (n : Nat)) :: st) μ a) : ev_Ev call oc cc rt am ex rf μf pc L (st) μ a := fun P hP => hP.2.2.2.1 _ _ _ _ _ _ h0 (k1 P hP)
theorem ev_dconst0 {pc : Nat} {L st : List Value} {μ : ev_M} {a : Nat} (h0 : decode cc pc = .ok (.dconst 0, 1)) (k1 : ev_Ev call oc cc rt am ex rf μf (pc + 1) L (.double FP.dconst0 :: st) μ a) : ev_Ev call oc cc rt am ex rf μf pc L (st) μ a := fun P hP => hP.2.2.2.2.1 _ _ _ _ _ h0 (k1 P hP)
theorem ev_dconst1 {pc : Nat} {L st : List Value} {μ : ev_M} {a : Nat} (h0 : decode cc pc = .ok (.dconst 1, 1)) (k1 : ev_Ev call oc cc rt am ex rf μf (pc + 1) L (.double FP.dconst1 :: st) μ a) : ev_Ev call oc cc rt am ex rf μf pc L (st) μ a := fun P hP => hP.2.2.2.2.2.1 _ _ _ _ _ h0 (k1 P hP)
theorem ev_ldc {pc : Nat} {L st : List Value} {μ : ev_M} {a : Nat} {i : Nat} {v : Int32} (h0 : decode cc pc = .ok (.ldc i, 2)) (h1 : (ev_ci oc i = some v)) (k2 : ev_Ev call oc cc rt am ex rf μf (pc + 2) L (.int v :: st) μ a) : ev_Ev call oc cc rt am ex rf μf pc L (st) μ a := fun P hP => hP.2.2.2.2.2.2.1 _ _ _ _ _ _ _ h0 h1 (k2 P hP)
theorem ev_ldcw {pc : Nat} {L st : List Value} {μ : ev_M} {a : Nat} {i : Nat} {v : Int32} (h0 : decode cc pc = .ok (.ldc_w i, 3)) (h1 : (ev_ci oc i = some v)) (k2 : ev_Ev call oc cc rt am ex rf μf (pc + 3) L (.int v :: st) μ a) : ev_Ev call oc cc rt am ex rf μf pc L (st) μ a := fun P hP => hP.2.2.2.2.2.2.2.1 _ _ _ _ _ _ _ h0 h1 (k2 P hP)
theorem ev_ldc2 {pc : Nat} {L st : List Value} {μ : ev_M} {a : Nat} {i : Nat} {v : Int64} (h0 : decode cc pc = .ok (.ldc2_w i, 3)) (h1 : (ev_cl oc i = some v)) (k2 : ev_Ev call oc cc rt am ex rf μf (pc + 3) L (.long v :: st) μ a) : ev_Ev call oc cc rt am ex rf μf pc L (st) μ a := fun P hP => hP.2.2.2.2.2.2.2.2.1 _ _ _ _ _ _ _ h0 h1 (k2 P hP)
theorem ev_ldc2d {pc : Nat} {L st : List Value} {μ : ev_M} {a : Nat} {i : Nat} {v : UInt64} (h0 : decode cc pc = .ok (.ldc2_w i, 3)) (h1 : (ev_cd oc i = some v)) (k2 : ev_Ev call oc cc rt am ex rf μf (pc + 3) L (.double v :: st) μ a) : ev_Ev call oc cc rt am ex rf μf pc L (st) μ a := fun P hP => hP.2.2.2.2.2.2.2.2.2.1 _ _ _ _ _ _ _ h0 h1 (k2 P hP)
theorem ev_iload_n {pc : Nat} {L st : List Value} {μ : ev_M} {a : Nat} {k : Fin 4} {x : Int32} (h0 : decode cc pc = .ok (.iload_n k, 1)) (h1 : (L[(k : Nat)]? = some (.int x))) (k2 : ev_Ev call oc cc rt am ex rf μf (pc + 1) L (.int x :: st) μ a) : ev_Ev call oc cc rt am ex rf μf pc L (st) μ a := fun P hP => hP.2.2.2.2.2.2.2.2.2.2.1 _ _ _ _ _ _ _ h0 h1 (k2 P hP)
theorem ev_iload {pc : Nat} {L st : List Value} {μ : ev_M} {a : Nat} {k : Nat} {x : Int32} (h0 : decode cc pc = .ok (.iload k, 2)) (h1 : (L[k]? = some (.int x))) (k2 : ev_Ev call oc cc rt am ex rf μf (pc + 2) L (.int x :: st) μ a) : ev_Ev call oc cc rt am ex rf μf pc L (st) μ a := fun P hP => hP.2.2.2.2.2.2.2.2.2.2.2.1 _ _ _ _ _ _ _ h0 h1 (k2 P hP)
theorem ev_lload_n {pc : Nat} {L st : List Value} {μ : ev_M} {a : Nat} {k : Fin 4} {x : Int64} (h0 : decode cc pc = .ok (.lload_n k, 1)) (h1 : (L[(k : Nat)]? = some (.long x))) (k2 : ev_Ev call oc cc rt am ex rf μf (pc + 1) L (.long x :: st) μ a) : ev_Ev call oc cc rt am ex rf μf pc L (st) μ a := fun P hP => hP.2.2.2.2.2.2.2.2.2.2.2.2.1 _ _ _ _ _ _ _ h0 h1 (k2 P hP)
theorem ev_lload {pc : Nat} {L st : List Value} {μ : ev_M} {a : Nat} {k : Nat} {x : Int64} (h0 : decode cc pc = .ok (.lload k, 2)) (h1 : (L[k]? = some (.long x))) (k2 : ev_Ev call oc cc rt am ex rf μf (pc + 2) L (.long x :: st) μ a) : ev_Ev call oc cc rt am ex rf μf pc L (st) μ a := fun P hP => hP.2.2.2.2.2.2.2.2.2.2.2.2.2.1 _ _ _ _ _ _ _ h0 h1 (k2 P hP)
theorem ev_dload_n {pc : Nat} {L st : List Value} {μ : ev_M} {a : Nat} {k : Fin 4} {x : UInt64} (h0 : decode cc pc = .ok (.dload_n k, 1)) (h1 : (L[(k : Nat)]? = some (.double x))) (k2 : ev_Ev call oc cc rt am ex rf μf (pc + 1) L (.double x :: st) μ a) : ev_Ev call oc cc rt am ex rf μf pc L (st) μ a := fun P hP => hP.2.2.2.2.2.2.2.2.2.2.2.2.2.2.1 _ _ _ _ _ _ _ h0 h1 (k2 P hP)
theorem ev_dload {pc : Nat} {L st : List Value} {μ : ev_M} {a : Nat} {k : Nat} {x : UInt64} (h0 : decode cc pc = .ok (.dload k, 2)) (h1 : (L[k]? = some (.double x))) (k2 : ev_Ev call oc cc rt am ex rf μf (pc + 2) L (.double x :: st) μ a) : ev_Ev call oc cc rt am ex rf μf pc L (st) μ a := fun P hP => hP.2.2.2.2.2.2.2.2.2.2.2.2.2.2.2.1 _ _ _ _ _ _ _ h0 h1 (k2 P hP)
theorem ev_aload_n {pc : Nat} {L st : List Value} {μ : ev_M} {a : Nat} {k : Fin 4} {x : Nat} (h0 : decode cc pc = .ok (.aload_n k, 1)) (h1 : (L[(k : Nat)]? = some (.ref x))) (k2 : ev_Ev call oc cc rt am ex rf μf (pc + 1) L (.ref x :: st) μ a) : ev_Ev call oc cc rt am ex rf μf pc L (st) μ a := fun P hP => hP.2.2.2.2.2.2.2.2.2.2.2.2.2.2.2.2.1 _ _ _ _ _ _ _ h0 h1 (k2 P hP)
theorem ev_aload {pc : Nat} {L st : List Value} {μ : ev_M} {a : Nat} {k : Nat} {x : Nat} (h0 : decode cc pc = .ok (.aload k, 2)) (h1 : (L[k]? = some (.ref x))) (k2 : ev_Ev call oc cc rt am ex rf μf (pc + 2) L (.ref x :: st) μ a) : ev_Ev call oc cc rt am ex rf μf pc L (st) μ a := fun P hP => hP.2.2.2.2.2.2.2.2.2.2.2.2.2.2.2.2.2.1 _ _ _ _ _ _ _ h0 h1 (k2 P hP)
theorem ev_istore_n {pc : Nat} {L st : List Value} {μ : ev_M} {a : Nat} {k : Fin 4} {x : Int32} (h0 : decode cc pc = .ok (.istore_n k, 1)) (h1 : (ev_ok1 L (k : Nat))) (k2 : ev_Ev call oc cc rt am ex rf μf (pc + 1) (L.set (k : Nat) (.int x)) (st) μ a) : ev_Ev call oc cc rt am ex rf μf pc L (.int x :: st) μ a := fun P hP => hP.2.2.2.2.2.2.2.2.2.2.2.2.2.2.2.2.2.2.1 _ _ _ _ _ _ _ h0 h1 (k2 P hP)
theorem ev_istore {pc : Nat} {L st : List Value} {μ : ev_M} {a : Nat} {k : Nat} {x : Int32} (h0 : decode cc pc = .ok (.istore k, 2)) (h1 : (ev_ok1 L k)) (k2 : ev_Ev call oc cc rt am ex rf μf (pc + 2) (L.set k (.int x)) (st) μ a) : ev_Ev call oc cc rt am ex rf μf pc L (.int x :: st) μ a := fun P hP => hP.2.2.2.2.2.2.2.2.2.2.2.2.2.2.2.2.2.2.2.1 _ _ _ _ _ _ _ h0 h1 (k2 P hP)
theorem ev_astore_n {pc : Nat} {L st : List Value} {μ : ev_M} {a : Nat} {k : Fin 4} {x : Nat} (h0 : decode cc pc = .ok (.astore_n k, 1)) (h1 : (ev_ok1 L (k : Nat))) (k2 : ev_Ev call oc cc rt am ex rf μf (pc + 1) (L.set (k : Nat) (.ref x)) (st) μ a) : ev_Ev call oc cc rt am ex rf μf pc L (.ref x :: st) μ a := fun P hP => hP.2.2.2.2.2.2.2.2.2.2.2.2.2.2.2.2.2.2.2.2.1 _ _ _ _ _ _ _ h0 h1 (k2 P hP)
theorem ev_astore {pc : Nat} {L st : List Value} {μ : ev_M} {a : Nat} {k : Nat} {x : Nat} (h0 : decode cc pc = .ok (.astore k, 2)) (h1 : (ev_ok1 L k)) (k2 : ev_Ev call oc cc rt am ex rf μf (pc + 2) (L.set k (.ref x)) (st) μ a) : ev_Ev call oc cc rt am ex rf μf pc L (.ref x :: st) μ a := fun P hP => hP.2.2.2.2.2.2.2.2.2.2.2.2.2.2.2.2.2.2.2.2.2.1 _ _ _ _ _ _ _ h0 h1 (k2 P hP)
theorem ev_lstore_n {pc : Nat} {L st : List Value} {μ : ev_M} {a : Nat} {k : Fin 4} {x : Int64} (h0 : decode cc pc = .ok (.lstore_n k, 1)) (h1 : (ev_ok2 L (k : Nat))) (k2 : ev_Ev call oc cc rt am ex rf μf (pc + 1) ((L.set (k : Nat) (.long x)).set ((k : Nat) + 1) .null) (st) μ a) : ev_Ev call oc cc rt am ex rf μf pc L (.long x :: st) μ a := fun P hP => hP.2.2.2.2.2.2.2.2.2.2.2.2.2.2.2.2.2.2.2.2.2.2.1 _ _ _ _ _ _ _ h0 h1 (k2 P hP)
theorem ev_lstore {pc : Nat} {L st : List Value} {μ : ev_M} {a : Nat} {k : Nat} {x : Int64} (h0 : decode cc pc = .ok (.lstore k, 2)) (h1 : (ev_ok2 L k)) (k2 : ev_Ev call oc cc rt am ex rf μf (pc + 2) ((L.set k (.long x)).set (k + 1) .null) (st) μ a) : ev_Ev call oc cc rt am ex rf μf pc L (.long x :: st) μ a := fun P hP => hP.2.2.2.2.2.2.2.2.2.2.2.2.2.2.2.2.2.2.2.2.2.2.2.1 _ _ _ _ _ _ _ h0 h1 (k2 P hP)
theorem ev_dstore_n {pc : Nat} {L st : List Value} {μ : ev_M} {a : Nat} {k : Fin 4} {x : UInt64} (h0 : decode cc pc = .ok (.dstore_n k, 1)) (h1 : (ev_ok2 L (k : Nat))) (k2 : ev_Ev call oc cc rt am ex rf μf (pc + 1) ((L.set (k : Nat) (.double x)).set ((k : Nat) + 1) .null) (st) μ a) : ev_Ev call oc cc rt am ex rf μf pc L (.double x :: st) μ a := fun P hP => hP.2.2.2.2.2.2.2.2.2.2.2.2.2.2.2.2.2.2.2.2.2.2.2.2.1 _ _ _ _ _ _ _ h0 h1 (k2 P hP)
theorem ev_dstore {pc : Nat} {L st : List Value} {μ : ev_M} {a : Nat} {k : Nat} {x : UInt64} (h0 : decode cc pc = .ok (.dstore k, 2)) (h1 : (ev_ok2 L k)) (k2 : ev_Ev call oc cc rt am ex rf μf (pc + 2) ((L.set k (.double x)).set (k + 1) .null) (st) μ a) : ev_Ev call oc cc rt am ex rf μf pc L (.double x :: st) μ a := fun P hP => hP.2.2.2.2.2.2.2.2.2.2.2.2.2.2.2.2.2.2.2.2.2.2.2.2.2.1 _ _ _ _ _ _ _ h0 h1 (k2 P hP)
theorem ev_iinc {pc : Nat} {L st : List Value} {μ : ev_M} {a : Nat} {k : Nat} {n : Int} {x : Int32} (h0 : decode cc pc = .ok (.iinc k n, 3)) (h1 : (L[k]? = some (.int x))) (h2 : (ev_ok1 L k)) (k3 : ev_Ev call oc cc rt am ex rf μf (pc + 3) (L.set k (.int (x + Int32.ofInt n))) (st) μ a) : ev_Ev call oc cc rt am ex rf μf pc L (st) μ a := fun P hP => hP.2.2.2.2.2.2.2.2.2.2.2.2.2.2.2.2.2.2.2.2.2.2.2.2.2.2.1 _ _ _ _ _ _ _ _ h0 h1 h2 (k3 P hP)
theorem ev_iadd {pc : Nat} {L st : List Value} {μ : ev_M} {a : Nat} {x y : Int32} (h0 : decode cc pc = .ok (.iadd, 1)) (k1 : ev_Ev call oc cc rt am ex rf μf (pc + 1) L (.int (x + y) :: st) μ a) : ev_Ev call oc cc rt am ex rf μf pc L (.int y :: .int x :: st) μ a := fun P hP => hP.2.2.2.2.2.2.2.2.2.2.2.2.2.2.2.2.2.2.2.2.2.2.2.2.2.2.2.1 _ _ _ _ _ _ _ h0 (k1 P hP)
theorem ev_isub {pc : Nat} {L st : List Value} {μ : ev_M} {a : Nat} {x y : Int32} (h0 : decode cc pc = .ok (.isub, 1)) (k1 : ev_Ev call oc cc rt am ex rf μf (pc + 1) L (.int (x - y) :: st) μ a) : ev_Ev call oc cc rt am ex rf μf pc L (.int y :: .int x :: st) μ a := fun P hP => hP.2.2.2.2.2.2.2.2.2.2.2.2.2.2.2.2.2.2.2.2.2.2.2.2.2.2.2.2.1 _ _ _ _ _ _ _ h0 (k1 P hP)
theorem ev_imul {pc : Nat} {L st : List Value} {μ : ev_M} {a : Nat} {x y : Int32} (h0 : decode cc pc = .ok (.imul, 1)) (k1 : ev_Ev call oc cc rt am ex rf μf (pc + 1) L (.int (x * y) :: st) μ a) : ev_Ev call oc cc rt am ex rf μf pc L (.int y :: .int x :: st) μ a := fun P hP => hP.2.2.2.2.2.2.2.2.2.2.2.2.2.2.2.2.2.2.2.2.2.2.2.2.2.2.2.2.2.1 _ _ _ _ _ _ _ h0 (k1 P hP)
theorem ev_iand {pc : Nat} {L st : List Value} {μ : ev_M} {a : Nat} {x y : Int32} (h0 : decode cc pc = .ok (.iand, 1)) (k1 : ev_Ev call oc cc rt am ex rf μf (pc + 1) L (.int (x &&& y) :: st) μ a) : ev_Ev call oc cc rt am ex rf μf pc L (.int y :: .int x :: st) μ a := fun P hP => hP.2.2.2.2.2.2.2.2.2.2.2.2.2.2.2.2.2.2.2.2.2.2.2.2.2.2.2.2.2.2.1 _ _ _ _ _ _ _ h0 (k1 P hP)
theorem ev_ior {pc : Nat} {L st : List Value} {μ : ev_M} {a : Nat} {x y : Int32} (h0 : decode cc pc = .ok (.ior, 1)) (k1 : ev_Ev call oc cc rt am ex rf μf (pc + 1) L (.int (x ||| y) :: st) μ a) : ev_Ev call oc cc rt am ex rf μf pc L (.int y :: .int x :: st) μ a := fun P hP => hP.2.2.2.2.2.2.2.2.2.2.2.2.2.2.2.2.2.2.2.2.2.2.2.2.2.2.2.2.2.2.2.1 _ _ _ _ _ _ _ h0 (k1 P hP)
theorem ev_ishl {pc : Nat} {L st : List Value} {μ : ev_M} {a : Nat} {x y : Int32} (h0 : decode cc pc = .ok (.ishl, 1)) (k1 : ev_Ev call oc cc rt am ex rf μf (pc + 1) L (.int (x <<< (y &&& 31)) :: st) μ a) : ev_Ev call oc cc rt am ex rf μf pc L (.int y :: .int x :: st) μ a := fun P hP => hP.2.2.2.2.2.2.2.2.2.2.2.2.2.2.2.2.2.2.2.2.2.2.2.2.2.2.2.2.2.2.2.2.1 _ _ _ _ _ _ _ h0 (k1 P hP)
theorem ev_ishr {pc : Nat} {L st : List Value} {μ : ev_M} {a : Nat} {x y : Int32} (h0 : decode cc pc = .ok (.ishr, 1)) (k1 : ev_Ev call oc cc rt am ex rf μf (pc + 1) L (.int (x >>> (y &&& 31)) :: st) μ a) : ev_Ev call oc cc rt am ex rf μf pc L (.int y :: .int x :: st) μ a := fun P hP => hP.2.2.2.2.2.2.2.2.2.2.2.2.2.2.2.2.2.2.2.2.2.2.2.2.2.2.2.2.2.2.2.2.2.1 _ _ _ _ _ _ _ h0 (k1 P hP)
theorem ev_iushr {pc : Nat} {L st : List Value} {μ : ev_M} {a : Nat} {x y : Int32} (h0 : decode cc pc = .ok (.iushr, 1)) (k1 : ev_Ev call oc cc rt am ex rf μf (pc + 1) L (.int (x.toUInt32 >>> (y.toUInt32 &&& Int32.toUInt32 31)).toInt32 :: st) μ a) : ev_Ev call oc cc rt am ex rf μf pc L (.int y :: .int x :: st) μ a := fun P hP => hP.2.2.2.2.2.2.2.2.2.2.2.2.2.2.2.2.2.2.2.2.2.2.2.2.2.2.2.2.2.2.2.2.2.2.1 _ _ _ _ _ _ _ h0 (k1 P hP)
theorem ev_idiv {pc : Nat} {L st : List Value} {μ : ev_M} {a : Nat} {x y : Int32} (h0 : decode cc pc = .ok (.idiv, 1)) (h1 : (¬ y = 0)) (k2 : ev_Ev call oc cc rt am ex rf μf (pc + 1) L (.int (x / y) :: st) μ a) : ev_Ev call oc cc rt am ex rf μf pc L (.int y :: .int x :: st) μ a := fun P hP => hP.2.2.2.2.2.2.2.2.2.2.2.2.2.2.2.2.2.2.2.2.2.2.2.2.2.2.2.2.2.2.2.2.2.2.2.1 _ _ _ _ _ _ _ h0 h1 (k2 P hP)
theorem ev_irem {pc : Nat} {L st : List Value} {μ : ev_M} {a : Nat} {x y : Int32} (h0 : decode cc pc = .ok (.irem, 1)) (h1 : (¬ y = 0)) (k2 : ev_Ev call oc cc rt am ex rf μf (pc + 1) L (.int (x - x / y * y) :: st) μ a) : ev_Ev call oc cc rt am ex rf μf pc L (.int y :: .int x :: st) μ a := fun P hP => hP.2.2.2.2.2.2.2.2.2.2.2.2.2.2.2.2.2.2.2.2.2.2.2.2.2.2.2.2.2.2.2.2.2.2.2.2.1 _ _ _ _ _ _ _ h0 h1 (k2 P hP)
theorem ev_ineg {pc : Nat} {L st : List Value} {μ : ev_M} {a : Nat} {x : Int32} (h0 : decode cc pc = .ok (.ineg, 1)) (k1 : ev_Ev call oc cc rt am ex rf μf (pc + 1) L (.int (-x) :: st) μ a) : ev_Ev call oc cc rt am ex rf μf pc L (.int x :: st) μ a := fun P hP => hP.2.2.2.2.2.2.2.2.2.2.2.2.2.2.2.2.2.2.2.2.2.2.2.2.2.2.2.2.2.2.2.2.2.2.2.2.2.1 _ _ _ _ _ _ h0 (k1 P hP)
theorem ev_ladd {pc : Nat} {L st : List Value} {μ : ev_M} {a : Nat} {x y : Int64} (h0 : decode cc pc = .ok (.ladd, 1)) (k1 : ev_Ev call oc cc rt am ex rf μf (pc + 1) L (.long (x + y) :: st) μ a) : ev_Ev call oc cc rt am ex rf μf pc L (.long y :: .long x :: st) μ a := fun P hP => hP.2.2.2.2.2.2.2.2.2.2.2.2.2.2.2.2.2.2.2.2.2.2.2.2.2.2.2.2.2.2.2.2.2.2.2.2.2.2.1 _ _ _ _ _ _ _ h0 (k1 P hP)
theorem ev_lsub {pc : Nat} {L st : List Value} {μ : ev_M} {a : Nat} {x y : Int64} (h0 : decode cc pc = .ok (.lsub, 1)) (k1 : ev_Ev call oc cc rt am ex rf μf (pc + 1) L (.long (x - y) :: st) μ a) : ev_Ev call oc cc rt am ex rf μf pc L (.long y :: .long x :: st) μ a := fun P hP => hP.2.2.2.2.2.2.2.2.2.2.2.2.2.2.2.2.2.2.2.2.2.2.2.2.2.2.2.2.2.2.2.2.2.2.2.2.2.2.2.1 _ _ _ _ _ _ _ h0 (k1 P hP)
theorem ev_lmul {pc : Nat} {L st : List Value} {μ : ev_M} {a : Nat} {x y : Int64} (h0 : decode cc pc = .ok (.lmul, 1)) (k1 : ev_Ev call oc cc rt am ex rf μf (pc + 1) L (.long (x * y) :: st) μ a) : ev_Ev call oc cc rt am ex rf μf pc L (.long y :: .long x :: st) μ a := fun P hP => hP.2.2.2.2.2.2.2.2.2.2.2.2.2.2.2.2.2.2.2.2.2.2.2.2.2.2.2.2.2.2.2.2.2.2.2.2.2.2.2.2.1 _ _ _ _ _ _ _ h0 (k1 P hP)
theorem ev_lshl {pc : Nat} {L st : List Value} {μ : ev_M} {a : Nat} {x : Int64} {y : Int32} (h0 : decode cc pc = .ok (.lshl, 1)) (k1 : ev_Ev call oc cc rt am ex rf μf (pc + 1) L (.long (x <<< (y.toInt64 &&& 63)) :: st) μ a) : ev_Ev call oc cc rt am ex rf μf pc L (.int y :: .long x :: st) μ a := fun P hP => hP.2.2.2.2.2.2.2.2.2.2.2.2.2.2.2.2.2.2.2.2.2.2.2.2.2.2.2.2.2.2.2.2.2.2.2.2.2.2.2.2.2.1 _ _ _ _ _ _ _ h0 (k1 P hP)
theorem ev_lcmp {pc : Nat} {L st : List Value} {μ : ev_M} {a : Nat} {x y : Int64} (h0 : decode cc pc = .ok (.lcmp, 1)) (k1 : ev_Ev call oc cc rt am ex rf μf (pc + 1) L (.int (lg_cmp x y) :: st) μ a) : ev_Ev call oc cc rt am ex rf μf pc L (.long y :: .long x :: st) μ a := fun P hP => hP.2.2.2.2.2.2.2.2.2.2.2.2.2.2.2.2.2.2.2.2.2.2.2.2.2.2.2.2.2.2.2.2.2.2.2.2.2.2.2.2.2.2.1 _ _ _ _ _ _ _ h0 (k1 P hP)
theorem ev_i2l {pc : Nat} {L st : List Value} {μ : ev_M} {a : Nat} {x : Int32} (h0 : decode cc pc = .ok (.i2l, 1)) (k1 : ev_Ev call oc cc rt am ex rf μf (pc + 1) L (.long x.toInt64 :: st) μ a) : ev_Ev call oc cc rt am ex rf μf pc L (.int x :: st) μ a := fun P hP => hP.2.2.2.2.2.2.2.2.2.2.2.2.2.2.2.2.2.2.2.2.2.2.2.2.2.2.2.2.2.2.2.2.2.2.2.2.2.2.2.2.2.2.2.1 _ _ _ _ _ _ h0 (k1 P hP)
theorem ev_i2d {pc : Nat} {L st : List Value} {μ : ev_M} {a : Nat} {x : Int32} (h0 : decode cc pc = .ok (.i2d, 1)) (k1 : ev_Ev call oc cc rt am ex rf μf (pc + 1) L (.double (FP.i2d x) :: st) μ a) : ev_Ev call oc cc rt am ex rf μf pc L (.int x :: st) μ a := fun P hP => hP.2.2.2.2.2.2.2.2.2.2.2.2.2.2.2.2.2.2.2.2.2.2.2.2.2.2.2.2.2.2.2.2.2.2.2.2.2.2.2.2.2.2.2.2.1 _ _ _ _ _ _ h0 (k1 P hP)
theorem ev_d2l {pc : Nat} {L st : List Value} {μ : ev_M} {a : Nat} {x : UInt64} (h0 : decode cc pc = .ok (.d2l, 1)) (k1 : ev_Ev call oc cc rt am ex rf μf (pc + 1) L (.long (FP.d2l x) :: st) μ a) : ev_Ev call oc cc rt am ex rf μf pc L (.double x :: st) μ a := fun P hP => hP.2.2.2.2.2.2.2.2.2.2.2.2.2.2.2.2.2.2.2.2.2.2.2.2.2.2.2.2.2.2.2.2.2.2.2.2.2.2.2.2.2.2.2.2.2.1 _ _ _ _ _ _ h0 (k1 P hP)
theorem ev_dmul {pc : Nat} {L st : List Value} {μ : ev_M} {a : Nat} {x y : UInt64} (h0 : decode cc pc = .ok (.dmul, 1)) (h1 : (vf_n64 (FP.dmul x y))) (k2 : ev_Ev call oc cc rt am ex rf μf (pc + 1) L (.double (FP.dmul x y) :: st) μ a) : ev_Ev call oc cc rt am ex rf μf pc L (.double y :: .double x :: st) μ a := fun P hP => hP.2.2.2.2.2.2.2.2.2.2.2.2.2.2.2.2.2.2.2.2.2.2.2.2.2.2.2.2.2.2.2.2.2.2.2.2.2.2.2.2.2.2.2.2.2.2.1 _ _ _ _ _ _ _ h0 h1 (k2 P hP)
theorem ev_dsub {pc : Nat} {L st : List Value} {μ : ev_M} {a : Nat} {x y : UInt64} (h0 : decode cc pc = .ok (.dsub, 1)) (h1 : (vf_n64 (FP.dsub x y))) (k2 : ev_Ev call oc cc rt am ex rf μf (pc + 1) L (.double (FP.dsub x y) :: st) μ a) : ev_Ev call oc cc rt am ex rf μf pc L (.double y :: .double x :: st) μ a := fun P hP => hP.2.2.2.2.2.2.2.2.2.2.2.2.2.2.2.2.2.2.2.2.2.2.2.2.2.2.2.2.2.2.2.2.2.2.2.2.2.2.2.2.2.2.2.2.2.2.2.1 _ _ _ _ _ _ _ h0 h1 (k2 P hP)
theorem ev_ddiv {pc : Nat} {L st : List Value} {μ : ev_M} {a : Nat} {x y : UInt64} (h0 : decode cc pc = .ok (.ddiv, 1)) (h1 : (vf_n64 (FP.ddiv x y))) (k2 : ev_Ev call oc cc rt am ex rf μf (pc + 1) L (.double (FP.ddiv x y) :: st) μ a) : ev_Ev call oc cc rt am ex rf μf pc L (.double y :: .double x :: st) μ a := fun P hP => hP.2.2.2.2.2.2.2.2.2.2.2.2.2.2.2.2.2.2.2.2.2.2.2.2.2.2.2.2.2.2.2.2.2.2.2.2.2.2.2.2.2.2.2.2.2.2.2.2.1 _ _ _ _ _ _ _ h0 h1 (k2 P hP)
theorem ev_dcmp {pc : Nat} {L st : List Value} {μ : ev_M} {a : Nat} {x y : UInt64} {op : CmpOp} (h0 : decode cc pc = .ok (.dcmp op, 1)) (k1 : ev_Ev call oc cc rt am ex rf μf (pc + 1) L (.int (Op.cmpValue (FP.dcmp x y) op) :: st) μ a) : ev_Ev call oc cc rt am ex rf μf pc L (.double y :: .double x :: st) μ a := fun P hP => hP.2.2.2.2.2.2.2.2.2.2.2.2.2.2.2.2.2.2.2.2.2.2.2.2.2.2.2.2.2.2.2.2.2.2.2.2.2.2.2.2.2.2.2.2.2.2.2.2.2.1 _ _ _ _ _ _ _ _ h0 (k1 P hP)
theorem ev_dup {pc : Nat} {L st : List Value} {μ : ev_M} {a : Nat} {v : Value} (h0 : decode cc pc = .ok (.dup, 1)) (h1 : (v.category = 1)) (k2 : ev_Ev call oc cc rt am ex rf μf (pc + 1) L (v :: v :: st) μ a) : ev_Ev call oc cc rt am ex rf μf pc L (v :: st) μ a := fun P hP => hP.2.2.2.2.2.2.2.2.2.2.2.2.2.2.2.2.2.2.2.2.2.2.2.2.2.2.2.2.2.2.2.2.2.2.2.2.2.2.2.2.2.2.2.2.2.2.2.2.2.2.1 _ _ _ _ _ _ h0 h1 (k2 P hP)
theorem ev_dup2 {pc : Nat} {L st : List Value} {μ : ev_M} {a : Nat} {v w : Value} (h0 : decode cc pc = .ok (.dup2, 1)) (h1 : (v.category = 1)) (h2 : (w.category = 1)) (k3 : ev_Ev call oc cc rt am ex rf μf (pc + 1) L (v :: w :: v :: w :: st) μ a) : ev_Ev call oc cc rt am ex rf μf pc L (v :: w :: st) μ a := fun P hP => hP.2.2.2.2.2.2.2.2.2.2.2.2.2.2.2.2.2.2.2.2.2.2.2.2.2.2.2.2.2.2.2.2.2.2.2.2.2.2.2.2.2.2.2.2.2.2.2.2.2.2.2.1 _ _ _ _ _ _ _ h0 h1 h2 (k3 P hP)
theorem ev_pop {pc : Nat} {L st : List Value} {μ : ev_M} {a : Nat} {v : Value} (h0 : decode cc pc = .ok (.pop, 1)) (h1 : (v.category = 1)) (k2 : ev_Ev call oc cc rt am ex rf μf (pc + 1) L (st) μ a) : ev_Ev call oc cc rt am ex rf μf pc L (v :: st) μ a := fun P hP => hP.2.2.2.2.2.2.2.2.2.2.2.2.2.2.2.2.2.2.2.2.2.2.2.2.2.2.2.2.2.2.2.2.2.2.2.2.2.2.2.2.2.2.2.2.2.2.2.2.2.2.2.2.1 _ _ _ _ _ _ h0 h1 (k2 P hP)
theorem ev_getI {pc : Nat} {L st : List Value} {μ : ev_M} {a : Nat} {i k0 ci k : Nat} (h0 : decode cc pc = .ok (.getfield i, 3)) (h1 : (ev_fr oc i = some (ci, k))) (h2 : (ev_fld k0 ci k = some none)) (k3 : ev_Ev call oc cc rt am ex rf μf (pc + 3) L (.int (μ k0 k) :: st) μ a) : ev_Ev call oc cc rt am ex rf μf pc L (.ref k0 :: st) μ a := fun P hP => hP.2.2.2.2.2.2.2.2.2.2.2.2.2.2.2.2.2.2.2.2.2.2.2.2.2.2.2.2.2.2.2.2.2.2.2.2.2.2.2.2.2.2.2.2.2.2.2.2.2.2.2.2.2.1 _ _ _ _ _ _ _ _ _ h0 h1 h2 (k3 P hP)
theorem ev_getR {pc : Nat} {L st : List Value} {μ : ev_M} {a : Nat} {i k0 ci k r : Nat} (h0 : decode cc pc = .ok (.getfield i, 3)) (h1 : (ev_fr oc i = some (ci, k))) (h2 : (ev_fld k0 ci k = some (some r))) (k3 : ev_Ev call oc cc rt am ex rf μf (pc + 3) L (.ref r :: st) μ a) : ev_Ev call oc cc rt am ex rf μf pc L (.ref k0 :: st) μ a := fun P hP => hP.2.2.2.2.2.2.2.2.2.2.2.2.2.2.2.2.2.2.2.2.2.2.2.2.2.2.2.2.2.2.2.2.2.2.2.2.2.2.2.2.2.2.2.2.2.2.2.2.2.2.2.2.2.2.1 _ _ _ _ _ _ _ _ _ _ h0 h1 h2 (k3 P hP)
theorem ev_putI {pc : Nat} {L st : List Value} {μ : ev_M} {a : Nat} {i k0 ci k : Nat} {x : Int32} (h0 : decode cc pc = .ok (.putfield i, 3)) (h1 : (ev_fr oc i = some (ci, k))) (h2 : (ev_fld k0 ci k = some none)) (k3 : ev_Ev call oc cc rt am ex rf μf (pc + 3) L (st) (ev_ms μ k0 k x) a) : ev_Ev call oc cc rt am ex rf μf pc L (.int x :: .ref k0 :: st) μ a := fun P hP => hP.2.2.2.2.2.2.2.2.2.2.2.2.2.2.2.2.2.2.2.2.2.2.2.2.2.2.2.2.2.2.2.2.2.2.2.2.2.2.2.2.2.2.2.2.2.2.2.2.2.2.2.2.2.2.2.1 _ _ _ _ _ _ _ _ _ _ h0 h1 h2 (k3 P hP)
theorem ev_gets {pc : Nat} {L st : List Value} {μ : ev_M} {a : Nat} {i r : Nat} (h0 : decode cc pc = .ok (.getstatic i, 3)) (h1 : (ev_sr oc i = some r)) (k2 : ev_Ev call oc cc rt am ex rf μf (pc + 3) L (.ref r :: st) μ a) : ev_Ev call oc cc rt am ex rf μf pc L (st) μ a := fun P hP => hP.2.2.2.2.2.2.2.2.2.2.2.2.2.2.2.2.2.2.2.2.2.2.2.2.2.2.2.2.2.2.2.2.2.2.2.2.2.2.2.2.2.2.2.2.2.2.2.2.2.2.2.2.2.2.2.2.1 _ _ _ _ _ _ _ h0 h1 (k2 P hP)
theorem ev_iald {pc : Nat} {L st : List Value} {μ : ev_M} {a : Nat} {k0 n i : Nat} {rs : List (Option Nat)} (h0 : decode cc pc = .ok (.iaload, 1)) (h1 : (ev_lay k0 = (1, n, rs))) (h2 : (i < n)) (k3 : ev_Ev call oc cc rt am ex rf μf (pc + 1) L (.int (μ k0 i) :: st) μ a) : ev_Ev call oc cc rt am ex rf μf pc L (.int (nI i) :: .ref k0 :: st) μ a := fun P hP => hP.2.2.2.2.2.2.2.2.2.2.2.2.2.2.2.2.2.2.2.2.2.2.2.2.2.2.2.2.2.2.2.2.2.2.2.2.2.2.2.2.2.2.2.2.2.2.2.2.2.2.2.2.2.2.2.2.2.1 _ _ _ _ _ _ _ _ _ h0 h1 h2 (k3 P hP)
theorem ev_zald {pc : Nat} {L st : List Value} {μ : ev_M} {a : Nat} {k0 n i : Nat} {rs : List (Option Nat)} (h0 : decode cc pc = .ok (.baload, 1)) (h1 : (ev_lay k0 = (2, n, rs))) (h2 : (i < n)) (k3 : ev_Ev call oc cc rt am ex rf μf (pc + 1) L (.int (μ k0 i) :: st) μ a) : ev_Ev call oc cc rt am ex rf μf pc L (.int (nI i) :: .ref k0 :: st) μ a := fun P hP => hP.2.2.2.2.2.2.2.2.2.2.2.2.2.2.2.2.2.2.2.2.2.2.2.2.2.2.2.2.2.2.2.2.2.2.2.2.2.2.2.2.2.2.2.2.2.2.2.2.2.2.2.2.2.2.2.2.2.2.1 _ _ _ _ _ _ _ _ _ h0 h1 h2 (k3 P hP)
theorem ev_lald {pc : Nat} {L st : List Value} {μ : ev_M} {a : Nat} {k0 n i : Nat} {rs : List (Option Nat)} (h0 : decode cc pc = .ok (.laload, 1)) (h1 : (ev_lay k0 = (4, n, rs))) (h2 : (i < n)) (k3 : ev_Ev call oc cc rt am ex rf μf (pc + 1) L (.long (μ k0 i).toInt64 :: st) μ a) : ev_Ev call oc cc rt am ex rf μf pc L (.int (nI i) :: .ref k0 :: st) μ a := fun P hP => hP.2.2.2.2.2.2.2.2.2.2.2.2.2.2.2.2.2.2.2.2.2.2.2.2.2.2.2.2.2.2.2.2.2.2.2.2.2.2.2.2.2.2.2.2.2.2.2.2.2.2.2.2.2.2.2.2.2.2.2.1 _ _ _ _ _ _ _ _ _ h0 h1 h2 (k3 P hP)
theorem ev_aald {pc : Nat} {L st : List Value} {μ : ev_M} {a : Nat} {k0 n i r : Nat} {rs : List (Option Nat)} (h0 : decode cc pc = .ok (.aaload, 1)) (h1 : (ev_lay k0 = (3, n, rs))) (h2 : (i < n)) (h3 : (rs.getD i none = some r)) (k4 : ev_Ev call oc cc rt am ex rf μf (pc + 1) L (.ref r :: st) μ a) : ev_Ev call oc cc rt am ex rf μf pc L (.int (nI i) :: .ref k0 :: st) μ a := fun P hP => hP.2.2.2.2.2.2.2.2.2.2.2.2.2.2.2.2.2.2.2.2.2.2.2.2.2.2.2.2.2.2.2.2.2.2.2.2.2.2.2.2.2.2.2.2.2.2.2.2.2.2.2.2.2.2.2.2.2.2.2.2.1 _ _ _ _ _ _ _ _ _ _ h0 h1 h2 h3 (k4 P hP)
theorem ev_aaldq {pc : Nat} {L st : List Value} {μ : ev_M} {a : Nat} {k0 n i r : Nat} {rs : List (Option Nat)} (h0 : decode cc pc = .ok (.aaload, 1)) (h1 : (ev_lay k0 = (5, n, rs))) (h2 : (i < n)) (h3 : (rs.getD i none = some r)) (k4 : ev_Ev call oc cc rt am ex rf μf (pc + 1) L (.ref r :: st) μ a) : ev_Ev call oc cc rt am ex rf μf pc L (.int (nI i) :: .ref k0 :: st) μ a := fun P hP => hP.2.2.2.2.2.2.2.2.2.2.2.2.2.2.2.2.2.2.2.2.2.2.2.2.2.2.2.2.2.2.2.2.2.2.2.2.2.2.2.2.2.2.2.2.2.2.2.2.2.2.2.2.2.2.2.2.2.2.2.2.2.1 _ _ _ _ _ _ _ _ _ _ h0 h1 h2 h3 (k4 P hP)
theorem ev_iast {pc : Nat} {L st : List Value} {μ : ev_M} {a : Nat} {k0 n i : Nat} {rs : List (Option Nat)} {x : Int32} (h0 : decode cc pc = .ok (.iastore, 1)) (h1 : (ev_lay k0 = (1, n, rs))) (h2 : (i < n)) (k3 : ev_Ev call oc cc rt am ex rf μf (pc + 1) L (st) (ev_ms μ k0 i x) a) : ev_Ev call oc cc rt am ex rf μf pc L (.int x :: .int (nI i) :: .ref k0 :: st) μ a := fun P hP => hP.2.2.2.2.2.2.2.2.2.2.2.2.2.2.2.2.2.2.2.2.2.2.2.2.2.2.2.2.2.2.2.2.2.2.2.2.2.2.2.2.2.2.2.2.2.2.2.2.2.2.2.2.2.2.2.2.2.2.2.2.2.2.1 _ _ _ _ _ _ _ _ _ _ h0 h1 h2 (k3 P hP)
theorem ev_zast {pc : Nat} {L st : List Value} {μ : ev_M} {a : Nat} {k0 n i : Nat} {rs : List (Option Nat)} {x : Int32} (h0 : decode cc pc = .ok (.bastore, 1)) (h1 : (ev_lay k0 = (2, n, rs))) (h2 : (i < n)) (h3 : (vp_nar .boolean x = x)) (k4 : ev_Ev call oc cc rt am ex rf μf (pc + 1) L (st) (ev_ms μ k0 i x) a) : ev_Ev call oc cc rt am ex rf μf pc L (.int x :: .int (nI i) :: .ref k0 :: st) μ a := fun P hP => hP.2.2.2.2.2.2.2.2.2.2.2.2.2.2.2.2.2.2.2.2.2.2.2.2.2.2.2.2.2.2.2.2.2.2.2.2.2.2.2.2.2.2.2.2.2.2.2.2.2.2.2.2.2.2.2.2.2.2.2.2.2.2.2.1 _ _ _ _ _ _ _ _ _ _ h0 h1 h2 h3 (k4 P hP)
theorem ev_last {pc : Nat} {L st : List Value} {μ : ev_M} {a : Nat} {k0 n i : Nat} {rs : List (Option Nat)} {x : Int32} (h0 : decode cc pc = .ok (.lastore, 1)) (h1 : (ev_lay k0 = (4, n, rs))) (h2 : (i < n)) (k3 : ev_Ev call oc cc rt am ex rf μf (pc + 1) L (st) (ev_ms μ k0 i x) a) : ev_Ev call oc cc rt am ex rf μf pc L (.long x.toInt64 :: .int (nI i) :: .ref k0 :: st) μ a := fun P hP => hP.2.2.2.2.2.2.2.2.2.2.2.2.2.2.2.2.2.2.2.2.2.2.2.2.2.2.2.2.2.2.2.2.2.2.2.2.2.2.2.2.2.2.2.2.2.2.2.2.2.2.2.2.2.2.2.2.2.2.2.2.2.2.2.2.1 _ _ _ _ _ _ _ _ _ _ h0 h1 h2 (k3 P hP)
theorem ev_sald {pc : Nat} {L st : List Value} {μ : ev_M} {a : Nat} {i : Nat} (h0 : decode cc pc = .ok (.iaload, 1)) (h1 : (i + 1 < ex.1)) (k2 : ev_Ev call oc cc rt am ex rf μf (pc + 1) L (.int (ex.2.1 i) :: st) μ a) : ev_Ev call oc cc rt am ex rf μf pc L (.int (nI i) :: .ref 200 :: st) μ a := fun P hP => hP.2.2.2.2.2.2.2.2.2.2.2.2.2.2.2.2.2.2.2.2.2.2.2.2.2.2.2.2.2.2.2.2.2.2.2.2.2.2.2.2.2.2.2.2.2.2.2.2.2.2.2.2.2.2.2.2.2.2.2.2.2.2.2.2.2.1 _ _ _ _ _ _ h0 h1 (k2 P hP)
theorem ev_slen {pc : Nat} {L st : List Value} {μ : ev_M} {a : Nat} (h0 : decode cc pc = .ok (.arraylength, 1)) (h1 : (0 < ex.1)) (k2 : ev_Ev call oc cc rt am ex rf μf (pc + 1) L (.int (nI (ex.1 - 1)) :: st) μ a) : ev_Ev call oc cc rt am ex rf μf pc L (.ref 200 :: st) μ a := fun P hP => hP.2.2.2.2.2.2.2.2.2.2.2.2.2.2.2.2.2.2.2.2.2.2.2.2.2.2.2.2.2.2.2.2.2.2.2.2.2.2.2.2.2.2.2.2.2.2.2.2.2.2.2.2.2.2.2.2.2.2.2.2.2.2.2.2.2.2.1 _ _ _ _ _ h0 h1 (k2 P hP)
theorem ev_tald {pc : Nat} {L st : List Value} {μ : ev_M} {a : Nat} {r i : Nat} {v : Int32} (h0 : decode cc pc = .ok (.iaload, 1)) (h1 : (ev_st r i = some v)) (k2 : ev_Ev call oc cc rt am ex rf μf (pc + 1) L (.int v :: st) μ a) : ev_Ev call oc cc rt am ex rf μf pc L (.int (nI i) :: .ref r :: st) μ a := fun P hP => hP.2.2.2.2.2.2.2.2.2.2.2.2.2.2.2.2.2.2.2.2.2.2.2.2.2.2.2.2.2.2.2.2.2.2.2.2.2.2.2.2.2.2.2.2.2.2.2.2.2.2.2.2.2.2.2.2.2.2.2.2.2.2.2.2.2.2.2.1 _ _ _ _ _ _ _ _ h0 h1 (k2 P hP)
theorem ev_copy {pc : Nat} {L st : List Value} {μ : ev_M} {a : Nat} {i k0 k1 n0 n1 n : Nat} {r0 r1 : List (Option Nat)} (h0 : decode cc pc = .ok (.invokestatic i, 3)) (h1 : (ev_cpr oc i = true)) (h2 : (ev_lay k0 = (1, n0, r0))) (h3 : (ev_lay k1 = (1, n1, r1))) (h4 : (n ≤ n0)) (h5 : (n ≤ n1)) (h6 : ((st.map Value.category).sum ≤ 8)) (k7 : ev_Ev call oc cc rt am ex rf μf (pc + 3) L (st) (ev_cp μ k0 k1 n) a) : ev_Ev call oc cc rt am ex rf μf pc L (.int (nI n) :: .int (nI 0) :: .ref k1 :: .int (nI 0) :: .ref k0 :: st) μ a := fun P hP => hP.2.2.2.2.2.2.2.2.2.2.2.2.2.2.2.2.2.2.2.2.2.2.2.2.2.2.2.2.2.2.2.2.2.2.2.2.2.2.2.2.2.2.2.2.2.2.2.2.2.2.2.2.2.2.2.2.2.2.2.2.2.2.2.2.2.2.2.2.1 _ _ _ _ _ _ _ _ _ _ _ _ _ h0 h1 h2 h3 h4 h5 h6 (k7 P hP)
theorem ev_mmax {pc : Nat} {L st : List Value} {μ : ev_M} {a : Nat} {i : Nat} {x y : Int32} (h0 : decode cc pc = .ok (.invokestatic i, 3)) (h1 : (ev_mr oc i = some 901)) (h2 : ((st.map Value.category).sum ≤ 8)) (k3 : ev_Ev call oc cc rt am ex rf μf (pc + 3) L (.int (if x < y then y else x) :: st) μ a) : ev_Ev call oc cc rt am ex rf μf pc L (.int y :: .int x :: st) μ a := fun P hP => hP.2.2.2.2.2.2.2.2.2.2.2.2.2.2.2.2.2.2.2.2.2.2.2.2.2.2.2.2.2.2.2.2.2.2.2.2.2.2.2.2.2.2.2.2.2.2.2.2.2.2.2.2.2.2.2.2.2.2.2.2.2.2.2.2.2.2.2.2.2.1 _ _ _ _ _ _ _ _ h0 h1 h2 (k3 P hP)
theorem ev_mmin {pc : Nat} {L st : List Value} {μ : ev_M} {a : Nat} {i : Nat} {x y : Int32} (h0 : decode cc pc = .ok (.invokestatic i, 3)) (h1 : (ev_mr oc i = some 902)) (h2 : ((st.map Value.category).sum ≤ 8)) (k3 : ev_Ev call oc cc rt am ex rf μf (pc + 3) L (.int (if y < x then y else x) :: st) μ a) : ev_Ev call oc cc rt am ex rf μf pc L (.int y :: .int x :: st) μ a := fun P hP => hP.2.2.2.2.2.2.2.2.2.2.2.2.2.2.2.2.2.2.2.2.2.2.2.2.2.2.2.2.2.2.2.2.2.2.2.2.2.2.2.2.2.2.2.2.2.2.2.2.2.2.2.2.2.2.2.2.2.2.2.2.2.2.2.2.2.2.2.2.2.2.1 _ _ _ _ _ _ _ _ h0 h1 h2 (k3 P hP)
theorem ev_mabs {pc : Nat} {L st : List Value} {μ : ev_M} {a : Nat} {i : Nat} {x : Int32} (h0 : decode cc pc = .ok (.invokestatic i, 3)) (h1 : (ev_mr oc i = some 903)) (h2 : ((st.map Value.category).sum ≤ 8)) (k3 : ev_Ev call oc cc rt am ex rf μf (pc + 3) L (.int (if 0 ≤ x then x else 0 - x) :: st) μ a) : ev_Ev call oc cc rt am ex rf μf pc L (.int x :: st) μ a := fun P hP => hP.2.2.2.2.2.2.2.2.2.2.2.2.2.2.2.2.2.2.2.2.2.2.2.2.2.2.2.2.2.2.2.2.2.2.2.2.2.2.2.2.2.2.2.2.2.2.2.2.2.2.2.2.2.2.2.2.2.2.2.2.2.2.2.2.2.2.2.2.2.2.2.1 _ _ _ _ _ _ _ h0 h1 h2 (k3 P hP)
theorem ev_rawl {pc : Nat} {L st : List Value} {μ : ev_M} {a : Nat} {i : Nat} {x : UInt64} (h0 : decode cc pc = .ok (.invokestatic i, 3)) (h1 : (ev_mr oc i = some 904)) (h2 : ((st.map Value.category).sum ≤ 8)) (k3 : ev_Ev call oc cc rt am ex rf μf (pc + 3) L (.long x.toInt64 :: st) μ a) : ev_Ev call oc cc rt am ex rf μf pc L (.double x :: st) μ a := fun P hP => hP.2.2.2.2.2.2.2.2.2.2.2.2.2.2.2.2.2.2.2.2.2.2.2.2.2.2.2.2.2.2.2.2.2.2.2.2.2.2.2.2.2.2.2.2.2.2.2.2.2.2.2.2.2.2.2.2.2.2.2.2.2.2.2.2.2.2.2.2.2.2.2.2.1 _ _ _ _ _ _ _ h0 h1 h2 (k3 P hP)
theorem ev_icmp_eq {pc : Nat} {L st : List Value} {μ : ev_M} {a : Nat} {x y : Int32} {off : Int} {tgt : Nat} (h0 : decode cc pc = .ok (.if_icmp .eq off, 3)) (h1 : (pc : Int) + off = (tgt : Int)) (k2 : (x = y → ev_Ev call oc cc rt am ex rf μf tgt L st μ a)) (k3 : (¬ (x = y) → ev_Ev call oc cc rt am ex rf μf (pc + 3) L st μ a)) : ev_Ev call oc cc rt am ex rf μf pc L (.int y :: .int x :: st) μ a := fun P hP => hP.2.2.2.2.2.2.2.2.2.2.2.2.2.2.2.2.2.2.2.2.2.2.2.2.2.2.2.2.2.2.2.2.2.2.2.2.2.2.2.2.2.2.2.2.2.2.2.2.2.2.2.2.2.2.2.2.2.2.2.2.2.2.2.2.2.2.2.2.2.2.2.2.2.1 _ _ _ _ _ _ _ _ _ h0 h1 (fun c => k2 c P hP) (fun c => k3 c P hP)
theorem ev_icmp_ne {pc : Nat} {L st : List Value} {μ : ev_M} {a : Nat} {x y : Int32} {off : Int} {tgt : Nat} (h0 : decode cc pc = .ok (.if_icmp .ne off, 3)) (h1 : (pc : Int) + off = (tgt : Int)) (k2 : (¬ x = y → ev_Ev call oc cc rt am ex rf μf tgt L st μ a)) (k3 : (x = y → ev_Ev call oc cc rt am ex rf μf (pc + 3) L st μ a)) : ev_Ev call oc cc rt am ex rf μf pc L (.int y :: .int x :: st) μ a := fun P hP => hP.2.2.2.2.2.2.2.2.2.2.2.2.2.2.2.2.2.2.2.2.2.2.2.2.2.2.2.2.2.2.2.2.2.2.2.2.2.2.2.2.2.2.2.2.2.2.2.2.2.2.2.2.2.2.2.2.2.2.2.2.2.2.2.2.2.2.2.2.2.2.2.2.2.2.1 _ _ _ _ _ _ _ _ _ h0 h1 (fun c => k2 c P hP) (fun c => k3 c P hP)
theorem ev_icmp_lt {pc : Nat} {L st : List Value} {μ : ev_M} {a : Nat} {x y : Int32} {off : Int} {tgt : Nat} (h0 : decode cc pc = .ok (.if_icmp .lt off, 3)) (h1 : (pc : Int) + off = (tgt : Int)) (k2 : (x < y → ev_Ev call oc cc rt am ex rf μf tgt L st μ a)) (k3 : (¬ (x < y) → ev_Ev call oc cc rt am ex rf μf (pc + 3) L st μ a)) : ev_Ev call oc cc rt am ex rf μf pc L (.int y :: .int x :: st) μ a := fun P hP => hP.2.2.2.2.2.2.2.2.2.2.2.2.2.2.2.2.2.2.2.2.2.2.2.2.2.2.2.2.2.2.2.2.2.2.2.2.2.2.2.2.2.2.2.2.2.2.2.2.2.2.2.2.2.2.2.2.2.2.2.2.2.2.2.2.2.2.2.2.2.2.2.2.2.2.2.1 _ _ _ _ _ _ _ _ _ h0 h1 (fun c => k2 c P hP) (fun c => k3 c P hP)
theorem ev_icmp_ge {pc : Nat} {L st : List Value} {μ : ev_M} {a : Nat} {x y : Int32} {off : Int} {tgt : Nat} (h0 : decode cc pc = .ok (.if_icmp .ge off, 3)) (h1 : (pc : Int) + off = (tgt : Int)) (k2 : (y ≤ x → ev_Ev call oc cc rt am ex rf μf tgt L st μ a)) (k3 : (¬ (y ≤ x) → ev_Ev call oc cc rt am ex rf μf (pc + 3) L st μ a)) : ev_Ev call oc cc rt am ex rf μf pc L (.int y :: .int x :: st) μ a := fun P hP => hP.2.2.2.2.2.2.2.2.2.2.2.2.2.2.2.2.2.2.2.2.2.2.2.2.2.2.2.2.2.2.2.2.2.2.2.2.2.2.2.2.2.2.2.2.2.2.2.2.2.2.2.2.2.2.2.2.2.2.2.2.2.2.2.2.2.2.2.2.2.2.2.2.2.2.2.2.1 _ _ _ _ _ _ _ _ _ h0 h1 (fun c => k2 c P hP) (fun c => k3 c P hP)
theorem ev_icmp_gt {pc : Nat} {L st : List Value} {μ : ev_M} {a : Nat} {x y : Int32} {off : Int} {tgt : Nat} (h0 : decode cc pc = .ok (.if_icmp .gt off, 3)) (h1 : (pc : Int) + off = (tgt : Int)) (k2 : (y < x → ev_Ev call oc cc rt am ex rf μf tgt L st μ a)) (k3 : (¬ (y < x) → ev_Ev call oc cc rt am ex rf μf (pc + 3) L st μ a)) : ev_Ev call oc cc rt am ex rf μf pc L (.int y :: .int x :: st) μ a := fun P hP => hP.2.2.2.2.2.2.2.2.2.2.2.2.2.2.2.2.2.2.2.2.2.2.2.2.2.2.2.2.2.2.2.2.2.2.2.2.2.2.2.2.2.2.2.2.2.2.2.2.2.2.2.2.2.2.2.2.2.2.2.2.2.2.2.2.2.2.2.2.2.2.2.2.2.2.2.2.2.1 _ _ _ _ _ _ _ _ _ h0 h1 (fun c => k2 c P hP) (fun c => k3 c P hP)
theorem ev_icmp_le {pc : Nat} {L st : List Value} {μ : ev_M} {a : Nat} {x y : Int32} {off : Int} {tgt : Nat} (h0 : decode cc pc = .ok (.if_icmp .le off, 3)) (h1 : (pc : Int) + off = (tgt : Int)) (k2 : (x ≤ y → ev_Ev call oc cc rt am ex rf μf tgt L st μ a)) (k3 : (¬ (x ≤ y) → ev_Ev call oc cc rt am ex rf μf (pc + 3) L st μ a)) : ev_Ev call oc cc rt am ex rf μf pc L (.int y :: .int x :: st) μ a := fun P hP => hP.2.2.2.2.2.2.2.2.2.2.2.2.2.2.2.2.2.2.2.2.2.2.2.2.2.2.2.2.2.2.2.2.2.2.2.2.2.2.2.2.2.2.2.2.2.2.2.2.2.2.2.2.2.2.2.2.2.2.2.2.2.2.2.2.2.2.2.2.2.2.2.2.2.2.2.2.2.2.1 _ _ _ _ _ _ _ _ _ h0 h1 (fun c => k2 c P hP) (fun c => k3 c P hP)
theorem ev_if_eq {pc : Nat} {L st : List Value} {μ : ev_M} {a : Nat} {x : Int32} {off : Int} {tgt : Nat} (h0 : decode cc pc = .ok (.ifCond .eq off, 3)) (h1 : (pc : Int) + off = (tgt : Int)) (k2 : (x = 0 → ev_Ev call oc cc rt am ex rf μf tgt L st μ a)) (k3 : (¬ (x = 0) → ev_Ev call oc cc rt am ex rf μf (pc + 3) L st μ a)) : ev_Ev call oc cc rt am ex rf μf pc L (.int x :: st) μ a := fun P hP => hP.2.2.2.2.2.2.2.2.2.2.2.2.2.2.2.2.2.2.2.2.2.2.2.2.2.2.2.2.2.2.2.2.2.2.2.2.2.2.2.2.2.2.2.2.2.2.2.2.2.2.2.2.2.2.2.2.2.2.2.2.2.2.2.2.2.2.2.2.2.2.2.2.2.2.2.2.2.2.2.1 _ _ _ _ _ _ _ _ h0 h1 (fun c => k2 c P hP) (fun c => k3 c P hP)
theorem ev_if_ne {pc : Nat} {L st : List Value} {μ : ev_M} {a : Nat} {x : Int32} {off : Int} {tgt : Nat} (h0 : decode cc pc = .ok (.ifCond .ne off, 3)) (h1 : (pc : Int) + off = (tgt : Int)) (k2 : (¬ x = 0 → ev_Ev call oc cc rt am ex rf μf tgt L st μ a)) (k3 : (x = 0 → ev_Ev call oc cc rt am ex rf μf (pc + 3) L st μ a)) : ev_Ev call oc cc rt am ex rf μf pc L (.int x :: st) μ a := fun P hP => hP.2.2.2.2.2.2.2.2.2.2.2.2.2.2.2.2.2.2.2.2.2.2.2.2.2.2.2.2.2.2.2.2.2.2.2.2.2.2.2.2.2.2.2.2.2.2.2.2.2.2.2.2.2.2.2.2.2.2.2.2.2.2.2.2.2.2.2.2.2.2.2.2.2.2.2.2.2.2.2.2.1 _ _ _ _ _ _ _ _ h0 h1 (fun c => k2 c P hP) (fun c => k3 c P hP)
theorem ev_if_lt {pc : Nat} {L st : List Value} {μ : ev_M} {a : Nat} {x : Int32} {off : Int} {tgt : Nat} (h0 : decode cc pc = .ok (.ifCond .lt off, 3)) (h1 : (pc : Int) + off = (tgt : Int)) (k2 : (x < 0 → ev_Ev call oc cc rt am ex rf μf tgt L st μ a)) (k3 : (¬ (x < 0) → ev_Ev call oc cc rt am ex rf μf (pc + 3) L st μ a)) : ev_Ev call oc cc rt am ex rf μf pc L (.int x :: st) μ a := fun P hP => hP.2.2.2.2.2.2.2.2.2.2.2.2.2.2.2.2.2.2.2.2.2.2.2.2.2.2.2.2.2.2.2.2.2.2.2.2.2.2.2.2.2.2.2.2.2.2.2.2.2.2.2.2.2.2.2.2.2.2.2.2.2.2.2.2.2.2.2.2.2.2.2.2.2.2.2.2.2.2.2.2.2.1 _ _ _ _ _ _ _ _ h0 h1 (fun c => k2 c P hP) (fun c => k3 c P hP)
theorem ev_if_ge {pc : Nat} {L st : List Value} {μ : ev_M} {a : Nat} {x : Int32} {off : Int} {tgt : Nat} (h0 : decode cc pc = .ok (.ifCond .ge off, 3)) (h1 : (pc : Int) + off = (tgt : Int)) (k2 : (0 ≤ x → ev_Ev call oc cc rt am ex rf μf tgt L st μ a)) (k3 : (¬ (0 ≤ x) → ev_Ev call oc cc rt am ex rf μf (pc + 3) L st μ a)) : ev_Ev call oc cc rt am ex rf μf pc L (.int x :: st) μ a := fun P hP => hP.2.2.2.2.2.2.2.2.2.2.2.2.2.2.2.2.2.2.2.2.2.2.2.2.2.2.2.2.2.2.2.2.2.2.2.2.2.2.2.2.2.2.2.2.2.2.2.2.2.2.2.2.2.2.2.2.2.2.2.2.2.2.2.2.2.2.2.2.2.2.2.2.2.2.2.2.2.2.2.2.2.2.1 _ _ _ _ _ _ _ _ h0 h1 (fun c => k2 c P hP) (fun c => k3 c P hP)
theorem ev_if_gt {pc : Nat} {L st : List Value} {μ : ev_M} {a : Nat} {x : Int32} {off : Int} {tgt : Nat} (h0 : decode cc pc = .ok (.ifCond .gt off, 3)) (h1 : (pc : Int) + off = (tgt : Int)) (k2 : (0 < x → ev_Ev call oc cc rt am ex rf μf tgt L st μ a)) (k3 : (¬ (0 < x) → ev_Ev call oc cc rt am ex rf μf (pc + 3) L st μ a)) : ev_Ev call oc cc rt am ex rf μf pc L (.int x :: st) μ a := fun P hP => hP.2.2.2.2.2.2.2.2.2.2.2.2.2.2.2.2.2.2.2.2.2.2.2.2.2.2.2.2.2.2.2.2.2.2.2.2.2.2.2.2.2.2.2.2.2.2.2.2.2.2.2.2.2.2.2.2.2.2.2.2.2.2.2.2.2.2.2.2.2.2.2.2.2.2.2.2.2.2.2.2.2.2.2.1 _ _ _ _ _ _ _ _ h0 h1 (fun c => k2 c P hP) (fun c => k3 c P hP)
theorem ev_if_le {pc : Nat} {L st : List Value} {μ : ev_M} {a : Nat} {x : Int32} {off : Int} {tgt : Nat} (h0 : decode cc pc = .ok (.ifCond .le off, 3)) (h1 : (pc : Int) + off = (tgt : Int)) (k2 : (x ≤ 0 → ev_Ev call oc cc rt am ex rf μf tgt L st μ a)) (k3 : (¬ (x ≤ 0) → ev_Ev call oc cc rt am ex rf μf (pc + 3) L st μ a)) : ev_Ev call oc cc rt am ex rf μf pc L (.int x :: st) μ a := fun P hP => hP.2.2.2.2.2.2.2.2.2.2.2.2.2.2.2.2.2.2.2.2.2.2.2.2.2.2.2.2.2.2.2.2.2.2.2.2.2.2.2.2.2.2.2.2.2.2.2.2.2.2.2.2.2.2.2.2.2.2.2.2.2.2.2.2.2.2.2.2.2.2.2.2.2.2.2.2.2.2.2.2.2.2.2.2.1 _ _ _ _ _ _ _ _ h0 h1 (fun c => k2 c P hP) (fun c => k3 c P hP)
theorem ev_goto {pc : Nat} {L st : List Value} {μ : ev_M} {a : Nat} {off : Int} {tgt : Nat} (h0 : decode cc pc = .ok (.goto off, 3)) (h1 : (pc : Int) + off = (tgt : Int)) (k2 : ev_Ev call oc cc rt am ex rf μf tgt L st μ a) : ev_Ev call oc cc rt am ex rf μf pc L st μ a := fun P hP => hP.2.2.2.2.2.2.2.2.2.2.2.2.2.2.2.2.2.2.2.2.2.2.2.2.2.2.2.2.2.2.2.2.2.2.2.2.2.2.2.2.2.2.2.2.2.2.2.2.2.2.2.2.2.2.2.2.2.2.2.2.2.2.2.2.2.2.2.2.2.2.2.2.2.2.2.2.2.2.2.2.2.2.2.2.2.1 _ _ _ _ _ _ _ h0 h1 (k2 P hP)
theorem ev_tabin {pc : Nat} {L st : List Value} {μ : ev_M} {a : Nat} {x : Int32} {dflt lo hi off : Int} {offs : Array Int} {len tgt : Nat} (h0 : decode cc pc = .ok (.tableswitch dflt lo hi offs, len)) (h1 : ¬ x.toInt < lo) (h2 : ¬ hi < x.toInt) (h3 : offs[(x.toInt - lo).toNat]? = some off) (h4 : (pc : Int) + off = (tgt : Int)) (k5 : ev_Ev call oc cc rt am ex rf μf tgt L st μ a) : ev_Ev call oc cc rt am ex rf μf pc L (.int x :: st) μ a := fun P hP => hP.2.2.2.2.2.2.2.2.2.2.2.2.2.2.2.2.2.2.2.2.2.2.2.2.2.2.2.2.2.2.2.2.2.2.2.2.2.2.2.2.2.2.2.2.2.2.2.2.2.2.2.2.2.2.2.2.2.2.2.2.2.2.2.2.2.2.2.2.2.2.2.2.2.2.2.2.2.2.2.2.2.2.2.2.2.2.1 _ _ _ _ _ _ _ _ _ _ _ _ _ h0 h1 h2 h3 h4 (k5 P hP)
theorem ev_tabout {pc : Nat} {L st : List Value} {μ : ev_M} {a : Nat} {x : Int32} {dflt lo hi : Int} {offs : Array Int} {len tgt : Nat} (h0 : decode cc pc = .ok (.tableswitch dflt lo hi offs, len)) (h1 : (x.toInt < lo ∨ hi < x.toInt)) (h2 : (pc : Int) + dflt = (tgt : Int)) (k3 : ev_Ev call oc cc rt am ex rf μf tgt L st μ a) : ev_Ev call oc cc rt am ex rf μf pc L (.int x :: st) μ a := fun P hP => hP.2.2.2.2.2.2.2.2.2.2.2.2.2.2.2.2.2.2.2.2.2.2.2.2.2.2.2.2.2.2.2.2.2.2.2.2.2.2.2.2.2.2.2.2.2.2.2.2.2.2.2.2.2.2.2.2.2.2.2.2.2.2.2.2.2.2.2.2.2.2.2.2.2.2.2.2.2.2.2.2.2.2.2.2.2.2.2.1 _ _ _ _ _ _ _ _ _ _ _ _ h0 h1 h2 (k3 P hP)
theorem ev_look {pc : Nat} {L st : List Value} {μ : ev_M} {a : Nat} {x : Int32} {dflt off : Int} {ps : Array (Int × Int)} {len tgt : Nat} (h0 : decode cc pc = .ok (.lookupswitch dflt ps, len)) (h1 : (ps.toList.zip (ps.toList.drop 1)).all (fun (a, next) => a.1 < next.1) = true) (h2 : Op.lookupswitch.offset ps.toList dflt x.toInt = off) (h3 : (pc : Int) + off = (tgt : Int)) (k4 : ev_Ev call oc cc rt am ex rf μf tgt L st μ a) : ev_Ev call oc cc rt am ex rf μf pc L (.int x :: st) μ a := fun P hP => hP.2.2.2.2.2.2.2.2.2.2.2.2.2.2.2.2.2.2.2.2.2.2.2.2.2.2.2.2.2.2.2.2.2.2.2.2.2.2.2.2.2.2.2.2.2.2.2.2.2.2.2.2.2.2.2.2.2.2.2.2.2.2.2.2.2.2.2.2.2.2.2.2.2.2.2.2.2.2.2.2.2.2.2.2.2.2.2.2.1 _ _ _ _ _ _ _ _ _ _ _ h0 h1 h2 h3 (k4 P hP)
theorem ev_forget {pc : Nat} {L L2 st : List Value} {μ : ev_M} {a : Nat} (h0 : ev_wk L L2) (k1 : ev_Ev call oc cc rt am ex rf μf pc L2 st μ a) : ev_Ev call oc cc rt am ex rf μf pc L st μ a := fun P hP => hP.2.2.2.2.2.2.2.2.2.2.2.2.2.2.2.2.2.2.2.2.2.2.2.2.2.2.2.2.2.2.2.2.2.2.2.2.2.2.2.2.2.2.2.2.2.2.2.2.2.2.2.2.2.2.2.2.2.2.2.2.2.2.2.2.2.2.2.2.2.2.2.2.2.2.2.2.2.2.2.2.2.2.2.2.2.2.2.2.2.1 _ _ _ _ _ _ h0 (k1 P hP)
theorem ev_callv {pc : Nat} {L st : List Value} {μ μ2 : ev_M} {a i y r : Nat} {as : List Value} {v : Option Value} (h0 : decode cc pc = .ok (.invokevirtual i, 3)) (h1 : ev_mr oc i = some y) (h2 : ev_kd y = 0) (h3 : as.length = ev_np y) (h4 : (ev_lay r).1 = 0) (h5 : (ev_lay r).2.1 = ev_yo y) (h6 : call y (.ref r :: as) μ (v, 0) μ2) (h7 : a + ev_mc y ≤ am) (h8 : (st.map Value.category).sum ≤ 8) (k9 : ev_Ev call oc cc rt am ex rf μf (pc + 3) L (v.toList ++ st) μ2 (a + ev_mc y)) : ev_Ev call oc cc rt am ex rf μf pc L (as.reverse ++ .ref r :: st) μ a := fun P hP => hP.2.2.2.2.2.2.2.2.2.2.2.2.2.2.2.2.2.2.2.2.2.2.2.2.2.2.2.2.2.2.2.2.2.2.2.2.2.2.2.2.2.2.2.2.2.2.2.2.2.2.2.2.2.2.2.2.2.2.2.2.2.2.2.2.2.2.2.2.2.2.2.2.2.2.2.2.2.2.2.2.2.2.2.2.2.2.2.2.2.2.1 _ _ _ _ _ _ _ _ _ _ _ h0 h1 h2 h3 h4 h5 h6 h7 h8 (k9 P hP)
theorem ev_calls {pc : Nat} {L st : List Value} {μ μ2 : ev_M} {a i y : Nat} {as : List Value} {v : Option Value} (h0 : decode cc pc = .ok (.invokestatic i, 3)) (h1 : ev_mr oc i = some y) (h2 : ev_kd y = 1) (h3 : as.length = ev_np y) (h4 : call y as μ (v, 0) μ2) (h5 : a + ev_mc y ≤ am) (h6 : (st.map Value.category).sum ≤ 8) (k7 : ev_Ev call oc cc rt am ex rf μf (pc + 3) L (v.toList ++ st) μ2 (a + ev_mc y)) : ev_Ev call oc cc rt am ex rf μf pc L (as.reverse ++ st) μ a := fun P hP => hP.2.2.2.2.2.2.2.2.2.2.2.2.2.2.2.2.2.2.2.2.2.2.2.2.2.2.2.2.2.2.2.2.2.2.2.2.2.2.2.2.2.2.2.2.2.2.2.2.2.2.2.2.2.2.2.2.2.2.2.2.2.2.2.2.2.2.2.2.2.2.2.2.2.2.2.2.2.2.2.2.2.2.2.2.2.2.2.2.2.2.2.1 _ _ _ _ _ _ _ _ _ _ h0 h1 h2 h3 h4 h5 h6 (k7 P hP)
theorem ev_catch_n {pc : Nat} {L st : List Value} {μ μ2 : ev_M} {a i y r E hp : Nat} {as : List Value} {k : Fin 4} {n : Int} (h0 : decode cc pc = .ok (.invokevirtual i, 3)) (h1 : ev_mr oc i = some y) (h2 : ev_kd y = 0) (h3 : as.length = ev_np y) (h4 : (ev_lay r).1 = 0) (h5 : (ev_lay r).2.1 = ev_yo y) (h6 : ev_th y = 1) (h7 : oc = 9) (h8 : call y (.ref r :: as) μ (none, E + 1) μ2) (h9 : a + ev_mc y ≤ am) (h10 : (st.map Value.category).sum ≤ 8) (h11 : E < 3) (h12 : (ex.2.2.all (fun h => decide (h.2.2.2 = ev_ct 0) || decide (h.2.2.2 = ev_ct 1) || decide (h.2.2.2 = ev_ct 2))) = true) (h13 : ev_hd ex.2.2 pc E = some hp) (h14 : (k : Nat) < L.length) (h15 : decode cc hp = .ok (.astore_n k, 1)) (h16 : decode cc (hp + 1) = .ok (.iconst n, 1)) (h17 : decode cc (hp + 1 + 1) = .ok (.ireturn, 1)) (h18 : rt = some .int) (h19 : rf = (some (.int (Int32.ofInt n)), 0)) (h20 : μf = μ2) : ev_Ev call oc cc rt am ex rf μf pc L (as.reverse ++ .ref r :: st) μ a := fun P hP => hP.2.2.2.2.2.2.2.2.2.2.2.2.2.2.2.2.2.2.2.2.2.2.2.2.2.2.2.2.2.2.2.2.2.2.2.2.2.2.2.2.2.2.2.2.2.2.2.2.2.2.2.2.2.2.2.2.2.2.2.2.2.2.2.2.2.2.2.2.2.2.2.2.2.2.2.2.2.2.2.2.2.2.2.2.2.2.2.2.2.2.2.2.1 _ _ _ _ _ _ _ _ _ _ _ _ _ _ h0 h1 h2 h3 h4 h5 h6 h7 h8 h9 h10 h11 h12 h13 h14 h15 h16 h17 h18 h19 h20
theorem ev_catch {pc : Nat} {L st : List Value} {μ μ2 : ev_M} {a i y r E hp : Nat} {as : List Value} {k : Nat} {n : Int} (h0 : decode cc pc = .ok (.invokevirtual i, 3)) (h1 : ev_mr oc i = some y) (h2 : ev_kd y = 0) (h3 : as.length = ev_np y) (h4 : (ev_lay r).1 = 0) (h5 : (ev_lay r).2.1 = ev_yo y) (h6 : ev_th y = 1) (h7 : oc = 9) (h8 : call y (.ref r :: as) μ (none, E + 1) μ2) (h9 : a + ev_mc y ≤ am) (h10 : (st.map Value.category).sum ≤ 8) (h11 : E < 3) (h12 : (ex.2.2.all (fun h => decide (h.2.2.2 = ev_ct 0) || decide (h.2.2.2 = ev_ct 1) || decide (h.2.2.2 = ev_ct 2))) = true) (h13 : ev_hd ex.2.2 pc E = some hp) (h14 : (k : Nat) < L.length) (h15 : decode cc hp = .ok (.astore k, 2)) (h16 : decode cc (hp + 2) = .ok (.iconst n, 1)) (h17 : decode cc (hp + 2 + 1) = .ok (.ireturn, 1)) (h18 : rt = some .int) (h19 : rf = (some (.int (Int32.ofInt n)), 0)) (h20 : μf = μ2) : ev_Ev call oc cc rt am ex rf μf pc L (as.reverse ++ .ref r :: st) μ a := fun P hP => hP.2.2.2.2.2.2.2.2.2.2.2.2.2.2.2.2.2.2.2.2.2.2.2.2.2.2.2.2.2.2.2.2.2.2.2.2.2.2.2.2.2.2.2.2.2.2.2.2.2.2.2.2.2.2.2.2.2.2.2.2.2.2.2.2.2.2.2.2.2.2.2.2.2.2.2.2.2.2.2.2.2.2.2.2.2.2.2.2.2.2.2.2.2.1 _ _ _ _ _ _ _ _ _ _ _ _ _ _ h0 h1 h2 h3 h4 h5 h6 h7 h8 h9 h10 h11 h12 h13 h14 h15 h16 h17 h18 h19 h20
theorem ev_ireturn {pc : Nat} {L : List Value} {μ : ev_M} {a : Nat} {x : Int32} {ty : FieldType} (h0 : decode cc pc = .ok (.ireturn, 1)) (h1 : rt = some ty) (h2 : narrow ty (.int x) = .int x) (h3 : rf = (some (.int x), 0)) (h4 : μf = μ) (h5 : a ≤ am) : ev_Ev call oc cc rt am ex rf μf pc L [.int x] μ a := fun P hP => hP.2.2.2.2.2.2.2.2.2.2.2.2.2.2.2.2.2.2.2.2.2.2.2.2.2.2.2.2.2.2.2.2.2.2.2.2.2.2.2.2.2.2.2.2.2.2.2.2.2.2.2.2.2.2.2.2.2.2.2.2.2.2.2.2.2.2.2.2.2.2.2.2.2.2.2.2.2.2.2.2.2.2.2.2.2.2.2.2.2.2.2.2.2.2.1 _ _ _ _ _ _ h0 h1 h2 h3 h4 h5
theorem ev_lreturn {pc : Nat} {L : List Value} {μ : ev_M} {a : Nat} {x : Int64} (h0 : decode cc pc = .ok (.lreturn, 1)) (h1 : rt = some .long) (h2 : rf = (some (.long x), 0)) (h3 : μf = μ) (h4 : a ≤ am) : ev_Ev call oc cc rt am ex rf μf pc L [.long x] μ a := fun P hP => hP.2.2.2.2.2.2.2.2.2.2.2.2.2.2.2.2.2.2.2.2.2.2.2.2.2.2.2.2.2.2.2.2.2.2.2.2.2.2.2.2.2.2.2.2.2.2.2.2.2.2.2.2.2.2.2.2.2.2.2.2.2.2.2.2.2.2.2.2.2.2.2.2.2.2.2.2.2.2.2.2.2.2.2.2.2.2.2.2.2.2.2.2.2.2.2.1 _ _ _ _ _ h0 h1 h2 h3 h4
theorem ev_dreturn {pc : Nat} {L : List Value} {μ : ev_M} {a : Nat} {x : UInt64} (h0 : decode cc pc = .ok (.dreturn, 1)) (h1 : rt = some .double) (h2 : rf = (some (.double x), 0)) (h3 : μf = μ) (h4 : a ≤ am) : ev_Ev call oc cc rt am ex rf μf pc L [.double x] μ a := fun P hP => hP.2.2.2.2.2.2.2.2.2.2.2.2.2.2.2.2.2.2.2.2.2.2.2.2.2.2.2.2.2.2.2.2.2.2.2.2.2.2.2.2.2.2.2.2.2.2.2.2.2.2.2.2.2.2.2.2.2.2.2.2.2.2.2.2.2.2.2.2.2.2.2.2.2.2.2.2.2.2.2.2.2.2.2.2.2.2.2.2.2.2.2.2.2.2.2.2.1 _ _ _ _ _ h0 h1 h2 h3 h4
theorem ev_vreturn {pc : Nat} {L : List Value} {μ : ev_M} {a : Nat} (h0 : decode cc pc = .ok (.return_, 1)) (h1 : rt = none) (h2 : rf = (none, 0)) (h3 : μf = μ) (h4 : a ≤ am) : ev_Ev call oc cc rt am ex rf μf pc L [] μ a := fun P hP => hP.2.2.2.2.2.2.2.2.2.2.2.2.2.2.2.2.2.2.2.2.2.2.2.2.2.2.2.2.2.2.2.2.2.2.2.2.2.2.2.2.2.2.2.2.2.2.2.2.2.2.2.2.2.2.2.2.2.2.2.2.2.2.2.2.2.2.2.2.2.2.2.2.2.2.2.2.2.2.2.2.2.2.2.2.2.2.2.2.2.2.2.2.2.2.2.2.2.1 _ _ _ _ h0 h1 h2 h3 h4
theorem ev_throw {pc : Nat} {L : List Value} {μ : ev_M} {a ik is ic E : Nat} (h0 : decode cc pc = .ok (.new ik, 3)) (h1 : decode cc (pc + 3) = .ok (.dup, 1)) (h2 : decode cc (pc + 4) = .ok (.ldc is, 2)) (h3 : decode cc (pc + 6) = .ok (.invokespecial ic, 3)) (h4 : decode cc (pc + 9) = .ok (.athrow, 1)) (h5 : ev_tr oc ik is ic = some E) (h6 : a + 1 ≤ am) (h7 : rf = (none, E + 1)) (h8 : μf = μ) : ev_Ev call oc cc rt am ex rf μf pc L [] μ a := fun P hP => hP.2.2.2.2.2.2.2.2.2.2.2.2.2.2.2.2.2.2.2.2.2.2.2.2.2.2.2.2.2.2.2.2.2.2.2.2.2.2.2.2.2.2.2.2.2.2.2.2.2.2.2.2.2.2.2.2.2.2.2.2.2.2.2.2.2.2.2.2.2.2.2.2.2.2.2.2.2.2.2.2.2.2.2.2.2.2.2.2.2.2.2.2.2.2.2.2.2.2.1 _ _ _ _ _ _ _ _ h0 h1 h2 h3 h4 h5 h6 h7 h8
theorem ev_throww {pc : Nat} {L : List Value} {μ : ev_M} {a ik is ic E : Nat} (h0 : decode cc pc = .ok (.new ik, 3)) (h1 : decode cc (pc + 3) = .ok (.dup, 1)) (h2 : decode cc (pc + 4) = .ok (.ldc_w is, 3)) (h3 : decode cc (pc + 7) = .ok (.invokespecial ic, 3)) (h4 : decode cc (pc + 10) = .ok (.athrow, 1)) (h5 : ev_tr oc ik is ic = some E) (h6 : a + 1 ≤ am) (h7 : rf = (none, E + 1)) (h8 : μf = μ) : ev_Ev call oc cc rt am ex rf μf pc L [] μ a := fun P hP => hP.2.2.2.2.2.2.2.2.2.2.2.2.2.2.2.2.2.2.2.2.2.2.2.2.2.2.2.2.2.2.2.2.2.2.2.2.2.2.2.2.2.2.2.2.2.2.2.2.2.2.2.2.2.2.2.2.2.2.2.2.2.2.2.2.2.2.2.2.2.2.2.2.2.2.2.2.2.2.2.2.2.2.2.2.2.2.2.2.2.2.2.2.2.2.2.2.2.2.2 _ _ _ _ _ _ _ _ h0 h1 h2 h3 h4 h5 h6 h7 h8
end EvRows
end
section
theorem ev_lk {α β : Type} [BEq α] [LawfulBEq α] {l : List (α × β)} {k : α} {v : β} (h : l.lookup k = some v) : (k, v) ∈ l := by
  induction l with
  | nil => simp at h
  | cons q t ih =>
    obtain ⟨q1, q2⟩ := q
    by_cases hq : k == q1
    · rw [List.lookup_cons, hq] at h
      have := LawfulBEq.eq_of_beq hq
      simp at h
      subst this; subst h
      exact List.mem_cons_self
    · have hq' : (k == q1) = false := by simpa using hq
      rw [List.lookup_cons, hq'] at h
      exact List.mem_cons_of_mem _ (ih h)
def ev_TB : List Cond := lw_tbl.filter goodWord
theorem ev_TBi {i : Nat} {w : Cond} (h : lw_tbl[i]? = some w) (g : goodWord w = true) : w ∈ ev_TB := List.mem_filter.mpr ⟨List.mem_of_getElem? h, g⟩
theorem ev_TBm {w : Cond} (h : w ∈ lw_tbl) (g : goodWord w = true) : w ∈ ev_TB := List.mem_filter.mpr ⟨h, g⟩
def ev_T (ci : Nat) : u_T := match ci with
  | 0 => TX0 | 1 => TX1 | 2 => TX2 | 3 => TX3 | 4 => TX4 | 5 => TX5 | _ => TX6
def ev_tN (ci : Nat) : Nat := match ci with
  | 0 => 17 | 1 => 3 | 2 => 2 | 3 => 4 | 4 => 4 | 5 => 7 | _ => 14
theorem ev_fr_t : ∀ q ∈ ev_frT, lw_tbl[q.2.2.2]? = some (Cond.fieldLink (ev_cn q.1.1) q.1.2 (ev_T q.2.1 q.2.2.1).1 (ev_T q.2.1 q.2.2.1).2.1 (ev_T q.2.1 q.2.2.1).2.2.1) ∧ q.2.1 < 7 ∧ q.2.2.1 < ev_tN q.2.1 := by decide +kernel
theorem ev_lays_t : ∀ ci, ci < 7 → ∀ w ∈ u_ws (ev_cn ci) (ev_T ci) (ev_tN ci), w ∈ lw_tbl := by decide +kernel
theorem ev_ci_t : ∀ q ∈ ev_ciT, lw_tbl[q.2.2]? = some (Cond.constant (ev_cn q.1.1) q.1.2 q.2.1) := by decide +kernel
theorem ev_cl_t : ∀ q ∈ ev_clT, lw_tbl[q.2.2]? = some (Cond.constantLong (ev_cn q.1.1) q.1.2 q.2.1) := by decide +kernel
theorem ev_cd_t : ∀ q ∈ ev_cdT, lw_tbl[q.2.2]? = some (Cond.constantDouble (ev_cn q.1.1) q.1.2 q.2.1) := by decide +kernel
theorem ev_sr_t : ∀ q ∈ ev_srT, lw_tbl[q.2.2]? = some (Cond.fieldLink RX5 q.1.2 RX5 (if q.2.1 = 201 then "SETTING_LEAST" else "SETTING_MOST") "[I") ∧ q.1.1 = 5 ∧ (q.2.1 = 201 ∨ q.2.1 = 202) := by decide +kernel
theorem ev_cp_t : ∀ q ∈ ev_cpT, lw_tbl[q.2]? = some (Cond.methodLink (ev_cn q.1.1) q.1.2 arraycopyName) := by decide +kernel
theorem ev_mq_t : ∀ q ∈ ev_mqT, (Cond.methodLink (ev_cn q.1.1) q.1.2 (if q.2 = 901 then Lib.Math.max.name else if q.2 = 902 then Lib.Math.min.name else if q.2 = 903 then Lib.Math.abs.name else ⟨"java/lang/Double", "doubleToRawLongBits", "(D)J"⟩)) ∈ lw_tbl := by decide +kernel
theorem ev_ms_t : ∀ w ∈ ([.static Lib.Math.max.name, .static Lib.Math.min.name, .static Lib.Math.abs.name, .initialized "java/lang/Math", .code Lib.Math.max.name Lib.Math.max.code 2 (some .int), .code Lib.Math.min.name Lib.Math.min.code 2 (some .int), .code Lib.Math.abs.name Lib.Math.abs.code 1 (some .int), .native ⟨"java/lang/Double", "doubleToRawLongBits", "(D)J"⟩, .static ⟨"java/lang/Double", "doubleToRawLongBits", "(D)J"⟩, .initialized "java/lang/Double", .native arraycopyName, .static arraycopyName, .initialized "java/lang/System"] : List Cond), w ∈ lw_tbl := by decide +kernel
theorem ev_x0 : ∀ w ∈ (vx_atS RX5 60 "java/lang/IndexOutOfBoundsException" ["java/lang/RuntimeException", "java/lang/Exception"]).filter goodWord, w ∈ lw_tbl := by decide +kernel
theorem ev_x1 : ∀ w ∈ (vx_atS RX5 67 "java/lang/IllegalArgumentException" ["java/lang/RuntimeException", "java/lang/Exception"]).filter goodWord, w ∈ lw_tbl := by decide +kernel
theorem ev_x2 : ∀ w ∈ (vx_atS RX5 86 "java/lang/IllegalStateException" ["java/lang/RuntimeException", "java/lang/Exception"]).filter goodWord, w ∈ lw_tbl := by decide +kernel
def ev_cw (y : Nat) : Cond := if (ev_yh y).isEmpty then .code (ev_yn y) (ev_yb y) (ev_yL y) (ev_yr y) else .codeWith (ev_yn y) (ev_yb y) (ev_yL y) (ev_yr y) (ev_yh y)

def ev_cixT : List Nat := [263, 267, 271, 275, 278, 281, 285, 289, 293, 297, 310, 314, 318, 321, 328, 332, 336, 340, 344, 350, 355, 359, 364, 369, 373, 377, 382, 386, 391, 398, 402, 406, 410, 414, 420, 424, 427, 431, 434, 437, 444, 447, 453, 456, 544, 548, 552, 557, 578, 581, 585, 588, 597, 601, 605, 610, 613, 617, 621, 625, 629, 633, 637, 641, 644, 648, 652, 658, 661, 665, 671, 674, 678, 682, 686, 691, 696, 700, 703, 707, 712, 716, 720, 724, 729, 732, 736, 740, 744, 748, 752, 756, 760, 763, 767, 771, 775, 779, 783, 836, 840, 844, 848, 851, 855, 859, 863, 867, 871, 875, 879, 883, 887, 891, 895, 899, 903, 907, 911, 915, 919, 923, 927, 931, 934, 938, 942, 946, 950, 954, 958, 962, 966, 970, 974, 978, 982, 986, 990, 994, 998, 1002, 1006, 1010, 1014, 1018, 1022, 1026, 1030, 1034, 1038, 1042, 1046, 1050, 1054, 1058, 1062, 1066, 1071, 1075, 1079, 1083, 1087, 1091, 1095, 1099, 1102, 1106, 1110, 1114, 1119, 1122]
def ev_cix (y : Nat) : Nat := ev_cixT.getD y 0
theorem ev_code_0 : ∀ y ∈ List.range' 0 12, lw_tbl[ev_cix y]? = some (ev_cw y) := by decide +kernel
theorem ev_code_12 : ∀ y ∈ List.range' 12 12, lw_tbl[ev_cix y]? = some (ev_cw y) := by decide +kernel
theorem ev_code_24 : ∀ y ∈ List.range' 24 12, lw_tbl[ev_cix y]? = some (ev_cw y) := by decide +kernel
theorem ev_code_36 : ∀ y ∈ List.range' 36 12, lw_tbl[ev_cix y]? = some (ev_cw y) := by decide +kernel
theorem ev_code_48 : ∀ y ∈ List.range' 48 12, lw_tbl[ev_cix y]? = some (ev_cw y) := by decide +kernel
theorem ev_code_60 : ∀ y ∈ List.range' 60 12, lw_tbl[ev_cix y]? = some (ev_cw y) := by decide +kernel
theorem ev_code_72 : ∀ y ∈ List.range' 72 12, lw_tbl[ev_cix y]? = some (ev_cw y) := by decide +kernel
theorem ev_code_84 : ∀ y ∈ List.range' 84 12, lw_tbl[ev_cix y]? = some (ev_cw y) := by decide +kernel
theorem ev_code_96 : ∀ y ∈ List.range' 96 12, lw_tbl[ev_cix y]? = some (ev_cw y) := by decide +kernel
theorem ev_code_108 : ∀ y ∈ List.range' 108 12, lw_tbl[ev_cix y]? = some (ev_cw y) := by decide +kernel
theorem ev_code_120 : ∀ y ∈ List.range' 120 12, lw_tbl[ev_cix y]? = some (ev_cw y) := by decide +kernel
theorem ev_code_132 : ∀ y ∈ List.range' 132 12, lw_tbl[ev_cix y]? = some (ev_cw y) := by decide +kernel
theorem ev_code_144 : ∀ y ∈ List.range' 144 12, lw_tbl[ev_cix y]? = some (ev_cw y) := by decide +kernel
theorem ev_code_156 : ∀ y ∈ List.range' 156 12, lw_tbl[ev_cix y]? = some (ev_cw y) := by decide +kernel
theorem ev_code_168 : ∀ y ∈ List.range' 168 4, lw_tbl[ev_cix y]? = some (ev_cw y) := by decide +kernel
theorem ev_code_t {y : Nat} (h : y < 172) : ev_cw y ∈ lw_tbl := by
  by_cases c0 : y < 12
  · exact List.mem_of_getElem? (ev_code_0 y (List.mem_range'_1.mpr ⟨by omega, by omega⟩))
  by_cases c12 : y < 24
  · exact List.mem_of_getElem? (ev_code_12 y (List.mem_range'_1.mpr ⟨by omega, by omega⟩))
  by_cases c24 : y < 36
  · exact List.mem_of_getElem? (ev_code_24 y (List.mem_range'_1.mpr ⟨by omega, by omega⟩))
  by_cases c36 : y < 48
  · exact List.mem_of_getElem? (ev_code_36 y (List.mem_range'_1.mpr ⟨by omega, by omega⟩))
  by_cases c48 : y < 60
  · exact List.mem_of_getElem? (ev_code_48 y (List.mem_range'_1.mpr ⟨by omega, by omega⟩))
  by_cases c60 : y < 72
  · exact List.mem_of_getElem? (ev_code_60 y (List.mem_range'_1.mpr ⟨by omega, by omega⟩))
  by_cases c72 : y < 84
  · exact List.mem_of_getElem? (ev_code_72 y (List.mem_range'_1.mpr ⟨by omega, by omega⟩))
  by_cases c84 : y < 96
  · exact List.mem_of_getElem? (ev_code_84 y (List.mem_range'_1.mpr ⟨by omega, by omega⟩))
  by_cases c96 : y < 108
  · exact List.mem_of_getElem? (ev_code_96 y (List.mem_range'_1.mpr ⟨by omega, by omega⟩))
  by_cases c108 : y < 120
  · exact List.mem_of_getElem? (ev_code_108 y (List.mem_range'_1.mpr ⟨by omega, by omega⟩))
  by_cases c120 : y < 132
  · exact List.mem_of_getElem? (ev_code_120 y (List.mem_range'_1.mpr ⟨by omega, by omega⟩))
  by_cases c132 : y < 144
  · exact List.mem_of_getElem? (ev_code_132 y (List.mem_range'_1.mpr ⟨by omega, by omega⟩))
  by_cases c144 : y < 156
  · exact List.mem_of_getElem? (ev_code_144 y (List.mem_range'_1.mpr ⟨by omega, by omega⟩))
  by_cases c156 : y < 168
  · exact List.mem_of_getElem? (ev_code_156 y (List.mem_range'_1.mpr ⟨by omega, by omega⟩))
  exact List.mem_of_getElem? (ev_code_168 y (List.mem_range'_1.mpr ⟨by omega, by omega⟩))
/-- a call's words but the code -/
def ev_mok (q : (Nat × Nat) × Nat × Nat × Nat × Nat × Nat × Nat) : Prop := q.2.1 < 172 ∧ lw_tbl[q.2.2.1]? = some (Cond.methodLink (ev_cn q.1.1) q.1.2 (ev_yn q.2.1)) ∧ (ev_kd q.2.1 = 0 → lw_tbl[q.2.2.2.1]? = some (Cond.instanceMethod (ev_yn q.2.1)) ∧ lw_tbl[q.2.2.2.2.1]? = some (Cond.selects (ev_cn (ev_yo q.2.1)) (ev_yn q.2.1) (ev_yn q.2.1))) ∧ (ev_kd q.2.1 = 1 → lw_tbl[q.2.2.2.1]? = some (Cond.static (ev_yn q.2.1))) ∧ lw_tbl[q.2.2.2.2.2.1]? = some (Cond.initialized (ev_yn q.2.1).cls)
theorem ev_mr_0 : ∀ q ∈ (ev_mrT.drop 0).take 20, ev_mok q := by unfold ev_mok; decide +kernel
theorem ev_mr_20 : ∀ q ∈ (ev_mrT.drop 20).take 20, ev_mok q := by unfold ev_mok; decide +kernel
theorem ev_mr_40 : ∀ q ∈ (ev_mrT.drop 40).take 20, ev_mok q := by unfold ev_mok; decide +kernel
theorem ev_mr_60 : ∀ q ∈ (ev_mrT.drop 60).take 20, ev_mok q := by unfold ev_mok; decide +kernel
theorem ev_mr_80 : ∀ q ∈ (ev_mrT.drop 80).take 20, ev_mok q := by unfold ev_mok; decide +kernel
theorem ev_mr_100 : ∀ q ∈ (ev_mrT.drop 100).take 20, ev_mok q := by unfold ev_mok; decide +kernel
theorem ev_mr_120 : ∀ q ∈ (ev_mrT.drop 120).take 20, ev_mok q := by unfold ev_mok; decide +kernel
theorem ev_mr_140 : ∀ q ∈ (ev_mrT.drop 140).take 20, ev_mok q := by unfold ev_mok; decide +kernel
theorem ev_mr_160 : ∀ q ∈ (ev_mrT.drop 160).take 20, ev_mok q := by unfold ev_mok; decide +kernel
theorem ev_mr_180 : ∀ q ∈ (ev_mrT.drop 180).take 20, ev_mok q := by unfold ev_mok; decide +kernel
theorem ev_dt {α : Type} {P : α → Prop} {l : List α} (n : Nat) (h1 : ∀ q ∈ l.take n, P q) (h2 : ∀ q ∈ l.drop n, P q) : ∀ q ∈ l, P q := fun q h => by
  rw [← List.take_append_drop n l] at h
  exact (List.mem_append.mp h).elim (h1 q) (h2 q)
theorem ev_mr_t : ∀ q ∈ ev_mrT, ev_mok q := by
  refine ev_dt 20 (by simpa using ev_mr_0) ?_
  try rw [List.drop_drop]
  refine ev_dt 20 ev_mr_20 ?_
  try rw [List.drop_drop]
  refine ev_dt 20 ev_mr_40 ?_
  try rw [List.drop_drop]
  refine ev_dt 20 ev_mr_60 ?_
  try rw [List.drop_drop]
  refine ev_dt 20 ev_mr_80 ?_
  try rw [List.drop_drop]
  refine ev_dt 20 ev_mr_100 ?_
  try rw [List.drop_drop]
  refine ev_dt 20 ev_mr_120 ?_
  try rw [List.drop_drop]
  refine ev_dt 20 ev_mr_140 ?_
  try rw [List.drop_drop]
  refine ev_dt 20 ev_mr_160 ?_
  try rw [List.drop_drop]
  intro q h
  exact ev_mr_180 q (by rw [List.take_of_length_le (by decide +kernel)]; exact h)
theorem ev_yo_t : ∀ y, y < 172 → (ev_yn y).cls = ev_cn (ev_yo y) ∧ (ev_yn y).cls ≠ "java/lang/invoke/MethodHandle" ∧ (ev_yn y).cls ≠ "java/lang/invoke/VarHandle" ∧ (parseMethodDescriptor (ev_yn y).desc).map (fun d => d.parameters.length) = some (ev_np y) ∧ plainName (ev_yn y).cls = true ∧ ev_yL y ≤ 14 ∧ (parseMethodDescriptor (ev_yn y).desc).map (fun d => d.returnType) = some (ev_yr y) := by decide +kernel
theorem mr_9_112 : ev_mr 9 112 = some 0 := by decide +kernel
theorem mr_5_144 : ev_mr 5 144 = some 1 := by decide +kernel
theorem mr_9_116 : ev_mr 9 116 = some 2 := by decide +kernel
theorem mr_5_147 : ev_mr 5 147 = some 3 := by decide +kernel
theorem mr_2_19 : ev_mr 2 19 = some 4 := by decide +kernel
theorem mr_2_35 : ev_mr 2 35 = some 5 := by decide +kernel
theorem mr_9_154 : ev_mr 9 154 = some 6 := by decide +kernel
theorem mr_5_221 : ev_mr 5 221 = some 7 := by decide +kernel
theorem mr_0_104 : ev_mr 0 104 = some 8 := by decide +kernel
theorem mr_0_82 : ev_mr 0 82 = some 9 := by decide +kernel
theorem mr_9_158 : ev_mr 9 158 = some 10 := by decide +kernel
theorem mr_5_224 : ev_mr 5 224 = some 11 := by decide +kernel
theorem mr_0_86 : ev_mr 0 86 = some 12 := by decide +kernel
theorem mr_0_90 : ev_mr 0 90 = some 13 := by decide +kernel
theorem mr_9_162 : ev_mr 9 162 = some 14 := by decide +kernel
theorem mr_5_227 : ev_mr 5 227 = some 15 := by decide +kernel
theorem mr_0_121 : ev_mr 0 121 = some 16 := by decide +kernel
theorem mr_0_118 : ev_mr 0 118 = some 17 := by decide +kernel
theorem mr_9_167 : ev_mr 9 167 = some 18 := by decide +kernel
theorem mr_5_198 : ev_mr 5 198 = some 19 := by decide +kernel
theorem mr_5_292 : ev_mr 5 292 = some 16 := by decide +kernel
theorem mr_5_295 : ev_mr 5 295 = some 20 := by decide +kernel
theorem mr_5_203 : ev_mr 5 203 = some 21 := by decide +kernel
theorem mr_4_27 : ev_mr 4 27 = some 9 := by decide +kernel
theorem mr_4_33 : ev_mr 4 33 = some 22 := by decide +kernel
theorem mr_5_235 : ev_mr 5 235 = some 23 := by decide +kernel
theorem mr_5_188 : ev_mr 5 188 = some 24 := by decide +kernel
theorem mr_5_250 : ev_mr 5 250 = some 25 := by decide +kernel
theorem mr_5_253 : ev_mr 5 253 = some 12 := by decide +kernel
theorem mr_5_206 : ev_mr 5 206 = some 26 := by decide +kernel
theorem mr_4_38 : ev_mr 4 38 = some 27 := by decide +kernel
theorem mr_5_209 : ev_mr 5 209 = some 28 := by decide +kernel
theorem mr_4_53 : ev_mr 4 53 = some 29 := by decide +kernel
theorem mr_5_239 : ev_mr 5 239 = some 30 := by decide +kernel
theorem mr_5_193 : ev_mr 5 193 = some 31 := by decide +kernel
theorem mr_5_280 : ev_mr 5 280 = some 32 := by decide +kernel
theorem mr_0_101 : ev_mr 0 101 = some 33 := by decide +kernel
theorem mr_0_98 : ev_mr 0 98 = some 22 := by decide +kernel
theorem mr_5_214 : ev_mr 5 214 = some 33 := by decide +kernel
theorem mr_5_217 : ev_mr 5 217 = some 34 := by decide +kernel
theorem mr_3_46 : ev_mr 3 46 = some 35 := by decide +kernel
theorem mr_3_56 : ev_mr 3 56 = some 36 := by decide +kernel
theorem mr_3_59 : ev_mr 3 59 = some 37 := by decide +kernel
theorem mr_3_62 : ev_mr 3 62 = some 38 := by decide +kernel
theorem mr_5_243 : ev_mr 5 243 = some 39 := by decide +kernel
theorem mr_5_155 : ev_mr 5 155 = some 40 := by decide +kernel
theorem mr_9_80 : ev_mr 9 80 = some 41 := by decide +kernel
theorem mr_9_7 : ev_mr 9 7 = some 42 := by decide +kernel
theorem mr_5_52 : ev_mr 5 52 = some 43 := by decide +kernel
theorem mr_5_68 : ev_mr 5 68 = some 44 := by decide +kernel
theorem mr_1_23 : ev_mr 1 23 = some 45 := by decide +kernel
theorem mr_9_89 : ev_mr 9 89 = some 46 := by decide +kernel
theorem mr_9_17 : ev_mr 9 17 = some 47 := by decide +kernel
theorem mr_5_87 : ev_mr 5 87 = some 48 := by decide +kernel
theorem mr_9_92 : ev_mr 9 92 = some 49 := by decide +kernel
theorem mr_9_22 : ev_mr 9 22 = some 50 := by decide +kernel
theorem mr_5_91 : ev_mr 5 91 = some 51 := by decide +kernel
theorem mr_9_95 : ev_mr 9 95 = some 52 := by decide +kernel
theorem mr_9_25 : ev_mr 9 25 = some 53 := by decide +kernel
theorem mr_5_107 : ev_mr 5 107 = some 54 := by decide +kernel
theorem mr_5_113 : ev_mr 5 113 = some 55 := by decide +kernel
theorem mr_9_99 : ev_mr 9 99 = some 56 := by decide +kernel
theorem mr_9_29 : ev_mr 9 29 = some 57 := by decide +kernel
theorem mr_5_117 : ev_mr 5 117 = some 58 := by decide +kernel
theorem mr_0_107 : ev_mr 0 107 = some 59 := by decide +kernel
theorem mr_0_110 : ev_mr 0 110 = some 60 := by decide +kernel
theorem mr_0_114 : ev_mr 0 114 = some 55 := by decide +kernel
theorem mr_9_103 : ev_mr 9 103 = some 61 := by decide +kernel
theorem mr_9_33 : ev_mr 9 33 = some 62 := by decide +kernel
theorem mr_5_121 : ev_mr 5 121 = some 63 := by decide +kernel
theorem mr_9_106 : ev_mr 9 106 = some 64 := by decide +kernel
theorem mr_9_36 : ev_mr 9 36 = some 65 := by decide +kernel
theorem mr_5_124 : ev_mr 5 124 = some 66 := by decide +kernel
theorem mr_5_131 : ev_mr 5 131 = some 67 := by decide +kernel
theorem mr_9_109 : ev_mr 9 109 = some 68 := by decide +kernel
theorem mr_9_39 : ev_mr 9 39 = some 69 := by decide +kernel
theorem mr_5_141 : ev_mr 5 141 = some 70 := by decide +kernel
theorem mr_9_120 : ev_mr 9 120 = some 71 := by decide +kernel
theorem mr_9_42 : ev_mr 9 42 = some 72 := by decide +kernel
theorem mr_5_150 : ev_mr 5 150 = some 73 := by decide +kernel
theorem mr_2_23 : ev_mr 2 23 = some 3 := by decide +kernel
theorem mr_2_27 : ev_mr 2 27 = some 74 := by decide +kernel
theorem mr_5_158 : ev_mr 5 158 = some 75 := by decide +kernel
theorem mr_2_31 : ev_mr 2 31 = some 40 := by decide +kernel
theorem mr_5_161 : ev_mr 5 161 = some 76 := by decide +kernel
theorem mr_5_165 : ev_mr 5 165 = some 77 := by decide +kernel
theorem mr_9_123 : ev_mr 9 123 = some 78 := by decide +kernel
theorem mr_9_45 : ev_mr 9 45 = some 79 := by decide +kernel
theorem mr_5_170 : ev_mr 5 170 = some 45 := by decide +kernel
theorem mr_9_126 : ev_mr 9 126 = some 80 := by decide +kernel
theorem mr_9_48 : ev_mr 9 48 = some 81 := by decide +kernel
theorem mr_9_129 : ev_mr 9 129 = some 82 := by decide +kernel
theorem mr_9_51 : ev_mr 9 51 = some 83 := by decide +kernel
theorem mr_5_183 : ev_mr 5 183 = some 84 := by decide +kernel
theorem mr_9_132 : ev_mr 9 132 = some 85 := by decide +kernel
theorem mr_9_54 : ev_mr 9 54 = some 86 := by decide +kernel
theorem mr_9_135 : ev_mr 9 135 = some 87 := by decide +kernel
theorem mr_9_57 : ev_mr 9 57 = some 88 := by decide +kernel
theorem mr_9_138 : ev_mr 9 138 = some 89 := by decide +kernel
theorem mr_9_60 : ev_mr 9 60 = some 90 := by decide +kernel
theorem mr_9_141 : ev_mr 9 141 = some 91 := by decide +kernel
theorem mr_9_63 : ev_mr 9 63 = some 92 := by decide +kernel
theorem mr_9_144 : ev_mr 9 144 = some 93 := by decide +kernel
theorem mr_9_66 : ev_mr 9 66 = some 94 := by decide +kernel
theorem mr_9_148 : ev_mr 9 148 = some 95 := by decide +kernel
theorem mr_9_70 : ev_mr 9 70 = some 96 := by decide +kernel
theorem mr_9_151 : ev_mr 9 151 = some 97 := by decide +kernel
theorem mr_9_73 : ev_mr 9 73 = some 98 := by decide +kernel
theorem mr_9_86 : ev_mr 9 86 = some 99 := by decide +kernel
theorem mr_9_131 : ev_mr 9 131 = some 100 := by decide +kernel
theorem mr_6_46 : ev_mr 6 46 = some 101 := by decide +kernel
theorem mr_9_125 : ev_mr 9 125 = some 102 := by decide +kernel
theorem mr_6_39 : ev_mr 6 39 = some 103 := by decide +kernel
theorem mr_9_128 : ev_mr 9 128 = some 104 := by decide +kernel
theorem mr_6_50 : ev_mr 6 50 = some 105 := by decide +kernel
theorem mr_6_53 : ev_mr 6 53 = some 106 := by decide +kernel
theorem mr_9_85 : ev_mr 9 85 = some 107 := by decide +kernel
theorem mr_9_91 : ev_mr 9 91 = some 108 := by decide +kernel
theorem mr_9_94 : ev_mr 9 94 = some 109 := by decide +kernel
theorem mr_9_98 : ev_mr 9 98 = some 110 := by decide +kernel
theorem mr_6_112 : ev_mr 6 112 = some 111 := by decide +kernel
theorem mr_6_116 : ev_mr 6 116 = some 112 := by decide +kernel
theorem mr_6_91 : ev_mr 6 91 = some 113 := by decide +kernel
theorem mr_6_63 : ev_mr 6 63 = some 114 := by decide +kernel
theorem mr_6_94 : ev_mr 6 94 = some 115 := by decide +kernel
theorem mr_6_79 : ev_mr 6 79 = some 116 := by decide +kernel
theorem mr_6_83 : ev_mr 6 83 = some 117 := by decide +kernel
theorem mr_6_87 : ev_mr 6 87 = some 118 := by decide +kernel
theorem mr_9_102 : ev_mr 9 102 = some 119 := by decide +kernel
theorem mr_6_119 : ev_mr 6 119 = some 120 := by decide +kernel
theorem mr_6_97 : ev_mr 6 97 = some 121 := by decide +kernel
theorem mr_6_59 : ev_mr 6 59 = some 122 := by decide +kernel
theorem mr_6_76 : ev_mr 6 76 = some 123 := by decide +kernel
theorem mr_6_56 : ev_mr 6 56 = some 124 := by decide +kernel
theorem mr_6_100 : ev_mr 6 100 = some 125 := by decide +kernel
theorem mr_6_103 : ev_mr 6 103 = some 126 := by decide +kernel
theorem mr_9_105 : ev_mr 9 105 = some 127 := by decide +kernel
theorem mr_6_122 : ev_mr 6 122 = some 128 := by decide +kernel
theorem mr_6_106 : ev_mr 6 106 = some 129 := by decide +kernel
theorem mr_9_108 : ev_mr 9 108 = some 130 := by decide +kernel
theorem mr_6_125 : ev_mr 6 125 = some 131 := by decide +kernel
theorem mr_6_129 : ev_mr 6 129 = some 132 := by decide +kernel
theorem mr_6_109 : ev_mr 6 109 = some 133 := by decide +kernel
theorem mr_9_111 : ev_mr 9 111 = some 134 := by decide +kernel
theorem mr_9_115 : ev_mr 9 115 = some 135 := by decide +kernel
theorem mr_9_119 : ev_mr 9 119 = some 136 := by decide +kernel
theorem mr_6_138 : ev_mr 6 138 = some 137 := by decide +kernel
theorem mr_6_141 : ev_mr 6 141 = some 138 := by decide +kernel
theorem mr_6_135 : ev_mr 6 135 = some 139 := by decide +kernel
theorem mr_9_122 : ev_mr 9 122 = some 140 := by decide +kernel
theorem mr_6_144 : ev_mr 6 144 = some 141 := by decide +kernel
theorem mr_6_147 : ev_mr 6 147 = some 142 := by decide +kernel
theorem mr_9_134 : ev_mr 9 134 = some 143 := by decide +kernel
theorem mr_6_156 : ev_mr 6 156 = some 144 := by decide +kernel
theorem mr_6_150 : ev_mr 6 150 = some 145 := by decide +kernel
theorem mr_6_153 : ev_mr 6 153 = some 146 := by decide +kernel
theorem mr_9_137 : ev_mr 9 137 = some 147 := by decide +kernel
theorem mr_6_165 : ev_mr 6 165 = some 148 := by decide +kernel
theorem mr_6_162 : ev_mr 6 162 = some 149 := by decide +kernel
theorem mr_6_159 : ev_mr 6 159 = some 150 := by decide +kernel
theorem mr_9_140 : ev_mr 9 140 = some 151 := by decide +kernel
theorem mr_6_174 : ev_mr 6 174 = some 152 := by decide +kernel
theorem mr_6_168 : ev_mr 6 168 = some 153 := by decide +kernel
theorem mr_6_171 : ev_mr 6 171 = some 154 := by decide +kernel
theorem mr_9_143 : ev_mr 9 143 = some 155 := by decide +kernel
theorem mr_9_147 : ev_mr 9 147 = some 156 := by decide +kernel
theorem mr_6_178 : ev_mr 6 178 = some 157 := by decide +kernel
theorem mr_9_150 : ev_mr 9 150 = some 158 := by decide +kernel
theorem mr_9_153 : ev_mr 9 153 = some 159 := by decide +kernel
theorem mr_6_185 : ev_mr 6 185 = some 160 := by decide +kernel
theorem mr_6_181 : ev_mr 6 181 = some 161 := by decide +kernel
theorem mr_9_157 : ev_mr 9 157 = some 162 := by decide +kernel
theorem mr_6_188 : ev_mr 6 188 = some 163 := by decide +kernel
theorem mr_9_161 : ev_mr 9 161 = some 164 := by decide +kernel
theorem mr_6_194 : ev_mr 6 194 = some 165 := by decide +kernel
theorem mr_6_191 : ev_mr 6 191 = some 166 := by decide +kernel
theorem mr_9_166 : ev_mr 9 166 = some 167 := by decide +kernel
theorem mr_6_197 : ev_mr 6 197 = some 168 := by decide +kernel
theorem mr_9_171 : ev_mr 9 171 = some 169 := by decide +kernel
theorem mr_6_205 : ev_mr 6 205 = some 170 := by decide +kernel
theorem mr_8_122 : ev_mr 8 122 = some 171 := by decide +kernel
theorem mr_0_73 : ev_mr 0 73 = some 901 := by decide +kernel
theorem mr_0_79 : ev_mr 0 79 = some 902 := by decide +kernel
theorem mr_0_95 : ev_mr 0 95 = some 903 := by decide +kernel
theorem mr_4_42 : ev_mr 4 42 = some 902 := by decide +kernel
theorem mr_3_65 : ev_mr 3 65 = some 902 := by decide +kernel
theorem mr_8_134 : ev_mr 8 134 = some 904 := by decide +kernel
theorem fr_0_9 : ev_fr 0 9 = some (0, 0) := by decide +kernel
theorem fr_5_72 : ev_fr 5 72 = some (0, 0) := by decide +kernel
theorem fr_0_15 : ev_fr 0 15 = some (0, 1) := by decide +kernel
theorem fr_3_30 : ev_fr 3 30 = some (0, 1) := by decide +kernel
theorem fr_5_247 : ev_fr 5 247 = some (0, 1) := by decide +kernel
theorem fr_0_18 : ev_fr 0 18 = some (0, 2) := by decide +kernel
theorem fr_3_37 : ev_fr 3 37 = some (0, 2) := by decide +kernel
theorem fr_5_104 : ev_fr 5 104 = some (0, 2) := by decide +kernel
theorem fr_0_21 : ev_fr 0 21 = some (0, 3) := by decide +kernel
theorem fr_3_25 : ev_fr 3 25 = some (0, 3) := by decide +kernel
theorem fr_5_256 : ev_fr 5 256 = some (0, 3) := by decide +kernel
theorem fr_0_24 : ev_fr 0 24 = some (0, 4) := by decide +kernel
theorem fr_3_40 : ev_fr 3 40 = some (0, 4) := by decide +kernel
theorem fr_5_259 : ev_fr 5 259 = some (0, 4) := by decide +kernel
theorem fr_0_27 : ev_fr 0 27 = some (0, 5) := by decide +kernel
theorem fr_3_43 : ev_fr 3 43 = some (0, 5) := by decide +kernel
theorem fr_5_262 : ev_fr 5 262 = some (0, 5) := by decide +kernel
theorem fr_0_30 : ev_fr 0 30 = some (0, 6) := by decide +kernel
theorem fr_5_268 : ev_fr 5 268 = some (0, 6) := by decide +kernel
theorem fr_0_33 : ev_fr 0 33 = some (0, 7) := by decide +kernel
theorem fr_5_271 : ev_fr 5 271 = some (0, 7) := by decide +kernel
theorem fr_0_36 : ev_fr 0 36 = some (0, 8) := by decide +kernel
theorem fr_5_274 : ev_fr 5 274 = some (0, 8) := by decide +kernel
theorem fr_0_39 : ev_fr 0 39 = some (0, 9) := by decide +kernel
theorem fr_5_277 : ev_fr 5 277 = some (0, 9) := by decide +kernel
theorem fr_0_42 : ev_fr 0 42 = some (0, 10) := by decide +kernel
theorem fr_5_78 : ev_fr 5 78 = some (0, 10) := by decide +kernel
theorem fr_0_46 : ev_fr 0 46 = some (0, 11) := by decide +kernel
theorem fr_5_283 : ev_fr 5 283 = some (0, 11) := by decide +kernel
theorem fr_0_49 : ev_fr 0 49 = some (0, 12) := by decide +kernel
theorem fr_5_265 : ev_fr 5 265 = some (0, 12) := by decide +kernel
theorem fr_0_52 : ev_fr 0 52 = some (0, 13) := by decide +kernel
theorem fr_5_173 : ev_fr 5 173 = some (0, 13) := by decide +kernel
theorem fr_0_55 : ev_fr 0 55 = some (0, 14) := by decide +kernel
theorem fr_5_286 : ev_fr 5 286 = some (0, 14) := by decide +kernel
theorem fr_0_58 : ev_fr 0 58 = some (0, 15) := by decide +kernel
theorem fr_5_289 : ev_fr 5 289 = some (0, 15) := by decide +kernel
theorem fr_0_61 : ev_fr 0 61 = some (0, 16) := by decide +kernel
theorem fr_5_298 : ev_fr 5 298 = some (0, 16) := by decide +kernel
theorem fr_1_11 : ev_fr 1 11 = some (1, 0) := by decide +kernel
theorem fr_1_15 : ev_fr 1 15 = some (1, 1) := by decide +kernel
theorem fr_1_19 : ev_fr 1 19 = some (1, 2) := by decide +kernel
theorem fr_5_178 : ev_fr 5 178 = some (1, 2) := by decide +kernel
theorem fr_2_11 : ev_fr 2 11 = some (2, 0) := by decide +kernel
theorem fr_2_15 : ev_fr 2 15 = some (2, 1) := by decide +kernel
theorem fr_5_136 : ev_fr 5 136 = some (2, 1) := by decide +kernel
theorem fr_4_11 : ev_fr 4 11 = some (4, 0) := by decide +kernel
theorem fr_3_50 : ev_fr 3 50 = some (4, 0) := by decide +kernel
theorem fr_4_16 : ev_fr 4 16 = some (4, 1) := by decide +kernel
theorem fr_4_19 : ev_fr 4 19 = some (4, 2) := by decide +kernel
theorem fr_4_23 : ev_fr 4 23 = some (4, 3) := by decide +kernel
theorem fr_3_9 : ev_fr 3 9 = some (3, 0) := by decide +kernel
theorem fr_3_15 : ev_fr 3 15 = some (3, 1) := by decide +kernel
theorem fr_3_19 : ev_fr 3 19 = some (3, 2) := by decide +kernel
theorem fr_3_22 : ev_fr 3 22 = some (3, 3) := by decide +kernel
theorem fr_5_10 : ev_fr 5 10 = some (5, 0) := by decide +kernel
theorem fr_5_16 : ev_fr 5 16 = some (5, 1) := by decide +kernel
theorem fr_5_20 : ev_fr 5 20 = some (5, 2) := by decide +kernel
theorem fr_5_27 : ev_fr 5 27 = some (5, 3) := by decide +kernel
theorem fr_5_34 : ev_fr 5 34 = some (5, 4) := by decide +kernel
theorem fr_5_41 : ev_fr 5 41 = some (5, 5) := by decide +kernel
theorem fr_5_48 : ev_fr 5 48 = some (5, 6) := by decide +kernel
theorem fr_6_7 : ev_fr 6 7 = some (6, 0) := by decide +kernel
theorem fr_6_13 : ev_fr 6 13 = some (6, 1) := by decide +kernel
theorem fr_6_16 : ev_fr 6 16 = some (6, 2) := by decide +kernel
theorem fr_6_19 : ev_fr 6 19 = some (6, 3) := by decide +kernel
theorem fr_6_22 : ev_fr 6 22 = some (6, 4) := by decide +kernel
theorem fr_6_43 : ev_fr 6 43 = some (6, 5) := by decide +kernel
theorem fr_6_26 : ev_fr 6 26 = some (6, 6) := by decide +kernel
theorem fr_6_132 : ev_fr 6 132 = some (6, 7) := by decide +kernel
theorem fr_6_35 : ev_fr 6 35 = some (6, 8) := by decide +kernel
theorem fr_6_67 : ev_fr 6 67 = some (6, 9) := by decide +kernel
theorem fr_6_70 : ev_fr 6 70 = some (6, 10) := by decide +kernel
theorem fr_6_73 : ev_fr 6 73 = some (6, 11) := by decide +kernel
theorem fr_6_29 : ev_fr 6 29 = some (6, 12) := by decide +kernel
theorem fr_6_32 : ev_fr 6 32 = some (6, 13) := by decide +kernel
theorem ci_7_265 : ev_ci 7 265 = some 1431655765 := by decide +kernel
theorem ci_7_266 : ev_ci 7 266 = some 858993459 := by decide +kernel
theorem ci_7_267 : ev_ci 7 267 = some 252645135 := by decide +kernel
theorem ci_4_37 : ev_ci 4 37 = some 1000000 := by decide +kernel
theorem ci_6_177 : ev_ci 6 177 = some 100000 := by decide +kernel
theorem cl_5_231 : ev_cl 5 231 = some 3229 := by decide +kernel
theorem cl_5_233 : ev_cl 5 233 = some 31 := by decide +kernel
theorem cl_5_301 : ev_cl 5 301 = some 1023 := by decide +kernel
theorem cl_6_201 : ev_cl 6 201 = some 3229 := by decide +kernel
theorem cl_6_203 : ev_cl 6 203 = some 31 := by decide +kernel
theorem cl_8_137 : ev_cl 8 137 = some 9221120237041090560 := by decide +kernel
theorem cd_5_303 : ev_cd 5 303 = some 4611686018427387904 := by decide +kernel
theorem cd_5_305 : ev_cd 5 305 = some 4841369599423283200 := by decide +kernel
end
section
/-! the machine's side of the pure steps: the world as one list of cells, locals as a list, what the kit's rows say of them -/
def ev_cv (ad : Nat → Nat) : Value → Value
  | .ref r => .ref (ad r)
  | .int x => .int x
  | .long x => .long x
  | .float x => .float x
  | .double x => .double x
  | .null => .null
  | v => v
theorem ev_cvc {ad : Nat → Nat} (v : Value) : (ev_cv ad v).category = v.category := by cases v <;> rfl
def ev_fl (ad : Nat → Nat) (f : Nat → Int32) : Nat → List (Option Nat) → List Value
  | _, [] => []
  | i, none :: t => .int (f i) :: ev_fl ad f (i + 1) t
  | i, some r :: t => .ref (ad r) :: ev_fl ad f (i + 1) t
def ev_re (ad : Nat → Nat) (rs : List (Option Nat)) : Nat → Option Nat := fun i => (rs.getD i none).map ad
def ev_en (ca : Nat → ClassId) (ad : Nat → Nat) (k : Nat) (f : Nat → Int32) : va_E := match ev_lay k with
  | (0, ci, fs) => .inr (ci, ev_fl ad f 0 fs)
  | (1, n, _) => .inl (ca 0, n, .inl f)
  | (2, n, _) => .inl (ca 1, n, .inl f)
  | (3, n, rs) => .inl (ca 2, n, .inr (.inr (.inr (.inr (ev_re ad rs)))))
  | (4, n, _) => .inl (ca 3, n, .inr (.inl (fun i => (f i).toInt64)))
  | (_, n, rs) => .inl (ca 4, n, .inr (.inr (.inr (.inr (ev_re ad rs)))))
def ev_wl (ca : Nat → ClassId) (ad : Nat → Nat) (μ : ev_M) : va_W := (List.range 143).map (fun k => (ad k, ev_en ca ad k (μ k)))
theorem ev_wl_get {ca : Nat → ClassId} {ad : Nat → Nat} {μ : ev_M} {k : Nat} (h : k < 143) : (ev_wl ca ad μ)[k]? = some (ad k, ev_en ca ad k (μ k)) := by
  unfold ev_wl
  rw [List.getElem?_map, List.getElem?_range h]
  rfl
theorem ev_wl_inv {ca : Nat → ClassId} {ad : Nat → Nat} {μ : ev_M} {k : Nat} {q : Nat × va_E} (h : (ev_wl ca ad μ)[k]? = some q) : k < 143 ∧ q = (ad k, ev_en ca ad k (μ k)) := by
  have hk : k < 143 := by
    have := (List.getElem?_eq_some_iff.mp h).1
    simpa [ev_wl] using this
  rw [ev_wl_get hk] at h
  exact ⟨hk, (Option.some.inj h).symm⟩
def ev_ty (ca : Nat → ClassId) : List (ClassId × FieldType) := [(ca 0, .int), (ca 1, .boolean), (ca 2, .object RX0), (ca 3, .long), (ca 4, .array .int)]
theorem ev_lay_lt {k t n : Nat} {rs : List (Option Nat)} (h : ev_lay k = (t, n, rs)) (ht : t ≠ 9) : k < 143 := by
  rcases Nat.lt_or_ge k 143 with q | q
  · exact q
  · have e : ev_lay k = (9, 0, []) := by
      unfold ev_lay
      rw [if_neg (by omega), if_neg (by omega), if_neg (by omega)]
    rw [e] at h
    cases h
    exact absurd rfl ht
theorem ev_lay_n0 : ∀ k, k < 143 → (ev_lay k).2.1 ≤ 400 := by decide +kernel
theorem ev_lay_n {k t n : Nat} {rs : List (Option Nat)} (h : ev_lay k = (t, n, rs)) (ht : t ≠ 9) : n ≤ 400 := by
  have := ev_lay_n0 k (ev_lay_lt h ht)
  rw [h] at this
  exact this
theorem ev_wl_set {ca : Nat → ClassId} {ad : Nat → Nat} {μ μ2 : ev_M} {k : Nat} {e : va_E} (h : k < 143) (he : ev_en ca ad k (μ2 k) = e) (ho : ∀ q, q ≠ k → μ2 q = μ q) : (ev_wl ca ad μ).set k (ad k, e) = ev_wl ca ad μ2 := by
  apply List.ext_getElem?
  intro j
  by_cases hj : j < 143
  · by_cases hk : k = j
    · subst hk
      rw [List.getElem?_set_self (by simpa [ev_wl] using hj), ev_wl_get hj, he]
    · rw [List.getElem?_set_ne hk, ev_wl_get hj, ev_wl_get hj, ho j (fun q => hk q.symm)]
  · rw [List.getElem?_eq_none (by simp [ev_wl]; omega), List.getElem?_eq_none (by simp [ev_wl]; omega)]
theorem ev_wl_D {A : Nat → Prop} {ca : Nat → ClassId} {ad : Nat → Nat} {μ : ev_M} (h : va_D A (ev_wl ca ad μ)) (μ2 : ev_M) : va_D A (ev_wl ca ad μ2) := by
  refine ⟨fun i j p q hi hj hpq => ?_, fun k q hk => ?_⟩
  · obtain ⟨hi1, rfl⟩ := ev_wl_inv hi
    obtain ⟨hj1, rfl⟩ := ev_wl_inv hj
    exact h.1 i j _ _ (ev_wl_get hi1) (ev_wl_get hj1) hpq
  · obtain ⟨hk1, rfl⟩ := ev_wl_inv hk
    exact h.2 k (ad k, ev_en ca ad k (μ k)) (ev_wl_get hk1)
-- locals
def ev_nn : Value → Bool
  | .null => false
  | _ => true
def ev_lv (ad : Nat → Nat) : Nat → List Value → List (Nat × Value)
  | _, [] => []
  | i, v :: t => if ev_nn v then (i, ev_cv ad v) :: ev_lv ad (i + 1) t else ev_lv ad (i + 1) t
theorem ev_lv_mem {ad : Nat → Nat} {q : Nat × Value} : ∀ {L : List Value} {i : Nat}, q ∈ ev_lv ad i L ↔ ∃ (j : Nat) (v : Value), q.1 = i + j ∧ L[j]? = some v ∧ ev_nn v = true ∧ q.2 = ev_cv ad v := by
  intro L
  induction L with
  | nil => intro i; simp [ev_lv]
  | cons w t ih =>
    intro i
    unfold ev_lv
    constructor
    · intro h
      by_cases hw : ev_nn w = true
      · rw [if_pos hw] at h
        rcases List.mem_cons.mp h with rfl | h
        · exact ⟨0, w, rfl, rfl, hw, rfl⟩
        · obtain ⟨j, v, h1, h2, h3, h4⟩ := ih.mp h
          exact ⟨j + 1, v, by omega, by simpa using h2, h3, h4⟩
      · rw [if_neg hw] at h
        obtain ⟨j, v, h1, h2, h3, h4⟩ := ih.mp h
        exact ⟨j + 1, v, by omega, by simpa using h2, h3, h4⟩
    · rintro ⟨j, v, h1, h2, h3, h4⟩
      cases j with
      | zero =>
        simp at h2
        subst h2
        rw [if_pos h3]
        have : q = (i, ev_cv ad w) := Prod.ext (by simpa using h1) h4
        rw [this]
        exact List.mem_cons_self
      | succ j =>
        have hm : q ∈ ev_lv ad (i + 1) t := ih.mpr ⟨j, v, by omega, by simpa using h2, h3, h4⟩
        by_cases hw : ev_nn w = true
        · rw [if_pos hw]; exact List.mem_cons_of_mem _ hm
        · rw [if_neg hw]; exact hm
def ev_lc (ad : Nat → Nat) (nL : Nat) (ls : Array Slot) (L : List Value) : Prop := ls.size = nL ∧ lv_has ls nL (ev_lv ad 0 L) ∧ L.length = nL
theorem ev_lc_at {ad : Nat → Nat} {nL : Nat} {ls : Array Slot} {L : List Value} {i : Nat} {v : Value} (hl : ev_lc ad nL ls L) (h : L[i]? = some v) (hv : ev_nn v = true) : ls[i]? = some (.val (ev_cv ad v)) :=
  hl.2.1.2.2 (i, ev_cv ad v) (ev_lv_mem.mpr ⟨i, v, (Nat.zero_add i).symm, h, hv, rfl⟩)
theorem ev_lc_lt {ad : Nat → Nat} {nL : Nat} {ls : Array Slot} {L : List Value} {k : Nat} (hl : ev_lc ad nL ls L) (h : ev_ok1 L k) : k < nL := by rw [← hl.2.2]; exact h.1
theorem ev_lc_lt2 {ad : Nat → Nat} {nL : Nat} {ls : Array Slot} {L : List Value} {k : Nat} (hl : ev_lc ad nL ls L) (h : ev_ok2 L k) : k + 1 < nL := by rw [← hl.2.2]; exact h.1
theorem ev_lv_sub {ls : Array Slot} {nL : Nat} {l l2 : List (Nat × Value)} (h : lv_has ls nL l) (hs : ∀ q ∈ l2, q ∈ l) : lv_has ls nL l2 := ⟨h.1, h.2.1, fun q hq => h.2.2 q (hs q hq)⟩
theorem ev_lc_st1 {ad : Nat → Nat} {nL : Nat} {ls ls2 : Array Slot} {L : List Value} {k : Nat} {v w : Value} (hl : ev_lc ad nL ls L) (h : ev_ok1 L k) (hw : ev_cv ad v = w) (h2 : lv_has ls2 nL ((k, w) :: (ev_lv ad 0 L).filter (fun q => !(q.1 == k) && !(q.1 + 1 == k && q.2.category == 2)))) : ev_lc ad nL ls2 (L.set k v) := by
  refine ⟨h2.1, ev_lv_sub h2 fun q hq => ?_, by rw [List.length_set]; exact hl.2.2⟩
  obtain ⟨j, u, h3, h4, h5, h6⟩ := ev_lv_mem.mp hq
  rw [Nat.zero_add] at h3
  by_cases hjk : k = j
  · subst hjk
    rw [List.getElem?_set_self h.1] at h4
    cases h4
    have : q = (k, w) := Prod.ext h3 (by rw [h6, hw])
    rw [this]
    exact List.mem_cons_self
  · rw [List.getElem?_set_ne hjk] at h4
    refine List.mem_cons_of_mem _ (List.mem_filter.mpr ⟨ev_lv_mem.mpr ⟨j, u, by omega, h4, h5, h6⟩, ?_⟩)
    have e1 : (q.1 == k) = false := by
      simp only [beq_eq_false_iff_ne]; omega
    have e2 : (q.1 + 1 == k && q.2.category == 2) = false := by
      by_cases hj : j + 1 = k
      · have hc := h.2 j u hj h4
        rw [h6, ev_cvc, hc]
        simp
      · have : (q.1 + 1 == k) = false := by simp only [beq_eq_false_iff_ne]; omega
        rw [this]; rfl
    rw [e1, e2]; rfl
theorem ev_lc_st2 {ad : Nat → Nat} {nL : Nat} {ls ls2 : Array Slot} {L : List Value} {k : Nat} {v w : Value} (hl : ev_lc ad nL ls L) (h : ev_ok2 L k) (hw : ev_cv ad v = w) (h2 : lv_has ls2 nL ((k, w) :: (ev_lv ad 0 L).filter (fun q => !(q.1 == k) && (!(q.1 == k + 1) && !(q.1 + 1 == k && q.2.category == 2))))) : ev_lc ad nL ls2 ((L.set k v).set (k + 1) .null) := by
  refine ⟨h2.1, ev_lv_sub h2 fun q hq => ?_, by rw [List.length_set, List.length_set]; exact hl.2.2⟩
  obtain ⟨j, u, h3, h4, h5, h6⟩ := ev_lv_mem.mp hq
  rw [Nat.zero_add] at h3
  by_cases hj1 : k + 1 = j
  · subst hj1
    rw [List.getElem?_set_self (by rw [List.length_set]; exact h.1)] at h4
    cases h4
    cases h5
  rw [List.getElem?_set_ne hj1] at h4
  by_cases hjk : k = j
  · subst hjk
    rw [List.getElem?_set_self (by have := h.1; omega)] at h4
    cases h4
    have : q = (k, w) := Prod.ext h3 (by rw [h6, hw])
    rw [this]
    exact List.mem_cons_self
  · rw [List.getElem?_set_ne hjk] at h4
    refine List.mem_cons_of_mem _ (List.mem_filter.mpr ⟨ev_lv_mem.mpr ⟨j, u, by omega, h4, h5, h6⟩, ?_⟩)
    have e1 : (q.1 == k) = false := by
      simp only [beq_eq_false_iff_ne]; omega
    have e3 : (q.1 == k + 1) = false := by
      simp only [beq_eq_false_iff_ne]; omega
    have e2 : (q.1 + 1 == k && q.2.category == 2) = false := by
      by_cases hj : j + 1 = k
      · have hc := h.2 j u hj h4
        rw [h6, ev_cvc, hc]
        simp
      · have : (q.1 + 1 == k) = false := by simp only [beq_eq_false_iff_ne]; omega
        rw [this]; rfl
    rw [e1, e2, e3]; rfl
theorem ev_wk_at : ∀ {L L2 : List Value}, ev_wk L L2 → L2.length = L.length ∧ ∀ (j : Nat) (v : Value), L2[j]? = some v → ev_nn v = true → L[j]? = some v
  | [], [], _ => ⟨rfl, fun _ _ h => by simp at h⟩
  | [], _ :: _, h => by simp [ev_wk] at h
  | _ :: _, [], h => by simp [ev_wk] at h
  | v :: s, w :: t, h => by
    obtain ⟨h1, h2⟩ := h
    obtain ⟨i1, i2⟩ := ev_wk_at h2
    refine ⟨by simp [i1], fun j u hj hn => ?_⟩
    cases j with
    | zero =>
      simp at hj
      subst hj
      rcases h1 with rfl | rfl
      · cases hn
      · rfl
    | succ j => simpa using i2 j u (by simpa using hj) hn
theorem ev_lc_wk {ad : Nat → Nat} {nL : Nat} {ls : Array Slot} {L L2 : List Value} (hl : ev_lc ad nL ls L) (h : ev_wk L L2) : ev_lc ad nL ls L2 := by
  obtain ⟨h1, h2⟩ := ev_wk_at h
  refine ⟨hl.1, ev_lv_sub hl.2.1 fun q hq => ?_, h1.trans hl.2.2⟩
  obtain ⟨j, v, a1, a2, a3, a4⟩ := ev_lv_mem.mp hq
  exact ev_lv_mem.mpr ⟨j, v, a1, h2 j v a2 a3, a3, a4⟩
-- fields
theorem ev_fl_int {ad : Nat → Nat} {f : Nat → Int32} : ∀ {fs : List (Option Nat)} {i k : Nat}, fs[k]? = some none → (ev_fl ad f i fs)[k]? = some (.int (f (i + k)))
  | [], _, _, h => by simp at h
  | none :: t, i, 0, _ => rfl
  | some r :: t, i, 0, h => by simp at h
  | none :: t, i, k + 1, h => by
    have := ev_fl_int (ad := ad) (f := f) (fs := t) (i := i + 1) (k := k) (by simpa using h)
    rw [show i + (k + 1) = i + 1 + k by omega]
    simpa [ev_fl] using this
  | some r :: t, i, k + 1, h => by
    have := ev_fl_int (ad := ad) (f := f) (fs := t) (i := i + 1) (k := k) (by simpa using h)
    rw [show i + (k + 1) = i + 1 + k by omega]
    simpa [ev_fl] using this
theorem ev_fl_ref {ad : Nat → Nat} {f : Nat → Int32} : ∀ {fs : List (Option Nat)} {i k r : Nat}, fs[k]? = some (some r) → (ev_fl ad f i fs)[k]? = some (.ref (ad r))
  | [], _, _, _, h => by simp at h
  | none :: t, i, 0, _, h => by simp at h
  | some r :: t, i, 0, r2, h => by
    simp at h
    subst h
    rfl
  | none :: t, i, k + 1, r, h => by simpa [ev_fl] using ev_fl_ref (ad := ad) (f := f) (fs := t) (i := i + 1) (k := k) (r := r) (by simpa using h)
  | some r :: t, i, k + 1, r2, h => by simpa [ev_fl] using ev_fl_ref (ad := ad) (f := f) (fs := t) (i := i + 1) (k := k) (r := r2) (by simpa using h)
theorem ev_fl_upd {ad : Nat → Nat} {f : Nat → Int32} {x : Int32} : ∀ {fs : List (Option Nat)} {i j : Nat}, j < i → ev_fl ad (upd f j x) i fs = ev_fl ad f i fs
  | [], _, _, _ => rfl
  | none :: t, i, j, h => by
    simp only [ev_fl]
    rw [ev_fl_upd (by omega)]
    simp [upd]; omega
  | some r :: t, i, j, h => by
    simp only [ev_fl]
    rw [ev_fl_upd (by omega)]
theorem ev_fl_set {ad : Nat → Nat} {f : Nat → Int32} {x : Int32} : ∀ {fs : List (Option Nat)} {i k : Nat}, fs[k]? = some none → (ev_fl ad f i fs).set k (.int x) = ev_fl ad (upd f (i + k) x) i fs
  | [], _, _, h => by simp at h
  | none :: t, i, 0, _ => by
    simp only [ev_fl, List.set_cons_zero]
    rw [Nat.add_zero, ev_fl_upd (by omega)]
    simp [upd]
  | some r :: t, i, 0, h => by simp at h
  | none :: t, i, k + 1, h => by
    have := ev_fl_set (ad := ad) (f := f) (x := x) (fs := t) (i := i + 1) (k := k) (by simpa using h)
    simp only [ev_fl, List.set_cons_succ]
    rw [this, show i + (k + 1) = i + 1 + k by omega]
    simp [upd]; omega
  | some r :: t, i, k + 1, h => by
    have := ev_fl_set (ad := ad) (f := f) (x := x) (fs := t) (i := i + 1) (k := k) (by simpa using h)
    simp only [ev_fl, List.set_cons_succ]
    rw [this, show i + (k + 1) = i + 1 + k by omega]
theorem ev_fl_len {ad : Nat → Nat} {f : Nat → Int32} : ∀ {fs : List (Option Nat)} {i : Nat}, (ev_fl ad f i fs).length = fs.length
  | [], _ => rfl
  | none :: t, i => by simp [ev_fl, ev_fl_len (fs := t)]
  | some r :: t, i => by simp [ev_fl, ev_fl_len (fs := t)]
theorem ev_fld_s {k0 ci k : Nat} {o : Option Nat} (h : ev_fld k0 ci k = some o) : k0 < 143 ∧ ∃ fs, ev_lay k0 = (0, ci, fs) ∧ fs[k]? = some o := by
  unfold ev_fld at h
  generalize hq : ev_lay k0 = q at h
  obtain ⟨t, c, fs⟩ := q
  dsimp only at h
  by_cases hc : t = 0 ∧ c = ci
  · rw [if_pos hc] at h
    obtain ⟨rfl, rfl⟩ := hc
    exact ⟨ev_lay_lt hq (by decide), fs, rfl, h⟩
  · rw [if_neg hc] at h; cases h
theorem ev_en0 {ca : Nat → ClassId} {ad : Nat → Nat} {k ci : Nat} {fs : List (Option Nat)} {f : Nat → Int32} (h : ev_lay k = (0, ci, fs)) : ev_en ca ad k f = .inr (ci, ev_fl ad f 0 fs) := by unfold ev_en; rw [h]; rfl
theorem ev_en1 {ca : Nat → ClassId} {ad : Nat → Nat} {k n : Nat} {rs : List (Option Nat)} {f : Nat → Int32} (h : ev_lay k = (1, n, rs)) : ev_en ca ad k f = .inl (ca 0, n, .inl f) := by unfold ev_en; rw [h]; rfl
theorem ev_en2 {ca : Nat → ClassId} {ad : Nat → Nat} {k n : Nat} {rs : List (Option Nat)} {f : Nat → Int32} (h : ev_lay k = (2, n, rs)) : ev_en ca ad k f = .inl (ca 1, n, .inl f) := by unfold ev_en; rw [h]; rfl
theorem ev_en3 {ca : Nat → ClassId} {ad : Nat → Nat} {k n : Nat} {rs : List (Option Nat)} {f : Nat → Int32} (h : ev_lay k = (3, n, rs)) : ev_en ca ad k f = .inl (ca 2, n, .inr (.inr (.inr (.inr (ev_re ad rs))))) := by unfold ev_en; rw [h]; rfl
theorem ev_en4 {ca : Nat → ClassId} {ad : Nat → Nat} {k n : Nat} {rs : List (Option Nat)} {f : Nat → Int32} (h : ev_lay k = (4, n, rs)) : ev_en ca ad k f = .inl (ca 3, n, .inr (.inl (fun i => (f i).toInt64))) := by unfold ev_en; rw [h]; rfl
theorem ev_en5 {ca : Nat → ClassId} {ad : Nat → Nat} {k n : Nat} {rs : List (Option Nat)} {f : Nat → Int32} (h : ev_lay k = (5, n, rs)) : ev_en ca ad k f = .inl (ca 4, n, .inr (.inr (.inr (.inr (ev_re ad rs))))) := by unfold ev_en; rw [h]; rfl
theorem ev_fr_w {oc i ci k : Nat} (h : ev_fr oc i = some (ci, k)) : (Cond.fieldLink (ev_cn oc) i (ev_T ci k).1 (ev_T ci k).2.1 (ev_T ci k).2.2.1) ∈ ev_TB ∧ ci < 7 ∧ k < ev_tN ci := by
  unfold ev_fr at h
  cases hq : ev_frT.lookup (oc, i) with
  | none => rw [hq] at h; cases h
  | some q =>
    rw [hq] at h
    obtain ⟨a, b, c⟩ := q
    cases h
    obtain ⟨h1, h2, h3⟩ := ev_fr_t _ (ev_lk hq)
    exact ⟨ev_TBi h1 rfl, h2, h3⟩
theorem ev_cl7 {ci : Nat} (h : ci < 7) : vwCl[ci]? = some (ev_cn ci, ev_T ci, ev_tN ci) := by
  match ci, h with
  | 0, _ => rfl
  | 1, _ => rfl
  | 2, _ => rfl
  | 3, _ => rfl
  | 4, _ => rfl
  | 5, _ => rfl
  | 6, _ => rfl
theorem ev_laysB {ci : Nat} (h : ci < 7) : ∀ w ∈ u_ws (ev_cn ci) (ev_T ci) (ev_tN ci), w ∈ ev_TB := fun w hw => by
  refine ev_TBm (ev_lays_t ci h w hw) ?_
  obtain ⟨k, -, rfl⟩ := List.mem_map.mp hw
  unfold u_lay
  by_cases hq : (ev_T ci k).2.2.2 = true
  · rw [if_pos hq]; rfl
  · rw [if_neg hq]; rfl
def ev_ty0 (ci : Nat) : Nat → FieldType := match ci with
  | 0 => tyX0 | 1 => tyX1 | 2 => tyX2 | 3 => tyX3 | 4 => tyX4 | 5 => tyX5 | _ => tyX6
theorem ev_ty_ok {ci : Nat} (h : ci < 7) : ∀ k, k < ev_tN ci → parseFieldDescriptor (ev_T ci k).2.2.1 = some (ev_ty0 ci k) := by
  match ci, h with
  | 0, _ => exact tyX0_ok
  | 1, _ => exact tyX1_ok
  | 2, _ => exact tyX2_ok
  | 3, _ => exact tyX3_ok
  | 4, _ => exact tyX4_ok
  | 5, _ => exact tyX5_ok
  | 6, _ => exact tyX6_ok
theorem ev_nm_ok {ci : Nat} (h : ci < 7) : ∀ a, a < ev_tN ci → ∀ b, b < ev_tN ci → a ≠ b → (ev_T ci a).2.1 ≠ (ev_T ci b).2.1 := by
  match ci, h with
  | 0, _ => exact nmX0
  | 1, _ => exact nmX1
  | 2, _ => exact nmX2
  | 3, _ => exact nmX3
  | 4, _ => exact nmX4
  | 5, _ => exact nmX5
  | 6, _ => exact nmX6
theorem ev_int0 : ∀ k0, k0 < 143 → ∀ k, k < 17 → (decide ((ev_lay k0).1 = 0) && decide ((ev_lay k0).2.2[k]? = some none)) = true → ((ev_T (ev_lay k0).2.1 k).2.2.1 = "I" ∧ (ev_T (ev_lay k0).2.1 k).2.2.2 = false) := by decide +kernel
theorem ev_intI : parseFieldDescriptor "I" = some .int := by decide +kernel
theorem ev_len0 : ∀ k0, k0 < 143 → (ev_lay k0).2.2.length ≤ 17 := by decide +kernel
theorem ev_int {k0 ci k : Nat} {fs : List (Option Nat)} (h : ev_lay k0 = (0, ci, fs)) (hf : fs[k]? = some none) : parseFieldDescriptor (ev_T ci k).2.2.1 = some .int ∧ (ev_T ci k).2.2.2 = false := by
  have hk0 := ev_lay_lt h (by decide)
  have hlen := ev_len0 k0 hk0
  rw [h] at hlen
  have hk : k < 17 := Nat.lt_of_lt_of_le (List.getElem?_eq_some_iff.mp hf).1 hlen
  have := ev_int0 k0 hk0 k hk (by rw [h]; simp [hf])
  rw [h] at this
  exact ⟨by rw [this.1]; exact ev_intI, this.2⟩
end
section
/-! the kit's rows over the world -/
def ev_XW : List Cond := [.castable "java/lang/IndexOutOfBoundsException" "java/lang/IndexOutOfBoundsException", .castable "java/lang/IllegalArgumentException" "java/lang/IllegalArgumentException", .castable "java/lang/IllegalStateException" "java/lang/IllegalStateException", .declares (Bundle.initS "java/lang/RuntimeException"), .declares (Bundle.initS "java/lang/Exception"), .declares (Bundle.initS Bundle.tN)]
def ev_ex (E : Nat) : String := if E = 0 then "java/lang/IndexOutOfBoundsException" else if E = 1 then "java/lang/IllegalArgumentException" else "java/lang/IllegalStateException"
def ev_ST (A : Nat → Prop) (ad : Nat → Nat) (s : State) (H : Heap) : Prop :=
  (va_Z RX5 "SETTING_LEAST" "[I" (.ref (ad 201)) A s H ∧ va_T .int (ad 201) 4 (fun j => .int (([1, 0, 0, 0] : List Int32).getD j 0)) A s H) ∧
  (va_Z RX5 "SETTING_MOST" "[I" (.ref (ad 202)) A s H ∧ va_T .int (ad 202) 4 (fun j => .int (([20, 9, 20, 9] : List Int32).getD j 0)) A s H) ∧
  (vx_Zq Bundle.tN "UNASSIGNED_STACK" Bundle.steD A s H ∧ vx_Zq Bundle.tN "SUPPRESSED_SENTINEL" Bundle.listD A s H) ∧
  (∀ q ∈ ev_trT, ∃ (tx : String) (sa : Nat), vk_R RX5 q.1.2.1 tx sa s) ∧ (∀ w ∈ ev_XW, va_Nw w s) ∧ (∀ E F : Nat, E < 3 → F < 3 → E ≠ F → va_Nc (ev_ex E) (ev_ex F) s)
theorem ev_ST.kept {A : Nat → Prop} {ad : Nat → Nat} {s U : State} {H H1 : Heap} (h : ev_ST A ad s H) (hW : s.WarmedH U.vm) (hq : ∀ a : Nat, a < H.size → ¬ A a → H1[a]? = H[a]?) : ev_ST A ad U H1 := by
  obtain ⟨⟨a1, a2⟩, ⟨b1, b2⟩, ⟨c1, c2⟩, d, e, f⟩ := h
  refine ⟨⟨(a1.moved hW.alike).kept hq, (a2.moved hW.alike).kept hq⟩, ⟨(b1.moved hW.alike).kept hq, (b2.moved hW.alike).kept hq⟩, ⟨(c1.moved hW.alike).kept hq, (c2.moved hW.alike).kept hq⟩, fun q hq => ?_, fun w hw => ?_, fun E F h1 h2 h3 => (f E F h1 h2 h3).moved hW.alike⟩
  · obtain ⟨tx, sa, h9⟩ := d q hq
    exact ⟨tx, sa, h9.warm hW⟩
  · have h9 := e w hw
    simp only [ev_XW, List.mem_cons, List.not_mem_nil, or_false] at hw
    rcases hw with rfl | rfl | rfl | rfl | rfl | rfl
    · exact va_Nw.warmC hW h9
    · exact va_Nw.warmC hW h9
    · exact va_Nw.warmC hW h9
    · exact va_Nw.warmD hW h9
    · exact va_Nw.warmD hW h9
    · exact va_Nw.warmD hW h9
theorem ev_clamp {i n : Nat} (h : i < n) (hn : n ≤ 400) : (nI i).toNatClampNeg = i := nI_clamp (by omega)
section EvM
variable {p : Program} {l : Launch} {e : Env} {R : Room} {s : State} {m : MethodId} {args : Array Value} {below : List Frame} {meth : Method} {c : Code} {H : Heap} {locs : List Loc} {cells slots : Nat} {Q : State → Prop}
variable {cc : ByteArray} {pc : Nat} {ls : Array Slot} {rest : List Value} {D : va_G} {ca : Nat → ClassId} {ad : Nat → Nat} {μ : ev_M} {A : Nat → Prop} {oc : Nat}
theorem ev_mgetI (hx : p.tables.exec = Jvm.exec) (hb : c.code = cc) (hts : ∀ w ∈ ev_TB, w.before args s = true) (hown : s.vm.findClass (ev_cn oc) = some m.cls) (hK : va_K D vwCl (ev_ty ca) s) (hP : va_P D vwCl (ev_wl ca ad μ) H) {i k0 ci k : Nat} (h1 : ev_fr oc i = some (ci, k)) (h2 : ev_fld k0 ci k = some none) (hd : decode cc pc = .ok (.getfield i, 3))
    (kk : W p l e R s m args below meth c H locs cells slots Q (F0 m (pc + 3) ls (.int (μ k0 k) :: rest))) : W p l e R s m args below meth c H locs cells slots Q (F0 m pc ls (.ref (ad k0) :: rest)) := by
  obtain ⟨hw, hci, hk⟩ := ev_fr_w h1
  obtain ⟨hl, fs, hlay, hf⟩ := ev_fld_s h2
  have hf2 := ev_fl_int (ad := ad) (f := μ k0) (i := 0) hf
  rw [Nat.zero_add] at hf2
  exact va_get (ref := (ev_T ci k).1) (own := ev_cn oc) (C := ev_cn ci) (T := ev_T ci) (N := ev_tN ci) (ci := ci) hx hb hts (ev_laysB hci) hown hK hP k0 (by rw [ev_wl_get hl, ev_en0 hlay]) (ev_cl7 hci) k hk (hts _ hw) (fun _ h => h) hf2 hd kk
theorem ev_mgetR (hx : p.tables.exec = Jvm.exec) (hb : c.code = cc) (hts : ∀ w ∈ ev_TB, w.before args s = true) (hown : s.vm.findClass (ev_cn oc) = some m.cls) (hK : va_K D vwCl (ev_ty ca) s) (hP : va_P D vwCl (ev_wl ca ad μ) H) {i k0 ci k r : Nat} (h1 : ev_fr oc i = some (ci, k)) (h2 : ev_fld k0 ci k = some (some r)) (hd : decode cc pc = .ok (.getfield i, 3))
    (kk : W p l e R s m args below meth c H locs cells slots Q (F0 m (pc + 3) ls (.ref (ad r) :: rest))) : W p l e R s m args below meth c H locs cells slots Q (F0 m pc ls (.ref (ad k0) :: rest)) := by
  obtain ⟨hw, hci, hk⟩ := ev_fr_w h1
  obtain ⟨hl, fs, hlay, hf⟩ := ev_fld_s h2
  exact va_get (ref := (ev_T ci k).1) (own := ev_cn oc) (C := ev_cn ci) (T := ev_T ci) (N := ev_tN ci) (ci := ci) hx hb hts (ev_laysB hci) hown hK hP k0 (by rw [ev_wl_get hl, ev_en0 hlay]) (ev_cl7 hci) k hk (hts _ hw) (fun _ h => h) (ev_fl_ref (ad := ad) (f := μ k0) (i := 0) hf) hd kk
theorem ev_ms_ne {k i q : Nat} {x : Int32} (h : q ≠ k) : ev_ms μ k i x q = μ q := by unfold ev_ms; rw [if_neg h]
theorem ev_ms_eq {k i : Nat} {x : Int32} : ev_ms μ k i x k = upd (μ k) i x := by unfold ev_ms; rw [if_pos rfl]
theorem ev_mputI (hx : p.tables.exec = Jvm.exec) (hb : c.code = cc) (hts : ∀ w ∈ ev_TB, w.before args s = true) (hown : s.vm.findClass (ev_cn oc) = some m.cls) (hK : va_K D vwCl (ev_ty ca) s) (hP : va_P D vwCl (ev_wl ca ad μ) H) (hD : va_D A (ev_wl ca ad μ)) (hS : va_S A s.heap H locs) {i k0 ci k : Nat} {x : Int32} (h1 : ev_fr oc i = some (ci, k)) (h2 : ev_fld k0 ci k = some none) (hd : decode cc pc = .ok (.putfield i, 3))
    (kk : ∀ (H1 : Heap) (locs1 : List Loc), va_P D vwCl (ev_wl ca ad (ev_ms μ k0 k x)) H1 → va_S A s.heap H1 locs1 → W p l e R s m args below meth c H1 locs1 cells slots Q (F0 m (pc + 3) ls rest)) : W p l e R s m args below meth c H locs cells slots Q (F0 m pc ls (.int x :: .ref (ad k0) :: rest)) := by
  obtain ⟨hw, hci, hk⟩ := ev_fr_w h1
  obtain ⟨hl, fs, hlay, hf⟩ := ev_fld_s h2
  obtain ⟨hint, hfin⟩ := ev_int hlay hf
  have hset : (ev_fl ad (μ k0) 0 fs).set k (.int x) = ev_fl ad (upd (μ k0) k x) 0 fs := by
    have := ev_fl_set (ad := ad) (f := μ k0) (x := x) (i := 0) hf
    rwa [Nat.zero_add] at this
  refine va_put (ref := (ev_T ci k).1) (own := ev_cn oc) (C := ev_cn ci) (T := ev_T ci) (N := ev_tN ci) (ci := ci) hx hb hts (ev_laysB hci) (ev_ty0 ci) (ev_ty_ok hci) (ev_nm_ok hci) hown hK hP hD hS k0 (by rw [ev_wl_get hl, ev_en0 hlay]) (ev_cl7 hci) k hk (hts _ hw) (fun _ h => h) hfin hint rfl rfl (by rw [ev_fl_len]; exact (List.getElem?_eq_some_iff.mp hf).1) hd (fun H1 locs1 hP1 _ hS1 => kk H1 locs1 ?_ hS1)
  rw [hset, ev_wl_set (μ2 := ev_ms μ k0 k x) hl (by rw [ev_en0 hlay, ev_ms_eq]) (fun q hq => ev_ms_ne hq)] at hP1
  exact hP1
theorem ev_mgets (hx : p.tables.exec = Jvm.exec) (hb : c.code = cc) (hts : ∀ w ∈ ev_TB, w.before args s = true) (hown : s.vm.findClass (ev_cn oc) = some m.cls) (hST : ev_ST A ad s s.heap) (hS : va_S A s.heap H locs) {i r : Nat} (h1 : ev_sr oc i = some r) (hd : decode cc pc = .ok (.getstatic i, 3))
    (kk : W p l e R s m args below meth c H locs cells slots Q (F0 m (pc + 3) ls (.ref (ad r) :: rest))) : W p l e R s m args below meth c H locs cells slots Q (F0 m pc ls rest) := by
  unfold ev_sr at h1
  cases hq : ev_srT.lookup (oc, i) with
  | none => rw [hq] at h1; cases h1
  | some q =>
    rw [hq] at h1
    obtain ⟨a, b⟩ := q
    cases h1
    obtain ⟨g1, g2, g3⟩ := ev_sr_t _ (ev_lk hq)
    dsimp only at g1 g2 g3
    subst g2
    rcases g3 with rfl | rfl
    · exact va_gets (own := RX5) (ref := RX5) hx hb hST.1.1 hS hown (hts _ (ev_TBi g1 rfl)) (fun _ h => h) hd kk
    · exact va_gets (own := RX5) (ref := RX5) hx hb hST.2.1.1 hS hown (hts _ (ev_TBi g1 rfl)) (fun _ h => h) hd kk
theorem ev_miald (hx : p.tables.exec = Jvm.exec) (hb : c.code = cc) (hK : va_K D vwCl (ev_ty ca) s) (hP : va_P D vwCl (ev_wl ca ad μ) H) {k0 n i : Nat} {rs : List (Option Nat)} (h1 : ev_lay k0 = (1, n, rs)) (h2 : i < n) (hd : decode cc pc = .ok (.iaload, 1))
    (kk : W p l e R s m args below meth c H locs cells slots Q (F0 m (pc + 1) ls (.int (μ k0 i) :: rest))) : W p l e R s m args below meth c H locs cells slots Q (F0 m pc ls (.int (nI i) :: .ref (ad k0) :: rest)) := by
  have hn := ev_lay_n h1 (by decide)
  refine va_iald hx hb hK hP k0 0 (by rw [ev_wl_get (ev_lay_lt h1 (by decide)), ev_en1 h1]) rfl (vp_in_nI h2 (by omega)) hd ?_
  rw [ev_clamp h2 hn]
  exact kk
theorem ev_mzald (hx : p.tables.exec = Jvm.exec) (hb : c.code = cc) (hK : va_K D vwCl (ev_ty ca) s) (hP : va_P D vwCl (ev_wl ca ad μ) H) {k0 n i : Nat} {rs : List (Option Nat)} (h1 : ev_lay k0 = (2, n, rs)) (h2 : i < n) (hd : decode cc pc = .ok (.baload, 1))
    (kk : W p l e R s m args below meth c H locs cells slots Q (F0 m (pc + 1) ls (.int (μ k0 i) :: rest))) : W p l e R s m args below meth c H locs cells slots Q (F0 m pc ls (.int (nI i) :: .ref (ad k0) :: rest)) := by
  have hn := ev_lay_n h1 (by decide)
  refine va_zald hx hb hK hP k0 1 (by rw [ev_wl_get (ev_lay_lt h1 (by decide)), ev_en2 h1]) rfl (vp_in_nI h2 (by omega)) hd ?_
  rw [ev_clamp h2 hn]
  exact kk
theorem ev_mlald (hx : p.tables.exec = Jvm.exec) (hb : c.code = cc) (hK : va_K D vwCl (ev_ty ca) s) (hP : va_P D vwCl (ev_wl ca ad μ) H) {k0 n i : Nat} {rs : List (Option Nat)} (h1 : ev_lay k0 = (4, n, rs)) (h2 : i < n) (hd : decode cc pc = .ok (.laload, 1))
    (kk : W p l e R s m args below meth c H locs cells slots Q (F0 m (pc + 1) ls (.long (μ k0 i).toInt64 :: rest))) : W p l e R s m args below meth c H locs cells slots Q (F0 m pc ls (.int (nI i) :: .ref (ad k0) :: rest)) := by
  have hn := ev_lay_n h1 (by decide)
  refine va_lald hx hb hK hP k0 3 (by rw [ev_wl_get (ev_lay_lt h1 (by decide)), ev_en4 h1]) rfl (vp_in_nI h2 (by omega)) hd ?_
  rw [ev_clamp h2 hn]
  exact kk
theorem ev_maald (hx : p.tables.exec = Jvm.exec) (hb : c.code = cc) (hK : va_K D vwCl (ev_ty ca) s) (hP : va_P D vwCl (ev_wl ca ad μ) H) {k0 n i r : Nat} {rs : List (Option Nat)} (h1 : ev_lay k0 = (3, n, rs)) (h2 : i < n) (h3 : rs.getD i none = some r) (hd : decode cc pc = .ok (.aaload, 1))
    (kk : W p l e R s m args below meth c H locs cells slots Q (F0 m (pc + 1) ls (.ref (ad r) :: rest))) : W p l e R s m args below meth c H locs cells slots Q (F0 m pc ls (.int (nI i) :: .ref (ad k0) :: rest)) := by
  have hn := ev_lay_n h1 (by decide)
  refine va_aldq hx hb hK hP k0 2 (by rw [ev_wl_get (ev_lay_lt h1 (by decide)), ev_en3 h1]) rfl (vp_in_nI h2 (by omega)) hd ?_
  rw [ev_clamp h2 hn]
  unfold ev_re
  rw [h3]
  exact kk
theorem ev_maaldq (hx : p.tables.exec = Jvm.exec) (hb : c.code = cc) (hK : va_K D vwCl (ev_ty ca) s) (hP : va_P D vwCl (ev_wl ca ad μ) H) {k0 n i r : Nat} {rs : List (Option Nat)} (h1 : ev_lay k0 = (5, n, rs)) (h2 : i < n) (h3 : rs.getD i none = some r) (hd : decode cc pc = .ok (.aaload, 1))
    (kk : W p l e R s m args below meth c H locs cells slots Q (F0 m (pc + 1) ls (.ref (ad r) :: rest))) : W p l e R s m args below meth c H locs cells slots Q (F0 m pc ls (.int (nI i) :: .ref (ad k0) :: rest)) := by
  have hn := ev_lay_n h1 (by decide)
  have ha : (ev_wl ca ad μ)[k0]? = some (ad k0, .inl (ca 4, n, .inr (.inr (.inr (.inr (ev_re ad rs)))))) := by rw [ev_wl_get (ev_lay_lt h1 (by decide)), ev_en5 h1]
  have hlt : (nI i).toNatClampNeg < n := by rw [ev_clamp h2 hn]; exact h2
  have h31 : n < 2 ^ 31 := by omega
  have hvi : vp_in (nI i) n := vp_in_nI h2 h31
  refine W.aald (v := va_rf (ev_re ad rs (nI i).toNatClampNeg)) (ty := .array .int) hx hb (hP k0 _ ha) ((hK.2 4 _ rfl).1 n (fun j => va_rf (ev_re ad rs j))) rfl (fun q => by cases q) (by show ¬ (nI i < 0 ∨ (arrV _ _ _).slots.size ≤ _); rw [arrV_size]; exact hvi) (arrV_read _ _ hlt) rfl rfl hd ?_
  rw [ev_clamp h2 hn]
  unfold ev_re
  rw [h3]
  exact kk
theorem ev_miast (hx : p.tables.exec = Jvm.exec) (hb : c.code = cc) (hK : va_K D vwCl (ev_ty ca) s) (hP : va_P D vwCl (ev_wl ca ad μ) H) (hD : va_D A (ev_wl ca ad μ)) (hS : va_S A s.heap H locs) {k0 n i : Nat} {rs : List (Option Nat)} {x : Int32} (h1 : ev_lay k0 = (1, n, rs)) (h2 : i < n) (hd : decode cc pc = .ok (.iastore, 1))
    (kk : ∀ (H1 : Heap) (locs1 : List Loc), va_P D vwCl (ev_wl ca ad (ev_ms μ k0 i x)) H1 → va_S A s.heap H1 locs1 → W p l e R s m args below meth c H1 locs1 cells slots Q (F0 m (pc + 1) ls rest)) : W p l e R s m args below meth c H locs cells slots Q (F0 m pc ls (.int x :: .int (nI i) :: .ref (ad k0) :: rest)) := by
  have hn := ev_lay_n h1 (by decide)
  refine va_iast hx hb hK hP hD hS k0 0 (by rw [ev_wl_get (ev_lay_lt h1 (by decide)), ev_en1 h1]) rfl (vp_in_nI h2 (by omega)) hd (fun H1 locs1 hP1 _ hS1 => kk H1 locs1 ?_ hS1)
  rw [ev_clamp h2 hn, ev_wl_set (μ2 := ev_ms μ k0 i x) (ev_lay_lt h1 (by decide)) (by rw [ev_en1 h1, ev_ms_eq]) (fun q hq => ev_ms_ne hq)] at hP1
  exact hP1
theorem ev_mzast (hx : p.tables.exec = Jvm.exec) (hb : c.code = cc) (hK : va_K D vwCl (ev_ty ca) s) (hP : va_P D vwCl (ev_wl ca ad μ) H) (hD : va_D A (ev_wl ca ad μ)) (hS : va_S A s.heap H locs) {k0 n i : Nat} {rs : List (Option Nat)} {x : Int32} (h1 : ev_lay k0 = (2, n, rs)) (h2 : i < n) (h3 : vp_nar .boolean x = x) (hd : decode cc pc = .ok (.bastore, 1))
    (kk : ∀ (H1 : Heap) (locs1 : List Loc), va_P D vwCl (ev_wl ca ad (ev_ms μ k0 i x)) H1 → va_S A s.heap H1 locs1 → W p l e R s m args below meth c H1 locs1 cells slots Q (F0 m (pc + 1) ls rest)) : W p l e R s m args below meth c H locs cells slots Q (F0 m pc ls (.int x :: .int (nI i) :: .ref (ad k0) :: rest)) := by
  have hn := ev_lay_n h1 (by decide)
  refine va_zast hx hb hK hP hD hS k0 1 (by rw [ev_wl_get (ev_lay_lt h1 (by decide)), ev_en2 h1]) rfl (vp_in_nI h2 (by omega)) hd (fun H1 locs1 hP1 _ hS1 => kk H1 locs1 ?_ hS1)
  rw [ev_clamp h2 hn, h3, ev_wl_set (μ2 := ev_ms μ k0 i x) (ev_lay_lt h1 (by decide)) (by rw [ev_en2 h1, ev_ms_eq]) (fun q hq => ev_ms_ne hq)] at hP1
  exact hP1
theorem ev_mlast (hx : p.tables.exec = Jvm.exec) (hb : c.code = cc) (hK : va_K D vwCl (ev_ty ca) s) (hP : va_P D vwCl (ev_wl ca ad μ) H) (hD : va_D A (ev_wl ca ad μ)) (hS : va_S A s.heap H locs) {k0 n i : Nat} {rs : List (Option Nat)} {x : Int32} (h1 : ev_lay k0 = (4, n, rs)) (h2 : i < n) (hd : decode cc pc = .ok (.lastore, 1))
    (kk : ∀ (H1 : Heap) (locs1 : List Loc), va_P D vwCl (ev_wl ca ad (ev_ms μ k0 i x)) H1 → va_S A s.heap H1 locs1 → W p l e R s m args below meth c H1 locs1 cells slots Q (F0 m (pc + 1) ls rest)) : W p l e R s m args below meth c H locs cells slots Q (F0 m pc ls (.long x.toInt64 :: .int (nI i) :: .ref (ad k0) :: rest)) := by
  have hn := ev_lay_n h1 (by decide)
  refine va_last hx hb hK hP hD hS k0 3 (by rw [ev_wl_get (ev_lay_lt h1 (by decide)), ev_en4 h1]) rfl (vp_in_nI h2 (by omega)) hd (fun H1 locs1 hP1 _ hS1 => kk H1 locs1 ?_ hS1)
  have hu : vp_updL (fun j => (μ k0 j).toInt64) i x.toInt64 = (fun j => (ev_ms μ k0 i x k0 j).toInt64) := by
    funext j
    rw [ev_ms_eq]
    unfold vp_updL upd
    by_cases hj : j = i
    · rw [if_pos hj, if_pos hj]
    · rw [if_neg hj, if_neg hj]
  rw [ev_clamp h2 hn, hu, ev_wl_set (μ2 := ev_ms μ k0 i x) (ev_lay_lt h1 (by decide)) (by rw [ev_en4 h1]) (fun q hq => ev_ms_ne hq)] at hP1
  exact hP1
theorem ev_msald (hx : p.tables.exec = Jvm.exec) (hb : c.code = cc) {ex : ev_X} (hXs : 0 < ex.1 → va_X (ad 200) (ex.1 - 1) ex.2.1 s s.heap ∧ ad 200 < s.heap.size ∧ ¬ A (ad 200) ∧ ex.1 < 2 ^ 30) (hS : va_S A s.heap H locs) {i : Nat} (h1 : i + 1 < ex.1) (hd : decode cc pc = .ok (.iaload, 1))
    (kk : W p l e R s m args below meth c H locs cells slots Q (F0 m (pc + 1) ls (.int (ex.2.1 i) :: rest))) : W p l e R s m args below meth c H locs cells slots Q (F0 m pc ls (.int (nI i) :: .ref (ad 200) :: rest)) := by
  obtain ⟨h2, h3, h4, h5⟩ := hXs (by omega)
  refine va_sld hx hb h2 h3 h4 hS (vp_in_nI (by omega) (by omega)) hd ?_
  rw [nI_clamp (by omega)]
  exact kk
theorem ev_mslen (hx : p.tables.exec = Jvm.exec) (hb : c.code = cc) {ex : ev_X} (hXs : 0 < ex.1 → va_X (ad 200) (ex.1 - 1) ex.2.1 s s.heap ∧ ad 200 < s.heap.size ∧ ¬ A (ad 200) ∧ ex.1 < 2 ^ 30) (hS : va_S A s.heap H locs) (h1 : 0 < ex.1) (hd : decode cc pc = .ok (.arraylength, 1))
    (kk : W p l e R s m args below meth c H locs cells slots Q (F0 m (pc + 1) ls (.int (nI (ex.1 - 1)) :: rest))) : W p l e R s m args below meth c H locs cells slots Q (F0 m pc ls (.ref (ad 200) :: rest)) := by
  obtain ⟨h2, h3, h4, h5⟩ := hXs h1
  exact va_slen hx hb h2 h3 h4 hS hd kk
theorem ev_mtald (hx : p.tables.exec = Jvm.exec) (hb : c.code = cc) (hST : ev_ST A ad s s.heap) (hS : va_S A s.heap H locs) {r i : Nat} {v : Int32} (h1 : ev_st r i = some v) (hd : decode cc pc = .ok (.iaload, 1))
    (kk : W p l e R s m args below meth c H locs cells slots Q (F0 m (pc + 1) ls (.int v :: rest))) : W p l e R s m args below meth c H locs cells slots Q (F0 m pc ls (.int (nI i) :: .ref (ad r) :: rest)) := by
  unfold ev_st at h1
  by_cases e1 : r = 201
  · subst e1
    rw [if_pos rfl] at h1
    have hi : i < 4 := (List.getElem?_eq_some_iff.mp h1).1
    refine va_ti hx hb hST.1.2 hS (vp_in_nI hi (by decide)) (v := .int v) ?_ hd kk
    rw [nI_clamp (by omega)]
    show Value.int _ = _
    rw [List.getD_eq_getElem?_getD, h1]; rfl
  · rw [if_neg e1] at h1
    by_cases e2 : r = 202
    · subst e2
      rw [if_pos rfl] at h1
      have hi : i < 4 := (List.getElem?_eq_some_iff.mp h1).1
      refine va_ti hx hb hST.2.1.2 hS (vp_in_nI hi (by decide)) (v := .int v) ?_ hd kk
      rw [nI_clamp (by omega)]
      show Value.int _ = _
      rw [List.getD_eq_getElem?_getD, h1]; rfl
    · rw [if_neg e2] at h1; cases h1
theorem ev_rs8 {L : List Value} (h : (L.map Value.category).sum ≤ 8) : ((L.map (ev_cv ad)).map fun v => v.category).sum ≤ 8 := by
  rw [List.map_map]
  have : (fun v : Value => v.category) ∘ ev_cv ad = Value.category := funext fun v => ev_cvc v
  rw [this]
  exact h
theorem ev_mcopy (hx : p.tables.exec = Jvm.exec) (hb : c.code = cc) {nL : Nat} (hml : c.maxLocals = nL) (hl : ls.size = nL) (hts : ∀ w ∈ ev_TB, w.before args s = true) (hown : s.vm.findClass (ev_cn oc) = some m.cls) (hK : va_K D vwCl (ev_ty ca) s) (hP : va_P D vwCl (ev_wl ca ad μ) H) (hD : va_D A (ev_wl ca ad μ)) (hS : va_S A s.heap H locs) (hRm : 10 ≤ R.frames ∧ 300 ≤ R.locals) {i k0 k1 n0 n1 n : Nat} {r0 r1 : List (Option Nat)} {st : List Value} (h1 : ev_cpr oc i = true) (h2 : ev_lay k0 = (1, n0, r0)) (h3 : ev_lay k1 = (1, n1, r1)) (h4 : n ≤ n0) (h5 : n ≤ n1) (h6 : (st.map Value.category).sum ≤ 8) (hd : decode cc pc = .ok (.invokestatic i, 3))
    (kk : ∀ (H1 : Heap) (locs1 : List Loc), va_P D vwCl (ev_wl ca ad (ev_cp μ k0 k1 n)) H1 → va_S A s.heap H1 locs1 → W p l e R s m args below meth c H1 locs1 cells slots Q (F0 m (pc + 3) ls (st.map (ev_cv ad)))) : W p l e R s m args below meth c H locs cells slots Q (F0 m pc ls (.int (nI n) :: .int (nI 0) :: .ref (ad k1) :: .int (nI 0) :: .ref (ad k0) :: st.map (ev_cv ad))) := by
  have hn := ev_lay_n h2 (by decide)
  obtain ⟨q, hq⟩ := Option.isSome_iff_exists.mp (show (ev_cpT.lookup (oc, i)).isSome = true from h1)
  have g1 := ev_cp_t _ (ev_lk hq)
  have cn : (nI n).toNatClampNeg = n := nI_clamp (by omega)
  have c0 : (nI 0).toNatClampNeg = 0 := nI_clamp (by omega)
  have h8 := ev_rs8 (ad := ad) h6
  refine va_copyi hx hb (hml.trans hl.symm) hown (hts _ (ev_TBi g1 rfl)) (hts _ (ev_TBm (ev_ms_t (.native arraycopyName) (by simp)) rfl)) (hts _ (ev_TBm (ev_ms_t (.static arraycopyName) (by simp)) rfl)) (hts _ (ev_TBm (ev_ms_t (.initialized "java/lang/System") (by simp)) rfl)) hK hP hD hS k0 k1 0 0
    (by rw [ev_wl_get (ev_lay_lt h2 (by decide)), ev_en1 h2]) (by rw [ev_wl_get (ev_lay_lt h3 (by decide)), ev_en1 h3]) rfl rfl rfl (nI_pos (by omega)) (nI_pos (by omega)) (nI_pos (by omega)) (by rw [cn, c0]; omega) (by rw [cn, c0]; omega) (fun _ _ => rfl) (by omega) (Nat.le_trans (Nat.add_le_add_right h8 _) (Nat.le_trans (by decide) hRm.2)) hd (fun H1 locs1 hP1 _ hS1 => kk H1 locs1 ?_ hS1)
  have hu : va_cpy (μ k0) (μ k1) 0 0 n = ev_cp μ k0 k1 n k1 := by
    funext j
    unfold va_cpy ev_cp
    rw [if_pos rfl]
    by_cases hj : j < n
    · rw [if_pos ⟨Nat.zero_le _, by omega⟩, if_pos hj]; simp
    · rw [if_neg (by omega), if_neg hj]
  rw [cn, c0, hu, ev_wl_set (μ2 := ev_cp μ k0 k1 n) (ev_lay_lt h3 (by decide)) (by rw [ev_en1 h3]) (fun q hq => by unfold ev_cp; rw [if_neg hq])] at hP1
  exact hP1
theorem ev_mq_w {i y : Nat} (h : ev_mr oc i = some y) (hy : 900 < y) : (Cond.methodLink (ev_cn oc) i (if y = 901 then Lib.Math.max.name else if y = 902 then Lib.Math.min.name else if y = 903 then Lib.Math.abs.name else ⟨"java/lang/Double", "doubleToRawLongBits", "(D)J"⟩)) ∈ ev_TB := by
  unfold ev_mr at h
  cases hq : ev_mrT.lookup (oc, i) with
  | some q =>
    rw [hq] at h
    cases h
    have := (ev_mr_t _ (ev_lk hq)).1
    dsimp only at this
    omega
  | none =>
    rw [hq] at h
    exact ev_TBm (ev_mq_t _ (ev_lk h)) rfl
theorem ev_mmmax (hx : p.tables.exec = Jvm.exec) (hb : c.code = cc) {nL : Nat} (hml : c.maxLocals = nL) (hl : ls.size = nL) (hts : ∀ w ∈ ev_TB, w.before args s = true) (hown : s.vm.findClass (ev_cn oc) = some m.cls) (hRm : 10 ≤ R.frames ∧ 300 ≤ R.locals) (hc : cells ≤ R.cells) (hs : slots ≤ R.slots) {i : Nat} {x y : Int32} {st : List Value} (h1 : ev_mr oc i = some 901) (h2 : (st.map Value.category).sum ≤ 8) (hd : decode cc pc = .ok (.invokestatic i, 3))
    (kk : W p l e R s m args below meth c H locs cells slots Q (F0 m (pc + 3) ls (.int (if x < y then y else x) :: st.map (ev_cv ad)))) : W p l e R s m args below meth c H locs cells slots Q (F0 m pc ls (.int y :: .int x :: st.map (ev_cv ad))) :=
  va_mmax hx hb (hml.trans hl.symm) hown (hts _ (ev_mq_w h1 (by decide))) (hts _ (ev_TBm (ev_ms_t (.static Lib.Math.max.name) (by simp)) rfl)) (hts _ (ev_TBm (ev_ms_t (.initialized "java/lang/Math") (by simp)) rfl)) (hts _ (ev_TBm (ev_ms_t (.code Lib.Math.max.name Lib.Math.max.code 2 (some .int)) (by simp)) rfl)) (by omega) (by have := ev_rs8 (ad := ad) h2; omega) hc hs hd kk
theorem ev_mmmin (hx : p.tables.exec = Jvm.exec) (hb : c.code = cc) {nL : Nat} (hml : c.maxLocals = nL) (hl : ls.size = nL) (hts : ∀ w ∈ ev_TB, w.before args s = true) (hown : s.vm.findClass (ev_cn oc) = some m.cls) (hRm : 10 ≤ R.frames ∧ 300 ≤ R.locals) (hc : cells ≤ R.cells) (hs : slots ≤ R.slots) {i : Nat} {x y : Int32} {st : List Value} (h1 : ev_mr oc i = some 902) (h2 : (st.map Value.category).sum ≤ 8) (hd : decode cc pc = .ok (.invokestatic i, 3))
    (kk : W p l e R s m args below meth c H locs cells slots Q (F0 m (pc + 3) ls (.int (if y < x then y else x) :: st.map (ev_cv ad)))) : W p l e R s m args below meth c H locs cells slots Q (F0 m pc ls (.int y :: .int x :: st.map (ev_cv ad))) :=
  va_mmin hx hb (hml.trans hl.symm) hown (hts _ (ev_mq_w h1 (by decide))) (hts _ (ev_TBm (ev_ms_t (.static Lib.Math.min.name) (by simp)) rfl)) (hts _ (ev_TBm (ev_ms_t (.initialized "java/lang/Math") (by simp)) rfl)) (hts _ (ev_TBm (ev_ms_t (.code Lib.Math.min.name Lib.Math.min.code 2 (some .int)) (by simp)) rfl)) (by omega) (by have := ev_rs8 (ad := ad) h2; omega) hc hs hd kk
theorem ev_mmabs (hx : p.tables.exec = Jvm.exec) (hb : c.code = cc) {nL : Nat} (hml : c.maxLocals = nL) (hl : ls.size = nL) (hts : ∀ w ∈ ev_TB, w.before args s = true) (hown : s.vm.findClass (ev_cn oc) = some m.cls) (hRm : 10 ≤ R.frames ∧ 300 ≤ R.locals) (hc : cells ≤ R.cells) (hs : slots ≤ R.slots) {i : Nat} {x : Int32} {st : List Value} (h1 : ev_mr oc i = some 903) (h2 : (st.map Value.category).sum ≤ 8) (hd : decode cc pc = .ok (.invokestatic i, 3))
    (kk : W p l e R s m args below meth c H locs cells slots Q (F0 m (pc + 3) ls (.int (if 0 ≤ x then x else 0 - x) :: st.map (ev_cv ad)))) : W p l e R s m args below meth c H locs cells slots Q (F0 m pc ls (.int x :: st.map (ev_cv ad))) :=
  va_mabs hx hb (hml.trans hl.symm) hown (hts _ (ev_mq_w h1 (by decide))) (hts _ (ev_TBm (ev_ms_t (.static Lib.Math.abs.name) (by simp)) rfl)) (hts _ (ev_TBm (ev_ms_t (.initialized "java/lang/Math") (by simp)) rfl)) (hts _ (ev_TBm (ev_ms_t (.code Lib.Math.abs.name Lib.Math.abs.code 1 (some .int)) (by simp)) rfl)) (by omega) (by have := ev_rs8 (ad := ad) h2; omega) hc hs hd kk
theorem ev_mrawl (hx : p.tables.exec = Jvm.exec) (hb : c.code = cc) {nL : Nat} (hml : c.maxLocals = nL) (hl : ls.size = nL) (hts : ∀ w ∈ ev_TB, w.before args s = true) (hown : s.vm.findClass (ev_cn oc) = some m.cls) (hRm : 10 ≤ R.frames ∧ 300 ≤ R.locals) {i : Nat} {x : UInt64} {st : List Value} (h1 : ev_mr oc i = some 904) (h2 : (st.map Value.category).sum ≤ 8) (hd : decode cc pc = .ok (.invokestatic i, 3))
    (kk : W p l e R s m args below meth c H locs cells slots Q (F0 m (pc + 3) ls (.long x.toInt64 :: st.map (ev_cv ad)))) : W p l e R s m args below meth c H locs cells slots Q (F0 m pc ls (.double x :: st.map (ev_cv ad))) :=
  vn_d2l hx hb (hml.trans hl.symm) hown (hts _ (ev_mq_w h1 (by decide))) (hts _ (ev_TBm (ev_ms_t (.native ⟨"java/lang/Double", "doubleToRawLongBits", "(D)J"⟩) (by simp)) rfl)) (hts _ (ev_TBm (ev_ms_t (.static ⟨"java/lang/Double", "doubleToRawLongBits", "(D)J"⟩) (by simp)) rfl)) (hts _ (ev_TBm (ev_ms_t (.initialized "java/lang/Double") (by simp)) rfl)) (by omega) (by have := ev_rs8 (ad := ad) h2; omega) hd kk
end EvM
theorem ev_ci_ok {oc i : Nat} {v : Int32} (h : ev_ci oc i = some v) : (Cond.constant (ev_cn oc) i v) ∈ ev_TB := by
  unfold ev_ci at h
  cases hq : ev_ciT.lookup (oc, i) with
  | none => rw [hq] at h; cases h
  | some q =>
    rw [hq] at h
    obtain ⟨a, b⟩ := q
    cases h
    exact ev_TBi (ev_ci_t _ (ev_lk hq)) rfl
theorem ev_cl_ok {oc i : Nat} {v : Int64} (h : ev_cl oc i = some v) : (Cond.constantLong (ev_cn oc) i v) ∈ ev_TB := by
  unfold ev_cl at h
  cases hq : ev_clT.lookup (oc, i) with
  | none => rw [hq] at h; cases h
  | some q =>
    rw [hq] at h
    obtain ⟨a, b⟩ := q
    cases h
    exact ev_TBi (ev_cl_t _ (ev_lk hq)) rfl
theorem ev_cd_ok {oc i : Nat} {v : UInt64} (h : ev_cd oc i = some v) : (Cond.constantDouble (ev_cn oc) i v) ∈ ev_TB := by
  unfold ev_cd at h
  cases hq : ev_cdT.lookup (oc, i) with
  | none => rw [hq] at h; cases h
  | some q =>
    rw [hq] at h
    obtain ⟨a, b⟩ := q
    cases h
    exact ev_TBi (ev_cd_t _ (ev_lk hq)) rfl
end
section
/-! calls, ends, and the soundness of the pure steps -/
def ev_A (base : Nat) : Nat → Prop := fun q => base ≤ q
def ev_WD (base : Nat) (D : va_G) (ca : Nat → ClassId) (ad : Nat → Nat) (μ : ev_M) (U : State) : Prop := va_P D vwCl (ev_wl ca ad μ) U.heap ∧ va_K D vwCl (ev_ty ca) U ∧ va_D (ev_A base) (ev_wl ca ad μ) ∧ ev_ST (ev_A base) ad U U.heap ∧ base ≤ U.heap.size
def ev_Qn (base : Nat) (D : va_G) (ca : Nat → ClassId) (ad : Nat → Nat) (rv : Option Value) (μ2 : ev_M) : Array Value → State → Outcome → State → Prop := fun _ st o t => o = .returned rv ∧ va_P D vwCl (ev_wl ca ad μ2) t.heap ∧ va_F (ev_A base) st t
def ev_QX (base : Nat) (D : va_G) (ca : Nat → ClassId) (ad : Nat → Nat) (r : ev_R) (μ2 : ev_M) : Array Value → State → Outcome → State → Prop := fun a st o t => r.2 = 0 ∧ ev_Qn base D ca ad (r.1.map (ev_cv ad)) μ2 a st o t
def ev_XC (base : Nat) (D : va_G) (ca : Nat → ClassId) (ad : Nat → Nat) (r : ev_R) (μ2 : ev_M) : String → State → State → Prop := fun E9 st t => ∃ E, r.2 = E + 1 ∧ E9 = ev_ex E ∧ va_P D vwCl (ev_wl ca ad μ2) t.heap ∧ va_F (ev_A base) st t
def ev_ws (y : Nat) : List Cond := ev_cw y :: ev_TB
def ev_rm (d y : Nat) : Room := { frames := d + 10, cells := ev_mc y, slots := 6 * ev_mc y, locals := 60 * d + 300 }
def ev_K1 (l : Launch) (base : Nat) (D : va_G) (ca : Nat → ClassId) (ad : Nat → Nat) (d y : Nat) (as : List Value) (μ : ev_M) (v : Option Value) (μ2 : ev_M) : Prop := Met l (ev_yn y) (ev_ws y) (ev_rm d y) (va_Pc (as.map (ev_cv ad)) (ev_WD base D ca ad μ)) (ev_Qn base D ca ad (v.map (ev_cv ad)) μ2) (ev_mc y) (6 * ev_mc y) (ev_A base)
def ev_K2 (l : Launch) (base : Nat) (D : va_G) (ca : Nat → ClassId) (ad : Nat → Nat) (d y : Nat) (as : List Value) (μ : ev_M) (r : ev_R) (μ2 : ev_M) : Prop := vx_Met l (ev_yn y) (ev_ws y) (ev_rm d y) (va_Pc (as.map (ev_cv ad)) (ev_WD base D ca ad μ)) (ev_QX base D ca ad r μ2) (ev_XC base D ca ad r μ2) (ev_mc y) (6 * ev_mc y) (ev_A base)
theorem ev_blind {base : Nat} {D : va_G} {ca : Nat → ClassId} {ad : Nat → Nat} {μ : ev_M} {av : List Value} : FrameBlind (va_Pc av (ev_WD base D ca ad μ)) := by
  intro a U g mk h
  obtain ⟨h1, h2, h3, h4, h5, h6⟩ := h
  exact ⟨h1, h2, va_K.moved (u := U) (U := U.calling g mk a) (Vm.Alike.refl U.vm) h3, h4, h5.kept (State.WarmedH.refl U) (fun _ _ _ => rfl), h6⟩
theorem ev_good_TB : ∀ w ∈ ev_TB, (w.onTables && w.keeps) = true ∨ ∃ ty, w = .arrayClass ty := fun w h => good_of_word (List.mem_filter.mp h).2
theorem ev_cw_good (y : Nat) : goodWord (ev_cw y) = true := by
  unfold ev_cw
  by_cases h : (ev_yh y).isEmpty = true
  · rw [if_pos h]; rfl
  · rw [if_neg h]; rfl
theorem ev_goodIn {y : Nat} (hy : y < 172) {pre : List Cond} (h : ∀ w ∈ pre, w ∈ ev_TB) : GoodIn ev_TB (pre ++ ev_ws y) := by
  intro w hw
  rcases List.mem_append.mp hw with q | q
  · exact ⟨h w q, ev_good_TB w (h w q)⟩
  · rcases List.mem_cons.mp q with rfl | q
    · have := ev_TBm (ev_code_t hy) (ev_cw_good y)
      exact ⟨this, ev_good_TB _ this⟩
    · exact ⟨q, ev_good_TB w q⟩
theorem ev_mr_s {oc i y : Nat} (h : ev_mr oc i = some y) (hk : ev_kd y = 0 ∨ ev_kd y = 1) : y < 172 ∧ (Cond.methodLink (ev_cn oc) i (ev_yn y)) ∈ ev_TB ∧ (ev_kd y = 0 → (Cond.instanceMethod (ev_yn y)) ∈ ev_TB ∧ (Cond.selects (ev_yn y).cls (ev_yn y) (ev_yn y)) ∈ ev_TB) ∧ (ev_kd y = 1 → (Cond.static (ev_yn y)) ∈ ev_TB) ∧ (Cond.initialized (ev_yn y).cls) ∈ ev_TB := by
  unfold ev_mr at h
  cases hq : ev_mrT.lookup (oc, i) with
  | some q =>
    rw [hq] at h
    cases h
    obtain ⟨h1, h2, h3, h4, h5⟩ := ev_mr_t _ (ev_lk hq)
    refine ⟨h1, ev_TBi h2 rfl, fun hk => ⟨ev_TBi (h3 hk).1 rfl, ?_⟩, fun hk => ev_TBi (h4 hk) rfl, ev_TBi h5 rfl⟩
    rw [(ev_yo_t _ h1).1]
    exact ev_TBi (h3 hk).2 rfl
  | none =>
    rw [hq] at h
    have h9 : ∀ q ∈ ev_mqT, ev_kd q.2 = 9 := by decide +kernel
    have := h9 _ (ev_lk h)
    dsimp only at this
    omega
theorem ev_th01 : ∀ y, y < 172 → ev_th y = 0 ∨ ev_th y = 1 := by decide +kernel
theorem ev_th_yh : ∀ y, y < 172 → ev_th y = 1 → ev_yh y = [] ∧ ev_mc y = 1 ∧ ev_kd y = 0 := by decide +kernel
theorem ev_yh_kd : ∀ y, y < 172 → ev_yh y ≠ [] → ev_kd y = 1 := by decide +kernel
theorem ev_rm_of {d y : Nat} (hy : y < 172) {R : Room} (h : d + 11 ≤ R.frames ∧ 60 * d + 360 ≤ R.locals) : (ev_rm d y).frames + 1 ≤ R.frames ∧ 8 + (ev_yL y + 11) + (ev_rm d y).locals ≤ R.locals := by
  have := (ev_yo_t y hy).2.2.2.2.2.1
  refine ⟨?_, ?_⟩
  · show d + 10 + 1 ≤ _; omega
  · show 8 + (ev_yL y + 11) + (60 * d + 300) ≤ _; omega
section EvC
variable {p : Program} {l : Launch} {e : Env} {R : Room} {s : State} {m : MethodId} {args : Array Value} {below : List Frame} {meth : Method} {c : Code} {H : Heap} {locs : List Loc} {cells slots mc ms : Nat} {Q : State → Prop}
variable {cc : ByteArray} {pc : Nat} {ls : Array Slot} {rest st0 : List Value} {D : va_G} {ca : Nat → ClassId} {ad : Nat → Nat} {μ μ2 : ev_M} {base : Nat} {oc : Nat} {a9 : Array Value}
theorem ev_after {rv : Option Value} (hr : va_Run p l e R s m args below meth c H locs cells slots mc ms (F0 m pc ls st0) rest (ev_Qn base D ca ad rv μ2 a9) (ev_A base)) (hS : va_S (ev_A base) s.heap H locs)
    (kk : ∀ (H1 : Heap) (locs1 : List Loc), va_P D vwCl (ev_wl ca ad μ2) H1 → va_S (ev_A base) s.heap H1 locs1 → W p l e R s m args below meth c H1 locs1 (cells + mc) (slots + ms) Q (F0 m (pc + 3) ls (rv.toList ++ rest))) : W p l e R s m args below meth c H locs cells slots Q (F0 m pc ls st0) := by
  intro T hT X
  obtain ⟨v, st₀, t, T', L, h0, X', hL, e1, e2, ⟨hv, hP, hF⟩, st⟩ := hr T hT X
  cases hv
  obtain ⟨k1, k2, k3⟩ := vx_keep h0 e1 hS (fun _ _ h => h) (fun _ h => h) hL hF
  rw [e1] at k3
  obtain ⟨t2, a1, b1⟩ := kk t.heap (locs ++ L) hP k3 T' e1 X'
  exact ⟨t2, st t2 a1, b1⟩
theorem ev_afterX {r : ev_R} (hr : vx_Run p l e R s m args below meth c H locs cells slots mc ms (F0 m pc ls st0) rest (ev_QX base D ca ad r μ2 a9) (ev_XC base D ca ad r μ2) (ev_A base)) (hS : va_S (ev_A base) s.heap H locs)
    (kx : ∀ (E : Nat) (ce : Cell) (q : Addr) (H1 : Heap) (locs1 : List Loc), r.2 = E + 1 → va_P D vwCl (ev_wl ca ad μ2) H1 → va_S (ev_A base) s.heap H1 locs1 → H1[q]? = some ce → ce.vm = .none → s.vm.findClass (ev_ex E) = some ce.cls → vx_W p l e R s m args below meth c H1 locs1 (cells + mc) (slots + ms) Q (F0 m pc ls rest) q)
    (kk : r.2 = 0 → ∀ (H1 : Heap) (locs1 : List Loc), va_P D vwCl (ev_wl ca ad μ2) H1 → va_S (ev_A base) s.heap H1 locs1 → W p l e R s m args below meth c H1 locs1 (cells + mc) (slots + ms) Q (F0 m (pc + 3) ls ((r.1.map (ev_cv ad)).toList ++ rest))) : W p l e R s m args below meth c H locs cells slots Q (F0 m pc ls st0) := by
  intro T hT X
  rcases hr T hT X with ⟨v, st₀, t, T', L, h0, X', hL, e1, e2, ⟨h2, hv, hP, hF⟩, st⟩ | ⟨q, st₀, t, T', L, E, ce, h0, X', hL, e1, e2, ⟨E2, hE, rfl, hP, hF⟩, hce, hcv, hcl, st⟩
  · cases hv
    obtain ⟨k1, k2, k3⟩ := vx_keep h0 e1 hS (fun _ _ h => h) (fun _ h => h) hL hF
    rw [e1] at k3
    obtain ⟨t2, a1, b1⟩ := kk h2 t.heap (locs ++ L) hP k3 T' e1 X'
    exact ⟨t2, st t2 a1, b1⟩
  · obtain ⟨k1, k2, k3⟩ := vx_keep h0 e1 hS (fun _ _ h => h) (fun _ h => h) hL hF
    rw [e1] at k3
    obtain ⟨t2, a1, b1⟩ := kx E2 ce q t.heap (locs ++ L) hE hP k3 hce hcv hcl T' e1 X'
    exact ⟨t2, st.trans a1, b1⟩
theorem ev_pre {as : List Value} (hK : va_K D vwCl (ev_ty ca) s) (hP : va_P D vwCl (ev_wl ca ad μ) H) (hD : va_D (ev_A base) (ev_wl ca ad μ)) (hST : ev_ST (ev_A base) ad s s.heap) (hS : va_S (ev_A base) s.heap H locs) (hb : base ≤ s.heap.size) : ∀ U : State, U.heap = H → s.WarmedH U.vm → va_Pc (as.map (ev_cv ad)) (ev_WD base D ca ad μ) (as.map (ev_cv ad)).toArray U := by
  intro U hU hW
  refine ⟨rfl, by rw [hU]; exact hP, va_K.moved hW.alike hK, hD, ?_, by rw [hU]; exact Nat.le_trans hb hS.1⟩
  exact hST.kept hW (fun a h1 h2 => by rw [hU]; exact hS.2.1 a h1 h2)
end EvC
def ev_thq (cc : ByteArray) (oc pc E : Nat) : Prop := ∃ ik is ic : Nat, decode cc pc = .ok (.new ik, 3) ∧ decode cc (pc + 3) = .ok (.dup, 1) ∧ ev_tr oc ik is ic = some E ∧
  ((decode cc (pc + 4) = .ok (.ldc is, 2) ∧ decode cc (pc + 6) = .ok (.invokespecial ic, 3) ∧ decode cc (pc + 9) = .ok (.athrow, 1)) ∨ (decode cc (pc + 4) = .ok (.ldc_w is, 3) ∧ decode cc (pc + 7) = .ok (.invokespecial ic, 3) ∧ decode cc (pc + 10) = .ok (.athrow, 1)))
/-- what the method's end owes -/
def ev_Fin (p : Program) (l : Launch) (e : Env) (R : Room) (s : State) (m : MethodId) (args : Array Value) (below : List Frame) (meth : Method) (c : Code) (base : Nat) (D : va_G) (ca : Nat → ClassId) (ad : Nat → Nat) (oc : Nat) (cc : ByteArray) (rt : Option FieldType) (am nL c0 s0 : Nat) (rf : ev_R) (μf : ev_M) (Q : State → Prop) : Prop :=
  (∀ (pc a : Nat) (ls : Array Slot) (H : Heap) (locs : List Loc) (x : Int32) (ty : FieldType), decode cc pc = .ok (.ireturn, 1) → rt = some ty → narrow ty (.int x) = .int x → rf = (some (.int x), 0) → a ≤ am → va_P D vwCl (ev_wl ca ad μf) H → va_S (ev_A base) s.heap H locs → W p l e R s m args below meth c H locs (c0 + a) (s0 + 6 * a) Q (F0 m pc ls [.int x])) ∧
  (∀ (pc a : Nat) (ls : Array Slot) (H : Heap) (locs : List Loc) (x : Int64), decode cc pc = .ok (.lreturn, 1) → rt = some .long → rf = (some (.long x), 0) → a ≤ am → va_P D vwCl (ev_wl ca ad μf) H → va_S (ev_A base) s.heap H locs → W p l e R s m args below meth c H locs (c0 + a) (s0 + 6 * a) Q (F0 m pc ls [.long x])) ∧
  (∀ (pc a : Nat) (ls : Array Slot) (H : Heap) (locs : List Loc) (x : UInt64), decode cc pc = .ok (.dreturn, 1) → rt = some .double → rf = (some (.double x), 0) → a ≤ am → va_P D vwCl (ev_wl ca ad μf) H → va_S (ev_A base) s.heap H locs → W p l e R s m args below meth c H locs (c0 + a) (s0 + 6 * a) Q (F0 m pc ls [.double x])) ∧
  (∀ (pc a : Nat) (ls : Array Slot) (H : Heap) (locs : List Loc), decode cc pc = .ok (.return_, 1) → rt = none → rf = (none, 0) → a ≤ am → va_P D vwCl (ev_wl ca ad μf) H → va_S (ev_A base) s.heap H locs → W p l e R s m args below meth c H locs (c0 + a) (s0 + 6 * a) Q (F0 m pc ls [])) ∧
  (∀ (pc a E : Nat) (ls : Array Slot) (H : Heap) (locs : List Loc), ev_thq cc oc pc E → rf = (none, E + 1) → a + 1 ≤ am → ls.size = nL → va_P D vwCl (ev_wl ca ad μf) H → va_S (ev_A base) s.heap H locs → W p l e R s m args below meth c H locs (c0 + a) (s0 + 6 * a) Q (F0 m pc ls []))
def ev_mP (p : Program) (l : Launch) (e : Env) (R : Room) (s : State) (m : MethodId) (args : Array Value) (below : List Frame) (meth : Method) (c : Code) (base : Nat) (D : va_G) (ca : Nat → ClassId) (ad : Nat → Nat) (am nL c0 s0 : Nat) (Q : State → Prop) : Nat → List Value → List Value → ev_M → Nat → Prop :=
  fun pc L st μ a => a ≤ am → ∀ (H : Heap) (locs : List Loc) (ls : Array Slot), va_P D vwCl (ev_wl ca ad μ) H → va_S (ev_A base) s.heap H locs → ev_lc ad nL ls L → W p l e R s m args below meth c H locs (c0 + a) (s0 + 6 * a) Q (F0 m pc ls (st.map (ev_cv ad)))
def ev_IH (l : Launch) (base : Nat) (D : va_G) (ca : Nat → ClassId) (ad : Nat → Nat) (d : Nat) (call : Nat → List Value → ev_M → ev_R → ev_M → Prop) : Prop := ∀ (y : Nat) (as : List Value) (μ : ev_M) (r : ev_R) (μ2 : ev_M), call y as μ r μ2 → y < 172 → (ev_th y = 0 → r.2 = 0 → ev_K1 l base D ca ad d y as μ r.1 μ2) ∧ (ev_th y = 1 → ev_K2 l base D ca ad d y as μ r μ2)
theorem ev_hlinks : ∀ F, F < 3 → (Cond.classLink RL (ev_ct F) (ev_ex F)) ∈ lw_tbl ∧ ev_ct F ≠ 0 := by decide +kernel
theorem ev_xw_cast {E : Nat} (h : E < 3) : (Cond.castable (ev_ex E) (ev_ex E)) ∈ ev_XW := by
  rcases (show E = 0 ∨ E = 1 ∨ E = 2 by omega) with rfl | rfl | rfl
  · exact List.mem_of_getElem? (i := 0) rfl
  · exact List.mem_of_getElem? (i := 1) rfl
  · exact List.mem_of_getElem? (i := 2) rfl
theorem ev_mapapp {ad : Nat → Nat} {as st : List Value} : (as.reverse ++ st).map (ev_cv ad) = (as.map (ev_cv ad)).reverse ++ st.map (ev_cv ad) := by rw [List.map_append, List.map_reverse]
theorem ev_mapopt {ad : Nat → Nat} {v : Option Value} {st : List Value} : (v.toList ++ st).map (ev_cv ad) = (v.map (ev_cv ad)).toList ++ st.map (ev_cv ad) := by cases v <;> rfl

set_option maxHeartbeats 4000000 in
set_option maxRecDepth 100000 in
theorem ev_sound {p : Program} {l : Launch} {e : Env} {R : Room} {s : State} {m : MethodId} {args : Array Value} {below : List Frame} {meth : Method} {c : Code} {base : Nat} {D : va_G} {ca : Nat → ClassId} {ad : Nat → Nat} {am nL c0 s0 d : Nat} {Q : State → Prop} {call : Nat → List Value → ev_M → ev_R → ev_M → Prop} {oc : Nat} {cc : ByteArray} {rt : Option FieldType} {ex : ev_X} {rf : ev_R} {μf : ev_M}
    (hx : p.tables.exec = Jvm.exec) (hb : c.code = cc) (hml : c.maxLocals = nL) (hown : s.vm.findClass (ev_cn oc) = some m.cls) (hts : ∀ w ∈ ev_TB, w.before args s = true) (hK : va_K D vwCl (ev_ty ca) s) (hDa : ∀ μ : ev_M, va_D (ev_A base) (ev_wl ca ad μ)) (hbs : base ≤ s.heap.size) (hST : ev_ST (ev_A base) ad s s.heap)
    (hRm : d + 11 ≤ R.frames ∧ 60 * d + 360 ≤ R.locals) (hcap : c0 + am ≤ R.cells ∧ s0 + 6 * am ≤ R.slots) (hXs : 0 < ex.1 → va_X (ad 200) (ex.1 - 1) ex.2.1 s s.heap ∧ ad 200 < s.heap.size ∧ ¬ (ev_A base) (ad 200) ∧ ex.1 < 2 ^ 30) (hTab : ex.2.2 ≠ [] → c.exceptionTable.toList = tableOf ex.2.2)
    (IH : ev_IH l base D ca ad d call) (hFin : ev_Fin p l e R s m args below meth c base D ca ad oc cc rt am nL c0 s0 rf μf Q) :
    ev_Cl call oc cc rt am ex rf μf (ev_mP p l e R s m args below meth c base D ca ad am nL c0 s0 Q) := by
  have hRm0 : 10 ≤ R.frames ∧ 300 ≤ R.locals := ⟨by omega, by omega⟩
  have hcc : ∀ {a : Nat}, a ≤ am → c0 + a ≤ R.cells := fun h => by omega
  have hss : ∀ {a : Nat}, a ≤ am → s0 + 6 * a ≤ R.slots := fun h => by omega
  refine ⟨?_, ?_, ?_, ?_, ?_, ?_, ?_, ?_, ?_, ?_, ?_, ?_, ?_, ?_, ?_, ?_, ?_, ?_, ?_, ?_, ?_, ?_, ?_, ?_, ?_, ?_, ?_, ?_, ?_, ?_, ?_, ?_, ?_, ?_, ?_, ?_, ?_, ?_, ?_, ?_, ?_, ?_, ?_, ?_, ?_, ?_, ?_, ?_, ?_, ?_, ?_, ?_, ?_, ?_, ?_, ?_, ?_, ?_, ?_, ?_, ?_, ?_, ?_, ?_, ?_, ?_, ?_, ?_, ?_, ?_, ?_, ?_, ?_, ?_, ?_, ?_, ?_, ?_, ?_, ?_, ?_, ?_, ?_, ?_, ?_, ?_, ?_, ?_, ?_, ?_, ?_, ?_, ?_, ?_, ?_, ?_, ?_, ?_, ?_, ?_⟩
  · unfold ev_c_iconst ev_mP
    intro pc L st μ a n hd  k ha H locs ls hP hS hl
    exact lv_iconst hx hb hd rfl (k ha H locs ls hP hS hl)
  · unfold ev_c_bipush ev_mP
    intro pc L st μ a n hd  k ha H locs ls hP hS hl
    exact lv_bipush hx hb hd rfl (k ha H locs ls hP hS hl)
  · unfold ev_c_sipush ev_mP
    intro pc L st μ a n hd  k ha H locs ls hP hS hl
    exact lv_sipush hx hb hd rfl (k ha H locs ls hP hS hl)
  · unfold ev_c_lconst ev_mP
    intro pc L st μ a n hd  k ha H locs ls hP hS hl
    exact lv_lconst hx hb hd rfl (k ha H locs ls hP hS hl)
  · unfold ev_c_dconst0 ev_mP
    intro pc L st μ a  hd  k ha H locs ls hP hS hl
    exact lv_dconst0 hx hb hd (k ha H locs ls hP hS hl)
  · unfold ev_c_dconst1 ev_mP
    intro pc L st μ a  hd  k ha H locs ls hP hS hl
    exact lv_dconst1 hx hb hd (k ha H locs ls hP hS hl)
  · unfold ev_c_ldc ev_mP
    intro pc L st μ a i v hd h1 k ha H locs ls hP hS hl
    exact lv_ldc hx hb hown (hts _ (ev_ci_ok h1)) hd (k ha H locs ls hP hS hl)
  · unfold ev_c_ldcw ev_mP
    intro pc L st μ a i v hd h1 k ha H locs ls hP hS hl
    exact lv_ldcw hx hb hown (hts _ (ev_ci_ok h1)) hd (k ha H locs ls hP hS hl)
  · unfold ev_c_ldc2 ev_mP
    intro pc L st μ a i v hd h1 k ha H locs ls hP hS hl
    exact lv_ldc2 hx hb hown (hts _ (ev_cl_ok h1)) hd (k ha H locs ls hP hS hl)
  · unfold ev_c_ldc2d ev_mP
    intro pc L st μ a i v hd h1 k ha H locs ls hP hS hl
    exact lv_ldc2d hx hb hown (hts _ (ev_cd_ok h1)) hd (k ha H locs ls hP hS hl)
  · unfold ev_c_iload_n ev_mP
    intro pc L st μ a k x hd h1 kk ha H locs ls hP hS hl
    exact lv_iload_n hx hb hd rfl (ev_lc_at hl h1 rfl) (kk ha H locs ls hP hS hl)
  · unfold ev_c_iload ev_mP
    intro pc L st μ a k x hd h1 kk ha H locs ls hP hS hl
    exact lv_iload hx hb hd (ev_lc_at hl h1 rfl) (kk ha H locs ls hP hS hl)
  · unfold ev_c_lload_n ev_mP
    intro pc L st μ a k x hd h1 kk ha H locs ls hP hS hl
    exact lv_lload_n hx hb hd rfl (ev_lc_at hl h1 rfl) (kk ha H locs ls hP hS hl)
  · unfold ev_c_lload ev_mP
    intro pc L st μ a k x hd h1 kk ha H locs ls hP hS hl
    exact lv_lload hx hb hd (ev_lc_at hl h1 rfl) (kk ha H locs ls hP hS hl)
  · unfold ev_c_dload_n ev_mP
    intro pc L st μ a k x hd h1 kk ha H locs ls hP hS hl
    exact lv_dload_n hx hb hd rfl (ev_lc_at hl h1 rfl) (kk ha H locs ls hP hS hl)
  · unfold ev_c_dload ev_mP
    intro pc L st μ a k x hd h1 kk ha H locs ls hP hS hl
    exact lv_dload hx hb hd (ev_lc_at hl h1 rfl) (kk ha H locs ls hP hS hl)
  · unfold ev_c_aload_n ev_mP
    intro pc L st μ a k x hd h1 kk ha H locs ls hP hS hl
    exact lv_aload_n hx hb hd rfl (ev_lc_at hl h1 rfl) (kk ha H locs ls hP hS hl)
  · unfold ev_c_aload ev_mP
    intro pc L st μ a k x hd h1 kk ha H locs ls hP hS hl
    exact lv_aload hx hb hd (ev_lc_at hl h1 rfl) (kk ha H locs ls hP hS hl)
  · unfold ev_c_istore_n ev_mP
    intro pc L st μ a k x hd h1 kk ha H locs ls hP hS hl
    exact lv_istore_n hx hb hd rfl hl.2.1 (ev_lc_lt hl h1) rfl (fun ls2 hl2 => kk ha H locs ls2 hP hS (ev_lc_st1 hl h1 rfl hl2))
  · unfold ev_c_istore ev_mP
    intro pc L st μ a k x hd h1 kk ha H locs ls hP hS hl
    exact lv_istore hx hb hd hl.2.1 (ev_lc_lt hl h1) rfl (fun ls2 hl2 => kk ha H locs ls2 hP hS (ev_lc_st1 hl h1 rfl hl2))
  · unfold ev_c_astore_n ev_mP
    intro pc L st μ a k x hd h1 kk ha H locs ls hP hS hl
    exact lv_astore_n hx hb hd rfl hl.2.1 (ev_lc_lt hl h1) rfl (fun ls2 hl2 => kk ha H locs ls2 hP hS (ev_lc_st1 hl h1 rfl hl2))
  · unfold ev_c_astore ev_mP
    intro pc L st μ a k x hd h1 kk ha H locs ls hP hS hl
    exact lv_astore hx hb hd hl.2.1 (ev_lc_lt hl h1) rfl (fun ls2 hl2 => kk ha H locs ls2 hP hS (ev_lc_st1 hl h1 rfl hl2))
  · unfold ev_c_lstore_n ev_mP
    intro pc L st μ a k x hd h1 kk ha H locs ls hP hS hl
    exact lv_lstore_n hx hb hd rfl hl.2.1 (ev_lc_lt2 hl h1) rfl (fun ls2 hl2 => kk ha H locs ls2 hP hS (ev_lc_st2 hl h1 rfl hl2))
  · unfold ev_c_lstore ev_mP
    intro pc L st μ a k x hd h1 kk ha H locs ls hP hS hl
    exact lv_lstore hx hb hd hl.2.1 (ev_lc_lt2 hl h1) rfl (fun ls2 hl2 => kk ha H locs ls2 hP hS (ev_lc_st2 hl h1 rfl hl2))
  · unfold ev_c_dstore_n ev_mP
    intro pc L st μ a k x hd h1 kk ha H locs ls hP hS hl
    exact lv_dstore_n hx hb hd rfl hl.2.1 (ev_lc_lt2 hl h1) rfl (fun ls2 hl2 => kk ha H locs ls2 hP hS (ev_lc_st2 hl h1 rfl hl2))
  · unfold ev_c_dstore ev_mP
    intro pc L st μ a k x hd h1 kk ha H locs ls hP hS hl
    exact lv_dstore hx hb hd hl.2.1 (ev_lc_lt2 hl h1) rfl (fun ls2 hl2 => kk ha H locs ls2 hP hS (ev_lc_st2 hl h1 rfl hl2))
  · unfold ev_c_iinc ev_mP
    intro pc L st μ a k0 n x hd h1 h2 k ha H locs ls hP hS hl
    obtain ⟨q, hq⟩ := List.getElem?_of_mem (ev_lv_mem.mpr ⟨k0, .int x, (Nat.zero_add k0).symm, h1, rfl, rfl⟩ : (k0, Value.int x) ∈ ev_lv ad 0 L)
    exact lv_iinc hx hb hd hl.2.1 hq rfl (ev_lc_lt hl h2) rfl (fun ls2 hl2 => k ha H locs ls2 hP hS (ev_lc_st1 hl h2 rfl hl2))
  · unfold ev_c_iadd ev_mP
    intro pc L st μ a x y hd  k ha H locs ls hP hS hl
    exact lv_iadd hx hb hd (k ha H locs ls hP hS hl)
  · unfold ev_c_isub ev_mP
    intro pc L st μ a x y hd  k ha H locs ls hP hS hl
    exact lv_isub hx hb hd (k ha H locs ls hP hS hl)
  · unfold ev_c_imul ev_mP
    intro pc L st μ a x y hd  k ha H locs ls hP hS hl
    exact lv_imul hx hb hd (k ha H locs ls hP hS hl)
  · unfold ev_c_iand ev_mP
    intro pc L st μ a x y hd  k ha H locs ls hP hS hl
    exact lv_iand hx hb hd (k ha H locs ls hP hS hl)
  · unfold ev_c_ior ev_mP
    intro pc L st μ a x y hd  k ha H locs ls hP hS hl
    exact lv_ior hx hb hd (k ha H locs ls hP hS hl)
  · unfold ev_c_ishl ev_mP
    intro pc L st μ a x y hd  k ha H locs ls hP hS hl
    exact lv_ishl hx hb hd (k ha H locs ls hP hS hl)
  · unfold ev_c_ishr ev_mP
    intro pc L st μ a x y hd  k ha H locs ls hP hS hl
    exact lv_ishr hx hb hd (k ha H locs ls hP hS hl)
  · unfold ev_c_iushr ev_mP
    intro pc L st μ a x y hd  k ha H locs ls hP hS hl
    exact lv_iushr hx hb hd rfl (k ha H locs ls hP hS hl)
  · unfold ev_c_idiv ev_mP
    intro pc L st μ a x y hd h1 k ha H locs ls hP hS hl
    exact lv_idiv hx hb hd h1 (k ha H locs ls hP hS hl)
  · unfold ev_c_irem ev_mP
    intro pc L st μ a x y hd h1 k ha H locs ls hP hS hl
    exact lv_irem hx hb hd h1 (k ha H locs ls hP hS hl)
  · unfold ev_c_ineg ev_mP
    intro pc L st μ a x hd  k ha H locs ls hP hS hl
    exact lv_ineg hx hb hd (k ha H locs ls hP hS hl)
  · unfold ev_c_ladd ev_mP
    intro pc L st μ a x y hd  k ha H locs ls hP hS hl
    exact lv_ladd hx hb hd (k ha H locs ls hP hS hl)
  · unfold ev_c_lsub ev_mP
    intro pc L st μ a x y hd  k ha H locs ls hP hS hl
    exact lv_lsub hx hb hd (k ha H locs ls hP hS hl)
  · unfold ev_c_lmul ev_mP
    intro pc L st μ a x y hd  k ha H locs ls hP hS hl
    exact lv_lmul hx hb hd (k ha H locs ls hP hS hl)
  · unfold ev_c_lshl ev_mP
    intro pc L st μ a x y hd  k ha H locs ls hP hS hl
    exact lv_lshl hx hb hd rfl (k ha H locs ls hP hS hl)
  · unfold ev_c_lcmp ev_mP
    intro pc L st μ a x y hd  k ha H locs ls hP hS hl
    exact W.lcmp hx hb hd (k ha H locs ls hP hS hl)
  · unfold ev_c_i2l ev_mP
    intro pc L st μ a x hd  k ha H locs ls hP hS hl
    exact lv_i2l hx hb hd rfl (k ha H locs ls hP hS hl)
  · unfold ev_c_i2d ev_mP
    intro pc L st μ a x hd  k ha H locs ls hP hS hl
    exact lv_i2d hx hb hd (k ha H locs ls hP hS hl)
  · unfold ev_c_d2l ev_mP
    intro pc L st μ a x hd  k ha H locs ls hP hS hl
    exact lv_d2l hx hb hd (k ha H locs ls hP hS hl)
  · unfold ev_c_dmul ev_mP
    intro pc L st μ a x y hd h1 k ha H locs ls hP hS hl
    exact lv_dmul hx hb hd h1 (k ha H locs ls hP hS hl)
  · unfold ev_c_dsub ev_mP
    intro pc L st μ a x y hd h1 k ha H locs ls hP hS hl
    exact lv_dsub hx hb hd h1 (k ha H locs ls hP hS hl)
  · unfold ev_c_ddiv ev_mP
    intro pc L st μ a x y hd h1 k ha H locs ls hP hS hl
    exact lv_ddiv hx hb hd h1 (k ha H locs ls hP hS hl)
  · unfold ev_c_dcmp ev_mP
    intro pc L st μ a x y op hd  k ha H locs ls hP hS hl
    exact lv_dcmp hx hb hd (k ha H locs ls hP hS hl)
  · unfold ev_c_dup ev_mP
    intro pc L st μ a v hd h1 k ha H locs ls hP hS hl
    exact lv_dup hx hb hd ((ev_cvc _).trans h1) (k ha H locs ls hP hS hl)
  · unfold ev_c_dup2 ev_mP
    intro pc L st μ a v w hd h1 h2 k ha H locs ls hP hS hl
    exact lv_dup2_11 hx hb hd ((ev_cvc _).trans h1) ((ev_cvc _).trans h2) (k ha H locs ls hP hS hl)
  · unfold ev_c_pop ev_mP
    intro pc L st μ a v hd h1 k ha H locs ls hP hS hl
    exact lv_pop hx hb hd ((ev_cvc _).trans h1) (k ha H locs ls hP hS hl)
  · unfold ev_c_getI ev_mP
    intro pc L st μ a i k0 ci k hd h1 h2 kk ha H locs ls hP hS hl
    exact ev_mgetI hx hb hts hown hK hP h1 h2 hd (kk ha H locs ls hP hS hl)
  · unfold ev_c_getR ev_mP
    intro pc L st μ a i k0 ci k r hd h1 h2 kk ha H locs ls hP hS hl
    exact ev_mgetR hx hb hts hown hK hP h1 h2 hd (kk ha H locs ls hP hS hl)
  · unfold ev_c_putI ev_mP
    intro pc L st μ a i k0 ci k x hd h1 h2 kk ha H locs ls hP hS hl
    exact ev_mputI hx hb hts hown hK hP (hDa μ) hS h1 h2 hd (fun H1 l1 hP1 hS1 => kk ha H1 l1 ls hP1 hS1 hl)
  · unfold ev_c_gets ev_mP
    intro pc L st μ a i r hd h1 k ha H locs ls hP hS hl
    exact ev_mgets hx hb hts hown hST hS h1 hd (k ha H locs ls hP hS hl)
  · unfold ev_c_iald ev_mP
    intro pc L st μ a k0 n i rs hd h1 h2 k ha H locs ls hP hS hl
    exact ev_miald hx hb hK hP h1 h2 hd (k ha H locs ls hP hS hl)
  · unfold ev_c_zald ev_mP
    intro pc L st μ a k0 n i rs hd h1 h2 k ha H locs ls hP hS hl
    exact ev_mzald hx hb hK hP h1 h2 hd (k ha H locs ls hP hS hl)
  · unfold ev_c_lald ev_mP
    intro pc L st μ a k0 n i rs hd h1 h2 k ha H locs ls hP hS hl
    exact ev_mlald hx hb hK hP h1 h2 hd (k ha H locs ls hP hS hl)
  · unfold ev_c_aald ev_mP
    intro pc L st μ a k0 n i r rs hd h1 h2 h3 k ha H locs ls hP hS hl
    exact ev_maald hx hb hK hP h1 h2 h3 hd (k ha H locs ls hP hS hl)
  · unfold ev_c_aaldq ev_mP
    intro pc L st μ a k0 n i r rs hd h1 h2 h3 k ha H locs ls hP hS hl
    exact ev_maaldq hx hb hK hP h1 h2 h3 hd (k ha H locs ls hP hS hl)
  · unfold ev_c_iast ev_mP
    intro pc L st μ a k0 n i rs x hd h1 h2 k ha H locs ls hP hS hl
    exact ev_miast hx hb hK hP (hDa μ) hS h1 h2 hd (fun H1 l1 hP1 hS1 => k ha H1 l1 ls hP1 hS1 hl)
  · unfold ev_c_zast ev_mP
    intro pc L st μ a k0 n i rs x hd h1 h2 h3 k ha H locs ls hP hS hl
    exact ev_mzast hx hb hK hP (hDa μ) hS h1 h2 h3 hd (fun H1 l1 hP1 hS1 => k ha H1 l1 ls hP1 hS1 hl)
  · unfold ev_c_last ev_mP
    intro pc L st μ a k0 n i rs x hd h1 h2 k ha H locs ls hP hS hl
    exact ev_mlast hx hb hK hP (hDa μ) hS h1 h2 hd (fun H1 l1 hP1 hS1 => k ha H1 l1 ls hP1 hS1 hl)
  · unfold ev_c_sald ev_mP
    intro pc L st μ a i hd h1 k ha H locs ls hP hS hl
    exact ev_msald hx hb hXs hS h1 hd (k ha H locs ls hP hS hl)
  · unfold ev_c_slen ev_mP
    intro pc L st μ a  hd h1 k ha H locs ls hP hS hl
    exact ev_mslen hx hb hXs hS h1 hd (k ha H locs ls hP hS hl)
  · unfold ev_c_tald ev_mP
    intro pc L st μ a r i v hd h1 k ha H locs ls hP hS hl
    exact ev_mtald hx hb hST hS h1 hd (k ha H locs ls hP hS hl)
  · unfold ev_c_copy ev_mP
    intro pc L st μ a i k0 k1 n0 n1 n r0 r1 hd h1 h2 h3 h4 h5 h6 k ha H locs ls hP hS hl
    exact ev_mcopy hx hb hml hl.1 hts hown hK hP (hDa μ) hS hRm0 h1 h2 h3 h4 h5 h6 hd (fun H1 l1 hP1 hS1 => k ha H1 l1 ls hP1 hS1 hl)
  · unfold ev_c_mmax ev_mP
    intro pc L st μ a i x y hd h1 h2 k ha H locs ls hP hS hl
    exact ev_mmmax hx hb hml hl.1 hts hown hRm0 (hcc ha) (hss ha) h1 h2 hd (k ha H locs ls hP hS hl)
  · unfold ev_c_mmin ev_mP
    intro pc L st μ a i x y hd h1 h2 k ha H locs ls hP hS hl
    exact ev_mmmin hx hb hml hl.1 hts hown hRm0 (hcc ha) (hss ha) h1 h2 hd (k ha H locs ls hP hS hl)
  · unfold ev_c_mabs ev_mP
    intro pc L st μ a i x hd h1 h2 k ha H locs ls hP hS hl
    exact ev_mmabs hx hb hml hl.1 hts hown hRm0 (hcc ha) (hss ha) h1 h2 hd (k ha H locs ls hP hS hl)
  · unfold ev_c_rawl ev_mP
    intro pc L st μ a i x hd h1 h2 k ha H locs ls hP hS hl
    exact ev_mrawl hx hb hml hl.1 hts hown hRm0 h1 h2 hd (k ha H locs ls hP hS hl)
  · unfold ev_c_icmp_eq ev_mP
    intro pc L st μ a x y off tgt hd h1 kt kf ha H locs ls hP hS hl
    exact lv_icmp_eq hx hb hd h1 (fun c => kt c ha H locs ls hP hS hl) (fun c => kf c ha H locs ls hP hS hl)
  · unfold ev_c_icmp_ne ev_mP
    intro pc L st μ a x y off tgt hd h1 kt kf ha H locs ls hP hS hl
    exact lv_icmp_ne hx hb hd h1 (fun c => kt c ha H locs ls hP hS hl) (fun c => kf c ha H locs ls hP hS hl)
  · unfold ev_c_icmp_lt ev_mP
    intro pc L st μ a x y off tgt hd h1 kt kf ha H locs ls hP hS hl
    exact lv_icmp_lt hx hb hd h1 (fun c => kt c ha H locs ls hP hS hl) (fun c => kf c ha H locs ls hP hS hl)
  · unfold ev_c_icmp_ge ev_mP
    intro pc L st μ a x y off tgt hd h1 kt kf ha H locs ls hP hS hl
    exact lv_icmp_ge hx hb hd h1 (fun c => kt c ha H locs ls hP hS hl) (fun c => kf c ha H locs ls hP hS hl)
  · unfold ev_c_icmp_gt ev_mP
    intro pc L st μ a x y off tgt hd h1 kt kf ha H locs ls hP hS hl
    exact lv_icmp_gt hx hb hd h1 (fun c => kt c ha H locs ls hP hS hl) (fun c => kf c ha H locs ls hP hS hl)
  · unfold ev_c_icmp_le ev_mP
    intro pc L st μ a x y off tgt hd h1 kt kf ha H locs ls hP hS hl
    exact lv_icmp_le hx hb hd h1 (fun c => kt c ha H locs ls hP hS hl) (fun c => kf c ha H locs ls hP hS hl)
  · unfold ev_c_if_eq ev_mP
    intro pc L st μ a x off tgt hd h1 kt kf ha H locs ls hP hS hl
    exact lv_if_eq hx hb hd h1 (fun c => kt c ha H locs ls hP hS hl) (fun c => kf c ha H locs ls hP hS hl)
  · unfold ev_c_if_ne ev_mP
    intro pc L st μ a x off tgt hd h1 kt kf ha H locs ls hP hS hl
    exact lv_if_ne hx hb hd h1 (fun c => kt c ha H locs ls hP hS hl) (fun c => kf c ha H locs ls hP hS hl)
  · unfold ev_c_if_lt ev_mP
    intro pc L st μ a x off tgt hd h1 kt kf ha H locs ls hP hS hl
    exact lv_if_lt hx hb hd h1 (fun c => kt c ha H locs ls hP hS hl) (fun c => kf c ha H locs ls hP hS hl)
  · unfold ev_c_if_ge ev_mP
    intro pc L st μ a x off tgt hd h1 kt kf ha H locs ls hP hS hl
    exact lv_if_ge hx hb hd h1 (fun c => kt c ha H locs ls hP hS hl) (fun c => kf c ha H locs ls hP hS hl)
  · unfold ev_c_if_gt ev_mP
    intro pc L st μ a x off tgt hd h1 kt kf ha H locs ls hP hS hl
    exact lv_if_gt hx hb hd h1 (fun c => kt c ha H locs ls hP hS hl) (fun c => kf c ha H locs ls hP hS hl)
  · unfold ev_c_if_le ev_mP
    intro pc L st μ a x off tgt hd h1 kt kf ha H locs ls hP hS hl
    exact lv_if_le hx hb hd h1 (fun c => kt c ha H locs ls hP hS hl) (fun c => kf c ha H locs ls hP hS hl)
  · unfold ev_c_goto ev_mP
    intro pc L st μ a off tgt hd h1 k ha H locs ls hP hS hl
    exact lv_goto hx hb hd h1 (k ha H locs ls hP hS hl)
  · unfold ev_c_tabin ev_mP
    intro pc L st μ a x dflt lo hi off offs len tgt hd h1 h2 h3 h4 k ha H locs ls hP hS hl
    exact lv_tableIn hx hb hd h1 h2 h3 h4 (k ha H locs ls hP hS hl)
  · unfold ev_c_tabout ev_mP
    intro pc L st μ a x dflt lo hi offs len tgt hd h1 h2 k ha H locs ls hP hS hl
    exact lv_tableOut hx hb hd h1 h2 (k ha H locs ls hP hS hl)
  · unfold ev_c_look ev_mP
    intro pc L st μ a x dflt off ps len tgt hd h1 h2 h3 k ha H locs ls hP hS hl
    exact lv_lookup hx hb hd h1 h2 h3 (k ha H locs ls hP hS hl)
  · unfold ev_c_forget ev_mP
    intro pc L L2 st μ a h1 k ha H locs ls hP hS hl
    exact k ha H locs ls hP hS (ev_lc_wk hl h1)
  · unfold ev_c_callv ev_mP
    intro pc L st μ μ2 a i y r as v hd h1 h2 h3 h4 h5 h6 h7 h8 k ha H locs ls hP hS hl
    obtain ⟨hy, w1, w2, -, w4⟩ := ev_mr_s h1 (Or.inl h2)
    obtain ⟨w2, w3⟩ := w2 h2
    obtain ⟨o1, o2, o3, o4, o5, o6, o7⟩ := ev_yo_t y hy
    obtain ⟨i1, i2⟩ := IH y _ μ _ μ2 h6 hy
    have hlr : ev_lay r = (0, ev_yo y, (ev_lay r).2.2) := by rw [← h4, ← h5]
    have hr : r < 143 := ev_lay_lt hlr (by decide)
    have hci : ev_yo y < 7 := by
      have h9 : ∀ y, y < 172 → ev_kd y = 0 → ev_yo y < 7 := by decide +kernel
      exact h9 y hy h2
    have hyh : ev_yh y = [] := by
      have h9 : ∀ y, y < 172 → ev_kd y = 0 → ev_yh y = [] := by decide +kernel
      exact h9 y hy h2
    have hcw : ev_ws y = Cond.code (ev_yn y) (ev_yb y) (ev_yL y) (ev_yr y) :: ev_TB := by unfold ev_ws ev_cw; rw [hyh]; rfl
    have hpre : PreV s H (ev_yn y).cls (ad r) (va_Pc ((.ref r :: as).map (ev_cv ad)) (ev_WD base D ca ad μ)) (as.map (ev_cv ad)) := by
      refine ⟨ev_blind, ?_, ev_pre (as := .ref r :: as) hK hP (hDa μ) hST hS hbs⟩
      rw [o1]
      exact va_recv hK hP (ev_cl7 hci) (by rw [ev_wl_get hr, ev_en0 hlr])
    have hcall : CallW R s args (ev_cn oc) (ev_yn y).cls i (ev_yn y) (ev_yb y) (ev_yL y) (ev_yr y) (ev_ws y) (ev_rm d y) (ev_mc y) (6 * ev_mc y) (ev_np y) :=
      cwV (ev_np y) hts (ev_goodIn hy (pre := [.methodLink (ev_cn oc) i (ev_yn y), .instanceMethod (ev_yn y), .selects (ev_yn y).cls (ev_yn y) (ev_yn y), .initialized (ev_yn y).cls]) (fun w hw => by
        simp only [List.mem_cons, List.not_mem_nil, or_false] at hw
        rcases hw with rfl | rfl | rfl | rfl <;> assumption)) hcw rfl rfl ⟨rfl, o2, o3, o4⟩ (ev_rm_of hy hRm)
    have hstk : (as.reverse ++ Value.ref r :: st).map (ev_cv ad) = (as.map (ev_cv ad)).reverse ++ .ref (ad r) :: st.map (ev_cv ad) := ev_mapapp
    rw [hstk]
    have hk9 : ∀ (H1 : Heap) (locs1 : List Loc), va_P D vwCl (ev_wl ca ad μ2) H1 → va_S (ev_A base) s.heap H1 locs1 → W p l e R s m args below meth c H1 locs1 (c0 + a + ev_mc y) (s0 + 6 * a + 6 * ev_mc y) Q (F0 m (pc + 3) ls ((v.map (ev_cv ad)).toList ++ st.map (ev_cv ad))) := fun H1 locs1 hP1 hS1 => by
      have := k h7 H1 locs1 ls hP1 hS1 hl
      rw [ev_mapopt, Nat.mul_add, ← Nat.add_assoc, ← Nat.add_assoc] at this
      exact this
    have hroom : c0 + a + ev_mc y ≤ R.cells ∧ s0 + 6 * a + 6 * ev_mc y ≤ R.slots := ⟨by omega, by omega⟩
    rcases ev_th01 y hy with ht | ht
    · exact ev_after (va_runV ⟨hx, hb, hml, hown, hts⟩ (i1 ht rfl) hcall hpre rfl (by rw [List.length_map]; exact h3) hl.1 rfl (lv_room (ev_rs8 h8)) hd hroom) hS hk9
    · exact ev_afterX (vx_runV ⟨hx, hb, hml, hown, hts⟩ (i2 ht) hcall hpre rfl (by rw [List.length_map]; exact h3) hl.1 rfl (lv_room (ev_rs8 h8)) hd hroom) hS (fun E _ _ _ _ hE => by cases hE) (fun _ => hk9)
  · unfold ev_c_calls ev_mP
    intro pc L st μ μ2 a i y as v hd h1 h2 h3 h6 h7 h8 k ha H locs ls hP hS hl
    obtain ⟨hy, w1, -, w2, w4⟩ := ev_mr_s h1 (Or.inr h2)
    have w2 := w2 h2
    obtain ⟨o1, o2, o3, o4, o5, o6, o7⟩ := ev_yo_t y hy
    obtain ⟨i1, i2⟩ := IH y _ μ _ μ2 h6 hy
    have ht : ev_th y = 0 := by
      rcases ev_th01 y hy with ht | ht
      · exact ht
      · have := (ev_th_yh y hy ht).2.2; omega
    have hpre : PreS s H (va_Pc (as.map (ev_cv ad)) (ev_WD base D ca ad μ)) (as.map (ev_cv ad)) := ⟨ev_blind, ev_pre hK hP (hDa μ) hST hS hbs⟩
    have hG : GoodIn ev_TB (va_wsS (ev_cn oc) i (ev_yn y) (ev_ws y)) := ev_goodIn hy (pre := [.methodLink (ev_cn oc) i (ev_yn y), .static (ev_yn y), .initialized (ev_yn y).cls]) (fun w hw => by
        simp only [List.mem_cons, List.not_mem_nil, or_false] at hw
        rcases hw with rfl | rfl | rfl <;> assumption)
    rw [ev_mapapp]
    have hk9 : ∀ (H1 : Heap) (locs1 : List Loc), va_P D vwCl (ev_wl ca ad μ2) H1 → va_S (ev_A base) s.heap H1 locs1 → W p l e R s m args below meth c H1 locs1 (c0 + a + ev_mc y) (s0 + 6 * a + 6 * ev_mc y) Q (F0 m (pc + 3) ls ((v.map (ev_cv ad)).toList ++ st.map (ev_cv ad))) := fun H1 locs1 hP1 hS1 => by
      have := k h7 H1 locs1 ls hP1 hS1 hl
      rw [ev_mapopt, Nat.mul_add, ← Nat.add_assoc, ← Nat.add_assoc] at this
      exact this
    have hroom : c0 + a + ev_mc y ≤ R.cells ∧ s0 + 6 * a + 6 * ev_mc y ≤ R.slots := ⟨by omega, by omega⟩
    by_cases hyh : ev_yh y = []
    · have hcw : ev_ws y = Cond.code (ev_yn y) (ev_yb y) (ev_yL y) (ev_yr y) :: ev_TB := by unfold ev_ws ev_cw; rw [hyh]; rfl
      exact ev_after (va_runS ⟨hx, hb, hml, hown, hts⟩ (i1 ht rfl) (va_cwS (ev_np y) hts hG hcw rfl rfl ⟨o2, o3, o4⟩ (ev_rm_of hy hRm)) hpre rfl (by rw [List.length_map]; exact h3) hl.1 rfl (lv_room (ev_rs8 h8)) hd hroom) hS hk9
    · have hcw : ev_ws y = Cond.codeWith (ev_yn y) (ev_yb y) (ev_yL y) (ev_yr y) (ev_yh y) :: ev_TB := by
        unfold ev_ws ev_cw
        rw [if_neg (by simpa using hyh)]
      exact ev_after (vx_runSW ⟨hx, hb, hml, hown, hts⟩ (i1 ht rfl) (vx_cwSW (ev_np y) hts hG hcw rfl rfl ⟨o2, o3, o4⟩ (ev_rm_of hy hRm)) hpre rfl (by rw [List.length_map]; exact h3) hl.1 rfl (lv_room (ev_rs8 h8)) hd hroom) hS hk9
  · unfold ev_c_catch_n ev_mP
    intro pc L st μ μ2 a i y r E hp as k0 n hd h1 h2 h3 h4 h5 hth hoc h6 h7 h8 hE3 hall hhd hk0 g1 g2 g3 hrt hrf hμ ha H locs ls hP hS hl
    subst hμ
    obtain ⟨hy, w1, w2, -, w4⟩ := ev_mr_s h1 (Or.inl h2)
    obtain ⟨w2, w3⟩ := w2 h2
    obtain ⟨o1, o2, o3, o4, o5, o6, o7⟩ := ev_yo_t y hy
    obtain ⟨-, i2⟩ := IH y _ μ _ _ h6 hy
    have hlr : ev_lay r = (0, ev_yo y, (ev_lay r).2.2) := by rw [← h4, ← h5]
    have hr : r < 143 := ev_lay_lt hlr (by decide)
    have hci : ev_yo y < 7 := by
      have h9 : ∀ y, y < 172 → ev_kd y = 0 → ev_yo y < 7 := by decide +kernel
      exact h9 y hy h2
    have hyh : ev_yh y = [] := by
      have h9 : ∀ y, y < 172 → ev_kd y = 0 → ev_yh y = [] := by decide +kernel
      exact h9 y hy h2
    have hcw : ev_ws y = Cond.code (ev_yn y) (ev_yb y) (ev_yL y) (ev_yr y) :: ev_TB := by unfold ev_ws ev_cw; rw [hyh]; rfl
    have hpre : PreV s H (ev_yn y).cls (ad r) (va_Pc ((.ref r :: as).map (ev_cv ad)) (ev_WD base D ca ad μ)) (as.map (ev_cv ad)) := by
      refine ⟨ev_blind, ?_, ev_pre (as := .ref r :: as) hK hP (hDa μ) hST hS hbs⟩
      rw [o1]
      exact va_recv hK hP (ev_cl7 hci) (by rw [ev_wl_get hr, ev_en0 hlr])
    have hcall : CallW R s args (ev_cn oc) (ev_yn y).cls i (ev_yn y) (ev_yb y) (ev_yL y) (ev_yr y) (ev_ws y) (ev_rm d y) (ev_mc y) (6 * ev_mc y) (ev_np y) :=
      cwV (ev_np y) hts (ev_goodIn hy (pre := [.methodLink (ev_cn oc) i (ev_yn y), .instanceMethod (ev_yn y), .selects (ev_yn y).cls (ev_yn y) (ev_yn y), .initialized (ev_yn y).cls]) (fun w hw => by
        simp only [List.mem_cons, List.not_mem_nil, or_false] at hw
        rcases hw with rfl | rfl | rfl | rfl <;> assumption)) hcw rfl rfl ⟨rfl, o2, o3, o4⟩ (ev_rm_of hy hRm)
    have hstk : (as.reverse ++ Value.ref r :: st).map (ev_cv ad) = (as.map (ev_cv ad)).reverse ++ .ref (ad r) :: st.map (ev_cv ad) := ev_mapapp
    rw [hstk]
    have hroom : c0 + a + ev_mc y ≤ R.cells ∧ s0 + 6 * a + 6 * ev_mc y ≤ R.slots := ⟨by omega, by omega⟩
    refine ev_afterX (vx_runV ⟨hx, hb, hml, hown, hts⟩ (i2 hth) hcall hpre rfl (by rw [List.length_map]; exact h3) hl.1 rfl (lv_room (ev_rs8 h8)) hd hroom) hS (fun E2 ce q H1 locs1 hE hP1 hS1 hce hcv hcl => ?_) (fun h0 => by cases h0)
    cases hE
    subst hoc
    obtain ⟨hh, hfind, hhp⟩ : ∃ h, ex.2.2.find? (fun h => decide (h.1 ≤ pc) && decide (pc < h.2.1) && decide (h.2.2.2 = ev_ct E)) = some h ∧ h.2.2.1 = hp := by
      unfold ev_hd at hhd
      cases hq : ex.2.2.find? (fun h => decide (h.1 ≤ pc) && decide (pc < h.2.1) && decide (h.2.2.2 = ev_ct E)) with
      | none => rw [hq] at hhd; cases hhd
      | some h => rw [hq] at hhd; exact ⟨h, rfl, Option.some.inj hhd⟩
    obtain ⟨hpb, pre, suf, hsp, hnot⟩ := List.find?_eq_some_iff_append.mp hfind
    simp only [Bool.and_eq_true, decide_eq_true_eq] at hpb
    have htab := hTab (by rw [hsp]; simp)
    rw [hsp] at htab
    have hct := ev_hlinks E hE3
    have hsplit : c.exceptionTable.toList = tableOf pre ++ (⟨hh.1, hh.2.1, hh.2.2.1, hh.2.2.2⟩ : ExceptionTableEntry) :: tableOf suf := by rw [htab]; simp [tableOf]
    refine vx_catch (own := RL) (name := ev_ex E) hown (tableOf pre) ⟨hh.1, hh.2.1, hh.2.2.1, hh.2.2.2⟩ (tableOf suf) hsplit ?_ ?_ ?_ ?_ ?_ hce hcv hcl ?_
    · intro z hz
      obtain ⟨z0, hz0, rfl⟩ := List.mem_map.mp hz
      have hn := hnot z0 hz0
      have hz1 : z0 ∈ ex.2.2 := by rw [hsp]; exact List.mem_append_left _ hz0
      have ha1 := List.all_eq_true.mp hall z0 hz1
      simp only [Bool.or_eq_true, decide_eq_true_eq] at ha1
      by_cases hcv9 : z0.1 ≤ pc ∧ pc < z0.2.1
      · right
        have hne : z0.2.2.2 ≠ ev_ct E := by
          intro h9
          simp [hcv9.1, hcv9.2, h9] at hn
        obtain ⟨F, hF3, hF⟩ : ∃ F, F < 3 ∧ z0.2.2.2 = ev_ct F := by
          rcases ha1 with (h9 | h9) | h9
          · exact ⟨0, by decide, h9⟩
          · exact ⟨1, by decide, h9⟩
          · exact ⟨2, by decide, h9⟩
        have hFE : E ≠ F := fun h9 => hne (by rw [hF, h9])
        refine ⟨by show z0.2.2.2 ≠ 0; rw [hF]; exact (ev_hlinks F hF3).2, ev_ex F, ?_, hST.2.2.2.2.2 E F hE3 hF3 hFE⟩
        show (Cond.classLink RL z0.2.2.2 (ev_ex F)).before args s = true
        rw [hF]
        exact hts _ (ev_TBm (ev_hlinks F hF3).1 rfl)
      · left
        simp only [covers]
        simpa using hcv9
    · simp only [covers]
      simpa using hpb.1
    · show hh.2.2.2 ≠ 0
      rw [hpb.2]; exact hct.2
    · show (Cond.classLink RL hh.2.2.2 (ev_ex E)).before args s = true
      rw [hpb.2]
      exact hts _ (ev_TBm hct.1 rfl)
    · exact va_Nw.use rfl (hST.2.2.2.2.1 _ (ev_xw_cast hE3))
    · show W p l e R s m args below meth c H1 locs1 _ _ Q (F0 m hh.2.2.1 ls [.ref q])
      rw [hhp]
      refine lv_astore_n hx hb g1 rfl hl.2.1 (by rw [← hl.2.2]; exact hk0) rfl (fun ls2 _ => ?_)
      refine lv_iconst hx hb g2 rfl ?_
      have := hFin.1 _ (a + ev_mc y) ls2 H1 locs1 _ _ g3 hrt (vp_nar_int _) hrf h7 hP1 hS1
      rw [Nat.mul_add, ← Nat.add_assoc, ← Nat.add_assoc] at this
      exact this
  · unfold ev_c_catch ev_mP
    intro pc L st μ μ2 a i y r E hp as k0 n hd h1 h2 h3 h4 h5 hth hoc h6 h7 h8 hE3 hall hhd hk0 g1 g2 g3 hrt hrf hμ ha H locs ls hP hS hl
    subst hμ
    obtain ⟨hy, w1, w2, -, w4⟩ := ev_mr_s h1 (Or.inl h2)
    obtain ⟨w2, w3⟩ := w2 h2
    obtain ⟨o1, o2, o3, o4, o5, o6, o7⟩ := ev_yo_t y hy
    obtain ⟨-, i2⟩ := IH y _ μ _ _ h6 hy
    have hlr : ev_lay r = (0, ev_yo y, (ev_lay r).2.2) := by rw [← h4, ← h5]
    have hr : r < 143 := ev_lay_lt hlr (by decide)
    have hci : ev_yo y < 7 := by
      have h9 : ∀ y, y < 172 → ev_kd y = 0 → ev_yo y < 7 := by decide +kernel
      exact h9 y hy h2
    have hyh : ev_yh y = [] := by
      have h9 : ∀ y, y < 172 → ev_kd y = 0 → ev_yh y = [] := by decide +kernel
      exact h9 y hy h2
    have hcw : ev_ws y = Cond.code (ev_yn y) (ev_yb y) (ev_yL y) (ev_yr y) :: ev_TB := by unfold ev_ws ev_cw; rw [hyh]; rfl
    have hpre : PreV s H (ev_yn y).cls (ad r) (va_Pc ((.ref r :: as).map (ev_cv ad)) (ev_WD base D ca ad μ)) (as.map (ev_cv ad)) := by
      refine ⟨ev_blind, ?_, ev_pre (as := .ref r :: as) hK hP (hDa μ) hST hS hbs⟩
      rw [o1]
      exact va_recv hK hP (ev_cl7 hci) (by rw [ev_wl_get hr, ev_en0 hlr])
    have hcall : CallW R s args (ev_cn oc) (ev_yn y).cls i (ev_yn y) (ev_yb y) (ev_yL y) (ev_yr y) (ev_ws y) (ev_rm d y) (ev_mc y) (6 * ev_mc y) (ev_np y) :=
      cwV (ev_np y) hts (ev_goodIn hy (pre := [.methodLink (ev_cn oc) i (ev_yn y), .instanceMethod (ev_yn y), .selects (ev_yn y).cls (ev_yn y) (ev_yn y), .initialized (ev_yn y).cls]) (fun w hw => by
        simp only [List.mem_cons, List.not_mem_nil, or_false] at hw
        rcases hw with rfl | rfl | rfl | rfl <;> assumption)) hcw rfl rfl ⟨rfl, o2, o3, o4⟩ (ev_rm_of hy hRm)
    have hstk : (as.reverse ++ Value.ref r :: st).map (ev_cv ad) = (as.map (ev_cv ad)).reverse ++ .ref (ad r) :: st.map (ev_cv ad) := ev_mapapp
    rw [hstk]
    have hroom : c0 + a + ev_mc y ≤ R.cells ∧ s0 + 6 * a + 6 * ev_mc y ≤ R.slots := ⟨by omega, by omega⟩
    refine ev_afterX (vx_runV ⟨hx, hb, hml, hown, hts⟩ (i2 hth) hcall hpre rfl (by rw [List.length_map]; exact h3) hl.1 rfl (lv_room (ev_rs8 h8)) hd hroom) hS (fun E2 ce q H1 locs1 hE hP1 hS1 hce hcv hcl => ?_) (fun h0 => by cases h0)
    cases hE
    subst hoc
    obtain ⟨hh, hfind, hhp⟩ : ∃ h, ex.2.2.find? (fun h => decide (h.1 ≤ pc) && decide (pc < h.2.1) && decide (h.2.2.2 = ev_ct E)) = some h ∧ h.2.2.1 = hp := by
      unfold ev_hd at hhd
      cases hq : ex.2.2.find? (fun h => decide (h.1 ≤ pc) && decide (pc < h.2.1) && decide (h.2.2.2 = ev_ct E)) with
      | none => rw [hq] at hhd; cases hhd
      | some h => rw [hq] at hhd; exact ⟨h, rfl, Option.some.inj hhd⟩
    obtain ⟨hpb, pre, suf, hsp, hnot⟩ := List.find?_eq_some_iff_append.mp hfind
    simp only [Bool.and_eq_true, decide_eq_true_eq] at hpb
    have htab := hTab (by rw [hsp]; simp)
    rw [hsp] at htab
    have hct := ev_hlinks E hE3
    have hsplit : c.exceptionTable.toList = tableOf pre ++ (⟨hh.1, hh.2.1, hh.2.2.1, hh.2.2.2⟩ : ExceptionTableEntry) :: tableOf suf := by rw [htab]; simp [tableOf]
    refine vx_catch (own := RL) (name := ev_ex E) hown (tableOf pre) ⟨hh.1, hh.2.1, hh.2.2.1, hh.2.2.2⟩ (tableOf suf) hsplit ?_ ?_ ?_ ?_ ?_ hce hcv hcl ?_
    · intro z hz
      obtain ⟨z0, hz0, rfl⟩ := List.mem_map.mp hz
      have hn := hnot z0 hz0
      have hz1 : z0 ∈ ex.2.2 := by rw [hsp]; exact List.mem_append_left _ hz0
      have ha1 := List.all_eq_true.mp hall z0 hz1
      simp only [Bool.or_eq_true, decide_eq_true_eq] at ha1
      by_cases hcv9 : z0.1 ≤ pc ∧ pc < z0.2.1
      · right
        have hne : z0.2.2.2 ≠ ev_ct E := by
          intro h9
          simp [hcv9.1, hcv9.2, h9] at hn
        obtain ⟨F, hF3, hF⟩ : ∃ F, F < 3 ∧ z0.2.2.2 = ev_ct F := by
          rcases ha1 with (h9 | h9) | h9
          · exact ⟨0, by decide, h9⟩
          · exact ⟨1, by decide, h9⟩
          · exact ⟨2, by decide, h9⟩
        have hFE : E ≠ F := fun h9 => hne (by rw [hF, h9])
        refine ⟨by show z0.2.2.2 ≠ 0; rw [hF]; exact (ev_hlinks F hF3).2, ev_ex F, ?_, hST.2.2.2.2.2 E F hE3 hF3 hFE⟩
        show (Cond.classLink RL z0.2.2.2 (ev_ex F)).before args s = true
        rw [hF]
        exact hts _ (ev_TBm (ev_hlinks F hF3).1 rfl)
      · left
        simp only [covers]
        simpa using hcv9
    · simp only [covers]
      simpa using hpb.1
    · show hh.2.2.2 ≠ 0
      rw [hpb.2]; exact hct.2
    · show (Cond.classLink RL hh.2.2.2 (ev_ex E)).before args s = true
      rw [hpb.2]
      exact hts _ (ev_TBm hct.1 rfl)
    · exact va_Nw.use rfl (hST.2.2.2.2.1 _ (ev_xw_cast hE3))
    · show W p l e R s m args below meth c H1 locs1 _ _ Q (F0 m hh.2.2.1 ls [.ref q])
      rw [hhp]
      refine lv_astore hx hb g1 hl.2.1 (by rw [← hl.2.2]; exact hk0) rfl (fun ls2 _ => ?_)
      refine lv_iconst hx hb g2 rfl ?_
      have := hFin.1 _ (a + ev_mc y) ls2 H1 locs1 _ _ g3 hrt (vp_nar_int _) hrf h7 hP1 hS1
      rw [Nat.mul_add, ← Nat.add_assoc, ← Nat.add_assoc] at this
      exact this
  · unfold ev_c_ireturn ev_mP
    intro pc L μ a x ty hd h1 h2 h3 hμ h4 ha H locs ls hP hS hl
    subst hμ
    exact hFin.1 pc a ls H locs x ty hd h1 h2 h3 h4 hP hS
  · unfold ev_c_lreturn ev_mP
    intro pc L μ a x hd h1 h3 hμ h4 ha H locs ls hP hS hl
    subst hμ
    exact hFin.2.1 pc a ls H locs x hd h1 h3 h4 hP hS
  · unfold ev_c_dreturn ev_mP
    intro pc L μ a x hd h1 h3 hμ h4 ha H locs ls hP hS hl
    subst hμ
    exact hFin.2.2.1 pc a ls H locs x hd h1 h3 h4 hP hS
  · unfold ev_c_vreturn ev_mP
    intro pc L μ a hd h1 h3 hμ h4 ha H locs ls hP hS hl
    subst hμ
    exact hFin.2.2.2.1 pc a ls H locs hd h1 h3 h4 hP hS
  · unfold ev_c_throw ev_mP
    intro pc L μ a ik is ic E h1 h2 h3 h4 h5 h6 h7 h8 hμ ha H locs ls hP hS hl
    subst hμ
    exact hFin.2.2.2.2 pc a E ls H locs ⟨ik, is, ic, h1, h2, h6, Or.inl ⟨h3, h4, h5⟩⟩ h8 h7 hl.1 hP hS
  · unfold ev_c_throww ev_mP
    intro pc L μ a ik is ic E h1 h2 h3 h4 h5 h6 h7 h8 hμ ha H locs ls hP hS hl
    subst hμ
    exact hFin.2.2.2.2 pc a E ls H locs ⟨ik, is, ic, h1, h2, h6, Or.inr ⟨h3, h4, h5⟩⟩ h8 h7 hl.1 hP hS
end
section
/-! methods by their depth; their contracts -/
def ev_fl2 (as : List Value) : List Value := as.flatMap (fun v => if v.category = 2 then [v, .null] else [v])
def ev_ent (as : List Value) (n : Nat) : List Value := ev_fl2 as ++ List.replicate (n - (ev_fl2 as).length) .null
def ev_CALL : Nat → Nat → List Value → ev_M → ev_R → ev_M → Prop
  | 0 => fun _ _ _ _ _ => False
  | d + 1 => fun y as μ r μ2 => (ev_fl2 as).length ≤ ev_yL y ∧ ev_Ev (ev_CALL d) (ev_yo y) (ev_yb y) (ev_yr y) (ev_mc y) (0, fun _ => 0, ev_yh y) r μ2 0 (ev_ent as (ev_yL y)) [] μ 0
theorem ev_lv_nulls {ad : Nat → Nat} : ∀ {n i : Nat}, ev_lv ad i (List.replicate n .null) = []
  | 0, _ => rfl
  | n + 1, i => by
    rw [List.replicate_succ]
    unfold ev_lv
    exact ev_lv_nulls
theorem ev_lv_ent {ad : Nat → Nat} {n : Nat} : ∀ {as : List Value} {i : Nat}, ∀ q ∈ ev_lv ad i (ev_fl2 as ++ List.replicate n .null), q ∈ lv_args i (as.map (ev_cv ad))
  | [], i, q, h => by
    simp only [ev_fl2, List.flatMap_nil, List.nil_append] at h
    rw [ev_lv_nulls] at h
    cases h
  | v :: t, i, q, h => by
    have e : ev_fl2 (v :: t) = (if v.category = 2 then [v, .null] else [v]) ++ ev_fl2 t := by simp [ev_fl2]
    rw [e, List.append_assoc] at h
    simp only [List.map_cons, lv_args, ev_cvc]
    by_cases hc : v.category = 2
    · rw [if_pos hc] at h ⊢
      have hn : ev_nn v = true := by cases v <;> first | rfl | (simp [Value.category] at hc)
      simp only [List.cons_append, List.nil_append, ev_lv, hn, if_true] at h
      rcases List.mem_cons.mp h with rfl | h
      · exact List.mem_cons_self
      · refine List.mem_cons_of_mem _ (ev_lv_ent (n := n) q ?_)
        simpa [ev_nn] using h
    · rw [if_neg hc] at h ⊢
      simp only [List.cons_append, List.nil_append, ev_lv] at h
      by_cases hn : ev_nn v = true
      · rw [if_pos hn] at h
        rcases List.mem_cons.mp h with rfl | h
        · exact List.mem_cons_self
        · exact List.mem_cons_of_mem _ (ev_lv_ent (n := n) q h)
      · rw [if_neg hn] at h
        exact List.mem_cons_of_mem _ (ev_lv_ent (n := n) q h)
theorem ev_lgsl {ad : Nat → Nat} : ∀ {as : List Value}, (lg_sl (as.map (ev_cv ad))).length = (ev_fl2 as).length
  | [] => rfl
  | v :: t => by
    have ih := ev_lgsl (ad := ad) (as := t)
    simp only [lg_sl, ev_fl2, List.map_cons, List.flatMap_cons, List.length_append, ev_cvc] at ih ⊢
    rw [ih]
    by_cases hc : v.category = 2
    · rw [if_pos hc, if_pos hc]; rfl
    · rw [if_neg hc, if_neg hc]; rfl
theorem ev_lc_ent {ad : Nat → Nat} {as : List Value} {n : Nat} (h : (ev_fl2 as).length ≤ n) : ev_lc ad n ((lg_sl (as.map (ev_cv ad)) ++ List.replicate (n - (lg_sl (as.map (ev_cv ad))).length) Slot.unset).toArray) (ev_ent as n) := by
  have h1 := lv_entry (as.map (ev_cv ad)) (n := n) (by rw [ev_lgsl]; exact h)
  refine ⟨h1.1, ev_lv_sub h1 (fun q hq => ev_lv_ent q hq), ?_⟩
  unfold ev_ent
  rw [List.length_append, List.length_replicate]
  omega
theorem ev_ofWH {l : Launch} {y : MethodName} {ws ws' : List Cond} {rm : Room} {Pc : Array Value → State → Prop} {Qc : Array Value → State → Outcome → State → Prop} {mc ms : Nat} {free : Addr → Prop} {cc : ByteArray} {maxL : Nat} {ret : Option FieldType} {hh : List (Nat × Nat × Nat × Nat)}
    (hy : plainName y.cls = true) (hw : ws = Cond.codeWith y cc maxL ret hh :: ws')
    (body : ∀ p e s m args below meth c s₁, BodyLoose p l y (headSpec ws rm) cc maxL ret e s m args below meth c s₁ → c.maxLocals = maxL → Pc args s →
      W p l e (headSpec ws rm).room s m args below meth c s.heap [] 0 0 (MQ below Qc args s mc ms free) (entryFrame m args maxL)) : Met l y ws rm Pc Qc mc ms free := by
  refine MetFree.of_bodyS (code := cc) (maxLocals := maxL) (ret := ret) hy ?_ ?_
  · intro args s m h hn
    obtain ⟨m9, meth, c, hn9, h1, h2, h3, h4, -, h5, h6, -⟩ := Cond.codeWith_spec (atoms_spec (ws := ws) h _ (by rw [hw]; exact List.mem_cons_self))
    cases hn.symm.trans hn9
    exact ⟨meth, c, h1, h2, h3, h4, h5, h6⟩
  · intro p e s m args below meth c s₁ B hml hP _
    have hh0 : s₁.heap = s.heap := by rw [B.state]; rfl
    obtain ⟨t, a1, o, b1, b2, b3⟩ := body p e s m args below meth c s₁ B hml hP s₁ hh0 (Stand.of_body B)
    exact ⟨t, o, a1, b1, b2, ⟨b3.1, b3.2⟩⟩
theorem ev_tr_t : ∀ q ∈ ev_trT, q.2 < 3 ∧ (q.2 = 0 → q.1.1 = 56 ∧ q.1.2.2 = 60) ∧ (q.2 = 1 → q.1.1 = 63 ∧ q.1.2.2 = 67) ∧ (q.2 = 2 → q.1.1 = 82 ∧ q.1.2.2 = 86) := by decide +kernel
theorem ev_tr_s {oc ik is ic E : Nat} (h : ev_tr oc ik is ic = some E) : oc = 5 ∧ ((ik, is, ic), E) ∈ ev_trT := by
  unfold ev_tr at h
  by_cases h5 : oc = 5
  · rw [if_pos h5] at h
    exact ⟨h5, ev_lk h⟩
  · rw [if_neg h5] at h; cases h
theorem ev_clk : ∀ q ∈ ([(56, "java/lang/IndexOutOfBoundsException"), (63, "java/lang/IllegalArgumentException"), (82, "java/lang/IllegalStateException")] : List (Nat × String)), (Cond.classLink RX5 q.1 q.2) ∈ lw_tbl ∧ (Cond.initialized q.2) ∈ lw_tbl := by decide +kernel

theorem ev_xo0 : ∀ w ∈ (vx_atS RX5 60 "java/lang/IndexOutOfBoundsException" ["java/lang/RuntimeException", "java/lang/Exception"]).filter (fun w => !goodWord w), w ∈ ev_XW := by decide +kernel
theorem ev_xg0 : ∀ w ∈ Cond.classLink RX5 56 "java/lang/IndexOutOfBoundsException" :: Cond.initialized "java/lang/IndexOutOfBoundsException" :: vx_atS RX5 60 "java/lang/IndexOutOfBoundsException" ["java/lang/RuntimeException", "java/lang/Exception"], vx_ot w = true := by decide +kernel
theorem ev_xa0 {A : Nat → Prop} {ad : Nat → Nat} {s : State} {args : Array Value} {H : Heap} (hts : ∀ w ∈ ev_TB, w.before args s = true) (hST : ev_ST A ad s H) : ∀ w ∈ vx_atS RX5 60 "java/lang/IndexOutOfBoundsException" ["java/lang/RuntimeException", "java/lang/Exception"], w.before args s = true :=
  vx_hat (B := ev_XW) (fun w hw => hts w (ev_TBm (ev_x0 w hw) (List.mem_filter.mp hw).2)) ev_xo0 (fun w hw => by
    have h9 := hST.2.2.2.2.1 w hw
    have ho : ∀ w ∈ ev_XW, w.onTables = true := by decide +kernel
    exact va_Nw.use (ho w hw) h9)
theorem ev_xo1 : ∀ w ∈ (vx_atS RX5 67 "java/lang/IllegalArgumentException" ["java/lang/RuntimeException", "java/lang/Exception"]).filter (fun w => !goodWord w), w ∈ ev_XW := by decide +kernel
theorem ev_xg1 : ∀ w ∈ Cond.classLink RX5 63 "java/lang/IllegalArgumentException" :: Cond.initialized "java/lang/IllegalArgumentException" :: vx_atS RX5 67 "java/lang/IllegalArgumentException" ["java/lang/RuntimeException", "java/lang/Exception"], vx_ot w = true := by decide +kernel
theorem ev_xa1 {A : Nat → Prop} {ad : Nat → Nat} {s : State} {args : Array Value} {H : Heap} (hts : ∀ w ∈ ev_TB, w.before args s = true) (hST : ev_ST A ad s H) : ∀ w ∈ vx_atS RX5 67 "java/lang/IllegalArgumentException" ["java/lang/RuntimeException", "java/lang/Exception"], w.before args s = true :=
  vx_hat (B := ev_XW) (fun w hw => hts w (ev_TBm (ev_x1 w hw) (List.mem_filter.mp hw).2)) ev_xo1 (fun w hw => by
    have h9 := hST.2.2.2.2.1 w hw
    have ho : ∀ w ∈ ev_XW, w.onTables = true := by decide +kernel
    exact va_Nw.use (ho w hw) h9)
theorem ev_xo2 : ∀ w ∈ (vx_atS RX5 86 "java/lang/IllegalStateException" ["java/lang/RuntimeException", "java/lang/Exception"]).filter (fun w => !goodWord w), w ∈ ev_XW := by decide +kernel
theorem ev_xg2 : ∀ w ∈ Cond.classLink RX5 82 "java/lang/IllegalStateException" :: Cond.initialized "java/lang/IllegalStateException" :: vx_atS RX5 86 "java/lang/IllegalStateException" ["java/lang/RuntimeException", "java/lang/Exception"], vx_ot w = true := by decide +kernel
theorem ev_xa2 {A : Nat → Prop} {ad : Nat → Nat} {s : State} {args : Array Value} {H : Heap} (hts : ∀ w ∈ ev_TB, w.before args s = true) (hST : ev_ST A ad s H) : ∀ w ∈ vx_atS RX5 86 "java/lang/IllegalStateException" ["java/lang/RuntimeException", "java/lang/Exception"], w.before args s = true :=
  vx_hat (B := ev_XW) (fun w hw => hts w (ev_TBm (ev_x2 w hw) (List.mem_filter.mp hw).2)) ev_xo2 (fun w hw => by
    have h9 := hST.2.2.2.2.1 w hw
    have ho : ∀ w ∈ ev_XW, w.onTables = true := by decide +kernel
    exact va_Nw.use (ho w hw) h9)
section EvT
variable {p : Program} {l : Launch} {e : Env} {R : Room} {s : State} {m : MethodId} {args : Array Value} {below : List Frame} {meth : Method} {c : Code} {H : Heap} {locs : List Loc} {cells slots : Nat}
variable {cc : ByteArray} {pc : Nat} {ls : Array Slot} {D : va_G} {ca : Nat → ClassId} {ad : Nat → Nat} {μ2 : ev_M} {base oc : Nat} {Qc : Array Value → State → Outcome → State → Prop}
set_option maxHeartbeats 4000000 in
theorem ev_thr (hx : p.tables.exec = Jvm.exec) (hb : c.code = cc) (hflags : l.stackTraces = false) (hown : s.vm.findClass (ev_cn oc) = some m.cls) (hts : ∀ w ∈ ev_TB, w.before args s = true) (hST : ev_ST (ev_A base) ad s s.heap) (hP : va_P D vwCl (ev_wl ca ad μ2) H) (hS : va_S (ev_A base) s.heap H locs) (hsz : ls.size = c.maxLocals) (hno : ∀ x ∈ c.exceptionTable.toList, False)
    (hR : 10 ≤ R.frames ∧ 300 ≤ R.locals ∧ cells + 1 ≤ R.cells ∧ slots + 6 ≤ R.slots) (hlocks : meth.locks = false) {E mc ms : Nat} {r : ev_R} (hr : r.2 = E + 1) (hc : cells + 1 ≤ mc) (hs : slots + 6 ≤ ms) (h : ev_thq cc oc pc E) :
    W p l e R s m args below meth c H locs cells slots (vx_MQ below Qc (ev_XC base D ca ad r μ2) args s mc ms (ev_A base)) (F0 m pc ls []) := by
  obtain ⟨ik, is, ic, d0, d3, htr, hd⟩ := h
  obtain ⟨rfl, hmem⟩ := ev_tr_s htr
  obtain ⟨hE3, t0, t1, t2⟩ := ev_tr_t _ hmem
  dsimp only at hE3 t0 t1 t2
  obtain ⟨tx, sa, hstr⟩ := hST.2.2.2.1 _ hmem
  dsimp only at hstr
  have hU := hST.2.2.1.1
  have hN := hST.2.2.1.2
  have hxx : ∀ t : State, s.vm.Alike t.vm → H.size ≤ t.heap.size → (∀ q : Nat, q < H.size → t.heap[q]? = H[q]?) → ev_XC base D ca ad r μ2 (ev_ex E) s t := fun t _ h1 h2 =>
    ⟨E, hr, rfl, hP.kept (fun k q hk => h2 _ (vx_lt hP hk)), Nat.le_trans hS.1 h1, fun q g1 g2 => (h2 q (Nat.lt_of_lt_of_le g1 hS.1)).trans (hS.2.1 q g1 g2)⟩
  have hnm : ∀ n ∈ (["java/lang/RuntimeException", "java/lang/Exception"] : List String), Bundle.fit n = true := by decide +kernel
  rcases (show E = 0 ∨ E = 1 ∨ E = 2 by omega) with rfl | rfl | rfl
  · obtain ⟨rfl, rfl⟩ := t0 rfl
    have hk := ev_clk (56, "java/lang/IndexOutOfBoundsException") (by simp)
    rcases hd with ⟨d4, d6, d9⟩ | ⟨d4, d6, d9⟩
    · exact vx_throwS (own := RX5) (cls := "java/lang/IndexOutOfBoundsException") (names := ["java/lang/RuntimeException", "java/lang/Exception"]) hx hb hflags hown (by decide +kernel) hnm (hts _ (ev_TBm hk.1 rfl)) (hts _ (ev_TBm hk.2 rfl)) hstr (ev_xa0 hts hST) ev_xg0 hU hN hS hsz d0 d3 d4 d6 d9 (fun x hx9 => (hno x hx9).elim) (by show 2 + 3 < _; omega) (by show 0 + (13 * (2 + 1) + 43) ≤ _; omega) hR.2.2.1 hR.2.2.2 hlocks hxx hS.2.2 hc hs
    · exact vx_throwSW (own := RX5) (cls := "java/lang/IndexOutOfBoundsException") (names := ["java/lang/RuntimeException", "java/lang/Exception"]) hx hb hflags hown (by decide +kernel) hnm (hts _ (ev_TBm hk.1 rfl)) (hts _ (ev_TBm hk.2 rfl)) hstr (ev_xa0 hts hST) ev_xg0 hU hN hS hsz d0 d3 d4 d6 d9 (fun x hx9 => (hno x hx9).elim) (by show 2 + 3 < _; omega) (by show 0 + (13 * (2 + 1) + 43) ≤ _; omega) hR.2.2.1 hR.2.2.2 hlocks hxx hS.2.2 hc hs
  · obtain ⟨rfl, rfl⟩ := t1 rfl
    have hk := ev_clk (63, "java/lang/IllegalArgumentException") (by simp)
    rcases hd with ⟨d4, d6, d9⟩ | ⟨d4, d6, d9⟩
    · exact vx_throwS (own := RX5) (cls := "java/lang/IllegalArgumentException") (names := ["java/lang/RuntimeException", "java/lang/Exception"]) hx hb hflags hown (by decide +kernel) hnm (hts _ (ev_TBm hk.1 rfl)) (hts _ (ev_TBm hk.2 rfl)) hstr (ev_xa1 hts hST) ev_xg1 hU hN hS hsz d0 d3 d4 d6 d9 (fun x hx9 => (hno x hx9).elim) (by show 2 + 3 < _; omega) (by show 0 + (13 * (2 + 1) + 43) ≤ _; omega) hR.2.2.1 hR.2.2.2 hlocks hxx hS.2.2 hc hs
    · exact vx_throwSW (own := RX5) (cls := "java/lang/IllegalArgumentException") (names := ["java/lang/RuntimeException", "java/lang/Exception"]) hx hb hflags hown (by decide +kernel) hnm (hts _ (ev_TBm hk.1 rfl)) (hts _ (ev_TBm hk.2 rfl)) hstr (ev_xa1 hts hST) ev_xg1 hU hN hS hsz d0 d3 d4 d6 d9 (fun x hx9 => (hno x hx9).elim) (by show 2 + 3 < _; omega) (by show 0 + (13 * (2 + 1) + 43) ≤ _; omega) hR.2.2.1 hR.2.2.2 hlocks hxx hS.2.2 hc hs
  · obtain ⟨rfl, rfl⟩ := t2 rfl
    have hk := ev_clk (82, "java/lang/IllegalStateException") (by simp)
    rcases hd with ⟨d4, d6, d9⟩ | ⟨d4, d6, d9⟩
    · exact vx_throwS (own := RX5) (cls := "java/lang/IllegalStateException") (names := ["java/lang/RuntimeException", "java/lang/Exception"]) hx hb hflags hown (by decide +kernel) hnm (hts _ (ev_TBm hk.1 rfl)) (hts _ (ev_TBm hk.2 rfl)) hstr (ev_xa2 hts hST) ev_xg2 hU hN hS hsz d0 d3 d4 d6 d9 (fun x hx9 => (hno x hx9).elim) (by show 2 + 3 < _; omega) (by show 0 + (13 * (2 + 1) + 43) ≤ _; omega) hR.2.2.1 hR.2.2.2 hlocks hxx hS.2.2 hc hs
    · exact vx_throwSW (own := RX5) (cls := "java/lang/IllegalStateException") (names := ["java/lang/RuntimeException", "java/lang/Exception"]) hx hb hflags hown (by decide +kernel) hnm (hts _ (ev_TBm hk.1 rfl)) (hts _ (ev_TBm hk.2 rfl)) hstr (ev_xa2 hts hST) ev_xg2 hU hN hS hsz d0 d3 d4 d6 d9 (fun x hx9 => (hno x hx9).elim) (by show 2 + 3 < _; omega) (by show 0 + (13 * (2 + 1) + 43) ≤ _; omega) hR.2.2.1 hR.2.2.2 hlocks hxx hS.2.2 hc hs
end EvT
set_option maxHeartbeats 4000000 in
theorem ev_IHd {l : Launch} (hflags : l.stackTraces = false) {base : Nat} {D : va_G} {ca : Nat → ClassId} {ad : Nat → Nat} : ∀ d, ev_IH l base D ca ad d (ev_CALL d) := by
  intro d
  induction d with
  | zero => intro y as μ r μ2 h; exact h.elim
  | succ d IH =>
    intro y as μ r μ2 h hy
    obtain ⟨hlen, hE⟩ := h
    obtain ⟨o1, o2, o3, o4, o5, o6, o7⟩ := ev_yo_t y hy
    have hRm : ∀ {ws : List Cond}, d + 11 ≤ (headSpec ws (ev_rm (d + 1) y)).room.frames ∧ 60 * d + 360 ≤ (headSpec ws (ev_rm (d + 1) y)).room.locals := fun {ws} => ⟨by show _ ≤ d + 1 + 10; omega, by show _ ≤ 60 * (d + 1) + 300; omega⟩
    have hcap : ∀ {ws : List Cond}, 0 + ev_mc y ≤ (headSpec ws (ev_rm (d + 1) y)).room.cells ∧ 0 + 6 * ev_mc y ≤ (headSpec ws (ev_rm (d + 1) y)).room.slots := fun {ws} => ⟨by show _ ≤ ev_mc y; omega, by show _ ≤ 6 * ev_mc y; omega⟩
    refine ⟨fun hth hr0 => ?_, fun hth => ?_⟩
    · obtain ⟨v, r2⟩ := r
      dsimp only at hr0
      subst hr0
      have body : ∀ (p : Program) (e : Env) (s : State) (m : MethodId) (args : Array Value) (below : List Frame) (meth : Method) (c : Code) (s₁ : State), BodyLoose p l (ev_yn y) (headSpec (ev_ws y) (ev_rm (d + 1) y)) (ev_yb y) (ev_yL y) (ev_yr y) e s m args below meth c s₁ → c.maxLocals = ev_yL y → va_Pc (as.map (ev_cv ad)) (ev_WD base D ca ad μ) args s →
          W p l e (headSpec (ev_ws y) (ev_rm (d + 1) y)).room s m args below meth c s.heap [] 0 0 (MQ below (ev_Qn base D ca ad (v.map (ev_cv ad)) μ2) args s (ev_mc y) (6 * ev_mc y) (ev_A base)) (entryFrame m args (ev_yL y)) := by
        intro p e s m args below meth c s₁ B hml hv
        obtain ⟨rfl, hP, hK, hD0, hST, hbs⟩ := hv
        have hx := B.exec
        have hb := B.bytes
        have hr := B.returns
        have hlocks := B.notSynchronized
        have hts0 := atoms_spec (ws := ev_ws y) B.pre
        have hts : ∀ w ∈ ev_TB, w.before (as.map (ev_cv ad)).toArray s = true := fun w hw => hts0 w (List.mem_cons_of_mem _ hw)
        have hown : s.vm.findClass (ev_cn (ev_yo y)) = some m.cls := by rw [← o1]; exact findClass_of_methodNamed B.named
        have htab : ev_yh y ≠ [] → c.exceptionTable.toList = tableOf (ev_yh y) := by
          intro hne
          have hcw : ev_cw y = Cond.codeWith (ev_yn y) (ev_yb y) (ev_yL y) (ev_yr y) (ev_yh y) := by unfold ev_cw; rw [if_neg (by simpa using hne)]
          exact vx_table (x := ev_yn y) B (by rw [← hcw]; exact hts0 _ List.mem_cons_self)
        rw [lg_entry_eq]
        have hl := ev_lc_ent (ad := ad) hlen
        generalize (lg_sl (as.map (ev_cv ad)) ++ List.replicate (ev_yL y - (lg_sl (as.map (ev_cv ad))).length) Slot.unset).toArray = ls at hl ⊢
        have hFin : ev_Fin p l e (headSpec (ev_ws y) (ev_rm (d + 1) y)).room s m (as.map (ev_cv ad)).toArray below meth c base D ca ad (ev_yo y) (ev_yb y) (ev_yr y) (ev_mc y) (ev_yL y) 0 0 (v, 0) μ2 (MQ below (ev_Qn base D ca ad (v.map (ev_cv ad)) μ2) (as.map (ev_cv ad)).toArray s (ev_mc y) (6 * ev_mc y) (ev_A base)) := by
          refine ⟨?_, ?_, ?_, ?_, ?_⟩
          · intro pc a ls H locs x ty hd hrt hn hrf ha hP1 hS1
            cases hrf
            exact W.widen (k := ev_mc y) (n := 6 * ev_mc y) (by omega) (by omega) (W.zret hx hb (hr.trans hrt) hn (fun t ht _ => ⟨rfl, by rw [ht]; exact hP1, hS1.F ht⟩) hS1.2.2 hd hlocks)
          · intro pc a ls H locs x hd hrt hrf ha hP1 hS1
            cases hrf
            exact W.widen (k := ev_mc y) (n := 6 * ev_mc y) (by omega) (by omega) (W.lret hx hb (hr.trans hrt) (fun t ht _ => ⟨rfl, by rw [ht]; exact hP1, hS1.F ht⟩) hS1.2.2 hd hlocks)
          · intro pc a ls H locs x hd hrt hrf ha hP1 hS1
            cases hrf
            exact W.widen (k := ev_mc y) (n := 6 * ev_mc y) (by omega) (by omega) (W.dret hx hb (hr.trans hrt) (fun t ht _ => ⟨rfl, by rw [ht]; exact hP1, hS1.F ht⟩) hS1.2.2 hd hlocks)
          · intro pc a ls H locs hd hrt hrf ha hP1 hS1
            cases hrf
            exact W.widen (k := ev_mc y) (n := 6 * ev_mc y) (by omega) (by omega) (W.vret hx hb (hr.trans hrt) (fun t ht _ => ⟨rfl, by rw [ht]; exact hP1, hS1.F ht⟩) hS1.2.2 hd hlocks)
          · intro pc a E ls H locs _ hrf
            cases hrf
        have hsnd := ev_sound (d := d) (c0 := 0) (s0 := 0) (ex := (0, fun _ => 0, ev_yh y)) hx hb hml hown hts hK (ev_wl_D hD0) hbs hST hRm hcap (fun h => absurd h (Nat.lt_irrefl 0)) htab IH hFin
        exact hE _ hsnd (Nat.zero_le _) s.heap [] ls hP va_S.rf hl
      by_cases hyh : ev_yh y = []
      · have hcw : ev_ws y = Cond.code (ev_yn y) (ev_yb y) (ev_yL y) (ev_yr y) :: ev_TB := by unfold ev_ws ev_cw; rw [hyh]; rfl
        exact Met.ofW o5 hcw body
      · have hcw : ev_ws y = Cond.codeWith (ev_yn y) (ev_yb y) (ev_yL y) (ev_yr y) (ev_yh y) :: ev_TB := by
          unfold ev_ws ev_cw
          rw [if_neg (by simpa using hyh)]
        exact ev_ofWH o5 hcw body
    · obtain ⟨hyh, hmc, hkd⟩ := ev_th_yh y hy hth
      have hcw : ev_ws y = Cond.code (ev_yn y) (ev_yb y) (ev_yL y) (ev_yr y) :: ev_TB := by unfold ev_ws ev_cw; rw [hyh]; rfl
      refine vx_ofW o5 hcw ?_
      intro p e s m args below meth c s₁ B hml hno hv
      obtain ⟨rfl, hP, hK, hD0, hST, hbs⟩ := hv
      have hx := B.exec
      have hb := B.bytes
      have hr := B.returns
      have hlocks := B.notSynchronized
      have hts0 := atoms_spec (ws := ev_ws y) B.pre
      have hts : ∀ w ∈ ev_TB, w.before (as.map (ev_cv ad)).toArray s = true := fun w hw => hts0 w (List.mem_cons_of_mem _ hw)
      have hown : s.vm.findClass (ev_cn (ev_yo y)) = some m.cls := by rw [← o1]; exact findClass_of_methodNamed B.named
      rw [lg_entry_eq]
      have hl := ev_lc_ent (ad := ad) hlen
      generalize (lg_sl (as.map (ev_cv ad)) ++ List.replicate (ev_yL y - (lg_sl (as.map (ev_cv ad))).length) Slot.unset).toArray = ls at hl ⊢
      have hFin : ev_Fin p l e (headSpec (ev_ws y) (ev_rm (d + 1) y)).room s m (as.map (ev_cv ad)).toArray below meth c base D ca ad (ev_yo y) (ev_yb y) (ev_yr y) (ev_mc y) (ev_yL y) 0 0 r μ2 (vx_MQ below (ev_QX base D ca ad r μ2) (ev_XC base D ca ad r μ2) (as.map (ev_cv ad)).toArray s (ev_mc y) (6 * ev_mc y) (ev_A base)) := by
        refine ⟨?_, ?_, ?_, ?_, ?_⟩
        · intro pc a ls H locs x ty hd hrt hn hrf ha hP1 hS1
          subst hrf
          exact vx_ret (W.widen (k := ev_mc y) (n := 6 * ev_mc y) (by omega) (by omega) (W.zret hx hb (hr.trans hrt) hn (fun t ht _ => ⟨rfl, rfl, by rw [ht]; exact hP1, hS1.F ht⟩) hS1.2.2 hd hlocks))
        · intro pc a ls H locs x hd hrt hrf ha hP1 hS1
          subst hrf
          exact vx_ret (W.widen (k := ev_mc y) (n := 6 * ev_mc y) (by omega) (by omega) (W.lret hx hb (hr.trans hrt) (fun t ht _ => ⟨rfl, rfl, by rw [ht]; exact hP1, hS1.F ht⟩) hS1.2.2 hd hlocks))
        · intro pc a ls H locs x hd hrt hrf ha hP1 hS1
          subst hrf
          exact vx_ret (W.widen (k := ev_mc y) (n := 6 * ev_mc y) (by omega) (by omega) (W.dret hx hb (hr.trans hrt) (fun t ht _ => ⟨rfl, rfl, by rw [ht]; exact hP1, hS1.F ht⟩) hS1.2.2 hd hlocks))
        · intro pc a ls H locs hd hrt hrf ha hP1 hS1
          subst hrf
          exact vx_ret (W.widen (k := ev_mc y) (n := 6 * ev_mc y) (by omega) (by omega) (W.vret hx hb (hr.trans hrt) (fun t ht _ => ⟨rfl, rfl, by rw [ht]; exact hP1, hS1.F ht⟩) hS1.2.2 hd hlocks))
        · intro pc a E ls H locs hq hrf ha hsz hP1 hS1
          exact ev_thr hx hb hflags hown hts hST hP1 hS1 (hsz.trans hml.symm) hno ⟨by have := (hRm (ws := ev_ws y)).1; omega, by have := (hRm (ws := ev_ws y)).2; omega, by show 0 + a + 1 ≤ ev_mc y; omega, by show 0 + 6 * a + 6 ≤ 6 * ev_mc y; omega⟩ hlocks (by rw [hrf]) (by omega) (by omega) hq
      have hsnd := ev_sound (d := d) (c0 := 0) (s0 := 0) (ex := (0, fun _ => 0, ev_yh y)) hx hb hml hown hts hK (ev_wl_D hD0) hbs hST hRm hcap (fun h => absurd h (Nat.lt_irrefl 0)) (fun h => absurd hyh h) IH hFin
      exact hE _ hsnd (Nat.zero_le _) s.heap [] ls hP va_S.rf hl
end
