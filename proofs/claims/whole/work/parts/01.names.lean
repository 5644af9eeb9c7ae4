-- ===== PART A: goes FIRST, ahead of the names: the tables' words, and 'selects' of the private methods out of them =====
/-- a private method of a class that the tables say can be made, by its rows of tables_1 -/
def lw_okq (q : MethodName × Nat) : Prop := (q.1.cls ≠ "java/lang/invoke/MethodHandle" ∧ q.1.cls ≠ "java/lang/invoke/VarHandle") ∧ Cond.instantiable q.1.cls q.2 ∈ tables_1 ∧ Cond.privateMethod q.1 ∈ tables_1 ∧ Cond.instanceMethod q.1 ∈ tables_1
theorem lw_p0 : lw_okq (⟨"FrostHole", "scriptOf", "(I)LFrostHole$Script;"⟩, 10) := ⟨⟨by decide +kernel, by decide +kernel⟩, List.mem_of_getElem? (i := 16) (by decide +kernel), List.mem_of_getElem? (i := 271) (by decide +kernel), List.mem_of_getElem? (i := 272) (by decide +kernel)⟩
theorem lw_p1 : lw_okq (⟨"FrostHole", "reread", "(I)V"⟩, 10) := ⟨⟨by decide +kernel, by decide +kernel⟩, List.mem_of_getElem? (i := 16) (by decide +kernel), List.mem_of_getElem? (i := 283) (by decide +kernel), List.mem_of_getElem? (i := 284) (by decide +kernel)⟩
theorem lw_p2 : lw_okq (⟨"FrostHole$Pane", "empty", "()V"⟩, 6) := ⟨⟨by decide +kernel, by decide +kernel⟩, List.mem_of_getElem? (i := 24) (by decide +kernel), List.mem_of_getElem? (i := 291) (by decide +kernel), List.mem_of_getElem? (i := 292) (by decide +kernel)⟩
theorem lw_p3 : lw_okq (⟨"FrostHole$Pane", "readRows", "()I"⟩, 6) := ⟨⟨by decide +kernel, by decide +kernel⟩, List.mem_of_getElem? (i := 24) (by decide +kernel), List.mem_of_getElem? (i := 295) (by decide +kernel), List.mem_of_getElem? (i := 296) (by decide +kernel)⟩
theorem lw_p4 : lw_okq (⟨"FrostHole$Pane", "addCell", "(II)V"⟩, 6) := ⟨⟨by decide +kernel, by decide +kernel⟩, List.mem_of_getElem? (i := 24) (by decide +kernel), List.mem_of_getElem? (i := 303) (by decide +kernel), List.mem_of_getElem? (i := 304) (by decide +kernel)⟩
theorem lw_p5 : lw_okq (⟨"FrostHole", "found", "(I)I"⟩, 10) := ⟨⟨by decide +kernel, by decide +kernel⟩, List.mem_of_getElem? (i := 16) (by decide +kernel), List.mem_of_getElem? (i := 370) (by decide +kernel), List.mem_of_getElem? (i := 371) (by decide +kernel)⟩
theorem lw_p6 : lw_okq (⟨"FrostHole", "settled", "()LFrostHole$Morning;"⟩, 10) := ⟨⟨by decide +kernel, by decide +kernel⟩, List.mem_of_getElem? (i := 16) (by decide +kernel), List.mem_of_getElem? (i := 393) (by decide +kernel), List.mem_of_getElem? (i := 394) (by decide +kernel)⟩
theorem lw_p7 : lw_okq (⟨"FrostHole$Morning", "isQuicker", "(II)Z"⟩, 8) := ⟨⟨by decide +kernel, by decide +kernel⟩, List.mem_of_getElem? (i := 151) (by decide +kernel), List.mem_of_getElem? (i := 416) (by decide +kernel), List.mem_of_getElem? (i := 417) (by decide +kernel)⟩
theorem lw_p8 : lw_okq (⟨"FrostHole", "isStretch", "(I)Z"⟩, 10) := ⟨⟨by decide +kernel, by decide +kernel⟩, List.mem_of_getElem? (i := 16) (by decide +kernel), List.mem_of_getElem? (i := 456) (by decide +kernel), List.mem_of_getElem? (i := 457) (by decide +kernel)⟩
theorem lw_p9 : lw_okq (⟨"FrostHole$Morning", "changeAt", "(III)I"⟩, 8) := ⟨⟨by decide +kernel, by decide +kernel⟩, List.mem_of_getElem? (i := 151) (by decide +kernel), List.mem_of_getElem? (i := 486) (by decide +kernel), List.mem_of_getElem? (i := 487) (by decide +kernel)⟩
theorem lw_p10 : lw_okq (⟨"FrostHole", "sixteenthsTonight", "(IIII)I"⟩, 10) := ⟨⟨by decide +kernel, by decide +kernel⟩, List.mem_of_getElem? (i := 16) (by decide +kernel), List.mem_of_getElem? (i := 541) (by decide +kernel), List.mem_of_getElem? (i := 542) (by decide +kernel)⟩
theorem lw_p11 : lw_okq (⟨"FrostHole$Street", "plan", "()V"⟩, 5) := ⟨⟨by decide +kernel, by decide +kernel⟩, List.mem_of_getElem? (i := 186) (by decide +kernel), List.mem_of_getElem? (i := 557) (by decide +kernel), List.mem_of_getElem? (i := 558) (by decide +kernel)⟩
theorem lw_p12 : lw_okq (⟨"FrostHole$Street", "spentOn", "(I)I"⟩, 5) := ⟨⟨by decide +kernel, by decide +kernel⟩, List.mem_of_getElem? (i := 186) (by decide +kernel), List.mem_of_getElem? (i := 561) (by decide +kernel), List.mem_of_getElem? (i := 562) (by decide +kernel)⟩
theorem lw_p13 : lw_okq (⟨"FrostHole$Street", "bestNext", "(II)I"⟩, 5) := ⟨⟨by decide +kernel, by decide +kernel⟩, List.mem_of_getElem? (i := 186) (by decide +kernel), List.mem_of_getElem? (i := 565) (by decide +kernel), List.mem_of_getElem? (i := 566) (by decide +kernel)⟩
theorem lw_p14 : lw_okq (⟨"FrostHole$Street", "lateWith", "(III)I"⟩, 5) := ⟨⟨by decide +kernel, by decide +kernel⟩, List.mem_of_getElem? (i := 186) (by decide +kernel), List.mem_of_getElem? (i := 569) (by decide +kernel), List.mem_of_getElem? (i := 570) (by decide +kernel)⟩
theorem lw_p15 : lw_okq (⟨"FrostHole", "mixedWithTool", "(JI)J"⟩, 10) := ⟨⟨by decide +kernel, by decide +kernel⟩, List.mem_of_getElem? (i := 16) (by decide +kernel), List.mem_of_getElem? (i := 668) (by decide +kernel), List.mem_of_getElem? (i := 669) (by decide +kernel)⟩
def lw_privs_1 : List (MethodName × Nat) := [(⟨"FrostHole", "scriptOf", "(I)LFrostHole$Script;"⟩, 10), (⟨"FrostHole", "reread", "(I)V"⟩, 10), (⟨"FrostHole$Pane", "empty", "()V"⟩, 6), (⟨"FrostHole$Pane", "readRows", "()I"⟩, 6), (⟨"FrostHole$Pane", "addCell", "(II)V"⟩, 6), (⟨"FrostHole", "found", "(I)I"⟩, 10), (⟨"FrostHole", "settled", "()LFrostHole$Morning;"⟩, 10), (⟨"FrostHole$Morning", "isQuicker", "(II)Z"⟩, 8), (⟨"FrostHole", "isStretch", "(I)Z"⟩, 10), (⟨"FrostHole$Morning", "changeAt", "(III)I"⟩, 8), (⟨"FrostHole", "sixteenthsTonight", "(IIII)I"⟩, 10), (⟨"FrostHole$Street", "plan", "()V"⟩, 5), (⟨"FrostHole$Street", "spentOn", "(I)I"⟩, 5), (⟨"FrostHole$Street", "bestNext", "(II)I"⟩, 5), (⟨"FrostHole$Street", "lateWith", "(III)I"⟩, 5), (⟨"FrostHole", "mixedWithTool", "(JI)J"⟩, 10)]
theorem lw_r1 : ∀ q ∈ lw_privs_1, lw_okq q := List.forall_mem_cons.mpr ⟨lw_p0, List.forall_mem_cons.mpr ⟨lw_p1, List.forall_mem_cons.mpr ⟨lw_p2, List.forall_mem_cons.mpr ⟨lw_p3, List.forall_mem_cons.mpr ⟨lw_p4, List.forall_mem_cons.mpr ⟨lw_p5, List.forall_mem_cons.mpr ⟨lw_p6, List.forall_mem_cons.mpr ⟨lw_p7, List.forall_mem_cons.mpr ⟨lw_p8, List.forall_mem_cons.mpr ⟨lw_p9, List.forall_mem_cons.mpr ⟨lw_p10, List.forall_mem_cons.mpr ⟨lw_p11, List.forall_mem_cons.mpr ⟨lw_p12, List.forall_mem_cons.mpr ⟨lw_p13, List.forall_mem_cons.mpr ⟨lw_p14, List.forall_mem_cons.mpr ⟨lw_p15, fun _ h => absurd h List.not_mem_nil⟩⟩⟩⟩⟩⟩⟩⟩⟩⟩⟩⟩⟩⟩⟩⟩
theorem lw_p16 : lw_okq (⟨"FrostHoleModel", "met", "(I)I"⟩, 31) := ⟨⟨by decide +kernel, by decide +kernel⟩, List.mem_of_getElem? (i := 684) (by decide +kernel), List.mem_of_getElem? (i := 797) (by decide +kernel), List.mem_of_getElem? (i := 798) (by decide +kernel)⟩
theorem lw_p17 : lw_okq (⟨"FrostHoleModel", "lacks", "(III)I"⟩, 31) := ⟨⟨by decide +kernel, by decide +kernel⟩, List.mem_of_getElem? (i := 684) (by decide +kernel), List.mem_of_getElem? (i := 809) (by decide +kernel), List.mem_of_getElem? (i := 810) (by decide +kernel)⟩
theorem lw_p18 : lw_okq (⟨"FrostHoleModel", "readsPane", "()I"⟩, 31) := ⟨⟨by decide +kernel, by decide +kernel⟩, List.mem_of_getElem? (i := 684) (by decide +kernel), List.mem_of_getElem? (i := 845) (by decide +kernel), List.mem_of_getElem? (i := 846) (by decide +kernel)⟩
theorem lw_p19 : lw_okq (⟨"FrostHoleModel", "clears", "()V"⟩, 31) := ⟨⟨by decide +kernel, by decide +kernel⟩, List.mem_of_getElem? (i := 684) (by decide +kernel), List.mem_of_getElem? (i := 849) (by decide +kernel), List.mem_of_getElem? (i := 850) (by decide +kernel)⟩
theorem lw_p20 : lw_okq (⟨"FrostHoleModel", "readsRow", "()Z"⟩, 31) := ⟨⟨by decide +kernel, by decide +kernel⟩, List.mem_of_getElem? (i := 684) (by decide +kernel), List.mem_of_getElem? (i := 853) (by decide +kernel), List.mem_of_getElem? (i := 854) (by decide +kernel)⟩
theorem lw_p21 : lw_okq (⟨"FrostHoleModel", "readsRoad", "()I"⟩, 31) := ⟨⟨by decide +kernel, by decide +kernel⟩, List.mem_of_getElem? (i := 684) (by decide +kernel), List.mem_of_getElem? (i := 858) (by decide +kernel), List.mem_of_getElem? (i := 859) (by decide +kernel)⟩
theorem lw_p22 : lw_okq (⟨"FrostHoleModel", "scrapesAll", "()V"⟩, 31) := ⟨⟨by decide +kernel, by decide +kernel⟩, List.mem_of_getElem? (i := 684) (by decide +kernel), List.mem_of_getElem? (i := 900) (by decide +kernel), List.mem_of_getElem? (i := 901) (by decide +kernel)⟩
theorem lw_p23 : lw_okq (⟨"FrostHoleModel", "scrapes", "(I)V"⟩, 31) := ⟨⟨by decide +kernel, by decide +kernel⟩, List.mem_of_getElem? (i := 684) (by decide +kernel), List.mem_of_getElem? (i := 904) (by decide +kernel), List.mem_of_getElem? (i := 905) (by decide +kernel)⟩
theorem lw_p24 : lw_okq (⟨"FrostHoleModel", "stateOf", "(II)I"⟩, 31) := ⟨⟨by decide +kernel, by decide +kernel⟩, List.mem_of_getElem? (i := 684) (by decide +kernel), List.mem_of_getElem? (i := 916) (by decide +kernel), List.mem_of_getElem? (i := 917) (by decide +kernel)⟩
theorem lw_p25 : lw_okq (⟨"FrostHoleModel", "riskOfRoad", "()I"⟩, 31) := ⟨⟨by decide +kernel, by decide +kernel⟩, List.mem_of_getElem? (i := 684) (by decide +kernel), List.mem_of_getElem? (i := 920) (by decide +kernel), List.mem_of_getElem? (i := 921) (by decide +kernel)⟩
theorem lw_p26 : lw_okq (⟨"FrostHoleModel", "riskOf", "(I)I"⟩, 31) := ⟨⟨by decide +kernel, by decide +kernel⟩, List.mem_of_getElem? (i := 684) (by decide +kernel), List.mem_of_getElem? (i := 924) (by decide +kernel), List.mem_of_getElem? (i := 925) (by decide +kernel)⟩
theorem lw_p27 : lw_okq (⟨"FrostHoleModel", "clear", "()I"⟩, 31) := ⟨⟨by decide +kernel, by decide +kernel⟩, List.mem_of_getElem? (i := 684) (by decide +kernel), List.mem_of_getElem? (i := 928) (by decide +kernel), List.mem_of_getElem? (i := 929) (by decide +kernel)⟩
theorem lw_p28 : lw_okq (⟨"FrostHoleModel", "allOf", "(I)I"⟩, 31) := ⟨⟨by decide +kernel, by decide +kernel⟩, List.mem_of_getElem? (i := 684) (by decide +kernel), List.mem_of_getElem? (i := 944) (by decide +kernel), List.mem_of_getElem? (i := 945) (by decide +kernel)⟩
theorem lw_p29 : lw_okq (⟨"FrostHoleModel", "firstOf", "(II)I"⟩, 31) := ⟨⟨by decide +kernel, by decide +kernel⟩, List.mem_of_getElem? (i := 684) (by decide +kernel), List.mem_of_getElem? (i := 953) (by decide +kernel), List.mem_of_getElem? (i := 954) (by decide +kernel)⟩
theorem lw_p30 : lw_okq (⟨"FrostHoleModel", "findFirst", "(I)I"⟩, 31) := ⟨⟨by decide +kernel, by decide +kernel⟩, List.mem_of_getElem? (i := 684) (by decide +kernel), List.mem_of_getElem? (i := 957) (by decide +kernel), List.mem_of_getElem? (i := 958) (by decide +kernel)⟩
theorem lw_p31 : lw_okq (⟨"FrostHoleModel", "findParts", "()V"⟩, 31) := ⟨⟨by decide +kernel, by decide +kernel⟩, List.mem_of_getElem? (i := 684) (by decide +kernel), List.mem_of_getElem? (i := 961) (by decide +kernel), List.mem_of_getElem? (i := 962) (by decide +kernel)⟩
def lw_privs_2 : List (MethodName × Nat) := [(⟨"FrostHoleModel", "met", "(I)I"⟩, 31), (⟨"FrostHoleModel", "lacks", "(III)I"⟩, 31), (⟨"FrostHoleModel", "readsPane", "()I"⟩, 31), (⟨"FrostHoleModel", "clears", "()V"⟩, 31), (⟨"FrostHoleModel", "readsRow", "()Z"⟩, 31), (⟨"FrostHoleModel", "readsRoad", "()I"⟩, 31), (⟨"FrostHoleModel", "scrapesAll", "()V"⟩, 31), (⟨"FrostHoleModel", "scrapes", "(I)V"⟩, 31), (⟨"FrostHoleModel", "stateOf", "(II)I"⟩, 31), (⟨"FrostHoleModel", "riskOfRoad", "()I"⟩, 31), (⟨"FrostHoleModel", "riskOf", "(I)I"⟩, 31), (⟨"FrostHoleModel", "clear", "()I"⟩, 31), (⟨"FrostHoleModel", "allOf", "(I)I"⟩, 31), (⟨"FrostHoleModel", "firstOf", "(II)I"⟩, 31), (⟨"FrostHoleModel", "findFirst", "(I)I"⟩, 31), (⟨"FrostHoleModel", "findParts", "()V"⟩, 31)]
theorem lw_r2 : ∀ q ∈ lw_privs_2, lw_okq q := List.forall_mem_cons.mpr ⟨lw_p16, List.forall_mem_cons.mpr ⟨lw_p17, List.forall_mem_cons.mpr ⟨lw_p18, List.forall_mem_cons.mpr ⟨lw_p19, List.forall_mem_cons.mpr ⟨lw_p20, List.forall_mem_cons.mpr ⟨lw_p21, List.forall_mem_cons.mpr ⟨lw_p22, List.forall_mem_cons.mpr ⟨lw_p23, List.forall_mem_cons.mpr ⟨lw_p24, List.forall_mem_cons.mpr ⟨lw_p25, List.forall_mem_cons.mpr ⟨lw_p26, List.forall_mem_cons.mpr ⟨lw_p27, List.forall_mem_cons.mpr ⟨lw_p28, List.forall_mem_cons.mpr ⟨lw_p29, List.forall_mem_cons.mpr ⟨lw_p30, List.forall_mem_cons.mpr ⟨lw_p31, fun _ h => absurd h List.not_mem_nil⟩⟩⟩⟩⟩⟩⟩⟩⟩⟩⟩⟩⟩⟩⟩⟩
theorem lw_p32 : lw_okq (⟨"FrostHoleModel", "stopOf", "(IIII)I"⟩, 31) := ⟨⟨by decide +kernel, by decide +kernel⟩, List.mem_of_getElem? (i := 684) (by decide +kernel), List.mem_of_getElem? (i := 972) (by decide +kernel), List.mem_of_getElem? (i := 973) (by decide +kernel)⟩
theorem lw_p33 : lw_okq (⟨"FrostHoleModel", "warmOf", "(III)I"⟩, 31) := ⟨⟨by decide +kernel, by decide +kernel⟩, List.mem_of_getElem? (i := 684) (by decide +kernel), List.mem_of_getElem? (i := 983) (by decide +kernel), List.mem_of_getElem? (i := 984) (by decide +kernel)⟩
theorem lw_p34 : lw_okq (⟨"FrostHoleModel", "thickest", "(III)I"⟩, 31) := ⟨⟨by decide +kernel, by decide +kernel⟩, List.mem_of_getElem? (i := 684) (by decide +kernel), List.mem_of_getElem? (i := 987) (by decide +kernel), List.mem_of_getElem? (i := 988) (by decide +kernel)⟩
theorem lw_p35 : lw_okq (⟨"FrostHoleModel", "meltsOf", "(II)I"⟩, 31) := ⟨⟨by decide +kernel, by decide +kernel⟩, List.mem_of_getElem? (i := 684) (by decide +kernel), List.mem_of_getElem? (i := 1000) (by decide +kernel), List.mem_of_getElem? (i := 1001) (by decide +kernel)⟩
theorem lw_p36 : lw_okq (⟨"FrostHoleModel", "tonightBy", "(IIII)I"⟩, 31) := ⟨⟨by decide +kernel, by decide +kernel⟩, List.mem_of_getElem? (i := 684) (by decide +kernel), List.mem_of_getElem? (i := 1030) (by decide +kernel), List.mem_of_getElem? (i := 1031) (by decide +kernel)⟩
theorem lw_p37 : lw_okq (⟨"FrostHoleModel", "lentOf", "(I)I"⟩, 31) := ⟨⟨by decide +kernel, by decide +kernel⟩, List.mem_of_getElem? (i := 684) (by decide +kernel), List.mem_of_getElem? (i := 1059) (by decide +kernel), List.mem_of_getElem? (i := 1060) (by decide +kernel)⟩
theorem lw_p38 : lw_okq (⟨"FrostHoleModel", "findRow", "()I"⟩, 31) := ⟨⟨by decide +kernel, by decide +kernel⟩, List.mem_of_getElem? (i := 684) (by decide +kernel), List.mem_of_getElem? (i := 1063) (by decide +kernel), List.mem_of_getElem? (i := 1064) (by decide +kernel)⟩
theorem lw_p39 : lw_okq (⟨"FrostHoleModel", "lays", "(I)V"⟩, 31) := ⟨⟨by decide +kernel, by decide +kernel⟩, List.mem_of_getElem? (i := 684) (by decide +kernel), List.mem_of_getElem? (i := 1067) (by decide +kernel), List.mem_of_getElem? (i := 1068) (by decide +kernel)⟩
theorem lw_p40 : lw_okq (⟨"FrostHoleModel", "late", "()I"⟩, 31) := ⟨⟨by decide +kernel, by decide +kernel⟩, List.mem_of_getElem? (i := 684) (by decide +kernel), List.mem_of_getElem? (i := 1071) (by decide +kernel), List.mem_of_getElem? (i := 1072) (by decide +kernel)⟩
theorem lw_p41 : lw_okq (⟨"FrostHoleModel", "facedNow", "()I"⟩, 31) := ⟨⟨by decide +kernel, by decide +kernel⟩, List.mem_of_getElem? (i := 684) (by decide +kernel), List.mem_of_getElem? (i := 1079) (by decide +kernel), List.mem_of_getElem? (i := 1080) (by decide +kernel)⟩
theorem lw_p42 : lw_okq (⟨"FrostHoleModel", "bendOf", "(III)I"⟩, 31) := ⟨⟨by decide +kernel, by decide +kernel⟩, List.mem_of_getElem? (i := 684) (by decide +kernel), List.mem_of_getElem? (i := 1088) (by decide +kernel), List.mem_of_getElem? (i := 1089) (by decide +kernel)⟩
def lw_privs_3 : List (MethodName × Nat) := [(⟨"FrostHoleModel", "stopOf", "(IIII)I"⟩, 31), (⟨"FrostHoleModel", "warmOf", "(III)I"⟩, 31), (⟨"FrostHoleModel", "thickest", "(III)I"⟩, 31), (⟨"FrostHoleModel", "meltsOf", "(II)I"⟩, 31), (⟨"FrostHoleModel", "tonightBy", "(IIII)I"⟩, 31), (⟨"FrostHoleModel", "lentOf", "(I)I"⟩, 31), (⟨"FrostHoleModel", "findRow", "()I"⟩, 31), (⟨"FrostHoleModel", "lays", "(I)V"⟩, 31), (⟨"FrostHoleModel", "late", "()I"⟩, 31), (⟨"FrostHoleModel", "facedNow", "()I"⟩, 31), (⟨"FrostHoleModel", "bendOf", "(III)I"⟩, 31)]
theorem lw_r3 : ∀ q ∈ lw_privs_3, lw_okq q := List.forall_mem_cons.mpr ⟨lw_p32, List.forall_mem_cons.mpr ⟨lw_p33, List.forall_mem_cons.mpr ⟨lw_p34, List.forall_mem_cons.mpr ⟨lw_p35, List.forall_mem_cons.mpr ⟨lw_p36, List.forall_mem_cons.mpr ⟨lw_p37, List.forall_mem_cons.mpr ⟨lw_p38, List.forall_mem_cons.mpr ⟨lw_p39, List.forall_mem_cons.mpr ⟨lw_p40, List.forall_mem_cons.mpr ⟨lw_p41, List.forall_mem_cons.mpr ⟨lw_p42, fun _ h => absurd h List.not_mem_nil⟩⟩⟩⟩⟩⟩⟩⟩⟩⟩⟩
def lw_privs : List (MethodName × Nat) := lw_privs_1 ++ (lw_privs_2 ++ (lw_privs_3))
def lw_tbl : List Cond := k2_sels lw_privs ++ tables_1
theorem lw_privs_ok : ∀ q ∈ lw_privs, lw_okq q := by
  show ∀ q ∈ lw_privs_1 ++ (lw_privs_2 ++ (lw_privs_3)), lw_okq q
  exact List.forall_mem_append.mpr ⟨lw_r1, List.forall_mem_append.mpr ⟨lw_r2, lw_r3⟩⟩
def RX0 : String := "FrostHole$Kit"
def TX0 : u_T := fun k => match k with
  | 0 => ("FrostHole$Kit", "seconds", "[I", true)
  | _ => ("FrostHole$Kit", "holds", "[I", true)
def tyX0 : Nat → FieldType := fun k => match k with
  | 0 => .array .int
  | _ => .array .int
abbrev wsX00 : List Cond := u_ws RX0 TX0 2
theorem nmX0 : ∀ a, a < 2 → ∀ b, b < 2 → a ≠ b → (TX0 a).2.1 ≠ (TX0 b).2.1 := by decide +kernel
theorem tyX0_ok : ∀ k, k < 2 → parseFieldDescriptor (TX0 k).2.2.1 = some (tyX0 k) := by decide +kernel
abbrev cX0_init : ByteArray := prog_2_method_1_code
def yX0_init : MethodName := ⟨RX0, "<init>", "()V"⟩
def RX1 : String := "FrostHole$Morning"
def TX1 : u_T := fun k => match k with
  | 0 => ("FrostHole$Morning", "took", "[I", true)
  | 1 => ("FrostHole$Morning", "thickness", "[I", true)
  | 2 => ("FrostHole$Morning", "still", "[I", true)
  | 3 => ("FrostHole$Morning", "share", "[I", true)
  | 4 => ("FrostHole$Morning", "rank", "[I", true)
  | 5 => ("FrostHole$Morning", "cellsThick", "[I", true)
  | 6 => ("FrostHole$Morning", "ranked", "I", false)
  | _ => ("FrostHole$Morning", "frost", "I", false)
def tyX1 : Nat → FieldType := fun k => match k with
  | 0 => .array .int
  | 1 => .array .int
  | 2 => .array .int
  | 3 => .array .int
  | 4 => .array .int
  | 5 => .array .int
  | 6 => .int
  | _ => .int
abbrev wsX10 : List Cond := u_ws RX1 TX1 8
theorem nmX1 : ∀ a, a < 8 → ∀ b, b < 8 → a ≠ b → (TX1 a).2.1 ≠ (TX1 b).2.1 := by decide +kernel
theorem tyX1_ok : ∀ k, k < 8 → parseFieldDescriptor (TX1 k).2.2.1 = some (tyX1 k) := by decide +kernel
abbrev cX1_init : ByteArray := prog_3_method_1_code
def yX1_init : MethodName := ⟨RX1, "<init>", "()V"⟩
abbrev cX1_scrape : ByteArray := prog_3_method_2_code
def yX1_scrape : MethodName := ⟨RX1, "scrape", "(LFrostHole$Pane;LFrostHole$Kit;LFrostHole$Strokes;)V"⟩
abbrev cX1_weigh : ByteArray := prog_3_method_3_code
def yX1_weigh : MethodName := ⟨RX1, "weigh", "(LFrostHole$Road;LFrostHole$Views;)V"⟩
abbrev cX1_order : ByteArray := prog_3_method_4_code
def yX1_order : MethodName := ⟨RX1, "order", "()V"⟩
abbrev cX1_isQuicker : ByteArray := prog_3_method_5_code
def yX1_isQuicker : MethodName := ⟨RX1, "isQuicker", "(II)Z"⟩
abbrev cX1_firstNotDone : ByteArray := prog_3_method_6_code
def yX1_firstNotDone : MethodName := ⟨RX1, "firstNotDone", "(I)I"⟩
abbrev cX1_doneBehind : ByteArray := prog_3_method_7_code
def yX1_doneBehind : MethodName := ⟨RX1, "doneBehind", "(I)I"⟩
abbrev cX1_clearedBehind : ByteArray := prog_3_method_8_code
def yX1_clearedBehind : MethodName := ⟨RX1, "clearedBehind", "(IILFrostHole$Strokes;)Z"⟩
abbrev cX1_secondsBehind : ByteArray := prog_3_method_9_code
def yX1_secondsBehind : MethodName := ⟨RX1, "secondsBehind", "(ILFrostHole$Strokes;LFrostHole$Kit;)I"⟩
abbrev cX1_riskBehind : ByteArray := prog_3_method_10_code
def yX1_riskBehind : MethodName := ⟨RX1, "riskBehind", "(ILFrostHole$Strokes;LFrostHole$Pane;)I"⟩
abbrev cX1_riskOfKind : ByteArray := prog_3_method_11_code
def yX1_riskOfKind : MethodName := ⟨RX1, "riskOfKind", "(ILFrostHole$Views;)I"⟩
abbrev cX1_cheapestStop : ByteArray := prog_3_method_12_code
def yX1_cheapestStop : MethodName := ⟨RX1, "cheapestStop", "(II)I"⟩
abbrev cX1_change : ByteArray := prog_3_method_13_code
def yX1_change : MethodName := ⟨RX1, "change", "(III)I"⟩
abbrev cX1_changeAt : ByteArray := prog_3_method_14_code
def yX1_changeAt : MethodName := ⟨RX1, "changeAt", "(III)I"⟩
abbrev cX1_thickest : ByteArray := prog_3_method_15_code
def yX1_thickest : MethodName := ⟨RX1, "thickest", "()I"⟩
abbrev cX1_clearWithBoth : ByteArray := prog_3_method_16_code
def yX1_clearWithBoth : MethodName := ⟨RX1, "clearWithBoth", "(II)I"⟩
abbrev cX1_clearedByCups : ByteArray := prog_3_method_17_code
def yX1_clearedByCups : MethodName := ⟨RX1, "clearedByCups", "(II)I"⟩
def RX2 : String := "FrostHole$Pane"
def TX2 : u_T := fun k => match k with
  | 0 => ("FrostHole$Pane", "script", "LFrostHole$Script;", true)
  | 1 => ("FrostHole$Pane", "told", "[I", true)
  | 2 => ("FrostHole$Pane", "fault", "I", false)
  | 3 => ("FrostHole$Pane", "cells", "I", false)
  | 4 => ("FrostHole$Pane", "frost", "I", false)
  | _ => ("FrostHole$Pane", "clear", "I", false)
def tyX2 : Nat → FieldType := fun k => match k with
  | 0 => .object "FrostHole$Script"
  | 1 => .array .int
  | 2 => .int
  | 3 => .int
  | 4 => .int
  | _ => .int
abbrev wsX20 : List Cond := u_ws RX2 TX2 6
theorem nmX2 : ∀ a, a < 6 → ∀ b, b < 6 → a ≠ b → (TX2 a).2.1 ≠ (TX2 b).2.1 := by decide +kernel
theorem tyX2_ok : ∀ k, k < 6 → parseFieldDescriptor (TX2 k).2.2.1 = some (tyX2 k) := by decide +kernel
abbrev cX2_init : ByteArray := prog_4_method_1_code
def yX2_init : MethodName := ⟨RX2, "<init>", "()V"⟩
abbrev cX2_reread : ByteArray := prog_4_method_2_code
def yX2_reread : MethodName := ⟨RX2, "reread", "()V"⟩
abbrev cX2_empty : ByteArray := prog_4_method_3_code
def yX2_empty : MethodName := ⟨RX2, "empty", "()V"⟩
abbrev cX2_readRows : ByteArray := prog_4_method_4_code
def yX2_readRows : MethodName := ⟨RX2, "readRows", "()I"⟩
abbrev cX2_mayEnd : ByteArray := prog_4_method_5_code
def yX2_mayEnd : MethodName := ⟨RX2, "mayEnd", "(III)Z"⟩
abbrev cX2_addCell : ByteArray := prog_4_method_6_code
def yX2_addCell : MethodName := ⟨RX2, "addCell", "(II)V"⟩
abbrev cX2_stepsUp : ByteArray := prog_4_method_7_code
def yX2_stepsUp : MethodName := ⟨RX2, "stepsUp", "(I)Z"⟩
def RX3 : String := "FrostHole$Road"
def TX3 : u_T := fun k => match k with
  | 0 => ("FrostHole$Road", "script", "LFrostHole$Script;", true)
  | 1 => ("FrostHole$Road", "many", "[I", true)
  | 2 => ("FrostHole$Road", "fault", "I", false)
  | _ => ("FrostHole$Road", "stretches", "I", false)
def tyX3 : Nat → FieldType := fun k => match k with
  | 0 => .object "FrostHole$Script"
  | 1 => .array .int
  | 2 => .int
  | _ => .int
abbrev wsX30 : List Cond := u_ws RX3 TX3 4
theorem nmX3 : ∀ a, a < 4 → ∀ b, b < 4 → a ≠ b → (TX3 a).2.1 ≠ (TX3 b).2.1 := by decide +kernel
theorem tyX3_ok : ∀ k, k < 4 → parseFieldDescriptor (TX3 k).2.2.1 = some (tyX3 k) := by decide +kernel
abbrev cX3_init : ByteArray := prog_5_method_1_code
def yX3_init : MethodName := ⟨RX3, "<init>", "()V"⟩
abbrev cX3_reread : ByteArray := prog_5_method_2_code
def yX3_reread : MethodName := ⟨RX3, "reread", "()V"⟩
abbrev cX3_kindAt : ByteArray := prog_5_method_3_code
def yX3_kindAt : MethodName := ⟨RX3, "kindAt", "(I)I"⟩
abbrev cX3_kindOf : ByteArray := prog_5_method_4_code
def yX3_kindOf : MethodName := ⟨RX3, "kindOf", "(I)I"⟩
def RX4 : String := "FrostHole$Script"
def TX4 : u_T := fun k => match k with
  | 0 => ("FrostHole$Script", "bytes", "[I", true)
  | _ => ("FrostHole$Script", "size", "I", false)
def tyX4 : Nat → FieldType := fun k => match k with
  | 0 => .array .int
  | _ => .int
abbrev wsX40 : List Cond := u_ws RX4 TX4 2
theorem nmX4 : ∀ a, a < 2 → ∀ b, b < 2 → a ≠ b → (TX4 a).2.1 ≠ (TX4 b).2.1 := by decide +kernel
theorem tyX4_ok : ∀ k, k < 2 → parseFieldDescriptor (TX4 k).2.2.1 = some (tyX4 k) := by decide +kernel
abbrev cX4_init : ByteArray := prog_6_method_1_code
def yX4_init : MethodName := ⟨RX4, "<init>", "(I)V"⟩
abbrev cX4_isFull : ByteArray := prog_6_method_2_code
def yX4_isFull : MethodName := ⟨RX4, "isFull", "()Z"⟩
abbrev cX4_append : ByteArray := prog_6_method_3_code
def yX4_append : MethodName := ⟨RX4, "append", "(I)V"⟩
def RX5 : String := "FrostHole$Sheet"
def TX5 : u_T := fun k => match k with
  | 0 => ("FrostHole$Sheet", "items", "[I", true)
  | 1 => ("FrostHole$Sheet", "form", "I", false)
  | _ => ("FrostHole$Sheet", "size", "I", false)
def tyX5 : Nat → FieldType := fun k => match k with
  | 0 => .array .int
  | 1 => .int
  | _ => .int
abbrev wsX50 : List Cond := u_ws RX5 TX5 3
theorem nmX5 : ∀ a, a < 3 → ∀ b, b < 3 → a ≠ b → (TX5 a).2.1 ≠ (TX5 b).2.1 := by decide +kernel
theorem tyX5_ok : ∀ k, k < 3 → parseFieldDescriptor (TX5 k).2.2.1 = some (tyX5 k) := by decide +kernel
abbrev cX5_init : ByteArray := prog_7_method_1_code
def yX5_init : MethodName := ⟨RX5, "<init>", "()V"⟩
abbrev cX5_isLost : ByteArray := prog_7_method_2_code
def yX5_isLost : MethodName := ⟨RX5, "isLost", "()Z"⟩
abbrev cX5_renew : ByteArray := prog_7_method_3_code
def yX5_renew : MethodName := ⟨RX5, "renew", "(II)V"⟩
abbrev cX5_hindrance : ByteArray := prog_7_method_4_code
def yX5_hindrance : MethodName := ⟨RX5, "hindrance", "(II)I"⟩
abbrev cX5_put : ByteArray := prog_7_method_5_code
def yX5_put : MethodName := ⟨RX5, "put", "(II)V"⟩
abbrev cX5_hasRun : ByteArray := prog_7_method_6_code
def yX5_hasRun : MethodName := ⟨RX5, "hasRun", "(II)Z"⟩
def RX6 : String := "FrostHole$Street"
def TX6 : u_T := fun k => match k with
  | 0 => ("FrostHole$Street", "seconds", "[I", true)
  | 1 => ("FrostHole$Street", "leave", "[I", true)
  | 2 => ("FrostHole$Street", "order", "[I", true)
  | 3 => ("FrostHole$Street", "least", "[I", true)
  | _ => ("FrostHole$Street", "size", "I", false)
def tyX6 : Nat → FieldType := fun k => match k with
  | 0 => .array .int
  | 1 => .array .int
  | 2 => .array .int
  | 3 => .array .int
  | _ => .int
abbrev wsX60 : List Cond := u_ws RX6 TX6 5
theorem nmX6 : ∀ a, a < 5 → ∀ b, b < 5 → a ≠ b → (TX6 a).2.1 ≠ (TX6 b).2.1 := by decide +kernel
theorem tyX6_ok : ∀ k, k < 5 → parseFieldDescriptor (TX6 k).2.2.1 = some (tyX6 k) := by decide +kernel
abbrev cX6_init : ByteArray := prog_8_method_1_code
def yX6_init : MethodName := ⟨RX6, "<init>", "()V"⟩
abbrev cX6_append : ByteArray := prog_8_method_2_code
def yX6_append : MethodName := ⟨RX6, "append", "(II)V"⟩
abbrev cX6_removeLast : ByteArray := prog_8_method_3_code
def yX6_removeLast : MethodName := ⟨RX6, "removeLast", "()V"⟩
abbrev cX6_leastLate : ByteArray := prog_8_method_4_code
def yX6_leastLate : MethodName := ⟨RX6, "leastLate", "()I"⟩
abbrev cX6_plan : ByteArray := prog_8_method_5_code
def yX6_plan : MethodName := ⟨RX6, "plan", "()V"⟩
abbrev cX6_bestNext : ByteArray := prog_8_method_6_code
def yX6_bestNext : MethodName := ⟨RX6, "bestNext", "(II)I"⟩
abbrev cX6_lateWith : ByteArray := prog_8_method_7_code
def yX6_lateWith : MethodName := ⟨RX6, "lateWith", "(III)I"⟩
abbrev cX6_spentOn : ByteArray := prog_8_method_8_code
def yX6_spentOn : MethodName := ⟨RX6, "spentOn", "(I)I"⟩
def RX7 : String := "FrostHole$Strokes"
def TX7 : u_T := fun k => match k with
  | 0 => ("FrostHole$Strokes", "tools", "[I", true)
  | 1 => ("FrostHole$Strokes", "cells", "[I", true)
  | _ => ("FrostHole$Strokes", "size", "I", false)
def tyX7 : Nat → FieldType := fun k => match k with
  | 0 => .array .int
  | 1 => .array .int
  | _ => .int
abbrev wsX70 : List Cond := u_ws RX7 TX7 3
theorem nmX7 : ∀ a, a < 3 → ∀ b, b < 3 → a ≠ b → (TX7 a).2.1 ≠ (TX7 b).2.1 := by decide +kernel
theorem tyX7_ok : ∀ k, k < 3 → parseFieldDescriptor (TX7 k).2.2.1 = some (tyX7 k) := by decide +kernel
abbrev cX7_init : ByteArray := prog_9_method_1_code
def yX7_init : MethodName := ⟨RX7, "<init>", "()V"⟩
abbrev cX7_append : ByteArray := prog_9_method_2_code
def yX7_append : MethodName := ⟨RX7, "append", "(II)V"⟩
def RX8 : String := "FrostHole$Views"
def TX8 : u_T := fun k => match k with
  | _ => ("FrostHole$Views", "row", "[I", true)
def tyX8 : Nat → FieldType := fun k => match k with
  | _ => .array .int
abbrev wsX80 : List Cond := u_ws RX8 TX8 1
theorem nmX8 : ∀ a, a < 1 → ∀ b, b < 1 → a ≠ b → (TX8 a).2.1 ≠ (TX8 b).2.1 := by decide +kernel
theorem tyX8_ok : ∀ k, k < 1 → parseFieldDescriptor (TX8 k).2.2.1 = some (tyX8 k) := by decide +kernel
abbrev cX8_init : ByteArray := prog_10_method_1_code
def yX8_init : MethodName := ⟨RX8, "<init>", "()V"⟩
abbrev cX8_at : ByteArray := prog_10_method_2_code
def yX8_at : MethodName := ⟨RX8, "at", "(II)I"⟩
abbrev cX8_put : ByteArray := prog_10_method_3_code
def yX8_put : MethodName := ⟨RX8, "put", "(III)V"⟩
def RX9 : String := "FrostHole"
def TX9 : u_T := fun k => match k with
  | 0 => ("FrostHole", "pane", "LFrostHole$Pane;", true)
  | 1 => ("FrostHole", "road", "LFrostHole$Road;", true)
  | 2 => ("FrostHole", "kit", "LFrostHole$Kit;", true)
  | 3 => ("FrostHole", "views", "LFrostHole$Views;", true)
  | 4 => ("FrostHole", "strokes", "LFrostHole$Strokes;", true)
  | 5 => ("FrostHole", "morning", "LFrostHole$Morning;", true)
  | 6 => ("FrostHole", "street", "LFrostHole$Street;", true)
  | 7 => ("FrostHole", "sheets", "[LFrostHole$Sheet;", true)
  | 8 => ("FrostHole", "stale", "Z", false)
  | _ => ("FrostHole", "finding", "I", false)
def tyX9 : Nat → FieldType := fun k => match k with
  | 0 => .object "FrostHole$Pane"
  | 1 => .object "FrostHole$Road"
  | 2 => .object "FrostHole$Kit"
  | 3 => .object "FrostHole$Views"
  | 4 => .object "FrostHole$Strokes"
  | 5 => .object "FrostHole$Morning"
  | 6 => .object "FrostHole$Street"
  | 7 => .array (.object "FrostHole$Sheet")
  | 8 => .boolean
  | _ => .int
abbrev wsX90 : List Cond := u_ws RX9 TX9 10
theorem nmX9 : ∀ a, a < 10 → ∀ b, b < 10 → a ≠ b → (TX9 a).2.1 ≠ (TX9 b).2.1 := by decide +kernel
theorem tyX9_ok : ∀ k, k < 10 → parseFieldDescriptor (TX9 k).2.2.1 = some (tyX9 k) := by decide +kernel
abbrev cX9_init : ByteArray := prog_1_method_1_code
def yX9_init : MethodName := ⟨RX9, "<init>", "()V"⟩
abbrev cX9_type : ByteArray := prog_1_method_2_code
def yX9_type : MethodName := ⟨RX9, "type", "(II)I"⟩
abbrev cX9_wipe : ByteArray := prog_1_method_3_code
def yX9_wipe : MethodName := ⟨RX9, "wipe", "(I)I"⟩
abbrev cX9_undo : ByteArray := prog_1_method_4_code
def yX9_undo : MethodName := ⟨RX9, "undo", "(I)I"⟩
abbrev cX9_fault : ByteArray := prog_1_method_5_code
def yX9_fault : MethodName := ⟨RX9, "fault", "(I)I"⟩
abbrev cX9_tool : ByteArray := prog_1_method_6_code
def yX9_tool : MethodName := ⟨RX9, "tool", "(III)I"⟩
abbrev cX9_looks : ByteArray := prog_1_method_7_code
def yX9_looks : MethodName := ⟨RX9, "looks", "(III)I"⟩
abbrev cX9_read : ByteArray := prog_1_method_8_code
def yX9_read : MethodName := ⟨RX9, "read", "(II)I"⟩
abbrev cX9_stroke : ByteArray := prog_1_method_9_code
def yX9_stroke : MethodName := ⟨RX9, "stroke", "(II)I"⟩
abbrev cX9_back : ByteArray := prog_1_method_10_code
def yX9_back : MethodName := ⟨RX9, "back", "()I"⟩
abbrev cX9_judged : ByteArray := prog_1_method_11_code
def yX9_judged : MethodName := ⟨RX9, "judged", "()I"⟩
abbrev cX9_thick : ByteArray := prog_1_method_12_code
def yX9_thick : MethodName := ⟨RX9, "thick", "(II)I"⟩
abbrev cX9_state : ByteArray := prog_1_method_13_code
def yX9_state : MethodName := ⟨RX9, "state", "(II)I"⟩
abbrev cX9_left : ByteArray := prog_1_method_14_code
def yX9_left : MethodName := ⟨RX9, "left", "(I)I"⟩
abbrev cX9_risk : ByteArray := prog_1_method_15_code
def yX9_risk : MethodName := ⟨RX9, "risk", "(I)I"⟩
abbrev cX9_all : ByteArray := prog_1_method_16_code
def yX9_all : MethodName := ⟨RX9, "all", "(I)I"⟩
abbrev cX9_first : ByteArray := prog_1_method_17_code
def yX9_first : MethodName := ⟨RX9, "first", "(II)I"⟩
abbrev cX9_stop : ByteArray := prog_1_method_18_code
def yX9_stop : MethodName := ⟨RX9, "stop", "(IIII)I"⟩
abbrev cX9_warm : ByteArray := prog_1_method_19_code
def yX9_warm : MethodName := ⟨RX9, "warm", "(III)I"⟩
abbrev cX9_crack : ByteArray := prog_1_method_20_code
def yX9_crack : MethodName := ⟨RX9, "crack", "(II)I"⟩
abbrev cX9_melts : ByteArray := prog_1_method_21_code
def yX9_melts : MethodName := ⟨RX9, "melts", "(III)I"⟩
abbrev cX9_again : ByteArray := prog_1_method_22_code
def yX9_again : MethodName := ⟨RX9, "again", "(IIII)I"⟩
abbrev cX9_night : ByteArray := prog_1_method_23_code
def yX9_night : MethodName := ⟨RX9, "night", "(III)I"⟩
abbrev cX9_tonight : ByteArray := prog_1_method_24_code
def yX9_tonight : MethodName := ⟨RX9, "tonight", "(IIIII)J"⟩
abbrev cX9_cover : ByteArray := prog_1_method_25_code
def yX9_cover : MethodName := ⟨RX9, "cover", "(IIII)I"⟩
abbrev cX9_car : ByteArray := prog_1_method_26_code
def yX9_car : MethodName := ⟨RX9, "car", "(II)I"⟩
abbrev cX9_gone : ByteArray := prog_1_method_27_code
def yX9_gone : MethodName := ⟨RX9, "gone", "()I"⟩
abbrev cX9_lent : ByteArray := prog_1_method_28_code
def yX9_lent : MethodName := ⟨RX9, "lent", "(I)I"⟩
abbrev cX9_faced : ByteArray := prog_1_method_29_code
def yX9_faced : MethodName := ⟨RX9, "faced", "()I"⟩
abbrev cX9_bend : ByteArray := prog_1_method_30_code
def yX9_bend : MethodName := ⟨RX9, "bend", "(III)I"⟩
abbrev cX9_sheet : ByteArray := prog_1_method_31_code
def yX9_sheet : MethodName := ⟨RX9, "sheet", "(III)I"⟩
abbrev cX9_lose : ByteArray := prog_1_method_32_code
def yX9_lose : MethodName := ⟨RX9, "lose", "(I)I"⟩
abbrev cX9_lay : ByteArray := prog_1_method_33_code
def yX9_lay : MethodName := ⟨RX9, "lay", "(IIII)I"⟩
abbrev cX9_get : ByteArray := prog_1_method_34_code
def yX9_get : MethodName := ⟨RX9, "get", "(III)I"⟩
abbrev cX9_copy : ByteArray := prog_1_method_35_code
def yX9_copy : MethodName := ⟨RX9, "copy", "(IIIII)I"⟩
abbrev cX9_write : ByteArray := prog_1_method_36_code
def yX9_write : MethodName := ⟨RX9, "write", "(II)I"⟩
abbrev cX9_count : ByteArray := prog_1_method_37_code
def yX9_count : MethodName := ⟨RX9, "count", "(I)I"⟩
abbrev cX9_digest : ByteArray := prog_1_method_38_code
def yX9_digest : MethodName := ⟨RX9, "digest", "()J"⟩
abbrev cX9_mixedWithTool : ByteArray := prog_1_method_39_code
def yX9_mixedWithTool : MethodName := ⟨RX9, "mixedWithTool", "(JI)J"⟩
abbrev cX9_mixed : ByteArray := prog_1_method_40_code
def yX9_mixed : MethodName := ⟨RX9, "mixed", "(JJ)J"⟩
abbrev cX9_within : ByteArray := prog_1_method_41_code
def yX9_within : MethodName := ⟨RX9, "within", "(III)Z"⟩
abbrev cX9_isText : ByteArray := prog_1_method_42_code
def yX9_isText : MethodName := ⟨RX9, "isText", "(I)Z"⟩
abbrev cX9_isTool : ByteArray := prog_1_method_43_code
def yX9_isTool : MethodName := ⟨RX9, "isTool", "(I)Z"⟩
abbrev cX9_isCell : ByteArray := prog_1_method_44_code
def yX9_isCell : MethodName := ⟨RX9, "isCell", "(I)Z"⟩
abbrev cX9_isKind : ByteArray := prog_1_method_45_code
def yX9_isKind : MethodName := ⟨RX9, "isKind", "(I)Z"⟩
abbrev cX9_isSheet : ByteArray := prog_1_method_46_code
def yX9_isSheet : MethodName := ⟨RX9, "isSheet", "(I)Z"⟩
abbrev cX9_isForm : ByteArray := prog_1_method_47_code
def yX9_isForm : MethodName := ⟨RX9, "isForm", "(I)Z"⟩
abbrev cX9_isPair : ByteArray := prog_1_method_48_code
def yX9_isPair : MethodName := ⟨RX9, "isPair", "(I)Z"⟩
abbrev cX9_isStretch : ByteArray := prog_1_method_49_code
def yX9_isStretch : MethodName := ⟨RX9, "isStretch", "(I)Z"⟩
abbrev cX9_scriptOf : ByteArray := prog_1_method_50_code
def yX9_scriptOf : MethodName := ⟨RX9, "scriptOf", "(I)LFrostHole$Script;"⟩
abbrev cX9_reread : ByteArray := prog_1_method_51_code
def yX9_reread : MethodName := ⟨RX9, "reread", "(I)V"⟩
abbrev cX9_settled : ByteArray := prog_1_method_52_code
def yX9_settled : MethodName := ⟨RX9, "settled", "()LFrostHole$Morning;"⟩
abbrev cX9_found : ByteArray := prog_1_method_53_code
def yX9_found : MethodName := ⟨RX9, "found", "(I)I"⟩
abbrev cX9_cracks : ByteArray := prog_1_method_54_code
def yX9_cracks : MethodName := ⟨RX9, "cracks", "(II)Z"⟩
abbrev cX9_frostOf : ByteArray := prog_1_method_55_code
def yX9_frostOf : MethodName := ⟨RX9, "frostOf", "(III)I"⟩
abbrev cX9_sixteenthsTonight : ByteArray := prog_1_method_56_code
def yX9_sixteenthsTonight : MethodName := ⟨RX9, "sixteenthsTonight", "(IIII)I"⟩
def RX10 : String := "FrostHoleModel"
def TX10 : u_T := fun k => match k with
  | 0 => ("FrostHoleModel", "forms", "[I", true)
  | 1 => ("FrostHoleModel", "sizes", "[I", true)
  | 2 => ("FrostHoleModel", "items", "[I", true)
  | 3 => ("FrostHoleModel", "moved", "[I", true)
  | 4 => ("FrostHoleModel", "latest", "I", false)
  | 5 => ("FrostHoleModel", "bytes", "[I", true)
  | 6 => ("FrostHoleModel", "typed", "[I", true)
  | 7 => ("FrostHoleModel", "at", "I", false)
  | 8 => ("FrostHoleModel", "isThere", "[Z", true)
  | 9 => ("FrostHoleModel", "frost", "[I", true)
  | 10 => ("FrostHoleModel", "now", "[I", true)
  | 11 => ("FrostHoleModel", "cells", "I", false)
  | 12 => ("FrostHoleModel", "wide", "I", false)
  | 13 => ("FrostHoleModel", "rows", "I", false)
  | 14 => ("FrostHoleModel", "stretches", "I", false)
  | 15 => ("FrostHoleModel", "road", "[I", true)
  | 16 => ("FrostHoleModel", "seconds", "[I", true)
  | 17 => ("FrostHoleModel", "holds", "[I", true)
  | 18 => ("FrostHoleModel", "looking", "[I", true)
  | 19 => ("FrostHoleModel", "strokes", "I", false)
  | 20 => ("FrostHoleModel", "stroke", "[I", true)
  | 21 => ("FrostHoleModel", "left", "[I", true)
  | 22 => ("FrostHoleModel", "took", "I", false)
  | 23 => ("FrostHoleModel", "done", "I", false)
  | 24 => ("FrostHoleModel", "firstNot", "I", false)
  | 25 => ("FrostHoleModel", "firsts", "[I", true)
  | 26 => ("FrostHoleModel", "parts", "[I", true)
  | 27 => ("FrostHoleModel", "cars", "I", false)
  | 28 => ("FrostHoleModel", "car", "[I", true)
  | 29 => ("FrostHoleModel", "row", "[I", true)
  | _ => ("FrostHoleModel", "bestRow", "[I", true)
def tyX10 : Nat → FieldType := fun k => match k with
  | 0 => .array .int
  | 1 => .array .int
  | 2 => .array .int
  | 3 => .array .int
  | 4 => .int
  | 5 => .array .int
  | 6 => .array .int
  | 7 => .int
  | 8 => .array .boolean
  | 9 => .array .int
  | 10 => .array .int
  | 11 => .int
  | 12 => .int
  | 13 => .int
  | 14 => .int
  | 15 => .array .int
  | 16 => .array .int
  | 17 => .array .int
  | 18 => .array .int
  | 19 => .int
  | 20 => .array .int
  | 21 => .array .int
  | 22 => .int
  | 23 => .int
  | 24 => .int
  | 25 => .array .int
  | 26 => .array .int
  | 27 => .int
  | 28 => .array .int
  | 29 => .array .int
  | _ => .array .int
abbrev wsX100 : List Cond := u_ws RX10 TX10 31
theorem nmX10 : ∀ a, a < 31 → ∀ b, b < 31 → a ≠ b → (TX10 a).2.1 ≠ (TX10 b).2.1 := by decide +kernel
theorem tyX10_ok : ∀ k, k < 31 → parseFieldDescriptor (TX10 k).2.2.1 = some (tyX10 k) := by decide +kernel
abbrev cX10_init : ByteArray := prog_12_method_1_code
def yX10_init : MethodName := ⟨RX10, "<init>", "()V"⟩
abbrev cX10_in : ByteArray := prog_12_method_3_code
def yX10_in : MethodName := ⟨RX10, "in", "(JJJ)Z"⟩
abbrev cX10_no : ByteArray := prog_12_method_4_code
def yX10_no : MethodName := ⟨RX10, "no", "(I)J"⟩
abbrev cX10_isTwo : ByteArray := prog_12_method_5_code
def yX10_isTwo : MethodName := ⟨RX10, "isTwo", "(I)Z"⟩
abbrev cX10_isIn : ByteArray := prog_12_method_6_code
def yX10_isIn : MethodName := ⟨RX10, "isIn", "(II)Z"⟩
abbrev cX10_greater : ByteArray := prog_12_method_7_code
def yX10_greater : MethodName := ⟨RX10, "greater", "(II)I"⟩
abbrev cX10_lesser : ByteArray := prog_12_method_8_code
def yX10_lesser : MethodName := ⟨RX10, "lesser", "(II)I"⟩
abbrev cX10_met : ByteArray := prog_12_method_9_code
def yX10_met : MethodName := ⟨RX10, "met", "(I)I"⟩
abbrev cX10_isSheet : ByteArray := prog_12_method_10_code
def yX10_isSheet : MethodName := ⟨RX10, "isSheet", "(I)Z"⟩
abbrev cX10_sheet : ByteArray := prog_12_method_11_code
def yX10_sheet : MethodName := ⟨RX10, "sheet", "(III)I"⟩
abbrev cX10_lose : ByteArray := prog_12_method_12_code
def yX10_lose : MethodName := ⟨RX10, "lose", "(I)I"⟩
abbrev cX10_lacks : ByteArray := prog_12_method_13_code
def yX10_lacks : MethodName := ⟨RX10, "lacks", "(III)I"⟩
abbrev cX10_cut : ByteArray := prog_12_method_14_code
def yX10_cut : MethodName := ⟨RX10, "cut", "(II)I"⟩
abbrev cX10_lay : ByteArray := prog_12_method_15_code
def yX10_lay : MethodName := ⟨RX10, "lay", "(IIII)I"⟩
abbrev cX10_get : ByteArray := prog_12_method_16_code
def yX10_get : MethodName := ⟨RX10, "get", "(III)I"⟩
abbrev cX10_copy : ByteArray := prog_12_method_17_code
def yX10_copy : MethodName := ⟨RX10, "copy", "(IIIII)I"⟩
abbrev cX10_type : ByteArray := prog_12_method_18_code
def yX10_type : MethodName := ⟨RX10, "type", "(II)I"⟩
abbrev cX10_wipe : ByteArray := prog_12_method_19_code
def yX10_wipe : MethodName := ⟨RX10, "wipe", "(I)I"⟩
abbrev cX10_undo : ByteArray := prog_12_method_20_code
def yX10_undo : MethodName := ⟨RX10, "undo", "(I)I"⟩
abbrev cX10_clears : ByteArray := prog_12_method_21_code
def yX10_clears : MethodName := ⟨RX10, "clears", "()V"⟩
abbrev cX10_readsRow : ByteArray := prog_12_method_22_code
def yX10_readsRow : MethodName := ⟨RX10, "readsRow", "()Z"⟩
abbrev cX10_readsPane : ByteArray := prog_12_method_23_code
def yX10_readsPane : MethodName := ⟨RX10, "readsPane", "()I"⟩
abbrev cX10_kindOf : ByteArray := prog_12_method_24_code
def yX10_kindOf : MethodName := ⟨RX10, "kindOf", "(I)I"⟩
abbrev cX10_readsRoad : ByteArray := prog_12_method_25_code
def yX10_readsRoad : MethodName := ⟨RX10, "readsRoad", "()I"⟩
abbrev cX10_fault : ByteArray := prog_12_method_26_code
def yX10_fault : MethodName := ⟨RX10, "fault", "(I)I"⟩
abbrev cX10_isTool : ByteArray := prog_12_method_27_code
def yX10_isTool : MethodName := ⟨RX10, "isTool", "(I)Z"⟩
abbrev cX10_isAnyCell : ByteArray := prog_12_method_28_code
def yX10_isAnyCell : MethodName := ⟨RX10, "isAnyCell", "(I)Z"⟩
abbrev cX10_tool : ByteArray := prog_12_method_29_code
def yX10_tool : MethodName := ⟨RX10, "tool", "(III)I"⟩
abbrev cX10_looks : ByteArray := prog_12_method_30_code
def yX10_looks : MethodName := ⟨RX10, "looks", "(III)I"⟩
abbrev cX10_read : ByteArray := prog_12_method_31_code
def yX10_read : MethodName := ⟨RX10, "read", "(II)I"⟩
abbrev cX10_stroke : ByteArray := prog_12_method_32_code
def yX10_stroke : MethodName := ⟨RX10, "stroke", "(II)I"⟩
abbrev cX10_back : ByteArray := prog_12_method_33_code
def yX10_back : MethodName := ⟨RX10, "back", "()I"⟩
abbrev cX10_scrapes : ByteArray := prog_12_method_34_code
def yX10_scrapes : MethodName := ⟨RX10, "scrapes", "(I)V"⟩
abbrev cX10_scrapesAll : ByteArray := prog_12_method_35_code
def yX10_scrapesAll : MethodName := ⟨RX10, "scrapesAll", "()V"⟩
abbrev cX10_judged : ByteArray := prog_12_method_36_code
def yX10_judged : MethodName := ⟨RX10, "judged", "()I"⟩
abbrev cX10_thick : ByteArray := prog_12_method_37_code
def yX10_thick : MethodName := ⟨RX10, "thick", "(II)I"⟩
abbrev cX10_riskOf : ByteArray := prog_12_method_38_code
def yX10_riskOf : MethodName := ⟨RX10, "riskOf", "(I)I"⟩
abbrev cX10_riskOfRoad : ByteArray := prog_12_method_39_code
def yX10_riskOfRoad : MethodName := ⟨RX10, "riskOfRoad", "()I"⟩
abbrev cX10_clear : ByteArray := prog_12_method_40_code
def yX10_clear : MethodName := ⟨RX10, "clear", "()I"⟩
abbrev cX10_stateOf : ByteArray := prog_12_method_41_code
def yX10_stateOf : MethodName := ⟨RX10, "stateOf", "(II)I"⟩
abbrev cX10_state : ByteArray := prog_12_method_42_code
def yX10_state : MethodName := ⟨RX10, "state", "(II)I"⟩
abbrev cX10_left : ByteArray := prog_12_method_43_code
def yX10_left : MethodName := ⟨RX10, "left", "(I)I"⟩
abbrev cX10_risk : ByteArray := prog_12_method_44_code
def yX10_risk : MethodName := ⟨RX10, "risk", "(I)I"⟩
abbrev cX10_allOf : ByteArray := prog_12_method_45_code
def yX10_allOf : MethodName := ⟨RX10, "allOf", "(I)I"⟩
abbrev cX10_all : ByteArray := prog_12_method_46_code
def yX10_all : MethodName := ⟨RX10, "all", "(I)I"⟩
abbrev cX10_findParts : ByteArray := prog_12_method_47_code
def yX10_findParts : MethodName := ⟨RX10, "findParts", "()V"⟩
abbrev cX10_findFirst : ByteArray := prog_12_method_48_code
def yX10_findFirst : MethodName := ⟨RX10, "findFirst", "(I)I"⟩
abbrev cX10_firstOf : ByteArray := prog_12_method_49_code
def yX10_firstOf : MethodName := ⟨RX10, "firstOf", "(II)I"⟩
abbrev cX10_first : ByteArray := prog_12_method_50_code
def yX10_first : MethodName := ⟨RX10, "first", "(II)I"⟩
abbrev cX10_stopOf : ByteArray := prog_12_method_51_code
def yX10_stopOf : MethodName := ⟨RX10, "stopOf", "(IIII)I"⟩
abbrev cX10_stop : ByteArray := prog_12_method_52_code
def yX10_stop : MethodName := ⟨RX10, "stop", "(IIII)I"⟩
abbrev cX10_thickest : ByteArray := prog_12_method_53_code
def yX10_thickest : MethodName := ⟨RX10, "thickest", "(III)I"⟩
abbrev cX10_warmOf : ByteArray := prog_12_method_54_code
def yX10_warmOf : MethodName := ⟨RX10, "warmOf", "(III)I"⟩
abbrev cX10_warm : ByteArray := prog_12_method_55_code
def yX10_warm : MethodName := ⟨RX10, "warm", "(III)I"⟩
abbrev cX10_crack : ByteArray := prog_12_method_56_code
def yX10_crack : MethodName := ⟨RX10, "crack", "(II)I"⟩
abbrev cX10_meltsOf : ByteArray := prog_12_method_57_code
def yX10_meltsOf : MethodName := ⟨RX10, "meltsOf", "(II)I"⟩
abbrev cX10_melts : ByteArray := prog_12_method_58_code
def yX10_melts : MethodName := ⟨RX10, "melts", "(III)I"⟩
abbrev cX10_againOf : ByteArray := prog_12_method_59_code
def yX10_againOf : MethodName := ⟨RX10, "againOf", "(IIII)I"⟩
abbrev cX10_again : ByteArray := prog_12_method_60_code
def yX10_again : MethodName := ⟨RX10, "again", "(IIII)I"⟩
abbrev cX10_nightOf : ByteArray := prog_12_method_61_code
def yX10_nightOf : MethodName := ⟨RX10, "nightOf", "(III)I"⟩
abbrev cX10_isNight : ByteArray := prog_12_method_62_code
def yX10_isNight : MethodName := ⟨RX10, "isNight", "(II)Z"⟩
abbrev cX10_night : ByteArray := prog_12_method_63_code
def yX10_night : MethodName := ⟨RX10, "night", "(III)I"⟩
abbrev cX10_part : ByteArray := prog_12_method_64_code
def yX10_part : MethodName := ⟨RX10, "part", "(JJI)J"⟩
abbrev cX10_tonightBy : ByteArray := prog_12_method_65_code
def yX10_tonightBy : MethodName := ⟨RX10, "tonightBy", "(IIII)I"⟩
abbrev cX10_tonight : ByteArray := prog_12_method_66_code
def yX10_tonight : MethodName := ⟨RX10, "tonight", "(IIIII)J"⟩
abbrev cX10_cover : ByteArray := prog_12_method_67_code
def yX10_cover : MethodName := ⟨RX10, "cover", "(IIII)I"⟩
abbrev cX10_car : ByteArray := prog_12_method_68_code
def yX10_car : MethodName := ⟨RX10, "car", "(II)I"⟩
abbrev cX10_gone : ByteArray := prog_12_method_69_code
def yX10_gone : MethodName := ⟨RX10, "gone", "()I"⟩
abbrev cX10_late : ByteArray := prog_12_method_70_code
def yX10_late : MethodName := ⟨RX10, "late", "()I"⟩
abbrev cX10_lays : ByteArray := prog_12_method_71_code
def yX10_lays : MethodName := ⟨RX10, "lays", "(I)V"⟩
abbrev cX10_findRow : ByteArray := prog_12_method_72_code
def yX10_findRow : MethodName := ⟨RX10, "findRow", "()I"⟩
abbrev cX10_lentOf : ByteArray := prog_12_method_73_code
def yX10_lentOf : MethodName := ⟨RX10, "lentOf", "(I)I"⟩
abbrev cX10_lent : ByteArray := prog_12_method_74_code
def yX10_lent : MethodName := ⟨RX10, "lent", "(I)I"⟩
abbrev cX10_facedNow : ByteArray := prog_12_method_75_code
def yX10_facedNow : MethodName := ⟨RX10, "facedNow", "()I"⟩
abbrev cX10_faced : ByteArray := prog_12_method_76_code
def yX10_faced : MethodName := ⟨RX10, "faced", "()I"⟩
abbrev cX10_bendOf : ByteArray := prog_12_method_77_code
def yX10_bendOf : MethodName := ⟨RX10, "bendOf", "(III)I"⟩
abbrev cX10_bend : ByteArray := prog_12_method_78_code
def yX10_bend : MethodName := ⟨RX10, "bend", "(III)I"⟩
abbrev cX10_write : ByteArray := prog_12_method_79_code
def yX10_write : MethodName := ⟨RX10, "write", "(II)I"⟩
abbrev cX10_count : ByteArray := prog_12_method_80_code
def yX10_count : MethodName := ⟨RX10, "count", "(I)I"⟩
abbrev cX10_digest : ByteArray := prog_12_method_81_code
def yX10_digest : MethodName := ⟨RX10, "digest", "()J"⟩
def RJ9 : String := "java/lang/Math"
def TJ9 : u_T := fun k => match k with
  | _ => ("", "", "", false)
def tyJ9 : Nat → FieldType := fun k => match k with
  | _ => .int
abbrev cJ9_max_7cf53 : ByteArray := prog_13_method_65_code
def yJ9_max_7cf53 : MethodName := ⟨RJ9, "max", "(II)I"⟩
abbrev cJ9_min_7cf53 : ByteArray := prog_13_method_69_code
def yJ9_min_7cf53 : MethodName := ⟨RJ9, "min", "(II)I"⟩
def RJ10 : String := "java/lang/System"
def TJ10 : u_T := fun k => match k with
  | _ => ("", "", "", false)
def tyJ10 : Nat → FieldType := fun k => match k with
  | _ => .int
def RJ7 : String := "java/util/Arrays"
def TJ7 : u_T := fun k => match k with
  | _ => ("", "", "", false)
def tyJ7 : Nat → FieldType := fun k => match k with
  | _ => .int
abbrev cJ7_fill_53178 : ByteArray := prog_15_method_103_code
def yJ7_fill_53178 : MethodName := ⟨RJ7, "fill", "([II)V"⟩
def RL : String := "FrostHoleLaw"
abbrev cL_law : ByteArray := code
def yL_law : MethodName := ⟨RL, "law", "([I)Z"⟩
abbrev vwCl : List vw_C := [(RX0, TX0, 2), (RX1, TX1, 8), (RX2, TX2, 6), (RX3, TX3, 4), (RX4, TX4, 2), (RX5, TX5, 3), (RX6, TX6, 5), (RX7, TX7, 3), (RX8, TX8, 1), (RX9, TX9, 10), (RX10, TX10, 31)]
