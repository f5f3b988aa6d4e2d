section
-- ===== PART A: goes FIRST, ahead of the names: the tables' words, and 'selects' of the private methods out of them =====
/-- a private method of a class that the tables say can be made, by its rows of tables_1 -/
def lw_okq (q : MethodName × Nat) : Prop := (q.1.cls ≠ "java/lang/invoke/MethodHandle" ∧ q.1.cls ≠ "java/lang/invoke/VarHandle") ∧ Cond.instantiable q.1.cls q.2 ∈ tables_1 ∧ Cond.privateMethod q.1 ∈ tables_1 ∧ Cond.instanceMethod q.1 ∈ tables_1
theorem lw_p0 : lw_okq (⟨"java/lang/Throwable", "fillInStackTrace", "(I)Ljava/lang/Throwable;"⟩, 6) := ⟨⟨by decide +kernel, by decide +kernel⟩, List.mem_of_getElem? (i := 304) (by decide +kernel), List.mem_of_getElem? (i := 302) (by decide +kernel), List.mem_of_getElem? (i := 303) (by decide +kernel)⟩
theorem lw_p1 : lw_okq (⟨"MakerGuard", "forgetOldAnswers", "()V"⟩, 3) := ⟨⟨by decide +kernel, by decide +kernel⟩, List.mem_of_getElem? (i := 20) (by decide +kernel), List.mem_of_getElem? (i := 342) (by decide +kernel), List.mem_of_getElem? (i := 343) (by decide +kernel)⟩
theorem lw_p2 : lw_okq (⟨"MakerGuard$Guard", "watch", "(I)V"⟩, 6) := ⟨⟨by decide +kernel, by decide +kernel⟩, List.mem_of_getElem? (i := 117) (by decide +kernel), List.mem_of_getElem? (i := 455) (by decide +kernel), List.mem_of_getElem? (i := 456) (by decide +kernel)⟩
theorem lw_p3 : lw_okq (⟨"MakerGuard$Guard", "prepare", "(I)V"⟩, 6) := ⟨⟨by decide +kernel, by decide +kernel⟩, List.mem_of_getElem? (i := 117) (by decide +kernel), List.mem_of_getElem? (i := 459) (by decide +kernel), List.mem_of_getElem? (i := 460) (by decide +kernel)⟩
theorem lw_p4 : lw_okq (⟨"MakerGuard$Guard", "goTo", "(I)Z"⟩, 6) := ⟨⟨by decide +kernel, by decide +kernel⟩, List.mem_of_getElem? (i := 117) (by decide +kernel), List.mem_of_getElem? (i := 480) (by decide +kernel), List.mem_of_getElem? (i := 481) (by decide +kernel)⟩
theorem lw_p5 : lw_okq (⟨"MakerGuard$Sight", "meetLocal", "(ILMakerGuard$Sight;)V"⟩, 6) := ⟨⟨by decide +kernel, by decide +kernel⟩, List.mem_of_getElem? (i := 124) (by decide +kernel), List.mem_of_getElem? (i := 500) (by decide +kernel), List.mem_of_getElem? (i := 501) (by decide +kernel)⟩
theorem lw_p6 : lw_okq (⟨"MakerGuard$Guard", "pass", "(I)Z"⟩, 6) := ⟨⟨by decide +kernel, by decide +kernel⟩, List.mem_of_getElem? (i := 117) (by decide +kernel), List.mem_of_getElem? (i := 511) (by decide +kernel), List.mem_of_getElem? (i := 512) (by decide +kernel)⟩
theorem lw_p7 : lw_okq (⟨"MakerGuard$Guard", "isSelf", "(I)Z"⟩, 6) := ⟨⟨by decide +kernel, by decide +kernel⟩, List.mem_of_getElem? (i := 117) (by decide +kernel), List.mem_of_getElem? (i := 516) (by decide +kernel), List.mem_of_getElem? (i := 517) (by decide +kernel)⟩
theorem lw_p8 : lw_okq (⟨"MakerGuard$Guard", "copy", "(II)Z"⟩, 6) := ⟨⟨by decide +kernel, by decide +kernel⟩, List.mem_of_getElem? (i := 117) (by decide +kernel), List.mem_of_getElem? (i := 520) (by decide +kernel), List.mem_of_getElem? (i := 521) (by decide +kernel)⟩
theorem lw_p9 : lw_okq (⟨"MakerGuard$Guard", "make", "(III)Z"⟩, 6) := ⟨⟨by decide +kernel, by decide +kernel⟩, List.mem_of_getElem? (i := 117) (by decide +kernel), List.mem_of_getElem? (i := 525) (by decide +kernel), List.mem_of_getElem? (i := 526) (by decide +kernel)⟩
theorem lw_p10 : lw_okq (⟨"MakerGuard$Guard", "parametersFit", "(LMakerGuard$Body;I)Z"⟩, 6) := ⟨⟨by decide +kernel, by decide +kernel⟩, List.mem_of_getElem? (i := 117) (by decide +kernel), List.mem_of_getElem? (i := 529) (by decide +kernel), List.mem_of_getElem? (i := 530) (by decide +kernel)⟩
theorem lw_p11 : lw_okq (⟨"MakerGuard$Guard", "stageOfNew", "(II)I"⟩, 6) := ⟨⟨by decide +kernel, by decide +kernel⟩, List.mem_of_getElem? (i := 117) (by decide +kernel), List.mem_of_getElem? (i := 541) (by decide +kernel), List.mem_of_getElem? (i := 542) (by decide +kernel)⟩
theorem lw_p12 : lw_okq (⟨"MakerGuard$Guard", "fetch", "(III)Z"⟩, 6) := ⟨⟨by decide +kernel, by decide +kernel⟩, List.mem_of_getElem? (i := 117) (by decide +kernel), List.mem_of_getElem? (i := 549) (by decide +kernel), List.mem_of_getElem? (i := 550) (by decide +kernel)⟩
theorem lw_p13 : lw_okq (⟨"MakerGuard$Guard", "store", "(III)Z"⟩, 6) := ⟨⟨by decide +kernel, by decide +kernel⟩, List.mem_of_getElem? (i := 117) (by decide +kernel), List.mem_of_getElem? (i := 558) (by decide +kernel), List.mem_of_getElem? (i := 559) (by decide +kernel)⟩
theorem lw_p14 : lw_okq (⟨"MakerGuard$Guard", "fork", "(III)Z"⟩, 6) := ⟨⟨by decide +kernel, by decide +kernel⟩, List.mem_of_getElem? (i := 117) (by decide +kernel), List.mem_of_getElem? (i := 563) (by decide +kernel), List.mem_of_getElem? (i := 564) (by decide +kernel)⟩
theorem lw_p15 : lw_okq (⟨"MakerGuard$Guard", "call", "(III)Z"⟩, 6) := ⟨⟨by decide +kernel, by decide +kernel⟩, List.mem_of_getElem? (i := 117) (by decide +kernel), List.mem_of_getElem? (i := 567) (by decide +kernel), List.mem_of_getElem? (i := 568) (by decide +kernel)⟩
def lw_privs_1 : List (MethodName × Nat) := [(⟨"java/lang/Throwable", "fillInStackTrace", "(I)Ljava/lang/Throwable;"⟩, 6), (⟨"MakerGuard", "forgetOldAnswers", "()V"⟩, 3), (⟨"MakerGuard$Guard", "watch", "(I)V"⟩, 6), (⟨"MakerGuard$Guard", "prepare", "(I)V"⟩, 6), (⟨"MakerGuard$Guard", "goTo", "(I)Z"⟩, 6), (⟨"MakerGuard$Sight", "meetLocal", "(ILMakerGuard$Sight;)V"⟩, 6), (⟨"MakerGuard$Guard", "pass", "(I)Z"⟩, 6), (⟨"MakerGuard$Guard", "isSelf", "(I)Z"⟩, 6), (⟨"MakerGuard$Guard", "copy", "(II)Z"⟩, 6), (⟨"MakerGuard$Guard", "make", "(III)Z"⟩, 6), (⟨"MakerGuard$Guard", "parametersFit", "(LMakerGuard$Body;I)Z"⟩, 6), (⟨"MakerGuard$Guard", "stageOfNew", "(II)I"⟩, 6), (⟨"MakerGuard$Guard", "fetch", "(III)Z"⟩, 6), (⟨"MakerGuard$Guard", "store", "(III)Z"⟩, 6), (⟨"MakerGuard$Guard", "fork", "(III)Z"⟩, 6), (⟨"MakerGuard$Guard", "call", "(III)Z"⟩, 6)]
theorem lw_r1 : ∀ q ∈ lw_privs_1, lw_okq q := List.forall_mem_cons.mpr ⟨lw_p0, List.forall_mem_cons.mpr ⟨lw_p1, List.forall_mem_cons.mpr ⟨lw_p2, List.forall_mem_cons.mpr ⟨lw_p3, List.forall_mem_cons.mpr ⟨lw_p4, List.forall_mem_cons.mpr ⟨lw_p5, List.forall_mem_cons.mpr ⟨lw_p6, List.forall_mem_cons.mpr ⟨lw_p7, List.forall_mem_cons.mpr ⟨lw_p8, List.forall_mem_cons.mpr ⟨lw_p9, List.forall_mem_cons.mpr ⟨lw_p10, List.forall_mem_cons.mpr ⟨lw_p11, List.forall_mem_cons.mpr ⟨lw_p12, List.forall_mem_cons.mpr ⟨lw_p13, List.forall_mem_cons.mpr ⟨lw_p14, List.forall_mem_cons.mpr ⟨lw_p15, fun _ h => absurd h List.not_mem_nil⟩⟩⟩⟩⟩⟩⟩⟩⟩⟩⟩⟩⟩⟩⟩⟩
theorem lw_p16 : lw_okq (⟨"MakerGuard$Guard", "mayReturn", "(I)Z"⟩, 6) := ⟨⟨by decide +kernel, by decide +kernel⟩, List.mem_of_getElem? (i := 117) (by decide +kernel), List.mem_of_getElem? (i := 572) (by decide +kernel), List.mem_of_getElem? (i := 573) (by decide +kernel)⟩
theorem lw_p17 : lw_okq (⟨"MakerGuard$Machine", "attempt", "()I"⟩, 10) := ⟨⟨by decide +kernel, by decide +kernel⟩, List.mem_of_getElem? (i := 175) (by decide +kernel), List.mem_of_getElem? (i := 627) (by decide +kernel), List.mem_of_getElem? (i := 628) (by decide +kernel)⟩
theorem lw_p18 : lw_okq (⟨"MakerGuard$Machine", "make", "(LMakerGuard$Frame;II)I"⟩, 10) := ⟨⟨by decide +kernel, by decide +kernel⟩, List.mem_of_getElem? (i := 175) (by decide +kernel), List.mem_of_getElem? (i := 637) (by decide +kernel), List.mem_of_getElem? (i := 638) (by decide +kernel)⟩
theorem lw_p19 : lw_okq (⟨"MakerGuard$Machine", "call", "(LMakerGuard$Frame;II)I"⟩, 10) := ⟨⟨by decide +kernel, by decide +kernel⟩, List.mem_of_getElem? (i := 175) (by decide +kernel), List.mem_of_getElem? (i := 641) (by decide +kernel), List.mem_of_getElem? (i := 642) (by decide +kernel)⟩
theorem lw_p20 : lw_okq (⟨"MakerGuard$Machine", "leave", "(LMakerGuard$Frame;I)V"⟩, 10) := ⟨⟨by decide +kernel, by decide +kernel⟩, List.mem_of_getElem? (i := 175) (by decide +kernel), List.mem_of_getElem? (i := 645) (by decide +kernel), List.mem_of_getElem? (i := 646) (by decide +kernel)⟩
theorem lw_p21 : lw_okq (⟨"MakerGuard$Machine", "move", "(LMakerGuard$Frame;LMakerGuard$Body;I)I"⟩, 10) := ⟨⟨by decide +kernel, by decide +kernel⟩, List.mem_of_getElem? (i := 175) (by decide +kernel), List.mem_of_getElem? (i := 650) (by decide +kernel), List.mem_of_getElem? (i := 651) (by decide +kernel)⟩
theorem lw_p22 : lw_okq (⟨"MakerGuardModel", "goes", "(ZZZ)Z"⟩, 38) := ⟨⟨by decide +kernel, by decide +kernel⟩, List.mem_of_getElem? (i := 687) (by decide +kernel), List.mem_of_getElem? (i := 823) (by decide +kernel), List.mem_of_getElem? (i := 824) (by decide +kernel)⟩
theorem lw_p23 : lw_okq (⟨"MakerGuardModel", "judge", "(I)Z"⟩, 38) := ⟨⟨by decide +kernel, by decide +kernel⟩, List.mem_of_getElem? (i := 687) (by decide +kernel), List.mem_of_getElem? (i := 859) (by decide +kernel), List.mem_of_getElem? (i := 860) (by decide +kernel)⟩
theorem lw_p24 : lw_okq (⟨"MakerGuardModel", "come", "(II)V"⟩, 38) := ⟨⟨by decide +kernel, by decide +kernel⟩, List.mem_of_getElem? (i := 687) (by decide +kernel), List.mem_of_getElem? (i := 863) (by decide +kernel), List.mem_of_getElem? (i := 864) (by decide +kernel)⟩
theorem lw_p25 : lw_okq (⟨"MakerGuardModel", "meet", "(II)V"⟩, 38) := ⟨⟨by decide +kernel, by decide +kernel⟩, List.mem_of_getElem? (i := 687) (by decide +kernel), List.mem_of_getElem? (i := 867) (by decide +kernel), List.mem_of_getElem? (i := 868) (by decide +kernel)⟩
theorem lw_p26 : lw_okq (⟨"MakerGuardModel", "look", "(II)V"⟩, 38) := ⟨⟨by decide +kernel, by decide +kernel⟩, List.mem_of_getElem? (i := 687) (by decide +kernel), List.mem_of_getElem? (i := 871) (by decide +kernel), List.mem_of_getElem? (i := 872) (by decide +kernel)⟩
theorem lw_p27 : lw_okq (⟨"MakerGuardModel", "choose", "(IIII)V"⟩, 38) := ⟨⟨by decide +kernel, by decide +kernel⟩, List.mem_of_getElem? (i := 687) (by decide +kernel), List.mem_of_getElem? (i := 875) (by decide +kernel), List.mem_of_getElem? (i := 876) (by decide +kernel)⟩
theorem lw_p28 : lw_okq (⟨"MakerGuardModel", "isHeld", "(I)Z"⟩, 38) := ⟨⟨by decide +kernel, by decide +kernel⟩, List.mem_of_getElem? (i := 687) (by decide +kernel), List.mem_of_getElem? (i := 879) (by decide +kernel), List.mem_of_getElem? (i := 880) (by decide +kernel)⟩
theorem lw_p29 : lw_okq (⟨"MakerGuardModel", "effect", "(IIIII)V"⟩, 38) := ⟨⟨by decide +kernel, by decide +kernel⟩, List.mem_of_getElem? (i := 687) (by decide +kernel), List.mem_of_getElem? (i := 883) (by decide +kernel), List.mem_of_getElem? (i := 884) (by decide +kernel)⟩
theorem lw_p30 : lw_okq (⟨"MakerGuardModel", "hold", "(IIIII)V"⟩, 38) := ⟨⟨by decide +kernel, by decide +kernel⟩, List.mem_of_getElem? (i := 687) (by decide +kernel), List.mem_of_getElem? (i := 887) (by decide +kernel), List.mem_of_getElem? (i := 888) (by decide +kernel)⟩
theorem lw_p31 : lw_okq (⟨"MakerGuardModel", "allFit", "(II)Z"⟩, 38) := ⟨⟨by decide +kernel, by decide +kernel⟩, List.mem_of_getElem? (i := 687) (by decide +kernel), List.mem_of_getElem? (i := 891) (by decide +kernel), List.mem_of_getElem? (i := 892) (by decide +kernel)⟩
def lw_privs_2 : List (MethodName × Nat) := [(⟨"MakerGuard$Guard", "mayReturn", "(I)Z"⟩, 6), (⟨"MakerGuard$Machine", "attempt", "()I"⟩, 10), (⟨"MakerGuard$Machine", "make", "(LMakerGuard$Frame;II)I"⟩, 10), (⟨"MakerGuard$Machine", "call", "(LMakerGuard$Frame;II)I"⟩, 10), (⟨"MakerGuard$Machine", "leave", "(LMakerGuard$Frame;I)V"⟩, 10), (⟨"MakerGuard$Machine", "move", "(LMakerGuard$Frame;LMakerGuard$Body;I)I"⟩, 10), (⟨"MakerGuardModel", "goes", "(ZZZ)Z"⟩, 38), (⟨"MakerGuardModel", "judge", "(I)Z"⟩, 38), (⟨"MakerGuardModel", "come", "(II)V"⟩, 38), (⟨"MakerGuardModel", "meet", "(II)V"⟩, 38), (⟨"MakerGuardModel", "look", "(II)V"⟩, 38), (⟨"MakerGuardModel", "choose", "(IIII)V"⟩, 38), (⟨"MakerGuardModel", "isHeld", "(I)Z"⟩, 38), (⟨"MakerGuardModel", "effect", "(IIIII)V"⟩, 38), (⟨"MakerGuardModel", "hold", "(IIIII)V"⟩, 38), (⟨"MakerGuardModel", "allFit", "(II)Z"⟩, 38)]
theorem lw_r2 : ∀ q ∈ lw_privs_2, lw_okq q := List.forall_mem_cons.mpr ⟨lw_p16, List.forall_mem_cons.mpr ⟨lw_p17, List.forall_mem_cons.mpr ⟨lw_p18, List.forall_mem_cons.mpr ⟨lw_p19, List.forall_mem_cons.mpr ⟨lw_p20, List.forall_mem_cons.mpr ⟨lw_p21, List.forall_mem_cons.mpr ⟨lw_p22, List.forall_mem_cons.mpr ⟨lw_p23, List.forall_mem_cons.mpr ⟨lw_p24, List.forall_mem_cons.mpr ⟨lw_p25, List.forall_mem_cons.mpr ⟨lw_p26, List.forall_mem_cons.mpr ⟨lw_p27, List.forall_mem_cons.mpr ⟨lw_p28, List.forall_mem_cons.mpr ⟨lw_p29, List.forall_mem_cons.mpr ⟨lw_p30, List.forall_mem_cons.mpr ⟨lw_p31, fun _ h => absurd h List.not_mem_nil⟩⟩⟩⟩⟩⟩⟩⟩⟩⟩⟩⟩⟩⟩⟩⟩
theorem lw_p32 : lw_okq (⟨"MakerGuardModel", "fits", "(IIZI)Z"⟩, 38) := ⟨⟨by decide +kernel, by decide +kernel⟩, List.mem_of_getElem? (i := 687) (by decide +kernel), List.mem_of_getElem? (i := 895) (by decide +kernel), List.mem_of_getElem? (i := 896) (by decide +kernel)⟩
theorem lw_p33 : lw_okq (⟨"MakerGuardModel", "stateOf", "(II)I"⟩, 38) := ⟨⟨by decide +kernel, by decide +kernel⟩, List.mem_of_getElem? (i := 687) (by decide +kernel), List.mem_of_getElem? (i := 899) (by decide +kernel), List.mem_of_getElem? (i := 900) (by decide +kernel)⟩
theorem lw_p34 : lw_okq (⟨"MakerGuardModel", "get", "(IIII)V"⟩, 38) := ⟨⟨by decide +kernel, by decide +kernel⟩, List.mem_of_getElem? (i := 687) (by decide +kernel), List.mem_of_getElem? (i := 903) (by decide +kernel), List.mem_of_getElem? (i := 904) (by decide +kernel)⟩
theorem lw_p35 : lw_okq (⟨"MakerGuardModel", "put", "(IIII)V"⟩, 38) := ⟨⟨by decide +kernel, by decide +kernel⟩, List.mem_of_getElem? (i := 687) (by decide +kernel), List.mem_of_getElem? (i := 907) (by decide +kernel), List.mem_of_getElem? (i := 908) (by decide +kernel)⟩
theorem lw_p36 : lw_okq (⟨"MakerGuardModel", "back", "(II)V"⟩, 38) := ⟨⟨by decide +kernel, by decide +kernel⟩, List.mem_of_getElem? (i := 687) (by decide +kernel), List.mem_of_getElem? (i := 911) (by decide +kernel), List.mem_of_getElem? (i := 912) (by decide +kernel)⟩
theorem lw_p37 : lw_okq (⟨"MakerGuardModel", "isPlace", "(II)Z"⟩, 38) := ⟨⟨by decide +kernel, by decide +kernel⟩, List.mem_of_getElem? (i := 687) (by decide +kernel), List.mem_of_getElem? (i := 919) (by decide +kernel), List.mem_of_getElem? (i := 920) (by decide +kernel)⟩
theorem lw_p38 : lw_okq (⟨"MakerGuardModel", "open", "(III)V"⟩, 38) := ⟨⟨by decide +kernel, by decide +kernel⟩, List.mem_of_getElem? (i := 687) (by decide +kernel), List.mem_of_getElem? (i := 931) (by decide +kernel), List.mem_of_getElem? (i := 932) (by decide +kernel)⟩
theorem lw_p39 : lw_okq (⟨"MakerGuardModel", "next", "()I"⟩, 38) := ⟨⟨by decide +kernel, by decide +kernel⟩, List.mem_of_getElem? (i := 687) (by decide +kernel), List.mem_of_getElem? (i := 939) (by decide +kernel), List.mem_of_getElem? (i := 940) (by decide +kernel)⟩
theorem lw_p40 : lw_okq (⟨"MakerGuardModel", "at", "()I"⟩, 38) := ⟨⟨by decide +kernel, by decide +kernel⟩, List.mem_of_getElem? (i := 687) (by decide +kernel), List.mem_of_getElem? (i := 943) (by decide +kernel), List.mem_of_getElem? (i := 944) (by decide +kernel)⟩
theorem lw_p41 : lw_okq (⟨"MakerGuardModel", "own", "(I)I"⟩, 38) := ⟨⟨by decide +kernel, by decide +kernel⟩, List.mem_of_getElem? (i := 687) (by decide +kernel), List.mem_of_getElem? (i := 947) (by decide +kernel), List.mem_of_getElem? (i := 948) (by decide +kernel)⟩
theorem lw_p42 : lw_okq (⟨"MakerGuardModel", "step", "()V"⟩, 38) := ⟨⟨by decide +kernel, by decide +kernel⟩, List.mem_of_getElem? (i := 687) (by decide +kernel), List.mem_of_getElem? (i := 951) (by decide +kernel), List.mem_of_getElem? (i := 952) (by decide +kernel)⟩
theorem lw_p43 : lw_okq (⟨"MakerGuardModel", "create", "(I)I"⟩, 38) := ⟨⟨by decide +kernel, by decide +kernel⟩, List.mem_of_getElem? (i := 687) (by decide +kernel), List.mem_of_getElem? (i := 955) (by decide +kernel), List.mem_of_getElem? (i := 956) (by decide +kernel)⟩
theorem lw_p44 : lw_okq (⟨"MakerGuardModel", "leave", "(I)V"⟩, 38) := ⟨⟨by decide +kernel, by decide +kernel⟩, List.mem_of_getElem? (i := 687) (by decide +kernel), List.mem_of_getElem? (i := 959) (by decide +kernel), List.mem_of_getElem? (i := 960) (by decide +kernel)⟩
def lw_privs_3 : List (MethodName × Nat) := [(⟨"MakerGuardModel", "fits", "(IIZI)Z"⟩, 38), (⟨"MakerGuardModel", "stateOf", "(II)I"⟩, 38), (⟨"MakerGuardModel", "get", "(IIII)V"⟩, 38), (⟨"MakerGuardModel", "put", "(IIII)V"⟩, 38), (⟨"MakerGuardModel", "back", "(II)V"⟩, 38), (⟨"MakerGuardModel", "isPlace", "(II)Z"⟩, 38), (⟨"MakerGuardModel", "open", "(III)V"⟩, 38), (⟨"MakerGuardModel", "next", "()I"⟩, 38), (⟨"MakerGuardModel", "at", "()I"⟩, 38), (⟨"MakerGuardModel", "own", "(I)I"⟩, 38), (⟨"MakerGuardModel", "step", "()V"⟩, 38), (⟨"MakerGuardModel", "create", "(I)I"⟩, 38), (⟨"MakerGuardModel", "leave", "(I)V"⟩, 38)]
theorem lw_r3 : ∀ q ∈ lw_privs_3, lw_okq q := List.forall_mem_cons.mpr ⟨lw_p32, List.forall_mem_cons.mpr ⟨lw_p33, List.forall_mem_cons.mpr ⟨lw_p34, List.forall_mem_cons.mpr ⟨lw_p35, List.forall_mem_cons.mpr ⟨lw_p36, List.forall_mem_cons.mpr ⟨lw_p37, List.forall_mem_cons.mpr ⟨lw_p38, List.forall_mem_cons.mpr ⟨lw_p39, List.forall_mem_cons.mpr ⟨lw_p40, List.forall_mem_cons.mpr ⟨lw_p41, List.forall_mem_cons.mpr ⟨lw_p42, List.forall_mem_cons.mpr ⟨lw_p43, List.forall_mem_cons.mpr ⟨lw_p44, fun _ h => absurd h List.not_mem_nil⟩⟩⟩⟩⟩⟩⟩⟩⟩⟩⟩⟩⟩
def lw_privs : List (MethodName × Nat) := lw_privs_1 ++ (lw_privs_2 ++ (lw_privs_3))
def lw_tbl : List Cond := k2_sels lw_privs ++ tables_1
theorem lw_privs_ok : ∀ q ∈ lw_privs, lw_okq q := by
  show ∀ q ∈ lw_privs_1 ++ (lw_privs_2 ++ (lw_privs_3)), lw_okq q
  exact List.forall_mem_append.mpr ⟨lw_r1, List.forall_mem_append.mpr ⟨lw_r2, lw_r3⟩⟩
-- ===== end of PART A; then your names; then what follows =====
end
section
theorem ax_mem_r {big : List Cond} (ws : List Cond) (ps : List Nat) (hp : ws = ps.filterMap (fun i => big[i]?)) : ∀ w ∈ ws, w ∈ big := by
  intro w hw
  rw [hp] at hw
  obtain ⟨i, -, hi⟩ := List.mem_filterMap.mp hw
  exact List.mem_of_getElem? hi
/-! classes of the worlds: names, fields in the order of the slots, types (2: a reference, 1: boolean, 0: int); written by wip/tools/gen02.py -/
def ax_T0 : u_T := fun k => match k with
  | 0 => ("MakerGuard$Body", "orders", "[I", true)
  | 1 => ("MakerGuard$Body", "xs", "[I", true)
  | 2 => ("MakerGuard$Body", "ys", "[I", true)
  | 3 => ("MakerGuard$Body", "zs", "[I", true)
  | 4 => ("MakerGuard$Body", "parameters", "[LMakerGuard$Declaration;", true)
  | 5 => ("MakerGuard$Body", "returned", "LMakerGuard$Declaration;", true)
  | 6 => ("MakerGuard$Body", "size", "I", false)
  | _ => ("MakerGuard$Body", "parameterCount", "I", false)
def ax_ty0 : Nat → FieldType := fun k => match k with
  | 0 => (.array .int)
  | 1 => (.array .int)
  | 2 => (.array .int)
  | 3 => (.array .int)
  | 4 => (.array (.object "MakerGuard$Declaration"))
  | 5 => (.object "MakerGuard$Declaration")
  | 6 => .int
  | _ => .int
def ax_ft0 : Nat → Nat := fun k => match k with
  | 0 => 2
  | 1 => 2
  | 2 => 2
  | 3 => 2
  | 4 => 2
  | 5 => 2
  | 6 => 0
  | _ => 0
def ax_T1 : u_T := fun k => match k with
  | 0 => ("MakerGuard$Declaration", "ofClass", "I", false)
  | 1 => ("MakerGuard$Declaration", "nullable", "Z", false)
  | _ => ("MakerGuard$Declaration", "stage", "I", false)
def ax_ty1 : Nat → FieldType := fun k => match k with
  | 0 => .int
  | 1 => .boolean
  | _ => .int
def ax_ft1 : Nat → Nat := fun k => match k with
  | 0 => 0
  | 1 => 1
  | _ => 0
def ax_T2 : u_T := fun k => match k with
  | 0 => ("MakerGuard$Frame", "locals", "[I", true)
  | 1 => ("MakerGuard$Frame", "body", "I", false)
  | 2 => ("MakerGuard$Frame", "place", "I", false)
  | _ => ("MakerGuard$Frame", "made", "I", false)
def ax_ty2 : Nat → FieldType := fun k => match k with
  | 0 => (.array .int)
  | 1 => .int
  | 2 => .int
  | _ => .int
def ax_ft2 : Nat → Nat := fun k => match k with
  | 0 => 2
  | 1 => 0
  | 2 => 0
  | _ => 0
def ax_T3 : u_T := fun k => match k with
  | 0 => ("MakerGuard$Guard", "program", "LMakerGuard$Program;", true)
  | 1 => ("MakerGuard$Guard", "sights", "[LMakerGuard$Sight;", true)
  | 2 => ("MakerGuard$Guard", "after", "LMakerGuard$Sight;", true)
  | 3 => ("MakerGuard$Guard", "verdicts", "[I", true)
  | 4 => ("MakerGuard$Guard", "watched", "I", false)
  | _ => ("MakerGuard$Guard", "body", "LMakerGuard$Body;", false)
def ax_ty3 : Nat → FieldType := fun k => match k with
  | 0 => (.object "MakerGuard$Program")
  | 1 => (.array (.object "MakerGuard$Sight"))
  | 2 => (.object "MakerGuard$Sight")
  | 3 => (.array .int)
  | 4 => .int
  | _ => (.object "MakerGuard$Body")
def ax_ft3 : Nat → Nat := fun k => match k with
  | 0 => 2
  | 1 => 2
  | 2 => 2
  | 3 => 2
  | 4 => 0
  | _ => 2
def ax_T4 : u_T := fun k => match k with
  | 0 => ("MakerGuard$Machine", "classOf", "[I", true)
  | 1 => ("MakerGuard$Machine", "fieldRow", "[I", true)
  | 2 => ("MakerGuard$Machine", "present", "Z", false)
  | 3 => ("MakerGuard$Machine", "depth", "I", false)
  | 4 => ("MakerGuard$Machine", "objectCount", "I", false)
  | 5 => ("MakerGuard$Machine", "program", "LMakerGuard$Program;", true)
  | 6 => ("MakerGuard$Machine", "frames", "[LMakerGuard$Frame;", true)
  | 7 => ("MakerGuard$Machine", "status", "I", false)
  | 8 => ("MakerGuard$Machine", "steps", "I", false)
  | _ => ("MakerGuard$Machine", "answer", "I", false)
def ax_ty4 : Nat → FieldType := fun k => match k with
  | 0 => (.array .int)
  | 1 => (.array .int)
  | 2 => .boolean
  | 3 => .int
  | 4 => .int
  | 5 => (.object "MakerGuard$Program")
  | 6 => (.array (.object "MakerGuard$Frame"))
  | 7 => .int
  | 8 => .int
  | _ => .int
def ax_ft4 : Nat → Nat := fun k => match k with
  | 0 => 2
  | 1 => 2
  | 2 => 1
  | 3 => 0
  | 4 => 0
  | 5 => 2
  | 6 => 2
  | 7 => 0
  | 8 => 0
  | _ => 0
def ax_T5 : u_T := fun k => match k with
  | 0 => ("MakerGuard$Program", "bodies", "[LMakerGuard$Body;", true)
  | _ => ("MakerGuard$Program", "fieldsOfAll", "[LMakerGuard$Declaration;", true)
def ax_ty5 : Nat → FieldType := fun k => match k with
  | 0 => (.array (.object "MakerGuard$Body"))
  | _ => (.array (.object "MakerGuard$Declaration"))
def ax_ft5 : Nat → Nat := fun k => match k with
  | 0 => 2
  | _ => 2
def ax_T6 : u_T := fun k => match k with
  | 0 => ("MakerGuard$Sight", "classes", "[I", true)
  | 1 => ("MakerGuard$Sight", "nullness", "[I", true)
  | 2 => ("MakerGuard$Sight", "stages", "[I", true)
  | 3 => ("MakerGuard$Sight", "put", "I", false)
  | 4 => ("MakerGuard$Sight", "reached", "Z", false)
  | _ => ("MakerGuard$Sight", "changed", "Z", false)
def ax_ty6 : Nat → FieldType := fun k => match k with
  | 0 => (.array .int)
  | 1 => (.array .int)
  | 2 => (.array .int)
  | 3 => .int
  | 4 => .boolean
  | _ => .boolean
def ax_ft6 : Nat → Nat := fun k => match k with
  | 0 => 2
  | 1 => 2
  | 2 => 2
  | 3 => 0
  | 4 => 1
  | _ => 1
def ax_T7 : u_T := fun k => match k with
  | 0 => ("MakerGuard", "program", "LMakerGuard$Program;", true)
  | 1 => ("MakerGuard", "guard", "LMakerGuard$Guard;", true)
  | _ => ("MakerGuard", "machine", "LMakerGuard$Machine;", true)
def ax_ty7 : Nat → FieldType := fun k => match k with
  | 0 => (.object "MakerGuard$Program")
  | 1 => (.object "MakerGuard$Guard")
  | _ => (.object "MakerGuard$Machine")
def ax_ft7 : Nat → Nat := fun k => match k with
  | 0 => 2
  | 1 => 2
  | _ => 2
def ax_T8 : u_T := fun k => match k with
  | 0 => ("MakerGuardModel", "thrown", "I", false)
  | 1 => ("MakerGuardModel", "fieldClasses", "[I", true)
  | 2 => ("MakerGuardModel", "isSure", "[Z", true)
  | 3 => ("MakerGuardModel", "many", "[I", true)
  | 4 => ("MakerGuardModel", "parameterClasses", "[I", true)
  | 5 => ("MakerGuardModel", "parameterNulls", "[Z", true)
  | 6 => ("MakerGuardModel", "parameterStates", "[I", true)
  | 7 => ("MakerGuardModel", "returnClasses", "[I", true)
  | 8 => ("MakerGuardModel", "returnSure", "[Z", true)
  | 9 => ("MakerGuardModel", "returnStates", "[I", true)
  | 10 => ("MakerGuardModel", "sizes", "[I", true)
  | 11 => ("MakerGuardModel", "orders", "[I", true)
  | 12 => ("MakerGuardModel", "xs", "[I", true)
  | 13 => ("MakerGuardModel", "ys", "[I", true)
  | 14 => ("MakerGuardModel", "zs", "[I", true)
  | 15 => ("MakerGuardModel", "comes", "[Z", true)
  | 16 => ("MakerGuardModel", "classes", "[I", true)
  | 17 => ("MakerGuardModel", "nulls", "[I", true)
  | 18 => ("MakerGuardModel", "states", "[I", true)
  | 19 => ("MakerGuardModel", "puts", "[I", true)
  | 20 => ("MakerGuardModel", "fails", "Z", false)
  | 21 => ("MakerGuardModel", "changes", "Z", false)
  | 22 => ("MakerGuardModel", "nowClasses", "[I", true)
  | 23 => ("MakerGuardModel", "nowNulls", "[I", true)
  | 24 => ("MakerGuardModel", "nowStates", "[I", true)
  | 25 => ("MakerGuardModel", "nowPuts", "I", false)
  | 26 => ("MakerGuardModel", "isRun", "Z", false)
  | 27 => ("MakerGuardModel", "frames", "I", false)
  | 28 => ("MakerGuardModel", "bodies", "[I", true)
  | 29 => ("MakerGuardModel", "places", "[I", true)
  | 30 => ("MakerGuardModel", "locals", "[I", true)
  | 31 => ("MakerGuardModel", "made", "[I", true)
  | 32 => ("MakerGuardModel", "trouble", "I", false)
  | 33 => ("MakerGuardModel", "steps", "I", false)
  | 34 => ("MakerGuardModel", "answer", "I", false)
  | 35 => ("MakerGuardModel", "objects", "I", false)
  | 36 => ("MakerGuardModel", "objectClasses", "[I", true)
  | _ => ("MakerGuardModel", "objectFields", "[I", true)
def ax_ty8 : Nat → FieldType := fun k => match k with
  | 0 => .int
  | 1 => (.array .int)
  | 2 => (.array .boolean)
  | 3 => (.array .int)
  | 4 => (.array .int)
  | 5 => (.array .boolean)
  | 6 => (.array .int)
  | 7 => (.array .int)
  | 8 => (.array .boolean)
  | 9 => (.array .int)
  | 10 => (.array .int)
  | 11 => (.array .int)
  | 12 => (.array .int)
  | 13 => (.array .int)
  | 14 => (.array .int)
  | 15 => (.array .boolean)
  | 16 => (.array .int)
  | 17 => (.array .int)
  | 18 => (.array .int)
  | 19 => (.array .int)
  | 20 => .boolean
  | 21 => .boolean
  | 22 => (.array .int)
  | 23 => (.array .int)
  | 24 => (.array .int)
  | 25 => .int
  | 26 => .boolean
  | 27 => .int
  | 28 => (.array .int)
  | 29 => (.array .int)
  | 30 => (.array .int)
  | 31 => (.array .int)
  | 32 => .int
  | 33 => .int
  | 34 => .int
  | 35 => .int
  | 36 => (.array .int)
  | _ => (.array .int)
def ax_ft8 : Nat → Nat := fun k => match k with
  | 0 => 0
  | 1 => 2
  | 2 => 2
  | 3 => 2
  | 4 => 2
  | 5 => 2
  | 6 => 2
  | 7 => 2
  | 8 => 2
  | 9 => 2
  | 10 => 2
  | 11 => 2
  | 12 => 2
  | 13 => 2
  | 14 => 2
  | 15 => 2
  | 16 => 2
  | 17 => 2
  | 18 => 2
  | 19 => 2
  | 20 => 1
  | 21 => 1
  | 22 => 2
  | 23 => 2
  | 24 => 2
  | 25 => 0
  | 26 => 1
  | 27 => 0
  | 28 => 2
  | 29 => 2
  | 30 => 2
  | 31 => 2
  | 32 => 0
  | 33 => 0
  | 34 => 0
  | 35 => 0
  | 36 => 2
  | _ => 2
def ax_cl : List vw_C := [("MakerGuard$Body", ax_T0, 8), ("MakerGuard$Declaration", ax_T1, 3), ("MakerGuard$Frame", ax_T2, 4), ("MakerGuard$Guard", ax_T3, 6), ("MakerGuard$Machine", ax_T4, 10), ("MakerGuard$Program", ax_T5, 2), ("MakerGuard$Sight", ax_T6, 6), ("MakerGuard", ax_T7, 3), ("MakerGuardModel", ax_T8, 38)]
def ax_ty : Nat → Nat → FieldType := fun c => match c with
  | 0 => ax_ty0
  | 1 => ax_ty1
  | 2 => ax_ty2
  | 3 => ax_ty3
  | 4 => ax_ty4
  | 5 => ax_ty5
  | 6 => ax_ty6
  | 7 => ax_ty7
  | _ => ax_ty8
def ax_ft : Nat → Nat → Nat := fun c => match c with
  | 0 => ax_ft0
  | 1 => ax_ft1
  | 2 => ax_ft2
  | 3 => ax_ft3
  | 4 => ax_ft4
  | 5 => ax_ft5
  | 6 => ax_ft6
  | 7 => ax_ft7
  | _ => ax_ft8
def ax_nf : Nat → Nat := fun c => match c with
  | 0 => 8
  | 1 => 3
  | 2 => 4
  | 3 => 6
  | 4 => 10
  | 5 => 2
  | 6 => 6
  | 7 => 3
  | _ => 38
def ax_cn : Nat → String := fun c => match c with
  | 0 => "MakerGuard$Body"
  | 1 => "MakerGuard$Declaration"
  | 2 => "MakerGuard$Frame"
  | 3 => "MakerGuard$Guard"
  | 4 => "MakerGuard$Machine"
  | 5 => "MakerGuard$Program"
  | 6 => "MakerGuard$Sight"
  | 7 => "MakerGuard"
  | _ => "MakerGuardModel"
def ax_Tf : Nat → u_T := fun c => match c with
  | 0 => ax_T0
  | 1 => ax_T1
  | 2 => ax_T2
  | 3 => ax_T3
  | 4 => ax_T4
  | 5 => ax_T5
  | 6 => ax_T6
  | 7 => ax_T7
  | _ => ax_T8
theorem ax_cl_at : ∀ ci, ci < 9 → ax_cl[ci]? = some (ax_cn ci, ax_Tf ci, ax_nf ci) := by
  intro ci h
  match ci, h with
  | 0, _ => rfl
  | 1, _ => rfl
  | 2, _ => rfl
  | 3, _ => rfl
  | 4, _ => rfl
  | 5, _ => rfl
  | 6, _ => rfl
  | 7, _ => rfl
  | 8, _ => rfl
  | n + 9, h => exact absurd h (by omega)
theorem ax_cl_of {ci : Nat} {q : vw_C} (h : ax_cl[ci]? = some q) : ci < 9 ∧ q = (ax_cn ci, ax_Tf ci, ax_nf ci) := by
  have hl : ci < 9 := (List.getElem?_eq_some_iff.mp h).1
  exact ⟨hl, Option.some.inj (h.symm.trans (ax_cl_at ci hl))⟩
theorem ax_tyok_0 : ∀ k, k < ax_nf 0 → parseFieldDescriptor (ax_Tf 0 k).2.2.1 = some (ax_ty 0 k) := by decide +kernel
theorem ax_tyok_1 : ∀ k, k < ax_nf 1 → parseFieldDescriptor (ax_Tf 1 k).2.2.1 = some (ax_ty 1 k) := by decide +kernel
theorem ax_tyok_2 : ∀ k, k < ax_nf 2 → parseFieldDescriptor (ax_Tf 2 k).2.2.1 = some (ax_ty 2 k) := by decide +kernel
theorem ax_tyok_3 : ∀ k, k < ax_nf 3 → parseFieldDescriptor (ax_Tf 3 k).2.2.1 = some (ax_ty 3 k) := by decide +kernel
theorem ax_tyok_4 : ∀ k, k < ax_nf 4 → parseFieldDescriptor (ax_Tf 4 k).2.2.1 = some (ax_ty 4 k) := by decide +kernel
theorem ax_tyok_5 : ∀ k, k < ax_nf 5 → parseFieldDescriptor (ax_Tf 5 k).2.2.1 = some (ax_ty 5 k) := by decide +kernel
theorem ax_tyok_6 : ∀ k, k < ax_nf 6 → parseFieldDescriptor (ax_Tf 6 k).2.2.1 = some (ax_ty 6 k) := by decide +kernel
theorem ax_tyok_7 : ∀ k, k < ax_nf 7 → parseFieldDescriptor (ax_Tf 7 k).2.2.1 = some (ax_ty 7 k) := by decide +kernel
theorem ax_tyok_8 : ∀ k, k < ax_nf 8 → parseFieldDescriptor (ax_Tf 8 k).2.2.1 = some (ax_ty 8 k) := by decide +kernel
theorem ax_tyok : ∀ ci, ci < 9 → ∀ k, k < ax_nf ci → parseFieldDescriptor (ax_Tf ci k).2.2.1 = some (ax_ty ci k) := by
  intro ci h
  match ci, h with
  | 0, _ => exact ax_tyok_0
  | 1, _ => exact ax_tyok_1
  | 2, _ => exact ax_tyok_2
  | 3, _ => exact ax_tyok_3
  | 4, _ => exact ax_tyok_4
  | 5, _ => exact ax_tyok_5
  | 6, _ => exact ax_tyok_6
  | 7, _ => exact ax_tyok_7
  | 8, _ => exact ax_tyok_8
  | n + 9, h => exact absurd h (by omega)
theorem ax_nmok_0 : ∀ a, a < ax_nf 0 → ∀ b, b < ax_nf 0 → a ≠ b → (ax_Tf 0 a).2.1 ≠ (ax_Tf 0 b).2.1 := by decide +kernel
theorem ax_nmok_1 : ∀ a, a < ax_nf 1 → ∀ b, b < ax_nf 1 → a ≠ b → (ax_Tf 1 a).2.1 ≠ (ax_Tf 1 b).2.1 := by decide +kernel
theorem ax_nmok_2 : ∀ a, a < ax_nf 2 → ∀ b, b < ax_nf 2 → a ≠ b → (ax_Tf 2 a).2.1 ≠ (ax_Tf 2 b).2.1 := by decide +kernel
theorem ax_nmok_3 : ∀ a, a < ax_nf 3 → ∀ b, b < ax_nf 3 → a ≠ b → (ax_Tf 3 a).2.1 ≠ (ax_Tf 3 b).2.1 := by decide +kernel
theorem ax_nmok_4 : ∀ a, a < ax_nf 4 → ∀ b, b < ax_nf 4 → a ≠ b → (ax_Tf 4 a).2.1 ≠ (ax_Tf 4 b).2.1 := by decide +kernel
theorem ax_nmok_5 : ∀ a, a < ax_nf 5 → ∀ b, b < ax_nf 5 → a ≠ b → (ax_Tf 5 a).2.1 ≠ (ax_Tf 5 b).2.1 := by decide +kernel
theorem ax_nmok_6 : ∀ a, a < ax_nf 6 → ∀ b, b < ax_nf 6 → a ≠ b → (ax_Tf 6 a).2.1 ≠ (ax_Tf 6 b).2.1 := by decide +kernel
theorem ax_nmok_7 : ∀ a, a < ax_nf 7 → ∀ b, b < ax_nf 7 → a ≠ b → (ax_Tf 7 a).2.1 ≠ (ax_Tf 7 b).2.1 := by decide +kernel
theorem ax_nmok_8 : ∀ a, a < ax_nf 8 → ∀ b, b < ax_nf 8 → a ≠ b → (ax_Tf 8 a).2.1 ≠ (ax_Tf 8 b).2.1 := by decide +kernel
theorem ax_nmok : ∀ ci, ci < 9 → ∀ a, a < ax_nf ci → ∀ b, b < ax_nf ci → a ≠ b → (ax_Tf ci a).2.1 ≠ (ax_Tf ci b).2.1 := by
  intro ci h
  match ci, h with
  | 0, _ => exact ax_nmok_0
  | 1, _ => exact ax_nmok_1
  | 2, _ => exact ax_nmok_2
  | 3, _ => exact ax_nmok_3
  | 4, _ => exact ax_nmok_4
  | 5, _ => exact ax_nmok_5
  | 6, _ => exact ax_nmok_6
  | 7, _ => exact ax_nmok_7
  | 8, _ => exact ax_nmok_8
  | n + 9, h => exact absurd h (by omega)
theorem ax_ftok_0 : ∀ k, k < ax_nf 0 → ((ax_ft 0 k = 0 ∧ ax_ty 0 k = .int) ∨ (ax_ft 0 k = 1 ∧ ax_ty 0 k = .boolean) ∨ (ax_ft 0 k = 2 ∧ (ax_ty 0 k).isReference = true)) := by decide +kernel
theorem ax_ftok_1 : ∀ k, k < ax_nf 1 → ((ax_ft 1 k = 0 ∧ ax_ty 1 k = .int) ∨ (ax_ft 1 k = 1 ∧ ax_ty 1 k = .boolean) ∨ (ax_ft 1 k = 2 ∧ (ax_ty 1 k).isReference = true)) := by decide +kernel
theorem ax_ftok_2 : ∀ k, k < ax_nf 2 → ((ax_ft 2 k = 0 ∧ ax_ty 2 k = .int) ∨ (ax_ft 2 k = 1 ∧ ax_ty 2 k = .boolean) ∨ (ax_ft 2 k = 2 ∧ (ax_ty 2 k).isReference = true)) := by decide +kernel
theorem ax_ftok_3 : ∀ k, k < ax_nf 3 → ((ax_ft 3 k = 0 ∧ ax_ty 3 k = .int) ∨ (ax_ft 3 k = 1 ∧ ax_ty 3 k = .boolean) ∨ (ax_ft 3 k = 2 ∧ (ax_ty 3 k).isReference = true)) := by decide +kernel
theorem ax_ftok_4 : ∀ k, k < ax_nf 4 → ((ax_ft 4 k = 0 ∧ ax_ty 4 k = .int) ∨ (ax_ft 4 k = 1 ∧ ax_ty 4 k = .boolean) ∨ (ax_ft 4 k = 2 ∧ (ax_ty 4 k).isReference = true)) := by decide +kernel
theorem ax_ftok_5 : ∀ k, k < ax_nf 5 → ((ax_ft 5 k = 0 ∧ ax_ty 5 k = .int) ∨ (ax_ft 5 k = 1 ∧ ax_ty 5 k = .boolean) ∨ (ax_ft 5 k = 2 ∧ (ax_ty 5 k).isReference = true)) := by decide +kernel
theorem ax_ftok_6 : ∀ k, k < ax_nf 6 → ((ax_ft 6 k = 0 ∧ ax_ty 6 k = .int) ∨ (ax_ft 6 k = 1 ∧ ax_ty 6 k = .boolean) ∨ (ax_ft 6 k = 2 ∧ (ax_ty 6 k).isReference = true)) := by decide +kernel
theorem ax_ftok_7 : ∀ k, k < ax_nf 7 → ((ax_ft 7 k = 0 ∧ ax_ty 7 k = .int) ∨ (ax_ft 7 k = 1 ∧ ax_ty 7 k = .boolean) ∨ (ax_ft 7 k = 2 ∧ (ax_ty 7 k).isReference = true)) := by decide +kernel
theorem ax_ftok_8 : ∀ k, k < ax_nf 8 → ((ax_ft 8 k = 0 ∧ ax_ty 8 k = .int) ∨ (ax_ft 8 k = 1 ∧ ax_ty 8 k = .boolean) ∨ (ax_ft 8 k = 2 ∧ (ax_ty 8 k).isReference = true)) := by decide +kernel
theorem ax_ftok : ∀ ci, ci < 9 → ∀ k, k < ax_nf ci → ((ax_ft ci k = 0 ∧ ax_ty ci k = .int) ∨ (ax_ft ci k = 1 ∧ ax_ty ci k = .boolean) ∨ (ax_ft ci k = 2 ∧ (ax_ty ci k).isReference = true)) := by
  intro ci h
  match ci, h with
  | 0, _ => exact ax_ftok_0
  | 1, _ => exact ax_ftok_1
  | 2, _ => exact ax_ftok_2
  | 3, _ => exact ax_ftok_3
  | 4, _ => exact ax_ftok_4
  | 5, _ => exact ax_ftok_5
  | 6, _ => exact ax_ftok_6
  | 7, _ => exact ax_ftok_7
  | 8, _ => exact ax_ftok_8
  | n + 9, h => exact absurd h (by omega)
theorem ax_ownok_0 : ∀ k, k < ax_nf 0 → (ax_Tf 0 k).1 = ax_cn 0 := by decide +kernel
theorem ax_ownok_1 : ∀ k, k < ax_nf 1 → (ax_Tf 1 k).1 = ax_cn 1 := by decide +kernel
theorem ax_ownok_2 : ∀ k, k < ax_nf 2 → (ax_Tf 2 k).1 = ax_cn 2 := by decide +kernel
theorem ax_ownok_3 : ∀ k, k < ax_nf 3 → (ax_Tf 3 k).1 = ax_cn 3 := by decide +kernel
theorem ax_ownok_4 : ∀ k, k < ax_nf 4 → (ax_Tf 4 k).1 = ax_cn 4 := by decide +kernel
theorem ax_ownok_5 : ∀ k, k < ax_nf 5 → (ax_Tf 5 k).1 = ax_cn 5 := by decide +kernel
theorem ax_ownok_6 : ∀ k, k < ax_nf 6 → (ax_Tf 6 k).1 = ax_cn 6 := by decide +kernel
theorem ax_ownok_7 : ∀ k, k < ax_nf 7 → (ax_Tf 7 k).1 = ax_cn 7 := by decide +kernel
theorem ax_ownok_8 : ∀ k, k < ax_nf 8 → (ax_Tf 8 k).1 = ax_cn 8 := by decide +kernel
theorem ax_ownok : ∀ ci, ci < 9 → ∀ k, k < ax_nf ci → (ax_Tf ci k).1 = ax_cn ci := by
  intro ci h
  match ci, h with
  | 0, _ => exact ax_ownok_0
  | 1, _ => exact ax_ownok_1
  | 2, _ => exact ax_ownok_2
  | 3, _ => exact ax_ownok_3
  | 4, _ => exact ax_ownok_4
  | 5, _ => exact ax_ownok_5
  | 6, _ => exact ax_ownok_6
  | 7, _ => exact ax_ownok_7
  | 8, _ => exact ax_ownok_8
  | n + 9, h => exact absurd h (by omega)
theorem ax_in_0 : ∀ w ∈ u_ws (ax_cn 0) (ax_Tf 0) (ax_nf 0), w ∈ lw_tbl := ax_mem_r (u_ws (ax_cn 0) (ax_Tf 0) (ax_nf 0)) [133, 135, 137, 139, 141, 143, 145, 147] (by decide +kernel)
theorem ax_in_1 : ∀ w ∈ u_ws (ax_cn 1) (ax_Tf 1) (ax_nf 1), w ∈ lw_tbl := ax_mem_r (u_ws (ax_cn 1) (ax_Tf 1) (ax_nf 1)) [101, 103, 105] (by decide +kernel)
theorem ax_in_2 : ∀ w ∈ u_ws (ax_cn 2) (ax_Tf 2) (ax_nf 2), w ∈ lw_tbl := ax_mem_r (u_ws (ax_cn 2) (ax_Tf 2) (ax_nf 2)) [241, 243, 245, 247] (by decide +kernel)
theorem ax_in_3 : ∀ w ∈ u_ws (ax_cn 3) (ax_Tf 3) (ax_nf 3), w ∈ lw_tbl := ax_mem_r (u_ws (ax_cn 3) (ax_Tf 3) (ax_nf 3)) [206, 208, 210, 212, 214, 216] (by decide +kernel)
theorem ax_in_4 : ∀ w ∈ u_ws (ax_cn 4) (ax_Tf 4) (ax_nf 4), w ∈ lw_tbl := ax_mem_r (u_ws (ax_cn 4) (ax_Tf 4) (ax_nf 4)) [265, 267, 269, 271, 273, 275, 277, 279, 281, 283] (by decide +kernel)
theorem ax_in_5 : ∀ w ∈ u_ws (ax_cn 5) (ax_Tf 5) (ax_nf 5), w ∈ lw_tbl := ax_mem_r (u_ws (ax_cn 5) (ax_Tf 5) (ax_nf 5)) [156, 158] (by decide +kernel)
theorem ax_in_6 : ∀ w ∈ u_ws (ax_cn 6) (ax_Tf 6) (ax_nf 6), w ∈ lw_tbl := ax_mem_r (u_ws (ax_cn 6) (ax_Tf 6) (ax_nf 6)) [187, 189, 191, 193, 195, 197] (by decide +kernel)
theorem ax_in_7 : ∀ w ∈ u_ws (ax_cn 7) (ax_Tf 7) (ax_nf 7), w ∈ lw_tbl := ax_mem_r (u_ws (ax_cn 7) (ax_Tf 7) (ax_nf 7)) [289, 291, 293] (by decide +kernel)
theorem ax_in_8 : ∀ w ∈ u_ws (ax_cn 8) (ax_Tf 8) (ax_nf 8), w ∈ lw_tbl := ax_mem_r (u_ws (ax_cn 8) (ax_Tf 8) (ax_nf 8)) [775, 777, 779, 781, 783, 785, 787, 789, 791, 793, 795, 797, 799, 801, 803, 805, 807, 809, 811, 813, 815, 817, 819, 821, 823, 825, 827, 829, 831, 833, 835, 837, 839, 841, 843, 845, 847, 849] (by decide +kernel)
theorem ax_in : ∀ ci, ci < 9 → ∀ w ∈ u_ws (ax_cn ci) (ax_Tf ci) (ax_nf ci), w ∈ lw_tbl := by
  intro ci h
  match ci, h with
  | 0, _ => exact ax_in_0
  | 1, _ => exact ax_in_1
  | 2, _ => exact ax_in_2
  | 3, _ => exact ax_in_3
  | 4, _ => exact ax_in_4
  | 5, _ => exact ax_in_5
  | 6, _ => exact ax_in_6
  | 7, _ => exact ax_in_7
  | 8, _ => exact ax_in_8
  | n + 9, h => exact absurd h (by omega)
theorem ax_inst : ∀ ci, ci < 9 → Cond.instantiable (ax_cn ci) (ax_nf ci) ∈ lw_tbl := by
  intro ci h
  match ci, h with
  | 0, _ => exact List.mem_of_getElem? (i := 82) (by decide +kernel)
  | 1, _ => exact List.mem_of_getElem? (i := 88) (by decide +kernel)
  | 2, _ => exact List.mem_of_getElem? (i := 227) (by decide +kernel)
  | 3, _ => exact List.mem_of_getElem? (i := 162) (by decide +kernel)
  | 4, _ => exact List.mem_of_getElem? (i := 220) (by decide +kernel)
  | 5, _ => exact List.mem_of_getElem? (i := 73) (by decide +kernel)
  | 6, _ => exact List.mem_of_getElem? (i := 169) (by decide +kernel)
  | 7, _ => exact List.mem_of_getElem? (i := 65) (by decide +kernel)
  | 8, _ => exact List.mem_of_getElem? (i := 732) (by decide +kernel)
  | n + 9, h => exact absurd h (by omega)
theorem ax_init : ∀ ci, ci < 9 → Cond.initialized (ax_cn ci) ∈ lw_tbl := by
  intro ci h
  match ci, h with
  | 0, _ => exact List.mem_of_getElem? (i := 48) (by decide +kernel)
  | 1, _ => exact List.mem_of_getElem? (i := 49) (by decide +kernel)
  | 2, _ => exact List.mem_of_getElem? (i := 53) (by decide +kernel)
  | 3, _ => exact List.mem_of_getElem? (i := 50) (by decide +kernel)
  | 4, _ => exact List.mem_of_getElem? (i := 52) (by decide +kernel)
  | 5, _ => exact List.mem_of_getElem? (i := 47) (by decide +kernel)
  | 6, _ => exact List.mem_of_getElem? (i := 51) (by decide +kernel)
  | 7, _ => exact List.mem_of_getElem? (i := 46) (by decide +kernel)
  | 8, _ => exact List.mem_of_getElem? (i := 54) (by decide +kernel)
  | n + 9, h => exact absurd h (by omega)
end
section
/-! THE ABSTRACT MACHINE. A heap: ((cells made, slots made), what a cell is (kind, length), its ints, its references, its longs), by the cell's number since the law's start. Kinds: 1 + c an object of class c; 20 int[], 21 boolean[], 22 long[]; 30 + c an array of class c; 0 nothing is known. Address 1000000000 is the script. -/
abbrev ax_H : Type := (Nat × Nat) × (Nat → Nat × Nat) × (Nat → Nat → Int32) × (Nat → Nat → Option Nat) × (Nat → Nat → Int64)
abbrev ax_R : Type := Nat × Nat × Nat × Nat × Int
abbrev ax_L : Type := List (Option Value)
def ax_up {α : Type} (f : Nat → Nat → α) (a i : Nat) (x : α) : Nat → Nat → α := fun b j => if b = a ∧ j = i then x else f b j
def ax_rw {α : Type} (f : Nat → Nat → α) (a : Nat) (g : Nat → α) : Nat → Nat → α := fun b => if b = a then g else f b
def ax_sh (f : Nat → Nat × Nat) (a : Nat) (x : Nat × Nat) : Nat → Nat × Nat := fun b => if b = a then x else f b
def ax_bin (o : Nat) (x y : Int32) : Int32 := match o with
  | 0 => x + y
  | 1 => x - y
  | 2 => x * y
  | 3 => x &&& y
  | 4 => x ||| y
  | 5 => x ^^^ y
  | 6 => x <<< (y &&& 31)
  | _ => x >>> (y &&& 31)
def ax_c1 (o : Nat) (x : Int32) : Bool := match o with
  | 0 => decide (x = 0)
  | 1 => decide (¬ x = 0)
  | 2 => decide (x < 0)
  | 3 => decide (0 ≤ x)
  | 4 => decide (0 < x)
  | _ => decide (x ≤ 0)
def ax_c2 (o : Nat) (x y : Int32) : Bool := match o with
  | 0 => decide (x = y)
  | 1 => decide (¬ x = y)
  | 2 => decide (x < y)
  | 3 => decide (y ≤ x)
  | 4 => decide (y < x)
  | _ => decide (x ≤ y)
/-- what a field holds, as a value -/
def ax_fv (h : ax_H) (ci a i : Nat) : Option Value := if ax_ft ci i = 2 then (h.2.2.2.1 a i).map Value.ref else some (.int (h.2.2.1 a i))
/-- a new cell: its kind, its length, how many slots -/
def ax_new (h : ax_H) (kd n : Nat) : ax_H := ((h.1.1 + 1, h.1.2 + n), ax_sh h.2.1 h.1.1 (kd, n), ax_rw h.2.2.1 h.1.1 (fun _ => 0), ax_rw h.2.2.2.1 h.1.1 (fun _ => none), ax_rw h.2.2.2.2 h.1.1 (fun _ => 0))
def ax_out (i : Int32) (n : Nat) : Bool := decide (i < 0 ∨ n ≤ i.toNatClampNeg)
/-- the switches: the least number, the targets, the default -/
abbrev ax_G : Type := Option (Nat × ax_L × List Value × ax_H)
def ax_s1 (pc : Nat) (ls : ax_L) (st : List Value) (h : ax_H) (x : Nat) : ax_G := match ls[x]? with
  | some (some (.int a)) => some (pc, ls, .int a :: st, h)
  | _ => none
def ax_s2 (pc : Nat) (ls : ax_L) (st : List Value) (h : ax_H) (x : Nat) : ax_G := match ls[x]? with
  | some (some (.ref a)) => some (pc, ls, .ref a :: st, h)
  | _ => none
def ax_s3 (pc : Nat) (ls : ax_L) (st : List Value) (h : ax_H) (x : Nat) : ax_G := match st with
  | .int a :: r => if x < ls.length then some (pc, ls.set x (some (.int a)), r, h) else none
  | _ => none
def ax_s4 (pc : Nat) (ls : ax_L) (st : List Value) (h : ax_H) (x : Nat) : ax_G := match st with
  | .ref a :: r => if x < ls.length then some (pc, ls.set x (some (.ref a)), r, h) else none
  | _ => none
def ax_s5 (pc : Nat) (ls : ax_L) (st : List Value) (h : ax_H) (x : Nat) (v : Int) : ax_G := match ls[x]? with
  | some (some (.int a)) => some (pc, ls.set x (some (.int (a + Int32.ofInt v))), st, h)
  | _ => none
def ax_s6 (pc : Nat) (ls : ax_L) (st : List Value) (h : ax_H) (x : Nat) : ax_G := match st with
  | .int b :: .int a :: r => some (pc, ls, .int (ax_bin x a b) :: r, h)
  | _ => none
def ax_s7 (pc : Nat) (ls : ax_L) (st : List Value) (h : ax_H) : ax_G := match st with
  | .int a :: r => some (pc, ls, .long a.toInt64 :: r, h)
  | _ => none
def ax_s8 (pc : Nat) (ls : ax_L) (st : List Value) (h : ax_H) : ax_G := match st with
  | .long b :: .long a :: r => some (pc, ls, .int (lg_cmp a b) :: r, h)
  | _ => none
def ax_s10 (pc : Nat) (ls : ax_L) (st : List Value) (h : ax_H) : ax_G := match st with
  | .int a :: r => some (pc, ls, .int a :: .int a :: r, h)
  | .ref a :: r => some (pc, ls, .ref a :: .ref a :: r, h)
  | _ => none
def ax_s11 (pc : Nat) (ls : ax_L) (st : List Value) (h : ax_H) : ax_G := match st with
  | .int a :: .ref b :: r => some (pc, ls, .int a :: .ref b :: .int a :: .ref b :: r, h)
  | _ => none
def ax_s12 (pc : Nat) (ls : ax_L) (st : List Value) (h : ax_H) (x y : Nat) : ax_G := match st with
  | .int a :: r => some (if ax_c1 x a then y else pc, ls, r, h)
  | _ => none
def ax_s13 (pc : Nat) (ls : ax_L) (st : List Value) (h : ax_H) (x y : Nat) : ax_G := match st with
  | .int b :: .int a :: r => some (if ax_c2 x a b then y else pc, ls, r, h)
  | _ => none
def ax_s15 (pc : Nat) (ls : ax_L) (st : List Value) (h : ax_H) (x y : Nat) : ax_G := match st with
  | .ref a :: r => if a < h.1.1 ∧ (h.2.1 a).1 = x + 1 ∧ x < 9 ∧ y < ax_nf x then (ax_fv h x a y).map fun v => (pc, ls, v :: r, h) else none
  | _ => none
def ax_s17 (pc : Nat) (ls : ax_L) (st : List Value) (h : ax_H) (x y : Nat) : ax_G := match st with
  | .int v :: .ref a :: r => if a < h.1.1 ∧ (h.2.1 a).1 = x + 1 ∧ x < 9 ∧ y < ax_nf x ∧ (ax_ft x y = 0 ∨ (ax_ft x y = 1 ∧ (v = 0 ∨ v = 1))) then some (pc, ls, r, (h.1, h.2.1, ax_up h.2.2.1 a y v, h.2.2.2)) else none
  | .ref v :: .ref a :: r => if a < h.1.1 ∧ (h.2.1 a).1 = x + 1 ∧ x < 9 ∧ y < ax_nf x ∧ ax_ft x y = 2 then some (pc, ls, r, (h.1, h.2.1, h.2.2.1, ax_up h.2.2.2.1 a y (some v), h.2.2.2.2)) else none
  | _ => none
def ax_s19 (kd : Nat) (pc : Nat) (ls : ax_L) (st : List Value) (h : ax_H) : ax_G := match st with
  | .int i :: .ref a :: r => if a < h.1.1 ∧ (h.2.1 a).1 = kd ∧ ax_out i (h.2.1 a).2 = false then some (pc, ls, .int (h.2.2.1 a i.toNatClampNeg) :: r, h) else none
  | _ => none
/-- the script: read by the law alone -/
def ax_s19s (k : Nat) (pc : Nat) (ls : ax_L) (st : List Value) (h : ax_H) : ax_G := match st with
  | .int i :: .ref a :: r => if k = 0 ∧ a = 1000000000 ∧ ax_out i (h.2.1 a).2 = false then some (pc, ls, .int (h.2.2.1 a i.toNatClampNeg) :: r, h) else none
  | _ => none
def ax_s20 (kd : Nat) (pc : Nat) (ls : ax_L) (st : List Value) (h : ax_H) : ax_G := match st with
  | .int v :: .int i :: .ref a :: r => if a < h.1.1 ∧ (h.2.1 a).1 = kd ∧ ax_out i (h.2.1 a).2 = false ∧ (kd = 20 ∨ (kd = 21 ∧ (v = 0 ∨ v = 1))) then some (pc, ls, r, (h.1, h.2.1, ax_up h.2.2.1 a i.toNatClampNeg v, h.2.2.2)) else none
  | _ => none
def ax_s23 (pc : Nat) (ls : ax_L) (st : List Value) (h : ax_H) : ax_G := match st with
  | .int i :: .ref a :: r => if a < h.1.1 ∧ (h.2.1 a).1 = 22 ∧ ax_out i (h.2.1 a).2 = false then some (pc, ls, .long (h.2.2.2.2 a i.toNatClampNeg) :: r, h) else none
  | _ => none
def ax_s24 (pc : Nat) (ls : ax_L) (st : List Value) (h : ax_H) : ax_G := match st with
  | .long v :: .int i :: .ref a :: r => if a < h.1.1 ∧ (h.2.1 a).1 = 22 ∧ ax_out i (h.2.1 a).2 = false then some (pc, ls, r, (h.1, h.2.1, h.2.2.1, h.2.2.2.1, ax_up h.2.2.2.2 a i.toNatClampNeg v)) else none
  | _ => none
def ax_ra (x : Nat) : Bool := x == 30 || x == 31 || x == 32 || x == 36
def ax_s25 (pc : Nat) (ls : ax_L) (st : List Value) (h : ax_H) : ax_G := match st with
  | .int i :: .ref a :: r => if a < h.1.1 ∧ ax_ra (h.2.1 a).1 = true ∧ ax_out i (h.2.1 a).2 = false then (h.2.2.2.1 a i.toNatClampNeg).map fun v => (pc, ls, .ref v :: r, h) else none
  | _ => none
def ax_s26 (pc : Nat) (ls : ax_L) (st : List Value) (h : ax_H) : ax_G := match st with
  | .ref v :: .int i :: .ref a :: r => if a < h.1.1 ∧ v < h.1.1 ∧ ax_ra (h.2.1 a).1 = true ∧ (h.2.1 v).1 + 29 = (h.2.1 a).1 ∧ ax_out i (h.2.1 a).2 = false then some (pc, ls, r, (h.1, h.2.1, h.2.2.1, ax_up h.2.2.2.1 a i.toNatClampNeg (some v), h.2.2.2.2)) else none
  | _ => none
def ax_s27 (k : Nat) (pc : Nat) (ls : ax_L) (st : List Value) (h : ax_H) : ax_G := match st with
  | .ref a :: r => if (a < h.1.1 ∧ (h.2.1 a).1 = 20) ∨ (k = 0 ∧ a = 1000000000) then some (pc, ls, .int (Int32.ofNat (h.2.1 a).2) :: r, h) else none
  | _ => none
def ax_s28 (pc : Nat) (ls : ax_L) (st : List Value) (h : ax_H) (x : Nat) : ax_G := if x < 9 ∧ h.1.1 < 900000000 then some (pc, ls, .ref h.1.1 :: st, ax_new h (x + 1) (ax_nf x)) else none
def ax_s29 (pc : Nat) (ls : ax_L) (st : List Value) (h : ax_H) (x : Nat) : ax_G := match st with
  | .int n :: r => if h.1.1 < 900000000 ∧ ¬ n < 0 ∧ n.toNatClampNeg ≤ 10000 ∧ (x = 20 ∨ x = 21 ∨ x = 22) then some (pc, ls, .ref h.1.1 :: r, ax_new h x n.toNatClampNeg) else none
  | _ => none
def ax_s30 (pc : Nat) (ls : ax_L) (st : List Value) (h : ax_H) (x : Nat) : ax_G := match st with
  | .int n :: r => if h.1.1 < 900000000 ∧ ¬ n < 0 ∧ n.toNatClampNeg ≤ 10000 ∧ (x = 0 ∨ x = 1 ∨ x = 2 ∨ x = 6) then some (pc, ls, .ref h.1.1 :: r, ax_new h (x + 30) n.toNatClampNeg) else none
  | _ => none
def ax_s31 (pc : Nat) (ls : ax_L) (st : List Value) (h : ax_H) : ax_G := match st with
  | .ref _ :: r => if (r.map fun v => v.category).sum ≤ 8 then some (pc, ls, r, h) else none
  | _ => none
/-- System.arraycopy of a whole int[] of eight onto another one -/
def ax_s32 (pc : Nat) (ls : ax_L) (st : List Value) (h : ax_H) : ax_G := match st with
  | .int n :: .int d :: .ref b :: .int c :: .ref a :: r => if a < h.1.1 ∧ b < h.1.1 ∧ a ≠ b ∧ h.2.1 a = (20, 8) ∧ h.2.1 b = (20, 8) ∧ n = 8 ∧ c = 0 ∧ d = 0 ∧ r = [] then some (pc, ls, r, (h.1, h.2.1, ax_rw h.2.2.1 b (fun j => if j < 8 then h.2.2.1 a j else h.2.2.1 b j), h.2.2.2)) else none
  | _ => none
def ax_s33 (ls : ax_L) (st : List Value) (h : ax_H) (w : Int × List Nat × Nat) : ax_G := match st with
  | .int a :: r => some (if a.toInt < w.1 then w.2.2 else (w.2.1[(a.toInt - w.1).toNat]?).getD w.2.2, ls, r, h)
  | _ => none
def ax_sw : Nat → Int × List Nat × Nat := fun c => match c with
  | 0 => (0, [112, 200, 320, 408, 512, 568, 631, 723, 791, 827, 883, 939, 995, 1063], 1119)
  | 1 => (0, [100, 133, 168, 203, 238, 265, 275, 281], 316)
  | 2 => (2, [80, 177, 177, 132, 165, 98, 119], 177)
  | 3 => (0, [40, 45, 50, 55, 74, 93], 98)
  | 4 => (0, [64, 142, 71, 119, 119, 142, 142, 95], 142)
  | 5 => (0, [52, 100, 112, 159, 172, 255, 255, 185, 246], 255)
  | 6 => (0, [116, 133, 146, 161, 188, 211, 249, 264], 278)
  | _ => (0, [60, 87, 92, 97, 120, 143], 148)
/-- one step of a method k, ahead of pc, by its row; no call, no end -/
def ax_step (k pc : Nat) (r : ax_R) (ls : ax_L) (st : List Value) (h : ax_H) : ax_G := match r.1 with
  | 0 => some (pc + r.2.1, ls, .int (Int32.ofInt r.2.2.2.2) :: st, h)
  | 1 => ax_s1 (pc + r.2.1) ls st h r.2.2.1
  | 2 => ax_s2 (pc + r.2.1) ls st h r.2.2.1
  | 3 => ax_s3 (pc + r.2.1) ls st h r.2.2.1
  | 4 => ax_s4 (pc + r.2.1) ls st h r.2.2.1
  | 5 => ax_s5 (pc + r.2.1) ls st h r.2.2.1 r.2.2.2.2
  | 6 => ax_s6 (pc + r.2.1) ls st h r.2.2.1
  | 7 => ax_s7 (pc + r.2.1) ls st h
  | 8 => ax_s8 (pc + r.2.1) ls st h
  | 9 => some (pc + r.2.1, ls, .long (Int64.ofNat r.2.2.1) :: st, h)
  | 10 => ax_s10 (pc + r.2.1) ls st h
  | 11 => ax_s11 (pc + r.2.1) ls st h
  | 12 => ax_s12 (pc + r.2.1) ls st h r.2.2.1 r.2.2.2.1
  | 13 => ax_s13 (pc + r.2.1) ls st h r.2.2.1 r.2.2.2.1
  | 14 => some (r.2.2.2.1, ls, st, h)
  | 15 => ax_s15 (pc + r.2.1) ls st h r.2.2.1 r.2.2.2.1
  | 16 => ax_s15 (pc + r.2.1) ls st h r.2.2.1 r.2.2.2.1
  | 17 => ax_s17 (pc + r.2.1) ls st h r.2.2.1 r.2.2.2.1
  | 18 => ax_s17 (pc + r.2.1) ls st h r.2.2.1 r.2.2.2.1
  | 19 => ax_s19 20 (pc + r.2.1) ls st h
  | 20 => ax_s20 20 (pc + r.2.1) ls st h
  | 21 => ax_s19 21 (pc + r.2.1) ls st h
  | 22 => ax_s20 21 (pc + r.2.1) ls st h
  | 23 => ax_s23 (pc + r.2.1) ls st h
  | 24 => ax_s24 (pc + r.2.1) ls st h
  | 25 => ax_s25 (pc + r.2.1) ls st h
  | 26 => ax_s26 (pc + r.2.1) ls st h
  | 27 => ax_s27 k (pc + r.2.1) ls st h
  | 28 => ax_s28 (pc + r.2.1) ls st h r.2.2.1
  | 29 => ax_s29 (pc + r.2.1) ls st h r.2.2.1
  | 30 => ax_s30 (pc + r.2.1) ls st h r.2.2.1
  | 31 => ax_s31 (pc + r.2.1) ls st h
  | 32 => ax_s32 (pc + r.2.1) ls st h
  | 33 => ax_s33 ls st h (ax_sw r.2.2.1)
  | 34 => ax_s19s k (pc + r.2.1) ls st h
  | _ => none
end
section
/-! what an abstract heap says of the machine's heap H: cell a lies at b0 + a; the script at b -/
def ax_g (b b0 a : Nat) : Nat := if a = 1000000000 then b else b0 + a
def ax_cv (b b0 : Nat) (v : Value) : Value := match v with
  | .ref a => .ref (ax_g b b0 a)
  | v => v
def ax_fw (b b0 : Nat) (h : ax_H) (ci a i : Nat) : Value := if ax_ft ci i = 2 then va_rf ((h.2.2.2.1 a i).map (ax_g b b0)) else .int (h.2.2.1 a i)
def ax_cell (D : va_G) (cA : Nat → ClassId) (b b0 : Nat) (h : ax_H) (a : Nat) (H : Heap) : Prop :=
  (∀ ci, ci < 9 → (h.2.1 a).1 = ci + 1 → t_OB (b0 + a) (D.1 ci) (ax_nf ci) (D.2 ci) H (ax_fw b b0 h ci a)) ∧
  ((h.2.1 a).1 = 20 ∨ (h.2.1 a).1 = 21 → H[b0 + a]? = some (arrV (cA (h.2.1 a).1) (h.2.1 a).2 (fun j => .int (h.2.2.1 a j)))) ∧
  ((h.2.1 a).1 = 22 → H[b0 + a]? = some (arrV (cA 22) (h.2.1 a).2 (fun j => .long (h.2.2.2.2 a j)))) ∧
  (ax_ra (h.2.1 a).1 = true → H[b0 + a]? = some (arrV (cA (h.2.1 a).1) (h.2.1 a).2 (fun j => va_rf ((h.2.2.2.1 a j).map (ax_g b b0)))))
def ax_rel (D : va_G) (cA : Nat → ClassId) (b b0 : Nat) (S : (Nat × Nat) × (Nat → Int32)) (h : ax_H) (H : Heap) : Prop := H.size = b0 + h.1.1 ∧ h.1.1 < 1000000000 ∧ (∀ a, a < h.1.1 → ax_cell D cA b b0 h a H) ∧ h.2.1 1000000000 = S.1 ∧ h.2.2.1 1000000000 = S.2
theorem ax_g_lt {b b0 a : Nat} (h : a < 1000000000) : ax_g b b0 a = b0 + a := by
  unfold ax_g; rw [if_neg (by omega)]
theorem ax_cv_int (b b0 : Nat) (x : Int32) : ax_cv b b0 (.int x) = .int x := rfl
theorem ax_cv_long (b b0 : Nat) (x : Int64) : ax_cv b b0 (.long x) = .long x := rfl
theorem ax_cv_ref (b b0 : Nat) (a : Nat) : ax_cv b b0 (.ref a) = .ref (ax_g b b0 a) := rfl
theorem ax_cv_cat (b b0 : Nat) (v : Value) : (ax_cv b b0 v).category = v.category := by cases v <;> rfl
theorem ax_cell_congr {D : va_G} {cA : Nat → ClassId} {b b0 : Nat} {h h' : ax_H} {a : Nat} {H H' : Heap} (e1 : h'.2.1 a = h.2.1 a) (e2 : h'.2.2.1 a = h.2.2.1 a) (e3 : h'.2.2.2.1 a = h.2.2.2.1 a) (e4 : h'.2.2.2.2 a = h.2.2.2.2 a) (eH : H'[b0 + a]? = H[b0 + a]?) (hc : ax_cell D cA b b0 h a H) : ax_cell D cA b b0 h' a H' := by
  obtain ⟨c1, c2, c3, c4⟩ := hc
  unfold ax_cell
  rw [e1, e2, e3, e4, eH]
  refine ⟨fun ci h9 hk => ?_, c2, c3, c4⟩
  refine ((c1 ci h9 hk).kept eH).to (fun i hi => ?_)
  unfold ax_fw
  rw [e2, e3]
theorem ax_up_other {α : Type} (f : Nat → Nat → α) {a a' i : Nat} (x : α) (h : a' ≠ a) : ax_up f a i x a' = f a' := by
  funext j
  simp [ax_up, h]
theorem ax_up_self {α : Type} (f : Nat → Nat → α) (a i : Nat) (x : α) : ax_up f a i x a = fun j => if j = i then x else f a j := by
  funext j
  simp [ax_up]
theorem ax_rw_other {α : Type} (f : Nat → Nat → α) {a a' : Nat} (g : Nat → α) (h : a' ≠ a) : ax_rw f a g a' = f a' := by
  simp [ax_rw, h]
theorem ax_rw_self {α : Type} (f : Nat → Nat → α) (a : Nat) (g : Nat → α) : ax_rw f a g a = g := by
  simp [ax_rw]
theorem ax_sh_other (f : Nat → Nat × Nat) {a a' : Nat} (x : Nat × Nat) (h : a' ≠ a) : ax_sh f a x a' = f a' := by
  simp [ax_sh, h]
theorem ax_sh_self (f : Nat → Nat × Nat) (a : Nat) (x : Nat × Nat) : ax_sh f a x a = x := by
  simp [ax_sh]
/-- a cell is pushed: the rest stays -/
theorem ax_rel_new {D : va_G} {cA : Nat → ClassId} {b b0 : Nat} {S : (Nat × Nat) × (Nat → Int32)} {h : ax_H} {H H' : Heap} {kd n : Nat} (hr : ax_rel D cA b b0 S h H) (hs : h.1.1 < 900000000) (hz : H'.size = b0 + h.1.1 + 1) (ho : ∀ q : Nat, q < b0 + h.1.1 → H'[q]? = H[q]?) (hc : ax_cell D cA b b0 (ax_new h kd n) h.1.1 H') : ax_rel D cA b b0 S (ax_new h kd n) H' := by
  obtain ⟨r1, r2, r3, r4, r5⟩ := hr
  have hns : (1000000000 : Nat) ≠ h.1.1 := by omega
  refine ⟨by rw [hz]; show _ = b0 + (h.1.1 + 1); omega, by show h.1.1 + 1 < _; omega, fun a ha => ?_, (ax_sh_other _ _ hns).trans r4, (ax_rw_other _ _ hns).trans r5⟩
  have ha : a < h.1.1 + 1 := ha
  rcases Nat.lt_or_ge a h.1.1 with hl | hl
  · have hne : a ≠ h.1.1 := Nat.ne_of_lt hl
    exact ax_cell_congr (ax_sh_other _ _ hne) (ax_rw_other _ _ hne) (ax_rw_other _ _ hne) (ax_rw_other _ _ hne) (ho _ (by omega)) (r3 a hl)
  · have : a = h.1.1 := by omega
    subst this
    exact hc
/-- one cell is written: the rest stays -/
theorem ax_rel_set {D : va_G} {cA : Nat → ClassId} {b b0 : Nat} {S : (Nat × Nat) × (Nat → Int32)} {h h' : ax_H} {H H' : Heap} {a : Nat} (hr : ax_rel D cA b b0 S h H) (hns : (1000000000 : Nat) ≠ a) (ez : h'.1 = h.1) (hz : H'.size = H.size) (ho : ∀ q : Nat, q ≠ b0 + a → H'[q]? = H[q]?) (hk : ∀ a', a' ≠ a → h'.2.1 a' = h.2.1 a' ∧ h'.2.2.1 a' = h.2.2.1 a' ∧ h'.2.2.2.1 a' = h.2.2.2.1 a' ∧ h'.2.2.2.2 a' = h.2.2.2.2 a') (hc : ax_cell D cA b b0 h' a H') : ax_rel D cA b b0 S h' H' := by
  obtain ⟨r1, r2, r3, r4, r5⟩ := hr
  refine ⟨by rw [hz, r1, ez], by rw [ez]; exact r2, fun a' ha' => ?_, (hk _ hns).1.trans r4, (hk _ hns).2.1.trans r5⟩
  rw [ez] at ha'
  by_cases e : a' = a
  · subst e; exact hc
  · obtain ⟨k1, k2, k3, k4⟩ := hk a' e
    exact ax_cell_congr k1 k2 k3 k4 (ho _ (by omega)) (r3 a' ha')
/-! the locals -/
def ax_lv (b b0 : Nat) (ls : ax_L) (C : Array Slot) : Prop := C.size = ls.length ∧ lv_wf C ∧ ∀ (i : Nat) (v : Value), ls[i]? = some (some v) → v.category = 1 ∧ C[i]? = some (.val (ax_cv b b0 v))
def ax_al (b b0 : Nat) (ls : ax_L) : List (Nat × Value) := (List.range ls.length).filterMap (fun i => (ls[i]?.join).map (fun v => (i, ax_cv b b0 v)))
theorem ax_al_mem {b b0 : Nat} {ls : ax_L} {i : Nat} {v : Value} : (i, v) ∈ ax_al b b0 ls ↔ ∃ w, ls[i]? = some (some w) ∧ v = ax_cv b b0 w := by
  unfold ax_al
  rw [List.mem_filterMap]
  constructor
  · rintro ⟨j, hj, he⟩
    cases hl : ls[j]? with
    | none => rw [hl] at he; simp at he
    | some o =>
      rw [hl] at he
      cases o with
      | none => simp at he
      | some w =>
        simp at he
        obtain ⟨rfl, rfl⟩ := he
        exact ⟨w, hl, rfl⟩
  · rintro ⟨w, hw, rfl⟩
    have hi : i < ls.length := (List.getElem?_eq_some_iff.mp hw).1
    exact ⟨i, List.mem_range.mpr hi, by rw [hw]; rfl⟩
theorem ax_lv_has {b b0 : Nat} {ls : ax_L} {C : Array Slot} (h : ax_lv b b0 ls C) : lv_has C ls.length (ax_al b b0 ls) := by
  obtain ⟨h1, h2, h3⟩ := h
  refine ⟨h1, h2, fun q hq => ?_⟩
  obtain ⟨i, v⟩ := q
  obtain ⟨w, hw, rfl⟩ := ax_al_mem.mp hq
  exact (h3 i w hw).2
theorem ax_lv_put {b b0 : Nat} {ls : ax_L} {C C' : Array Slot} {x : Nat} {v : Value} (h : ax_lv b b0 ls C) (hx : x < ls.length) (hc : v.category = 1) (h' : lv_has C' ls.length ((x, ax_cv b b0 v) :: (ax_al b b0 ls).filter (fun q => !(q.1 == x) && !(q.1 + 1 == x && q.2.category == 2)))) : ax_lv b b0 (ls.set x (some v)) C' := by
  obtain ⟨h1, h2, h3⟩ := h'
  refine ⟨by rw [h1]; simp, h2, fun i w hw => ?_⟩
  by_cases e : i = x
  · subst e
    rw [List.getElem?_set_self hx] at hw
    cases hw
    exact ⟨hc, h3 (i, ax_cv b b0 v) List.mem_cons_self⟩
  · rw [List.getElem?_set_ne (fun q => e q.symm)] at hw
    obtain ⟨k1, k2⟩ := h.2.2 i w hw
    refine ⟨k1, h3 (i, ax_cv b b0 w) (List.mem_cons_of_mem _ (List.mem_filter.mpr ⟨ax_al_mem.mpr ⟨w, hw, rfl⟩, ?_⟩))⟩
    have k3 : (ax_cv b b0 w).category = 1 := by rw [ax_cv_cat]; exact k1
    simp [e, k3]
end
section
/-! which instructions a row may stand for -/
def ax_i6 (x : Nat) : Instr := match x with
  | 0 => .iadd
  | 1 => .isub
  | 2 => .imul
  | 3 => .iand
  | 4 => .ior
  | 5 => .ixor
  | 6 => .ishl
  | _ => .ishr
def ax_i12 (x : Nat) (o : Int) : Instr := match x with
  | 0 => .ifCond .eq o
  | 1 => .ifCond .ne o
  | 2 => .ifCond .lt o
  | 3 => .ifCond .ge o
  | 4 => .ifCond .gt o
  | _ => .ifCond .le o
def ax_i13 (x : Nat) (o : Int) : Instr := match x with
  | 0 => .if_icmp .eq o
  | 1 => .if_icmp .ne o
  | 2 => .if_icmp .lt o
  | 3 => .if_icmp .ge o
  | 4 => .if_icmp .gt o
  | _ => .if_icmp .le o
def ax_at (x : Nat) : ArrayType := match x with
  | 20 => .int
  | 21 => .boolean
  | _ => .long
def ax_i33 (pc : Nat) (w : Int × List Nat × Nat) : Instr := .tableswitch ((w.2.2 : Int) - pc) w.1 (w.1 + w.2.1.length - 1) (w.2.1.map fun (t : Nat) => (t : Int) - pc).toArray
section AxG
variable {p : Program} {l : Launch} {e : Env} {R : Room} {s : State} {m : MethodId} {args : Array Value} {below : List Frame} {meth : Method} {c : Code} {H : Heap} {locs : List Loc} {cells slots : Nat} {Q : State → Prop}
variable {cc : ByteArray} {pc q : Nat} {C : Array Slot} {b b0 : Nat} {ls ls' : ax_L} {st st' : List Value} {h h' : ax_H}
theorem ax_o0 (hx : p.tables.exec = Jvm.exec) (hb : c.code = cc) {v : Int} {n : Nat} (hd : (decode cc pc = .ok (.iconst v, 1) ∧ n = 1) ∨ (decode cc pc = .ok (.bipush v, 2) ∧ n = 2 ∧ (Int8.ofInt v).toInt32 = Int32.ofInt v) ∨ (decode cc pc = .ok (.sipush v, 3) ∧ n = 3 ∧ (Int16.ofInt v).toInt32 = Int32.ofInt v))
    (kk : W p l e R s m args below meth c H locs cells slots Q (F0 m (pc + n) C ((Value.int (Int32.ofInt v) :: st).map (ax_cv b b0)))) : W p l e R s m args below meth c H locs cells slots Q (F0 m pc C (st.map (ax_cv b b0))) := by
  rcases hd with ⟨d, rfl⟩ | ⟨d, rfl, e1⟩ | ⟨d, rfl, e1⟩
  · exact lv_iconst hx hb d rfl kk
  · exact lv_bipush hx hb d e1 kk
  · exact lv_sipush hx hb d e1 kk
theorem ax_o1 (hx : p.tables.exec = Jvm.exec) (hb : c.code = cc) {x n : Nat} (hl : ax_lv b b0 ls C) (hd : (∃ k : Fin 4, (k : Nat) = x ∧ decode cc pc = .ok (.iload_n k, 1) ∧ n = 1) ∨ (decode cc pc = .ok (.iload x, 2) ∧ n = 2)) (hs : ax_s1 (pc + n) ls st h x = some (q, ls', st', h'))
    (kk : ls' = ls → h' = h → W p l e R s m args below meth c H locs cells slots Q (F0 m q C (st'.map (ax_cv b b0)))) : W p l e R s m args below meth c H locs cells slots Q (F0 m pc C (st.map (ax_cv b b0))) := by
  unfold ax_s1 at hs
  split at hs
  · rename_i a ha
    cases hs
    have hv := (hl.2.2 x _ ha).2
    rcases hd with ⟨k, e1, d, rfl⟩ | ⟨d, rfl⟩
    · exact lv_iload_n hx hb d e1 hv (kk rfl rfl)
    · exact lv_iload hx hb d hv (kk rfl rfl)
  · cases hs
theorem ax_o2 (hx : p.tables.exec = Jvm.exec) (hb : c.code = cc) {x n : Nat} (hl : ax_lv b b0 ls C) (hd : (∃ k : Fin 4, (k : Nat) = x ∧ decode cc pc = .ok (.aload_n k, 1) ∧ n = 1) ∨ (decode cc pc = .ok (.aload x, 2) ∧ n = 2)) (hs : ax_s2 (pc + n) ls st h x = some (q, ls', st', h'))
    (kk : ls' = ls → h' = h → W p l e R s m args below meth c H locs cells slots Q (F0 m q C (st'.map (ax_cv b b0)))) : W p l e R s m args below meth c H locs cells slots Q (F0 m pc C (st.map (ax_cv b b0))) := by
  unfold ax_s2 at hs
  split at hs
  · rename_i a ha
    cases hs
    have hv := (hl.2.2 x _ ha).2
    rcases hd with ⟨k, e1, d, rfl⟩ | ⟨d, rfl⟩
    · exact lv_aload_n hx hb d e1 hv (kk rfl rfl)
    · exact lv_aload hx hb d hv (kk rfl rfl)
  · cases hs
theorem ax_o3 (hx : p.tables.exec = Jvm.exec) (hb : c.code = cc) {x n : Nat} (hl : ax_lv b b0 ls C) (hd : (∃ k : Fin 4, (k : Nat) = x ∧ decode cc pc = .ok (.istore_n k, 1) ∧ n = 1) ∨ (decode cc pc = .ok (.istore x, 2) ∧ n = 2)) (hs : ax_s3 (pc + n) ls st h x = some (q, ls', st', h'))
    (kk : ∀ C', ax_lv b b0 ls' C' → h' = h → W p l e R s m args below meth c H locs cells slots Q (F0 m q C' (st'.map (ax_cv b b0)))) : W p l e R s m args below meth c H locs cells slots Q (F0 m pc C (st.map (ax_cv b b0))) := by
  unfold ax_s3 at hs
  split at hs
  · rename_i a r
    split at hs
    · rename_i hx2
      cases hs
      rcases hd with ⟨k, e1, d, rfl⟩ | ⟨d, rfl⟩
      · exact lv_istore_n hx hb d e1 (ax_lv_has hl) hx2 rfl (fun C' hC => kk C' (ax_lv_put (v := .int a) hl hx2 rfl hC) rfl)
      · exact lv_istore hx hb d (ax_lv_has hl) hx2 rfl (fun C' hC => kk C' (ax_lv_put (v := .int a) hl hx2 rfl hC) rfl)
    · cases hs
  · cases hs
theorem ax_o4 (hx : p.tables.exec = Jvm.exec) (hb : c.code = cc) {x n : Nat} (hl : ax_lv b b0 ls C) (hd : (∃ k : Fin 4, (k : Nat) = x ∧ decode cc pc = .ok (.astore_n k, 1) ∧ n = 1) ∨ (decode cc pc = .ok (.astore x, 2) ∧ n = 2)) (hs : ax_s4 (pc + n) ls st h x = some (q, ls', st', h'))
    (kk : ∀ C', ax_lv b b0 ls' C' → h' = h → W p l e R s m args below meth c H locs cells slots Q (F0 m q C' (st'.map (ax_cv b b0)))) : W p l e R s m args below meth c H locs cells slots Q (F0 m pc C (st.map (ax_cv b b0))) := by
  unfold ax_s4 at hs
  split at hs
  · rename_i a r
    split at hs
    · rename_i hx2
      cases hs
      rcases hd with ⟨k, e1, d, rfl⟩ | ⟨d, rfl⟩
      · exact lv_astore_n hx hb d e1 (ax_lv_has hl) hx2 rfl (fun C' hC => kk C' (ax_lv_put (v := .ref a) hl hx2 rfl hC) rfl)
      · exact lv_astore hx hb d (ax_lv_has hl) hx2 rfl (fun C' hC => kk C' (ax_lv_put (v := .ref a) hl hx2 rfl hC) rfl)
    · cases hs
  · cases hs
theorem ax_o5 (hx : p.tables.exec = Jvm.exec) (hb : c.code = cc) {x : Nat} {v : Int} (hl : ax_lv b b0 ls C) (hd : decode cc pc = .ok (.iinc x v, 3)) (hs : ax_s5 (pc + 3) ls st h x v = some (q, ls', st', h'))
    (kk : ∀ C', ax_lv b b0 ls' C' → h' = h → W p l e R s m args below meth c H locs cells slots Q (F0 m q C' (st'.map (ax_cv b b0)))) : W p l e R s m args below meth c H locs cells slots Q (F0 m pc C (st.map (ax_cv b b0))) := by
  unfold ax_s5 at hs
  split at hs
  · rename_i a ha
    cases hs
    have hx2 : x < ls.length := (List.getElem?_eq_some_iff.mp ha).1
    obtain ⟨k, hk⟩ := List.getElem?_of_mem (ax_al_mem (b := b) (b0 := b0) (v := .int a)|>.mpr ⟨_, ha, rfl⟩)
    exact lv_iinc hx hb hd (ax_lv_has hl) hk rfl hx2 rfl (fun C' hC => kk C' (ax_lv_put (v := .int (a + Int32.ofInt v)) hl hx2 rfl hC) rfl)
  · cases hs
theorem ax_o6 (hx : p.tables.exec = Jvm.exec) (hb : c.code = cc) {x : Nat} (hd : decode cc pc = .ok (ax_i6 x, 1)) (hs : ax_s6 (pc + 1) ls st h x = some (q, ls', st', h'))
    (kk : ls' = ls → h' = h → W p l e R s m args below meth c H locs cells slots Q (F0 m q C (st'.map (ax_cv b b0)))) : W p l e R s m args below meth c H locs cells slots Q (F0 m pc C (st.map (ax_cv b b0))) := by
  unfold ax_s6 at hs
  split at hs
  · rename_i y a r
    cases hs
    have kk := kk rfl rfl
    unfold ax_i6 at hd
    unfold ax_bin at kk
    split at hd
    · exact lv_iadd hx hb hd kk
    · exact lv_isub hx hb hd kk
    · exact lv_imul hx hb hd kk
    · exact lv_iand hx hb hd kk
    · exact lv_ior hx hb hd kk
    · exact lv_ixor hx hb hd kk
    · exact lv_ishl hx hb hd kk
    · rename_i n0 n1 n2 n3 n4 n5 n6
      split at kk
      all_goals first | (exact absurd rfl n0) | (exact absurd rfl n1) | (exact absurd rfl n2) | (exact absurd rfl n3) | (exact absurd rfl n4) | (exact absurd rfl n5) | (exact absurd rfl n6) | exact lv_ishr hx hb hd kk
  · cases hs
theorem ax_o7 (hx : p.tables.exec = Jvm.exec) (hb : c.code = cc) (hd : decode cc pc = .ok (.i2l, 1)) (hs : ax_s7 (pc + 1) ls st h = some (q, ls', st', h'))
    (kk : ls' = ls → h' = h → W p l e R s m args below meth c H locs cells slots Q (F0 m q C (st'.map (ax_cv b b0)))) : W p l e R s m args below meth c H locs cells slots Q (F0 m pc C (st.map (ax_cv b b0))) := by
  unfold ax_s7 at hs
  split at hs
  · cases hs
    exact lv_i2l hx hb hd rfl (kk rfl rfl)
  · cases hs
theorem ax_o8 (hx : p.tables.exec = Jvm.exec) (hb : c.code = cc) (hd : decode cc pc = .ok (.lcmp, 1)) (hs : ax_s8 (pc + 1) ls st h = some (q, ls', st', h'))
    (kk : ls' = ls → h' = h → W p l e R s m args below meth c H locs cells slots Q (F0 m q C (st'.map (ax_cv b b0)))) : W p l e R s m args below meth c H locs cells slots Q (F0 m pc C (st.map (ax_cv b b0))) := by
  unfold ax_s8 at hs
  split at hs
  · cases hs
    exact W.lcmp hx hb hd (kk rfl rfl)
  · cases hs
theorem ax_o9 (hx : p.tables.exec = Jvm.exec) (hb : c.code = cc) {x : Nat} (hd : ∃ k : Fin 2, (k : Nat) = x ∧ decode cc pc = .ok (.lconst k, 1))
    (kk : W p l e R s m args below meth c H locs cells slots Q (F0 m (pc + 1) C ((Value.long (Int64.ofNat x) :: st).map (ax_cv b b0)))) : W p l e R s m args below meth c H locs cells slots Q (F0 m pc C (st.map (ax_cv b b0))) := by
  obtain ⟨k, rfl, d⟩ := hd
  exact lv_lconst hx hb d rfl kk
theorem ax_o10 (hx : p.tables.exec = Jvm.exec) (hb : c.code = cc) (hd : decode cc pc = .ok (.dup, 1)) (hs : ax_s10 (pc + 1) ls st h = some (q, ls', st', h'))
    (kk : ls' = ls → h' = h → W p l e R s m args below meth c H locs cells slots Q (F0 m q C (st'.map (ax_cv b b0)))) : W p l e R s m args below meth c H locs cells slots Q (F0 m pc C (st.map (ax_cv b b0))) := by
  unfold ax_s10 at hs
  split at hs
  · cases hs
    exact lv_dup hx hb hd rfl (kk rfl rfl)
  · cases hs
    exact lv_dup hx hb hd rfl (kk rfl rfl)
  · cases hs
theorem ax_o11 (hx : p.tables.exec = Jvm.exec) (hb : c.code = cc) (hd : decode cc pc = .ok (.dup2, 1)) (hs : ax_s11 (pc + 1) ls st h = some (q, ls', st', h'))
    (kk : ls' = ls → h' = h → W p l e R s m args below meth c H locs cells slots Q (F0 m q C (st'.map (ax_cv b b0)))) : W p l e R s m args below meth c H locs cells slots Q (F0 m pc C (st.map (ax_cv b b0))) := by
  unfold ax_s11 at hs
  split at hs
  · cases hs
    exact lv_dup2_11 hx hb hd rfl rfl (kk rfl rfl)
  · cases hs
theorem ax_o12 (hx : p.tables.exec = Jvm.exec) (hb : c.code = cc) {x y : Nat} (hd : decode cc pc = .ok (ax_i12 x ((y : Int) - pc), 3)) (hs : ax_s12 (pc + 3) ls st h x y = some (q, ls', st', h'))
    (kk : ls' = ls → h' = h → W p l e R s m args below meth c H locs cells slots Q (F0 m q C (st'.map (ax_cv b b0)))) : W p l e R s m args below meth c H locs cells slots Q (F0 m pc C (st.map (ax_cv b b0))) := by
  unfold ax_s12 at hs
  have ht : (pc : Int) + ((y : Int) - pc) = (y : Int) := by omega
  split at hs
  · rename_i a r
    cases hs
    have kk := kk rfl rfl
    unfold ax_i12 at hd
    unfold ax_c1 at kk
    split at hd
    · exact lv_if_eq hx hb hd ht (fun z => by simpa [z] using kk) (fun z => by simpa [z] using kk)
    · exact lv_if_ne hx hb hd ht (fun z => by simpa [z] using kk) (fun z => by simpa [z] using kk)
    · exact lv_if_lt hx hb hd ht (fun z => by simpa [z] using kk) (fun z => by simpa [z] using kk)
    · exact lv_if_ge hx hb hd ht (fun z => by simpa [z] using kk) (fun z => by simpa [z] using kk)
    · exact lv_if_gt hx hb hd ht (fun z => by simpa [z] using kk) (fun z => by simpa [z] using kk)
    · rename_i n0 n1 n2 n3 n4
      split at kk
      all_goals first | (exact absurd rfl n0) | (exact absurd rfl n1) | (exact absurd rfl n2) | (exact absurd rfl n3) | (exact absurd rfl n4) | exact lv_if_le hx hb hd ht (fun z => by simpa [z] using kk) (fun z => by simpa [z] using kk)
  · cases hs
theorem ax_o13 (hx : p.tables.exec = Jvm.exec) (hb : c.code = cc) {x y : Nat} (hd : decode cc pc = .ok (ax_i13 x ((y : Int) - pc), 3)) (hs : ax_s13 (pc + 3) ls st h x y = some (q, ls', st', h'))
    (kk : ls' = ls → h' = h → W p l e R s m args below meth c H locs cells slots Q (F0 m q C (st'.map (ax_cv b b0)))) : W p l e R s m args below meth c H locs cells slots Q (F0 m pc C (st.map (ax_cv b b0))) := by
  unfold ax_s13 at hs
  have ht : (pc : Int) + ((y : Int) - pc) = (y : Int) := by omega
  split at hs
  · rename_i w a r
    cases hs
    have kk := kk rfl rfl
    unfold ax_i13 at hd
    unfold ax_c2 at kk
    split at hd
    · exact lv_icmp_eq hx hb hd ht (fun z => by simpa [z] using kk) (fun z => by simpa [z] using kk)
    · exact lv_icmp_ne hx hb hd ht (fun z => by simpa [z] using kk) (fun z => by simpa [z] using kk)
    · exact lv_icmp_lt hx hb hd ht (fun z => by simpa [z] using kk) (fun z => by simpa [z] using kk)
    · exact lv_icmp_ge hx hb hd ht (fun z => by simpa [z] using kk) (fun z => by simpa [z] using kk)
    · exact lv_icmp_gt hx hb hd ht (fun z => by simpa [z] using kk) (fun z => by simpa [z] using kk)
    · rename_i n0 n1 n2 n3 n4
      split at kk
      all_goals first | (exact absurd rfl n0) | (exact absurd rfl n1) | (exact absurd rfl n2) | (exact absurd rfl n3) | (exact absurd rfl n4) | exact lv_icmp_le hx hb hd ht (fun z => by simpa [z] using kk) (fun z => by simpa [z] using kk)
  · cases hs
theorem ax_o14 (hx : p.tables.exec = Jvm.exec) (hb : c.code = cc) {y : Nat} (hd : decode cc pc = .ok (.goto ((y : Int) - pc), 3))
    (kk : W p l e R s m args below meth c H locs cells slots Q (F0 m y C (st.map (ax_cv b b0)))) : W p l e R s m args below meth c H locs cells slots Q (F0 m pc C (st.map (ax_cv b b0))) :=
  lv_goto hx hb hd (by omega) kk
theorem ax_o33 (hx : p.tables.exec = Jvm.exec) (hb : c.code = cc) {w : Int × List Nat × Nat} {n : Nat} (hd : decode cc pc = .ok (ax_i33 pc w, n)) (hs : ax_s33 ls st h w = some (q, ls', st', h'))
    (kk : ls' = ls → h' = h → W p l e R s m args below meth c H locs cells slots Q (F0 m q C (st'.map (ax_cv b b0)))) : W p l e R s m args below meth c H locs cells slots Q (F0 m pc C (st.map (ax_cv b b0))) := by
  unfold ax_s33 at hs
  split at hs
  · rename_i a r
    cases hs
    have kk := kk rfl rfl
    unfold ax_i33 at hd
    by_cases h1 : a.toInt < w.1
    · rw [if_pos h1] at kk
      exact lv_tableOut hx hb hd (Or.inl h1) (by omega) kk
    · rw [if_neg h1] at kk
      by_cases h2 : (a.toInt - w.1).toNat < w.2.1.length
      · rw [List.getElem?_eq_getElem h2, Option.getD_some] at kk
        exact lv_tableIn hx hb hd h1 (by omega) (off := (w.2.1[(a.toInt - w.1).toNat] : Int) - pc) (by simp [h2]) (by omega) kk
      · rw [List.getElem?_eq_none (by omega), Option.getD_none] at kk
        exact lv_tableOut hx hb hd (Or.inr (by omega)) (by omega) kk
  · cases hs
end AxG
end
section
/-! rows that read and write cells -/
def ax_aty (x : Nat) : Option FieldType := match x with
  | 20 => some .int
  | 21 => some .boolean
  | 22 => some .long
  | 30 => some (.object "MakerGuard$Body")
  | 31 => some (.object "MakerGuard$Declaration")
  | 32 => some (.object "MakerGuard$Frame")
  | 36 => some (.object "MakerGuard$Sight")
  | _ => none
/-- what the tables say of classes and array classes at a state -/
def ax_K (D : va_G) (cA : Nat → ClassId) (U : State) : Prop := (∀ ci, ci < 9 → u_Kn U (ax_cn ci) (ax_Tf ci) (ax_nf ci) (D.1 ci) (D.2 ci)) ∧ ∀ x ty, ax_aty x = some ty → ArrOfT U (cA x) ty ∧ va_RA U (cA x) ty
theorem ax_K_va {D : va_G} {cA : Nat → ClassId} {U : State} (h : ax_K D cA U) : va_K D ax_cl [] U := ⟨fun ci q hq => by
  obtain ⟨h9, rfl⟩ := ax_cl_of hq
  exact h.1 ci h9, fun k q hk => by simp at hk⟩
theorem ax_ra_aty {x : Nat} (h : ax_ra x = true) : ∃ ci, ci < 9 ∧ x = ci + 30 ∧ ax_aty x = some (.object (ax_cn ci)) := by
  unfold ax_ra at h
  simp only [Bool.or_eq_true, beq_iff_eq] at h
  rcases h with ((rfl | rfl) | rfl) | rfl
  · exact ⟨0, by omega, rfl, rfl⟩
  · exact ⟨1, by omega, rfl, rfl⟩
  · exact ⟨2, by omega, rfl, rfl⟩
  · exact ⟨6, by omega, rfl, rfl⟩
theorem ax_out_in {i : Int32} {n : Nat} (h : ax_out i n = false) : ¬ (i < 0 ∨ n ≤ i.toNatClampNeg) := by
  unfold ax_out at h
  exact of_decide_eq_false h
theorem ax_onws {ci : Nat} {w : Cond} (h : w ∈ u_ws (ax_cn ci) (ax_Tf ci) (ax_nf ci)) : w.onTables = true := by
  unfold u_ws at h
  obtain ⟨k, -, rfl⟩ := List.mem_map.mp h
  unfold u_lay
  split <;> rfl
section AxH
variable {p : Program} {l : Launch} {e : Env} {R : Room} {s : State} {m : MethodId} {args : Array Value} {below : List Frame} {meth : Method} {c : Code} {H : Heap} {locs : List Loc} {cells slots : Nat} {Q : State → Prop}
variable {cc : ByteArray} {pc q : Nat} {C : Array Slot} {b b0 : Nat} {ls ls' : ax_L} {st st' : List Value} {h h' : ax_H} {D : va_G} {cA : Nat → ClassId} {S : (Nat × Nat) × (Nat → Int32)}
theorem ax_hU (hts : ∀ w ∈ lw_tbl, w.onTables = true → w.before args s = true) {ci : Nat} (h9 : ci < 9) : ∀ w ∈ u_ws (ax_cn ci) (ax_Tf ci) (ax_nf ci), w.before args s = true := fun w hw => hts w (ax_in ci h9 w hw) (ax_onws hw)
theorem ax_P1 {ci a : Nat} (h9 : ci < 9) {V : Nat → Value} (ho : t_OB a (D.1 ci) (ax_nf ci) (D.2 ci) H V) : va_P D ax_cl [(a, .inr (ci, (List.range (ax_nf ci)).map V))] H := by
  intro k q hk
  have hz : k < 1 := (List.getElem?_eq_some_iff.mp hk).1
  have hz : k = 0 := by omega
  subst hz
  cases hk
  refine ⟨_, ax_cl_at ci h9, ho.to (fun j hj => ?_)⟩
  have hj : j < ax_nf ci := hj
  simp [vp_V, hj]
theorem ax_fv_fw {h : ax_H} {ci a i : Nat} {v : Value} (hv : ax_fv h ci a i = some v) : ax_fw b b0 h ci a i = ax_cv b b0 v := by
  unfold ax_fv at hv
  unfold ax_fw
  split at hv
  · rename_i e
    rw [if_pos e]
    cases hm : h.2.2.2.1 a i with
    | none => rw [hm] at hv; cases hv
    | some r => rw [hm] at hv; cases hv; rfl
  · rename_i e
    rw [if_neg e]
    cases hv
    rfl
theorem ax_o15 (hx : p.tables.exec = Jvm.exec) (hb : c.code = cc) {own : String} (hown : s.vm.findClass own = some m.cls) (hts : ∀ w ∈ lw_tbl, w.onTables = true → w.before args s = true) (hK : ax_K D cA s) (hr : ax_rel D cA b b0 S h H) {x y idx : Nat} (hd : decode cc pc = .ok (.getfield idx, 3)) (hlk : (Cond.fieldLink own idx (ax_cn x) (ax_Tf x y).2.1 (ax_Tf x y).2.2.1).before args s = true) (hs : ax_s15 (pc + 3) ls st h x y = some (q, ls', st', h'))
    (kk : ls' = ls → h' = h → W p l e R s m args below meth c H locs cells slots Q (F0 m q C (st'.map (ax_cv b b0)))) : W p l e R s m args below meth c H locs cells slots Q (F0 m pc C (st.map (ax_cv b b0))) := by
  unfold ax_s15 at hs
  split at hs
  · rename_i a r
    split at hs
    · rename_i hc
      obtain ⟨h1, h2, h9, hy⟩ := hc
      cases hv : ax_fv h x a y with
      | none => rw [hv] at hs; cases hs
      | some v =>
        rw [hv] at hs
        cases hs
        have kk := kk rfl rfl
        have ho := (hr.2.2.1 a h1).1 x h9 h2
        have hP := ax_P1 h9 ho
        have hg : ax_g b b0 a = b0 + a := ax_g_lt (Nat.lt_trans h1 hr.2.1)
        have := va_get (rest := r.map (ax_cv b b0)) (ls := C) (Q := Q) hx hb (ax_hU hts h9) (fun w hw => hw) hown (ax_K_va hK) hP 0 rfl (ax_cl_at x h9) y hy hlk (fun z hz => by rw [ax_ownok x h9 y hy] at hz; exact hz) (v := ax_cv b b0 v) (by rw [List.getElem?_map, List.getElem?_range hy, ← ax_fv_fw hv]; rfl) hd kk
        simpa only [List.map_cons, ax_cv_ref, hg] using this
    · cases hs
  · cases hs
theorem ax_o16 (hx : p.tables.exec = Jvm.exec) (hb : c.code = cc) {own host : String} (hown : s.vm.findClass own = some m.cls) (hts : ∀ w ∈ lw_tbl, w.onTables = true → w.before args s = true) (hK : ax_K D cA s) (hr : ax_rel D cA b b0 S h H) {x y idx : Nat} (hd : decode cc pc = .ok (.getfield idx, 3)) (hlk : (Cond.fieldLinkNest own idx (ax_cn x) (ax_Tf x y).2.1 (ax_Tf x y).2.2.1 host).before args s = true) (hs : ax_s15 (pc + 3) ls st h x y = some (q, ls', st', h'))
    (kk : ls' = ls → h' = h → W p l e R s m args below meth c H locs cells slots Q (F0 m q C (st'.map (ax_cv b b0)))) : W p l e R s m args below meth c H locs cells slots Q (F0 m pc C (st.map (ax_cv b b0))) := by
  unfold ax_s15 at hs
  split at hs
  · rename_i a r
    split at hs
    · rename_i hc
      obtain ⟨h1, h2, h9, hy⟩ := hc
      cases hv : ax_fv h x a y with
      | none => rw [hv] at hs; cases hs
      | some v =>
        rw [hv] at hs
        cases hs
        have kk := kk rfl rfl
        have ho := (hr.2.2.1 a h1).1 x h9 h2
        have hP := ax_P1 h9 ho
        have hg : ax_g b b0 a = b0 + a := ax_g_lt (Nat.lt_trans h1 hr.2.1)
        have := va_getN (rest := r.map (ax_cv b b0)) (ls := C) (Q := Q) hx hb (ax_hU hts h9) (fun w hw => hw) hown (ax_K_va hK) hP 0 rfl (ax_cl_at x h9) y hy hlk (fun z hz => by rw [ax_ownok x h9 y hy] at hz; exact hz) (v := ax_cv b b0 v) (by rw [List.getElem?_map, List.getElem?_range hy, ← ax_fv_fw hv]; rfl) hd kk
        simpa only [List.map_cons, ax_cv_ref, hg] using this
    · cases hs
  · cases hs
end AxH
end
section
section AxP
variable {p : Program} {l : Launch} {e : Env} {R : Room} {s : State} {m : MethodId} {args : Array Value} {below : List Frame} {meth : Method} {c : Code} {H : Heap} {locs : List Loc} {cells slots : Nat} {Q : State → Prop}
variable {cc : ByteArray} {pc q : Nat} {C : Array Slot} {b b0 : Nat} {ls ls' : ax_L} {st st' : List Value} {h h' : ax_H} {D : va_G} {cA : Nat → ClassId} {S : (Nat × Nat) × (Nat → Int32)}
theorem ax_obj_only {h : ax_H} {a x : Nat} (h9 : x < 9) (h2 : (h.2.1 a).1 = x + 1) {H' : Heap} (ho : t_OB (b0 + a) (D.1 x) (ax_nf x) (D.2 x) H' (ax_fw b b0 h x a)) : ax_cell D cA b b0 h a H' := by
  refine ⟨fun ci hc hk => ?_, fun hk => ?_, fun hk => ?_, fun hk => ?_⟩
  · have : ci = x := by omega
    subst this
    exact ho
  · omega
  · omega
  · obtain ⟨ci, -, e1, -⟩ := ax_ra_aty hk
    omega
theorem ax_fw_int {h : ax_H} {x a y : Nat} {v : Int32} (hf : ax_ft x y ≠ 2) (i : Nat) : updV (ax_fw b b0 h x a) y (.int v) i = ax_fw b b0 (h.1, h.2.1, ax_up h.2.2.1 a y v, h.2.2.2) x a i := by
  unfold updV ax_fw
  by_cases e : i = y
  · subst e
    simp [hf, ax_up]
  · simp [e, ax_up]
theorem ax_fw_ref {h : ax_H} {x a y v : Nat} (hf : ax_ft x y = 2) (i : Nat) : updV (ax_fw b b0 h x a) y (.ref (ax_g b b0 v)) i = ax_fw b b0 (h.1, h.2.1, h.2.2.1, ax_up h.2.2.2.1 a y (some v), h.2.2.2.2) x a i := by
  unfold updV ax_fw
  by_cases e : i = y
  · subst e
    simp [hf, ax_up, va_rf]
  · simp [e, ax_up]
/-- a field is written: the machine's step -/
theorem ax_putW (hx : p.tables.exec = Jvm.exec) (hb : c.code = cc) {own : String} (hown : s.vm.findClass own = some m.cls) (hts : ∀ w ∈ lw_tbl, w.onTables = true → w.before args s = true) (hK : ax_K D cA s) {a x y idx : Nat} (h9 : x < 9) (hy : y < ax_nf x) {V : Nat → Value} (ho : t_OB a (D.1 x) (ax_nf x) (D.2 x) H V) (hfin : (ax_Tf x y).2.2.2 = false ∨ ((ax_Tf x y).2.2.2 = true ∧ meth.name = "<init>" ∧ ax_cn x = own)) {v : Value} (hn : narrow (ax_ty x y) v = v) (hfit : fits (ax_ty x y) v = true) {rest : List Value} (hd : decode cc pc = .ok (.putfield idx, 3)) (hlk : (Cond.fieldLink own idx (ax_cn x) (ax_Tf x y).2.1 (ax_Tf x y).2.2.1).before args s = true)
    (kk : ∀ (H1 : Heap) (n : Nat), t_OB a (D.1 x) (ax_nf x) (D.2 x) H1 (updV V y v) → H1.size = H.size → (∀ q, q ≠ a → H1[q]? = H[q]?) → W p l e R s m args below meth c H1 (locs ++ [⟨a, n⟩]) cells slots Q (F0 m (pc + 3) C rest)) : W p l e R s m args below meth c H locs cells slots Q (F0 m pc C (v :: .ref a :: rest)) := by
  have hU := ax_hU hts h9
  have hc := ax_cl_at x h9
  have hKv := ax_K_va hK
  have hap := va_apart (own := own) hU (fun w hw => hw) (ax_ty x) (ax_tyok x h9) (ax_nmok x h9) hKv hc
  obtain ⟨cell, q1, q2, q3, q4⟩ := ho
  obtain ⟨hS, hfc, kC, hkC, hkind⟩ := hK.1 x h9
  obtain ⟨cf, kf, fi, f, hi, hsl⟩ := hS y hy
  have hdc := ax_tyok x h9 y hy
  have hsame : s.fieldFound? (ax_cn x) (ax_Tf x y).2.1 (ax_Tf x y).2.2.1 = some (cf, kf, fi, f) := by rw [← ax_ownok x h9 y hy]; exact hi
  have hst := (u_facts hfc hkC (u_lays hU (fun w hw => hw) hy) hi).1
  have hlay := hU _ (u_in_lay hy)
  unfold u_lay at hlay
  rcases hfin with hf0 | ⟨hf1, hin2, hdecl⟩
  · rw [if_neg (by rw [hf0]; decide)] at hlay
    have h6 := u_store hfc hkC hkind hlay hi hdc hn hfit
    refine W.putK hx hb (f := f) ⟨hown, hlk, ⟨_, _, _, hsame⟩, hst⟩ (by rw [q2]; exact h6) q1 q3 (by rw [hsl]; exact k2_hasslot (q4 y hy)) rfl rfl hd fun H' e1 e2 e3 => ?_
    rw [hsl] at e1 ⊢
    exact kk H' _ ⟨_, e1, q2, q3, t_set q4 hap hy v⟩ e2 e3
  · rw [if_pos hf1] at hlay
    have hcf : m.cls = cf := by
      obtain ⟨_, _, c', _, _, _, -, -, hf', -, -, -, hown2, -⟩ := Cond.laysFinal_spec hlay
      have e1 : c' = cf := by have := hi.symm.trans hf'; simp at this; exact this.1.symm
      rw [ax_ownok x h9 y hy, hdecl] at hown2
      rw [← e1]; exact Option.some.inj (hown.symm.trans hown2)
    have h6 := u_fits hfc hkC hkind (Or.inr hlay) hi hdc hn hfit
    refine W.putFinK hx hb hown hlk hsame hst hcf hin2 (by rw [q2]; exact h6) q1 q3 (by rw [hsl]; exact k2_hasslot (q4 y hy)) rfl rfl hd fun H' e1 e2 e3 => ?_
    rw [hsl] at e1 ⊢
    exact kk H' _ ⟨_, e1, q2, q3, t_set q4 hap hy v⟩ e2 e3
theorem ax_o17 (hx : p.tables.exec = Jvm.exec) (hb : c.code = cc) {own : String} (hown : s.vm.findClass own = some m.cls) (hts : ∀ w ∈ lw_tbl, w.onTables = true → w.before args s = true) (hK : ax_K D cA s) (hr : ax_rel D cA b b0 S h H) (hS : va_S (fun q => b0 ≤ q) s.heap H locs) {x y idx : Nat} (hfin : (ax_Tf x y).2.2.2 = false ∨ ((ax_Tf x y).2.2.2 = true ∧ meth.name = "<init>" ∧ ax_cn x = own)) (hd : decode cc pc = .ok (.putfield idx, 3)) (hlk : (Cond.fieldLink own idx (ax_cn x) (ax_Tf x y).2.1 (ax_Tf x y).2.2.1).before args s = true) (hs : ax_s17 (pc + 3) ls st h x y = some (q, ls', st', h'))
    (kk : ∀ (H1 : Heap) (locs1 : List Loc), ls' = ls → h'.1 = h.1 → ax_rel D cA b b0 S h' H1 → va_S (fun q => b0 ≤ q) s.heap H1 locs1 → W p l e R s m args below meth c H1 locs1 cells slots Q (F0 m q C (st'.map (ax_cv b b0)))) : W p l e R s m args below meth c H locs cells slots Q (F0 m pc C (st.map (ax_cv b b0))) := by
  unfold ax_s17 at hs
  split at hs
  · rename_i v a r
    split at hs
    · rename_i hc
      obtain ⟨h1, h2, h9, hy, hty⟩ := hc
      cases hs
      have hg : ax_g b b0 a = b0 + a := ax_g_lt (Nat.lt_trans h1 hr.2.1)
      have ho := (hr.2.2.1 a h1).1 x h9 h2
      have hft := ax_ftok x h9 y hy
      have hne : ax_ft x y ≠ 2 := by omega
      have hnf : narrow (ax_ty x y) (.int v) = .int v ∧ fits (ax_ty x y) (.int v) = true := by
        rcases hft with ⟨f0, t0⟩ | ⟨f1, t1⟩ | ⟨f2, -⟩
        · rw [t0]; exact ⟨rfl, rfl⟩
        · rw [t1]
          rcases hty with z | ⟨-, z⟩
          · omega
          · rcases z with rfl | rfl <;> exact ⟨rfl, rfl⟩
        · omega
      have := ax_putW (rest := st'.map (ax_cv b b0)) (C := C) (Q := Q) (locs := locs) (cells := cells) (slots := slots) hx hb hown hts hK h9 hy ho hfin hnf.1 hnf.2 hd hlk (fun H1 n o1 z1 n1 => kk H1 _ rfl rfl (ax_rel_set (a := a) hr (Nat.ne_of_gt (Nat.lt_trans h1 hr.2.1)) rfl z1 n1 (fun a' ha' => ⟨rfl, ax_up_other _ _ ha', rfl, rfl⟩) (ax_obj_only (h := (h.1, h.2.1, ax_up h.2.2.1 a y v, h.2.2.2)) h9 h2 (o1.to (fun i _ => ax_fw_int hne i)))) (hS.put z1 n1 (Nat.le_add_right _ _)))
      simpa only [List.map_cons, ax_cv_ref, ax_cv_int, hg] using this
    · cases hs
  · rename_i v a r
    split at hs
    · rename_i hc
      obtain ⟨h1, h2, h9, hy, hty⟩ := hc
      cases hs
      have hg : ax_g b b0 a = b0 + a := ax_g_lt (Nat.lt_trans h1 hr.2.1)
      have ho := (hr.2.2.1 a h1).1 x h9 h2
      have hft := ax_ftok x h9 y hy
      have hnf : narrow (ax_ty x y) (.ref (ax_g b b0 v)) = .ref (ax_g b b0 v) ∧ fits (ax_ty x y) (.ref (ax_g b b0 v)) = true := by
        rcases hft with ⟨f0, t0⟩ | ⟨f1, t1⟩ | ⟨f2, t2⟩
        · omega
        · omega
        · cases ht : ax_ty x y <;> rw [ht] at t2 <;> first | exact ⟨rfl, rfl⟩ | cases t2
      have := ax_putW (rest := st'.map (ax_cv b b0)) (C := C) (Q := Q) (locs := locs) (cells := cells) (slots := slots) hx hb hown hts hK h9 hy ho hfin hnf.1 hnf.2 hd hlk (fun H1 n o1 z1 n1 => kk H1 _ rfl rfl (ax_rel_set (a := a) hr (Nat.ne_of_gt (Nat.lt_trans h1 hr.2.1)) rfl z1 n1 (fun a' ha' => ⟨rfl, rfl, ax_up_other _ _ ha', rfl⟩) (ax_obj_only (h := (h.1, h.2.1, h.2.2.1, ax_up h.2.2.2.1 a y (some v), h.2.2.2.2)) h9 h2 (o1.to (fun i _ => ax_fw_ref hty i)))) (hS.put z1 n1 (Nat.le_add_right _ _)))
      simpa only [List.map_cons, ax_cv_ref, ax_cv_int, hg] using this
    · cases hs
  · cases hs
end AxP
end
section
section AxA
variable {p : Program} {l : Launch} {e : Env} {R : Room} {s : State} {m : MethodId} {args : Array Value} {below : List Frame} {meth : Method} {c : Code} {H : Heap} {locs : List Loc} {cells slots : Nat} {Q : State → Prop}
variable {cc : ByteArray} {pc q : Nat} {C : Array Slot} {b b0 : Nat} {ls ls' : ax_L} {st st' : List Value} {h h' : ax_H} {D : va_G} {cA : Nat → ClassId} {S : (Nat × Nat) × (Nat → Int32)}
theorem ax_arri_only {h : ax_H} {a : Nat} (hk : (h.2.1 a).1 = 20 ∨ (h.2.1 a).1 = 21) {H' : Heap} (ho : H'[b0 + a]? = some (arrV (cA (h.2.1 a).1) (h.2.1 a).2 (fun j => .int (h.2.2.1 a j)))) : ax_cell D cA b b0 h a H' := by
  refine ⟨fun ci hc hk => by omega, fun _ => ho, fun hk => by omega, fun hk => ?_⟩
  obtain ⟨ci, -, e1, -⟩ := ax_ra_aty hk
  omega
theorem ax_arrl_only {h : ax_H} {a : Nat} (hk : (h.2.1 a).1 = 22) {H' : Heap} (ho : H'[b0 + a]? = some (arrV (cA 22) (h.2.1 a).2 (fun j => .long (h.2.2.2.2 a j)))) : ax_cell D cA b b0 h a H' := by
  refine ⟨fun ci hc hk => by omega, fun hk => by omega, fun _ => ho, fun hk => ?_⟩
  obtain ⟨ci, -, e1, -⟩ := ax_ra_aty hk
  omega
theorem ax_arrr_only {h : ax_H} {a : Nat} (hk : ax_ra (h.2.1 a).1 = true) {H' : Heap} (ho : H'[b0 + a]? = some (arrV (cA (h.2.1 a).1) (h.2.1 a).2 (fun j => va_rf ((h.2.2.2.1 a j).map (ax_g b b0))))) : ax_cell D cA b b0 h a H' := by
  obtain ⟨ci, -, e1, -⟩ := ax_ra_aty hk
  exact ⟨fun ci hc hk => by omega, fun hk => by omega, fun hk => by omega, fun _ => ho⟩
theorem ax_o19 (hx : p.tables.exec = Jvm.exec) (hb : c.code = cc) (hK : ax_K D cA s) (hr : ax_rel D cA b b0 S h H) {kd : Nat} (hd : (kd = 20 ∧ decode cc pc = .ok (.iaload, 1)) ∨ (kd = 21 ∧ decode cc pc = .ok (.baload, 1))) (hs : ax_s19 kd (pc + 1) ls st h = some (q, ls', st', h'))
    (kk : ls' = ls → h' = h → W p l e R s m args below meth c H locs cells slots Q (F0 m q C (st'.map (ax_cv b b0)))) : W p l e R s m args below meth c H locs cells slots Q (F0 m pc C (st.map (ax_cv b b0))) := by
  unfold ax_s19 at hs
  split at hs
  · rename_i i a r
    split at hs
    · rename_i hc
      obtain ⟨h1, h2, h3⟩ := hc
      cases hs
      have kk := kk rfl rfl
      have hin := ax_out_in h3
      have hlt : i.toNatClampNeg < (h.2.1 a).2 := Nat.not_le.mp fun z => hin (Or.inr z)
      have hg : ax_g b b0 a = b0 + a := ax_g_lt (Nat.lt_trans h1 hr.2.1)
      rcases hd with ⟨rfl, d⟩ | ⟨rfl, d⟩
      · have ho := (hr.2.2.1 a h1).2.1 (Or.inl h2)
        rw [h2] at ho
        have := W.iald (v := .int (h.2.2.1 a i.toNatClampNeg)) (Q := Q) (g := F0 m pc C (.int i :: .ref (b0 + a) :: r.map (ax_cv b b0))) hx hb ho ((hK.2 20 .int rfl).1 _ _) (fun z => by cases z) (by rw [arrV_size]; exact hin) (by rw [arrV_read _ _ hlt]) rfl rfl d kk
        simpa only [List.map_cons, ax_cv_ref, ax_cv_int, hg] using this
      · have ho := (hr.2.2.1 a h1).2.1 (Or.inr h2)
        rw [h2] at ho
        have := W.zald (v := .int (h.2.2.1 a i.toNatClampNeg)) (Q := Q) (g := F0 m pc C (.int i :: .ref (b0 + a) :: r.map (ax_cv b b0))) hx hb ho ((hK.2 21 .boolean rfl).1 _ _) (fun z => by cases z) (by rw [arrV_size]; exact hin) (by rw [arrV_read _ _ hlt]) rfl rfl d kk
        simpa only [List.map_cons, ax_cv_ref, ax_cv_int, hg] using this
    · cases hs
  · cases hs
theorem ax_upi {h : ax_H} {a i : Nat} {v : Int32} : updV (fun j => Value.int (h.2.2.1 a j)) i (.int v) = fun j => Value.int (ax_up h.2.2.1 a i v a j) := by
  funext j
  unfold updV ax_up
  by_cases e : j = i <;> simp [e]
theorem ax_upl {h : ax_H} {a i : Nat} {v : Int64} : updV (fun j => Value.long (h.2.2.2.2 a j)) i (.long v) = fun j => Value.long (ax_up h.2.2.2.2 a i v a j) := by
  funext j
  unfold updV ax_up
  by_cases e : j = i <;> simp [e]
theorem ax_upr {h : ax_H} {a i v : Nat} : updV (fun j => va_rf ((h.2.2.2.1 a j).map (ax_g b b0))) i (.ref (ax_g b b0 v)) = fun j => va_rf ((ax_up h.2.2.2.1 a i (some v) a j).map (ax_g b b0)) := by
  funext j
  unfold updV ax_up
  by_cases e : j = i <;> simp [e, va_rf]
theorem ax_o20 (hx : p.tables.exec = Jvm.exec) (hb : c.code = cc) (hK : ax_K D cA s) (hr : ax_rel D cA b b0 S h H) (hS : va_S (fun q => b0 ≤ q) s.heap H locs) {kd : Nat} (hd : (kd = 20 ∧ decode cc pc = .ok (.iastore, 1)) ∨ (kd = 21 ∧ decode cc pc = .ok (.bastore, 1))) (hs : ax_s20 kd (pc + 1) ls st h = some (q, ls', st', h'))
    (kk : ∀ (H1 : Heap) (locs1 : List Loc), ls' = ls → h'.1 = h.1 → ax_rel D cA b b0 S h' H1 → va_S (fun q => b0 ≤ q) s.heap H1 locs1 → W p l e R s m args below meth c H1 locs1 cells slots Q (F0 m q C (st'.map (ax_cv b b0)))) : W p l e R s m args below meth c H locs cells slots Q (F0 m pc C (st.map (ax_cv b b0))) := by
  unfold ax_s20 at hs
  split at hs
  · rename_i v i a r
    split at hs
    · rename_i hc
      obtain ⟨h1, h2, h3, h4⟩ := hc
      cases hs
      have hin := ax_out_in h3
      have hlt : i.toNatClampNeg < (h.2.1 a).2 := Nat.not_le.mp fun z => hin (Or.inr z)
      have hg : ax_g b b0 a = b0 + a := ax_g_lt (Nat.lt_trans h1 hr.2.1)
      have hk : (h.2.1 a).1 = 20 ∨ (h.2.1 a).1 = 21 := by omega
      have ho := (hr.2.2.1 a h1).2.1 hk
      have fin : ∀ H1 : Heap, H1[b0 + a]? = some ((arrV (cA (h.2.1 a).1) (h.2.1 a).2 (fun j => .int (h.2.2.1 a j))).setSlot i.toNatClampNeg (.int v)) → H1.size = H.size → (∀ q, q ≠ b0 + a → H1[q]? = H[q]?) → W p l e R s m args below meth c H1 (locs ++ [⟨b0 + a, i.toNatClampNeg⟩]) cells slots Q (F0 m (pc + 1) C (st'.map (ax_cv b b0))) := by
        intro H1 e1 z1 n1
        rw [arrV_store, ax_upi] at e1
        exact kk H1 _ rfl rfl (ax_rel_set (a := a) hr (Nat.ne_of_gt (Nat.lt_trans h1 hr.2.1)) rfl z1 n1 (fun a' ha' => ⟨rfl, ax_up_other _ _ ha', rfl, rfl⟩) (ax_arri_only (h := (h.1, h.2.1, ax_up h.2.2.1 a i.toNatClampNeg v, h.2.2.2)) hk e1)) (hS.put z1 n1 (Nat.le_add_right _ _))
      rcases hd with ⟨rfl, d⟩ | ⟨rfl, d⟩
      · rw [h2] at ho fin
        have := W.iast (Q := Q) (g := F0 m pc C (.int v :: .int i :: .ref (b0 + a) :: st'.map (ax_cv b b0))) hx hb ho ((hK.2 20 .int rfl).1 _ _) (fun z => by cases z) (by rw [arrV_size]; exact hin) rfl rfl d fin
        simpa only [List.map_cons, ax_cv_ref, ax_cv_int, hg] using this
      · rw [h2] at ho fin
        have hn : narrow .boolean (.int v) = .int v := by
          rcases h4 with z | ⟨-, rfl | rfl⟩
          · omega
          · rfl
          · rfl
        have := W.zast (Q := Q) (g := F0 m pc C (.int v :: .int i :: .ref (b0 + a) :: st'.map (ax_cv b b0))) hx hb ho ((hK.2 21 .boolean rfl).1 _ _) (fun z => by cases z) (by rw [arrV_size]; exact hin) rfl rfl d (by rw [hn]; exact fin)
        simpa only [List.map_cons, ax_cv_ref, ax_cv_int, hg] using this
    · cases hs
  · cases hs
theorem ax_o23 (hx : p.tables.exec = Jvm.exec) (hb : c.code = cc) (hK : ax_K D cA s) (hr : ax_rel D cA b b0 S h H) (hd : decode cc pc = .ok (.laload, 1)) (hs : ax_s23 (pc + 1) ls st h = some (q, ls', st', h'))
    (kk : ls' = ls → h' = h → W p l e R s m args below meth c H locs cells slots Q (F0 m q C (st'.map (ax_cv b b0)))) : W p l e R s m args below meth c H locs cells slots Q (F0 m pc C (st.map (ax_cv b b0))) := by
  unfold ax_s23 at hs
  split at hs
  · rename_i i a r
    split at hs
    · rename_i hc
      obtain ⟨h1, h2, h3⟩ := hc
      cases hs
      have kk := kk rfl rfl
      have hin := ax_out_in h3
      have hlt : i.toNatClampNeg < (h.2.1 a).2 := Nat.not_le.mp fun z => hin (Or.inr z)
      have hg : ax_g b b0 a = b0 + a := ax_g_lt (Nat.lt_trans h1 hr.2.1)
      have ho := (hr.2.2.1 a h1).2.2.1 h2
      have := W.lald (v := .long (h.2.2.2.2 a i.toNatClampNeg)) (Q := Q) (g := F0 m pc C (.int i :: .ref (b0 + a) :: r.map (ax_cv b b0))) hx hb ho ((hK.2 22 .long rfl).1 _ _) (fun z => by cases z) (by rw [arrV_size]; exact hin) (by rw [arrV_read _ _ hlt]) rfl rfl hd kk
      simpa only [List.map_cons, ax_cv_ref, ax_cv_int, hg] using this
    · cases hs
  · cases hs
theorem ax_o24 (hx : p.tables.exec = Jvm.exec) (hb : c.code = cc) (hK : ax_K D cA s) (hr : ax_rel D cA b b0 S h H) (hS : va_S (fun q => b0 ≤ q) s.heap H locs) (hd : decode cc pc = .ok (.lastore, 1)) (hs : ax_s24 (pc + 1) ls st h = some (q, ls', st', h'))
    (kk : ∀ (H1 : Heap) (locs1 : List Loc), ls' = ls → h'.1 = h.1 → ax_rel D cA b b0 S h' H1 → va_S (fun q => b0 ≤ q) s.heap H1 locs1 → W p l e R s m args below meth c H1 locs1 cells slots Q (F0 m q C (st'.map (ax_cv b b0)))) : W p l e R s m args below meth c H locs cells slots Q (F0 m pc C (st.map (ax_cv b b0))) := by
  unfold ax_s24 at hs
  split at hs
  · rename_i v i a r
    split at hs
    · rename_i hc
      obtain ⟨h1, h2, h3⟩ := hc
      cases hs
      have hin := ax_out_in h3
      have hg : ax_g b b0 a = b0 + a := ax_g_lt (Nat.lt_trans h1 hr.2.1)
      have ho := (hr.2.2.1 a h1).2.2.1 h2
      have := W.last (Q := Q) (g := F0 m pc C (.long v :: .int i :: .ref (b0 + a) :: st'.map (ax_cv b b0))) hx hb ho ((hK.2 22 .long rfl).1 _ _) (fun z => by cases z) (by rw [arrV_size]; exact hin) rfl rfl hd (fun H1 e1 z1 n1 => by
        rw [arrV_store, ax_upl] at e1
        exact kk H1 _ rfl rfl (ax_rel_set (a := a) hr (Nat.ne_of_gt (Nat.lt_trans h1 hr.2.1)) rfl z1 n1 (fun a' ha' => ⟨rfl, rfl, rfl, ax_up_other _ _ ha'⟩) (ax_arrl_only (h := (h.1, h.2.1, h.2.2.1, h.2.2.2.1, ax_up h.2.2.2.2 a i.toNatClampNeg v)) h2 e1)) (hS.put z1 n1 (Nat.le_add_right _ _)))
      simpa only [List.map_cons, ax_cv_ref, ax_cv_int, ax_cv_long, hg] using this
    · cases hs
  · cases hs
theorem ax_o25 (hx : p.tables.exec = Jvm.exec) (hb : c.code = cc) (hK : ax_K D cA s) (hr : ax_rel D cA b b0 S h H) (hd : decode cc pc = .ok (.aaload, 1)) (hs : ax_s25 (pc + 1) ls st h = some (q, ls', st', h'))
    (kk : ls' = ls → h' = h → W p l e R s m args below meth c H locs cells slots Q (F0 m q C (st'.map (ax_cv b b0)))) : W p l e R s m args below meth c H locs cells slots Q (F0 m pc C (st.map (ax_cv b b0))) := by
  unfold ax_s25 at hs
  split at hs
  · rename_i i a r
    split at hs
    · rename_i hc
      obtain ⟨h1, h2, h3⟩ := hc
      cases hv : h.2.2.2.1 a i.toNatClampNeg with
      | none => rw [hv] at hs; cases hs
      | some v =>
        rw [hv] at hs
        cases hs
        have kk := kk rfl rfl
        have hin := ax_out_in h3
        have hlt : i.toNatClampNeg < (h.2.1 a).2 := Nat.not_le.mp fun z => hin (Or.inr z)
        have hg : ax_g b b0 a = b0 + a := ax_g_lt (Nat.lt_trans h1 hr.2.1)
        have ho := (hr.2.2.1 a h1).2.2.2 h2
        obtain ⟨ci, h9, -, hty⟩ := ax_ra_aty h2
        have := W.aald (v := .ref (ax_g b b0 v)) (ty := .object (ax_cn ci)) (Q := Q) (g := F0 m pc C (.int i :: .ref (b0 + a) :: r.map (ax_cv b b0))) hx hb ho ((hK.2 _ _ hty).1 _ _) rfl (fun z => by cases z) (by rw [arrV_size]; exact hin) (by rw [arrV_read _ _ hlt, hv]; rfl) rfl rfl hd kk
        simpa only [List.map_cons, ax_cv_ref, ax_cv_int, hg] using this
    · cases hs
  · cases hs
theorem ax_o26 (hx : p.tables.exec = Jvm.exec) (hb : c.code = cc) (hK : ax_K D cA s) (hr : ax_rel D cA b b0 S h H) (hS : va_S (fun q => b0 ≤ q) s.heap H locs) (hd : decode cc pc = .ok (.aastore, 1)) (hs : ax_s26 (pc + 1) ls st h = some (q, ls', st', h'))
    (kk : ∀ (H1 : Heap) (locs1 : List Loc), ls' = ls → h'.1 = h.1 → ax_rel D cA b b0 S h' H1 → va_S (fun q => b0 ≤ q) s.heap H1 locs1 → W p l e R s m args below meth c H1 locs1 cells slots Q (F0 m q C (st'.map (ax_cv b b0)))) : W p l e R s m args below meth c H locs cells slots Q (F0 m pc C (st.map (ax_cv b b0))) := by
  unfold ax_s26 at hs
  split at hs
  · rename_i v i a r
    split at hs
    · rename_i hc
      obtain ⟨h1, hv1, h2, hv2, h3⟩ := hc
      cases hs
      have hin := ax_out_in h3
      have hlt : i.toNatClampNeg < (h.2.1 a).2 := Nat.not_le.mp fun z => hin (Or.inr z)
      have h0 : ¬ i < 0 := fun z => hin (Or.inl z)
      have hg : ax_g b b0 a = b0 + a := ax_g_lt (Nat.lt_trans h1 hr.2.1)
      have hgv : ax_g b b0 v = b0 + v := ax_g_lt (Nat.lt_trans hv1 hr.2.1)
      have ho := (hr.2.2.1 a h1).2.2.2 h2
      obtain ⟨ci, h9, e1, hty⟩ := ax_ra_aty h2
      obtain ⟨cellV, g1, g2, g3, -⟩ := (hr.2.2.1 v hv1).1 ci h9 (by omega)
      have hcls := (hK.1 ci h9).2
      obtain ⟨kA, comp, k1, k2, k3, -⟩ := (hK.2 _ _ hty).2
      have hcomp : comp = D.1 ci := Option.some.inj (k3.symm.trans hcls.1)
      subst hcomp
      obtain ⟨kC, hkC, -⟩ := id hcls.2
      have := W.aast (Q := Q) (g := F0 m pc C (.ref (b0 + v) :: .int i :: .ref (b0 + a) :: st'.map (ax_cv b b0))) hx hb ho (fun q h => by cases h) (fun h => by cases h) k1 k2 rfl hkC ⟨h0, by rw [arrV_size]; exact hlt⟩ g1 (fun q h => by rw [g3] at h; cases h) (by rw [g2]; exact hkC) (by rw [g2]; exact va_assign hcls) rfl rfl hd (fun H1 e1 z1 n1 => by
        rw [arrV_store, ← hgv, ax_upr] at e1
        exact kk H1 _ rfl rfl (ax_rel_set (a := a) hr (Nat.ne_of_gt (Nat.lt_trans h1 hr.2.1)) rfl z1 n1 (fun a' ha' => ⟨rfl, rfl, ax_up_other _ _ ha', rfl⟩) (ax_arrr_only (h := (h.1, h.2.1, h.2.2.1, ax_up h.2.2.2.1 a i.toNatClampNeg (some v), h.2.2.2.2)) h2 e1)) (hS.put z1 n1 (Nat.le_add_right _ _)))
      simpa only [List.map_cons, ax_cv_ref, ax_cv_int, hg, hgv] using this
    · cases hs
  · cases hs
end AxA
end
section
section AxN
variable {p : Program} {l : Launch} {e : Env} {R : Room} {s : State} {m : MethodId} {args : Array Value} {below : List Frame} {meth : Method} {c : Code} {H : Heap} {locs : List Loc} {cells slots : Nat} {Q : State → Prop}
variable {cc : ByteArray} {pc q : Nat} {C : Array Slot} {b b0 : Nat} {ls ls' : ax_L} {st st' : List Value} {h h' : ax_H} {D : va_G} {cA : Nat → ClassId} {S : (Nat × Nat) × (Nat → Int32)}
/-- what is known of the script where the law itself runs -/
def ax_scr (b b0 : Nat) (S : (Nat × Nat) × (Nat → Int32)) (s : State) : Prop := va_X b S.1.2 S.2 s s.heap ∧ b < s.heap.size ∧ b < b0
theorem ax_o34 (hx : p.tables.exec = Jvm.exec) (hb : c.code = cc) {k : Nat} (hsc : k = 0 → ax_scr b b0 S s) (hr : ax_rel D cA b b0 S h H) (hS : va_S (fun q => b0 ≤ q) s.heap H locs) (hd : decode cc pc = .ok (.iaload, 1)) (hs : ax_s19s k (pc + 1) ls st h = some (q, ls', st', h'))
    (kk : ls' = ls → h' = h → W p l e R s m args below meth c H locs cells slots Q (F0 m q C (st'.map (ax_cv b b0)))) : W p l e R s m args below meth c H locs cells slots Q (F0 m pc C (st.map (ax_cv b b0))) := by
  unfold ax_s19s at hs
  split at hs
  · rename_i i a r
    split at hs
    · rename_i hc
      obtain ⟨h1, rfl, h3⟩ := hc
      cases hs
      have kk := kk rfl rfl
      obtain ⟨sx, sb, sl⟩ := hsc h1
      have hin := ax_out_in h3
      rw [hr.2.2.2.1] at hin
      rw [hr.2.2.2.2] at kk
      exact va_sld (b := b) hx hb sx sb (Nat.not_le.mpr sl) hS hin hd kk
    · cases hs
  · cases hs
theorem ax_o27 (hx : p.tables.exec = Jvm.exec) (hb : c.code = cc) {k : Nat} (hsc : k = 0 → ax_scr b b0 S s) (hK : ax_K D cA s) (hr : ax_rel D cA b b0 S h H) (hS : va_S (fun q => b0 ≤ q) s.heap H locs) (hd : decode cc pc = .ok (.arraylength, 1)) (hs : ax_s27 k (pc + 1) ls st h = some (q, ls', st', h'))
    (kk : ls' = ls → h' = h → W p l e R s m args below meth c H locs cells slots Q (F0 m q C (st'.map (ax_cv b b0)))) : W p l e R s m args below meth c H locs cells slots Q (F0 m pc C (st.map (ax_cv b b0))) := by
  unfold ax_s27 at hs
  split at hs
  · rename_i a r
    split at hs
    · rename_i hc
      cases hs
      have kk := kk rfl rfl
      rcases hc with ⟨h1, h2⟩ | ⟨h1, rfl⟩
      · have hg : ax_g b b0 a = b0 + a := ax_g_lt (Nat.lt_trans h1 hr.2.1)
        have ho := (hr.2.2.1 a h1).2.1 (Or.inl h2)
        rw [h2] at ho
        have := W.alen (n := Int32.ofNat (h.2.1 a).2) (ty := .int) (Q := Q) (g := F0 m pc C (.ref (b0 + a) :: r.map (ax_cv b b0))) hx hb ho ((hK.2 20 .int rfl).1 _ _) (by rw [arrV_size]) rfl rfl hd kk
        simpa only [List.map_cons, ax_cv_ref, ax_cv_int, hg] using this
      · obtain ⟨sx, sb, sl⟩ := hsc h1
        rw [hr.2.2.2.1] at kk
        exact va_slen (b := b) hx hb sx sb (Nat.not_le.mpr sl) hS hd kk
    · cases hs
  · cases hs
theorem ax_S_push (hS : va_S (fun q => b0 ≤ q) s.heap H locs) {H1 : Heap} (hz : H1.size = H.size + 1) (ho : ∀ q : Nat, q < H.size → H1[q]? = H[q]?) : va_S (fun q => b0 ≤ q) s.heap H1 locs :=
  ⟨Nat.le_trans hS.1 (by omega), fun x h1 h2 => (ho x (Nat.lt_of_lt_of_le h1 hS.1)).trans (hS.2.1 x h1 h2), hS.2.2⟩
theorem ax_fw_new {x n : Nat} (h : ax_H) (i : Nat) : ax_fw b b0 (ax_new h (x + 1) n) x h.1.1 i = if ax_ft x i = 2 then .null else .int 0 := by
  unfold ax_fw ax_new
  simp only [ax_rw_self]
  split <;> rfl
theorem ax_o28 (hx : p.tables.exec = Jvm.exec) (hb : c.code = cc) {own : String} (hown : s.vm.findClass own = some m.cls) (hts : ∀ w ∈ lw_tbl, w.onTables = true → w.before args s = true) (hK : ax_K D cA s) (hr : ax_rel D cA b b0 S h H) (hS : va_S (fun q => b0 ≤ q) s.heap H locs) {x idx : Nat} (hd : decode cc pc = .ok (.new idx, 3)) (hlk : (Cond.classLink own idx (ax_cn x)).before args s = true) (hs : ax_s28 (pc + 3) ls st h x = some (q, ls', st', h'))
    (hcl : cells + (h'.1.1 - h.1.1) ≤ R.cells) (hsl : slots + (h'.1.2 - h.1.2) ≤ R.slots)
    (kk : ∀ (H1 : Heap), ls' = ls → ax_rel D cA b b0 S h' H1 → va_S (fun q => b0 ≤ q) s.heap H1 locs → W p l e R s m args below meth c H1 locs (cells + (h'.1.1 - h.1.1)) (slots + (h'.1.2 - h.1.2)) Q (F0 m q C (st'.map (ax_cv b b0)))) : W p l e R s m args below meth c H locs cells slots Q (F0 m pc C (st.map (ax_cv b b0))) := by
  unfold ax_s28 at hs
  split at hs
  · rename_i hc
    obtain ⟨h9, hlim⟩ := hc
    cases hs
    have e1 : (ax_new h (x + 1) (ax_nf x)).1.1 - h.1.1 = 1 := by show h.1.1 + 1 - h.1.1 = 1; omega
    have e2 : (ax_new h (x + 1) (ax_nf x)).1.2 - h.1.2 = ax_nf x := by show h.1.2 + ax_nf x - h.1.2 = ax_nf x; omega
    rw [e1] at hcl
    rw [e2] at hsl
    rw [e1, e2] at kk
    have hKn := hK.1 x h9
    have hU := ax_hU hts h9
    have hi := hts _ (ax_inst x h9) rfl
    have hini := hts _ (ax_init x h9) rfl
    have hsz := hr.1
    have hg : ax_g b b0 h.1.1 = b0 + h.1.1 := ax_g_lt hr.2.1
    refine W.newcK hx hb hown hlk hi hini rfl hd hcl hsl hKn.2.1 rfl fun H1 kC hkC p1 z1 o1 => ?_
    rw [hsz] at p1 z1 o1
    have ob : t_OB (b0 + h.1.1) (D.1 x) (ax_nf x) (D.2 x) H1 (fun j => defaultValue (ax_ty x j)) := u_born (ax_ty x) hU (fun w hw => hw) hKn hkC p1 (ax_tyok x h9)
    have cell : ax_cell D cA b b0 (ax_new h (x + 1) (ax_nf x)) h.1.1 H1 := by
      refine ax_obj_only h9 (by show (ax_sh _ _ _ _).1 = _; rw [ax_sh_self]) (ob.to (fun i hi => ?_))
      rw [ax_fw_new]
      rcases ax_ftok x h9 i hi with ⟨f0, t0⟩ | ⟨f1, t1⟩ | ⟨f2, t2⟩
      · rw [if_neg (by omega), t0]; rfl
      · rw [if_neg (by omega), t1]; rfl
      · rw [if_pos f2]
        cases ht : ax_ty x i <;> rw [ht] at t2 <;> first | rfl | cases t2
    have := kk H1 rfl (ax_rel_new hr hlim z1 o1 cell) (ax_S_push hS (by omega) (by rw [hsz]; exact o1))
    simpa only [List.map_cons, ax_cv_ref, hg, hsz] using this
  · cases hs
theorem ax_o29 (hx : p.tables.exec = Jvm.exec) (hb : c.code = cc) (hta : ∀ ty, ty = .int ∨ ty = .boolean ∨ ty = .long → (Cond.arrayClass ty).before args s = true) (hK : ax_K D cA s) (hr : ax_rel D cA b b0 S h H) (hS : va_S (fun q => b0 ≤ q) s.heap H locs) {x : Nat} (hd : decode cc pc = .ok (.newarray (ax_at x), 2)) (hs : ax_s29 (pc + 2) ls st h x = some (q, ls', st', h'))
    (hcl : cells + (h'.1.1 - h.1.1) ≤ R.cells) (hsl : slots + (h'.1.2 - h.1.2) ≤ R.slots)
    (kk : ∀ (H1 : Heap), ls' = ls → ax_rel D cA b b0 S h' H1 → va_S (fun q => b0 ≤ q) s.heap H1 locs → W p l e R s m args below meth c H1 locs (cells + (h'.1.1 - h.1.1)) (slots + (h'.1.2 - h.1.2)) Q (F0 m q C (st'.map (ax_cv b b0)))) : W p l e R s m args below meth c H locs cells slots Q (F0 m pc C (st.map (ax_cv b b0))) := by
  unfold ax_s29 at hs
  split at hs
  · rename_i n r
    split at hs
    · rename_i hc
      obtain ⟨hlim, hn, hn2, hx3⟩ := hc
      cases hs
      have e1 : (ax_new h x n.toNatClampNeg).1.1 - h.1.1 = 1 := by show h.1.1 + 1 - h.1.1 = 1; omega
      have e2 : (ax_new h x n.toNatClampNeg).1.2 - h.1.2 = n.toNatClampNeg := by show h.1.2 + n.toNatClampNeg - h.1.2 = _; omega
      rw [e1] at hcl
      rw [e2] at hsl
      rw [e1, e2] at kk
      have hsz := hr.1
      have hg : ax_g b b0 h.1.1 = b0 + h.1.1 := ax_g_lt hr.2.1
      have fin : ∀ (H1 : Heap) (ty : FieldType) (cN : ClassId), ax_aty x = some ty → H1[b0 + h.1.1]? = some (arrV cN n.toNatClampNeg (fun _ => defaultValue ty)) → H1.size = b0 + h.1.1 + 1 → (∀ q, q < b0 + h.1.1 → H1[q]? = H[q]?) → s.vm.findClass ("[" ++ ty.toString) = some cN → (ty = .int ∨ ty = .boolean ∨ ty = .long) → W p l e R s m args below meth c H1 locs (cells + 1) (slots + n.toNatClampNeg) Q (F0 m (pc + 2) C (.ref (b0 + h.1.1) :: r.map (ax_cv b b0))) := by
        intro H1 ty cN hty p1 z1 o1 hcn hty3
        have hra := (hK.2 x ty hty).2
        have hcA : cN = cA x := by
          rcases hty3 with rfl | rfl | rfl <;> exact Option.some.inj (hcn.symm.trans hra)
        subst hcA
        have hsh : (ax_new h x n.toNatClampNeg).2.1 h.1.1 = (x, n.toNatClampNeg) := ax_sh_self _ _ _
        have cell : ax_cell D cA b b0 (ax_new h x n.toNatClampNeg) h.1.1 H1 := by
          rcases hx3 with rfl | rfl | rfl
          · cases hty
            refine ax_arri_only (Or.inl (by rw [hsh])) ?_
            rw [hsh, p1]
            show _ = some (arrV (cA 20) _ (fun j => .int (ax_rw _ _ _ _ j)))
            rw [ax_rw_self]; rfl
          · cases hty
            refine ax_arri_only (Or.inr (by rw [hsh])) ?_
            rw [hsh, p1]
            show _ = some (arrV (cA 21) _ (fun j => .int (ax_rw _ _ _ _ j)))
            rw [ax_rw_self]; rfl
          · cases hty
            refine ax_arrl_only (by rw [hsh]) ?_
            rw [hsh, p1]
            show _ = some (arrV (cA 22) _ (fun j => .long (ax_rw _ _ _ _ j)))
            rw [ax_rw_self]; rfl
        have := kk H1 rfl (ax_rel_new hr hlim z1 o1 cell) (ax_S_push hS (by omega) (by rw [hsz]; exact o1))
        simpa only [List.map_cons, ax_cv_ref, hg] using this
      have bytes : ∀ ty, ty = .int ∨ ty = .boolean ∨ ty = .long → n.toNatClampNeg * componentBytes ty ≤ 536870912 := by
        intro ty h3
        rcases h3 with rfl | rfl | rfl
        · show n.toNatClampNeg * 4 ≤ _; omega
        · show n.toNatClampNeg * 1 ≤ _; omega
        · show n.toNatClampNeg * 8 ≤ _; omega
      rcases hx3 with rfl | rfl | rfl
      · exact va_newaK (atype := .int) hx hb (hta _ (Or.inl rfl)) rfl hd rfl hn rfl (bytes _ (Or.inl rfl)) hcl hsl hsz fun H1 cN p1 z1 o1 _ hN => fin H1 .int cN rfl p1 z1 o1 hN (Or.inl rfl)
      · exact va_newaK (atype := .boolean) hx hb (hta _ (Or.inr (Or.inl rfl))) rfl hd rfl hn rfl (bytes _ (Or.inr (Or.inl rfl))) hcl hsl hsz fun H1 cN p1 z1 o1 _ hN => fin H1 .boolean cN rfl p1 z1 o1 hN (Or.inr (Or.inl rfl))
      · exact va_newaK (atype := .long) hx hb (hta _ (Or.inr (Or.inr rfl))) rfl hd rfl hn rfl (bytes _ (Or.inr (Or.inr rfl))) hcl hsl hsz fun H1 cN p1 z1 o1 _ hN => fin H1 .long cN rfl p1 z1 o1 hN (Or.inr (Or.inr rfl))
    · cases hs
  · cases hs
end AxN
end
section
section AxN2
variable {p : Program} {l : Launch} {e : Env} {R : Room} {s : State} {m : MethodId} {args : Array Value} {below : List Frame} {meth : Method} {c : Code} {H : Heap} {locs : List Loc} {cells slots : Nat} {Q : State → Prop}
variable {cc : ByteArray} {pc q : Nat} {C : Array Slot} {b b0 : Nat} {ls ls' : ax_L} {st st' : List Value} {h h' : ax_H} {D : va_G} {cA : Nat → ClassId} {S : (Nat × Nat) × (Nat → Int32)}
theorem ax_o30 (hx : p.tables.exec = Jvm.exec) (hb : c.code = cc) {own : String} (hown : s.vm.findClass own = some m.cls) (hta : ∀ x ty, ax_ra x = true → ax_aty x = some ty → (Cond.arrayOver ty).before args s = true) (hK : ax_K D cA s) (hr : ax_rel D cA b b0 S h H) (hS : va_S (fun q => b0 ≤ q) s.heap H locs) {x idx : Nat} (hd : decode cc pc = .ok (.anewarray idx, 3)) (hlk : (Cond.classLink own idx (ax_cn x)).before args s = true) (hs : ax_s30 (pc + 3) ls st h x = some (q, ls', st', h'))
    (hcl : cells + (h'.1.1 - h.1.1) ≤ R.cells) (hsl : slots + (h'.1.2 - h.1.2) ≤ R.slots)
    (kk : ∀ (H1 : Heap), ls' = ls → ax_rel D cA b b0 S h' H1 → va_S (fun q => b0 ≤ q) s.heap H1 locs → W p l e R s m args below meth c H1 locs (cells + (h'.1.1 - h.1.1)) (slots + (h'.1.2 - h.1.2)) Q (F0 m q C (st'.map (ax_cv b b0)))) : W p l e R s m args below meth c H locs cells slots Q (F0 m pc C (st.map (ax_cv b b0))) := by
  unfold ax_s30 at hs
  split at hs
  · rename_i n r
    split at hs
    · rename_i hc
      obtain ⟨hlim, hn, hn2, hx3⟩ := hc
      cases hs
      have e1 : (ax_new h (x + 30) n.toNatClampNeg).1.1 - h.1.1 = 1 := by show h.1.1 + 1 - h.1.1 = 1; omega
      have e2 : (ax_new h (x + 30) n.toNatClampNeg).1.2 - h.1.2 = n.toNatClampNeg := by show h.1.2 + n.toNatClampNeg - h.1.2 = _; omega
      rw [e1] at hcl
      rw [e2] at hsl
      rw [e1, e2] at kk
      have hsz := hr.1
      have hg : ax_g b b0 h.1.1 = b0 + h.1.1 := ax_g_lt hr.2.1
      have hra : ax_ra (x + 30) = true := by rcases hx3 with rfl | rfl | rfl | rfl <;> rfl
      obtain ⟨ci, h9, ec, hty⟩ := ax_ra_aty hra
      have ec : ci = x := by omega
      subst ec
      refine W.anew (g := F0 m pc C (.int n :: r.map (ax_cv b b0))) hx hb hown hlk (hta _ _ hra hty) rfl hd rfl hn (by omega) hcl hsl fun cN kA comp f1 f2 f3 f4 => ?_
      generalize hH1 : H.push ({ cls := cN, slots := Array.replicate n.toNatClampNeg .null, vm := .none } : Cell) = H1
      have z1 : H1.size = b0 + h.1.1 + 1 := by rw [← hH1, Array.size_push, hsz]
      have p1 : H1[b0 + h.1.1]? = some (arrV cN n.toNatClampNeg (fun _ => .null)) := by rw [← hH1, ← hsz, Array.getElem?_push_size, ← arrV_new]
      have o1 : ∀ q : Nat, q < b0 + h.1.1 → H1[q]? = H[q]? := fun q hq => by rw [← hH1, Array.getElem?_push, if_neg (by omega)]
      have hcA : cN = cA (ci + 30) := by
        obtain ⟨kA', comp', k1, k2, k3, k4⟩ := (hK.2 _ _ hty).2
        exact Option.some.inj (f1.symm.trans k4)
      subst hcA
      have hsh : (ax_new h (ci + 30) n.toNatClampNeg).2.1 h.1.1 = (ci + 30, n.toNatClampNeg) := ax_sh_self _ _ _
      have cell : ax_cell D cA b b0 (ax_new h (ci + 30) n.toNatClampNeg) h.1.1 H1 := by
        refine ax_arrr_only (by rw [hsh]; exact hra) ?_
        rw [hsh, p1]
        show _ = some (arrV (cA (ci + 30)) _ (fun j => va_rf (Option.map (ax_g b b0) (ax_rw h.2.2.2.1 h.1.1 (fun _ => none) h.1.1 j))))
        rw [ax_rw_self]; rfl
      have := kk H1 rfl (ax_rel_new hr hlim z1 o1 cell) (ax_S_push hS (by omega) (by rw [hsz]; exact o1))
      simpa only [List.map_cons, ax_cv_ref, hg, hsz] using this
    · cases hs
  · cases hs
theorem ax_o31 (hx : p.tables.exec = Jvm.exec) (hb : c.code = cc) {own : String} (hown : s.vm.findClass own = some m.cls) (hml : C.size = c.maxLocals) {idx : Nat} (hd : decode cc pc = .ok (.invokespecial idx, 3)) (hlk : (Cond.methodLink own idx Lib.objectInit).before args s = true) (hin : (Cond.instanceMethod Lib.objectInit).before args s = true) (hco : (Cond.code Lib.objectInit ⟨#[0xb1]⟩ 1 none).before args s = true) (hfr : 1 ≤ R.frames) (hlo : 20 ≤ R.locals) (hs : ax_s31 (pc + 3) ls st h = some (q, ls', st', h'))
    (kk : ls' = ls → h' = h → W p l e R s m args below meth c H locs cells slots Q (F0 m q C (st'.map (ax_cv b b0)))) : W p l e R s m args below meth c H locs cells slots Q (F0 m pc C (st.map (ax_cv b b0))) := by
  unfold ax_s31 at hs
  split at hs
  · rename_i a r
    split at hs
    · rename_i hw
      cases hs
      have kk := kk rfl rfl
      have hw2 : ((st'.map (ax_cv b b0)).map fun v => v.category).sum ≤ 8 := by
        rw [List.map_map]
        have : ((fun v => v.category) ∘ ax_cv b b0) = (fun v : Value => v.category) := by funext v; exact ax_cv_cat b b0 v
        rw [this]; exact hw
      exact W.objInit (g := F0 m pc C (.ref (ax_g b b0 a) :: st'.map (ax_cv b b0))) hx hb hown hlk hin hco rfl hml rfl hd hfr (by show 2 * 0 + _ + 12 ≤ _; omega) kk
    · cases hs
  · cases hs
theorem ax_o32 (hx : p.tables.exec = Jvm.exec) (hb : c.code = cc) {own : String} (hown : s.vm.findClass own = some m.cls) (hml : c.maxLocals = C.size) (hK : ax_K D cA s) (hr : ax_rel D cA b b0 S h H) (hS : va_S (fun q => b0 ≤ q) s.heap H locs) {idx : Nat} (hd : decode cc pc = .ok (.invokestatic idx, 3)) (hlk : (Cond.methodLink own idx arraycopyName).before args s = true) (hnat : (Cond.native arraycopyName).before args s = true) (hstat : (Cond.static arraycopyName).before args s = true) (hini : (Cond.initialized "java/lang/System").before args s = true) (hfr : 1 ≤ R.frames) (hlo : nativeFrameWords "java/lang/System" "arraycopy" 5 + 11 ≤ R.locals) (hs : ax_s32 (pc + 3) ls st h = some (q, ls', st', h'))
    (kk : ∀ (H1 : Heap) (locs1 : List Loc), ls' = ls → h'.1 = h.1 → ax_rel D cA b b0 S h' H1 → va_S (fun q => b0 ≤ q) s.heap H1 locs1 → W p l e R s m args below meth c H1 locs1 cells slots Q (F0 m q C (st'.map (ax_cv b b0)))) : W p l e R s m args below meth c H locs cells slots Q (F0 m pc C (st.map (ax_cv b b0))) := by
  unfold ax_s32 at hs
  split at hs
  · rename_i n d t c1 a r
    split at hs
    · rename_i hc
      obtain ⟨h1, h2, hne, hka, hkb, rfl, rfl, rfl, rfl⟩ := hc
      cases hs
      have hga : ax_g b b0 a = b0 + a := ax_g_lt (Nat.lt_trans h1 hr.2.1)
      have hgb : ax_g b b0 t = b0 + t := ax_g_lt (Nat.lt_trans h2 hr.2.1)
      have oa := (hr.2.2.1 a h1).2.1 (by rw [hka]; exact Or.inl rfl)
      have ob := (hr.2.2.1 t h2).2.1 (by rw [hkb]; exact Or.inl rfl)
      rw [hka] at oa
      rw [hkb] at ob
      intro T hT X
      obtain ⟨-, k0, hk0, cm0, hkk0⟩ := (hK.2 20 .int rfl).1 8 (fun j => .int (h.2.2.1 a j))
      have z0 : ¬ (0 : Int32) < 0 := by decide
      obtain ⟨vm', X', step⟩ := X.arraycopy hx hown hlk hnat hstat hini (src := b0 + a) (dst := b0 + t) (cs := arrV (cA 20) 8 (fun j => .int (h.2.2.1 a j))) (cd := arrV (cA 20) 8 (fun j => .int (h.2.2.1 t j))) (srcPos := 0) (destPos := 0) (n := 8) (by rw [hT]; exact oa) (by rw [hT]; exact ob)
        (fun _ h => by cases h) (fun _ h => by cases h) (fun h => by cases h) (fun h => by cases h) hk0 hk0 hkk0 hkk0 (by decide) z0 z0 (by decide)
        (by rw [arrV_size]; decide) (by rw [arrV_size]; decide)
        (fun vm₁ _ i hi => by
          have hi : i < 8 := hi
          have e : (arrV (cA 20) 8 (fun j => .int (h.2.2.1 a j))).slots.getD ((0 : Int32).toNatClampNeg + i) .null = .int (h.2.2.1 a ((0 : Int32).toNatClampNeg + i)) := by
            rw [Array.getD_eq_getD_getElem?, arrV_read _ _ (by show 0 + i < 8; omega)]
            rfl
          refine ⟨?_, ?_⟩
          · rw [e]; rfl
          · rw [e]; exact trivial)
        (g := F0 m pc C (.int 8 :: .int 0 :: .ref (b0 + t) :: .int 0 :: .ref (b0 + a) :: [])) rfl (by rw [hml]) (rest := []) rfl (by rw [hb]; exact hd) hfr (by show 2 * 0 + 0 + _ ≤ _; omega)
      have e1 : copied (arrV (cA 20) 8 (fun j => .int (h.2.2.1 a j))) (arrV (cA 20) 8 (fun j => .int (h.2.2.1 t j))) 0 0 8 = arrV (cA 20) 8 (fun j => .int (va_cpy (h.2.2.1 a) (h.2.2.1 t) 0 0 8 j)) := va_copied (n := 8) (sp := 0) (dp := 0) (fun z => .int z) (cA 20) (cA 20) (h.2.2.1 a) (h.2.2.1 t) (by decide)
      rw [e1] at X' step
      have hl : b0 + t < H.size := by rw [hr.1]; exact Nat.add_lt_add_left h2 b0
      have oq : ∀ q : Nat, q ≠ b0 + t → (H.setIfInBounds (b0 + t) (arrV (cA 20) 8 (fun j => .int (va_cpy (h.2.2.1 a) (h.2.2.1 t) 0 0 8 j))))[q]? = H[q]? := fun q hq => by simp [Array.getElem?_setIfInBounds, Ne.symm hq]
      have ec : (fun j => Value.int (va_cpy (h.2.2.1 a) (h.2.2.1 t) 0 0 8 j)) = fun j => Value.int (if j < 8 then h.2.2.1 a j else h.2.2.1 t j) := by
        funext j
        unfold va_cpy
        by_cases z : j < 8 <;> simp [z]
      obtain ⟨t2, a1, b1⟩ := kk (H.setIfInBounds (b0 + t) (arrV (cA 20) 8 (fun j => .int (va_cpy (h.2.2.1 a) (h.2.2.1 t) 0 0 8 j)))) _ rfl rfl (ax_rel_set (a := t) hr (Nat.ne_of_gt (Nat.lt_trans h2 hr.2.1)) rfl (by simp) oq (fun a' ha' => ⟨rfl, ax_rw_other _ _ ha', rfl, rfl⟩) (ax_arri_only (Or.inl (by show (h.2.1 t).1 = 20; rw [hkb])) (by
          show _ = some (arrV (cA (h.2.1 t).1) (h.2.1 t).2 (fun j => .int (ax_rw _ _ _ _ j)))
          rw [ax_rw_self, hkb, ec]
          simp [Array.getElem?_setIfInBounds, hl])))
        ⟨by simp; exact hS.1, fun q g1 g2 => by
          rw [oq q (fun e => g2 (by rw [e]; exact Nat.le_add_right _ _))]
          exact hS.2.1 q g1 g2, fun q hq => by
          rcases List.mem_append.mp hq with h | h
          · exact hS.2.2 q h
          · obtain ⟨z, -, hz⟩ := List.mem_map.mp h
            rw [← hz]
            exact Nat.le_add_right _ _⟩ ((T.setVm vm').setCell (b0 + t) (arrV (cA 20) 8 (fun j => .int (va_cpy (h.2.2.1 a) (h.2.2.1 t) 0 0 8 j)))) (by rw [← hT]; rfl) X'
      refine ⟨t2, ?_, b1⟩
      have := step t2 a1
      simpa only [List.map_cons, List.map_nil, ax_cv_ref, ax_cv_int, hga, hgb] using this
    · cases hs
  · cases hs
end AxN2
end
section
/-! the methods: bytes, locals, class, name, what it returns, the room that it asks, handlers, rows; written by wip/tools/gen11.py -/
def ax_by : Nat → ByteArray := fun k => match k with
  | 0 => code
  | 1 => method_3_code
  | 2 => method_4_code
  | 3 => method_5_code
  | 4 => method_6_code
  | 5 => method_7_code
  | 6 => method_8_code
  | 7 => method_9_code
  | 8 => method_10_code
  | 9 => method_11_code
  | 10 => method_12_code
  | 11 => method_13_code
  | 12 => method_14_code
  | 13 => method_15_code
  | 14 => method_16_code
  | 15 => prog_2_method_1_code
  | 16 => prog_2_method_4_code
  | 17 => prog_2_method_3_code
  | 18 => prog_2_method_5_code
  | 19 => prog_2_method_2_code
  | 20 => prog_3_method_1_code
  | 21 => prog_3_method_2_code
  | 22 => prog_4_method_1_code
  | 23 => prog_4_method_2_code
  | 24 => prog_5_method_1_code
  | 25 => prog_5_method_2_code
  | 26 => prog_5_method_3_code
  | 27 => prog_5_method_5_code
  | 28 => prog_5_method_6_code
  | 29 => prog_5_method_9_code
  | 30 => prog_5_method_7_code
  | 31 => prog_5_method_8_code
  | 32 => prog_5_method_12_code
  | 33 => prog_5_method_15_code
  | 34 => prog_5_method_17_code
  | 35 => prog_5_method_18_code
  | 36 => prog_5_method_13_code
  | 37 => prog_5_method_14_code
  | 38 => prog_5_method_10_code
  | 39 => prog_5_method_16_code
  | 40 => prog_5_method_11_code
  | 41 => prog_5_method_4_code
  | 42 => prog_6_method_1_code
  | 43 => prog_6_method_2_code
  | 44 => prog_6_method_5_code
  | 45 => prog_6_method_6_code
  | 46 => prog_6_method_3_code
  | 47 => prog_6_method_8_code
  | 48 => prog_6_method_9_code
  | 49 => prog_6_method_10_code
  | 50 => prog_6_method_7_code
  | 51 => prog_6_method_4_code
  | 52 => prog_7_method_1_code
  | 53 => prog_7_method_2_code
  | 54 => prog_7_method_3_code
  | 55 => prog_8_method_1_code
  | 56 => prog_8_method_2_code
  | 57 => prog_8_method_5_code
  | 58 => prog_8_method_4_code
  | 59 => prog_8_method_12_code
  | 60 => prog_8_method_3_code
  | 61 => prog_8_method_13_code
  | 62 => prog_8_method_14_code
  | 63 => prog_8_method_6_code
  | 64 => prog_8_method_10_code
  | 65 => prog_8_method_9_code
  | 66 => prog_8_method_8_code
  | 67 => prog_8_method_7_code
  | 68 => prog_8_method_11_code
  | 69 => prog_1_method_1_code
  | 70 => prog_1_method_2_code
  | 71 => prog_1_method_18_code
  | 72 => prog_1_method_20_code
  | 73 => prog_1_method_16_code
  | 74 => prog_1_method_3_code
  | 75 => prog_1_method_22_code
  | 76 => prog_1_method_4_code
  | 77 => prog_1_method_5_code
  | 78 => prog_1_method_21_code
  | 79 => prog_1_method_17_code
  | 80 => prog_1_method_6_code
  | 81 => prog_1_method_7_code
  | 82 => prog_1_method_19_code
  | 83 => prog_1_method_8_code
  | 84 => prog_1_method_9_code
  | 85 => prog_1_method_10_code
  | 86 => prog_1_method_11_code
  | 87 => prog_1_method_12_code
  | 88 => prog_1_method_13_code
  | 89 => prog_1_method_14_code
  | 90 => prog_1_method_15_code
  | 91 => prog_10_method_1_code
  | 92 => prog_10_method_2_code
  | 93 => prog_10_method_9_code
  | 94 => prog_10_method_5_code
  | 95 => prog_10_method_4_code
  | 96 => prog_10_method_3_code
  | 97 => prog_10_method_10_code
  | 98 => prog_10_method_6_code
  | 99 => prog_10_method_8_code
  | 100 => prog_10_method_11_code
  | 101 => prog_10_method_13_code
  | 102 => prog_10_method_12_code
  | 103 => prog_10_method_7_code
  | 104 => prog_10_method_14_code
  | 105 => prog_10_method_29_code
  | 106 => prog_10_method_28_code
  | 107 => prog_10_method_15_code
  | 108 => prog_10_method_16_code
  | 109 => prog_10_method_27_code
  | 110 => prog_10_method_25_code
  | 111 => prog_10_method_18_code
  | 112 => prog_10_method_26_code
  | 113 => prog_10_method_17_code
  | 114 => prog_10_method_20_code
  | 115 => prog_10_method_19_code
  | 116 => prog_10_method_21_code
  | 117 => prog_10_method_22_code
  | 118 => prog_10_method_23_code
  | 119 => prog_10_method_24_code
  | 120 => prog_10_method_31_code
  | 121 => prog_10_method_30_code
  | 122 => prog_10_method_32_code
  | 123 => prog_10_method_34_code
  | 124 => prog_10_method_33_code
  | 125 => prog_10_method_41_code
  | 126 => prog_10_method_37_code
  | 127 => prog_10_method_35_code
  | 128 => prog_10_method_36_code
  | 129 => prog_10_method_40_code
  | 130 => prog_10_method_38_code
  | 131 => prog_10_method_39_code
  | 132 => prog_10_method_42_code
  | 133 => prog_10_method_43_code
  | 134 => prog_10_method_44_code
  | 135 => prog_10_method_45_code
  | 136 => prog_14_method_65_code
  | _ => prog_19_method_103_code
def ax_ml : Nat → Nat := fun k => match k with
  | 0 => 7
  | 1 => 6
  | 2 => 8
  | 3 => 6
  | 4 => 8
  | 5 => 4
  | 6 => 4
  | 7 => 7
  | 8 => 5
  | 9 => 3
  | 10 => 4
  | 11 => 4
  | 12 => 4
  | 13 => 5
  | 14 => 4
  | 15 => 2
  | 16 => 5
  | 17 => 5
  | 18 => 1
  | 19 => 2
  | 20 => 1
  | 21 => 4
  | 22 => 1
  | 23 => 2
  | 24 => 3
  | 25 => 1
  | 26 => 2
  | 27 => 6
  | 28 => 3
  | 29 => 2
  | 30 => 5
  | 31 => 2
  | 32 => 3
  | 33 => 5
  | 34 => 4
  | 35 => 5
  | 36 => 5
  | 37 => 4
  | 38 => 5
  | 39 => 5
  | 40 => 3
  | 41 => 3
  | 42 => 3
  | 43 => 2
  | 44 => 4
  | 45 => 4
  | 46 => 1
  | 47 => 6
  | 48 => 6
  | 49 => 5
  | 50 => 10
  | 51 => 2
  | 52 => 2
  | 53 => 3
  | 54 => 2
  | 55 => 1
  | 56 => 1
  | 57 => 3
  | 58 => 5
  | 59 => 3
  | 60 => 2
  | 61 => 6
  | 62 => 2
  | 63 => 2
  | 64 => 4
  | 65 => 4
  | 66 => 2
  | 67 => 2
  | 68 => 3
  | 69 => 2
  | 70 => 5
  | 71 => 2
  | 72 => 1
  | 73 => 1
  | 74 => 7
  | 75 => 1
  | 76 => 5
  | 77 => 7
  | 78 => 1
  | 79 => 4
  | 80 => 3
  | 81 => 2
  | 82 => 1
  | 83 => 6
  | 84 => 4
  | 85 => 2
  | 86 => 2
  | 87 => 2
  | 88 => 2
  | 89 => 3
  | 90 => 4
  | 91 => 1
  | 92 => 1
  | 93 => 5
  | 94 => 1
  | 95 => 3
  | 96 => 4
  | 97 => 7
  | 98 => 1
  | 99 => 1
  | 100 => 5
  | 101 => 9
  | 102 => 5
  | 103 => 1
  | 104 => 3
  | 105 => 2
  | 106 => 5
  | 107 => 4
  | 108 => 7
  | 109 => 4
  | 110 => 6
  | 111 => 2
  | 112 => 6
  | 113 => 6
  | 114 => 6
  | 115 => 6
  | 116 => 6
  | 117 => 7
  | 118 => 7
  | 119 => 4
  | 120 => 7
  | 121 => 3
  | 122 => 4
  | 123 => 3
  | 124 => 6
  | 125 => 3
  | 126 => 2
  | 127 => 1
  | 128 => 2
  | 129 => 6
  | 130 => 3
  | 131 => 4
  | 132 => 2
  | 133 => 2
  | 134 => 3
  | 135 => 5
  | 136 => 2
  | _ => 4
def ax_on : Nat → String := fun k => match k with
  | 0 => "MakerGuard$Body"
  | 1 => "MakerGuard$Declaration"
  | 2 => "MakerGuard$Frame"
  | 3 => "MakerGuard$Guard"
  | 4 => "MakerGuard$Machine"
  | 5 => "MakerGuard$Program"
  | 6 => "MakerGuard$Sight"
  | 7 => "MakerGuard"
  | 8 => "MakerGuardModel"
  | 9 => "MakerGuardLaw"
  | 10 => "java/lang/Math"
  | _ => "java/util/Arrays"
def ax_wn : Nat → Nat := fun k => match k with
  | 0 => 9
  | 1 => 9
  | 2 => 9
  | 3 => 9
  | 4 => 9
  | 5 => 9
  | 6 => 9
  | 7 => 9
  | 8 => 9
  | 9 => 9
  | 10 => 9
  | 11 => 9
  | 12 => 9
  | 13 => 9
  | 14 => 9
  | 15 => 0
  | 16 => 0
  | 17 => 0
  | 18 => 0
  | 19 => 0
  | 20 => 1
  | 21 => 1
  | 22 => 2
  | 23 => 2
  | 24 => 3
  | 25 => 3
  | 26 => 3
  | 27 => 3
  | 28 => 3
  | 29 => 3
  | 30 => 3
  | 31 => 3
  | 32 => 3
  | 33 => 3
  | 34 => 3
  | 35 => 3
  | 36 => 3
  | 37 => 3
  | 38 => 3
  | 39 => 3
  | 40 => 3
  | 41 => 3
  | 42 => 4
  | 43 => 4
  | 44 => 4
  | 45 => 4
  | 46 => 4
  | 47 => 4
  | 48 => 4
  | 49 => 4
  | 50 => 4
  | 51 => 4
  | 52 => 5
  | 53 => 5
  | 54 => 5
  | 55 => 6
  | 56 => 6
  | 57 => 6
  | 58 => 6
  | 59 => 6
  | 60 => 6
  | 61 => 6
  | 62 => 6
  | 63 => 6
  | 64 => 6
  | 65 => 6
  | 66 => 6
  | 67 => 6
  | 68 => 6
  | 69 => 7
  | 70 => 7
  | 71 => 7
  | 72 => 7
  | 73 => 7
  | 74 => 7
  | 75 => 7
  | 76 => 7
  | 77 => 7
  | 78 => 7
  | 79 => 7
  | 80 => 7
  | 81 => 7
  | 82 => 7
  | 83 => 7
  | 84 => 7
  | 85 => 7
  | 86 => 7
  | 87 => 7
  | 88 => 7
  | 89 => 7
  | 90 => 7
  | 91 => 8
  | 92 => 8
  | 93 => 8
  | 94 => 8
  | 95 => 8
  | 96 => 8
  | 97 => 8
  | 98 => 8
  | 99 => 8
  | 100 => 8
  | 101 => 8
  | 102 => 8
  | 103 => 8
  | 104 => 8
  | 105 => 8
  | 106 => 8
  | 107 => 8
  | 108 => 8
  | 109 => 8
  | 110 => 8
  | 111 => 8
  | 112 => 8
  | 113 => 8
  | 114 => 8
  | 115 => 8
  | 116 => 8
  | 117 => 8
  | 118 => 8
  | 119 => 8
  | 120 => 8
  | 121 => 8
  | 122 => 8
  | 123 => 8
  | 124 => 8
  | 125 => 8
  | 126 => 8
  | 127 => 8
  | 128 => 8
  | 129 => 8
  | 130 => 8
  | 131 => 8
  | 132 => 8
  | 133 => 8
  | 134 => 8
  | 135 => 8
  | 136 => 10
  | _ => 11
def ax_ow (k : Nat) : String := ax_on (ax_wn k)
def ax_nm : Nat → String := fun k => match k with
  | 0 => "law"
  | 1 => "field"
  | 2 => "parameter"
  | 3 => "returns"
  | 4 => "add"
  | 5 => "clear"
  | 6 => "good"
  | 7 => "holds"
  | 8 => "fields"
  | 9 => "start"
  | 10 => "run"
  | 11 => "state"
  | 12 => "local"
  | 13 => "object"
  | 14 => "count"
  | 15 => "<init>"
  | 16 => "declareParameter"
  | 17 => "append"
  | 18 => "reset"
  | 19 => "hasPlace"
  | 20 => "<init>"
  | 21 => "declare"
  | 22 => "<init>"
  | 23 => "enter"
  | 24 => "<init>"
  | 25 => "forget"
  | 26 => "approves"
  | 27 => "watch"
  | 28 => "prepare"
  | 29 => "goTo"
  | 30 => "pass"
  | 31 => "isSelf"
  | 32 => "copy"
  | 33 => "make"
  | 34 => "parametersFit"
  | 35 => "stageOfNew"
  | 36 => "fetch"
  | 37 => "store"
  | 38 => "fork"
  | 39 => "call"
  | 40 => "mayReturn"
  | 41 => "sightAt"
  | 42 => "<init>"
  | 43 => "begin"
  | 44 => "advance"
  | 45 => "attempt"
  | 46 => "upper"
  | 47 => "make"
  | 48 => "call"
  | 49 => "leave"
  | 50 => "move"
  | 51 => "tell"
  | 52 => "<init>"
  | 53 => "fieldOf"
  | 54 => "functionBody"
  | 55 => "<init>"
  | 56 => "forget"
  | 57 => "writeDeclared"
  | 58 => "write"
  | 59 => "meet"
  | 60 => "take"
  | 61 => "meetLocal"
  | 62 => "commonClass"
  | 63 => "holdsSomething"
  | 64 => "fits"
  | 65 => "fitsClassAndNull"
  | 66 => "isDoneOrNull"
  | 67 => "holdsObject"
  | 68 => "tell"
  | 69 => "<init>"
  | 70 => "field"
  | 71 => "isBelow"
  | 72 => "mustBeThere"
  | 73 => "forgetOldAnswers"
  | 74 => "parameter"
  | 75 => "mustBeReady"
  | 76 => "returns"
  | 77 => "add"
  | 78 => "mustBeKnown"
  | 79 => "hasRightNumbers"
  | 80 => "clear"
  | 81 => "good"
  | 82 => "isMaker"
  | 83 => "holds"
  | 84 => "fields"
  | 85 => "start"
  | 86 => "run"
  | 87 => "state"
  | 88 => "local"
  | 89 => "object"
  | 90 => "count"
  | 91 => "<init>"
  | 92 => "thrown"
  | 93 => "field"
  | 94 => "isClass"
  | 95 => "within"
  | 96 => "goes"
  | 97 => "parameter"
  | 98 => "isBody"
  | 99 => "isState"
  | 100 => "returns"
  | 101 => "add"
  | 102 => "isInstruction"
  | 103 => "isLocal"
  | 104 => "clear"
  | 105 => "good"
  | 106 => "judge"
  | 107 => "come"
  | 108 => "meet"
  | 109 => "look"
  | 110 => "choose"
  | 111 => "isHeld"
  | 112 => "effect"
  | 113 => "hold"
  | 114 => "allFit"
  | 115 => "fits"
  | 116 => "stateOf"
  | 117 => "get"
  | 118 => "put"
  | 119 => "back"
  | 120 => "holds"
  | 121 => "isPlace"
  | 122 => "fields"
  | 123 => "start"
  | 124 => "open"
  | 125 => "run"
  | 126 => "next"
  | 127 => "at"
  | 128 => "own"
  | 129 => "step"
  | 130 => "create"
  | 131 => "leave"
  | 132 => "state"
  | 133 => "local"
  | 134 => "object"
  | 135 => "count"
  | 136 => "max"
  | _ => "fill"
def ax_ds : Nat → String := fun k => match k with
  | 0 => "([I)Z"
  | 1 => "(LMakerGuard;IIIZ)I"
  | 2 => "(LMakerGuard;IIIZI[J)I"
  | 3 => "(LMakerGuard;IIZI)I"
  | 4 => "(LMakerGuard;IIIII[J)I"
  | 5 => "(LMakerGuard;I[J)I"
  | 6 => "(LMakerGuard;I[J)I"
  | 7 => "(LMakerGuard;IIII[J)I"
  | 8 => "(LMakerGuard;II[J)I"
  | 9 => "(LMakerGuard;I)I"
  | 10 => "(LMakerGuard;I[J)I"
  | 11 => "(LMakerGuard;I[J)I"
  | 12 => "(LMakerGuard;I[J)I"
  | 13 => "(LMakerGuard;II[J)I"
  | 14 => "(LMakerGuard;I[J)I"
  | 15 => "()V"
  | 16 => "(IIZI)V"
  | 17 => "(IIII)V"
  | 18 => "()V"
  | 19 => "(I)Z"
  | 20 => "()V"
  | 21 => "(IZI)V"
  | 22 => "()V"
  | 23 => "(I)V"
  | 24 => "(LMakerGuard$Program;)V"
  | 25 => "()V"
  | 26 => "(I)Z"
  | 27 => "(I)V"
  | 28 => "(I)V"
  | 29 => "(I)Z"
  | 30 => "(I)Z"
  | 31 => "(I)Z"
  | 32 => "(II)Z"
  | 33 => "(III)Z"
  | 34 => "(LMakerGuard$Body;I)Z"
  | 35 => "(II)I"
  | 36 => "(III)Z"
  | 37 => "(III)Z"
  | 38 => "(III)Z"
  | 39 => "(III)Z"
  | 40 => "(I)Z"
  | 41 => "(II)LMakerGuard$Sight;"
  | 42 => "(LMakerGuard$Program;)V"
  | 43 => "(I)V"
  | 44 => "(I)I"
  | 45 => "()I"
  | 46 => "()LMakerGuard$Frame;"
  | 47 => "(LMakerGuard$Frame;II)I"
  | 48 => "(LMakerGuard$Frame;II)I"
  | 49 => "(LMakerGuard$Frame;I)V"
  | 50 => "(LMakerGuard$Frame;LMakerGuard$Body;I)I"
  | 51 => "(I)I"
  | 52 => "()V"
  | 53 => "(II)LMakerGuard$Declaration;"
  | 54 => "(I)LMakerGuard$Body;"
  | 55 => "()V"
  | 56 => "()V"
  | 57 => "(ILMakerGuard$Declaration;)V"
  | 58 => "(IIII)V"
  | 59 => "(LMakerGuard$Sight;)V"
  | 60 => "(LMakerGuard$Sight;)V"
  | 61 => "(ILMakerGuard$Sight;)V"
  | 62 => "(II)I"
  | 63 => "(I)Z"
  | 64 => "(ILMakerGuard$Declaration;)Z"
  | 65 => "(ILMakerGuard$Declaration;)Z"
  | 66 => "(I)Z"
  | 67 => "(I)Z"
  | 68 => "(II)I"
  | 69 => "()V"
  | 70 => "(IIIZ)V"
  | 71 => "(II)Z"
  | 72 => "(Z)V"
  | 73 => "()V"
  | 74 => "(IIIZI)I"
  | 75 => "(Z)V"
  | 76 => "(IIZI)V"
  | 77 => "(IIIII)I"
  | 78 => "(Z)V"
  | 79 => "(IIII)Z"
  | 80 => "(I)I"
  | 81 => "(I)Z"
  | 82 => "(I)Z"
  | 83 => "(IIII)I"
  | 84 => "(II)I"
  | 85 => "(I)V"
  | 86 => "(I)I"
  | 87 => "(I)I"
  | 88 => "(I)I"
  | 89 => "(II)I"
  | 90 => "(I)I"
  | 91 => "()V"
  | 92 => "()I"
  | 93 => "(IIIZ)V"
  | 94 => "(I)Z"
  | 95 => "(III)Z"
  | 96 => "(ZZZ)Z"
  | 97 => "(IIIZI)I"
  | 98 => "(I)Z"
  | 99 => "(I)Z"
  | 100 => "(IIZI)V"
  | 101 => "(IIIII)I"
  | 102 => "(IIII)Z"
  | 103 => "(I)Z"
  | 104 => "(I)I"
  | 105 => "(I)Z"
  | 106 => "(I)Z"
  | 107 => "(II)V"
  | 108 => "(II)V"
  | 109 => "(II)V"
  | 110 => "(IIII)V"
  | 111 => "(I)Z"
  | 112 => "(IIIII)V"
  | 113 => "(IIIII)V"
  | 114 => "(II)Z"
  | 115 => "(IIZI)Z"
  | 116 => "(II)I"
  | 117 => "(IIII)V"
  | 118 => "(IIII)V"
  | 119 => "(II)V"
  | 120 => "(IIII)I"
  | 121 => "(II)Z"
  | 122 => "(II)I"
  | 123 => "(I)V"
  | 124 => "(III)V"
  | 125 => "(I)I"
  | 126 => "()I"
  | 127 => "()I"
  | 128 => "(I)I"
  | 129 => "()V"
  | 130 => "(I)I"
  | 131 => "(I)V"
  | 132 => "(I)I"
  | 133 => "(I)I"
  | 134 => "(II)I"
  | 135 => "(I)I"
  | 136 => "(II)I"
  | _ => "([II)V"
def ax_md (k : Nat) : MethodName := ⟨ax_ow k, ax_nm k, ax_ds k⟩
def ax_rt : Nat → Option FieldType := fun k => match k with
  | 0 => some .boolean
  | 1 => some .int
  | 2 => some .int
  | 3 => some .int
  | 4 => some .int
  | 5 => some .int
  | 6 => some .int
  | 7 => some .int
  | 8 => some .int
  | 9 => some .int
  | 10 => some .int
  | 11 => some .int
  | 12 => some .int
  | 13 => some .int
  | 14 => some .int
  | 15 => none
  | 16 => none
  | 17 => none
  | 18 => none
  | 19 => some .boolean
  | 20 => none
  | 21 => none
  | 22 => none
  | 23 => none
  | 24 => none
  | 25 => none
  | 26 => some .boolean
  | 27 => none
  | 28 => none
  | 29 => some .boolean
  | 30 => some .boolean
  | 31 => some .boolean
  | 32 => some .boolean
  | 33 => some .boolean
  | 34 => some .boolean
  | 35 => some .int
  | 36 => some .boolean
  | 37 => some .boolean
  | 38 => some .boolean
  | 39 => some .boolean
  | 40 => some .boolean
  | 41 => some (.object "MakerGuard$Sight")
  | 42 => none
  | 43 => none
  | 44 => some .int
  | 45 => some .int
  | 46 => some (.object "MakerGuard$Frame")
  | 47 => some .int
  | 48 => some .int
  | 49 => none
  | 50 => some .int
  | 51 => some .int
  | 52 => none
  | 53 => some (.object "MakerGuard$Declaration")
  | 54 => some (.object "MakerGuard$Body")
  | 55 => none
  | 56 => none
  | 57 => none
  | 58 => none
  | 59 => none
  | 60 => none
  | 61 => none
  | 62 => some .int
  | 63 => some .boolean
  | 64 => some .boolean
  | 65 => some .boolean
  | 66 => some .boolean
  | 67 => some .boolean
  | 68 => some .int
  | 69 => none
  | 70 => none
  | 71 => some .boolean
  | 72 => none
  | 73 => none
  | 74 => some .int
  | 75 => none
  | 76 => none
  | 77 => some .int
  | 78 => none
  | 79 => some .boolean
  | 80 => some .int
  | 81 => some .boolean
  | 82 => some .boolean
  | 83 => some .int
  | 84 => some .int
  | 85 => none
  | 86 => some .int
  | 87 => some .int
  | 88 => some .int
  | 89 => some .int
  | 90 => some .int
  | 91 => none
  | 92 => some .int
  | 93 => none
  | 94 => some .boolean
  | 95 => some .boolean
  | 96 => some .boolean
  | 97 => some .int
  | 98 => some .boolean
  | 99 => some .boolean
  | 100 => none
  | 101 => some .int
  | 102 => some .boolean
  | 103 => some .boolean
  | 104 => some .int
  | 105 => some .boolean
  | 106 => some .boolean
  | 107 => none
  | 108 => none
  | 109 => none
  | 110 => none
  | 111 => some .boolean
  | 112 => none
  | 113 => none
  | 114 => some .boolean
  | 115 => some .boolean
  | 116 => some .int
  | 117 => none
  | 118 => none
  | 119 => none
  | 120 => some .int
  | 121 => some .boolean
  | 122 => some .int
  | 123 => none
  | 124 => none
  | 125 => some .int
  | 126 => some .int
  | 127 => some .int
  | 128 => some .int
  | 129 => none
  | 130 => some .int
  | 131 => none
  | 132 => some .int
  | 133 => some .int
  | 134 => some .int
  | 135 => some .int
  | 136 => some .int
  | _ => none
def ax_fr : Nat → Nat := fun k => match k with
  | 0 => 9
  | 1 => 8
  | 2 => 8
  | 3 => 8
  | 4 => 8
  | 5 => 8
  | 6 => 8
  | 7 => 8
  | 8 => 8
  | 9 => 8
  | 10 => 8
  | 11 => 8
  | 12 => 8
  | 13 => 8
  | 14 => 8
  | 15 => 2
  | 16 => 1
  | 17 => 0
  | 18 => 1
  | 19 => 1
  | 20 => 1
  | 21 => 0
  | 22 => 1
  | 23 => 1
  | 24 => 2
  | 25 => 1
  | 26 => 6
  | 27 => 5
  | 28 => 2
  | 29 => 3
  | 30 => 4
  | 31 => 1
  | 32 => 1
  | 33 => 3
  | 34 => 2
  | 35 => 1
  | 36 => 2
  | 37 => 2
  | 38 => 3
  | 39 => 3
  | 40 => 2
  | 41 => 6
  | 42 => 2
  | 43 => 2
  | 44 => 5
  | 45 => 4
  | 46 => 1
  | 47 => 3
  | 48 => 2
  | 49 => 2
  | 50 => 0
  | 51 => 2
  | 52 => 3
  | 53 => 0
  | 54 => 0
  | 55 => 1
  | 56 => 1
  | 57 => 1
  | 58 => 0
  | 59 => 2
  | 60 => 1
  | 61 => 1
  | 62 => 0
  | 63 => 0
  | 64 => 1
  | 65 => 0
  | 66 => 0
  | 67 => 0
  | 68 => 1
  | 69 => 4
  | 70 => 7
  | 71 => 0
  | 72 => 6
  | 73 => 2
  | 74 => 7
  | 75 => 6
  | 76 => 7
  | 77 => 7
  | 78 => 6
  | 79 => 1
  | 80 => 7
  | 81 => 7
  | 82 => 0
  | 83 => 7
  | 84 => 7
  | 85 => 7
  | 86 => 7
  | 87 => 7
  | 88 => 7
  | 89 => 7
  | 90 => 7
  | 91 => 1
  | 92 => 0
  | 93 => 1
  | 94 => 0
  | 95 => 0
  | 96 => 0
  | 97 => 1
  | 98 => 0
  | 99 => 0
  | 100 => 1
  | 101 => 2
  | 102 => 1
  | 103 => 0
  | 104 => 1
  | 105 => 6
  | 106 => 5
  | 107 => 1
  | 108 => 0
  | 109 => 4
  | 110 => 2
  | 111 => 0
  | 112 => 3
  | 113 => 0
  | 114 => 2
  | 115 => 1
  | 116 => 0
  | 117 => 1
  | 118 => 1
  | 119 => 2
  | 120 => 6
  | 121 => 1
  | 122 => 6
  | 123 => 1
  | 124 => 0
  | 125 => 3
  | 126 => 1
  | 127 => 0
  | 128 => 0
  | 129 => 2
  | 130 => 0
  | 131 => 1
  | 132 => 1
  | 133 => 1
  | 134 => 1
  | 135 => 6
  | 136 => 0
  | _ => 0
def ax_lo : Nat → Nat := fun k => match k with
  | 0 => 239
  | 1 => 144
  | 2 => 146
  | 3 => 144
  | 4 => 146
  | 5 => 142
  | 6 => 208
  | 7 => 213
  | 8 => 211
  | 9 => 141
  | 10 => 161
  | 11 => 141
  | 12 => 141
  | 13 => 142
  | 14 => 210
  | 15 => 70
  | 16 => 23
  | 17 => 0
  | 18 => 23
  | 19 => 21
  | 20 => 50
  | 21 => 0
  | 22 => 50
  | 23 => 23
  | 24 => 70
  | 25 => 23
  | 26 => 166
  | 27 => 141
  | 28 => 46
  | 29 => 93
  | 30 => 117
  | 31 => 20
  | 32 => 24
  | 33 => 69
  | 34 => 46
  | 35 => 21
  | 36 => 46
  | 37 => 41
  | 38 => 93
  | 39 => 69
  | 40 => 46
  | 41 => 166
  | 42 => 70
  | 43 => 44
  | 44 => 117
  | 45 => 94
  | 46 => 21
  | 47 => 69
  | 48 => 44
  | 49 => 41
  | 50 => 0
  | 51 => 41
  | 52 => 91
  | 53 => 0
  | 54 => 0
  | 55 => 50
  | 56 => 23
  | 57 => 24
  | 58 => 0
  | 59 => 71
  | 60 => 50
  | 61 => 24
  | 62 => 0
  | 63 => 0
  | 64 => 23
  | 65 => 0
  | 66 => 0
  | 67 => 0
  | 68 => 21
  | 69 => 112
  | 70 => 120
  | 71 => 0
  | 72 => 100
  | 73 => 43
  | 74 => 120
  | 75 => 100
  | 76 => 120
  | 77 => 120
  | 78 => 100
  | 79 => 21
  | 80 => 120
  | 81 => 187
  | 82 => 0
  | 83 => 188
  | 84 => 188
  | 85 => 120
  | 86 => 140
  | 87 => 120
  | 88 => 120
  | 89 => 120
  | 90 => 187
  | 91 => 50
  | 92 => 0
  | 93 => 23
  | 94 => 0
  | 95 => 0
  | 96 => 0
  | 97 => 23
  | 98 => 0
  | 99 => 0
  | 100 => 23
  | 101 => 46
  | 102 => 22
  | 103 => 0
  | 104 => 23
  | 105 => 143
  | 106 => 119
  | 107 => 26
  | 108 => 0
  | 109 => 96
  | 110 => 49
  | 111 => 0
  | 112 => 71
  | 113 => 0
  | 114 => 46
  | 115 => 21
  | 116 => 0
  | 117 => 25
  | 118 => 21
  | 119 => 46
  | 120 => 143
  | 121 => 20
  | 122 => 143
  | 123 => 25
  | 124 => 0
  | 125 => 69
  | 126 => 21
  | 127 => 0
  | 128 => 0
  | 129 => 44
  | 130 => 0
  | 131 => 21
  | 132 => 23
  | 133 => 23
  | 134 => 23
  | 135 => 143
  | 136 => 0
  | _ => 0
/-- handlers: from, to, place, which exception -/
def ax_hd : Nat → List (Nat × Nat × Nat × Nat) := fun k => match k with
  | 0 => []
  | 1 => [(0, 9, 12, 0)]
  | 2 => [(0, 16, 19, 0), (0, 16, 23, 2)]
  | 3 => [(0, 9, 12, 0)]
  | 4 => [(0, 16, 19, 0), (0, 16, 23, 1), (0, 16, 27, 2)]
  | 5 => [(0, 9, 12, 0)]
  | 6 => [(0, 16, 19, 0)]
  | 7 => [(0, 14, 17, 0), (0, 14, 21, 1), (0, 14, 25, 2)]
  | 8 => [(0, 10, 13, 0), (0, 10, 17, 2)]
  | 9 => [(0, 5, 8, 0), (0, 5, 11, 2)]
  | 10 => [(0, 9, 12, 1), (0, 9, 15, 2)]
  | 11 => [(0, 9, 12, 1), (0, 9, 15, 2)]
  | 12 => [(0, 9, 12, 0)]
  | 13 => [(0, 10, 13, 0)]
  | 14 => [(0, 9, 12, 1)]
  | 15 => []
  | 16 => []
  | 17 => []
  | 18 => []
  | 19 => []
  | 20 => []
  | 21 => []
  | 22 => []
  | 23 => []
  | 24 => []
  | 25 => []
  | 26 => []
  | 27 => []
  | 28 => []
  | 29 => []
  | 30 => []
  | 31 => []
  | 32 => []
  | 33 => []
  | 34 => []
  | 35 => []
  | 36 => []
  | 37 => []
  | 38 => []
  | 39 => []
  | 40 => []
  | 41 => []
  | 42 => []
  | 43 => []
  | 44 => []
  | 45 => []
  | 46 => []
  | 47 => []
  | 48 => []
  | 49 => []
  | 50 => []
  | 51 => []
  | 52 => []
  | 53 => []
  | 54 => []
  | 55 => []
  | 56 => []
  | 57 => []
  | 58 => []
  | 59 => []
  | 60 => []
  | 61 => []
  | 62 => []
  | 63 => []
  | 64 => []
  | 65 => []
  | 66 => []
  | 67 => []
  | 68 => []
  | 69 => []
  | 70 => []
  | 71 => []
  | 72 => []
  | 73 => []
  | 74 => []
  | 75 => []
  | 76 => []
  | 77 => []
  | 78 => []
  | 79 => []
  | 80 => []
  | 81 => []
  | 82 => []
  | 83 => []
  | 84 => []
  | 85 => []
  | 86 => []
  | 87 => []
  | 88 => []
  | 89 => []
  | 90 => []
  | 91 => []
  | 92 => []
  | 93 => []
  | 94 => []
  | 95 => []
  | 96 => []
  | 97 => []
  | 98 => []
  | 99 => []
  | 100 => []
  | 101 => []
  | 102 => []
  | 103 => []
  | 104 => []
  | 105 => []
  | 106 => []
  | 107 => []
  | 108 => []
  | 109 => []
  | 110 => []
  | 111 => []
  | 112 => []
  | 113 => []
  | 114 => []
  | 115 => []
  | 116 => []
  | 117 => []
  | 118 => []
  | 119 => []
  | 120 => []
  | 121 => []
  | 122 => []
  | 123 => []
  | 124 => []
  | 125 => []
  | 126 => []
  | 127 => []
  | 128 => []
  | 129 => []
  | 130 => []
  | 131 => []
  | 132 => []
  | 133 => []
  | 134 => []
  | 135 => []
  | 136 => []
  | _ => []
def ax_hx : Nat → List (Nat × Nat × Nat × Nat) := fun k => match k with
  | 0 => []
  | 1 => [(0, 9, 12, 13)]
  | 2 => [(0, 16, 19, 13), (0, 16, 23, 19)]
  | 3 => [(0, 9, 12, 13)]
  | 4 => [(0, 16, 19, 13), (0, 16, 23, 29), (0, 16, 27, 19)]
  | 5 => [(0, 9, 12, 13)]
  | 6 => [(0, 16, 19, 13)]
  | 7 => [(0, 14, 17, 13), (0, 14, 21, 29), (0, 14, 25, 19)]
  | 8 => [(0, 10, 13, 13), (0, 10, 17, 19)]
  | 9 => [(0, 5, 8, 13), (0, 5, 11, 19)]
  | 10 => [(0, 9, 12, 29), (0, 9, 15, 19)]
  | 11 => [(0, 9, 12, 29), (0, 9, 15, 19)]
  | 12 => [(0, 9, 12, 13)]
  | 13 => [(0, 10, 13, 13)]
  | 14 => [(0, 9, 12, 29)]
  | 15 => []
  | 16 => []
  | 17 => []
  | 18 => []
  | 19 => []
  | 20 => []
  | 21 => []
  | 22 => []
  | 23 => []
  | 24 => []
  | 25 => []
  | 26 => []
  | 27 => []
  | 28 => []
  | 29 => []
  | 30 => []
  | 31 => []
  | 32 => []
  | 33 => []
  | 34 => []
  | 35 => []
  | 36 => []
  | 37 => []
  | 38 => []
  | 39 => []
  | 40 => []
  | 41 => []
  | 42 => []
  | 43 => []
  | 44 => []
  | 45 => []
  | 46 => []
  | 47 => []
  | 48 => []
  | 49 => []
  | 50 => []
  | 51 => []
  | 52 => []
  | 53 => []
  | 54 => []
  | 55 => []
  | 56 => []
  | 57 => []
  | 58 => []
  | 59 => []
  | 60 => []
  | 61 => []
  | 62 => []
  | 63 => []
  | 64 => []
  | 65 => []
  | 66 => []
  | 67 => []
  | 68 => []
  | 69 => []
  | 70 => []
  | 71 => []
  | 72 => []
  | 73 => []
  | 74 => []
  | 75 => []
  | 76 => []
  | 77 => []
  | 78 => []
  | 79 => []
  | 80 => []
  | 81 => []
  | 82 => []
  | 83 => []
  | 84 => []
  | 85 => []
  | 86 => []
  | 87 => []
  | 88 => []
  | 89 => []
  | 90 => []
  | 91 => []
  | 92 => []
  | 93 => []
  | 94 => []
  | 95 => []
  | 96 => []
  | 97 => []
  | 98 => []
  | 99 => []
  | 100 => []
  | 101 => []
  | 102 => []
  | 103 => []
  | 104 => []
  | 105 => []
  | 106 => []
  | 107 => []
  | 108 => []
  | 109 => []
  | 110 => []
  | 111 => []
  | 112 => []
  | 113 => []
  | 114 => []
  | 115 => []
  | 116 => []
  | 117 => []
  | 118 => []
  | 119 => []
  | 120 => []
  | 121 => []
  | 122 => []
  | 123 => []
  | 124 => []
  | 125 => []
  | 126 => []
  | 127 => []
  | 128 => []
  | 129 => []
  | 130 => []
  | 131 => []
  | 132 => []
  | 133 => []
  | 134 => []
  | 135 => []
  | 136 => []
  | _ => []
def ax_en : Nat → String := fun k => match k with
  | 0 => "java/util/NoSuchElementException"
  | 1 => "java/lang/IllegalArgumentException"
  | _ => "java/lang/IllegalStateException"
/-- MakerGuardLaw.law([I)Z -/
def ax_t0_0 : List (Nat × ax_R) := [(0, 28, 3, 7, 0, 8), (3, 10, 1, 0, 0, 0), (4, 43, 3, 69, 1, 66), (7, 4, 1, 1, 0, 0), (8, 28, 3, 8, 0, 67), (11, 10, 1, 0, 0, 0), (12, 43, 3, 91, 1, 69), (15, 4, 1, 2, 0, 0), (16, 0, 1, 0, 0, 1), (17, 29, 2, 22, 0, 0), (19, 4, 1, 3, 0, 0), (20, 0, 1, 0, 0, 0), (21, 3, 2, 4, 0, 0), (23, 1, 2, 4, 0, 0), (25, 2, 1, 0, 0, 0), (26, 27, 1, 0, 0, 0), (27, 0, 2, 0, 0, 6), (29, 6, 1, 1, 0, 0), (30, 13, 3, 4, 1125, 0), (33, 2, 1, 0, 0, 0), (34, 1, 2, 4, 0, 0), (36, 34, 1, 0, 0, 0), (37, 0, 2, 0, 0, 15), (39, 6, 1, 3, 0, 0), (40, 33, 72, 0, 0, 0), (112, 2, 1, 1, 0, 0), (113, 2, 1, 0, 0, 0), (114, 1, 2, 4, 0, 0), (116, 0, 1, 0, 0, 1), (117, 6, 1, 0, 0, 0), (118, 34, 1, 0, 0, 0), (119, 2, 1, 0, 0, 0), (120, 1, 2, 4, 0, 0), (122, 0, 1, 0, 0, 2), (123, 6, 1, 0, 0, 0), (124, 34, 1, 0, 0, 0), (125, 2, 1, 0, 0, 0), (126, 1, 2, 4, 0, 0), (128, 0, 1, 0, 0, 3), (129, 6, 1, 0, 0, 0), (130, 34, 1, 0, 0, 0), (131, 2, 1, 0, 0, 0), (132, 1, 2, 4, 0, 0), (134, 0, 1, 0, 0, 4), (135, 6, 1, 0, 0, 0), (136, 34, 1, 0, 0, 0), (137, 12, 3, 0, 144, 0), (140, 0, 1, 0, 0, 1), (141, 14, 3, 0, 145, 0), (144, 0, 1, 0, 0, 0), (145, 40, 3, 1, 5, 70), (148, 3, 2, 5, 0, 0), (150, 2, 1, 2, 0, 0), (151, 2, 1, 0, 0, 0), (152, 1, 2, 4, 0, 0), (154, 0, 1, 0, 0, 1), (155, 6, 1, 0, 0, 0), (156, 34, 1, 0, 0, 0), (157, 2, 1, 0, 0, 0), (158, 1, 2, 4, 0, 0)]
def ax_t0_1 : List (Nat × ax_R) := [(160, 0, 1, 0, 0, 2), (161, 6, 1, 0, 0, 0), (162, 34, 1, 0, 0, 0), (163, 2, 1, 0, 0, 0), (164, 1, 2, 4, 0, 0), (166, 0, 1, 0, 0, 3), (167, 6, 1, 0, 0, 0), (168, 34, 1, 0, 0, 0), (169, 2, 1, 0, 0, 0), (170, 1, 2, 4, 0, 0), (172, 0, 1, 0, 0, 4), (173, 6, 1, 0, 0, 0), (174, 34, 1, 0, 0, 0), (175, 12, 3, 0, 182, 0), (178, 0, 1, 0, 0, 1), (179, 14, 3, 0, 183, 0), (182, 0, 1, 0, 0, 0), (183, 42, 3, 93, 5, 75), (186, 2, 1, 2, 0, 0), (187, 42, 3, 92, 1, 76), (190, 1, 2, 5, 0, 0), (192, 13, 3, 0, 197, 0), (195, 0, 1, 0, 0, 0), (196, 50, 1, 0, 0, 0), (197, 14, 3, 0, 1119, 0), (200, 2, 1, 1, 0, 0), (201, 2, 1, 0, 0, 0), (202, 1, 2, 4, 0, 0), (204, 0, 1, 0, 0, 1), (205, 6, 1, 0, 0, 0), (206, 34, 1, 0, 0, 0), (207, 2, 1, 0, 0, 0), (208, 1, 2, 4, 0, 0), (210, 0, 1, 0, 0, 2), (211, 6, 1, 0, 0, 0), (212, 34, 1, 0, 0, 0), (213, 2, 1, 0, 0, 0), (214, 1, 2, 4, 0, 0), (216, 0, 1, 0, 0, 3), (217, 6, 1, 0, 0, 0), (218, 34, 1, 0, 0, 0), (219, 2, 1, 0, 0, 0), (220, 1, 2, 4, 0, 0), (222, 0, 1, 0, 0, 4), (223, 6, 1, 0, 0, 0), (224, 34, 1, 0, 0, 0), (225, 12, 3, 0, 232, 0), (228, 0, 1, 0, 0, 1), (229, 14, 3, 0, 233, 0), (232, 0, 1, 0, 0, 0), (233, 2, 1, 0, 0, 0), (234, 1, 2, 4, 0, 0), (236, 0, 1, 0, 0, 5), (237, 6, 1, 0, 0, 0), (238, 34, 1, 0, 0, 0), (239, 2, 1, 3, 0, 0), (240, 40, 3, 2, 7, 80), (243, 3, 2, 5, 0, 0), (245, 2, 1, 2, 0, 0), (246, 2, 1, 0, 0, 0)]
def ax_t0_2 : List (Nat × ax_R) := [(247, 1, 2, 4, 0, 0), (249, 0, 1, 0, 0, 1), (250, 6, 1, 0, 0, 0), (251, 34, 1, 0, 0, 0), (252, 2, 1, 0, 0, 0), (253, 1, 2, 4, 0, 0), (255, 0, 1, 0, 0, 2), (256, 6, 1, 0, 0, 0), (257, 34, 1, 0, 0, 0), (258, 2, 1, 0, 0, 0), (259, 1, 2, 4, 0, 0), (261, 0, 1, 0, 0, 3), (262, 6, 1, 0, 0, 0), (263, 34, 1, 0, 0, 0), (264, 2, 1, 0, 0, 0), (265, 1, 2, 4, 0, 0), (267, 0, 1, 0, 0, 4), (268, 6, 1, 0, 0, 0), (269, 34, 1, 0, 0, 0), (270, 12, 3, 0, 277, 0), (273, 0, 1, 0, 0, 1), (274, 14, 3, 0, 278, 0), (277, 0, 1, 0, 0, 0), (278, 2, 1, 0, 0, 0), (279, 1, 2, 4, 0, 0), (281, 0, 1, 0, 0, 5), (282, 6, 1, 0, 0, 0), (283, 34, 1, 0, 0, 0), (284, 42, 3, 97, 6, 83), (287, 3, 2, 6, 0, 0), (289, 2, 1, 2, 0, 0), (290, 42, 3, 92, 1, 76), (293, 1, 2, 5, 0, 0), (295, 13, 3, 0, 300, 0), (298, 0, 1, 0, 0, 0), (299, 50, 1, 0, 0, 0), (300, 1, 2, 5, 0, 0), (302, 12, 3, 1, 317, 0), (305, 2, 1, 3, 0, 0), (306, 0, 1, 0, 0, 0), (307, 23, 1, 0, 0, 0), (308, 1, 2, 6, 0, 0), (310, 7, 1, 0, 0, 0), (311, 8, 1, 0, 0, 0), (312, 12, 3, 0, 317, 0), (315, 0, 1, 0, 0, 0), (316, 50, 1, 0, 0, 0), (317, 14, 3, 0, 1119, 0), (320, 2, 1, 1, 0, 0), (321, 2, 1, 0, 0, 0), (322, 1, 2, 4, 0, 0), (324, 0, 1, 0, 0, 1), (325, 6, 1, 0, 0, 0), (326, 34, 1, 0, 0, 0), (327, 2, 1, 0, 0, 0), (328, 1, 2, 4, 0, 0), (330, 0, 1, 0, 0, 2), (331, 6, 1, 0, 0, 0), (332, 34, 1, 0, 0, 0), (333, 2, 1, 0, 0, 0)]
def ax_t0_3 : List (Nat × ax_R) := [(334, 1, 2, 4, 0, 0), (336, 0, 1, 0, 0, 3), (337, 6, 1, 0, 0, 0), (338, 34, 1, 0, 0, 0), (339, 12, 3, 0, 346, 0), (342, 0, 1, 0, 0, 1), (343, 14, 3, 0, 347, 0), (346, 0, 1, 0, 0, 0), (347, 2, 1, 0, 0, 0), (348, 1, 2, 4, 0, 0), (350, 0, 1, 0, 0, 4), (351, 6, 1, 0, 0, 0), (352, 34, 1, 0, 0, 0), (353, 40, 3, 3, 5, 84), (356, 3, 2, 5, 0, 0), (358, 2, 1, 2, 0, 0), (359, 2, 1, 0, 0, 0), (360, 1, 2, 4, 0, 0), (362, 0, 1, 0, 0, 1), (363, 6, 1, 0, 0, 0), (364, 34, 1, 0, 0, 0), (365, 2, 1, 0, 0, 0), (366, 1, 2, 4, 0, 0), (368, 0, 1, 0, 0, 2), (369, 6, 1, 0, 0, 0), (370, 34, 1, 0, 0, 0), (371, 2, 1, 0, 0, 0), (372, 1, 2, 4, 0, 0), (374, 0, 1, 0, 0, 3), (375, 6, 1, 0, 0, 0), (376, 34, 1, 0, 0, 0), (377, 12, 3, 0, 384, 0), (380, 0, 1, 0, 0, 1), (381, 14, 3, 0, 385, 0), (384, 0, 1, 0, 0, 0), (385, 2, 1, 0, 0, 0), (386, 1, 2, 4, 0, 0), (388, 0, 1, 0, 0, 4), (389, 6, 1, 0, 0, 0), (390, 34, 1, 0, 0, 0), (391, 42, 3, 100, 5, 87), (394, 2, 1, 2, 0, 0), (395, 42, 3, 92, 1, 76), (398, 1, 2, 5, 0, 0), (400, 13, 3, 0, 405, 0), (403, 0, 1, 0, 0, 0), (404, 50, 1, 0, 0, 0), (405, 14, 3, 0, 1119, 0), (408, 2, 1, 1, 0, 0), (409, 2, 1, 0, 0, 0), (410, 1, 2, 4, 0, 0), (412, 0, 1, 0, 0, 1), (413, 6, 1, 0, 0, 0), (414, 34, 1, 0, 0, 0), (415, 2, 1, 0, 0, 0), (416, 1, 2, 4, 0, 0), (418, 0, 1, 0, 0, 2), (419, 6, 1, 0, 0, 0), (420, 34, 1, 0, 0, 0), (421, 2, 1, 0, 0, 0)]
def ax_t0_4 : List (Nat × ax_R) := [(422, 1, 2, 4, 0, 0), (424, 0, 1, 0, 0, 3), (425, 6, 1, 0, 0, 0), (426, 34, 1, 0, 0, 0), (427, 2, 1, 0, 0, 0), (428, 1, 2, 4, 0, 0), (430, 0, 1, 0, 0, 4), (431, 6, 1, 0, 0, 0), (432, 34, 1, 0, 0, 0), (433, 2, 1, 0, 0, 0), (434, 1, 2, 4, 0, 0), (436, 0, 1, 0, 0, 5), (437, 6, 1, 0, 0, 0), (438, 34, 1, 0, 0, 0), (439, 2, 1, 3, 0, 0), (440, 40, 3, 4, 7, 88), (443, 3, 2, 5, 0, 0), (445, 2, 1, 2, 0, 0), (446, 2, 1, 0, 0, 0), (447, 1, 2, 4, 0, 0), (449, 0, 1, 0, 0, 1), (450, 6, 1, 0, 0, 0), (451, 34, 1, 0, 0, 0), (452, 2, 1, 0, 0, 0), (453, 1, 2, 4, 0, 0), (455, 0, 1, 0, 0, 2), (456, 6, 1, 0, 0, 0), (457, 34, 1, 0, 0, 0), (458, 2, 1, 0, 0, 0), (459, 1, 2, 4, 0, 0), (461, 0, 1, 0, 0, 3), (462, 6, 1, 0, 0, 0), (463, 34, 1, 0, 0, 0), (464, 2, 1, 0, 0, 0), (465, 1, 2, 4, 0, 0), (467, 0, 1, 0, 0, 4), (468, 6, 1, 0, 0, 0), (469, 34, 1, 0, 0, 0), (470, 2, 1, 0, 0, 0), (471, 1, 2, 4, 0, 0), (473, 0, 1, 0, 0, 5), (474, 6, 1, 0, 0, 0), (475, 34, 1, 0, 0, 0), (476, 42, 3, 101, 6, 91), (479, 3, 2, 6, 0, 0), (481, 2, 1, 2, 0, 0), (482, 42, 3, 92, 1, 76), (485, 1, 2, 5, 0, 0), (487, 13, 3, 0, 492, 0), (490, 0, 1, 0, 0, 0), (491, 50, 1, 0, 0, 0), (492, 1, 2, 5, 0, 0), (494, 12, 3, 1, 509, 0), (497, 2, 1, 3, 0, 0), (498, 0, 1, 0, 0, 0), (499, 23, 1, 0, 0, 0), (500, 1, 2, 6, 0, 0), (502, 7, 1, 0, 0, 0), (503, 8, 1, 0, 0, 0), (504, 12, 3, 0, 509, 0)]
def ax_t0_5 : List (Nat × ax_R) := [(507, 0, 1, 0, 0, 0), (508, 50, 1, 0, 0, 0), (509, 14, 3, 0, 1119, 0), (512, 2, 1, 1, 0, 0), (513, 2, 1, 0, 0, 0), (514, 1, 2, 4, 0, 0), (516, 0, 1, 0, 0, 1), (517, 6, 1, 0, 0, 0), (518, 34, 1, 0, 0, 0), (519, 2, 1, 3, 0, 0), (520, 40, 3, 5, 3, 92), (523, 3, 2, 5, 0, 0), (525, 2, 1, 2, 0, 0), (526, 2, 1, 0, 0, 0), (527, 1, 2, 4, 0, 0), (529, 0, 1, 0, 0, 1), (530, 6, 1, 0, 0, 0), (531, 34, 1, 0, 0, 0), (532, 42, 3, 104, 2, 95), (535, 3, 2, 6, 0, 0), (537, 2, 1, 2, 0, 0), (538, 42, 3, 92, 1, 76), (541, 1, 2, 5, 0, 0), (543, 13, 3, 0, 548, 0), (546, 0, 1, 0, 0, 0), (547, 50, 1, 0, 0, 0), (548, 1, 2, 5, 0, 0), (550, 12, 3, 1, 565, 0), (553, 2, 1, 3, 0, 0), (554, 0, 1, 0, 0, 0), (555, 23, 1, 0, 0, 0), (556, 1, 2, 6, 0, 0), (558, 7, 1, 0, 0, 0), (559, 8, 1, 0, 0, 0), (560, 12, 3, 0, 565, 0), (563, 0, 1, 0, 0, 0), (564, 50, 1, 0, 0, 0), (565, 14, 3, 0, 1119, 0), (568, 2, 1, 1, 0, 0), (569, 2, 1, 0, 0, 0), (570, 1, 2, 4, 0, 0), (572, 0, 1, 0, 0, 1), (573, 6, 1, 0, 0, 0), (574, 34, 1, 0, 0, 0), (575, 2, 1, 3, 0, 0), (576, 40, 3, 6, 3, 96), (579, 3, 2, 5, 0, 0), (581, 2, 1, 2, 0, 0), (582, 2, 1, 0, 0, 0), (583, 1, 2, 4, 0, 0), (585, 0, 1, 0, 0, 1), (586, 6, 1, 0, 0, 0), (587, 34, 1, 0, 0, 0), (588, 42, 3, 105, 2, 98), (591, 3, 2, 6, 0, 0), (593, 2, 1, 2, 0, 0), (594, 42, 3, 92, 1, 76), (597, 1, 2, 5, 0, 0), (599, 13, 3, 0, 604, 0), (602, 0, 1, 0, 0, 0)]
def ax_t0_6 : List (Nat × ax_R) := [(603, 50, 1, 0, 0, 0), (604, 1, 2, 5, 0, 0), (606, 12, 3, 1, 628, 0), (609, 2, 1, 3, 0, 0), (610, 0, 1, 0, 0, 0), (611, 23, 1, 0, 0, 0), (612, 1, 2, 6, 0, 0), (614, 12, 3, 0, 621, 0), (617, 9, 1, 1, 0, 0), (618, 14, 3, 0, 622, 0), (621, 9, 1, 0, 0, 0), (622, 8, 1, 0, 0, 0), (623, 12, 3, 0, 628, 0), (626, 0, 1, 0, 0, 0), (627, 50, 1, 0, 0, 0), (628, 14, 3, 0, 1119, 0), (631, 2, 1, 1, 0, 0), (632, 2, 1, 0, 0, 0), (633, 1, 2, 4, 0, 0), (635, 0, 1, 0, 0, 1), (636, 6, 1, 0, 0, 0), (637, 34, 1, 0, 0, 0), (638, 2, 1, 0, 0, 0), (639, 1, 2, 4, 0, 0), (641, 0, 1, 0, 0, 2), (642, 6, 1, 0, 0, 0), (643, 34, 1, 0, 0, 0), (644, 2, 1, 0, 0, 0), (645, 1, 2, 4, 0, 0), (647, 0, 1, 0, 0, 3), (648, 6, 1, 0, 0, 0), (649, 34, 1, 0, 0, 0), (650, 2, 1, 0, 0, 0), (651, 1, 2, 4, 0, 0), (653, 0, 1, 0, 0, 4), (654, 6, 1, 0, 0, 0), (655, 34, 1, 0, 0, 0), (656, 2, 1, 3, 0, 0), (657, 40, 3, 7, 6, 99), (660, 3, 2, 5, 0, 0), (662, 2, 1, 2, 0, 0), (663, 2, 1, 0, 0, 0), (664, 1, 2, 4, 0, 0), (666, 0, 1, 0, 0, 1), (667, 6, 1, 0, 0, 0), (668, 34, 1, 0, 0, 0), (669, 2, 1, 0, 0, 0), (670, 1, 2, 4, 0, 0), (672, 0, 1, 0, 0, 2), (673, 6, 1, 0, 0, 0), (674, 34, 1, 0, 0, 0), (675, 2, 1, 0, 0, 0), (676, 1, 2, 4, 0, 0), (678, 0, 1, 0, 0, 3), (679, 6, 1, 0, 0, 0), (680, 34, 1, 0, 0, 0), (681, 2, 1, 0, 0, 0), (682, 1, 2, 4, 0, 0), (684, 0, 1, 0, 0, 4), (685, 6, 1, 0, 0, 0)]
def ax_t0_7 : List (Nat × ax_R) := [(686, 34, 1, 0, 0, 0), (687, 42, 3, 120, 5, 102), (690, 3, 2, 6, 0, 0), (692, 2, 1, 2, 0, 0), (693, 42, 3, 92, 1, 76), (696, 1, 2, 5, 0, 0), (698, 13, 3, 0, 703, 0), (701, 0, 1, 0, 0, 0), (702, 50, 1, 0, 0, 0), (703, 1, 2, 5, 0, 0), (705, 12, 3, 1, 720, 0), (708, 2, 1, 3, 0, 0), (709, 0, 1, 0, 0, 0), (710, 23, 1, 0, 0, 0), (711, 1, 2, 6, 0, 0), (713, 7, 1, 0, 0, 0), (714, 8, 1, 0, 0, 0), (715, 12, 3, 0, 720, 0), (718, 0, 1, 0, 0, 0), (719, 50, 1, 0, 0, 0), (720, 14, 3, 0, 1119, 0), (723, 2, 1, 1, 0, 0), (724, 2, 1, 0, 0, 0), (725, 1, 2, 4, 0, 0), (727, 0, 1, 0, 0, 1), (728, 6, 1, 0, 0, 0), (729, 34, 1, 0, 0, 0), (730, 2, 1, 0, 0, 0), (731, 1, 2, 4, 0, 0), (733, 0, 1, 0, 0, 2), (734, 6, 1, 0, 0, 0), (735, 34, 1, 0, 0, 0), (736, 2, 1, 3, 0, 0), (737, 40, 3, 8, 4, 103), (740, 3, 2, 5, 0, 0), (742, 2, 1, 2, 0, 0), (743, 2, 1, 0, 0, 0), (744, 1, 2, 4, 0, 0), (746, 0, 1, 0, 0, 1), (747, 6, 1, 0, 0, 0), (748, 34, 1, 0, 0, 0), (749, 2, 1, 0, 0, 0), (750, 1, 2, 4, 0, 0), (752, 0, 1, 0, 0, 2), (753, 6, 1, 0, 0, 0), (754, 34, 1, 0, 0, 0), (755, 42, 3, 122, 3, 106), (758, 3, 2, 6, 0, 0), (760, 2, 1, 2, 0, 0), (761, 42, 3, 92, 1, 76), (764, 1, 2, 5, 0, 0), (766, 13, 3, 0, 771, 0), (769, 0, 1, 0, 0, 0), (770, 50, 1, 0, 0, 0), (771, 1, 2, 5, 0, 0), (773, 12, 3, 1, 788, 0), (776, 2, 1, 3, 0, 0), (777, 0, 1, 0, 0, 0), (778, 23, 1, 0, 0, 0), (779, 1, 2, 6, 0, 0)]
def ax_t0_8 : List (Nat × ax_R) := [(781, 7, 1, 0, 0, 0), (782, 8, 1, 0, 0, 0), (783, 12, 3, 0, 788, 0), (786, 0, 1, 0, 0, 0), (787, 50, 1, 0, 0, 0), (788, 14, 3, 0, 1119, 0), (791, 2, 1, 1, 0, 0), (792, 2, 1, 0, 0, 0), (793, 1, 2, 4, 0, 0), (795, 0, 1, 0, 0, 1), (796, 6, 1, 0, 0, 0), (797, 34, 1, 0, 0, 0), (798, 40, 3, 9, 2, 107), (801, 3, 2, 5, 0, 0), (803, 2, 1, 2, 0, 0), (804, 2, 1, 0, 0, 0), (805, 1, 2, 4, 0, 0), (807, 0, 1, 0, 0, 1), (808, 6, 1, 0, 0, 0), (809, 34, 1, 0, 0, 0), (810, 42, 3, 123, 2, 110), (813, 2, 1, 2, 0, 0), (814, 42, 3, 92, 1, 76), (817, 1, 2, 5, 0, 0), (819, 13, 3, 0, 824, 0), (822, 0, 1, 0, 0, 0), (823, 50, 1, 0, 0, 0), (824, 14, 3, 0, 1119, 0), (827, 2, 1, 1, 0, 0), (828, 2, 1, 0, 0, 0), (829, 1, 2, 4, 0, 0), (831, 0, 1, 0, 0, 1), (832, 6, 1, 0, 0, 0), (833, 34, 1, 0, 0, 0), (834, 2, 1, 3, 0, 0), (835, 40, 3, 10, 3, 111), (838, 3, 2, 5, 0, 0), (840, 2, 1, 2, 0, 0), (841, 2, 1, 0, 0, 0), (842, 1, 2, 4, 0, 0), (844, 0, 1, 0, 0, 1), (845, 6, 1, 0, 0, 0), (846, 34, 1, 0, 0, 0), (847, 42, 3, 125, 2, 113), (850, 3, 2, 6, 0, 0), (852, 2, 1, 2, 0, 0), (853, 42, 3, 92, 1, 76), (856, 1, 2, 5, 0, 0), (858, 13, 3, 0, 863, 0), (861, 0, 1, 0, 0, 0), (862, 50, 1, 0, 0, 0), (863, 1, 2, 5, 0, 0), (865, 12, 3, 1, 880, 0), (868, 2, 1, 3, 0, 0), (869, 0, 1, 0, 0, 0), (870, 23, 1, 0, 0, 0), (871, 1, 2, 6, 0, 0), (873, 7, 1, 0, 0, 0), (874, 8, 1, 0, 0, 0), (875, 12, 3, 0, 880, 0)]
def ax_t0_9 : List (Nat × ax_R) := [(878, 0, 1, 0, 0, 0), (879, 50, 1, 0, 0, 0), (880, 14, 3, 0, 1119, 0), (883, 2, 1, 1, 0, 0), (884, 2, 1, 0, 0, 0), (885, 1, 2, 4, 0, 0), (887, 0, 1, 0, 0, 1), (888, 6, 1, 0, 0, 0), (889, 34, 1, 0, 0, 0), (890, 2, 1, 3, 0, 0), (891, 40, 3, 11, 3, 114), (894, 3, 2, 5, 0, 0), (896, 2, 1, 2, 0, 0), (897, 2, 1, 0, 0, 0), (898, 1, 2, 4, 0, 0), (900, 0, 1, 0, 0, 1), (901, 6, 1, 0, 0, 0), (902, 34, 1, 0, 0, 0), (903, 42, 3, 132, 2, 116), (906, 3, 2, 6, 0, 0), (908, 2, 1, 2, 0, 0), (909, 42, 3, 92, 1, 76), (912, 1, 2, 5, 0, 0), (914, 13, 3, 0, 919, 0), (917, 0, 1, 0, 0, 0), (918, 50, 1, 0, 0, 0), (919, 1, 2, 5, 0, 0), (921, 12, 3, 1, 936, 0), (924, 2, 1, 3, 0, 0), (925, 0, 1, 0, 0, 0), (926, 23, 1, 0, 0, 0), (927, 1, 2, 6, 0, 0), (929, 7, 1, 0, 0, 0), (930, 8, 1, 0, 0, 0), (931, 12, 3, 0, 936, 0), (934, 0, 1, 0, 0, 0), (935, 50, 1, 0, 0, 0), (936, 14, 3, 0, 1119, 0), (939, 2, 1, 1, 0, 0), (940, 2, 1, 0, 0, 0), (941, 1, 2, 4, 0, 0), (943, 0, 1, 0, 0, 1), (944, 6, 1, 0, 0, 0), (945, 34, 1, 0, 0, 0), (946, 2, 1, 3, 0, 0), (947, 40, 3, 12, 3, 117), (950, 3, 2, 5, 0, 0), (952, 2, 1, 2, 0, 0), (953, 2, 1, 0, 0, 0), (954, 1, 2, 4, 0, 0), (956, 0, 1, 0, 0, 1), (957, 6, 1, 0, 0, 0), (958, 34, 1, 0, 0, 0), (959, 42, 3, 133, 2, 119), (962, 3, 2, 6, 0, 0), (964, 2, 1, 2, 0, 0), (965, 42, 3, 92, 1, 76), (968, 1, 2, 5, 0, 0), (970, 13, 3, 0, 975, 0), (973, 0, 1, 0, 0, 0)]
def ax_t0_10 : List (Nat × ax_R) := [(974, 50, 1, 0, 0, 0), (975, 1, 2, 5, 0, 0), (977, 12, 3, 1, 992, 0), (980, 2, 1, 3, 0, 0), (981, 0, 1, 0, 0, 0), (982, 23, 1, 0, 0, 0), (983, 1, 2, 6, 0, 0), (985, 7, 1, 0, 0, 0), (986, 8, 1, 0, 0, 0), (987, 12, 3, 0, 992, 0), (990, 0, 1, 0, 0, 0), (991, 50, 1, 0, 0, 0), (992, 14, 3, 0, 1119, 0), (995, 2, 1, 1, 0, 0), (996, 2, 1, 0, 0, 0), (997, 1, 2, 4, 0, 0), (999, 0, 1, 0, 0, 1), (1000, 6, 1, 0, 0, 0), (1001, 34, 1, 0, 0, 0), (1002, 2, 1, 0, 0, 0), (1003, 1, 2, 4, 0, 0), (1005, 0, 1, 0, 0, 2), (1006, 6, 1, 0, 0, 0), (1007, 34, 1, 0, 0, 0), (1008, 2, 1, 3, 0, 0), (1009, 40, 3, 13, 4, 120), (1012, 3, 2, 5, 0, 0), (1014, 2, 1, 2, 0, 0), (1015, 2, 1, 0, 0, 0), (1016, 1, 2, 4, 0, 0), (1018, 0, 1, 0, 0, 1), (1019, 6, 1, 0, 0, 0), (1020, 34, 1, 0, 0, 0), (1021, 2, 1, 0, 0, 0), (1022, 1, 2, 4, 0, 0), (1024, 0, 1, 0, 0, 2), (1025, 6, 1, 0, 0, 0), (1026, 34, 1, 0, 0, 0), (1027, 42, 3, 134, 3, 122), (1030, 3, 2, 6, 0, 0), (1032, 2, 1, 2, 0, 0), (1033, 42, 3, 92, 1, 76), (1036, 1, 2, 5, 0, 0), (1038, 13, 3, 0, 1043, 0), (1041, 0, 1, 0, 0, 0), (1042, 50, 1, 0, 0, 0), (1043, 1, 2, 5, 0, 0), (1045, 12, 3, 1, 1060, 0), (1048, 2, 1, 3, 0, 0), (1049, 0, 1, 0, 0, 0), (1050, 23, 1, 0, 0, 0), (1051, 1, 2, 6, 0, 0), (1053, 7, 1, 0, 0, 0), (1054, 8, 1, 0, 0, 0), (1055, 12, 3, 0, 1060, 0), (1058, 0, 1, 0, 0, 0), (1059, 50, 1, 0, 0, 0), (1060, 14, 3, 0, 1119, 0), (1063, 2, 1, 1, 0, 0), (1064, 2, 1, 0, 0, 0)]
def ax_t0_11 : List (Nat × ax_R) := [(1065, 1, 2, 4, 0, 0), (1067, 0, 1, 0, 0, 1), (1068, 6, 1, 0, 0, 0), (1069, 34, 1, 0, 0, 0), (1070, 2, 1, 3, 0, 0), (1071, 40, 3, 14, 3, 123), (1074, 3, 2, 5, 0, 0), (1076, 2, 1, 2, 0, 0), (1077, 2, 1, 0, 0, 0), (1078, 1, 2, 4, 0, 0), (1080, 0, 1, 0, 0, 1), (1081, 6, 1, 0, 0, 0), (1082, 34, 1, 0, 0, 0), (1083, 42, 3, 135, 2, 125), (1086, 3, 2, 6, 0, 0), (1088, 2, 1, 2, 0, 0), (1089, 42, 3, 92, 1, 76), (1092, 1, 2, 5, 0, 0), (1094, 13, 3, 0, 1099, 0), (1097, 0, 1, 0, 0, 0), (1098, 50, 1, 0, 0, 0), (1099, 1, 2, 5, 0, 0), (1101, 12, 3, 1, 1116, 0), (1104, 2, 1, 3, 0, 0), (1105, 0, 1, 0, 0, 0), (1106, 23, 1, 0, 0, 0), (1107, 1, 2, 6, 0, 0), (1109, 7, 1, 0, 0, 0), (1110, 8, 1, 0, 0, 0), (1111, 12, 3, 0, 1116, 0), (1114, 0, 1, 0, 0, 0), (1115, 50, 1, 0, 0, 0), (1116, 14, 3, 0, 1119, 0), (1119, 5, 3, 4, 0, 6), (1122, 14, 3, 0, 23, 0), (1125, 0, 1, 0, 0, 1), (1126, 50, 1, 0, 0, 0)]
def ax_t0 : List (Nat × ax_R) := ax_t0_0 ++ (ax_t0_1 ++ (ax_t0_2 ++ (ax_t0_3 ++ (ax_t0_4 ++ (ax_t0_5 ++ (ax_t0_6 ++ (ax_t0_7 ++ (ax_t0_8 ++ (ax_t0_9 ++ (ax_t0_10 ++ ax_t0_11))))))))))
/-- MakerGuardLaw.field(LMakerGuard;IIIZ)I -/
def ax_t1 : List (Nat × ax_R) := [(0, 2, 1, 0, 0, 0), (1, 1, 1, 1, 0, 0), (2, 1, 1, 2, 0, 0), (3, 1, 1, 3, 0, 0), (4, 1, 2, 4, 0, 0), (6, 42, 3, 70, 5, 7), (9, 14, 3, 0, 16, 0), (12, 4, 2, 5, 0, 0), (14, 0, 1, 0, 0, 1), (15, 50, 1, 0, 0, 0), (16, 0, 1, 0, 0, 0), (17, 50, 1, 0, 0, 0)]
/-- MakerGuardLaw.parameter(LMakerGuard;IIIZI[J)I -/
def ax_t2 : List (Nat × ax_R) := [(0, 2, 2, 6, 0, 0), (2, 0, 1, 0, 0, 0), (3, 2, 1, 0, 0, 0), (4, 1, 1, 1, 0, 0), (5, 1, 1, 2, 0, 0), (6, 1, 1, 3, 0, 0), (7, 1, 2, 4, 0, 0), (9, 1, 2, 5, 0, 0), (11, 42, 3, 74, 6, 15), (14, 7, 1, 0, 0, 0), (15, 24, 1, 0, 0, 0), (16, 14, 3, 0, 27, 0), (19, 4, 2, 7, 0, 0), (21, 0, 1, 0, 0, 1), (22, 50, 1, 0, 0, 0), (23, 4, 2, 7, 0, 0), (25, 0, 1, 0, 0, 2), (26, 50, 1, 0, 0, 0), (27, 0, 1, 0, 0, 0), (28, 50, 1, 0, 0, 0)]
/-- MakerGuardLaw.returns(LMakerGuard;IIZI)I -/
def ax_t3 : List (Nat × ax_R) := [(0, 2, 1, 0, 0, 0), (1, 1, 1, 1, 0, 0), (2, 1, 1, 2, 0, 0), (3, 1, 1, 3, 0, 0), (4, 1, 2, 4, 0, 0), (6, 42, 3, 76, 5, 21), (9, 14, 3, 0, 16, 0), (12, 4, 2, 5, 0, 0), (14, 0, 1, 0, 0, 1), (15, 50, 1, 0, 0, 0), (16, 0, 1, 0, 0, 0), (17, 50, 1, 0, 0, 0)]
/-- MakerGuardLaw.add(LMakerGuard;IIIII[J)I -/
def ax_t4 : List (Nat × ax_R) := [(0, 2, 2, 6, 0, 0), (2, 0, 1, 0, 0, 0), (3, 2, 1, 0, 0, 0), (4, 1, 1, 1, 0, 0), (5, 1, 1, 2, 0, 0), (6, 1, 1, 3, 0, 0), (7, 1, 2, 4, 0, 0), (9, 1, 2, 5, 0, 0), (11, 42, 3, 77, 6, 25), (14, 7, 1, 0, 0, 0), (15, 24, 1, 0, 0, 0), (16, 14, 3, 0, 31, 0), (19, 4, 2, 7, 0, 0), (21, 0, 1, 0, 0, 1), (22, 50, 1, 0, 0, 0), (23, 4, 2, 7, 0, 0), (25, 0, 1, 0, 0, 2), (26, 50, 1, 0, 0, 0), (27, 4, 2, 7, 0, 0), (29, 0, 1, 0, 0, 3), (30, 50, 1, 0, 0, 0), (31, 0, 1, 0, 0, 0), (32, 50, 1, 0, 0, 0)]
/-- MakerGuardLaw.clear(LMakerGuard;I[J)I -/
def ax_t5 : List (Nat × ax_R) := [(0, 2, 1, 2, 0, 0), (1, 0, 1, 0, 0, 0), (2, 2, 1, 0, 0, 0), (3, 1, 1, 1, 0, 0), (4, 42, 3, 80, 2, 31), (7, 7, 1, 0, 0, 0), (8, 24, 1, 0, 0, 0), (9, 14, 3, 0, 15, 0), (12, 4, 1, 3, 0, 0), (13, 0, 1, 0, 0, 1), (14, 50, 1, 0, 0, 0), (15, 0, 1, 0, 0, 0), (16, 50, 1, 0, 0, 0)]
/-- MakerGuardLaw.good(LMakerGuard;I[J)I -/
def ax_t6 : List (Nat × ax_R) := [(0, 2, 1, 2, 0, 0), (1, 0, 1, 0, 0, 0), (2, 2, 1, 0, 0, 0), (3, 1, 1, 1, 0, 0), (4, 42, 3, 81, 2, 35), (7, 12, 3, 0, 14, 0), (10, 9, 1, 1, 0, 0), (11, 14, 3, 0, 15, 0), (14, 9, 1, 0, 0, 0), (15, 24, 1, 0, 0, 0), (16, 14, 3, 0, 22, 0), (19, 4, 1, 3, 0, 0), (20, 0, 1, 0, 0, 1), (21, 50, 1, 0, 0, 0), (22, 0, 1, 0, 0, 0), (23, 50, 1, 0, 0, 0)]
/-- MakerGuardLaw.holds(LMakerGuard;IIII[J)I -/
def ax_t7 : List (Nat × ax_R) := [(0, 2, 2, 5, 0, 0), (2, 0, 1, 0, 0, 0), (3, 2, 1, 0, 0, 0), (4, 1, 1, 1, 0, 0), (5, 1, 1, 2, 0, 0), (6, 1, 1, 3, 0, 0), (7, 1, 2, 4, 0, 0), (9, 42, 3, 83, 5, 39), (12, 7, 1, 0, 0, 0), (13, 24, 1, 0, 0, 0), (14, 14, 3, 0, 29, 0), (17, 4, 2, 6, 0, 0), (19, 0, 1, 0, 0, 1), (20, 50, 1, 0, 0, 0), (21, 4, 2, 6, 0, 0), (23, 0, 1, 0, 0, 2), (24, 50, 1, 0, 0, 0), (25, 4, 2, 6, 0, 0), (27, 0, 1, 0, 0, 3), (28, 50, 1, 0, 0, 0), (29, 0, 1, 0, 0, 0), (30, 50, 1, 0, 0, 0)]
/-- MakerGuardLaw.fields(LMakerGuard;II[J)I -/
def ax_t8 : List (Nat × ax_R) := [(0, 2, 1, 3, 0, 0), (1, 0, 1, 0, 0, 0), (2, 2, 1, 0, 0, 0), (3, 1, 1, 1, 0, 0), (4, 1, 1, 2, 0, 0), (5, 42, 3, 84, 3, 43), (8, 7, 1, 0, 0, 0), (9, 24, 1, 0, 0, 0), (10, 14, 3, 0, 21, 0), (13, 4, 2, 4, 0, 0), (15, 0, 1, 0, 0, 1), (16, 50, 1, 0, 0, 0), (17, 4, 2, 4, 0, 0), (19, 0, 1, 0, 0, 2), (20, 50, 1, 0, 0, 0), (21, 0, 1, 0, 0, 0), (22, 50, 1, 0, 0, 0)]
/-- MakerGuardLaw.start(LMakerGuard;I)I -/
def ax_t9 : List (Nat × ax_R) := [(0, 2, 1, 0, 0, 0), (1, 1, 1, 1, 0, 0), (2, 42, 3, 85, 2, 47), (5, 14, 3, 0, 14, 0), (8, 4, 1, 2, 0, 0), (9, 0, 1, 0, 0, 1), (10, 50, 1, 0, 0, 0), (11, 4, 1, 2, 0, 0), (12, 0, 1, 0, 0, 2), (13, 50, 1, 0, 0, 0), (14, 0, 1, 0, 0, 0), (15, 50, 1, 0, 0, 0)]
/-- MakerGuardLaw.run(LMakerGuard;I[J)I -/
def ax_t10 : List (Nat × ax_R) := [(0, 2, 1, 2, 0, 0), (1, 0, 1, 0, 0, 0), (2, 2, 1, 0, 0, 0), (3, 1, 1, 1, 0, 0), (4, 42, 3, 86, 2, 51), (7, 7, 1, 0, 0, 0), (8, 24, 1, 0, 0, 0), (9, 14, 3, 0, 18, 0), (12, 4, 1, 3, 0, 0), (13, 0, 1, 0, 0, 1), (14, 50, 1, 0, 0, 0), (15, 4, 1, 3, 0, 0), (16, 0, 1, 0, 0, 2), (17, 50, 1, 0, 0, 0), (18, 0, 1, 0, 0, 0), (19, 50, 1, 0, 0, 0)]
/-- MakerGuardLaw.state(LMakerGuard;I[J)I -/
def ax_t11 : List (Nat × ax_R) := [(0, 2, 1, 2, 0, 0), (1, 0, 1, 0, 0, 0), (2, 2, 1, 0, 0, 0), (3, 1, 1, 1, 0, 0), (4, 42, 3, 87, 2, 54), (7, 7, 1, 0, 0, 0), (8, 24, 1, 0, 0, 0), (9, 14, 3, 0, 18, 0), (12, 4, 1, 3, 0, 0), (13, 0, 1, 0, 0, 1), (14, 50, 1, 0, 0, 0), (15, 4, 1, 3, 0, 0), (16, 0, 1, 0, 0, 2), (17, 50, 1, 0, 0, 0), (18, 0, 1, 0, 0, 0), (19, 50, 1, 0, 0, 0)]
/-- MakerGuardLaw.local(LMakerGuard;I[J)I -/
def ax_t12 : List (Nat × ax_R) := [(0, 2, 1, 2, 0, 0), (1, 0, 1, 0, 0, 0), (2, 2, 1, 0, 0, 0), (3, 1, 1, 1, 0, 0), (4, 42, 3, 88, 2, 57), (7, 7, 1, 0, 0, 0), (8, 24, 1, 0, 0, 0), (9, 14, 3, 0, 15, 0), (12, 4, 1, 3, 0, 0), (13, 0, 1, 0, 0, 1), (14, 50, 1, 0, 0, 0), (15, 0, 1, 0, 0, 0), (16, 50, 1, 0, 0, 0)]
/-- MakerGuardLaw.object(LMakerGuard;II[J)I -/
def ax_t13 : List (Nat × ax_R) := [(0, 2, 1, 3, 0, 0), (1, 0, 1, 0, 0, 0), (2, 2, 1, 0, 0, 0), (3, 1, 1, 1, 0, 0), (4, 1, 1, 2, 0, 0), (5, 42, 3, 89, 3, 60), (8, 7, 1, 0, 0, 0), (9, 24, 1, 0, 0, 0), (10, 14, 3, 0, 17, 0), (13, 4, 2, 4, 0, 0), (15, 0, 1, 0, 0, 1), (16, 50, 1, 0, 0, 0), (17, 0, 1, 0, 0, 0), (18, 50, 1, 0, 0, 0)]
/-- MakerGuardLaw.count(LMakerGuard;I[J)I -/
def ax_t14 : List (Nat × ax_R) := [(0, 2, 1, 2, 0, 0), (1, 0, 1, 0, 0, 0), (2, 2, 1, 0, 0, 0), (3, 1, 1, 1, 0, 0), (4, 42, 3, 90, 2, 63), (7, 7, 1, 0, 0, 0), (8, 24, 1, 0, 0, 0), (9, 14, 3, 0, 15, 0), (12, 4, 1, 3, 0, 0), (13, 0, 1, 0, 0, 1), (14, 50, 1, 0, 0, 0), (15, 0, 1, 0, 0, 0), (16, 50, 1, 0, 0, 0)]
/-- MakerGuard$Body.<init>()V -/
def ax_t15 : List (Nat × ax_R) := [(0, 2, 1, 0, 0, 0), (1, 31, 3, 0, 0, 3), (4, 2, 1, 0, 0, 0), (5, 0, 2, 0, 0, 40), (7, 29, 2, 20, 0, 0), (9, 18, 3, 0, 0, 9), (12, 2, 1, 0, 0, 0), (13, 0, 2, 0, 0, 40), (15, 29, 2, 20, 0, 0), (17, 18, 3, 0, 1, 15), (20, 2, 1, 0, 0, 0), (21, 0, 2, 0, 0, 40), (23, 29, 2, 20, 0, 0), (25, 18, 3, 0, 2, 18), (28, 2, 1, 0, 0, 0), (29, 0, 2, 0, 0, 40), (31, 29, 2, 20, 0, 0), (33, 18, 3, 0, 3, 21), (36, 2, 1, 0, 0, 0), (37, 0, 1, 0, 0, 3), (38, 30, 3, 1, 0, 24), (41, 18, 3, 0, 4, 26), (44, 2, 1, 0, 0, 0), (45, 28, 3, 1, 0, 24), (48, 10, 1, 0, 0, 0), (49, 44, 3, 20, 1, 30), (52, 18, 3, 0, 5, 31), (55, 2, 1, 0, 0, 0), (56, 0, 1, 0, 0, 0), (57, 17, 3, 0, 6, 35), (60, 2, 1, 0, 0, 0), (61, 0, 1, 0, 0, 0), (62, 17, 3, 0, 7, 39), (65, 0, 1, 0, 0, 0), (66, 3, 1, 1, 0, 0), (67, 1, 1, 1, 0, 0), (68, 0, 1, 0, 0, 3), (69, 13, 3, 3, 91, 0), (72, 2, 1, 0, 0, 0), (73, 15, 3, 0, 4, 26), (76, 1, 1, 1, 0, 0), (77, 28, 3, 1, 0, 24), (80, 10, 1, 0, 0, 0), (81, 44, 3, 20, 1, 30), (84, 26, 1, 0, 0, 0), (85, 5, 3, 1, 0, 1), (88, 14, 3, 0, 67, 0), (91, 51, 1, 0, 0, 0)]
/-- MakerGuard$Body.declareParameter(IIZI)V -/
def ax_t16 : List (Nat × ax_R) := [(0, 2, 1, 0, 0, 0), (1, 15, 3, 0, 4, 26), (4, 1, 1, 1, 0, 0), (5, 25, 1, 0, 0, 0), (6, 1, 1, 2, 0, 0), (7, 1, 1, 3, 0, 0), (8, 1, 2, 4, 0, 0), (10, 42, 3, 21, 4, 46), (13, 2, 1, 0, 0, 0), (14, 2, 1, 0, 0, 0), (15, 15, 3, 0, 7, 39), (18, 1, 1, 1, 0, 0), (19, 0, 1, 0, 0, 1), (20, 6, 1, 0, 0, 0), (21, 40, 3, 136, 2, 50), (24, 17, 3, 0, 7, 39), (27, 51, 1, 0, 0, 0)]
/-- MakerGuard$Body.append(IIII)V -/
def ax_t17 : List (Nat × ax_R) := [(0, 2, 1, 0, 0, 0), (1, 15, 3, 0, 0, 9), (4, 2, 1, 0, 0, 0), (5, 15, 3, 0, 6, 35), (8, 1, 1, 1, 0, 0), (9, 20, 1, 0, 0, 0), (10, 2, 1, 0, 0, 0), (11, 15, 3, 0, 1, 15), (14, 2, 1, 0, 0, 0), (15, 15, 3, 0, 6, 35), (18, 1, 1, 2, 0, 0), (19, 20, 1, 0, 0, 0), (20, 2, 1, 0, 0, 0), (21, 15, 3, 0, 2, 18), (24, 2, 1, 0, 0, 0), (25, 15, 3, 0, 6, 35), (28, 1, 1, 3, 0, 0), (29, 20, 1, 0, 0, 0), (30, 2, 1, 0, 0, 0), (31, 15, 3, 0, 3, 21), (34, 2, 1, 0, 0, 0), (35, 15, 3, 0, 6, 35), (38, 1, 2, 4, 0, 0), (40, 20, 1, 0, 0, 0), (41, 2, 1, 0, 0, 0), (42, 10, 1, 0, 0, 0), (43, 15, 3, 0, 6, 35), (46, 0, 1, 0, 0, 1), (47, 6, 1, 0, 0, 0), (48, 17, 3, 0, 6, 35), (51, 51, 1, 0, 0, 0)]
/-- MakerGuard$Body.reset()V -/
def ax_t18 : List (Nat × ax_R) := [(0, 2, 1, 0, 0, 0), (1, 0, 1, 0, 0, 0), (2, 17, 3, 0, 6, 35), (5, 2, 1, 0, 0, 0), (6, 0, 1, 0, 0, 0), (7, 17, 3, 0, 7, 39), (10, 2, 1, 0, 0, 0), (11, 15, 3, 0, 5, 31), (14, 0, 1, 0, 0, 0), (15, 0, 1, 0, 0, 1), (16, 0, 1, 0, 0, 0), (17, 42, 3, 21, 4, 46), (20, 51, 1, 0, 0, 0)]
/-- MakerGuard$Body.hasPlace(I)Z -/
def ax_t19 : List (Nat × ax_R) := [(0, 1, 1, 1, 0, 0), (1, 2, 1, 0, 0, 0), (2, 15, 3, 0, 6, 35), (5, 41, 3, 71, 2, 42), (8, 50, 1, 0, 0, 0)]
/-- MakerGuard$Declaration.<init>()V -/
def ax_t20 : List (Nat × ax_R) := [(0, 2, 1, 0, 0, 0), (1, 31, 3, 0, 0, 3), (4, 2, 1, 0, 0, 0), (5, 0, 1, 0, 0, 0), (6, 17, 3, 1, 0, 9), (9, 2, 1, 0, 0, 0), (10, 0, 1, 0, 0, 1), (11, 17, 3, 1, 1, 15), (14, 2, 1, 0, 0, 0), (15, 0, 1, 0, 0, 0), (16, 17, 3, 1, 2, 19), (19, 51, 1, 0, 0, 0)]
/-- MakerGuard$Declaration.declare(IZI)V -/
def ax_t21 : List (Nat × ax_R) := [(0, 2, 1, 0, 0, 0), (1, 1, 1, 1, 0, 0), (2, 17, 3, 1, 0, 9), (5, 2, 1, 0, 0, 0), (6, 1, 1, 2, 0, 0), (7, 17, 3, 1, 1, 15), (10, 2, 1, 0, 0, 0), (11, 1, 1, 3, 0, 0), (12, 17, 3, 1, 2, 19), (15, 51, 1, 0, 0, 0)]
/-- MakerGuard$Frame.<init>()V -/
def ax_t22 : List (Nat × ax_R) := [(0, 2, 1, 0, 0, 0), (1, 31, 3, 0, 0, 3), (4, 2, 1, 0, 0, 0), (5, 0, 2, 0, 0, 8), (7, 29, 2, 20, 0, 0), (9, 18, 3, 2, 0, 9), (12, 2, 1, 0, 0, 0), (13, 0, 1, 0, 0, 0), (14, 17, 3, 2, 1, 15), (17, 2, 1, 0, 0, 0), (18, 0, 1, 0, 0, 0), (19, 17, 3, 2, 2, 19), (22, 2, 1, 0, 0, 0), (23, 0, 1, 0, 0, (-1)), (24, 17, 3, 2, 3, 22), (27, 51, 1, 0, 0, 0)]
/-- MakerGuard$Frame.enter(I)V -/
def ax_t23 : List (Nat × ax_R) := [(0, 2, 1, 0, 0, 0), (1, 1, 1, 1, 0, 0), (2, 17, 3, 2, 1, 15), (5, 2, 1, 0, 0, 0), (6, 0, 1, 0, 0, 0), (7, 17, 3, 2, 2, 19), (10, 2, 1, 0, 0, 0), (11, 0, 1, 0, 0, (-1)), (12, 17, 3, 2, 3, 22), (15, 2, 1, 0, 0, 0), (16, 15, 3, 2, 0, 9), (19, 0, 1, 0, 0, (-1)), (20, 40, 3, 137, 2, 25), (23, 51, 1, 0, 0, 0)]
/-- MakerGuard$Guard.<init>(LMakerGuard$Program;)V -/
def ax_t24 : List (Nat × ax_R) := [(0, 2, 1, 0, 0, 0), (1, 31, 3, 0, 0, 3), (4, 2, 1, 0, 0, 0), (5, 0, 2, 0, 0, 40), (7, 30, 3, 6, 0, 9), (10, 18, 3, 3, 1, 11), (13, 2, 1, 0, 0, 0), (14, 28, 3, 6, 0, 9), (17, 10, 1, 0, 0, 0), (18, 44, 3, 55, 1, 17), (21, 18, 3, 3, 2, 18), (24, 2, 1, 0, 0, 0), (25, 0, 2, 0, 0, 12), (27, 29, 2, 20, 0, 0), (29, 18, 3, 3, 3, 22), (32, 2, 1, 0, 0, 0), (33, 0, 1, 0, 0, (-1)), (34, 17, 3, 3, 4, 26), (37, 2, 1, 0, 0, 0), (38, 2, 1, 1, 0, 0), (39, 18, 3, 3, 0, 30), (42, 2, 1, 0, 0, 0), (43, 2, 1, 1, 0, 0), (44, 15, 3, 5, 0, 34), (47, 0, 1, 0, 0, 0), (48, 25, 1, 0, 0, 0), (49, 17, 3, 3, 5, 40), (52, 0, 1, 0, 0, 0), (53, 3, 1, 2, 0, 0), (54, 1, 1, 2, 0, 0), (55, 0, 2, 0, 0, 40), (57, 13, 3, 3, 79, 0), (60, 2, 1, 0, 0, 0), (61, 15, 3, 3, 1, 11), (64, 1, 1, 2, 0, 0), (65, 28, 3, 6, 0, 9), (68, 10, 1, 0, 0, 0), (69, 44, 3, 55, 1, 17), (72, 26, 1, 0, 0, 0), (73, 5, 3, 2, 0, 1), (76, 14, 3, 0, 54, 0), (79, 51, 1, 0, 0, 0)]
/-- MakerGuard$Guard.forget()V -/
def ax_t25 : List (Nat × ax_R) := [(0, 2, 1, 0, 0, 0), (1, 15, 3, 3, 3, 22), (4, 0, 1, 0, 0, 0), (5, 40, 3, 137, 2, 44), (8, 2, 1, 0, 0, 0), (9, 0, 1, 0, 0, (-1)), (10, 17, 3, 3, 4, 26), (13, 51, 1, 0, 0, 0)]
/-- MakerGuard$Guard.approves(I)Z -/
def ax_t26 : List (Nat × ax_R) := [(0, 2, 1, 0, 0, 0), (1, 15, 3, 3, 3, 22), (4, 1, 1, 1, 0, 0), (5, 19, 1, 0, 0, 0), (6, 12, 3, 1, 14, 0), (9, 2, 1, 0, 0, 0), (10, 1, 1, 1, 0, 0), (11, 42, 3, 27, 2, 50), (14, 2, 1, 0, 0, 0), (15, 15, 3, 3, 3, 22), (18, 1, 1, 1, 0, 0), (19, 19, 1, 0, 0, 0), (20, 0, 1, 0, 0, 1), (21, 13, 3, 1, 28, 0), (24, 0, 1, 0, 0, 1), (25, 14, 3, 0, 29, 0), (28, 0, 1, 0, 0, 0), (29, 50, 1, 0, 0, 0)]
/-- MakerGuard$Guard.watch(I)V -/
def ax_t27 : List (Nat × ax_R) := [(0, 2, 1, 0, 0, 0), (1, 1, 1, 1, 0, 0), (2, 42, 3, 28, 2, 54), (5, 2, 1, 0, 0, 0), (6, 0, 1, 0, 0, 0), (7, 42, 3, 29, 2, 57), (10, 3, 1, 2, 0, 0), (11, 0, 1, 0, 0, 1), (12, 3, 1, 3, 0, 0), (13, 0, 1, 0, 0, 0), (14, 3, 2, 4, 0, 0), (16, 1, 1, 2, 0, 0), (17, 12, 3, 0, 98, 0), (20, 1, 1, 3, 0, 0), (21, 12, 3, 0, 98, 0), (24, 1, 2, 4, 0, 0), (26, 0, 3, 0, 0, 4000), (29, 13, 3, 3, 98, 0), (32, 0, 1, 0, 0, 0), (33, 3, 1, 3, 0, 0), (34, 0, 1, 0, 0, 0), (35, 3, 2, 5, 0, 0), (37, 1, 1, 2, 0, 0), (38, 12, 3, 0, 92, 0), (41, 1, 2, 5, 0, 0), (43, 2, 1, 0, 0, 0), (44, 15, 3, 3, 5, 40), (47, 15, 3, 0, 6, 61), (50, 13, 3, 3, 92, 0), (53, 2, 1, 0, 0, 0), (54, 15, 3, 3, 1, 11), (57, 1, 2, 5, 0, 0), (59, 25, 1, 0, 0, 0), (60, 15, 3, 6, 5, 66), (63, 12, 3, 0, 86, 0), (66, 2, 1, 0, 0, 0), (67, 15, 3, 3, 1, 11), (70, 1, 2, 5, 0, 0), (72, 25, 1, 0, 0, 0), (73, 0, 1, 0, 0, 0), (74, 17, 3, 6, 5, 66), (77, 0, 1, 0, 0, 1), (78, 3, 1, 3, 0, 0), (79, 2, 1, 0, 0, 0), (80, 1, 2, 5, 0, 0), (82, 42, 3, 30, 2, 70), (85, 3, 1, 2, 0, 0), (86, 5, 3, 5, 0, 1), (89, 14, 3, 0, 37, 0), (92, 5, 3, 4, 0, 1), (95, 14, 3, 0, 16, 0), (98, 2, 1, 0, 0, 0), (99, 15, 3, 3, 3, 22), (102, 1, 1, 1, 0, 0), (103, 1, 1, 2, 0, 0), (104, 12, 3, 0, 111, 0), (107, 0, 1, 0, 0, 1), (108, 14, 3, 0, 112, 0), (111, 0, 1, 0, 0, 2), (112, 20, 1, 0, 0, 0), (113, 51, 1, 0, 0, 0)]
/-- MakerGuard$Guard.prepare(I)V -/
def ax_t28 : List (Nat × ax_R) := [(0, 2, 1, 0, 0, 0), (1, 1, 1, 1, 0, 0), (2, 17, 3, 3, 4, 26), (5, 2, 1, 0, 0, 0), (6, 2, 1, 0, 0, 0), (7, 15, 3, 3, 0, 30), (10, 15, 3, 5, 0, 34), (13, 1, 1, 1, 0, 0), (14, 25, 1, 0, 0, 0), (15, 17, 3, 3, 5, 40), (18, 0, 1, 0, 0, 0), (19, 3, 1, 2, 0, 0), (20, 1, 1, 2, 0, 0), (21, 2, 1, 0, 0, 0), (22, 15, 3, 3, 5, 40), (25, 15, 3, 0, 6, 61), (28, 13, 3, 3, 46, 0), (31, 2, 1, 0, 0, 0), (32, 15, 3, 3, 1, 11), (35, 1, 1, 2, 0, 0), (36, 25, 1, 0, 0, 0), (37, 42, 3, 56, 1, 73), (40, 5, 3, 2, 0, 1), (43, 14, 3, 0, 20, 0), (46, 2, 1, 0, 0, 0), (47, 15, 3, 3, 2, 18), (50, 42, 3, 56, 1, 73), (53, 0, 1, 0, 0, 0), (54, 3, 1, 2, 0, 0), (55, 1, 1, 2, 0, 0), (56, 2, 1, 0, 0, 0), (57, 15, 3, 3, 5, 40), (60, 15, 3, 0, 7, 76), (63, 13, 3, 3, 89, 0), (66, 2, 1, 0, 0, 0), (67, 15, 3, 3, 2, 18), (70, 1, 1, 2, 0, 0), (71, 2, 1, 0, 0, 0), (72, 15, 3, 3, 5, 40), (75, 15, 3, 0, 4, 79), (78, 1, 1, 2, 0, 0), (79, 25, 1, 0, 0, 0), (80, 42, 3, 57, 3, 83), (83, 5, 3, 2, 0, 1), (86, 14, 3, 0, 55, 0), (89, 1, 1, 1, 0, 0), (90, 41, 3, 82, 1, 87), (93, 12, 3, 0, 108, 0), (96, 2, 1, 0, 0, 0), (97, 15, 3, 3, 2, 18), (100, 0, 2, 0, 0, 7), (102, 1, 1, 1, 0, 0), (103, 0, 1, 0, 0, 0), (104, 0, 1, 0, 0, 1), (105, 42, 3, 58, 5, 90), (108, 51, 1, 0, 0, 0)]
/-- MakerGuard$Guard.goTo(I)Z -/
def ax_t29 : List (Nat × ax_R) := [(0, 2, 1, 0, 0, 0), (1, 15, 3, 3, 5, 40), (4, 1, 1, 1, 0, 0), (5, 42, 3, 19, 2, 136), (8, 12, 3, 1, 13, 0), (11, 0, 1, 0, 0, 0), (12, 50, 1, 0, 0, 0), (13, 2, 1, 0, 0, 0), (14, 15, 3, 3, 1, 11), (17, 1, 1, 1, 0, 0), (18, 25, 1, 0, 0, 0), (19, 2, 1, 0, 0, 0), (20, 15, 3, 3, 2, 18), (23, 42, 3, 59, 2, 139), (26, 0, 1, 0, 0, 1), (27, 50, 1, 0, 0, 0)]
/-- MakerGuard$Guard.pass(I)Z -/
def ax_t30_0 : List (Nat × ax_R) := [(0, 2, 1, 0, 0, 0), (1, 15, 3, 3, 5, 40), (4, 15, 3, 0, 1, 94), (7, 1, 1, 1, 0, 0), (8, 19, 1, 0, 0, 0), (9, 3, 1, 2, 0, 0), (10, 2, 1, 0, 0, 0), (11, 15, 3, 3, 5, 40), (14, 15, 3, 0, 2, 97), (17, 1, 1, 1, 0, 0), (18, 19, 1, 0, 0, 0), (19, 3, 1, 3, 0, 0), (20, 2, 1, 0, 0, 0), (21, 15, 3, 3, 5, 40), (24, 15, 3, 0, 3, 100), (27, 1, 1, 1, 0, 0), (28, 19, 1, 0, 0, 0), (29, 3, 2, 4, 0, 0), (31, 2, 1, 0, 0, 0), (32, 15, 3, 3, 2, 18), (35, 2, 1, 0, 0, 0), (36, 15, 3, 3, 1, 11), (39, 1, 1, 1, 0, 0), (40, 25, 1, 0, 0, 0), (41, 42, 3, 60, 2, 103), (44, 2, 1, 0, 0, 0), (45, 15, 3, 3, 5, 40), (48, 15, 3, 0, 0, 107), (51, 1, 1, 1, 0, 0), (52, 19, 1, 0, 0, 0), (53, 33, 47, 1, 0, 0), (100, 2, 1, 0, 0, 0), (101, 1, 1, 2, 0, 0), (102, 42, 3, 31, 2, 110), (105, 12, 3, 1, 131, 0), (108, 2, 1, 0, 0, 0), (109, 1, 1, 2, 0, 0), (110, 1, 1, 3, 0, 0), (111, 42, 3, 32, 3, 113), (114, 12, 3, 0, 131, 0), (117, 2, 1, 0, 0, 0), (118, 1, 1, 1, 0, 0), (119, 0, 1, 0, 0, 1), (120, 6, 1, 0, 0, 0), (121, 42, 3, 29, 2, 57), (124, 12, 3, 0, 131, 0), (127, 0, 1, 0, 0, 1), (128, 14, 3, 0, 132, 0), (131, 0, 1, 0, 0, 0), (132, 50, 1, 0, 0, 0), (133, 2, 1, 0, 0, 0), (134, 15, 3, 3, 2, 18), (137, 1, 1, 2, 0, 0), (138, 0, 1, 0, 0, (-1)), (139, 0, 1, 0, 0, 2), (140, 0, 1, 0, 0, 0), (141, 42, 3, 58, 5, 90), (144, 2, 1, 0, 0, 0), (145, 1, 1, 2, 0, 0), (146, 42, 3, 31, 2, 110)]
def ax_t30_1 : List (Nat × ax_R) := [(149, 12, 3, 1, 166, 0), (152, 2, 1, 0, 0, 0), (153, 1, 1, 1, 0, 0), (154, 0, 1, 0, 0, 1), (155, 6, 1, 0, 0, 0), (156, 42, 3, 29, 2, 57), (159, 12, 3, 0, 166, 0), (162, 0, 1, 0, 0, 1), (163, 14, 3, 0, 167, 0), (166, 0, 1, 0, 0, 0), (167, 50, 1, 0, 0, 0), (168, 2, 1, 0, 0, 0), (169, 1, 1, 2, 0, 0), (170, 42, 3, 31, 2, 110), (173, 12, 3, 1, 201, 0), (176, 2, 1, 0, 0, 0), (177, 1, 1, 2, 0, 0), (178, 1, 1, 3, 0, 0), (179, 1, 2, 4, 0, 0), (181, 42, 3, 33, 4, 117), (184, 12, 3, 0, 201, 0), (187, 2, 1, 0, 0, 0), (188, 1, 1, 1, 0, 0), (189, 0, 1, 0, 0, 1), (190, 6, 1, 0, 0, 0), (191, 42, 3, 29, 2, 57), (194, 12, 3, 0, 201, 0), (197, 0, 1, 0, 0, 1), (198, 14, 3, 0, 202, 0), (201, 0, 1, 0, 0, 0), (202, 50, 1, 0, 0, 0), (203, 2, 1, 0, 0, 0), (204, 1, 1, 2, 0, 0), (205, 42, 3, 31, 2, 110), (208, 12, 3, 1, 236, 0), (211, 2, 1, 0, 0, 0), (212, 1, 1, 2, 0, 0), (213, 1, 1, 3, 0, 0), (214, 1, 2, 4, 0, 0), (216, 42, 3, 36, 4, 121), (219, 12, 3, 0, 236, 0), (222, 2, 1, 0, 0, 0), (223, 1, 1, 1, 0, 0), (224, 0, 1, 0, 0, 1), (225, 6, 1, 0, 0, 0), (226, 42, 3, 29, 2, 57), (229, 12, 3, 0, 236, 0), (232, 0, 1, 0, 0, 1), (233, 14, 3, 0, 237, 0), (236, 0, 1, 0, 0, 0), (237, 50, 1, 0, 0, 0), (238, 2, 1, 0, 0, 0), (239, 1, 1, 2, 0, 0), (240, 1, 1, 3, 0, 0), (241, 1, 2, 4, 0, 0), (243, 42, 3, 37, 4, 124), (246, 12, 3, 0, 263, 0), (249, 2, 1, 0, 0, 0), (250, 1, 1, 1, 0, 0), (251, 0, 1, 0, 0, 1)]
def ax_t30_2 : List (Nat × ax_R) := [(252, 6, 1, 0, 0, 0), (253, 42, 3, 29, 2, 57), (256, 12, 3, 0, 263, 0), (259, 0, 1, 0, 0, 1), (260, 14, 3, 0, 264, 0), (263, 0, 1, 0, 0, 0), (264, 50, 1, 0, 0, 0), (265, 2, 1, 0, 0, 0), (266, 1, 1, 2, 0, 0), (267, 1, 1, 3, 0, 0), (268, 1, 1, 1, 0, 0), (269, 0, 1, 0, 0, 1), (270, 6, 1, 0, 0, 0), (271, 42, 3, 38, 4, 127), (274, 50, 1, 0, 0, 0), (275, 2, 1, 0, 0, 0), (276, 1, 1, 3, 0, 0), (277, 42, 3, 29, 2, 57), (280, 50, 1, 0, 0, 0), (281, 2, 1, 0, 0, 0), (282, 1, 1, 2, 0, 0), (283, 42, 3, 31, 2, 110), (286, 12, 3, 1, 314, 0), (289, 2, 1, 0, 0, 0), (290, 1, 1, 2, 0, 0), (291, 1, 1, 3, 0, 0), (292, 1, 2, 4, 0, 0), (294, 42, 3, 39, 4, 130), (297, 12, 3, 0, 314, 0), (300, 2, 1, 0, 0, 0), (301, 1, 1, 1, 0, 0), (302, 0, 1, 0, 0, 1), (303, 6, 1, 0, 0, 0), (304, 42, 3, 29, 2, 57), (307, 12, 3, 0, 314, 0), (310, 0, 1, 0, 0, 1), (311, 14, 3, 0, 315, 0), (314, 0, 1, 0, 0, 0), (315, 50, 1, 0, 0, 0), (316, 2, 1, 0, 0, 0), (317, 1, 1, 2, 0, 0), (318, 42, 3, 40, 2, 133), (321, 50, 1, 0, 0, 0)]
def ax_t30 : List (Nat × ax_R) := ax_t30_0 ++ (ax_t30_1 ++ ax_t30_2)
/-- MakerGuard$Guard.isSelf(I)Z -/
def ax_t31 : List (Nat × ax_R) := [(0, 1, 1, 1, 0, 0), (1, 0, 2, 0, 0, 7), (3, 13, 3, 1, 20, 0), (6, 2, 1, 0, 0, 0), (7, 15, 3, 3, 4, 26), (10, 41, 3, 82, 1, 87), (13, 12, 3, 0, 20, 0), (16, 0, 1, 0, 0, 1), (17, 14, 3, 0, 21, 0), (20, 0, 1, 0, 0, 0), (21, 50, 1, 0, 0, 0)]
/-- MakerGuard$Guard.copy(II)Z -/
def ax_t32 : List (Nat × ax_R) := [(0, 2, 1, 0, 0, 0), (1, 15, 3, 3, 2, 18), (4, 1, 1, 1, 0, 0), (5, 2, 1, 0, 0, 0), (6, 15, 3, 3, 2, 18), (9, 16, 3, 6, 0, 168), (12, 1, 1, 2, 0, 0), (13, 19, 1, 0, 0, 0), (14, 2, 1, 0, 0, 0), (15, 15, 3, 3, 2, 18), (18, 16, 3, 6, 1, 145), (21, 1, 1, 2, 0, 0), (22, 19, 1, 0, 0, 0), (23, 2, 1, 0, 0, 0), (24, 15, 3, 3, 2, 18), (27, 16, 3, 6, 2, 171), (30, 1, 1, 2, 0, 0), (31, 19, 1, 0, 0, 0), (32, 42, 3, 58, 5, 90), (35, 2, 1, 0, 0, 0), (36, 15, 3, 3, 2, 18), (39, 1, 1, 2, 0, 0), (40, 42, 3, 63, 2, 142), (43, 50, 1, 0, 0, 0)]
/-- MakerGuard$Guard.make(III)Z -/
def ax_t33 : List (Nat × ax_R) := [(0, 2, 1, 0, 0, 0), (1, 15, 3, 3, 0, 30), (4, 15, 3, 5, 0, 34), (7, 1, 1, 2, 0, 0), (8, 25, 1, 0, 0, 0), (9, 4, 2, 4, 0, 0), (11, 2, 1, 0, 0, 0), (12, 2, 2, 4, 0, 0), (14, 1, 1, 3, 0, 0), (15, 42, 3, 34, 3, 186), (18, 12, 3, 1, 23, 0), (21, 0, 1, 0, 0, 0), (22, 50, 1, 0, 0, 0), (23, 2, 1, 0, 0, 0), (24, 15, 3, 3, 2, 18), (27, 1, 1, 1, 0, 0), (28, 1, 1, 2, 0, 0), (29, 0, 1, 0, 0, 0), (30, 2, 1, 0, 0, 0), (31, 2, 2, 4, 0, 0), (33, 15, 3, 0, 7, 76), (36, 1, 1, 3, 0, 0), (37, 42, 3, 35, 3, 190), (40, 42, 3, 58, 5, 90), (43, 0, 1, 0, 0, 1), (44, 50, 1, 0, 0, 0)]
/-- MakerGuard$Guard.parametersFit(LMakerGuard$Body;I)Z -/
def ax_t34 : List (Nat × ax_R) := [(0, 0, 1, 0, 0, 0), (1, 3, 1, 3, 0, 0), (2, 1, 1, 3, 0, 0), (3, 2, 1, 1, 0, 0), (4, 15, 3, 0, 7, 76), (7, 13, 3, 3, 45, 0), (10, 1, 1, 2, 0, 0), (11, 1, 1, 3, 0, 0), (12, 6, 1, 0, 0, 0), (13, 0, 2, 0, 0, 8), (15, 13, 3, 3, 37, 0), (18, 2, 1, 0, 0, 0), (19, 15, 3, 3, 2, 18), (22, 1, 1, 2, 0, 0), (23, 1, 1, 3, 0, 0), (24, 6, 1, 0, 0, 0), (25, 2, 1, 1, 0, 0), (26, 15, 3, 0, 4, 79), (29, 1, 1, 3, 0, 0), (30, 25, 1, 0, 0, 0), (31, 42, 3, 64, 3, 152), (34, 12, 3, 1, 39, 0), (37, 0, 1, 0, 0, 0), (38, 50, 1, 0, 0, 0), (39, 5, 3, 3, 0, 1), (42, 14, 3, 0, 2, 0), (45, 0, 1, 0, 0, 1), (46, 50, 1, 0, 0, 0)]
/-- MakerGuard$Guard.stageOfNew(II)I -/
def ax_t35 : List (Nat × ax_R) := [(0, 0, 1, 0, 0, 0), (1, 3, 1, 3, 0, 0), (2, 1, 1, 2, 0, 0), (3, 3, 2, 4, 0, 0), (5, 1, 2, 4, 0, 0), (7, 1, 1, 2, 0, 0), (8, 1, 1, 1, 0, 0), (9, 6, 1, 0, 0, 0), (10, 13, 3, 3, 69, 0), (13, 1, 2, 4, 0, 0), (15, 0, 2, 0, 0, 8), (17, 13, 3, 3, 69, 0), (20, 2, 1, 0, 0, 0), (21, 15, 3, 3, 2, 18), (24, 16, 3, 6, 2, 171), (27, 1, 2, 4, 0, 0), (29, 19, 1, 0, 0, 0), (30, 0, 1, 0, 0, 1), (31, 13, 3, 1, 49, 0), (34, 2, 1, 0, 0, 0), (35, 15, 3, 3, 2, 18), (38, 16, 3, 6, 1, 145), (41, 1, 2, 4, 0, 0), (43, 19, 1, 0, 0, 0), (44, 12, 3, 1, 49, 0), (47, 0, 1, 0, 0, 1), (48, 50, 1, 0, 0, 0), (49, 2, 1, 0, 0, 0), (50, 15, 3, 3, 2, 18), (53, 1, 2, 4, 0, 0), (55, 42, 3, 66, 2, 183), (58, 12, 3, 1, 63, 0), (61, 0, 1, 0, 0, 2), (62, 3, 1, 3, 0, 0), (63, 5, 3, 4, 0, 1), (66, 14, 3, 0, 5, 0), (69, 1, 1, 3, 0, 0), (70, 50, 1, 0, 0, 0)]
/-- MakerGuard$Guard.fetch(III)Z -/
def ax_t36 : List (Nat × ax_R) := [(0, 2, 1, 0, 0, 0), (1, 15, 3, 3, 2, 18), (4, 1, 1, 2, 0, 0), (5, 42, 3, 67, 2, 174), (8, 12, 3, 1, 13, 0), (11, 0, 1, 0, 0, 0), (12, 50, 1, 0, 0, 0), (13, 2, 1, 0, 0, 0), (14, 15, 3, 3, 0, 30), (17, 2, 1, 0, 0, 0), (18, 15, 3, 3, 2, 18), (21, 16, 3, 6, 0, 168), (24, 1, 1, 2, 0, 0), (25, 19, 1, 0, 0, 0), (26, 1, 1, 3, 0, 0), (27, 42, 3, 53, 3, 156), (30, 4, 2, 4, 0, 0), (32, 2, 1, 0, 0, 0), (33, 15, 3, 3, 2, 18), (36, 16, 3, 6, 2, 171), (39, 1, 1, 2, 0, 0), (40, 19, 1, 0, 0, 0), (41, 12, 3, 1, 57, 0), (44, 2, 1, 0, 0, 0), (45, 15, 3, 3, 2, 18), (48, 1, 1, 1, 0, 0), (49, 2, 2, 4, 0, 0), (51, 42, 3, 57, 3, 83), (54, 14, 3, 0, 72, 0), (57, 2, 1, 0, 0, 0), (58, 15, 3, 3, 2, 18), (61, 1, 1, 1, 0, 0), (62, 2, 2, 4, 0, 0), (64, 15, 3, 1, 0, 177), (67, 0, 1, 0, 0, 1), (68, 0, 1, 0, 0, 2), (69, 42, 3, 58, 5, 90), (72, 0, 1, 0, 0, 1), (73, 50, 1, 0, 0, 0)]
/-- MakerGuard$Guard.store(III)Z -/
def ax_t37 : List (Nat × ax_R) := [(0, 2, 1, 0, 0, 0), (1, 15, 3, 3, 2, 18), (4, 1, 1, 1, 0, 0), (5, 42, 3, 67, 2, 174), (8, 12, 3, 1, 13, 0), (11, 0, 1, 0, 0, 0), (12, 50, 1, 0, 0, 0), (13, 2, 1, 0, 0, 0), (14, 15, 3, 3, 2, 18), (17, 1, 1, 2, 0, 0), (18, 2, 1, 0, 0, 0), (19, 15, 3, 3, 0, 30), (22, 2, 1, 0, 0, 0), (23, 15, 3, 3, 2, 18), (26, 16, 3, 6, 0, 168), (29, 1, 1, 1, 0, 0), (30, 19, 1, 0, 0, 0), (31, 1, 1, 3, 0, 0), (32, 42, 3, 53, 3, 156), (35, 42, 3, 65, 3, 180), (38, 12, 3, 1, 43, 0), (41, 0, 1, 0, 0, 0), (42, 50, 1, 0, 0, 0), (43, 2, 1, 0, 0, 0), (44, 15, 3, 3, 2, 18), (47, 16, 3, 6, 2, 171), (50, 1, 1, 1, 0, 0), (51, 19, 1, 0, 0, 0), (52, 0, 1, 0, 0, 1), (53, 13, 3, 0, 69, 0), (56, 2, 1, 0, 0, 0), (57, 15, 3, 3, 2, 18), (60, 1, 1, 2, 0, 0), (61, 42, 3, 66, 2, 183), (64, 12, 3, 1, 69, 0), (67, 0, 1, 0, 0, 0), (68, 50, 1, 0, 0, 0), (69, 2, 1, 0, 0, 0), (70, 1, 1, 1, 0, 0), (71, 42, 3, 31, 2, 110), (74, 12, 3, 0, 92, 0), (77, 2, 1, 0, 0, 0), (78, 15, 3, 3, 2, 18), (81, 10, 1, 0, 0, 0), (82, 15, 3, 6, 3, 165), (85, 0, 1, 0, 0, 1), (86, 1, 1, 3, 0, 0), (87, 6, 1, 6, 0, 0), (88, 6, 1, 4, 0, 0), (89, 17, 3, 6, 3, 165), (92, 0, 1, 0, 0, 1), (93, 50, 1, 0, 0, 0)]
/-- MakerGuard$Guard.fork(III)Z -/
def ax_t38 : List (Nat × ax_R) := [(0, 2, 1, 0, 0, 0), (1, 15, 3, 3, 2, 18), (4, 1, 1, 1, 0, 0), (5, 42, 3, 63, 2, 142), (8, 12, 3, 0, 33, 0), (11, 2, 1, 0, 0, 0), (12, 15, 3, 3, 5, 40), (15, 1, 1, 2, 0, 0), (16, 42, 3, 19, 2, 136), (19, 12, 3, 0, 33, 0), (22, 2, 1, 0, 0, 0), (23, 15, 3, 3, 5, 40), (26, 1, 1, 3, 0, 0), (27, 42, 3, 19, 2, 136), (30, 12, 3, 1, 35, 0), (33, 0, 1, 0, 0, 0), (34, 50, 1, 0, 0, 0), (35, 2, 1, 0, 0, 0), (36, 15, 3, 3, 2, 18), (39, 16, 3, 6, 1, 145), (42, 1, 1, 1, 0, 0), (43, 19, 1, 0, 0, 0), (44, 3, 2, 4, 0, 0), (46, 1, 2, 4, 0, 0), (48, 12, 3, 0, 74, 0), (51, 2, 1, 0, 0, 0), (52, 15, 3, 3, 2, 18), (55, 16, 3, 6, 1, 145), (58, 1, 1, 1, 0, 0), (59, 0, 1, 0, 0, 2), (60, 20, 1, 0, 0, 0), (61, 2, 1, 0, 0, 0), (62, 15, 3, 3, 1, 11), (65, 1, 1, 2, 0, 0), (66, 25, 1, 0, 0, 0), (67, 2, 1, 0, 0, 0), (68, 15, 3, 3, 2, 18), (71, 42, 3, 59, 2, 139), (74, 1, 2, 4, 0, 0), (76, 0, 1, 0, 0, 2), (77, 13, 3, 0, 103, 0), (80, 2, 1, 0, 0, 0), (81, 15, 3, 3, 2, 18), (84, 16, 3, 6, 1, 145), (87, 1, 1, 1, 0, 0), (88, 0, 1, 0, 0, 0), (89, 20, 1, 0, 0, 0), (90, 2, 1, 0, 0, 0), (91, 15, 3, 3, 1, 11), (94, 1, 1, 3, 0, 0), (95, 25, 1, 0, 0, 0), (96, 2, 1, 0, 0, 0), (97, 15, 3, 3, 2, 18), (100, 42, 3, 59, 2, 139), (103, 0, 1, 0, 0, 1), (104, 50, 1, 0, 0, 0)]
/-- MakerGuard$Guard.call(III)Z -/
def ax_t39 : List (Nat × ax_R) := [(0, 2, 1, 0, 0, 0), (1, 15, 3, 3, 0, 30), (4, 1, 1, 2, 0, 0), (5, 42, 3, 54, 2, 194), (8, 4, 2, 4, 0, 0), (10, 2, 1, 0, 0, 0), (11, 2, 2, 4, 0, 0), (13, 1, 1, 3, 0, 0), (14, 42, 3, 34, 3, 186), (17, 12, 3, 1, 22, 0), (20, 0, 1, 0, 0, 0), (21, 50, 1, 0, 0, 0), (22, 2, 1, 0, 0, 0), (23, 15, 3, 3, 2, 18), (26, 1, 1, 1, 0, 0), (27, 2, 2, 4, 0, 0), (29, 15, 3, 0, 5, 148), (32, 42, 3, 57, 3, 83), (35, 0, 1, 0, 0, 1), (36, 50, 1, 0, 0, 0)]
/-- MakerGuard$Guard.mayReturn(I)Z -/
def ax_t40 : List (Nat × ax_R) := [(0, 2, 1, 0, 0, 0), (1, 15, 3, 3, 4, 26), (4, 41, 3, 82, 1, 87), (7, 12, 3, 1, 26, 0), (10, 2, 1, 0, 0, 0), (11, 15, 3, 3, 2, 18), (14, 1, 1, 1, 0, 0), (15, 2, 1, 0, 0, 0), (16, 15, 3, 3, 5, 40), (19, 15, 3, 0, 5, 148), (22, 42, 3, 64, 3, 152), (25, 50, 1, 0, 0, 0), (26, 0, 1, 0, 0, 0), (27, 3, 1, 2, 0, 0), (28, 1, 1, 2, 0, 0), (29, 0, 1, 0, 0, 4), (30, 13, 3, 3, 73, 0), (33, 2, 1, 0, 0, 0), (34, 15, 3, 3, 0, 30), (37, 2, 1, 0, 0, 0), (38, 15, 3, 3, 4, 26), (41, 1, 1, 2, 0, 0), (42, 42, 3, 53, 3, 156), (45, 15, 3, 1, 1, 160), (48, 12, 3, 1, 67, 0), (51, 2, 1, 0, 0, 0), (52, 15, 3, 3, 2, 18), (55, 15, 3, 6, 3, 165), (58, 1, 1, 2, 0, 0), (59, 6, 1, 7, 0, 0), (60, 0, 1, 0, 0, 1), (61, 6, 1, 3, 0, 0), (62, 12, 3, 1, 67, 0), (65, 0, 1, 0, 0, 0), (66, 50, 1, 0, 0, 0), (67, 5, 3, 2, 0, 1), (70, 14, 3, 0, 28, 0), (73, 0, 1, 0, 0, 1), (74, 50, 1, 0, 0, 0)]
/-- MakerGuard$Guard.sightAt(II)LMakerGuard$Sight; -/
def ax_t41 : List (Nat × ax_R) := [(0, 2, 1, 0, 0, 0), (1, 15, 3, 3, 4, 26), (4, 1, 1, 1, 0, 0), (5, 13, 3, 0, 13, 0), (8, 2, 1, 0, 0, 0), (9, 1, 1, 1, 0, 0), (10, 42, 3, 27, 2, 50), (13, 2, 1, 0, 0, 0), (14, 15, 3, 3, 1, 11), (17, 1, 1, 2, 0, 0), (18, 25, 1, 0, 0, 0), (19, 52, 1, 0, 0, 0)]
/-- MakerGuard$Machine.<init>(LMakerGuard$Program;)V -/
def ax_t42 : List (Nat × ax_R) := [(0, 2, 1, 0, 0, 0), (1, 31, 3, 0, 0, 3), (4, 2, 1, 0, 0, 0), (5, 0, 2, 0, 0, 60), (7, 29, 2, 20, 0, 0), (9, 18, 3, 4, 0, 9), (12, 2, 1, 0, 0, 0), (13, 0, 3, 0, 0, 240), (16, 29, 2, 20, 0, 0), (18, 18, 3, 4, 1, 15), (21, 2, 1, 0, 0, 0), (22, 0, 1, 0, 0, 0), (23, 17, 3, 4, 2, 18), (26, 2, 1, 0, 0, 0), (27, 0, 1, 0, 0, 0), (28, 17, 3, 4, 3, 22), (31, 2, 1, 0, 0, 0), (32, 0, 1, 0, 0, 0), (33, 17, 3, 4, 4, 26), (36, 2, 1, 0, 0, 0), (37, 0, 2, 0, 0, 20), (39, 30, 3, 2, 0, 29), (42, 18, 3, 4, 6, 31), (45, 2, 1, 0, 0, 0), (46, 0, 1, 0, 0, 0), (47, 17, 3, 4, 7, 35), (50, 2, 1, 0, 0, 0), (51, 0, 1, 0, 0, 0), (52, 17, 3, 4, 8, 38), (55, 2, 1, 0, 0, 0), (56, 0, 1, 0, 0, (-1)), (57, 17, 3, 4, 9, 41), (60, 2, 1, 0, 0, 0), (61, 2, 1, 1, 0, 0), (62, 18, 3, 4, 5, 44), (65, 0, 1, 0, 0, 0), (66, 3, 1, 2, 0, 0), (67, 1, 1, 2, 0, 0), (68, 0, 2, 0, 0, 20), (70, 13, 3, 3, 92, 0), (73, 2, 1, 0, 0, 0), (74, 15, 3, 4, 6, 31), (77, 1, 1, 2, 0, 0), (78, 28, 3, 2, 0, 29), (81, 10, 1, 0, 0, 0), (82, 44, 3, 22, 1, 48), (85, 26, 1, 0, 0, 0), (86, 5, 3, 2, 0, 1), (89, 14, 3, 0, 67, 0), (92, 51, 1, 0, 0, 0)]
/-- MakerGuard$Machine.begin(I)V -/
def ax_t43 : List (Nat × ax_R) := [(0, 2, 1, 0, 0, 0), (1, 0, 1, 0, 0, 1), (2, 17, 3, 4, 2, 18), (5, 2, 1, 0, 0, 0), (6, 0, 1, 0, 0, 0), (7, 17, 3, 4, 7, 35), (10, 2, 1, 0, 0, 0), (11, 0, 1, 0, 0, 0), (12, 17, 3, 4, 8, 38), (15, 2, 1, 0, 0, 0), (16, 0, 1, 0, 0, (-1)), (17, 17, 3, 4, 9, 41), (20, 2, 1, 0, 0, 0), (21, 0, 1, 0, 0, 0), (22, 17, 3, 4, 4, 26), (25, 2, 1, 0, 0, 0), (26, 15, 3, 4, 6, 31), (29, 0, 1, 0, 0, 0), (30, 25, 1, 0, 0, 0), (31, 0, 2, 0, 0, 6), (33, 1, 1, 1, 0, 0), (34, 6, 1, 0, 0, 0), (35, 42, 3, 23, 2, 49), (38, 2, 1, 0, 0, 0), (39, 0, 1, 0, 0, 1), (40, 17, 3, 4, 3, 22), (43, 51, 1, 0, 0, 0)]
/-- MakerGuard$Machine.advance(I)I -/
def ax_t44 : List (Nat × ax_R) := [(0, 0, 1, 0, 0, 0), (1, 3, 1, 2, 0, 0), (2, 1, 1, 2, 0, 0), (3, 1, 1, 1, 0, 0), (4, 13, 3, 3, 64, 0), (7, 2, 1, 0, 0, 0), (8, 15, 3, 4, 7, 35), (11, 12, 3, 0, 16, 0), (14, 1, 1, 2, 0, 0), (15, 50, 1, 0, 0, 0), (16, 2, 1, 0, 0, 0), (17, 42, 3, 45, 1, 69), (20, 3, 1, 3, 0, 0), (21, 1, 1, 3, 0, 0), (22, 12, 3, 0, 32, 0), (25, 2, 1, 0, 0, 0), (26, 1, 1, 3, 0, 0), (27, 17, 3, 4, 7, 35), (30, 1, 1, 2, 0, 0), (31, 50, 1, 0, 0, 0), (32, 2, 1, 0, 0, 0), (33, 10, 1, 0, 0, 0), (34, 15, 3, 4, 8, 38), (37, 0, 1, 0, 0, 1), (38, 6, 1, 0, 0, 0), (39, 17, 3, 4, 8, 38), (42, 2, 1, 0, 0, 0), (43, 2, 1, 0, 0, 0), (44, 15, 3, 4, 3, 22), (47, 12, 3, 1, 54, 0), (50, 0, 1, 0, 0, 1), (51, 14, 3, 0, 55, 0), (54, 0, 1, 0, 0, 0), (55, 17, 3, 4, 7, 35), (58, 5, 3, 2, 0, 1), (61, 14, 3, 0, 2, 0), (64, 1, 1, 1, 0, 0), (65, 50, 1, 0, 0, 0)]
/-- MakerGuard$Machine.attempt()I -/
def ax_t45_0 : List (Nat × ax_R) := [(0, 2, 1, 0, 0, 0), (1, 42, 3, 46, 1, 59), (4, 4, 1, 1, 0, 0), (5, 2, 1, 0, 0, 0), (6, 15, 3, 4, 5, 44), (9, 15, 3, 5, 0, 73), (12, 2, 1, 1, 0, 0), (13, 15, 3, 2, 1, 63), (16, 25, 1, 0, 0, 0), (17, 4, 1, 2, 0, 0), (18, 2, 1, 1, 0, 0), (19, 15, 3, 2, 2, 66), (22, 3, 1, 3, 0, 0), (23, 2, 1, 2, 0, 0), (24, 1, 1, 3, 0, 0), (25, 42, 3, 19, 2, 79), (28, 12, 3, 1, 33, 0), (31, 0, 1, 0, 0, 5), (32, 50, 1, 0, 0, 0), (33, 2, 1, 2, 0, 0), (34, 15, 3, 0, 0, 85), (37, 1, 1, 3, 0, 0), (38, 19, 1, 0, 0, 0), (39, 33, 41, 2, 0, 0), (80, 2, 1, 0, 0, 0), (81, 2, 1, 1, 0, 0), (82, 2, 1, 2, 0, 0), (83, 15, 3, 0, 2, 88), (86, 1, 1, 3, 0, 0), (87, 19, 1, 0, 0, 0), (88, 2, 1, 2, 0, 0), (89, 15, 3, 0, 3, 91), (92, 1, 1, 3, 0, 0), (93, 19, 1, 0, 0, 0), (94, 42, 3, 47, 4, 94), (97, 50, 1, 0, 0, 0), (98, 2, 1, 0, 0, 0), (99, 2, 1, 1, 0, 0), (100, 0, 2, 0, 0, 6), (102, 2, 1, 2, 0, 0), (103, 15, 3, 0, 2, 88), (106, 1, 1, 3, 0, 0), (107, 19, 1, 0, 0, 0), (108, 6, 1, 0, 0, 0), (109, 2, 1, 2, 0, 0), (110, 15, 3, 0, 3, 91), (113, 1, 1, 3, 0, 0), (114, 19, 1, 0, 0, 0), (115, 42, 3, 48, 4, 98), (118, 50, 1, 0, 0, 0), (119, 2, 1, 0, 0, 0), (120, 2, 1, 1, 0, 0), (121, 2, 1, 2, 0, 0), (122, 15, 3, 0, 1, 101), (125, 1, 1, 3, 0, 0), (126, 19, 1, 0, 0, 0), (127, 42, 3, 49, 3, 104), (130, 0, 1, 0, 0, 0), (131, 50, 1, 0, 0, 0), (132, 2, 1, 1, 0, 0)]
def ax_t45_1 : List (Nat × ax_R) := [(133, 2, 1, 1, 0, 0), (134, 15, 3, 2, 0, 108), (137, 2, 1, 2, 0, 0), (138, 15, 3, 0, 1, 101), (141, 1, 1, 3, 0, 0), (142, 19, 1, 0, 0, 0), (143, 19, 1, 0, 0, 0), (144, 0, 1, 0, 0, (-1)), (145, 13, 3, 1, 157, 0), (148, 2, 1, 2, 0, 0), (149, 15, 3, 0, 2, 88), (152, 1, 1, 3, 0, 0), (153, 19, 1, 0, 0, 0), (154, 14, 3, 0, 160, 0), (157, 1, 1, 3, 0, 0), (158, 0, 1, 0, 0, 1), (159, 6, 1, 0, 0, 0), (160, 17, 3, 2, 2, 66), (163, 0, 1, 0, 0, 0), (164, 50, 1, 0, 0, 0), (165, 2, 1, 1, 0, 0), (166, 2, 1, 2, 0, 0), (167, 15, 3, 0, 2, 88), (170, 1, 1, 3, 0, 0), (171, 19, 1, 0, 0, 0), (172, 17, 3, 2, 2, 66), (175, 0, 1, 0, 0, 0), (176, 50, 1, 0, 0, 0), (177, 2, 1, 0, 0, 0), (178, 2, 1, 1, 0, 0), (179, 2, 1, 2, 0, 0), (180, 1, 1, 3, 0, 0), (181, 42, 3, 50, 4, 111), (184, 50, 1, 0, 0, 0)]
def ax_t45 : List (Nat × ax_R) := ax_t45_0 ++ ax_t45_1
/-- MakerGuard$Machine.upper()LMakerGuard$Frame; -/
def ax_t46 : List (Nat × ax_R) := [(0, 2, 1, 0, 0, 0), (1, 15, 3, 4, 6, 31), (4, 2, 1, 0, 0, 0), (5, 15, 3, 4, 3, 22), (8, 0, 1, 0, 0, 1), (9, 40, 3, 136, 2, 53), (12, 0, 1, 0, 0, 1), (13, 6, 1, 1, 0, 0), (14, 25, 1, 0, 0, 0), (15, 52, 1, 0, 0, 0)]
/-- MakerGuard$Machine.make(LMakerGuard$Frame;II)I -/
def ax_t47 : List (Nat × ax_R) := [(0, 2, 1, 0, 0, 0), (1, 15, 3, 4, 4, 26), (4, 0, 2, 0, 0, 60), (6, 13, 3, 1, 11, 0), (9, 0, 1, 0, 0, 3), (10, 50, 1, 0, 0, 0), (11, 2, 1, 0, 0, 0), (12, 2, 1, 1, 0, 0), (13, 1, 1, 2, 0, 0), (14, 1, 1, 3, 0, 0), (15, 42, 3, 48, 4, 98), (18, 3, 2, 4, 0, 0), (20, 1, 2, 4, 0, 0), (22, 12, 3, 1, 100, 0), (25, 2, 1, 0, 0, 0), (26, 15, 3, 4, 0, 9), (29, 2, 1, 0, 0, 0), (30, 15, 3, 4, 4, 26), (33, 1, 1, 2, 0, 0), (34, 20, 1, 0, 0, 0), (35, 0, 1, 0, 0, 0), (36, 3, 2, 5, 0, 0), (38, 1, 2, 5, 0, 0), (40, 0, 1, 0, 0, 4), (41, 13, 3, 3, 65, 0), (44, 2, 1, 0, 0, 0), (45, 15, 3, 4, 1, 15), (48, 2, 1, 0, 0, 0), (49, 15, 3, 4, 4, 26), (52, 0, 1, 0, 0, 4), (53, 6, 1, 2, 0, 0), (54, 1, 2, 5, 0, 0), (56, 6, 1, 0, 0, 0), (57, 0, 1, 0, 0, (-1)), (58, 20, 1, 0, 0, 0), (59, 5, 3, 5, 0, 1), (62, 14, 3, 0, 38, 0), (65, 2, 1, 0, 0, 0), (66, 42, 3, 46, 1, 59), (69, 2, 1, 0, 0, 0), (70, 15, 3, 4, 4, 26), (73, 17, 3, 2, 3, 115), (76, 2, 1, 0, 0, 0), (77, 42, 3, 46, 1, 59), (80, 15, 3, 2, 0, 108), (83, 0, 2, 0, 0, 7), (85, 2, 1, 0, 0, 0), (86, 15, 3, 4, 4, 26), (89, 20, 1, 0, 0, 0), (90, 2, 1, 0, 0, 0), (91, 10, 1, 0, 0, 0), (92, 15, 3, 4, 4, 26), (95, 0, 1, 0, 0, 1), (96, 6, 1, 0, 0, 0), (97, 17, 3, 4, 4, 26), (100, 1, 2, 4, 0, 0), (102, 50, 1, 0, 0, 0)]
/-- MakerGuard$Machine.call(LMakerGuard$Frame;II)I -/
def ax_t48 : List (Nat × ax_R) := [(0, 2, 1, 0, 0, 0), (1, 15, 3, 4, 3, 22), (4, 0, 2, 0, 0, 20), (6, 13, 3, 1, 11, 0), (9, 0, 1, 0, 0, 4), (10, 50, 1, 0, 0, 0), (11, 2, 1, 0, 0, 0), (12, 10, 1, 0, 0, 0), (13, 15, 3, 4, 3, 22), (16, 0, 1, 0, 0, 1), (17, 6, 1, 0, 0, 0), (18, 17, 3, 4, 3, 22), (21, 2, 1, 0, 0, 0), (22, 42, 3, 46, 1, 59), (25, 1, 1, 2, 0, 0), (26, 42, 3, 23, 2, 49), (29, 2, 1, 0, 0, 0), (30, 15, 3, 4, 5, 44), (33, 15, 3, 5, 0, 73), (36, 1, 1, 2, 0, 0), (37, 25, 1, 0, 0, 0), (38, 15, 3, 0, 7, 118), (41, 3, 2, 4, 0, 0), (43, 0, 1, 0, 0, 0), (44, 3, 2, 5, 0, 0), (46, 1, 2, 5, 0, 0), (48, 1, 2, 4, 0, 0), (50, 13, 3, 3, 87, 0), (53, 1, 1, 3, 0, 0), (54, 1, 2, 5, 0, 0), (56, 6, 1, 0, 0, 0), (57, 0, 2, 0, 0, 8), (59, 13, 3, 3, 87, 0), (62, 2, 1, 0, 0, 0), (63, 42, 3, 46, 1, 59), (66, 15, 3, 2, 0, 108), (69, 1, 2, 5, 0, 0), (71, 2, 1, 1, 0, 0), (72, 15, 3, 2, 0, 108), (75, 1, 1, 3, 0, 0), (76, 1, 2, 5, 0, 0), (78, 6, 1, 0, 0, 0), (79, 19, 1, 0, 0, 0), (80, 20, 1, 0, 0, 0), (81, 5, 3, 5, 0, 1), (84, 14, 3, 0, 46, 0), (87, 0, 1, 0, 0, 0), (88, 50, 1, 0, 0, 0)]
/-- MakerGuard$Machine.leave(LMakerGuard$Frame;I)V -/
def ax_t49 : List (Nat × ax_R) := [(0, 2, 1, 1, 0, 0), (1, 15, 3, 2, 1, 63), (4, 41, 3, 82, 1, 121), (7, 12, 3, 0, 17, 0), (10, 2, 1, 1, 0, 0), (11, 15, 3, 2, 3, 115), (14, 14, 3, 0, 23, 0), (17, 2, 1, 1, 0, 0), (18, 15, 3, 2, 0, 108), (21, 1, 1, 2, 0, 0), (22, 19, 1, 0, 0, 0), (23, 3, 1, 3, 0, 0), (24, 2, 1, 0, 0, 0), (25, 10, 1, 0, 0, 0), (26, 15, 3, 4, 3, 22), (29, 0, 1, 0, 0, 1), (30, 6, 1, 1, 0, 0), (31, 17, 3, 4, 3, 22), (34, 2, 1, 0, 0, 0), (35, 15, 3, 4, 3, 22), (38, 12, 3, 1, 47, 0), (41, 2, 1, 0, 0, 0), (42, 1, 1, 3, 0, 0), (43, 17, 3, 4, 9, 41), (46, 51, 1, 0, 0, 0), (47, 2, 1, 0, 0, 0), (48, 42, 3, 46, 1, 59), (51, 4, 2, 4, 0, 0), (53, 2, 2, 4, 0, 0), (55, 15, 3, 2, 0, 108), (58, 2, 1, 0, 0, 0), (59, 15, 3, 4, 5, 44), (62, 15, 3, 5, 0, 73), (65, 2, 2, 4, 0, 0), (67, 15, 3, 2, 1, 63), (70, 25, 1, 0, 0, 0), (71, 15, 3, 0, 1, 101), (74, 2, 2, 4, 0, 0), (76, 15, 3, 2, 2, 66), (79, 19, 1, 0, 0, 0), (80, 1, 1, 3, 0, 0), (81, 20, 1, 0, 0, 0), (82, 2, 2, 4, 0, 0), (84, 10, 1, 0, 0, 0), (85, 15, 3, 2, 2, 66), (88, 0, 1, 0, 0, 1), (89, 6, 1, 0, 0, 0), (90, 17, 3, 2, 2, 66), (93, 51, 1, 0, 0, 0)]
/-- MakerGuard$Machine.move(LMakerGuard$Frame;LMakerGuard$Body;I)I -/
def ax_t50_0 : List (Nat × ax_R) := [(0, 2, 1, 1, 0, 0), (1, 15, 3, 2, 0, 108), (4, 4, 2, 4, 0, 0), (6, 2, 1, 2, 0, 0), (7, 15, 3, 0, 1, 101), (10, 1, 1, 3, 0, 0), (11, 19, 1, 0, 0, 0), (12, 3, 2, 5, 0, 0), (14, 2, 1, 2, 0, 0), (15, 15, 3, 0, 2, 88), (18, 1, 1, 3, 0, 0), (19, 19, 1, 0, 0, 0), (20, 3, 2, 6, 0, 0), (22, 2, 1, 2, 0, 0), (23, 15, 3, 0, 0, 85), (26, 1, 1, 3, 0, 0), (27, 19, 1, 0, 0, 0), (28, 3, 2, 7, 0, 0), (30, 1, 2, 7, 0, 0), (32, 12, 3, 1, 48, 0), (35, 2, 2, 4, 0, 0), (37, 1, 2, 5, 0, 0), (39, 2, 2, 4, 0, 0), (41, 1, 2, 6, 0, 0), (43, 19, 1, 0, 0, 0), (44, 20, 1, 0, 0, 0), (45, 14, 3, 0, 138, 0), (48, 1, 2, 7, 0, 0), (50, 0, 1, 0, 0, 1), (51, 13, 3, 1, 63, 0), (54, 2, 2, 4, 0, 0), (56, 1, 2, 5, 0, 0), (58, 0, 1, 0, 0, (-1)), (59, 20, 1, 0, 0, 0), (60, 14, 3, 0, 138, 0), (63, 1, 2, 7, 0, 0), (65, 0, 1, 0, 0, 3), (66, 13, 3, 1, 77, 0), (69, 2, 2, 4, 0, 0), (71, 1, 2, 6, 0, 0), (73, 19, 1, 0, 0, 0), (74, 14, 3, 0, 82, 0), (77, 2, 2, 4, 0, 0), (79, 1, 2, 5, 0, 0), (81, 19, 1, 0, 0, 0), (82, 3, 2, 8, 0, 0), (84, 1, 2, 8, 0, 0), (86, 0, 1, 0, 0, (-1)), (87, 13, 3, 1, 92, 0), (90, 0, 1, 0, 0, 2), (91, 50, 1, 0, 0, 0), (92, 1, 2, 8, 0, 0), (94, 0, 1, 0, 0, 4), (95, 6, 1, 2, 0, 0), (96, 2, 1, 2, 0, 0), (97, 15, 3, 0, 3, 91), (100, 1, 1, 3, 0, 0), (101, 19, 1, 0, 0, 0), (102, 6, 1, 0, 0, 0), (103, 3, 2, 9, 0, 0)]
def ax_t50_1 : List (Nat × ax_R) := [(105, 1, 2, 7, 0, 0), (107, 0, 1, 0, 0, 3), (108, 13, 3, 1, 126, 0), (111, 2, 2, 4, 0, 0), (113, 1, 2, 5, 0, 0), (115, 2, 1, 0, 0, 0), (116, 15, 3, 4, 1, 15), (119, 1, 2, 9, 0, 0), (121, 19, 1, 0, 0, 0), (122, 20, 1, 0, 0, 0), (123, 14, 3, 0, 138, 0), (126, 2, 1, 0, 0, 0), (127, 15, 3, 4, 1, 15), (130, 1, 2, 9, 0, 0), (132, 2, 2, 4, 0, 0), (134, 1, 2, 6, 0, 0), (136, 19, 1, 0, 0, 0), (137, 20, 1, 0, 0, 0), (138, 2, 1, 1, 0, 0), (139, 1, 1, 3, 0, 0), (140, 0, 1, 0, 0, 1), (141, 6, 1, 0, 0, 0), (142, 17, 3, 2, 2, 66), (145, 0, 1, 0, 0, 0), (146, 50, 1, 0, 0, 0)]
def ax_t50 : List (Nat × ax_R) := ax_t50_0 ++ ax_t50_1
/-- MakerGuard$Machine.tell(I)I -/
def ax_t51 : List (Nat × ax_R) := [(0, 1, 1, 1, 0, 0), (1, 33, 39, 3, 0, 0), (40, 2, 1, 0, 0, 0), (41, 15, 3, 4, 7, 35), (44, 50, 1, 0, 0, 0), (45, 2, 1, 0, 0, 0), (46, 15, 3, 4, 8, 38), (49, 50, 1, 0, 0, 0), (50, 2, 1, 0, 0, 0), (51, 15, 3, 4, 3, 22), (54, 50, 1, 0, 0, 0), (55, 2, 1, 0, 0, 0), (56, 15, 3, 4, 3, 22), (59, 12, 3, 5, 72, 0), (62, 2, 1, 0, 0, 0), (63, 42, 3, 46, 1, 59), (66, 15, 3, 2, 1, 63), (69, 14, 3, 0, 73, 0), (72, 0, 1, 0, 0, (-1)), (73, 50, 1, 0, 0, 0), (74, 2, 1, 0, 0, 0), (75, 15, 3, 4, 3, 22), (78, 12, 3, 5, 91, 0), (81, 2, 1, 0, 0, 0), (82, 42, 3, 46, 1, 59), (85, 15, 3, 2, 2, 66), (88, 14, 3, 0, 92, 0), (91, 0, 1, 0, 0, (-1)), (92, 50, 1, 0, 0, 0), (93, 2, 1, 0, 0, 0), (94, 15, 3, 4, 4, 26), (97, 50, 1, 0, 0, 0), (98, 2, 1, 0, 0, 0), (99, 15, 3, 4, 9, 41), (102, 50, 1, 0, 0, 0)]
/-- MakerGuard$Program.<init>()V -/
def ax_t52 : List (Nat × ax_R) := [(0, 2, 1, 0, 0, 0), (1, 31, 3, 0, 0, 3), (4, 2, 1, 0, 0, 0), (5, 0, 2, 0, 0, 12), (7, 30, 3, 0, 0, 9), (10, 18, 3, 5, 0, 11), (13, 2, 1, 0, 0, 0), (14, 0, 2, 0, 0, 24), (16, 30, 3, 1, 0, 17), (19, 18, 3, 5, 1, 19), (22, 0, 1, 0, 0, 0), (23, 3, 1, 1, 0, 0), (24, 1, 1, 1, 0, 0), (25, 0, 2, 0, 0, 12), (27, 13, 3, 3, 49, 0), (30, 2, 1, 0, 0, 0), (31, 15, 3, 5, 0, 11), (34, 1, 1, 1, 0, 0), (35, 28, 3, 0, 0, 9), (38, 10, 1, 0, 0, 0), (39, 43, 3, 15, 1, 23), (42, 26, 1, 0, 0, 0), (43, 5, 3, 1, 0, 1), (46, 14, 3, 0, 24, 0), (49, 0, 1, 0, 0, 0), (50, 3, 1, 1, 0, 0), (51, 1, 1, 1, 0, 0), (52, 0, 2, 0, 0, 24), (54, 13, 3, 3, 76, 0), (57, 2, 1, 0, 0, 0), (58, 15, 3, 5, 1, 19), (61, 1, 1, 1, 0, 0), (62, 28, 3, 1, 0, 17), (65, 10, 1, 0, 0, 0), (66, 44, 3, 20, 1, 24), (69, 26, 1, 0, 0, 0), (70, 5, 3, 1, 0, 1), (73, 14, 3, 0, 51, 0), (76, 51, 1, 0, 0, 0)]
/-- MakerGuard$Program.fieldOf(II)LMakerGuard$Declaration; -/
def ax_t53 : List (Nat × ax_R) := [(0, 2, 1, 0, 0, 0), (1, 15, 3, 5, 1, 19), (4, 1, 1, 1, 0, 0), (5, 0, 1, 0, 0, 4), (6, 6, 1, 2, 0, 0), (7, 1, 1, 2, 0, 0), (8, 6, 1, 0, 0, 0), (9, 25, 1, 0, 0, 0), (10, 52, 1, 0, 0, 0)]
/-- MakerGuard$Program.functionBody(I)LMakerGuard$Body; -/
def ax_t54 : List (Nat × ax_R) := [(0, 2, 1, 0, 0, 0), (1, 15, 3, 5, 0, 11), (4, 0, 2, 0, 0, 6), (6, 1, 1, 1, 0, 0), (7, 6, 1, 0, 0, 0), (8, 25, 1, 0, 0, 0), (9, 52, 1, 0, 0, 0)]
/-- MakerGuard$Sight.<init>()V -/
def ax_t55 : List (Nat × ax_R) := [(0, 2, 1, 0, 0, 0), (1, 31, 3, 0, 0, 3), (4, 2, 1, 0, 0, 0), (5, 0, 2, 0, 0, 8), (7, 29, 2, 20, 0, 0), (9, 18, 3, 6, 0, 9), (12, 2, 1, 0, 0, 0), (13, 0, 2, 0, 0, 8), (15, 29, 2, 20, 0, 0), (17, 18, 3, 6, 1, 15), (20, 2, 1, 0, 0, 0), (21, 0, 2, 0, 0, 8), (23, 29, 2, 20, 0, 0), (25, 18, 3, 6, 2, 18), (28, 2, 1, 0, 0, 0), (29, 0, 1, 0, 0, 0), (30, 17, 3, 6, 3, 21), (33, 2, 1, 0, 0, 0), (34, 0, 1, 0, 0, 0), (35, 17, 3, 6, 4, 25), (38, 2, 1, 0, 0, 0), (39, 0, 1, 0, 0, 0), (40, 17, 3, 6, 5, 29), (43, 51, 1, 0, 0, 0)]
/-- MakerGuard$Sight.forget()V -/
def ax_t56 : List (Nat × ax_R) := [(0, 2, 1, 0, 0, 0), (1, 15, 3, 6, 0, 9), (4, 0, 2, 0, 0, (-2)), (6, 40, 3, 137, 2, 32), (9, 2, 1, 0, 0, 0), (10, 0, 1, 0, 0, 0), (11, 17, 3, 6, 3, 21), (14, 2, 1, 0, 0, 0), (15, 0, 1, 0, 0, 0), (16, 17, 3, 6, 4, 25), (19, 2, 1, 0, 0, 0), (20, 0, 1, 0, 0, 0), (21, 17, 3, 6, 5, 29), (24, 51, 1, 0, 0, 0)]
/-- MakerGuard$Sight.writeDeclared(ILMakerGuard$Declaration;)V -/
def ax_t57 : List (Nat × ax_R) := [(0, 2, 1, 0, 0, 0), (1, 1, 1, 1, 0, 0), (2, 2, 1, 2, 0, 0), (3, 15, 3, 1, 0, 44), (6, 2, 1, 2, 0, 0), (7, 15, 3, 1, 1, 49), (10, 12, 3, 0, 17, 0), (13, 0, 1, 0, 0, 1), (14, 14, 3, 0, 18, 0), (17, 0, 1, 0, 0, 0), (18, 2, 1, 2, 0, 0), (19, 15, 3, 1, 2, 52), (22, 42, 3, 58, 5, 55), (25, 51, 1, 0, 0, 0)]
/-- MakerGuard$Sight.write(IIII)V -/
def ax_t58 : List (Nat × ax_R) := [(0, 2, 1, 0, 0, 0), (1, 15, 3, 6, 0, 9), (4, 1, 1, 1, 0, 0), (5, 1, 1, 2, 0, 0), (6, 20, 1, 0, 0, 0), (7, 2, 1, 0, 0, 0), (8, 15, 3, 6, 1, 15), (11, 1, 1, 1, 0, 0), (12, 1, 1, 3, 0, 0), (13, 20, 1, 0, 0, 0), (14, 2, 1, 0, 0, 0), (15, 15, 3, 6, 2, 18), (18, 1, 1, 1, 0, 0), (19, 1, 2, 4, 0, 0), (21, 20, 1, 0, 0, 0), (22, 51, 1, 0, 0, 0)]
/-- MakerGuard$Sight.meet(LMakerGuard$Sight;)V -/
def ax_t59 : List (Nat × ax_R) := [(0, 2, 1, 0, 0, 0), (1, 15, 3, 6, 4, 25), (4, 12, 3, 1, 23, 0), (7, 2, 1, 0, 0, 0), (8, 2, 1, 1, 0, 0), (9, 42, 3, 60, 2, 67), (12, 2, 1, 0, 0, 0), (13, 0, 1, 0, 0, 1), (14, 17, 3, 6, 4, 25), (17, 2, 1, 0, 0, 0), (18, 0, 1, 0, 0, 1), (19, 17, 3, 6, 5, 29), (22, 51, 1, 0, 0, 0), (23, 0, 1, 0, 0, 0), (24, 3, 1, 2, 0, 0), (25, 1, 1, 2, 0, 0), (26, 0, 2, 0, 0, 8), (28, 13, 3, 3, 43, 0), (31, 2, 1, 0, 0, 0), (32, 1, 1, 2, 0, 0), (33, 2, 1, 1, 0, 0), (34, 42, 3, 61, 3, 71), (37, 5, 3, 2, 0, 1), (40, 14, 3, 0, 25, 0), (43, 2, 1, 0, 0, 0), (44, 15, 3, 6, 3, 21), (47, 2, 1, 1, 0, 0), (48, 15, 3, 6, 3, 21), (51, 6, 1, 3, 0, 0), (52, 3, 1, 2, 0, 0), (53, 1, 1, 2, 0, 0), (54, 2, 1, 0, 0, 0), (55, 15, 3, 6, 3, 21), (58, 13, 3, 0, 71, 0), (61, 2, 1, 0, 0, 0), (62, 1, 1, 2, 0, 0), (63, 17, 3, 6, 3, 21), (66, 2, 1, 0, 0, 0), (67, 0, 1, 0, 0, 1), (68, 17, 3, 6, 5, 29), (71, 51, 1, 0, 0, 0)]
/-- MakerGuard$Sight.take(LMakerGuard$Sight;)V -/
def ax_t60 : List (Nat × ax_R) := [(0, 2, 1, 1, 0, 0), (1, 15, 3, 6, 0, 9), (4, 0, 1, 0, 0, 0), (5, 2, 1, 0, 0, 0), (6, 15, 3, 6, 0, 9), (9, 0, 1, 0, 0, 0), (10, 0, 2, 0, 0, 8), (12, 32, 3, 0, 0, 38), (15, 2, 1, 1, 0, 0), (16, 15, 3, 6, 1, 15), (19, 0, 1, 0, 0, 0), (20, 2, 1, 0, 0, 0), (21, 15, 3, 6, 1, 15), (24, 0, 1, 0, 0, 0), (25, 0, 2, 0, 0, 8), (27, 32, 3, 0, 0, 38), (30, 2, 1, 1, 0, 0), (31, 15, 3, 6, 2, 18), (34, 0, 1, 0, 0, 0), (35, 2, 1, 0, 0, 0), (36, 15, 3, 6, 2, 18), (39, 0, 1, 0, 0, 0), (40, 0, 2, 0, 0, 8), (42, 32, 3, 0, 0, 38), (45, 2, 1, 0, 0, 0), (46, 2, 1, 1, 0, 0), (47, 15, 3, 6, 3, 21), (50, 17, 3, 6, 3, 21), (53, 51, 1, 0, 0, 0)]
/-- MakerGuard$Sight.meetLocal(ILMakerGuard$Sight;)V -/
def ax_t61_0 : List (Nat × ax_R) := [(0, 2, 1, 0, 0, 0), (1, 15, 3, 6, 0, 9), (4, 1, 1, 1, 0, 0), (5, 19, 1, 0, 0, 0), (6, 2, 1, 2, 0, 0), (7, 15, 3, 6, 0, 9), (10, 1, 1, 1, 0, 0), (11, 19, 1, 0, 0, 0), (12, 40, 3, 62, 2, 75), (15, 3, 1, 3, 0, 0), (16, 1, 1, 3, 0, 0), (17, 0, 2, 0, 0, (-2)), (19, 13, 3, 1, 55, 0), (22, 2, 1, 0, 0, 0), (23, 2, 1, 0, 0, 0), (24, 15, 3, 6, 5, 29), (27, 12, 3, 1, 38, 0), (30, 2, 1, 0, 0, 0), (31, 1, 1, 1, 0, 0), (32, 42, 3, 63, 2, 63), (35, 12, 3, 0, 42, 0), (38, 0, 1, 0, 0, 1), (39, 14, 3, 0, 43, 0), (42, 0, 1, 0, 0, 0), (43, 17, 3, 6, 5, 29), (46, 2, 1, 0, 0, 0), (47, 15, 3, 6, 0, 9), (50, 1, 1, 1, 0, 0), (51, 0, 2, 0, 0, (-2)), (53, 20, 1, 0, 0, 0), (54, 51, 1, 0, 0, 0), (55, 2, 1, 0, 0, 0), (56, 15, 3, 6, 1, 15), (59, 1, 1, 1, 0, 0), (60, 19, 1, 0, 0, 0), (61, 2, 1, 2, 0, 0), (62, 15, 3, 6, 1, 15), (65, 1, 1, 1, 0, 0), (66, 19, 1, 0, 0, 0), (67, 13, 3, 1, 79, 0), (70, 2, 1, 0, 0, 0), (71, 15, 3, 6, 1, 15), (74, 1, 1, 1, 0, 0), (75, 19, 1, 0, 0, 0), (76, 14, 3, 0, 80, 0), (79, 0, 1, 0, 0, 1), (80, 3, 2, 4, 0, 0), (82, 2, 1, 0, 0, 0), (83, 15, 3, 6, 2, 18), (86, 1, 1, 1, 0, 0), (87, 19, 1, 0, 0, 0), (88, 2, 1, 2, 0, 0), (89, 15, 3, 6, 2, 18), (92, 1, 1, 1, 0, 0), (93, 19, 1, 0, 0, 0), (94, 13, 3, 1, 106, 0), (97, 2, 1, 0, 0, 0), (98, 15, 3, 6, 2, 18), (101, 1, 1, 1, 0, 0), (102, 19, 1, 0, 0, 0)]
def ax_t61_1 : List (Nat × ax_R) := [(103, 14, 3, 0, 107, 0), (106, 0, 1, 0, 0, 2), (107, 3, 2, 5, 0, 0), (109, 1, 1, 3, 0, 0), (110, 2, 1, 0, 0, 0), (111, 15, 3, 6, 0, 9), (114, 1, 1, 1, 0, 0), (115, 19, 1, 0, 0, 0), (116, 13, 3, 1, 141, 0), (119, 1, 2, 4, 0, 0), (121, 2, 1, 0, 0, 0), (122, 15, 3, 6, 1, 15), (125, 1, 1, 1, 0, 0), (126, 19, 1, 0, 0, 0), (127, 13, 3, 1, 141, 0), (130, 1, 2, 5, 0, 0), (132, 2, 1, 0, 0, 0), (133, 15, 3, 6, 2, 18), (136, 1, 1, 1, 0, 0), (137, 19, 1, 0, 0, 0), (138, 13, 3, 0, 156, 0), (141, 2, 1, 0, 0, 0), (142, 1, 1, 1, 0, 0), (143, 1, 1, 3, 0, 0), (144, 1, 2, 4, 0, 0), (146, 1, 2, 5, 0, 0), (148, 42, 3, 58, 5, 55), (151, 2, 1, 0, 0, 0), (152, 0, 1, 0, 0, 1), (153, 17, 3, 6, 5, 29), (156, 51, 1, 0, 0, 0)]
def ax_t61 : List (Nat × ax_R) := ax_t61_0 ++ ax_t61_1
/-- MakerGuard$Sight.commonClass(II)I -/
def ax_t62 : List (Nat × ax_R) := [(0, 1, 1, 0, 0, 0), (1, 1, 1, 1, 0, 0), (2, 13, 3, 0, 10, 0), (5, 1, 1, 1, 0, 0), (6, 0, 1, 0, 0, (-1)), (7, 13, 3, 1, 12, 0), (10, 1, 1, 0, 0, 0), (11, 50, 1, 0, 0, 0), (12, 1, 1, 0, 0, 0), (13, 0, 1, 0, 0, (-1)), (14, 13, 3, 1, 21, 0), (17, 1, 1, 1, 0, 0), (18, 14, 3, 0, 23, 0), (21, 0, 2, 0, 0, (-2)), (23, 50, 1, 0, 0, 0)]
/-- MakerGuard$Sight.holdsSomething(I)Z -/
def ax_t63 : List (Nat × ax_R) := [(0, 2, 1, 0, 0, 0), (1, 15, 3, 6, 0, 9), (4, 1, 1, 1, 0, 0), (5, 19, 1, 0, 0, 0), (6, 0, 2, 0, 0, (-2)), (8, 13, 3, 0, 15, 0), (11, 0, 1, 0, 0, 1), (12, 14, 3, 0, 16, 0), (15, 0, 1, 0, 0, 0), (16, 50, 1, 0, 0, 0)]
/-- MakerGuard$Sight.fits(ILMakerGuard$Declaration;)Z -/
def ax_t64 : List (Nat × ax_R) := [(0, 2, 1, 0, 0, 0), (1, 15, 3, 6, 2, 18), (4, 1, 1, 1, 0, 0), (5, 19, 1, 0, 0, 0), (6, 2, 1, 2, 0, 0), (7, 15, 3, 1, 2, 52), (10, 13, 3, 0, 31, 0), (13, 2, 1, 2, 0, 0), (14, 15, 3, 1, 2, 52), (17, 0, 1, 0, 0, 2), (18, 13, 3, 0, 31, 0), (21, 2, 1, 0, 0, 0), (22, 15, 3, 6, 1, 15), (25, 1, 1, 1, 0, 0), (26, 19, 1, 0, 0, 0), (27, 0, 1, 0, 0, 2), (28, 13, 3, 1, 35, 0), (31, 0, 1, 0, 0, 1), (32, 14, 3, 0, 36, 0), (35, 0, 1, 0, 0, 0), (36, 3, 1, 3, 0, 0), (37, 2, 1, 0, 0, 0), (38, 1, 1, 1, 0, 0), (39, 2, 1, 2, 0, 0), (40, 42, 3, 65, 3, 59), (43, 12, 3, 0, 54, 0), (46, 1, 1, 3, 0, 0), (47, 12, 3, 0, 54, 0), (50, 0, 1, 0, 0, 1), (51, 14, 3, 0, 55, 0), (54, 0, 1, 0, 0, 0), (55, 50, 1, 0, 0, 0)]
/-- MakerGuard$Sight.fitsClassAndNull(ILMakerGuard$Declaration;)Z -/
def ax_t65 : List (Nat × ax_R) := [(0, 2, 1, 0, 0, 0), (1, 15, 3, 6, 0, 9), (4, 1, 1, 1, 0, 0), (5, 19, 1, 0, 0, 0), (6, 2, 1, 2, 0, 0), (7, 15, 3, 1, 0, 44), (10, 13, 3, 0, 23, 0), (13, 2, 1, 0, 0, 0), (14, 15, 3, 6, 0, 9), (17, 1, 1, 1, 0, 0), (18, 19, 1, 0, 0, 0), (19, 0, 1, 0, 0, (-1)), (20, 13, 3, 1, 27, 0), (23, 0, 1, 0, 0, 1), (24, 14, 3, 0, 28, 0), (27, 0, 1, 0, 0, 0), (28, 3, 1, 3, 0, 0), (29, 1, 1, 3, 0, 0), (30, 12, 3, 0, 53, 0), (33, 2, 1, 0, 0, 0), (34, 15, 3, 6, 1, 15), (37, 1, 1, 1, 0, 0), (38, 19, 1, 0, 0, 0), (39, 12, 3, 0, 49, 0), (42, 2, 1, 2, 0, 0), (43, 15, 3, 1, 1, 49), (46, 12, 3, 0, 53, 0), (49, 0, 1, 0, 0, 1), (50, 14, 3, 0, 54, 0), (53, 0, 1, 0, 0, 0), (54, 50, 1, 0, 0, 0)]
/-- MakerGuard$Sight.isDoneOrNull(I)Z -/
def ax_t66 : List (Nat × ax_R) := [(0, 2, 1, 0, 0, 0), (1, 15, 3, 6, 2, 18), (4, 1, 1, 1, 0, 0), (5, 19, 1, 0, 0, 0), (6, 12, 3, 0, 19, 0), (9, 2, 1, 0, 0, 0), (10, 15, 3, 6, 1, 15), (13, 1, 1, 1, 0, 0), (14, 19, 1, 0, 0, 0), (15, 0, 1, 0, 0, 2), (16, 13, 3, 1, 23, 0), (19, 0, 1, 0, 0, 1), (20, 14, 3, 0, 24, 0), (23, 0, 1, 0, 0, 0), (24, 50, 1, 0, 0, 0)]
/-- MakerGuard$Sight.holdsObject(I)Z -/
def ax_t67 : List (Nat × ax_R) := [(0, 2, 1, 0, 0, 0), (1, 15, 3, 6, 0, 9), (4, 1, 1, 1, 0, 0), (5, 19, 1, 0, 0, 0), (6, 12, 3, 2, 22, 0), (9, 2, 1, 0, 0, 0), (10, 15, 3, 6, 1, 15), (13, 1, 1, 1, 0, 0), (14, 19, 1, 0, 0, 0), (15, 12, 3, 1, 22, 0), (18, 0, 1, 0, 0, 1), (19, 14, 3, 0, 23, 0), (22, 0, 1, 0, 0, 0), (23, 50, 1, 0, 0, 0)]
/-- MakerGuard$Sight.tell(II)I -/
def ax_t68 : List (Nat × ax_R) := [(0, 2, 1, 0, 0, 0), (1, 1, 1, 1, 0, 0), (2, 42, 3, 63, 2, 63), (5, 12, 3, 1, 11, 0), (8, 0, 2, 0, 0, (-2)), (10, 50, 1, 0, 0, 0), (11, 1, 1, 2, 0, 0), (12, 12, 3, 1, 22, 0), (15, 2, 1, 0, 0, 0), (16, 15, 3, 6, 0, 9), (19, 1, 1, 1, 0, 0), (20, 19, 1, 0, 0, 0), (21, 50, 1, 0, 0, 0), (22, 1, 1, 2, 0, 0), (23, 0, 1, 0, 0, 1), (24, 13, 3, 1, 36, 0), (27, 2, 1, 0, 0, 0), (28, 15, 3, 6, 1, 15), (31, 1, 1, 1, 0, 0), (32, 19, 1, 0, 0, 0), (33, 14, 3, 0, 42, 0), (36, 2, 1, 0, 0, 0), (37, 15, 3, 6, 2, 18), (40, 1, 1, 1, 0, 0), (41, 19, 1, 0, 0, 0), (42, 50, 1, 0, 0, 0)]
/-- MakerGuard.<init>()V -/
def ax_t69 : List (Nat × ax_R) := [(0, 2, 1, 0, 0, 0), (1, 31, 3, 0, 0, 3), (4, 28, 3, 5, 0, 9), (7, 10, 1, 0, 0, 0), (8, 43, 3, 52, 1, 11), (11, 4, 1, 1, 0, 0), (12, 2, 1, 0, 0, 0), (13, 2, 1, 1, 0, 0), (14, 18, 3, 7, 0, 12), (17, 2, 1, 0, 0, 0), (18, 28, 3, 3, 0, 16), (21, 10, 1, 0, 0, 0), (22, 2, 1, 1, 0, 0), (23, 43, 3, 24, 2, 18), (26, 18, 3, 7, 1, 21), (29, 2, 1, 0, 0, 0), (30, 28, 3, 4, 0, 25), (33, 10, 1, 0, 0, 0), (34, 2, 1, 1, 0, 0), (35, 43, 3, 42, 2, 27), (38, 18, 3, 7, 2, 28), (41, 51, 1, 0, 0, 0)]
/-- MakerGuard.field(IIIZ)V -/
def ax_t70 : List (Nat × ax_R) := [(0, 1, 1, 1, 0, 0), (1, 0, 2, 0, 0, 6), (3, 40, 3, 71, 2, 32), (6, 12, 3, 0, 30, 0), (9, 1, 1, 2, 0, 0), (10, 0, 1, 0, 0, 4), (11, 40, 3, 71, 2, 32), (14, 12, 3, 0, 30, 0), (17, 1, 1, 3, 0, 0), (18, 0, 2, 0, 0, 6), (20, 40, 3, 71, 2, 32), (23, 12, 3, 0, 30, 0), (26, 0, 1, 0, 0, 1), (27, 14, 3, 0, 31, 0), (30, 0, 1, 0, 0, 0), (31, 40, 3, 72, 1, 36), (34, 2, 1, 0, 0, 0), (35, 15, 3, 7, 0, 12), (38, 1, 1, 1, 0, 0), (39, 1, 1, 2, 0, 0), (40, 42, 3, 53, 3, 40), (43, 1, 1, 3, 0, 0), (44, 1, 2, 4, 0, 0), (46, 0, 1, 0, 0, 0), (47, 42, 3, 21, 4, 44), (50, 2, 1, 0, 0, 0), (51, 42, 3, 73, 1, 50), (54, 51, 1, 0, 0, 0)]
/-- MakerGuard.isBelow(II)Z -/
def ax_t71 : List (Nat × ax_R) := [(0, 1, 1, 0, 0, 0), (1, 12, 3, 2, 13, 0), (4, 1, 1, 0, 0, 0), (5, 1, 1, 1, 0, 0), (6, 13, 3, 3, 13, 0), (9, 0, 1, 0, 0, 1), (10, 14, 3, 0, 14, 0), (13, 0, 1, 0, 0, 0), (14, 50, 1, 0, 0, 0)]
/-- MakerGuard.mustBeThere(Z)V -/
def ax_t72 : List (Nat × ax_R) := [(0, 1, 1, 0, 0, 0), (1, 12, 3, 1, 14, 0), (4, 53, 3, 0, 0, 160), (14, 51, 1, 0, 0, 0)]
/-- MakerGuard.forgetOldAnswers()V -/
def ax_t73 : List (Nat × ax_R) := [(0, 2, 1, 0, 0, 0), (1, 15, 3, 7, 1, 21), (4, 42, 3, 25, 1, 157), (7, 2, 1, 0, 0, 0), (8, 15, 3, 7, 2, 28), (11, 0, 1, 0, 0, 0), (12, 17, 3, 4, 2, 126), (15, 51, 1, 0, 0, 0)]
/-- MakerGuard.parameter(IIIZI)I -/
def ax_t74 : List (Nat × ax_R) := [(0, 1, 1, 1, 0, 0), (1, 0, 2, 0, 0, 12), (3, 40, 3, 71, 2, 32), (6, 12, 3, 0, 21, 0), (9, 1, 1, 2, 0, 0), (10, 0, 1, 0, 0, 3), (11, 40, 3, 71, 2, 32), (14, 12, 3, 0, 21, 0), (17, 0, 1, 0, 0, 1), (18, 14, 3, 0, 22, 0), (21, 0, 1, 0, 0, 0), (22, 40, 3, 72, 1, 36), (25, 1, 1, 3, 0, 0), (26, 0, 2, 0, 0, 6), (28, 40, 3, 71, 2, 32), (31, 12, 3, 0, 47, 0), (34, 1, 2, 5, 0, 0), (36, 0, 1, 0, 0, 3), (37, 40, 3, 71, 2, 32), (40, 12, 3, 0, 47, 0), (43, 0, 1, 0, 0, 1), (44, 14, 3, 0, 48, 0), (47, 0, 1, 0, 0, 0), (48, 40, 3, 72, 1, 36), (51, 2, 1, 0, 0, 0), (52, 15, 3, 7, 0, 12), (55, 15, 3, 5, 0, 53), (58, 1, 1, 1, 0, 0), (59, 25, 1, 0, 0, 0), (60, 4, 2, 6, 0, 0), (62, 1, 1, 2, 0, 0), (63, 2, 2, 6, 0, 0), (65, 15, 3, 0, 7, 57), (68, 13, 3, 4, 75, 0), (71, 0, 1, 0, 0, 1), (72, 14, 3, 0, 76, 0), (75, 0, 1, 0, 0, 0), (76, 40, 3, 75, 1, 63), (79, 2, 2, 6, 0, 0), (81, 1, 1, 2, 0, 0), (82, 1, 1, 3, 0, 0), (83, 1, 2, 4, 0, 0), (85, 1, 2, 5, 0, 0), (87, 42, 3, 16, 5, 66), (90, 2, 1, 0, 0, 0), (91, 42, 3, 73, 1, 50), (94, 2, 2, 6, 0, 0), (96, 15, 3, 0, 7, 57), (99, 50, 1, 0, 0, 0)]
/-- MakerGuard.mustBeReady(Z)V -/
def ax_t75 : List (Nat × ax_R) := [(0, 1, 1, 0, 0, 0), (1, 12, 3, 1, 14, 0), (4, 53, 3, 2, 0, 172), (14, 51, 1, 0, 0, 0)]
/-- MakerGuard.returns(IIZI)V -/
def ax_t76 : List (Nat × ax_R) := [(0, 1, 1, 1, 0, 0), (1, 0, 2, 0, 0, 6), (3, 40, 3, 71, 2, 32), (6, 12, 3, 0, 31, 0), (9, 1, 1, 2, 0, 0), (10, 0, 2, 0, 0, 6), (12, 40, 3, 71, 2, 32), (15, 12, 3, 0, 31, 0), (18, 1, 2, 4, 0, 0), (20, 0, 1, 0, 0, 3), (21, 40, 3, 71, 2, 32), (24, 12, 3, 0, 31, 0), (27, 0, 1, 0, 0, 1), (28, 14, 3, 0, 32, 0), (31, 0, 1, 0, 0, 0), (32, 40, 3, 72, 1, 36), (35, 2, 1, 0, 0, 0), (36, 15, 3, 7, 0, 12), (39, 1, 1, 1, 0, 0), (40, 42, 3, 54, 2, 70), (43, 15, 3, 0, 5, 74), (46, 1, 1, 2, 0, 0), (47, 1, 1, 3, 0, 0), (48, 1, 2, 4, 0, 0), (50, 42, 3, 21, 4, 44), (53, 2, 1, 0, 0, 0), (54, 42, 3, 73, 1, 50), (57, 51, 1, 0, 0, 0)]
/-- MakerGuard.add(IIIII)I -/
def ax_t77 : List (Nat × ax_R) := [(0, 1, 1, 1, 0, 0), (1, 0, 2, 0, 0, 12), (3, 40, 3, 71, 2, 32), (6, 40, 3, 72, 1, 36), (9, 1, 1, 2, 0, 0), (10, 0, 2, 0, 0, 9), (12, 40, 3, 71, 2, 32), (15, 40, 3, 78, 1, 78), (18, 1, 1, 2, 0, 0), (19, 1, 1, 3, 0, 0), (20, 1, 2, 4, 0, 0), (22, 1, 2, 5, 0, 0), (24, 40, 3, 79, 4, 81), (27, 40, 3, 72, 1, 36), (30, 2, 1, 0, 0, 0), (31, 15, 3, 7, 0, 12), (34, 15, 3, 5, 0, 53), (37, 1, 1, 1, 0, 0), (38, 25, 1, 0, 0, 0), (39, 4, 2, 6, 0, 0), (41, 2, 2, 6, 0, 0), (43, 15, 3, 0, 6, 85), (46, 0, 2, 0, 0, 40), (48, 13, 3, 3, 55, 0), (51, 0, 1, 0, 0, 1), (52, 14, 3, 0, 56, 0), (55, 0, 1, 0, 0, 0), (56, 40, 3, 75, 1, 63), (59, 2, 2, 6, 0, 0), (61, 1, 1, 2, 0, 0), (62, 1, 1, 3, 0, 0), (63, 1, 2, 4, 0, 0), (65, 1, 2, 5, 0, 0), (67, 42, 3, 17, 5, 88), (70, 2, 1, 0, 0, 0), (71, 42, 3, 73, 1, 50), (74, 2, 2, 6, 0, 0), (76, 15, 3, 0, 6, 85), (79, 50, 1, 0, 0, 0)]
/-- MakerGuard.mustBeKnown(Z)V -/
def ax_t78 : List (Nat × ax_R) := [(0, 1, 1, 0, 0, 0), (1, 12, 3, 1, 14, 0), (4, 53, 3, 1, 0, 167), (14, 51, 1, 0, 0, 0)]
/-- MakerGuard.hasRightNumbers(IIII)Z -/
def ax_t79 : List (Nat × ax_R) := [(0, 1, 1, 0, 0, 0), (1, 0, 2, 0, 0, 6), (3, 13, 3, 0, 17, 0), (6, 1, 1, 1, 0, 0), (7, 0, 2, 0, 0, 8), (9, 40, 3, 71, 2, 32), (12, 12, 3, 1, 17, 0), (15, 0, 1, 0, 0, 0), (16, 50, 1, 0, 0, 0), (17, 1, 1, 0, 0, 0), (18, 33, 46, 4, 0, 0), (64, 1, 1, 2, 0, 0), (65, 0, 2, 0, 0, 8), (67, 40, 3, 71, 2, 32), (70, 50, 1, 0, 0, 0), (71, 1, 1, 2, 0, 0), (72, 0, 2, 0, 0, 6), (74, 40, 3, 71, 2, 32), (77, 12, 3, 0, 93, 0), (80, 1, 1, 3, 0, 0), (81, 0, 2, 0, 0, 8), (83, 40, 3, 71, 2, 32), (86, 12, 3, 0, 93, 0), (89, 0, 1, 0, 0, 1), (90, 14, 3, 0, 94, 0), (93, 0, 1, 0, 0, 0), (94, 50, 1, 0, 0, 0), (95, 1, 1, 2, 0, 0), (96, 0, 2, 0, 0, 6), (98, 40, 3, 71, 2, 32), (101, 12, 3, 0, 117, 0), (104, 1, 1, 3, 0, 0), (105, 0, 2, 0, 0, 8), (107, 40, 3, 71, 2, 32), (110, 12, 3, 0, 117, 0), (113, 0, 1, 0, 0, 1), (114, 14, 3, 0, 118, 0), (117, 0, 1, 0, 0, 0), (118, 50, 1, 0, 0, 0), (119, 1, 1, 2, 0, 0), (120, 0, 2, 0, 0, 8), (122, 40, 3, 71, 2, 32), (125, 12, 3, 0, 140, 0), (128, 1, 1, 3, 0, 0), (129, 0, 1, 0, 0, 4), (130, 40, 3, 71, 2, 32), (133, 12, 3, 0, 140, 0), (136, 0, 1, 0, 0, 1), (137, 14, 3, 0, 141, 0), (140, 0, 1, 0, 0, 0), (141, 50, 1, 0, 0, 0), (142, 0, 1, 0, 0, 1), (143, 50, 1, 0, 0, 0)]
/-- MakerGuard.clear(I)I -/
def ax_t80 : List (Nat × ax_R) := [(0, 1, 1, 1, 0, 0), (1, 0, 2, 0, 0, 12), (3, 40, 3, 71, 2, 32), (6, 40, 3, 72, 1, 36), (9, 2, 1, 0, 0, 0), (10, 15, 3, 7, 0, 12), (13, 15, 3, 5, 0, 53), (16, 1, 1, 1, 0, 0), (17, 25, 1, 0, 0, 0), (18, 15, 3, 0, 6, 85), (21, 3, 1, 2, 0, 0), (22, 2, 1, 0, 0, 0), (23, 15, 3, 7, 0, 12), (26, 15, 3, 5, 0, 53), (29, 1, 1, 1, 0, 0), (30, 25, 1, 0, 0, 0), (31, 42, 3, 18, 1, 92), (34, 2, 1, 0, 0, 0), (35, 42, 3, 73, 1, 50), (38, 1, 1, 2, 0, 0), (39, 50, 1, 0, 0, 0)]
/-- MakerGuard.good(I)Z -/
def ax_t81 : List (Nat × ax_R) := [(0, 1, 1, 1, 0, 0), (1, 0, 2, 0, 0, 12), (3, 40, 3, 71, 2, 32), (6, 40, 3, 72, 1, 36), (9, 2, 1, 0, 0, 0), (10, 15, 3, 7, 1, 21), (13, 1, 1, 1, 0, 0), (14, 42, 3, 26, 2, 95), (17, 50, 1, 0, 0, 0)]
/-- MakerGuard.isMaker(I)Z -/
def ax_t82 : List (Nat × ax_R) := [(0, 1, 1, 0, 0, 0), (1, 0, 2, 0, 0, 6), (3, 13, 3, 3, 10, 0), (6, 0, 1, 0, 0, 1), (7, 14, 3, 0, 11, 0), (10, 0, 1, 0, 0, 0), (11, 50, 1, 0, 0, 0)]
/-- MakerGuard.holds(IIII)I -/
def ax_t83 : List (Nat × ax_R) := [(0, 1, 1, 1, 0, 0), (1, 0, 2, 0, 0, 12), (3, 40, 3, 71, 2, 32), (6, 12, 3, 0, 38, 0), (9, 2, 1, 0, 0, 0), (10, 15, 3, 7, 0, 12), (13, 15, 3, 5, 0, 53), (16, 1, 1, 1, 0, 0), (17, 25, 1, 0, 0, 0), (18, 1, 1, 2, 0, 0), (19, 42, 3, 19, 2, 99), (22, 12, 3, 0, 38, 0), (25, 1, 1, 3, 0, 0), (26, 0, 2, 0, 0, 8), (28, 40, 3, 71, 2, 32), (31, 12, 3, 0, 38, 0), (34, 0, 1, 0, 0, 1), (35, 14, 3, 0, 39, 0), (38, 0, 1, 0, 0, 0), (39, 40, 3, 72, 1, 36), (42, 1, 2, 4, 0, 0), (44, 0, 1, 0, 0, 3), (45, 40, 3, 71, 2, 32), (48, 40, 3, 78, 1, 78), (51, 2, 1, 0, 0, 0), (52, 15, 3, 7, 1, 21), (55, 1, 1, 1, 0, 0), (56, 42, 3, 26, 2, 95), (59, 40, 3, 75, 1, 63), (62, 2, 1, 0, 0, 0), (63, 15, 3, 7, 1, 21), (66, 1, 1, 1, 0, 0), (67, 1, 1, 2, 0, 0), (68, 42, 3, 41, 3, 102), (71, 4, 2, 5, 0, 0), (73, 2, 2, 5, 0, 0), (75, 15, 3, 6, 4, 106), (78, 12, 3, 0, 92, 0), (81, 2, 2, 5, 0, 0), (83, 1, 1, 3, 0, 0), (84, 1, 2, 4, 0, 0), (86, 42, 3, 68, 3, 112), (89, 14, 3, 0, 94, 0), (92, 0, 2, 0, 0, (-3)), (94, 50, 1, 0, 0, 0)]
/-- MakerGuard.fields(II)I -/
def ax_t84 : List (Nat × ax_R) := [(0, 1, 1, 1, 0, 0), (1, 0, 2, 0, 0, 12), (3, 40, 3, 71, 2, 32), (6, 12, 3, 0, 36, 0), (9, 1, 1, 1, 0, 0), (10, 40, 3, 82, 1, 116), (13, 12, 3, 0, 36, 0), (16, 2, 1, 0, 0, 0), (17, 15, 3, 7, 0, 12), (20, 15, 3, 5, 0, 53), (23, 1, 1, 1, 0, 0), (24, 25, 1, 0, 0, 0), (25, 1, 1, 2, 0, 0), (26, 42, 3, 19, 2, 99), (29, 12, 3, 0, 36, 0), (32, 0, 1, 0, 0, 1), (33, 14, 3, 0, 37, 0), (36, 0, 1, 0, 0, 0), (37, 40, 3, 72, 1, 36), (40, 2, 1, 0, 0, 0), (41, 15, 3, 7, 1, 21), (44, 1, 1, 1, 0, 0), (45, 42, 3, 26, 2, 95), (48, 40, 3, 75, 1, 63), (51, 2, 1, 0, 0, 0), (52, 15, 3, 7, 1, 21), (55, 1, 1, 1, 0, 0), (56, 1, 1, 2, 0, 0), (57, 42, 3, 41, 3, 102), (60, 4, 1, 3, 0, 0), (61, 2, 1, 3, 0, 0), (62, 15, 3, 6, 4, 106), (65, 12, 3, 0, 75, 0), (68, 2, 1, 3, 0, 0), (69, 15, 3, 6, 3, 119), (72, 14, 3, 0, 76, 0), (75, 0, 1, 0, 0, (-1)), (76, 50, 1, 0, 0, 0)]
/-- MakerGuard.start(I)V -/
def ax_t85 : List (Nat × ax_R) := [(0, 1, 1, 1, 0, 0), (1, 0, 2, 0, 0, 6), (3, 40, 3, 71, 2, 32), (6, 40, 3, 72, 1, 36), (9, 2, 1, 0, 0, 0), (10, 15, 3, 7, 0, 12), (13, 1, 1, 1, 0, 0), (14, 42, 3, 54, 2, 70), (17, 15, 3, 0, 7, 57), (20, 12, 3, 1, 27, 0), (23, 0, 1, 0, 0, 1), (24, 14, 3, 0, 28, 0), (27, 0, 1, 0, 0, 0), (28, 40, 3, 75, 1, 63), (31, 2, 1, 0, 0, 0), (32, 15, 3, 7, 2, 28), (35, 1, 1, 1, 0, 0), (36, 42, 3, 43, 2, 122), (39, 51, 1, 0, 0, 0)]
/-- MakerGuard.run(I)I -/
def ax_t86 : List (Nat × ax_R) := [(0, 1, 1, 1, 0, 0), (1, 12, 3, 2, 15, 0), (4, 1, 1, 1, 0, 0), (5, 0, 3, 0, 0, 1000), (8, 13, 3, 4, 15, 0), (11, 0, 1, 0, 0, 1), (12, 14, 3, 0, 16, 0), (15, 0, 1, 0, 0, 0), (16, 40, 3, 78, 1, 78), (19, 2, 1, 0, 0, 0), (20, 15, 3, 7, 2, 28), (23, 15, 3, 4, 2, 126), (26, 40, 3, 75, 1, 63), (29, 2, 1, 0, 0, 0), (30, 15, 3, 7, 2, 28), (33, 1, 1, 1, 0, 0), (34, 42, 3, 44, 2, 129), (37, 50, 1, 0, 0, 0)]
/-- MakerGuard.state(I)I -/
def ax_t87 : List (Nat × ax_R) := [(0, 1, 1, 1, 0, 0), (1, 0, 2, 0, 0, 7), (3, 40, 3, 71, 2, 32), (6, 40, 3, 78, 1, 78), (9, 2, 1, 0, 0, 0), (10, 15, 3, 7, 2, 28), (13, 15, 3, 4, 2, 126), (16, 40, 3, 75, 1, 63), (19, 2, 1, 0, 0, 0), (20, 15, 3, 7, 2, 28), (23, 1, 1, 1, 0, 0), (24, 42, 3, 51, 2, 133), (27, 50, 1, 0, 0, 0)]
/-- MakerGuard.local(I)I -/
def ax_t88 : List (Nat × ax_R) := [(0, 1, 1, 1, 0, 0), (1, 0, 2, 0, 0, 8), (3, 40, 3, 71, 2, 32), (6, 12, 3, 0, 33, 0), (9, 2, 1, 0, 0, 0), (10, 15, 3, 7, 2, 28), (13, 15, 3, 4, 2, 126), (16, 12, 3, 0, 33, 0), (19, 2, 1, 0, 0, 0), (20, 15, 3, 7, 2, 28), (23, 15, 3, 4, 3, 135), (26, 12, 3, 5, 33, 0), (29, 0, 1, 0, 0, 1), (30, 14, 3, 0, 34, 0), (33, 0, 1, 0, 0, 0), (34, 40, 3, 72, 1, 36), (37, 2, 1, 0, 0, 0), (38, 15, 3, 7, 2, 28), (41, 42, 3, 46, 1, 138), (44, 15, 3, 2, 0, 142), (47, 1, 1, 1, 0, 0), (48, 19, 1, 0, 0, 0), (49, 50, 1, 0, 0, 0)]
/-- MakerGuard.object(II)I -/
def ax_t89 : List (Nat × ax_R) := [(0, 2, 1, 0, 0, 0), (1, 15, 3, 7, 2, 28), (4, 15, 3, 4, 2, 126), (7, 12, 3, 0, 36, 0), (10, 1, 1, 1, 0, 0), (11, 2, 1, 0, 0, 0), (12, 15, 3, 7, 2, 28), (15, 15, 3, 4, 4, 148), (18, 40, 3, 71, 2, 32), (21, 12, 3, 0, 36, 0), (24, 1, 1, 2, 0, 0), (25, 0, 1, 0, 0, 5), (26, 40, 3, 71, 2, 32), (29, 12, 3, 0, 36, 0), (32, 0, 1, 0, 0, 1), (33, 14, 3, 0, 37, 0), (36, 0, 1, 0, 0, 0), (37, 40, 3, 72, 1, 36), (40, 1, 1, 2, 0, 0), (41, 0, 1, 0, 0, 4), (42, 13, 3, 1, 57, 0), (45, 2, 1, 0, 0, 0), (46, 15, 3, 7, 2, 28), (49, 15, 3, 4, 0, 151), (52, 1, 1, 1, 0, 0), (53, 19, 1, 0, 0, 0), (54, 14, 3, 0, 70, 0), (57, 2, 1, 0, 0, 0), (58, 15, 3, 7, 2, 28), (61, 15, 3, 4, 1, 154), (64, 1, 1, 1, 0, 0), (65, 0, 1, 0, 0, 4), (66, 6, 1, 2, 0, 0), (67, 1, 1, 2, 0, 0), (68, 6, 1, 0, 0, 0), (69, 19, 1, 0, 0, 0), (70, 50, 1, 0, 0, 0)]
/-- MakerGuard.count(I)I -/
def ax_t90 : List (Nat × ax_R) := [(0, 1, 1, 1, 0, 0), (1, 0, 1, 0, 0, 2), (2, 40, 3, 71, 2, 32), (5, 40, 3, 78, 1, 78), (8, 0, 1, 0, 0, 0), (9, 3, 1, 2, 0, 0), (10, 0, 1, 0, 0, 0), (11, 3, 1, 3, 0, 0), (12, 1, 1, 3, 0, 0), (13, 0, 2, 0, 0, 12), (15, 13, 3, 3, 60, 0), (18, 1, 1, 1, 0, 0), (19, 12, 3, 1, 40, 0), (22, 1, 1, 2, 0, 0), (23, 2, 1, 0, 0, 0), (24, 15, 3, 7, 0, 12), (27, 15, 3, 5, 0, 53), (30, 1, 1, 3, 0, 0), (31, 25, 1, 0, 0, 0), (32, 15, 3, 0, 6, 85), (35, 6, 1, 0, 0, 0), (36, 3, 1, 2, 0, 0), (37, 14, 3, 0, 54, 0), (40, 2, 1, 0, 0, 0), (41, 15, 3, 7, 1, 21), (44, 1, 1, 3, 0, 0), (45, 42, 3, 26, 2, 95), (48, 12, 3, 0, 54, 0), (51, 5, 3, 2, 0, 1), (54, 5, 3, 3, 0, 1), (57, 14, 3, 0, 12, 0), (60, 1, 1, 2, 0, 0), (61, 50, 1, 0, 0, 0)]
/-- MakerGuardModel.<init>()V -/
def ax_t91_0 : List (Nat × ax_R) := [(0, 2, 1, 0, 0, 0), (1, 31, 3, 0, 0, 1), (4, 2, 1, 0, 0, 0), (5, 0, 2, 0, 0, 24), (7, 29, 2, 20, 0, 0), (9, 18, 3, 8, 1, 7), (12, 2, 1, 0, 0, 0), (13, 0, 2, 0, 0, 24), (15, 29, 2, 21, 0, 0), (17, 18, 3, 8, 2, 13), (20, 2, 1, 0, 0, 0), (21, 0, 2, 0, 0, 12), (23, 29, 2, 20, 0, 0), (25, 18, 3, 8, 3, 17), (28, 2, 1, 0, 0, 0), (29, 0, 2, 0, 0, 36), (31, 29, 2, 20, 0, 0), (33, 18, 3, 8, 4, 20), (36, 2, 1, 0, 0, 0), (37, 0, 2, 0, 0, 36), (39, 29, 2, 21, 0, 0), (41, 18, 3, 8, 5, 23), (44, 2, 1, 0, 0, 0), (45, 0, 2, 0, 0, 36), (47, 29, 2, 20, 0, 0), (49, 18, 3, 8, 6, 26), (52, 2, 1, 0, 0, 0), (53, 0, 2, 0, 0, 6), (55, 29, 2, 20, 0, 0), (57, 18, 3, 8, 7, 29), (60, 2, 1, 0, 0, 0), (61, 0, 2, 0, 0, 6), (63, 29, 2, 21, 0, 0), (65, 18, 3, 8, 8, 32), (68, 2, 1, 0, 0, 0), (69, 0, 2, 0, 0, 6), (71, 29, 2, 20, 0, 0), (73, 18, 3, 8, 9, 35), (76, 2, 1, 0, 0, 0), (77, 0, 2, 0, 0, 12), (79, 29, 2, 20, 0, 0), (81, 18, 3, 8, 10, 38), (84, 2, 1, 0, 0, 0), (85, 0, 3, 0, 0, 480), (88, 29, 2, 20, 0, 0), (90, 18, 3, 8, 11, 41), (93, 2, 1, 0, 0, 0), (94, 0, 3, 0, 0, 480), (97, 29, 2, 20, 0, 0), (99, 18, 3, 8, 12, 44), (102, 2, 1, 0, 0, 0), (103, 0, 3, 0, 0, 480), (106, 29, 2, 20, 0, 0), (108, 18, 3, 8, 13, 47), (111, 2, 1, 0, 0, 0), (112, 0, 3, 0, 0, 480), (115, 29, 2, 20, 0, 0), (117, 18, 3, 8, 14, 50), (120, 2, 1, 0, 0, 0), (121, 0, 2, 0, 0, 40)]
def ax_t91_1 : List (Nat × ax_R) := [(123, 29, 2, 21, 0, 0), (125, 18, 3, 8, 15, 53), (128, 2, 1, 0, 0, 0), (129, 0, 3, 0, 0, 320), (132, 29, 2, 20, 0, 0), (134, 18, 3, 8, 16, 56), (137, 2, 1, 0, 0, 0), (138, 0, 3, 0, 0, 320), (141, 29, 2, 20, 0, 0), (143, 18, 3, 8, 17, 59), (146, 2, 1, 0, 0, 0), (147, 0, 3, 0, 0, 320), (150, 29, 2, 20, 0, 0), (152, 18, 3, 8, 18, 62), (155, 2, 1, 0, 0, 0), (156, 0, 2, 0, 0, 40), (158, 29, 2, 20, 0, 0), (160, 18, 3, 8, 19, 65), (163, 2, 1, 0, 0, 0), (164, 0, 2, 0, 0, 8), (166, 29, 2, 20, 0, 0), (168, 18, 3, 8, 22, 68), (171, 2, 1, 0, 0, 0), (172, 0, 2, 0, 0, 8), (174, 29, 2, 20, 0, 0), (176, 18, 3, 8, 23, 71), (179, 2, 1, 0, 0, 0), (180, 0, 2, 0, 0, 8), (182, 29, 2, 20, 0, 0), (184, 18, 3, 8, 24, 74), (187, 2, 1, 0, 0, 0), (188, 0, 2, 0, 0, 20), (190, 29, 2, 20, 0, 0), (192, 18, 3, 8, 28, 77), (195, 2, 1, 0, 0, 0), (196, 0, 2, 0, 0, 20), (198, 29, 2, 20, 0, 0), (200, 18, 3, 8, 29, 80), (203, 2, 1, 0, 0, 0), (204, 0, 3, 0, 0, 160), (207, 29, 2, 20, 0, 0), (209, 18, 3, 8, 30, 83), (212, 2, 1, 0, 0, 0), (213, 0, 2, 0, 0, 20), (215, 29, 2, 20, 0, 0), (217, 18, 3, 8, 31, 86), (220, 2, 1, 0, 0, 0), (221, 0, 2, 0, 0, 60), (223, 29, 2, 20, 0, 0), (225, 18, 3, 8, 36, 89), (228, 2, 1, 0, 0, 0), (229, 0, 3, 0, 0, 240), (232, 29, 2, 20, 0, 0), (234, 18, 3, 8, 37, 92), (237, 51, 1, 0, 0, 0)]
def ax_t91 : List (Nat × ax_R) := ax_t91_0 ++ ax_t91_1
/-- MakerGuardModel.thrown()I -/
def ax_t92 : List (Nat × ax_R) := [(0, 2, 1, 0, 0, 0), (1, 15, 3, 8, 0, 95), (4, 50, 1, 0, 0, 0)]
/-- MakerGuardModel.field(IIIZ)V -/
def ax_t93 : List (Nat × ax_R) := [(0, 2, 1, 0, 0, 0), (1, 1, 1, 1, 0, 0), (2, 40, 3, 94, 1, 99), (5, 12, 3, 0, 28, 0), (8, 1, 1, 2, 0, 0), (9, 0, 1, 0, 0, 0), (10, 0, 1, 0, 0, 3), (11, 40, 3, 95, 3, 103), (14, 12, 3, 0, 28, 0), (17, 1, 1, 3, 0, 0), (18, 40, 3, 94, 1, 99), (21, 12, 3, 0, 28, 0), (24, 0, 1, 0, 0, 1), (25, 14, 3, 0, 29, 0), (28, 0, 1, 0, 0, 0), (29, 0, 1, 0, 0, 1), (30, 0, 1, 0, 0, 1), (31, 42, 3, 96, 4, 107), (34, 12, 3, 0, 73, 0), (37, 2, 1, 0, 0, 0), (38, 15, 3, 8, 1, 7), (41, 0, 1, 0, 0, 4), (42, 1, 1, 1, 0, 0), (43, 6, 1, 2, 0, 0), (44, 1, 1, 2, 0, 0), (45, 6, 1, 0, 0, 0), (46, 1, 1, 3, 0, 0), (47, 20, 1, 0, 0, 0), (48, 2, 1, 0, 0, 0), (49, 15, 3, 8, 2, 13), (52, 0, 1, 0, 0, 4), (53, 1, 1, 1, 0, 0), (54, 6, 1, 2, 0, 0), (55, 1, 1, 2, 0, 0), (56, 6, 1, 0, 0, 0), (57, 1, 2, 4, 0, 0), (59, 12, 3, 1, 66, 0), (62, 0, 1, 0, 0, 1), (63, 14, 3, 0, 67, 0), (66, 0, 1, 0, 0, 0), (67, 22, 1, 0, 0, 0), (68, 2, 1, 0, 0, 0), (69, 0, 1, 0, 0, 0), (70, 17, 3, 8, 26, 111), (73, 51, 1, 0, 0, 0)]
/-- MakerGuardModel.isClass(I)Z -/
def ax_t94 : List (Nat × ax_R) := [(0, 1, 1, 0, 0, 0), (1, 12, 3, 2, 14, 0), (4, 1, 1, 0, 0, 0), (5, 0, 2, 0, 0, 6), (7, 13, 3, 3, 14, 0), (10, 0, 1, 0, 0, 1), (11, 14, 3, 0, 15, 0), (14, 0, 1, 0, 0, 0), (15, 50, 1, 0, 0, 0)]
/-- MakerGuardModel.within(III)Z -/
def ax_t95 : List (Nat × ax_R) := [(0, 1, 1, 0, 0, 0), (1, 1, 1, 1, 0, 0), (2, 13, 3, 2, 14, 0), (5, 1, 1, 0, 0, 0), (6, 1, 1, 2, 0, 0), (7, 13, 3, 4, 14, 0), (10, 0, 1, 0, 0, 1), (11, 14, 3, 0, 15, 0), (14, 0, 1, 0, 0, 0), (15, 50, 1, 0, 0, 0)]
/-- MakerGuardModel.goes(ZZZ)Z -/
def ax_t96 : List (Nat × ax_R) := [(0, 2, 1, 0, 0, 0), (1, 1, 1, 1, 0, 0), (2, 12, 3, 1, 9, 0), (5, 0, 1, 0, 0, 1), (6, 14, 3, 0, 26, 0), (9, 1, 1, 2, 0, 0), (10, 12, 3, 1, 17, 0), (13, 0, 1, 0, 0, 2), (14, 14, 3, 0, 26, 0), (17, 1, 1, 3, 0, 0), (18, 12, 3, 1, 25, 0), (21, 0, 1, 0, 0, 3), (22, 14, 3, 0, 26, 0), (25, 0, 1, 0, 0, 0), (26, 17, 3, 8, 0, 95), (29, 2, 1, 0, 0, 0), (30, 15, 3, 8, 0, 95), (33, 12, 3, 1, 40, 0), (36, 0, 1, 0, 0, 1), (37, 14, 3, 0, 41, 0), (40, 0, 1, 0, 0, 0), (41, 50, 1, 0, 0, 0)]
/-- MakerGuardModel.parameter(IIIZI)I -/
def ax_t97_0 : List (Nat × ax_R) := [(0, 1, 1, 1, 0, 0), (1, 40, 3, 98, 1, 115), (4, 12, 3, 0, 35, 0), (7, 1, 1, 2, 0, 0), (8, 0, 1, 0, 0, 0), (9, 0, 1, 0, 0, 2), (10, 40, 3, 95, 3, 103), (13, 12, 3, 0, 35, 0), (16, 1, 1, 3, 0, 0), (17, 40, 3, 94, 1, 99), (20, 12, 3, 0, 35, 0), (23, 1, 2, 5, 0, 0), (25, 40, 3, 99, 1, 118), (28, 12, 3, 0, 35, 0), (31, 0, 1, 0, 0, 1), (32, 14, 3, 0, 36, 0), (35, 0, 1, 0, 0, 0), (36, 3, 2, 6, 0, 0), (38, 2, 1, 0, 0, 0), (39, 1, 2, 6, 0, 0), (41, 1, 2, 6, 0, 0), (43, 12, 3, 0, 60, 0), (46, 1, 1, 2, 0, 0), (47, 2, 1, 0, 0, 0), (48, 15, 3, 8, 3, 17), (51, 1, 1, 1, 0, 0), (52, 19, 1, 0, 0, 0), (53, 13, 3, 4, 60, 0), (56, 0, 1, 0, 0, 1), (57, 14, 3, 0, 61, 0), (60, 0, 1, 0, 0, 0), (61, 0, 1, 0, 0, 1), (62, 42, 3, 96, 4, 107), (65, 12, 3, 1, 70, 0), (68, 0, 1, 0, 0, 0), (69, 50, 1, 0, 0, 0), (70, 2, 1, 0, 0, 0), (71, 15, 3, 8, 3, 17), (74, 1, 1, 1, 0, 0), (75, 1, 1, 2, 0, 0), (76, 2, 1, 0, 0, 0), (77, 15, 3, 8, 3, 17), (80, 1, 1, 1, 0, 0), (81, 19, 1, 0, 0, 0), (82, 13, 3, 1, 91, 0), (85, 1, 1, 2, 0, 0), (86, 0, 1, 0, 0, 1), (87, 6, 1, 0, 0, 0), (88, 14, 3, 0, 97, 0), (91, 2, 1, 0, 0, 0), (92, 15, 3, 8, 3, 17), (95, 1, 1, 1, 0, 0), (96, 19, 1, 0, 0, 0), (97, 20, 1, 0, 0, 0), (98, 2, 1, 0, 0, 0), (99, 15, 3, 8, 4, 20), (102, 0, 1, 0, 0, 3), (103, 1, 1, 1, 0, 0), (104, 6, 1, 2, 0, 0), (105, 1, 1, 2, 0, 0)]
def ax_t97_1 : List (Nat × ax_R) := [(106, 6, 1, 0, 0, 0), (107, 1, 1, 3, 0, 0), (108, 20, 1, 0, 0, 0), (109, 2, 1, 0, 0, 0), (110, 15, 3, 8, 5, 23), (113, 0, 1, 0, 0, 3), (114, 1, 1, 1, 0, 0), (115, 6, 1, 2, 0, 0), (116, 1, 1, 2, 0, 0), (117, 6, 1, 0, 0, 0), (118, 1, 2, 4, 0, 0), (120, 22, 1, 0, 0, 0), (121, 2, 1, 0, 0, 0), (122, 15, 3, 8, 6, 26), (125, 0, 1, 0, 0, 3), (126, 1, 1, 1, 0, 0), (127, 6, 1, 2, 0, 0), (128, 1, 1, 2, 0, 0), (129, 6, 1, 0, 0, 0), (130, 1, 2, 5, 0, 0), (132, 20, 1, 0, 0, 0), (133, 2, 1, 0, 0, 0), (134, 0, 1, 0, 0, 0), (135, 17, 3, 8, 26, 111), (138, 2, 1, 0, 0, 0), (139, 15, 3, 8, 3, 17), (142, 1, 1, 1, 0, 0), (143, 19, 1, 0, 0, 0), (144, 50, 1, 0, 0, 0)]
def ax_t97 : List (Nat × ax_R) := ax_t97_0 ++ ax_t97_1
/-- MakerGuardModel.isBody(I)Z -/
def ax_t98 : List (Nat × ax_R) := [(0, 1, 1, 0, 0, 0), (1, 12, 3, 2, 14, 0), (4, 1, 1, 0, 0, 0), (5, 0, 2, 0, 0, 12), (7, 13, 3, 3, 14, 0), (10, 0, 1, 0, 0, 1), (11, 14, 3, 0, 15, 0), (14, 0, 1, 0, 0, 0), (15, 50, 1, 0, 0, 0)]
/-- MakerGuardModel.isState(I)Z -/
def ax_t99 : List (Nat × ax_R) := [(0, 1, 1, 0, 0, 0), (1, 12, 3, 2, 13, 0), (4, 1, 1, 0, 0, 0), (5, 0, 1, 0, 0, 3), (6, 13, 3, 3, 13, 0), (9, 0, 1, 0, 0, 1), (10, 14, 3, 0, 14, 0), (13, 0, 1, 0, 0, 0), (14, 50, 1, 0, 0, 0)]
/-- MakerGuardModel.returns(IIZI)V -/
def ax_t100 : List (Nat × ax_R) := [(0, 2, 1, 0, 0, 0), (1, 1, 1, 1, 0, 0), (2, 0, 1, 0, 0, 0), (3, 0, 1, 0, 0, 5), (4, 40, 3, 95, 3, 103), (7, 12, 3, 0, 29, 0), (10, 1, 1, 2, 0, 0), (11, 40, 3, 94, 1, 99), (14, 12, 3, 0, 29, 0), (17, 1, 2, 4, 0, 0), (19, 40, 3, 99, 1, 118), (22, 12, 3, 0, 29, 0), (25, 0, 1, 0, 0, 1), (26, 14, 3, 0, 30, 0), (29, 0, 1, 0, 0, 0), (30, 0, 1, 0, 0, 1), (31, 0, 1, 0, 0, 1), (32, 42, 3, 96, 4, 107), (35, 12, 3, 0, 73, 0), (38, 2, 1, 0, 0, 0), (39, 15, 3, 8, 7, 29), (42, 1, 1, 1, 0, 0), (43, 1, 1, 2, 0, 0), (44, 20, 1, 0, 0, 0), (45, 2, 1, 0, 0, 0), (46, 15, 3, 8, 8, 32), (49, 1, 1, 1, 0, 0), (50, 1, 1, 3, 0, 0), (51, 12, 3, 1, 58, 0), (54, 0, 1, 0, 0, 1), (55, 14, 3, 0, 59, 0), (58, 0, 1, 0, 0, 0), (59, 22, 1, 0, 0, 0), (60, 2, 1, 0, 0, 0), (61, 15, 3, 8, 9, 35), (64, 1, 1, 1, 0, 0), (65, 1, 2, 4, 0, 0), (67, 20, 1, 0, 0, 0), (68, 2, 1, 0, 0, 0), (69, 0, 1, 0, 0, 0), (70, 17, 3, 8, 26, 111), (73, 51, 1, 0, 0, 0)]
/-- MakerGuardModel.add(IIIII)I -/
def ax_t101_0 : List (Nat × ax_R) := [(0, 1, 1, 2, 0, 0), (1, 0, 1, 0, 0, 0), (2, 0, 2, 0, 0, 8), (4, 40, 3, 95, 3, 103), (7, 3, 2, 6, 0, 0), (9, 1, 1, 1, 0, 0), (10, 40, 3, 98, 1, 115), (13, 12, 3, 0, 37, 0), (16, 1, 2, 6, 0, 0), (18, 12, 3, 0, 33, 0), (21, 1, 1, 2, 0, 0), (22, 1, 1, 3, 0, 0), (23, 1, 2, 4, 0, 0), (25, 1, 2, 5, 0, 0), (27, 40, 3, 102, 4, 124), (30, 12, 3, 0, 37, 0), (33, 0, 1, 0, 0, 1), (34, 14, 3, 0, 38, 0), (37, 0, 1, 0, 0, 0), (38, 3, 2, 7, 0, 0), (40, 2, 1, 0, 0, 0), (41, 1, 2, 7, 0, 0), (43, 1, 2, 6, 0, 0), (45, 1, 2, 7, 0, 0), (47, 12, 3, 0, 65, 0), (50, 2, 1, 0, 0, 0), (51, 15, 3, 8, 10, 38), (54, 1, 1, 1, 0, 0), (55, 19, 1, 0, 0, 0), (56, 0, 2, 0, 0, 40), (58, 13, 3, 3, 65, 0), (61, 0, 1, 0, 0, 1), (62, 14, 3, 0, 66, 0), (65, 0, 1, 0, 0, 0), (66, 42, 3, 96, 4, 107), (69, 12, 3, 1, 74, 0), (72, 0, 1, 0, 0, 0), (73, 50, 1, 0, 0, 0), (74, 0, 2, 0, 0, 40), (76, 1, 1, 1, 0, 0), (77, 6, 1, 2, 0, 0), (78, 2, 1, 0, 0, 0), (79, 15, 3, 8, 10, 38), (82, 1, 1, 1, 0, 0), (83, 19, 1, 0, 0, 0), (84, 6, 1, 0, 0, 0), (85, 3, 2, 8, 0, 0), (87, 2, 1, 0, 0, 0), (88, 15, 3, 8, 11, 41), (91, 1, 2, 8, 0, 0), (93, 1, 1, 2, 0, 0), (94, 20, 1, 0, 0, 0), (95, 2, 1, 0, 0, 0), (96, 15, 3, 8, 12, 44), (99, 1, 2, 8, 0, 0), (101, 1, 1, 3, 0, 0), (102, 20, 1, 0, 0, 0), (103, 2, 1, 0, 0, 0), (104, 15, 3, 8, 13, 47), (107, 1, 2, 8, 0, 0)]
def ax_t101_1 : List (Nat × ax_R) := [(109, 1, 2, 4, 0, 0), (111, 20, 1, 0, 0, 0), (112, 2, 1, 0, 0, 0), (113, 15, 3, 8, 14, 50), (116, 1, 2, 8, 0, 0), (118, 1, 2, 5, 0, 0), (120, 20, 1, 0, 0, 0), (121, 2, 1, 0, 0, 0), (122, 15, 3, 8, 10, 38), (125, 1, 1, 1, 0, 0), (126, 11, 1, 0, 0, 0), (127, 19, 1, 0, 0, 0), (128, 0, 1, 0, 0, 1), (129, 6, 1, 0, 0, 0), (130, 20, 1, 0, 0, 0), (131, 2, 1, 0, 0, 0), (132, 0, 1, 0, 0, 0), (133, 17, 3, 8, 26, 111), (136, 2, 1, 0, 0, 0), (137, 15, 3, 8, 10, 38), (140, 1, 1, 1, 0, 0), (141, 19, 1, 0, 0, 0), (142, 50, 1, 0, 0, 0)]
def ax_t101 : List (Nat × ax_R) := ax_t101_0 ++ ax_t101_1
/-- MakerGuardModel.isInstruction(IIII)Z -/
def ax_t102 : List (Nat × ax_R) := [(0, 1, 1, 0, 0, 0), (1, 0, 2, 0, 0, 6), (3, 13, 3, 0, 13, 0), (6, 1, 1, 1, 0, 0), (7, 40, 3, 103, 1, 121), (10, 12, 3, 0, 17, 0), (13, 0, 1, 0, 0, 1), (14, 14, 3, 0, 18, 0), (17, 0, 1, 0, 0, 0), (18, 3, 2, 4, 0, 0), (20, 1, 2, 4, 0, 0), (22, 12, 3, 0, 50, 0), (25, 1, 1, 0, 0, 0), (26, 12, 3, 0, 39, 0), (29, 1, 1, 0, 0, 0), (30, 0, 1, 0, 0, 3), (31, 13, 3, 0, 39, 0), (34, 1, 1, 0, 0, 0), (35, 0, 1, 0, 0, 4), (36, 13, 3, 1, 46, 0), (39, 1, 1, 2, 0, 0), (40, 40, 3, 103, 1, 121), (43, 12, 3, 0, 50, 0), (46, 0, 1, 0, 0, 1), (47, 14, 3, 0, 51, 0), (50, 0, 1, 0, 0, 0), (51, 3, 2, 4, 0, 0), (53, 1, 2, 4, 0, 0), (55, 12, 3, 0, 87, 0), (58, 1, 1, 0, 0, 0), (59, 0, 1, 0, 0, 2), (60, 13, 3, 0, 69, 0), (63, 1, 1, 0, 0, 0), (64, 0, 2, 0, 0, 7), (66, 13, 3, 1, 83, 0), (69, 1, 1, 2, 0, 0), (70, 40, 3, 94, 1, 99), (73, 12, 3, 0, 87, 0), (76, 1, 1, 3, 0, 0), (77, 40, 3, 103, 1, 121), (80, 12, 3, 0, 87, 0), (83, 0, 1, 0, 0, 1), (84, 14, 3, 0, 88, 0), (87, 0, 1, 0, 0, 0), (88, 3, 2, 4, 0, 0), (90, 1, 2, 4, 0, 0), (92, 12, 3, 0, 118, 0), (95, 1, 1, 0, 0, 0), (96, 0, 1, 0, 0, 3), (97, 13, 3, 0, 105, 0), (100, 1, 1, 0, 0, 0), (101, 0, 1, 0, 0, 4), (102, 13, 3, 1, 114, 0), (105, 1, 1, 3, 0, 0), (106, 0, 1, 0, 0, 0), (107, 0, 1, 0, 0, 3), (108, 40, 3, 95, 3, 103), (111, 12, 3, 0, 118, 0), (114, 0, 1, 0, 0, 1), (115, 14, 3, 0, 119, 0), (118, 0, 1, 0, 0, 0), (119, 50, 1, 0, 0, 0)]
/-- MakerGuardModel.isLocal(I)Z -/
def ax_t103 : List (Nat × ax_R) := [(0, 1, 1, 0, 0, 0), (1, 12, 3, 2, 14, 0), (4, 1, 1, 0, 0, 0), (5, 0, 2, 0, 0, 8), (7, 13, 3, 3, 14, 0), (10, 0, 1, 0, 0, 1), (11, 14, 3, 0, 15, 0), (14, 0, 1, 0, 0, 0), (15, 50, 1, 0, 0, 0)]
/-- MakerGuardModel.clear(I)I -/
def ax_t104 : List (Nat × ax_R) := [(0, 2, 1, 0, 0, 0), (1, 1, 1, 1, 0, 0), (2, 40, 3, 98, 1, 115), (5, 0, 1, 0, 0, 1), (6, 0, 1, 0, 0, 1), (7, 42, 3, 96, 4, 107), (10, 12, 3, 1, 15, 0), (13, 0, 1, 0, 0, 0), (14, 50, 1, 0, 0, 0), (15, 2, 1, 0, 0, 0), (16, 15, 3, 8, 10, 38), (19, 1, 1, 1, 0, 0), (20, 19, 1, 0, 0, 0), (21, 3, 1, 2, 0, 0), (22, 2, 1, 0, 0, 0), (23, 15, 3, 8, 10, 38), (26, 1, 1, 1, 0, 0), (27, 0, 1, 0, 0, 0), (28, 20, 1, 0, 0, 0), (29, 2, 1, 0, 0, 0), (30, 15, 3, 8, 3, 17), (33, 1, 1, 1, 0, 0), (34, 0, 1, 0, 0, 0), (35, 20, 1, 0, 0, 0), (36, 1, 1, 1, 0, 0), (37, 0, 1, 0, 0, 5), (38, 13, 3, 5, 71, 0), (41, 2, 1, 0, 0, 0), (42, 15, 3, 8, 7, 29), (45, 1, 1, 1, 0, 0), (46, 0, 2, 0, 0, 6), (48, 6, 1, 1, 0, 0), (49, 0, 1, 0, 0, 0), (50, 20, 1, 0, 0, 0), (51, 2, 1, 0, 0, 0), (52, 15, 3, 8, 8, 32), (55, 1, 1, 1, 0, 0), (56, 0, 2, 0, 0, 6), (58, 6, 1, 1, 0, 0), (59, 0, 1, 0, 0, 0), (60, 22, 1, 0, 0, 0), (61, 2, 1, 0, 0, 0), (62, 15, 3, 8, 9, 35), (65, 1, 1, 1, 0, 0), (66, 0, 2, 0, 0, 6), (68, 6, 1, 1, 0, 0), (69, 0, 1, 0, 0, 0), (70, 20, 1, 0, 0, 0), (71, 2, 1, 0, 0, 0), (72, 0, 1, 0, 0, 0), (73, 17, 3, 8, 26, 111), (76, 1, 1, 2, 0, 0), (77, 50, 1, 0, 0, 0)]
/-- MakerGuardModel.good(I)Z -/
def ax_t105 : List (Nat × ax_R) := [(0, 2, 1, 0, 0, 0), (1, 1, 1, 1, 0, 0), (2, 40, 3, 98, 1, 115), (5, 0, 1, 0, 0, 1), (6, 0, 1, 0, 0, 1), (7, 42, 3, 96, 4, 107), (10, 12, 3, 0, 25, 0), (13, 2, 1, 0, 0, 0), (14, 1, 1, 1, 0, 0), (15, 42, 3, 106, 2, 182), (18, 12, 3, 0, 25, 0), (21, 0, 1, 0, 0, 1), (22, 14, 3, 0, 26, 0), (25, 0, 1, 0, 0, 0), (26, 50, 1, 0, 0, 0)]
/-- MakerGuardModel.judge(I)Z -/
def ax_t106_0 : List (Nat × ax_R) := [(0, 0, 1, 0, 0, 0), (1, 3, 1, 2, 0, 0), (2, 1, 1, 2, 0, 0), (3, 0, 2, 0, 0, 40), (5, 13, 3, 3, 21, 0), (8, 2, 1, 0, 0, 0), (9, 15, 3, 8, 15, 53), (12, 1, 1, 2, 0, 0), (13, 0, 1, 0, 0, 0), (14, 22, 1, 0, 0, 0), (15, 5, 3, 2, 0, 1), (18, 14, 3, 0, 2, 0), (21, 0, 1, 0, 0, 0), (22, 3, 1, 2, 0, 0), (23, 1, 1, 2, 0, 0), (24, 0, 2, 0, 0, 8), (26, 13, 3, 3, 134, 0), (29, 1, 1, 2, 0, 0), (30, 2, 1, 0, 0, 0), (31, 15, 3, 8, 3, 17), (34, 1, 1, 1, 0, 0), (35, 19, 1, 0, 0, 0), (36, 13, 3, 3, 43, 0), (39, 0, 1, 0, 0, 1), (40, 14, 3, 0, 44, 0), (43, 0, 1, 0, 0, 0), (44, 3, 1, 3, 0, 0), (45, 0, 1, 0, 0, 3), (46, 1, 1, 1, 0, 0), (47, 6, 1, 2, 0, 0), (48, 1, 1, 3, 0, 0), (49, 12, 3, 0, 56, 0), (52, 1, 1, 2, 0, 0), (53, 14, 3, 0, 57, 0), (56, 0, 1, 0, 0, 0), (57, 6, 1, 0, 0, 0), (58, 3, 2, 4, 0, 0), (60, 2, 1, 0, 0, 0), (61, 15, 3, 8, 22, 68), (64, 1, 1, 2, 0, 0), (65, 1, 1, 3, 0, 0), (66, 12, 3, 0, 79, 0), (69, 2, 1, 0, 0, 0), (70, 15, 3, 8, 4, 20), (73, 1, 2, 4, 0, 0), (75, 19, 1, 0, 0, 0), (76, 14, 3, 0, 81, 0), (79, 0, 2, 0, 0, (-2)), (81, 20, 1, 0, 0, 0), (82, 2, 1, 0, 0, 0), (83, 15, 3, 8, 23, 71), (86, 1, 1, 2, 0, 0), (87, 1, 1, 3, 0, 0), (88, 12, 3, 0, 105, 0), (91, 2, 1, 0, 0, 0), (92, 15, 3, 8, 5, 23), (95, 1, 2, 4, 0, 0), (97, 21, 1, 0, 0, 0), (98, 12, 3, 0, 105, 0), (101, 0, 1, 0, 0, 1)]
def ax_t106_1 : List (Nat × ax_R) := [(102, 14, 3, 0, 106, 0), (105, 0, 1, 0, 0, 0), (106, 20, 1, 0, 0, 0), (107, 2, 1, 0, 0, 0), (108, 15, 3, 8, 24, 74), (111, 1, 1, 2, 0, 0), (112, 1, 1, 3, 0, 0), (113, 12, 3, 0, 126, 0), (116, 2, 1, 0, 0, 0), (117, 15, 3, 8, 6, 26), (120, 1, 2, 4, 0, 0), (122, 19, 1, 0, 0, 0), (123, 14, 3, 0, 127, 0), (126, 0, 1, 0, 0, 0), (127, 20, 1, 0, 0, 0), (128, 5, 3, 2, 0, 1), (131, 14, 3, 0, 23, 0), (134, 1, 1, 1, 0, 0), (135, 0, 2, 0, 0, 6), (137, 13, 3, 3, 164, 0), (140, 2, 1, 0, 0, 0), (141, 15, 3, 8, 22, 68), (144, 0, 2, 0, 0, 7), (146, 1, 1, 1, 0, 0), (147, 20, 1, 0, 0, 0), (148, 2, 1, 0, 0, 0), (149, 15, 3, 8, 23, 71), (152, 0, 2, 0, 0, 7), (154, 0, 1, 0, 0, 0), (155, 20, 1, 0, 0, 0), (156, 2, 1, 0, 0, 0), (157, 15, 3, 8, 24, 74), (160, 0, 2, 0, 0, 7), (162, 0, 1, 0, 0, 1), (163, 20, 1, 0, 0, 0), (164, 2, 1, 0, 0, 0), (165, 0, 1, 0, 0, 0), (166, 17, 3, 8, 25, 134), (169, 2, 1, 0, 0, 0), (170, 0, 1, 0, 0, 0), (171, 17, 3, 8, 20, 128), (174, 2, 1, 0, 0, 0), (175, 0, 1, 0, 0, 1), (176, 17, 3, 8, 21, 131), (179, 2, 1, 0, 0, 0), (180, 1, 1, 1, 0, 0), (181, 0, 1, 0, 0, 0), (182, 42, 3, 107, 3, 152), (185, 2, 1, 0, 0, 0), (186, 15, 3, 8, 21, 131), (189, 12, 3, 0, 247, 0), (192, 2, 1, 0, 0, 0), (193, 15, 3, 8, 20, 128), (196, 12, 3, 1, 247, 0), (199, 2, 1, 0, 0, 0), (200, 0, 1, 0, 0, 0), (201, 17, 3, 8, 21, 131), (204, 0, 1, 0, 0, 0), (205, 3, 1, 2, 0, 0), (206, 1, 1, 2, 0, 0)]
def ax_t106_2 : List (Nat × ax_R) := [(207, 2, 1, 0, 0, 0), (208, 15, 3, 8, 10, 38), (211, 1, 1, 1, 0, 0), (212, 19, 1, 0, 0, 0), (213, 13, 3, 3, 244, 0), (216, 2, 1, 0, 0, 0), (217, 15, 3, 8, 20, 128), (220, 12, 3, 1, 244, 0), (223, 2, 1, 0, 0, 0), (224, 15, 3, 8, 15, 53), (227, 1, 1, 2, 0, 0), (228, 21, 1, 0, 0, 0), (229, 12, 3, 0, 238, 0), (232, 2, 1, 0, 0, 0), (233, 1, 1, 1, 0, 0), (234, 1, 1, 2, 0, 0), (235, 42, 3, 109, 3, 179), (238, 5, 3, 2, 0, 1), (241, 14, 3, 0, 206, 0), (244, 14, 3, 0, 185, 0), (247, 2, 1, 0, 0, 0), (248, 15, 3, 8, 20, 128), (251, 12, 3, 1, 258, 0), (254, 0, 1, 0, 0, 1), (255, 14, 3, 0, 259, 0), (258, 0, 1, 0, 0, 0), (259, 50, 1, 0, 0, 0)]
def ax_t106 : List (Nat × ax_R) := ax_t106_0 ++ (ax_t106_1 ++ ax_t106_2)
/-- MakerGuardModel.come(II)V -/
def ax_t107_0 : List (Nat × ax_R) := [(0, 1, 1, 2, 0, 0), (1, 12, 3, 2, 14, 0), (4, 1, 1, 2, 0, 0), (5, 2, 1, 0, 0, 0), (6, 15, 3, 8, 10, 38), (9, 1, 1, 1, 0, 0), (10, 19, 1, 0, 0, 0), (11, 13, 3, 2, 20, 0), (14, 2, 1, 0, 0, 0), (15, 0, 1, 0, 0, 1), (16, 17, 3, 8, 20, 128), (19, 51, 1, 0, 0, 0), (20, 2, 1, 0, 0, 0), (21, 15, 3, 8, 15, 53), (24, 1, 1, 2, 0, 0), (25, 21, 1, 0, 0, 0), (26, 12, 3, 1, 117, 0), (29, 2, 1, 0, 0, 0), (30, 15, 3, 8, 15, 53), (33, 1, 1, 2, 0, 0), (34, 0, 1, 0, 0, 1), (35, 22, 1, 0, 0, 0), (36, 2, 1, 0, 0, 0), (37, 0, 1, 0, 0, 1), (38, 17, 3, 8, 21, 131), (41, 2, 1, 0, 0, 0), (42, 15, 3, 8, 19, 65), (45, 1, 1, 2, 0, 0), (46, 2, 1, 0, 0, 0), (47, 15, 3, 8, 25, 134), (50, 20, 1, 0, 0, 0), (51, 0, 1, 0, 0, 0), (52, 3, 1, 3, 0, 0), (53, 1, 1, 3, 0, 0), (54, 0, 2, 0, 0, 8), (56, 13, 3, 3, 116, 0), (59, 2, 1, 0, 0, 0), (60, 15, 3, 8, 16, 56), (63, 0, 2, 0, 0, 8), (65, 1, 1, 2, 0, 0), (66, 6, 1, 2, 0, 0), (67, 1, 1, 3, 0, 0), (68, 6, 1, 0, 0, 0), (69, 2, 1, 0, 0, 0), (70, 15, 3, 8, 22, 68), (73, 1, 1, 3, 0, 0), (74, 19, 1, 0, 0, 0), (75, 20, 1, 0, 0, 0), (76, 2, 1, 0, 0, 0), (77, 15, 3, 8, 17, 59), (80, 0, 2, 0, 0, 8), (82, 1, 1, 2, 0, 0), (83, 6, 1, 2, 0, 0), (84, 1, 1, 3, 0, 0), (85, 6, 1, 0, 0, 0), (86, 2, 1, 0, 0, 0), (87, 15, 3, 8, 23, 71), (90, 1, 1, 3, 0, 0), (91, 19, 1, 0, 0, 0), (92, 20, 1, 0, 0, 0)]
def ax_t107_1 : List (Nat × ax_R) := [(93, 2, 1, 0, 0, 0), (94, 15, 3, 8, 18, 62), (97, 0, 2, 0, 0, 8), (99, 1, 1, 2, 0, 0), (100, 6, 1, 2, 0, 0), (101, 1, 1, 3, 0, 0), (102, 6, 1, 0, 0, 0), (103, 2, 1, 0, 0, 0), (104, 15, 3, 8, 24, 74), (107, 1, 1, 3, 0, 0), (108, 19, 1, 0, 0, 0), (109, 20, 1, 0, 0, 0), (110, 5, 3, 3, 0, 1), (113, 14, 3, 0, 53, 0), (116, 51, 1, 0, 0, 0), (117, 2, 1, 0, 0, 0), (118, 2, 1, 0, 0, 0), (119, 15, 3, 8, 21, 131), (122, 12, 3, 1, 141, 0), (125, 2, 1, 0, 0, 0), (126, 15, 3, 8, 19, 65), (129, 1, 1, 2, 0, 0), (130, 19, 1, 0, 0, 0), (131, 2, 1, 0, 0, 0), (132, 15, 3, 8, 25, 134), (135, 0, 1, 0, 0, (-1)), (136, 6, 1, 5, 0, 0), (137, 6, 1, 3, 0, 0), (138, 12, 3, 0, 145, 0), (141, 0, 1, 0, 0, 1), (142, 14, 3, 0, 146, 0), (145, 0, 1, 0, 0, 0), (146, 17, 3, 8, 21, 131), (149, 2, 1, 0, 0, 0), (150, 15, 3, 8, 19, 65), (153, 1, 1, 2, 0, 0), (154, 2, 1, 0, 0, 0), (155, 15, 3, 8, 19, 65), (158, 1, 1, 2, 0, 0), (159, 19, 1, 0, 0, 0), (160, 2, 1, 0, 0, 0), (161, 15, 3, 8, 25, 134), (164, 6, 1, 3, 0, 0), (165, 20, 1, 0, 0, 0), (166, 0, 1, 0, 0, 0), (167, 3, 1, 3, 0, 0), (168, 1, 1, 3, 0, 0), (169, 0, 2, 0, 0, 8), (171, 13, 3, 3, 191, 0), (174, 2, 1, 0, 0, 0), (175, 0, 2, 0, 0, 8), (177, 1, 1, 2, 0, 0), (178, 6, 1, 2, 0, 0), (179, 1, 1, 3, 0, 0), (180, 6, 1, 0, 0, 0), (181, 1, 1, 3, 0, 0), (182, 42, 3, 108, 3, 137), (185, 5, 3, 3, 0, 1), (188, 14, 3, 0, 168, 0), (191, 51, 1, 0, 0, 0)]
def ax_t107 : List (Nat × ax_R) := ax_t107_0 ++ ax_t107_1
/-- MakerGuardModel.meet(II)V -/
def ax_t108_0 : List (Nat × ax_R) := [(0, 2, 1, 0, 0, 0), (1, 15, 3, 8, 16, 56), (4, 1, 1, 1, 0, 0), (5, 19, 1, 0, 0, 0), (6, 0, 2, 0, 0, (-2)), (8, 13, 3, 1, 12, 0), (11, 51, 1, 0, 0, 0), (12, 2, 1, 0, 0, 0), (13, 15, 3, 8, 16, 56), (16, 1, 1, 1, 0, 0), (17, 19, 1, 0, 0, 0), (18, 2, 1, 0, 0, 0), (19, 15, 3, 8, 22, 68), (22, 1, 1, 2, 0, 0), (23, 19, 1, 0, 0, 0), (24, 13, 3, 0, 37, 0), (27, 2, 1, 0, 0, 0), (28, 15, 3, 8, 22, 68), (31, 1, 1, 2, 0, 0), (32, 19, 1, 0, 0, 0), (33, 0, 1, 0, 0, (-1)), (34, 13, 3, 1, 46, 0), (37, 2, 1, 0, 0, 0), (38, 15, 3, 8, 16, 56), (41, 1, 1, 1, 0, 0), (42, 19, 1, 0, 0, 0), (43, 14, 3, 0, 67, 0), (46, 2, 1, 0, 0, 0), (47, 15, 3, 8, 16, 56), (50, 1, 1, 1, 0, 0), (51, 19, 1, 0, 0, 0), (52, 0, 1, 0, 0, (-1)), (53, 13, 3, 1, 65, 0), (56, 2, 1, 0, 0, 0), (57, 15, 3, 8, 22, 68), (60, 1, 1, 2, 0, 0), (61, 19, 1, 0, 0, 0), (62, 14, 3, 0, 67, 0), (65, 0, 2, 0, 0, (-2)), (67, 3, 1, 3, 0, 0), (68, 2, 1, 0, 0, 0), (69, 15, 3, 8, 22, 68), (72, 1, 1, 2, 0, 0), (73, 19, 1, 0, 0, 0), (74, 0, 2, 0, 0, (-2)), (76, 13, 3, 1, 84, 0), (79, 0, 2, 0, 0, (-2)), (81, 14, 3, 0, 85, 0), (84, 1, 1, 3, 0, 0), (85, 3, 1, 3, 0, 0), (86, 2, 1, 0, 0, 0), (87, 15, 3, 8, 17, 59), (90, 1, 1, 1, 0, 0), (91, 19, 1, 0, 0, 0), (92, 2, 1, 0, 0, 0), (93, 15, 3, 8, 23, 71), (96, 1, 1, 2, 0, 0), (97, 19, 1, 0, 0, 0), (98, 13, 3, 1, 110, 0), (101, 2, 1, 0, 0, 0)]
def ax_t108_1 : List (Nat × ax_R) := [(102, 15, 3, 8, 17, 59), (105, 1, 1, 1, 0, 0), (106, 19, 1, 0, 0, 0), (107, 14, 3, 0, 111, 0), (110, 0, 1, 0, 0, 1), (111, 3, 2, 4, 0, 0), (113, 2, 1, 0, 0, 0), (114, 15, 3, 8, 18, 62), (117, 1, 1, 1, 0, 0), (118, 19, 1, 0, 0, 0), (119, 2, 1, 0, 0, 0), (120, 15, 3, 8, 24, 74), (123, 1, 1, 2, 0, 0), (124, 19, 1, 0, 0, 0), (125, 13, 3, 1, 137, 0), (128, 2, 1, 0, 0, 0), (129, 15, 3, 8, 18, 62), (132, 1, 1, 1, 0, 0), (133, 19, 1, 0, 0, 0), (134, 14, 3, 0, 138, 0), (137, 0, 1, 0, 0, 2), (138, 3, 2, 5, 0, 0), (140, 1, 1, 3, 0, 0), (141, 2, 1, 0, 0, 0), (142, 15, 3, 8, 16, 56), (145, 1, 1, 1, 0, 0), (146, 19, 1, 0, 0, 0), (147, 13, 3, 1, 178, 0), (150, 1, 1, 3, 0, 0), (151, 0, 2, 0, 0, (-2)), (153, 13, 3, 0, 182, 0), (156, 1, 2, 4, 0, 0), (158, 2, 1, 0, 0, 0), (159, 15, 3, 8, 17, 59), (162, 1, 1, 1, 0, 0), (163, 19, 1, 0, 0, 0), (164, 13, 3, 1, 178, 0), (167, 1, 2, 5, 0, 0), (169, 2, 1, 0, 0, 0), (170, 15, 3, 8, 18, 62), (173, 1, 1, 1, 0, 0), (174, 19, 1, 0, 0, 0), (175, 13, 3, 0, 182, 0), (178, 0, 1, 0, 0, 1), (179, 14, 3, 0, 183, 0), (182, 0, 1, 0, 0, 0), (183, 3, 2, 6, 0, 0), (185, 2, 1, 0, 0, 0), (186, 2, 1, 0, 0, 0), (187, 15, 3, 8, 21, 131), (190, 12, 3, 1, 198, 0), (193, 1, 2, 6, 0, 0), (195, 12, 3, 0, 202, 0), (198, 0, 1, 0, 0, 1), (199, 14, 3, 0, 203, 0), (202, 0, 1, 0, 0, 0), (203, 17, 3, 8, 21, 131), (206, 2, 1, 0, 0, 0), (207, 15, 3, 8, 16, 56), (210, 1, 1, 1, 0, 0)]
def ax_t108_2 : List (Nat × ax_R) := [(211, 1, 1, 3, 0, 0), (212, 20, 1, 0, 0, 0), (213, 2, 1, 0, 0, 0), (214, 15, 3, 8, 17, 59), (217, 1, 1, 1, 0, 0), (218, 1, 2, 4, 0, 0), (220, 20, 1, 0, 0, 0), (221, 2, 1, 0, 0, 0), (222, 15, 3, 8, 18, 62), (225, 1, 1, 1, 0, 0), (226, 1, 2, 5, 0, 0), (228, 20, 1, 0, 0, 0), (229, 51, 1, 0, 0, 0)]
def ax_t108 : List (Nat × ax_R) := ax_t108_0 ++ (ax_t108_1 ++ ax_t108_2)
/-- MakerGuardModel.look(II)V -/
def ax_t109_0 : List (Nat × ax_R) := [(0, 0, 1, 0, 0, 0), (1, 3, 1, 3, 0, 0), (2, 1, 1, 3, 0, 0), (3, 0, 2, 0, 0, 8), (5, 13, 3, 3, 65, 0), (8, 2, 1, 0, 0, 0), (9, 15, 3, 8, 22, 68), (12, 1, 1, 3, 0, 0), (13, 2, 1, 0, 0, 0), (14, 15, 3, 8, 16, 56), (17, 0, 2, 0, 0, 8), (19, 1, 1, 2, 0, 0), (20, 6, 1, 2, 0, 0), (21, 1, 1, 3, 0, 0), (22, 6, 1, 0, 0, 0), (23, 19, 1, 0, 0, 0), (24, 20, 1, 0, 0, 0), (25, 2, 1, 0, 0, 0), (26, 15, 3, 8, 23, 71), (29, 1, 1, 3, 0, 0), (30, 2, 1, 0, 0, 0), (31, 15, 3, 8, 17, 59), (34, 0, 2, 0, 0, 8), (36, 1, 1, 2, 0, 0), (37, 6, 1, 2, 0, 0), (38, 1, 1, 3, 0, 0), (39, 6, 1, 0, 0, 0), (40, 19, 1, 0, 0, 0), (41, 20, 1, 0, 0, 0), (42, 2, 1, 0, 0, 0), (43, 15, 3, 8, 24, 74), (46, 1, 1, 3, 0, 0), (47, 2, 1, 0, 0, 0), (48, 15, 3, 8, 18, 62), (51, 0, 2, 0, 0, 8), (53, 1, 1, 2, 0, 0), (54, 6, 1, 2, 0, 0), (55, 1, 1, 3, 0, 0), (56, 6, 1, 0, 0, 0), (57, 19, 1, 0, 0, 0), (58, 20, 1, 0, 0, 0), (59, 5, 3, 3, 0, 1), (62, 14, 3, 0, 2, 0), (65, 2, 1, 0, 0, 0), (66, 2, 1, 0, 0, 0), (67, 15, 3, 8, 19, 65), (70, 1, 1, 2, 0, 0), (71, 19, 1, 0, 0, 0), (72, 17, 3, 8, 25, 134), (75, 0, 2, 0, 0, 40), (77, 1, 1, 1, 0, 0), (78, 6, 1, 2, 0, 0), (79, 1, 1, 2, 0, 0), (80, 6, 1, 0, 0, 0), (81, 3, 1, 3, 0, 0), (82, 2, 1, 0, 0, 0), (83, 15, 3, 8, 11, 41), (86, 1, 1, 3, 0, 0), (87, 19, 1, 0, 0, 0), (88, 0, 1, 0, 0, 5)]
def ax_t109_1 : List (Nat × ax_R) := [(89, 13, 3, 1, 111, 0), (92, 2, 1, 0, 0, 0), (93, 1, 1, 1, 0, 0), (94, 1, 1, 2, 0, 0), (95, 2, 1, 0, 0, 0), (96, 15, 3, 8, 12, 44), (99, 1, 1, 3, 0, 0), (100, 19, 1, 0, 0, 0), (101, 2, 1, 0, 0, 0), (102, 15, 3, 8, 13, 47), (105, 1, 1, 3, 0, 0), (106, 19, 1, 0, 0, 0), (107, 42, 3, 110, 5, 173), (110, 51, 1, 0, 0, 0), (111, 2, 1, 0, 0, 0), (112, 1, 1, 1, 0, 0), (113, 2, 1, 0, 0, 0), (114, 15, 3, 8, 11, 41), (117, 1, 1, 3, 0, 0), (118, 19, 1, 0, 0, 0), (119, 2, 1, 0, 0, 0), (120, 15, 3, 8, 12, 44), (123, 1, 1, 3, 0, 0), (124, 19, 1, 0, 0, 0), (125, 2, 1, 0, 0, 0), (126, 15, 3, 8, 13, 47), (129, 1, 1, 3, 0, 0), (130, 19, 1, 0, 0, 0), (131, 2, 1, 0, 0, 0), (132, 15, 3, 8, 14, 50), (135, 1, 1, 3, 0, 0), (136, 19, 1, 0, 0, 0), (137, 42, 3, 112, 6, 176), (140, 2, 1, 0, 0, 0), (141, 15, 3, 8, 20, 128), (144, 12, 3, 1, 186, 0), (147, 2, 1, 0, 0, 0), (148, 15, 3, 8, 11, 41), (151, 1, 1, 3, 0, 0), (152, 19, 1, 0, 0, 0), (153, 0, 2, 0, 0, 8), (155, 13, 3, 0, 186, 0), (158, 2, 1, 0, 0, 0), (159, 1, 1, 1, 0, 0), (160, 2, 1, 0, 0, 0), (161, 15, 3, 8, 11, 41), (164, 1, 1, 3, 0, 0), (165, 19, 1, 0, 0, 0), (166, 0, 2, 0, 0, 6), (168, 13, 3, 1, 180, 0), (171, 2, 1, 0, 0, 0), (172, 15, 3, 8, 13, 47), (175, 1, 1, 3, 0, 0), (176, 19, 1, 0, 0, 0), (177, 14, 3, 0, 183, 0), (180, 1, 1, 2, 0, 0), (181, 0, 1, 0, 0, 1), (182, 6, 1, 0, 0, 0), (183, 42, 3, 107, 3, 152), (186, 51, 1, 0, 0, 0)]
def ax_t109 : List (Nat × ax_R) := ax_t109_0 ++ ax_t109_1
/-- MakerGuardModel.choose(IIII)V -/
def ax_t110 : List (Nat × ax_R) := [(0, 2, 1, 0, 0, 0), (1, 1, 1, 3, 0, 0), (2, 42, 3, 111, 2, 141), (5, 12, 3, 0, 36, 0), (8, 1, 2, 4, 0, 0), (10, 12, 3, 2, 36, 0), (13, 1, 2, 4, 0, 0), (15, 2, 1, 0, 0, 0), (16, 15, 3, 8, 10, 38), (19, 1, 1, 1, 0, 0), (20, 19, 1, 0, 0, 0), (21, 13, 3, 3, 36, 0), (24, 1, 1, 2, 0, 0), (25, 0, 1, 0, 0, 1), (26, 6, 1, 0, 0, 0), (27, 2, 1, 0, 0, 0), (28, 15, 3, 8, 10, 38), (31, 1, 1, 1, 0, 0), (32, 19, 1, 0, 0, 0), (33, 13, 3, 2, 42, 0), (36, 2, 1, 0, 0, 0), (37, 0, 1, 0, 0, 1), (38, 17, 3, 8, 20, 128), (41, 51, 1, 0, 0, 0), (42, 2, 1, 0, 0, 0), (43, 15, 3, 8, 23, 71), (46, 1, 1, 3, 0, 0), (47, 19, 1, 0, 0, 0), (48, 3, 2, 5, 0, 0), (50, 1, 2, 5, 0, 0), (52, 12, 3, 0, 69, 0), (55, 2, 1, 0, 0, 0), (56, 15, 3, 8, 23, 71), (59, 1, 1, 3, 0, 0), (60, 0, 1, 0, 0, 2), (61, 20, 1, 0, 0, 0), (62, 2, 1, 0, 0, 0), (63, 1, 1, 1, 0, 0), (64, 1, 2, 4, 0, 0), (66, 42, 3, 107, 3, 152), (69, 1, 2, 5, 0, 0), (71, 0, 1, 0, 0, 2), (72, 13, 3, 0, 90, 0), (75, 2, 1, 0, 0, 0), (76, 15, 3, 8, 23, 71), (79, 1, 1, 3, 0, 0), (80, 0, 1, 0, 0, 0), (81, 20, 1, 0, 0, 0), (82, 2, 1, 0, 0, 0), (83, 1, 1, 1, 0, 0), (84, 1, 1, 2, 0, 0), (85, 0, 1, 0, 0, 1), (86, 6, 1, 0, 0, 0), (87, 42, 3, 107, 3, 152), (90, 51, 1, 0, 0, 0)]
/-- MakerGuardModel.isHeld(I)Z -/
def ax_t111 : List (Nat × ax_R) := [(0, 2, 1, 0, 0, 0), (1, 15, 3, 8, 22, 68), (4, 1, 1, 1, 0, 0), (5, 19, 1, 0, 0, 0), (6, 0, 2, 0, 0, (-2)), (8, 13, 3, 0, 15, 0), (11, 0, 1, 0, 0, 1), (12, 14, 3, 0, 16, 0), (15, 0, 1, 0, 0, 0), (16, 50, 1, 0, 0, 0)]
/-- MakerGuardModel.effect(IIIII)V -/
def ax_t112_0 : List (Nat × ax_R) := [(0, 1, 1, 2, 0, 0), (1, 33, 51, 5, 0, 0), (52, 2, 1, 0, 0, 0), (53, 2, 1, 0, 0, 0), (54, 1, 2, 4, 0, 0), (56, 42, 3, 111, 2, 141), (59, 12, 3, 1, 66, 0), (62, 0, 1, 0, 0, 1), (63, 14, 3, 0, 67, 0), (66, 0, 1, 0, 0, 0), (67, 17, 3, 8, 20, 128), (70, 2, 1, 0, 0, 0), (71, 1, 1, 1, 0, 0), (72, 1, 1, 3, 0, 0), (73, 2, 1, 0, 0, 0), (74, 15, 3, 8, 22, 68), (77, 1, 2, 4, 0, 0), (79, 19, 1, 0, 0, 0), (80, 2, 1, 0, 0, 0), (81, 15, 3, 8, 23, 71), (84, 1, 2, 4, 0, 0), (86, 19, 1, 0, 0, 0), (87, 2, 1, 0, 0, 0), (88, 15, 3, 8, 24, 74), (91, 1, 2, 4, 0, 0), (93, 19, 1, 0, 0, 0), (94, 42, 3, 113, 6, 148), (97, 14, 3, 0, 255, 0), (100, 2, 1, 0, 0, 0), (101, 1, 1, 1, 0, 0), (102, 1, 1, 3, 0, 0), (103, 0, 1, 0, 0, (-1)), (104, 0, 1, 0, 0, 2), (105, 0, 1, 0, 0, 0), (106, 42, 3, 113, 6, 148), (109, 14, 3, 0, 255, 0), (112, 2, 1, 0, 0, 0), (113, 2, 1, 0, 0, 0), (114, 1, 2, 4, 0, 0), (116, 1, 2, 5, 0, 0), (118, 42, 3, 114, 3, 155), (121, 12, 3, 1, 128, 0), (124, 0, 1, 0, 0, 1), (125, 14, 3, 0, 129, 0), (128, 0, 1, 0, 0, 0), (129, 17, 3, 8, 20, 128), (132, 2, 1, 0, 0, 0), (133, 15, 3, 8, 20, 128), (136, 12, 3, 1, 255, 0), (139, 2, 1, 0, 0, 0), (140, 1, 1, 1, 0, 0), (141, 1, 1, 3, 0, 0), (142, 1, 2, 4, 0, 0), (144, 0, 1, 0, 0, 0), (145, 2, 1, 0, 0, 0), (146, 1, 2, 4, 0, 0), (148, 1, 2, 5, 0, 0), (150, 42, 3, 116, 3, 159), (153, 42, 3, 113, 6, 148), (156, 14, 3, 0, 255, 0)]
def ax_t112_1 : List (Nat × ax_R) := [(159, 2, 1, 0, 0, 0), (160, 1, 1, 1, 0, 0), (161, 1, 1, 3, 0, 0), (162, 1, 2, 4, 0, 0), (164, 1, 2, 5, 0, 0), (166, 42, 3, 117, 5, 163), (169, 14, 3, 0, 255, 0), (172, 2, 1, 0, 0, 0), (173, 1, 1, 1, 0, 0), (174, 1, 1, 3, 0, 0), (175, 1, 2, 4, 0, 0), (177, 1, 2, 5, 0, 0), (179, 42, 3, 118, 5, 167), (182, 14, 3, 0, 255, 0), (185, 2, 1, 0, 0, 0), (186, 2, 1, 0, 0, 0), (187, 0, 2, 0, 0, 6), (189, 1, 2, 4, 0, 0), (191, 6, 1, 0, 0, 0), (192, 1, 2, 5, 0, 0), (194, 42, 3, 114, 3, 155), (197, 12, 3, 1, 204, 0), (200, 0, 1, 0, 0, 1), (201, 14, 3, 0, 205, 0), (204, 0, 1, 0, 0, 0), (205, 17, 3, 8, 20, 128), (208, 2, 1, 0, 0, 0), (209, 1, 1, 1, 0, 0), (210, 1, 1, 3, 0, 0), (211, 2, 1, 0, 0, 0), (212, 15, 3, 8, 7, 29), (215, 1, 2, 4, 0, 0), (217, 19, 1, 0, 0, 0), (218, 2, 1, 0, 0, 0), (219, 15, 3, 8, 8, 32), (222, 1, 2, 4, 0, 0), (224, 21, 1, 0, 0, 0), (225, 12, 3, 0, 232, 0), (228, 0, 1, 0, 0, 0), (229, 14, 3, 0, 233, 0), (232, 0, 1, 0, 0, 1), (233, 2, 1, 0, 0, 0), (234, 15, 3, 8, 9, 35), (237, 1, 2, 4, 0, 0), (239, 19, 1, 0, 0, 0), (240, 42, 3, 113, 6, 148), (243, 14, 3, 0, 255, 0), (246, 2, 1, 0, 0, 0), (247, 1, 1, 1, 0, 0), (248, 1, 1, 3, 0, 0), (249, 42, 3, 119, 3, 170), (252, 14, 3, 0, 255, 0), (255, 51, 1, 0, 0, 0)]
def ax_t112 : List (Nat × ax_R) := ax_t112_0 ++ ax_t112_1
/-- MakerGuardModel.hold(IIIII)V -/
def ax_t113 : List (Nat × ax_R) := [(0, 2, 1, 0, 0, 0), (1, 2, 1, 0, 0, 0), (2, 15, 3, 8, 20, 128), (5, 12, 3, 1, 20, 0), (8, 1, 1, 1, 0, 0), (9, 0, 2, 0, 0, 6), (11, 13, 3, 3, 24, 0), (14, 1, 1, 2, 0, 0), (15, 0, 2, 0, 0, 7), (17, 13, 3, 1, 24, 0), (20, 0, 1, 0, 0, 1), (21, 14, 3, 0, 25, 0), (24, 0, 1, 0, 0, 0), (25, 17, 3, 8, 20, 128), (28, 2, 1, 0, 0, 0), (29, 15, 3, 8, 22, 68), (32, 1, 1, 2, 0, 0), (33, 1, 1, 3, 0, 0), (34, 20, 1, 0, 0, 0), (35, 2, 1, 0, 0, 0), (36, 15, 3, 8, 23, 71), (39, 1, 1, 2, 0, 0), (40, 1, 2, 4, 0, 0), (42, 20, 1, 0, 0, 0), (43, 2, 1, 0, 0, 0), (44, 15, 3, 8, 24, 74), (47, 1, 1, 2, 0, 0), (48, 1, 2, 5, 0, 0), (50, 20, 1, 0, 0, 0), (51, 51, 1, 0, 0, 0)]
/-- MakerGuardModel.allFit(II)Z -/
def ax_t114 : List (Nat × ax_R) := [(0, 0, 1, 0, 0, 1), (1, 3, 1, 3, 0, 0), (2, 0, 1, 0, 0, 0), (3, 3, 2, 4, 0, 0), (5, 1, 2, 4, 0, 0), (7, 2, 1, 0, 0, 0), (8, 15, 3, 8, 3, 17), (11, 1, 1, 1, 0, 0), (12, 19, 1, 0, 0, 0), (13, 13, 3, 3, 81, 0), (16, 1, 1, 3, 0, 0), (17, 12, 3, 0, 81, 0), (20, 0, 1, 0, 0, 3), (21, 1, 1, 1, 0, 0), (22, 6, 1, 2, 0, 0), (23, 1, 2, 4, 0, 0), (25, 6, 1, 0, 0, 0), (26, 3, 2, 5, 0, 0), (28, 1, 1, 2, 0, 0), (29, 1, 2, 4, 0, 0), (31, 6, 1, 0, 0, 0), (32, 0, 2, 0, 0, 8), (34, 13, 3, 3, 73, 0), (37, 2, 1, 0, 0, 0), (38, 1, 1, 2, 0, 0), (39, 1, 2, 4, 0, 0), (41, 6, 1, 0, 0, 0), (42, 2, 1, 0, 0, 0), (43, 15, 3, 8, 4, 20), (46, 1, 2, 5, 0, 0), (48, 19, 1, 0, 0, 0), (49, 2, 1, 0, 0, 0), (50, 15, 3, 8, 5, 23), (53, 1, 2, 5, 0, 0), (55, 21, 1, 0, 0, 0), (56, 2, 1, 0, 0, 0), (57, 15, 3, 8, 6, 26), (60, 1, 2, 5, 0, 0), (62, 19, 1, 0, 0, 0), (63, 42, 3, 115, 5, 144), (66, 12, 3, 0, 73, 0), (69, 0, 1, 0, 0, 1), (70, 14, 3, 0, 74, 0), (73, 0, 1, 0, 0, 0), (74, 3, 1, 3, 0, 0), (75, 5, 3, 4, 0, 1), (78, 14, 3, 0, 5, 0), (81, 1, 1, 3, 0, 0), (82, 50, 1, 0, 0, 0)]
/-- MakerGuardModel.fits(IIZI)Z -/
def ax_t115 : List (Nat × ax_R) := [(0, 2, 1, 0, 0, 0), (1, 1, 1, 1, 0, 0), (2, 42, 3, 111, 2, 141), (5, 12, 3, 0, 32, 0), (8, 2, 1, 0, 0, 0), (9, 15, 3, 8, 22, 68), (12, 1, 1, 1, 0, 0), (13, 19, 1, 0, 0, 0), (14, 1, 1, 2, 0, 0), (15, 13, 3, 0, 28, 0), (18, 2, 1, 0, 0, 0), (19, 15, 3, 8, 22, 68), (22, 1, 1, 1, 0, 0), (23, 19, 1, 0, 0, 0), (24, 0, 1, 0, 0, (-1)), (25, 13, 3, 1, 32, 0), (28, 0, 1, 0, 0, 1), (29, 14, 3, 0, 33, 0), (32, 0, 1, 0, 0, 0), (33, 3, 2, 5, 0, 0), (35, 1, 2, 5, 0, 0), (37, 12, 3, 0, 57, 0), (40, 2, 1, 0, 0, 0), (41, 15, 3, 8, 23, 71), (44, 1, 1, 1, 0, 0), (45, 19, 1, 0, 0, 0), (46, 12, 3, 0, 53, 0), (49, 1, 1, 3, 0, 0), (50, 12, 3, 0, 57, 0), (53, 0, 1, 0, 0, 1), (54, 14, 3, 0, 58, 0), (57, 0, 1, 0, 0, 0), (58, 3, 2, 5, 0, 0), (60, 1, 2, 5, 0, 0), (62, 12, 3, 0, 96, 0), (65, 2, 1, 0, 0, 0), (66, 15, 3, 8, 24, 74), (69, 1, 1, 1, 0, 0), (70, 19, 1, 0, 0, 0), (71, 1, 2, 4, 0, 0), (73, 13, 3, 0, 92, 0), (76, 1, 2, 4, 0, 0), (78, 0, 1, 0, 0, 2), (79, 13, 3, 0, 92, 0), (82, 2, 1, 0, 0, 0), (83, 15, 3, 8, 23, 71), (86, 1, 1, 1, 0, 0), (87, 19, 1, 0, 0, 0), (88, 0, 1, 0, 0, 2), (89, 13, 3, 1, 96, 0), (92, 0, 1, 0, 0, 1), (93, 14, 3, 0, 97, 0), (96, 0, 1, 0, 0, 0), (97, 50, 1, 0, 0, 0)]
/-- MakerGuardModel.stateOf(II)I -/
def ax_t116 : List (Nat × ax_R) := [(0, 0, 1, 0, 0, 1), (1, 3, 1, 3, 0, 0), (2, 0, 1, 0, 0, 0), (3, 3, 2, 4, 0, 0), (5, 0, 1, 0, 0, 0), (6, 3, 2, 5, 0, 0), (8, 1, 2, 5, 0, 0), (10, 2, 1, 0, 0, 0), (11, 15, 3, 8, 3, 17), (14, 1, 1, 1, 0, 0), (15, 19, 1, 0, 0, 0), (16, 13, 3, 3, 97, 0), (19, 1, 1, 3, 0, 0), (20, 12, 3, 0, 52, 0), (23, 2, 1, 0, 0, 0), (24, 15, 3, 8, 24, 74), (27, 1, 1, 2, 0, 0), (28, 1, 2, 5, 0, 0), (30, 6, 1, 0, 0, 0), (31, 19, 1, 0, 0, 0), (32, 12, 3, 0, 48, 0), (35, 2, 1, 0, 0, 0), (36, 15, 3, 8, 23, 71), (39, 1, 1, 2, 0, 0), (40, 1, 2, 5, 0, 0), (42, 6, 1, 0, 0, 0), (43, 19, 1, 0, 0, 0), (44, 0, 1, 0, 0, 2), (45, 13, 3, 1, 52, 0), (48, 0, 1, 0, 0, 1), (49, 14, 3, 0, 53, 0), (52, 0, 1, 0, 0, 0), (53, 3, 1, 3, 0, 0), (54, 1, 2, 4, 0, 0), (56, 12, 3, 1, 84, 0), (59, 2, 1, 0, 0, 0), (60, 15, 3, 8, 24, 74), (63, 1, 1, 2, 0, 0), (64, 1, 2, 5, 0, 0), (66, 6, 1, 0, 0, 0), (67, 19, 1, 0, 0, 0), (68, 0, 1, 0, 0, 1), (69, 13, 3, 1, 88, 0), (72, 2, 1, 0, 0, 0), (73, 15, 3, 8, 23, 71), (76, 1, 1, 2, 0, 0), (77, 1, 2, 5, 0, 0), (79, 6, 1, 0, 0, 0), (80, 19, 1, 0, 0, 0), (81, 12, 3, 1, 88, 0), (84, 0, 1, 0, 0, 1), (85, 14, 3, 0, 89, 0), (88, 0, 1, 0, 0, 0), (89, 3, 2, 4, 0, 0), (91, 5, 3, 5, 0, 1), (94, 14, 3, 0, 8, 0), (97, 1, 1, 3, 0, 0), (98, 12, 3, 0, 105, 0), (101, 0, 1, 0, 0, 0), (102, 14, 3, 0, 115, 0), (105, 1, 2, 4, 0, 0), (107, 12, 3, 0, 114, 0), (110, 0, 1, 0, 0, 1), (111, 14, 3, 0, 115, 0), (114, 0, 1, 0, 0, 2), (115, 50, 1, 0, 0, 0)]
/-- MakerGuardModel.get(IIII)V -/
def ax_t117 : List (Nat × ax_R) := [(0, 2, 1, 0, 0, 0), (1, 1, 1, 3, 0, 0), (2, 42, 3, 111, 2, 141), (5, 12, 3, 0, 26, 0), (8, 2, 1, 0, 0, 0), (9, 15, 3, 8, 23, 71), (12, 1, 1, 3, 0, 0), (13, 19, 1, 0, 0, 0), (14, 12, 3, 1, 26, 0), (17, 2, 1, 0, 0, 0), (18, 15, 3, 8, 22, 68), (21, 1, 1, 3, 0, 0), (22, 19, 1, 0, 0, 0), (23, 12, 3, 3, 32, 0), (26, 2, 1, 0, 0, 0), (27, 0, 1, 0, 0, 1), (28, 17, 3, 8, 20, 128), (31, 51, 1, 0, 0, 0), (32, 0, 1, 0, 0, 4), (33, 2, 1, 0, 0, 0), (34, 15, 3, 8, 22, 68), (37, 1, 1, 3, 0, 0), (38, 19, 1, 0, 0, 0), (39, 6, 1, 2, 0, 0), (40, 1, 2, 4, 0, 0), (42, 6, 1, 0, 0, 0), (43, 3, 2, 5, 0, 0), (45, 2, 1, 0, 0, 0), (46, 15, 3, 8, 24, 74), (49, 1, 1, 3, 0, 0), (50, 19, 1, 0, 0, 0), (51, 12, 3, 1, 58, 0), (54, 0, 1, 0, 0, 1), (55, 14, 3, 0, 59, 0), (58, 0, 1, 0, 0, 0), (59, 3, 2, 6, 0, 0), (61, 2, 1, 0, 0, 0), (62, 1, 1, 1, 0, 0), (63, 1, 1, 2, 0, 0), (64, 2, 1, 0, 0, 0), (65, 15, 3, 8, 1, 7), (68, 1, 2, 5, 0, 0), (70, 19, 1, 0, 0, 0), (71, 1, 2, 6, 0, 0), (73, 12, 3, 0, 90, 0), (76, 2, 1, 0, 0, 0), (77, 15, 3, 8, 2, 13), (80, 1, 2, 5, 0, 0), (82, 21, 1, 0, 0, 0), (83, 12, 3, 0, 90, 0), (86, 0, 1, 0, 0, 0), (87, 14, 3, 0, 91, 0), (90, 0, 1, 0, 0, 1), (91, 1, 2, 6, 0, 0), (93, 12, 3, 0, 100, 0), (96, 0, 1, 0, 0, 0), (97, 14, 3, 0, 101, 0), (100, 0, 1, 0, 0, 2), (101, 42, 3, 113, 6, 148), (104, 51, 1, 0, 0, 0)]
/-- MakerGuardModel.put(IIII)V -/
def ax_t118_0 : List (Nat × ax_R) := [(0, 2, 1, 0, 0, 0), (1, 1, 1, 2, 0, 0), (2, 42, 3, 111, 2, 141), (5, 12, 3, 0, 34, 0), (8, 2, 1, 0, 0, 0), (9, 15, 3, 8, 23, 71), (12, 1, 1, 2, 0, 0), (13, 19, 1, 0, 0, 0), (14, 12, 3, 1, 34, 0), (17, 2, 1, 0, 0, 0), (18, 15, 3, 8, 22, 68), (21, 1, 1, 2, 0, 0), (22, 19, 1, 0, 0, 0), (23, 12, 3, 2, 34, 0), (26, 2, 1, 0, 0, 0), (27, 1, 1, 3, 0, 0), (28, 42, 3, 111, 2, 141), (31, 12, 3, 1, 40, 0), (34, 2, 1, 0, 0, 0), (35, 0, 1, 0, 0, 1), (36, 17, 3, 8, 20, 128), (39, 51, 1, 0, 0, 0), (40, 0, 1, 0, 0, 4), (41, 2, 1, 0, 0, 0), (42, 15, 3, 8, 22, 68), (45, 1, 1, 2, 0, 0), (46, 19, 1, 0, 0, 0), (47, 6, 1, 2, 0, 0), (48, 1, 2, 4, 0, 0), (50, 6, 1, 0, 0, 0), (51, 3, 2, 5, 0, 0), (53, 2, 1, 0, 0, 0), (54, 15, 3, 8, 22, 68), (57, 1, 1, 3, 0, 0), (58, 19, 1, 0, 0, 0), (59, 2, 1, 0, 0, 0), (60, 15, 3, 8, 1, 7), (63, 1, 2, 5, 0, 0), (65, 19, 1, 0, 0, 0), (66, 13, 3, 0, 79, 0), (69, 2, 1, 0, 0, 0), (70, 15, 3, 8, 22, 68), (73, 1, 1, 3, 0, 0), (74, 19, 1, 0, 0, 0), (75, 0, 1, 0, 0, (-1)), (76, 13, 3, 1, 83, 0), (79, 0, 1, 0, 0, 1), (80, 14, 3, 0, 84, 0), (83, 0, 1, 0, 0, 0), (84, 3, 2, 6, 0, 0), (86, 1, 2, 6, 0, 0), (88, 12, 3, 0, 114, 0), (91, 2, 1, 0, 0, 0), (92, 15, 3, 8, 23, 71), (95, 1, 1, 3, 0, 0), (96, 19, 1, 0, 0, 0), (97, 12, 3, 0, 110, 0), (100, 2, 1, 0, 0, 0), (101, 15, 3, 8, 2, 13), (104, 1, 2, 5, 0, 0)]
def ax_t118_1 : List (Nat × ax_R) := [(106, 21, 1, 0, 0, 0), (107, 12, 3, 1, 114, 0), (110, 0, 1, 0, 0, 1), (111, 14, 3, 0, 115, 0), (114, 0, 1, 0, 0, 0), (115, 3, 2, 6, 0, 0), (117, 2, 1, 0, 0, 0), (118, 1, 2, 6, 0, 0), (120, 12, 3, 0, 152, 0), (123, 2, 1, 0, 0, 0), (124, 15, 3, 8, 24, 74), (127, 1, 1, 2, 0, 0), (128, 19, 1, 0, 0, 0), (129, 0, 1, 0, 0, 1), (130, 13, 3, 0, 156, 0), (133, 2, 1, 0, 0, 0), (134, 15, 3, 8, 24, 74), (137, 1, 1, 3, 0, 0), (138, 19, 1, 0, 0, 0), (139, 12, 3, 0, 156, 0), (142, 2, 1, 0, 0, 0), (143, 15, 3, 8, 23, 71), (146, 1, 1, 3, 0, 0), (147, 19, 1, 0, 0, 0), (148, 0, 1, 0, 0, 2), (149, 13, 3, 0, 156, 0), (152, 0, 1, 0, 0, 1), (153, 14, 3, 0, 157, 0), (156, 0, 1, 0, 0, 0), (157, 17, 3, 8, 20, 128), (160, 2, 1, 0, 0, 0), (161, 1, 1, 1, 0, 0), (162, 0, 2, 0, 0, 6), (164, 13, 3, 3, 185, 0), (167, 1, 1, 2, 0, 0), (168, 0, 2, 0, 0, 7), (170, 13, 3, 1, 185, 0), (173, 2, 1, 0, 0, 0), (174, 15, 3, 8, 25, 134), (177, 0, 1, 0, 0, 1), (178, 1, 2, 4, 0, 0), (180, 6, 1, 6, 0, 0), (181, 6, 1, 4, 0, 0), (182, 14, 3, 0, 189, 0), (185, 2, 1, 0, 0, 0), (186, 15, 3, 8, 25, 134), (189, 17, 3, 8, 25, 134), (192, 51, 1, 0, 0, 0)]
def ax_t118 : List (Nat × ax_R) := ax_t118_0 ++ ax_t118_1
/-- MakerGuardModel.back(II)V -/
def ax_t119 : List (Nat × ax_R) := [(0, 1, 1, 1, 0, 0), (1, 0, 1, 0, 0, 5), (2, 13, 3, 5, 54, 0), (5, 1, 1, 1, 0, 0), (6, 0, 2, 0, 0, 6), (8, 6, 1, 1, 0, 0), (9, 3, 1, 3, 0, 0), (10, 2, 1, 0, 0, 0), (11, 2, 1, 0, 0, 0), (12, 1, 1, 2, 0, 0), (13, 2, 1, 0, 0, 0), (14, 15, 3, 8, 7, 29), (17, 1, 1, 3, 0, 0), (18, 19, 1, 0, 0, 0), (19, 2, 1, 0, 0, 0), (20, 15, 3, 8, 8, 32), (23, 1, 1, 3, 0, 0), (24, 21, 1, 0, 0, 0), (25, 12, 3, 1, 32, 0), (28, 0, 1, 0, 0, 1), (29, 14, 3, 0, 33, 0), (32, 0, 1, 0, 0, 0), (33, 2, 1, 0, 0, 0), (34, 15, 3, 8, 9, 35), (37, 1, 1, 3, 0, 0), (38, 19, 1, 0, 0, 0), (39, 42, 3, 115, 5, 144), (42, 12, 3, 1, 49, 0), (45, 0, 1, 0, 0, 1), (46, 14, 3, 0, 50, 0), (49, 0, 1, 0, 0, 0), (50, 17, 3, 8, 20, 128), (53, 51, 1, 0, 0, 0), (54, 0, 1, 0, 0, 0), (55, 3, 1, 3, 0, 0), (56, 1, 1, 3, 0, 0), (57, 0, 1, 0, 0, 4), (58, 13, 3, 3, 107, 0), (61, 2, 1, 0, 0, 0), (62, 2, 1, 0, 0, 0), (63, 15, 3, 8, 20, 128), (66, 12, 3, 1, 93, 0), (69, 2, 1, 0, 0, 0), (70, 15, 3, 8, 2, 13), (73, 0, 1, 0, 0, 4), (74, 1, 1, 1, 0, 0), (75, 6, 1, 2, 0, 0), (76, 1, 1, 3, 0, 0), (77, 6, 1, 0, 0, 0), (78, 21, 1, 0, 0, 0), (79, 12, 3, 0, 97, 0), (82, 2, 1, 0, 0, 0), (83, 15, 3, 8, 25, 134), (86, 1, 1, 3, 0, 0), (87, 6, 1, 7, 0, 0), (88, 0, 1, 0, 0, 1), (89, 6, 1, 3, 0, 0), (90, 12, 3, 1, 97, 0), (93, 0, 1, 0, 0, 1), (94, 14, 3, 0, 98, 0), (97, 0, 1, 0, 0, 0), (98, 17, 3, 8, 20, 128), (101, 5, 3, 3, 0, 1), (104, 14, 3, 0, 56, 0), (107, 51, 1, 0, 0, 0)]
/-- MakerGuardModel.holds(IIII)I -/
def ax_t120_0 : List (Nat × ax_R) := [(0, 2, 1, 0, 0, 0), (1, 1, 1, 1, 0, 0), (2, 1, 1, 2, 0, 0), (3, 42, 3, 121, 3, 185), (6, 12, 3, 0, 20, 0), (9, 1, 1, 3, 0, 0), (10, 40, 3, 103, 1, 121), (13, 12, 3, 0, 20, 0), (16, 0, 1, 0, 0, 1), (17, 14, 3, 0, 21, 0), (20, 0, 1, 0, 0, 0), (21, 3, 2, 5, 0, 0), (23, 2, 1, 0, 0, 0), (24, 1, 2, 5, 0, 0), (26, 1, 2, 4, 0, 0), (28, 0, 1, 0, 0, 0), (29, 0, 1, 0, 0, 2), (30, 40, 3, 95, 3, 103), (33, 1, 2, 5, 0, 0), (35, 12, 3, 0, 50, 0), (38, 2, 1, 0, 0, 0), (39, 1, 1, 1, 0, 0), (40, 42, 3, 106, 2, 182), (43, 12, 3, 0, 50, 0), (46, 0, 1, 0, 0, 1), (47, 14, 3, 0, 51, 0), (50, 0, 1, 0, 0, 0), (51, 42, 3, 96, 4, 107), (54, 12, 3, 1, 59, 0), (57, 0, 1, 0, 0, 0), (58, 50, 1, 0, 0, 0), (59, 0, 2, 0, 0, 8), (61, 1, 1, 2, 0, 0), (62, 6, 1, 2, 0, 0), (63, 1, 1, 3, 0, 0), (64, 6, 1, 0, 0, 0), (65, 3, 2, 6, 0, 0), (67, 2, 1, 0, 0, 0), (68, 15, 3, 8, 15, 53), (71, 1, 1, 2, 0, 0), (72, 21, 1, 0, 0, 0), (73, 12, 3, 1, 79, 0), (76, 0, 2, 0, 0, (-3)), (78, 50, 1, 0, 0, 0), (79, 2, 1, 0, 0, 0), (80, 15, 3, 8, 16, 56), (83, 1, 2, 6, 0, 0), (85, 19, 1, 0, 0, 0), (86, 0, 2, 0, 0, (-2)), (88, 13, 3, 1, 94, 0), (91, 0, 2, 0, 0, (-2)), (93, 50, 1, 0, 0, 0), (94, 1, 2, 4, 0, 0), (96, 12, 3, 1, 109, 0), (99, 2, 1, 0, 0, 0), (100, 15, 3, 8, 16, 56), (103, 1, 2, 6, 0, 0), (105, 19, 1, 0, 0, 0), (106, 14, 3, 0, 132, 0), (109, 1, 2, 4, 0, 0)]
def ax_t120_1 : List (Nat × ax_R) := [(111, 0, 1, 0, 0, 1), (112, 13, 3, 1, 125, 0), (115, 2, 1, 0, 0, 0), (116, 15, 3, 8, 17, 59), (119, 1, 2, 6, 0, 0), (121, 19, 1, 0, 0, 0), (122, 14, 3, 0, 132, 0), (125, 2, 1, 0, 0, 0), (126, 15, 3, 8, 18, 62), (129, 1, 2, 6, 0, 0), (131, 19, 1, 0, 0, 0), (132, 50, 1, 0, 0, 0)]
def ax_t120 : List (Nat × ax_R) := ax_t120_0 ++ ax_t120_1
/-- MakerGuardModel.isPlace(II)Z -/
def ax_t121 : List (Nat × ax_R) := [(0, 1, 1, 1, 0, 0), (1, 40, 3, 98, 1, 115), (4, 12, 3, 0, 25, 0), (7, 1, 1, 2, 0, 0), (8, 12, 3, 2, 25, 0), (11, 1, 1, 2, 0, 0), (12, 2, 1, 0, 0, 0), (13, 15, 3, 8, 10, 38), (16, 1, 1, 1, 0, 0), (17, 19, 1, 0, 0, 0), (18, 13, 3, 3, 25, 0), (21, 0, 1, 0, 0, 1), (22, 14, 3, 0, 26, 0), (25, 0, 1, 0, 0, 0), (26, 50, 1, 0, 0, 0)]
/-- MakerGuardModel.fields(II)I -/
def ax_t122 : List (Nat × ax_R) := [(0, 2, 1, 0, 0, 0), (1, 1, 1, 1, 0, 0), (2, 1, 1, 2, 0, 0), (3, 42, 3, 121, 3, 185), (6, 12, 3, 0, 19, 0), (9, 1, 1, 1, 0, 0), (10, 0, 2, 0, 0, 6), (12, 13, 3, 3, 19, 0), (15, 0, 1, 0, 0, 1), (16, 14, 3, 0, 20, 0), (19, 0, 1, 0, 0, 0), (20, 3, 1, 3, 0, 0), (21, 2, 1, 0, 0, 0), (22, 1, 1, 3, 0, 0), (23, 1, 1, 3, 0, 0), (24, 12, 3, 0, 39, 0), (27, 2, 1, 0, 0, 0), (28, 1, 1, 1, 0, 0), (29, 42, 3, 106, 2, 182), (32, 12, 3, 0, 39, 0), (35, 0, 1, 0, 0, 1), (36, 14, 3, 0, 40, 0), (39, 0, 1, 0, 0, 0), (40, 0, 1, 0, 0, 1), (41, 42, 3, 96, 4, 107), (44, 12, 3, 1, 49, 0), (47, 0, 1, 0, 0, 0), (48, 50, 1, 0, 0, 0), (49, 2, 1, 0, 0, 0), (50, 15, 3, 8, 15, 53), (53, 1, 1, 2, 0, 0), (54, 21, 1, 0, 0, 0), (55, 12, 3, 0, 67, 0), (58, 2, 1, 0, 0, 0), (59, 15, 3, 8, 19, 65), (62, 1, 1, 2, 0, 0), (63, 19, 1, 0, 0, 0), (64, 14, 3, 0, 68, 0), (67, 0, 1, 0, 0, (-1)), (68, 50, 1, 0, 0, 0)]
/-- MakerGuardModel.start(I)V -/
def ax_t123 : List (Nat × ax_R) := [(0, 1, 1, 1, 0, 0), (1, 0, 1, 0, 0, 0), (2, 0, 1, 0, 0, 5), (3, 40, 3, 95, 3, 103), (6, 3, 1, 2, 0, 0), (7, 2, 1, 0, 0, 0), (8, 1, 1, 2, 0, 0), (9, 1, 1, 2, 0, 0), (10, 12, 3, 0, 29, 0), (13, 2, 1, 0, 0, 0), (14, 15, 3, 8, 3, 17), (17, 0, 2, 0, 0, 6), (19, 1, 1, 1, 0, 0), (20, 6, 1, 0, 0, 0), (21, 19, 1, 0, 0, 0), (22, 12, 3, 1, 29, 0), (25, 0, 1, 0, 0, 1), (26, 14, 3, 0, 30, 0), (29, 0, 1, 0, 0, 0), (30, 0, 1, 0, 0, 1), (31, 42, 3, 96, 4, 107), (34, 12, 3, 1, 38, 0), (37, 51, 1, 0, 0, 0), (38, 2, 1, 0, 0, 0), (39, 0, 1, 0, 0, 1), (40, 17, 3, 8, 26, 111), (43, 2, 1, 0, 0, 0), (44, 0, 1, 0, 0, 0), (45, 17, 3, 8, 27, 188), (48, 2, 1, 0, 0, 0), (49, 0, 1, 0, 0, 0), (50, 17, 3, 8, 32, 191), (53, 2, 1, 0, 0, 0), (54, 0, 1, 0, 0, 0), (55, 17, 3, 8, 33, 194), (58, 2, 1, 0, 0, 0), (59, 0, 1, 0, 0, (-1)), (60, 17, 3, 8, 34, 197), (63, 2, 1, 0, 0, 0), (64, 0, 1, 0, 0, 0), (65, 17, 3, 8, 35, 200), (68, 2, 1, 0, 0, 0), (69, 0, 2, 0, 0, 6), (71, 1, 1, 1, 0, 0), (72, 6, 1, 0, 0, 0), (73, 0, 1, 0, 0, 0), (74, 0, 1, 0, 0, (-1)), (75, 42, 3, 124, 4, 203), (78, 51, 1, 0, 0, 0)]
/-- MakerGuardModel.open(III)V -/
def ax_t124_0 : List (Nat × ax_R) := [(0, 0, 2, 0, 0, 8), (2, 2, 1, 0, 0, 0), (3, 15, 3, 8, 27, 188), (6, 6, 1, 2, 0, 0), (7, 0, 2, 0, 0, 8), (9, 6, 1, 1, 0, 0), (10, 3, 2, 4, 0, 0), (12, 2, 1, 0, 0, 0), (13, 15, 3, 8, 28, 77), (16, 2, 1, 0, 0, 0), (17, 15, 3, 8, 27, 188), (20, 1, 1, 1, 0, 0), (21, 20, 1, 0, 0, 0), (22, 2, 1, 0, 0, 0), (23, 15, 3, 8, 29, 80), (26, 2, 1, 0, 0, 0), (27, 15, 3, 8, 27, 188), (30, 0, 1, 0, 0, 0), (31, 20, 1, 0, 0, 0), (32, 2, 1, 0, 0, 0), (33, 15, 3, 8, 31, 86), (36, 2, 1, 0, 0, 0), (37, 15, 3, 8, 27, 188), (40, 1, 1, 3, 0, 0), (41, 20, 1, 0, 0, 0), (42, 0, 1, 0, 0, 0), (43, 3, 2, 5, 0, 0), (45, 1, 2, 5, 0, 0), (47, 0, 2, 0, 0, 8), (49, 13, 3, 3, 116, 0), (52, 2, 1, 0, 0, 0), (53, 15, 3, 8, 30, 83), (56, 0, 2, 0, 0, 8), (58, 2, 1, 0, 0, 0), (59, 15, 3, 8, 27, 188), (62, 6, 1, 2, 0, 0), (63, 1, 2, 5, 0, 0), (65, 6, 1, 0, 0, 0), (66, 2, 1, 0, 0, 0), (67, 15, 3, 8, 27, 188), (70, 12, 3, 5, 108, 0), (73, 1, 2, 5, 0, 0), (75, 2, 1, 0, 0, 0), (76, 15, 3, 8, 3, 17), (79, 1, 1, 1, 0, 0), (80, 19, 1, 0, 0, 0), (81, 13, 3, 3, 108, 0), (84, 1, 1, 2, 0, 0), (85, 1, 2, 5, 0, 0), (87, 6, 1, 0, 0, 0), (88, 0, 2, 0, 0, 8), (90, 13, 3, 3, 108, 0), (93, 2, 1, 0, 0, 0), (94, 15, 3, 8, 30, 83), (97, 1, 2, 4, 0, 0), (99, 1, 1, 2, 0, 0), (100, 6, 1, 0, 0, 0), (101, 1, 2, 5, 0, 0), (103, 6, 1, 0, 0, 0), (104, 19, 1, 0, 0, 0)]
def ax_t124_1 : List (Nat × ax_R) := [(105, 14, 3, 0, 109, 0), (108, 0, 1, 0, 0, (-1)), (109, 20, 1, 0, 0, 0), (110, 5, 3, 5, 0, 1), (113, 14, 3, 0, 45, 0), (116, 1, 1, 1, 0, 0), (117, 0, 2, 0, 0, 6), (119, 13, 3, 3, 138, 0), (122, 2, 1, 0, 0, 0), (123, 15, 3, 8, 30, 83), (126, 0, 2, 0, 0, 8), (128, 2, 1, 0, 0, 0), (129, 15, 3, 8, 27, 188), (132, 6, 1, 2, 0, 0), (133, 0, 2, 0, 0, 7), (135, 6, 1, 0, 0, 0), (136, 1, 1, 3, 0, 0), (137, 20, 1, 0, 0, 0), (138, 2, 1, 0, 0, 0), (139, 10, 1, 0, 0, 0), (140, 15, 3, 8, 27, 188), (143, 0, 1, 0, 0, 1), (144, 6, 1, 0, 0, 0), (145, 17, 3, 8, 27, 188), (148, 51, 1, 0, 0, 0)]
def ax_t124 : List (Nat × ax_R) := ax_t124_0 ++ ax_t124_1
/-- MakerGuardModel.run(I)I -/
def ax_t125 : List (Nat × ax_R) := [(0, 2, 1, 0, 0, 0), (1, 1, 1, 1, 0, 0), (2, 0, 1, 0, 0, 0), (3, 0, 3, 0, 0, 1000), (6, 40, 3, 95, 3, 103), (9, 2, 1, 0, 0, 0), (10, 15, 3, 8, 26, 111), (13, 0, 1, 0, 0, 1), (14, 42, 3, 96, 4, 107), (17, 12, 3, 1, 22, 0), (20, 0, 1, 0, 0, 0), (21, 50, 1, 0, 0, 0), (22, 0, 1, 0, 0, 0), (23, 3, 1, 2, 0, 0), (24, 1, 1, 2, 0, 0), (25, 1, 1, 1, 0, 0), (26, 13, 3, 3, 68, 0), (29, 2, 1, 0, 0, 0), (30, 15, 3, 8, 27, 188), (33, 12, 3, 5, 68, 0), (36, 2, 1, 0, 0, 0), (37, 15, 3, 8, 32, 191), (40, 12, 3, 1, 68, 0), (43, 2, 1, 0, 0, 0), (44, 2, 1, 0, 0, 0), (45, 42, 3, 126, 1, 222), (48, 17, 3, 8, 32, 191), (51, 2, 1, 0, 0, 0), (52, 15, 3, 8, 32, 191), (55, 12, 3, 1, 24, 0), (58, 2, 1, 0, 0, 0), (59, 42, 3, 129, 1, 225), (62, 5, 3, 2, 0, 1), (65, 14, 3, 0, 24, 0), (68, 2, 1, 0, 0, 0), (69, 2, 1, 0, 0, 0), (70, 15, 3, 8, 33, 194), (73, 1, 1, 2, 0, 0), (74, 6, 1, 0, 0, 0), (75, 17, 3, 8, 33, 194), (78, 1, 1, 2, 0, 0), (79, 50, 1, 0, 0, 0)]
/-- MakerGuardModel.next()I -/
def ax_t126_0 : List (Nat × ax_R) := [(0, 2, 1, 0, 0, 0), (1, 15, 3, 8, 29, 80), (4, 2, 1, 0, 0, 0), (5, 15, 3, 8, 27, 188), (8, 0, 1, 0, 0, 1), (9, 6, 1, 1, 0, 0), (10, 19, 1, 0, 0, 0), (11, 12, 3, 2, 44, 0), (14, 2, 1, 0, 0, 0), (15, 15, 3, 8, 29, 80), (18, 2, 1, 0, 0, 0), (19, 15, 3, 8, 27, 188), (22, 0, 1, 0, 0, 1), (23, 6, 1, 1, 0, 0), (24, 19, 1, 0, 0, 0), (25, 2, 1, 0, 0, 0), (26, 15, 3, 8, 10, 38), (29, 2, 1, 0, 0, 0), (30, 15, 3, 8, 28, 77), (33, 2, 1, 0, 0, 0), (34, 15, 3, 8, 27, 188), (37, 0, 1, 0, 0, 1), (38, 6, 1, 1, 0, 0), (39, 19, 1, 0, 0, 0), (40, 19, 1, 0, 0, 0), (41, 13, 3, 2, 46, 0), (44, 0, 1, 0, 0, 5), (45, 50, 1, 0, 0, 0), (46, 2, 1, 0, 0, 0), (47, 15, 3, 8, 11, 41), (50, 2, 1, 0, 0, 0), (51, 42, 3, 127, 1, 207), (54, 19, 1, 0, 0, 0), (55, 3, 1, 1, 0, 0), (56, 1, 1, 1, 0, 0), (57, 0, 1, 0, 0, 3), (58, 13, 3, 1, 78, 0), (61, 2, 1, 0, 0, 0), (62, 2, 1, 0, 0, 0), (63, 15, 3, 8, 13, 47), (66, 2, 1, 0, 0, 0), (67, 42, 3, 127, 1, 207), (70, 19, 1, 0, 0, 0), (71, 42, 3, 128, 2, 211), (74, 0, 1, 0, 0, (-1)), (75, 13, 3, 0, 100, 0), (78, 1, 1, 1, 0, 0), (79, 0, 1, 0, 0, 4), (80, 13, 3, 1, 102, 0), (83, 2, 1, 0, 0, 0), (84, 2, 1, 0, 0, 0), (85, 15, 3, 8, 12, 44), (88, 2, 1, 0, 0, 0), (89, 42, 3, 127, 1, 207), (92, 19, 1, 0, 0, 0), (93, 42, 3, 128, 2, 211), (96, 0, 1, 0, 0, (-1)), (97, 13, 3, 1, 102, 0), (100, 0, 1, 0, 0, 2), (101, 50, 1, 0, 0, 0)]
def ax_t126_1 : List (Nat × ax_R) := [(102, 1, 1, 1, 0, 0), (103, 0, 1, 0, 0, 2), (104, 13, 3, 1, 118, 0), (107, 2, 1, 0, 0, 0), (108, 15, 3, 8, 35, 200), (111, 0, 2, 0, 0, 60), (113, 13, 3, 1, 118, 0), (116, 0, 1, 0, 0, 3), (117, 50, 1, 0, 0, 0), (118, 1, 1, 1, 0, 0), (119, 0, 1, 0, 0, 2), (120, 13, 3, 0, 129, 0), (123, 1, 1, 1, 0, 0), (124, 0, 2, 0, 0, 7), (126, 13, 3, 1, 142, 0), (129, 2, 1, 0, 0, 0), (130, 15, 3, 8, 27, 188), (133, 0, 2, 0, 0, 20), (135, 13, 3, 1, 142, 0), (138, 0, 1, 0, 0, 4), (139, 14, 3, 0, 143, 0), (142, 0, 1, 0, 0, 0), (143, 50, 1, 0, 0, 0)]
def ax_t126 : List (Nat × ax_R) := ax_t126_0 ++ ax_t126_1
/-- MakerGuardModel.at()I -/
def ax_t127 : List (Nat × ax_R) := [(0, 0, 2, 0, 0, 40), (2, 2, 1, 0, 0, 0), (3, 15, 3, 8, 28, 77), (6, 2, 1, 0, 0, 0), (7, 15, 3, 8, 27, 188), (10, 0, 1, 0, 0, 1), (11, 6, 1, 1, 0, 0), (12, 19, 1, 0, 0, 0), (13, 6, 1, 2, 0, 0), (14, 2, 1, 0, 0, 0), (15, 15, 3, 8, 29, 80), (18, 2, 1, 0, 0, 0), (19, 15, 3, 8, 27, 188), (22, 0, 1, 0, 0, 1), (23, 6, 1, 1, 0, 0), (24, 19, 1, 0, 0, 0), (25, 6, 1, 0, 0, 0), (26, 50, 1, 0, 0, 0)]
/-- MakerGuardModel.own(I)I -/
def ax_t128 : List (Nat × ax_R) := [(0, 2, 1, 0, 0, 0), (1, 15, 3, 8, 30, 83), (4, 0, 2, 0, 0, 8), (6, 2, 1, 0, 0, 0), (7, 15, 3, 8, 27, 188), (10, 6, 1, 2, 0, 0), (11, 0, 2, 0, 0, 8), (13, 6, 1, 1, 0, 0), (14, 1, 1, 1, 0, 0), (15, 6, 1, 0, 0, 0), (16, 19, 1, 0, 0, 0), (17, 50, 1, 0, 0, 0)]
/-- MakerGuardModel.step()V -/
def ax_t129_0 : List (Nat × ax_R) := [(0, 2, 1, 0, 0, 0), (1, 15, 3, 8, 11, 41), (4, 2, 1, 0, 0, 0), (5, 42, 3, 127, 1, 207), (8, 19, 1, 0, 0, 0), (9, 3, 1, 1, 0, 0), (10, 2, 1, 0, 0, 0), (11, 15, 3, 8, 12, 44), (14, 2, 1, 0, 0, 0), (15, 42, 3, 127, 1, 207), (18, 19, 1, 0, 0, 0), (19, 3, 1, 2, 0, 0), (20, 2, 1, 0, 0, 0), (21, 15, 3, 8, 13, 47), (24, 2, 1, 0, 0, 0), (25, 42, 3, 127, 1, 207), (28, 19, 1, 0, 0, 0), (29, 3, 1, 3, 0, 0), (30, 2, 1, 0, 0, 0), (31, 15, 3, 8, 14, 50), (34, 2, 1, 0, 0, 0), (35, 42, 3, 127, 1, 207), (38, 19, 1, 0, 0, 0), (39, 3, 2, 4, 0, 0), (41, 0, 2, 0, 0, 8), (43, 2, 1, 0, 0, 0), (44, 15, 3, 8, 27, 188), (47, 6, 1, 2, 0, 0), (48, 0, 2, 0, 0, 8), (50, 6, 1, 1, 0, 0), (51, 3, 2, 5, 0, 0), (53, 2, 1, 0, 0, 0), (54, 15, 3, 8, 29, 80), (57, 2, 1, 0, 0, 0), (58, 15, 3, 8, 27, 188), (61, 0, 1, 0, 0, 1), (62, 6, 1, 1, 0, 0), (63, 11, 1, 0, 0, 0), (64, 19, 1, 0, 0, 0), (65, 0, 1, 0, 0, 1), (66, 6, 1, 0, 0, 0), (67, 20, 1, 0, 0, 0), (68, 1, 1, 1, 0, 0), (69, 33, 47, 6, 0, 0), (116, 2, 1, 0, 0, 0), (117, 15, 3, 8, 30, 83), (120, 1, 2, 5, 0, 0), (122, 1, 1, 2, 0, 0), (123, 6, 1, 0, 0, 0), (124, 2, 1, 0, 0, 0), (125, 1, 1, 3, 0, 0), (126, 42, 3, 128, 2, 211), (129, 20, 1, 0, 0, 0), (130, 14, 3, 0, 283, 0), (133, 2, 1, 0, 0, 0), (134, 15, 3, 8, 30, 83), (137, 1, 2, 5, 0, 0), (139, 1, 1, 2, 0, 0), (140, 6, 1, 0, 0, 0), (141, 0, 1, 0, 0, (-1))]
def ax_t129_1 : List (Nat × ax_R) := [(142, 20, 1, 0, 0, 0), (143, 14, 3, 0, 283, 0), (146, 2, 1, 0, 0, 0), (147, 1, 1, 3, 0, 0), (148, 1, 2, 4, 0, 0), (150, 2, 1, 0, 0, 0), (151, 1, 1, 3, 0, 0), (152, 42, 3, 130, 2, 215), (155, 42, 3, 124, 4, 203), (158, 14, 3, 0, 283, 0), (161, 2, 1, 0, 0, 0), (162, 15, 3, 8, 30, 83), (165, 1, 2, 5, 0, 0), (167, 1, 1, 2, 0, 0), (168, 6, 1, 0, 0, 0), (169, 2, 1, 0, 0, 0), (170, 15, 3, 8, 37, 92), (173, 0, 1, 0, 0, 4), (174, 2, 1, 0, 0, 0), (175, 1, 1, 3, 0, 0), (176, 42, 3, 128, 2, 211), (179, 6, 1, 2, 0, 0), (180, 1, 2, 4, 0, 0), (182, 6, 1, 0, 0, 0), (183, 19, 1, 0, 0, 0), (184, 20, 1, 0, 0, 0), (185, 14, 3, 0, 283, 0), (188, 2, 1, 0, 0, 0), (189, 15, 3, 8, 37, 92), (192, 0, 1, 0, 0, 4), (193, 2, 1, 0, 0, 0), (194, 1, 1, 2, 0, 0), (195, 42, 3, 128, 2, 211), (198, 6, 1, 2, 0, 0), (199, 1, 2, 4, 0, 0), (201, 6, 1, 0, 0, 0), (202, 2, 1, 0, 0, 0), (203, 1, 1, 3, 0, 0), (204, 42, 3, 128, 2, 211), (207, 20, 1, 0, 0, 0), (208, 14, 3, 0, 283, 0), (211, 2, 1, 0, 0, 0), (212, 15, 3, 8, 29, 80), (215, 2, 1, 0, 0, 0), (216, 15, 3, 8, 27, 188), (219, 0, 1, 0, 0, 1), (220, 6, 1, 1, 0, 0), (221, 2, 1, 0, 0, 0), (222, 1, 1, 2, 0, 0), (223, 42, 3, 128, 2, 211), (226, 0, 1, 0, 0, (-1)), (227, 13, 3, 1, 234, 0), (230, 1, 1, 3, 0, 0), (231, 14, 3, 0, 245, 0), (234, 2, 1, 0, 0, 0), (235, 15, 3, 8, 29, 80), (238, 2, 1, 0, 0, 0), (239, 15, 3, 8, 27, 188), (242, 0, 1, 0, 0, 1), (243, 6, 1, 1, 0, 0)]
def ax_t129_2 : List (Nat × ax_R) := [(244, 19, 1, 0, 0, 0), (245, 20, 1, 0, 0, 0), (246, 14, 3, 0, 283, 0), (249, 2, 1, 0, 0, 0), (250, 15, 3, 8, 29, 80), (253, 2, 1, 0, 0, 0), (254, 15, 3, 8, 27, 188), (257, 0, 1, 0, 0, 1), (258, 6, 1, 1, 0, 0), (259, 1, 1, 3, 0, 0), (260, 20, 1, 0, 0, 0), (261, 14, 3, 0, 283, 0), (264, 2, 1, 0, 0, 0), (265, 0, 2, 0, 0, 6), (267, 1, 1, 3, 0, 0), (268, 6, 1, 0, 0, 0), (269, 1, 2, 4, 0, 0), (271, 0, 1, 0, 0, (-1)), (272, 42, 3, 124, 4, 203), (275, 14, 3, 0, 283, 0), (278, 2, 1, 0, 0, 0), (279, 1, 1, 2, 0, 0), (280, 42, 3, 131, 2, 218), (283, 51, 1, 0, 0, 0)]
def ax_t129 : List (Nat × ax_R) := ax_t129_0 ++ (ax_t129_1 ++ ax_t129_2)
/-- MakerGuardModel.create(I)I -/
def ax_t130 : List (Nat × ax_R) := [(0, 2, 1, 0, 0, 0), (1, 15, 3, 8, 36, 89), (4, 2, 1, 0, 0, 0), (5, 15, 3, 8, 35, 200), (8, 1, 1, 1, 0, 0), (9, 20, 1, 0, 0, 0), (10, 0, 1, 0, 0, 0), (11, 3, 1, 2, 0, 0), (12, 1, 1, 2, 0, 0), (13, 0, 1, 0, 0, 4), (14, 13, 3, 3, 37, 0), (17, 2, 1, 0, 0, 0), (18, 15, 3, 8, 37, 92), (21, 0, 1, 0, 0, 4), (22, 2, 1, 0, 0, 0), (23, 15, 3, 8, 35, 200), (26, 6, 1, 2, 0, 0), (27, 1, 1, 2, 0, 0), (28, 6, 1, 0, 0, 0), (29, 0, 1, 0, 0, (-1)), (30, 20, 1, 0, 0, 0), (31, 5, 3, 2, 0, 1), (34, 14, 3, 0, 12, 0), (37, 2, 1, 0, 0, 0), (38, 10, 1, 0, 0, 0), (39, 15, 3, 8, 35, 200), (42, 0, 1, 0, 0, 1), (43, 6, 1, 0, 0, 0), (44, 17, 3, 8, 35, 200), (47, 2, 1, 0, 0, 0), (48, 15, 3, 8, 35, 200), (51, 0, 1, 0, 0, 1), (52, 6, 1, 1, 0, 0), (53, 50, 1, 0, 0, 0)]
/-- MakerGuardModel.leave(I)V -/
def ax_t131 : List (Nat × ax_R) := [(0, 2, 1, 0, 0, 0), (1, 15, 3, 8, 28, 77), (4, 2, 1, 0, 0, 0), (5, 15, 3, 8, 27, 188), (8, 0, 1, 0, 0, 1), (9, 6, 1, 1, 0, 0), (10, 19, 1, 0, 0, 0), (11, 0, 2, 0, 0, 6), (13, 13, 3, 3, 30, 0), (16, 2, 1, 0, 0, 0), (17, 15, 3, 8, 31, 86), (20, 2, 1, 0, 0, 0), (21, 15, 3, 8, 27, 188), (24, 0, 1, 0, 0, 1), (25, 6, 1, 1, 0, 0), (26, 19, 1, 0, 0, 0), (27, 14, 3, 0, 35, 0), (30, 2, 1, 0, 0, 0), (31, 1, 1, 1, 0, 0), (32, 42, 3, 128, 2, 211), (35, 3, 1, 2, 0, 0), (36, 2, 1, 0, 0, 0), (37, 10, 1, 0, 0, 0), (38, 15, 3, 8, 27, 188), (41, 0, 1, 0, 0, 1), (42, 6, 1, 1, 0, 0), (43, 17, 3, 8, 27, 188), (46, 2, 1, 0, 0, 0), (47, 15, 3, 8, 27, 188), (50, 12, 3, 1, 61, 0), (53, 2, 1, 0, 0, 0), (54, 1, 1, 2, 0, 0), (55, 17, 3, 8, 34, 197), (58, 14, 3, 0, 113, 0), (61, 0, 2, 0, 0, 40), (63, 2, 1, 0, 0, 0), (64, 15, 3, 8, 28, 77), (67, 2, 1, 0, 0, 0), (68, 15, 3, 8, 27, 188), (71, 0, 1, 0, 0, 1), (72, 6, 1, 1, 0, 0), (73, 19, 1, 0, 0, 0), (74, 6, 1, 2, 0, 0), (75, 2, 1, 0, 0, 0), (76, 15, 3, 8, 29, 80), (79, 2, 1, 0, 0, 0), (80, 15, 3, 8, 27, 188), (83, 0, 1, 0, 0, 1), (84, 6, 1, 1, 0, 0), (85, 19, 1, 0, 0, 0), (86, 6, 1, 0, 0, 0), (87, 0, 1, 0, 0, 1), (88, 6, 1, 1, 0, 0), (89, 3, 1, 3, 0, 0), (90, 2, 1, 0, 0, 0), (91, 15, 3, 8, 30, 83), (94, 0, 2, 0, 0, 8), (96, 2, 1, 0, 0, 0), (97, 15, 3, 8, 27, 188), (100, 6, 1, 2, 0, 0), (101, 0, 2, 0, 0, 8), (103, 6, 1, 1, 0, 0), (104, 2, 1, 0, 0, 0), (105, 15, 3, 8, 12, 44), (108, 1, 1, 3, 0, 0), (109, 19, 1, 0, 0, 0), (110, 6, 1, 0, 0, 0), (111, 1, 1, 2, 0, 0), (112, 20, 1, 0, 0, 0), (113, 51, 1, 0, 0, 0)]
/-- MakerGuardModel.state(I)I -/
def ax_t132 : List (Nat × ax_R) := [(0, 2, 1, 0, 0, 0), (1, 1, 1, 1, 0, 0), (2, 0, 1, 0, 0, 0), (3, 0, 2, 0, 0, 6), (5, 40, 3, 95, 3, 103), (8, 2, 1, 0, 0, 0), (9, 15, 3, 8, 26, 111), (12, 0, 1, 0, 0, 1), (13, 42, 3, 96, 4, 107), (16, 12, 3, 1, 21, 0), (19, 0, 1, 0, 0, 0), (20, 50, 1, 0, 0, 0), (21, 1, 1, 1, 0, 0), (22, 33, 38, 7, 0, 0), (60, 2, 1, 0, 0, 0), (61, 15, 3, 8, 32, 191), (64, 12, 3, 5, 74, 0), (67, 2, 1, 0, 0, 0), (68, 15, 3, 8, 32, 191), (71, 14, 3, 0, 86, 0), (74, 2, 1, 0, 0, 0), (75, 15, 3, 8, 27, 188), (78, 12, 3, 1, 85, 0), (81, 0, 1, 0, 0, 1), (82, 14, 3, 0, 86, 0), (85, 0, 1, 0, 0, 0), (86, 50, 1, 0, 0, 0), (87, 2, 1, 0, 0, 0), (88, 15, 3, 8, 33, 194), (91, 50, 1, 0, 0, 0), (92, 2, 1, 0, 0, 0), (93, 15, 3, 8, 27, 188), (96, 50, 1, 0, 0, 0), (97, 2, 1, 0, 0, 0), (98, 15, 3, 8, 27, 188), (101, 12, 3, 1, 108, 0), (104, 0, 1, 0, 0, (-1)), (105, 14, 3, 0, 119, 0), (108, 2, 1, 0, 0, 0), (109, 15, 3, 8, 28, 77), (112, 2, 1, 0, 0, 0), (113, 15, 3, 8, 27, 188), (116, 0, 1, 0, 0, 1), (117, 6, 1, 1, 0, 0), (118, 19, 1, 0, 0, 0), (119, 50, 1, 0, 0, 0), (120, 2, 1, 0, 0, 0), (121, 15, 3, 8, 27, 188), (124, 12, 3, 1, 131, 0), (127, 0, 1, 0, 0, (-1)), (128, 14, 3, 0, 142, 0), (131, 2, 1, 0, 0, 0), (132, 15, 3, 8, 29, 80), (135, 2, 1, 0, 0, 0), (136, 15, 3, 8, 27, 188), (139, 0, 1, 0, 0, 1), (140, 6, 1, 1, 0, 0), (141, 19, 1, 0, 0, 0), (142, 50, 1, 0, 0, 0), (143, 2, 1, 0, 0, 0), (144, 15, 3, 8, 35, 200), (147, 50, 1, 0, 0, 0), (148, 2, 1, 0, 0, 0), (149, 15, 3, 8, 34, 197), (152, 50, 1, 0, 0, 0)]
/-- MakerGuardModel.local(I)I -/
def ax_t133 : List (Nat × ax_R) := [(0, 2, 1, 0, 0, 0), (1, 2, 1, 0, 0, 0), (2, 15, 3, 8, 26, 111), (5, 12, 3, 0, 26, 0), (8, 2, 1, 0, 0, 0), (9, 15, 3, 8, 27, 188), (12, 12, 3, 5, 26, 0), (15, 1, 1, 1, 0, 0), (16, 40, 3, 103, 1, 121), (19, 12, 3, 0, 26, 0), (22, 0, 1, 0, 0, 1), (23, 14, 3, 0, 27, 0), (26, 0, 1, 0, 0, 0), (27, 0, 1, 0, 0, 1), (28, 0, 1, 0, 0, 1), (29, 42, 3, 96, 4, 107), (32, 12, 3, 0, 43, 0), (35, 2, 1, 0, 0, 0), (36, 1, 1, 1, 0, 0), (37, 42, 3, 128, 2, 211), (40, 14, 3, 0, 44, 0), (43, 0, 1, 0, 0, 0), (44, 50, 1, 0, 0, 0)]
/-- MakerGuardModel.object(II)I -/
def ax_t134 : List (Nat × ax_R) := [(0, 2, 1, 0, 0, 0), (1, 2, 1, 0, 0, 0), (2, 15, 3, 8, 26, 111), (5, 12, 3, 0, 33, 0), (8, 1, 1, 1, 0, 0), (9, 12, 3, 2, 33, 0), (12, 1, 1, 1, 0, 0), (13, 2, 1, 0, 0, 0), (14, 15, 3, 8, 35, 200), (17, 13, 3, 3, 33, 0), (20, 1, 1, 2, 0, 0), (21, 0, 1, 0, 0, 0), (22, 0, 1, 0, 0, 4), (23, 40, 3, 95, 3, 103), (26, 12, 3, 0, 33, 0), (29, 0, 1, 0, 0, 1), (30, 14, 3, 0, 34, 0), (33, 0, 1, 0, 0, 0), (34, 0, 1, 0, 0, 1), (35, 0, 1, 0, 0, 1), (36, 42, 3, 96, 4, 107), (39, 12, 3, 1, 44, 0), (42, 0, 1, 0, 0, 0), (43, 50, 1, 0, 0, 0), (44, 1, 1, 2, 0, 0), (45, 0, 1, 0, 0, 4), (46, 13, 3, 1, 58, 0), (49, 2, 1, 0, 0, 0), (50, 15, 3, 8, 36, 89), (53, 1, 1, 1, 0, 0), (54, 19, 1, 0, 0, 0), (55, 14, 3, 0, 68, 0), (58, 2, 1, 0, 0, 0), (59, 15, 3, 8, 37, 92), (62, 0, 1, 0, 0, 4), (63, 1, 1, 1, 0, 0), (64, 6, 1, 2, 0, 0), (65, 1, 1, 2, 0, 0), (66, 6, 1, 0, 0, 0), (67, 19, 1, 0, 0, 0), (68, 50, 1, 0, 0, 0)]
/-- MakerGuardModel.count(I)I -/
def ax_t135 : List (Nat × ax_R) := [(0, 2, 1, 0, 0, 0), (1, 1, 1, 1, 0, 0), (2, 0, 1, 0, 0, 0), (3, 0, 1, 0, 0, 1), (4, 40, 3, 95, 3, 103), (7, 0, 1, 0, 0, 1), (8, 0, 1, 0, 0, 1), (9, 42, 3, 96, 4, 107), (12, 12, 3, 1, 17, 0), (15, 0, 1, 0, 0, 0), (16, 50, 1, 0, 0, 0), (17, 0, 1, 0, 0, 0), (18, 3, 1, 2, 0, 0), (19, 0, 1, 0, 0, 0), (20, 3, 1, 3, 0, 0), (21, 1, 1, 3, 0, 0), (22, 0, 2, 0, 0, 12), (24, 13, 3, 3, 73, 0), (27, 1, 1, 1, 0, 0), (28, 0, 1, 0, 0, 1), (29, 13, 3, 1, 44, 0), (32, 2, 1, 0, 0, 0), (33, 1, 1, 3, 0, 0), (34, 42, 3, 106, 2, 182), (37, 12, 3, 0, 44, 0), (40, 0, 1, 0, 0, 1), (41, 14, 3, 0, 45, 0), (44, 0, 1, 0, 0, 0), (45, 3, 2, 4, 0, 0), (47, 1, 1, 1, 0, 0), (48, 12, 3, 1, 62, 0), (51, 1, 1, 2, 0, 0), (52, 2, 1, 0, 0, 0), (53, 15, 3, 8, 10, 38), (56, 1, 1, 3, 0, 0), (57, 19, 1, 0, 0, 0), (58, 6, 1, 0, 0, 0), (59, 14, 3, 0, 66, 0), (62, 1, 1, 2, 0, 0), (63, 1, 2, 4, 0, 0), (65, 6, 1, 0, 0, 0), (66, 3, 1, 2, 0, 0), (67, 5, 3, 3, 0, 1), (70, 14, 3, 0, 21, 0), (73, 1, 1, 2, 0, 0), (74, 50, 1, 0, 0, 0)]
/-- java/lang/Math.max(II)I -/
def ax_t136 : List (Nat × ax_R) := [(0, 1, 1, 0, 0, 0), (1, 1, 1, 1, 0, 0), (2, 13, 3, 2, 9, 0), (5, 1, 1, 0, 0, 0), (6, 14, 3, 0, 10, 0), (9, 1, 1, 1, 0, 0), (10, 50, 1, 0, 0, 0)]
/-- java/util/Arrays.fill([II)V -/
def ax_t137 : List (Nat × ax_R) := [(0, 0, 1, 0, 0, 0), (1, 3, 1, 2, 0, 0), (2, 2, 1, 0, 0, 0), (3, 27, 1, 0, 0, 0), (4, 3, 1, 3, 0, 0), (5, 1, 1, 2, 0, 0), (6, 1, 1, 3, 0, 0), (7, 13, 3, 3, 20, 0), (10, 2, 1, 0, 0, 0), (11, 1, 1, 2, 0, 0), (12, 1, 1, 1, 0, 0), (13, 20, 1, 0, 0, 0), (14, 5, 3, 2, 0, 1), (17, 14, 3, 0, 5, 0), (20, 51, 1, 0, 0, 0)]
def ax_tab : Nat → List (Nat × ax_R) := fun k => match k with
  | 0 => ax_t0
  | 1 => ax_t1
  | 2 => ax_t2
  | 3 => ax_t3
  | 4 => ax_t4
  | 5 => ax_t5
  | 6 => ax_t6
  | 7 => ax_t7
  | 8 => ax_t8
  | 9 => ax_t9
  | 10 => ax_t10
  | 11 => ax_t11
  | 12 => ax_t12
  | 13 => ax_t13
  | 14 => ax_t14
  | 15 => ax_t15
  | 16 => ax_t16
  | 17 => ax_t17
  | 18 => ax_t18
  | 19 => ax_t19
  | 20 => ax_t20
  | 21 => ax_t21
  | 22 => ax_t22
  | 23 => ax_t23
  | 24 => ax_t24
  | 25 => ax_t25
  | 26 => ax_t26
  | 27 => ax_t27
  | 28 => ax_t28
  | 29 => ax_t29
  | 30 => ax_t30
  | 31 => ax_t31
  | 32 => ax_t32
  | 33 => ax_t33
  | 34 => ax_t34
  | 35 => ax_t35
  | 36 => ax_t36
  | 37 => ax_t37
  | 38 => ax_t38
  | 39 => ax_t39
  | 40 => ax_t40
  | 41 => ax_t41
  | 42 => ax_t42
  | 43 => ax_t43
  | 44 => ax_t44
  | 45 => ax_t45
  | 46 => ax_t46
  | 47 => ax_t47
  | 48 => ax_t48
  | 49 => ax_t49
  | 50 => ax_t50
  | 51 => ax_t51
  | 52 => ax_t52
  | 53 => ax_t53
  | 54 => ax_t54
  | 55 => ax_t55
  | 56 => ax_t56
  | 57 => ax_t57
  | 58 => ax_t58
  | 59 => ax_t59
  | 60 => ax_t60
  | 61 => ax_t61
  | 62 => ax_t62
  | 63 => ax_t63
  | 64 => ax_t64
  | 65 => ax_t65
  | 66 => ax_t66
  | 67 => ax_t67
  | 68 => ax_t68
  | 69 => ax_t69
  | 70 => ax_t70
  | 71 => ax_t71
  | 72 => ax_t72
  | 73 => ax_t73
  | 74 => ax_t74
  | 75 => ax_t75
  | 76 => ax_t76
  | 77 => ax_t77
  | 78 => ax_t78
  | 79 => ax_t79
  | 80 => ax_t80
  | 81 => ax_t81
  | 82 => ax_t82
  | 83 => ax_t83
  | 84 => ax_t84
  | 85 => ax_t85
  | 86 => ax_t86
  | 87 => ax_t87
  | 88 => ax_t88
  | 89 => ax_t89
  | 90 => ax_t90
  | 91 => ax_t91
  | 92 => ax_t92
  | 93 => ax_t93
  | 94 => ax_t94
  | 95 => ax_t95
  | 96 => ax_t96
  | 97 => ax_t97
  | 98 => ax_t98
  | 99 => ax_t99
  | 100 => ax_t100
  | 101 => ax_t101
  | 102 => ax_t102
  | 103 => ax_t103
  | 104 => ax_t104
  | 105 => ax_t105
  | 106 => ax_t106
  | 107 => ax_t107
  | 108 => ax_t108
  | 109 => ax_t109
  | 110 => ax_t110
  | 111 => ax_t111
  | 112 => ax_t112
  | 113 => ax_t113
  | 114 => ax_t114
  | 115 => ax_t115
  | 116 => ax_t116
  | 117 => ax_t117
  | 118 => ax_t118
  | 119 => ax_t119
  | 120 => ax_t120
  | 121 => ax_t121
  | 122 => ax_t122
  | 123 => ax_t123
  | 124 => ax_t124
  | 125 => ax_t125
  | 126 => ax_t126
  | 127 => ax_t127
  | 128 => ax_t128
  | 129 => ax_t129
  | 130 => ax_t130
  | 131 => ax_t131
  | 132 => ax_t132
  | 133 => ax_t133
  | 134 => ax_t134
  | 135 => ax_t135
  | 136 => ax_t136
  | _ => ax_t137
def ax_Lf : List (Nat × Nat × Nat × Nat × Nat) := [(109, 0, 9, 0, 0), (112, 0, 15, 0, 1), (115, 0, 18, 0, 2), (118, 0, 21, 0, 3), (121, 0, 26, 0, 4), (123, 0, 31, 0, 5), (126, 0, 35, 0, 6), (129, 0, 39, 0, 7), (93, 1, 9, 1, 0), (96, 1, 15, 1, 1), (99, 1, 19, 1, 2), (232, 2, 9, 2, 0), (235, 2, 15, 2, 1), (237, 2, 19, 2, 2), (239, 2, 22, 2, 3), (201, 3, 11, 3, 1), (202, 3, 18, 3, 2), (203, 3, 22, 3, 3), (204, 3, 26, 3, 4), (200, 3, 30, 3, 0), (152, 3, 34, 5, 0), (205, 3, 40, 3, 5), (128, 3, 61, 0, 6), (186, 3, 66, 6, 5), (131, 3, 76, 0, 7), (122, 3, 79, 0, 4), (114, 3, 94, 0, 1), (117, 3, 97, 0, 2), (120, 3, 100, 0, 3), (111, 3, 107, 0, 0), (95, 3, 177, 1, 0), (182, 3, 165, 6, 3), (125, 3, 148, 0, 5), (98, 3, 160, 1, 1), (250, 4, 9, 4, 0), (252, 4, 15, 4, 1), (254, 4, 18, 4, 2), (256, 4, 22, 4, 3), (258, 4, 26, 4, 4), (261, 4, 31, 4, 6), (262, 4, 35, 4, 7), (263, 4, 38, 4, 8), (264, 4, 41, 4, 9), (260, 4, 44, 4, 5), (154, 4, 73, 5, 0), (236, 4, 63, 2, 1), (238, 4, 66, 2, 2), (110, 4, 85, 0, 0), (116, 4, 88, 0, 2), (119, 4, 91, 0, 3), (113, 4, 101, 0, 1), (233, 4, 108, 2, 0), (240, 4, 115, 2, 3), (132, 4, 118, 0, 7), (151, 5, 11, 5, 0), (155, 5, 19, 5, 1), (174, 6, 9, 6, 0), (176, 6, 15, 6, 1), (178, 6, 18, 6, 2), (180, 6, 21, 6, 3), (183, 6, 25, 6, 4), (185, 6, 29, 6, 5), (94, 6, 44, 1, 0), (97, 6, 49, 1, 1), (100, 6, 52, 1, 2), (286, 7, 12, 7, 0), (287, 7, 21, 7, 1), (288, 7, 28, 7, 2), (255, 7, 126, 4, 2), (153, 7, 53, 5, 0), (130, 7, 57, 0, 7), (124, 7, 74, 0, 5), (127, 7, 85, 0, 6), (184, 7, 106, 6, 4), (181, 7, 119, 6, 3), (257, 7, 135, 4, 3), (234, 7, 142, 2, 0), (259, 7, 148, 4, 4), (251, 7, 151, 4, 0), (253, 7, 154, 4, 1), (738, 8, 7, 8, 1), (739, 8, 13, 8, 2), (740, 8, 17, 8, 3), (741, 8, 20, 8, 4), (742, 8, 23, 8, 5), (743, 8, 26, 8, 6), (744, 8, 29, 8, 7), (745, 8, 32, 8, 8), (746, 8, 35, 8, 9), (747, 8, 38, 8, 10), (748, 8, 41, 8, 11), (749, 8, 44, 8, 12), (750, 8, 47, 8, 13), (751, 8, 50, 8, 14), (752, 8, 53, 8, 15), (753, 8, 56, 8, 16), (754, 8, 59, 8, 17), (755, 8, 62, 8, 18), (756, 8, 65, 8, 19), (759, 8, 68, 8, 22), (760, 8, 71, 8, 23), (761, 8, 74, 8, 24), (765, 8, 77, 8, 28), (766, 8, 80, 8, 29), (767, 8, 83, 8, 30), (768, 8, 86, 8, 31), (773, 8, 89, 8, 36), (774, 8, 92, 8, 37), (737, 8, 95, 8, 0), (763, 8, 111, 8, 26), (762, 8, 134, 8, 25), (757, 8, 128, 8, 20), (758, 8, 131, 8, 21), (764, 8, 188, 8, 27), (769, 8, 191, 8, 32), (770, 8, 194, 8, 33), (771, 8, 197, 8, 34), (772, 8, 200, 8, 35)]
def ax_Lg : List (Nat × Nat × Nat × Nat × Nat) := [(175, 3, 168, 6, 0), (177, 3, 145, 6, 1), (179, 3, 171, 6, 2)]
def ax_Lm : List (Nat × Nat × Nat × Nat × Nat) := [(66, 9, 66, 69, 0), (733, 9, 69, 91, 0), (296, 9, 70, 1, 0), (857, 9, 75, 93, 0), (853, 9, 76, 92, 0), (397, 9, 80, 2, 0), (871, 9, 83, 97, 0), (432, 9, 84, 3, 0), (881, 9, 87, 100, 0), (443, 9, 88, 4, 0), (885, 9, 91, 101, 0), (477, 9, 92, 5, 0), (895, 9, 95, 104, 0), (488, 9, 96, 6, 0), (899, 9, 98, 105, 0), (620, 9, 99, 7, 0), (959, 9, 102, 120, 0), (636, 9, 103, 8, 0), (967, 9, 106, 122, 0), (644, 9, 107, 9, 0), (971, 9, 110, 123, 0), (660, 9, 111, 10, 0), (979, 9, 113, 125, 0), (698, 9, 114, 11, 0), (1007, 9, 116, 132, 0), (709, 9, 117, 12, 0), (1011, 9, 119, 133, 0), (717, 9, 120, 13, 0), (1015, 9, 122, 134, 0), (724, 9, 123, 14, 0), (1019, 9, 125, 135, 0), (300, 9, 7, 70, 0), (401, 9, 15, 74, 0), (435, 9, 21, 76, 0), (447, 9, 25, 77, 0), (480, 9, 31, 80, 0), (491, 9, 35, 81, 0), (623, 9, 39, 83, 0), (639, 9, 43, 84, 0), (647, 9, 47, 85, 0), (663, 9, 51, 86, 0), (701, 9, 54, 87, 0), (712, 9, 57, 88, 0), (720, 9, 60, 89, 0), (727, 9, 63, 90, 0), (428, 0, 46, 21, 0), (429, 0, 50, 136, 0), (659, 2, 25, 137, 0), (394, 3, 44, 137, 0), (499, 3, 50, 27, 0), (503, 3, 54, 28, 0), (524, 3, 57, 29, 0), (555, 3, 70, 30, 0), (507, 3, 73, 56, 0), (512, 3, 83, 57, 0), (523, 3, 90, 58, 0), (528, 3, 136, 19, 0), (533, 3, 139, 59, 0), (559, 3, 103, 60, 0), (560, 3, 110, 31, 0), (564, 3, 113, 32, 0), (569, 3, 117, 33, 0), (593, 3, 121, 36, 0), (602, 3, 124, 37, 0), (607, 3, 127, 38, 0), (611, 3, 130, 39, 0), (616, 3, 133, 40, 0), (568, 3, 142, 63, 0), (573, 3, 186, 34, 0), (585, 3, 190, 35, 0), (577, 3, 152, 64, 0), (589, 3, 183, 66, 0), (597, 3, 174, 67, 0), (601, 3, 156, 53, 0), (606, 3, 180, 65, 0), (615, 3, 194, 54, 0), (655, 4, 49, 23, 0), (671, 4, 69, 45, 0), (675, 4, 59, 46, 0), (680, 4, 79, 19, 0), (681, 4, 94, 47, 0), (685, 4, 98, 48, 0), (689, 4, 104, 49, 0), (694, 4, 111, 50, 0), (679, 4, 53, 136, 0), (83, 5, 23, 15, 0), (511, 6, 32, 137, 0), (516, 6, 55, 58, 0), (537, 6, 67, 60, 0), (544, 6, 71, 61, 0), (548, 6, 75, 62, 0), (551, 6, 63, 63, 0), (581, 6, 59, 65, 0), (74, 7, 11, 52, 0), (163, 7, 18, 24, 0), (221, 7, 27, 42, 0), (304, 7, 32, 71, 0), (307, 7, 36, 72, 0), (378, 7, 40, 53, 0), (382, 7, 44, 21, 0), (386, 7, 50, 73, 0), (390, 7, 157, 25, 0), (405, 7, 63, 75, 0), (424, 7, 66, 16, 0), (439, 7, 70, 54, 0), (451, 7, 78, 78, 0), (470, 7, 81, 79, 0), (473, 7, 88, 17, 0), (484, 7, 92, 18, 0), (495, 7, 95, 26, 0), (627, 7, 99, 19, 0), (628, 7, 102, 41, 0), (632, 7, 112, 68, 0), (643, 7, 116, 82, 0), (651, 7, 122, 43, 0), (667, 7, 129, 44, 0), (705, 7, 133, 51, 0), (716, 7, 138, 46, 0), (861, 8, 99, 94, 0), (864, 8, 103, 95, 0), (867, 8, 107, 96, 0), (875, 8, 115, 98, 0), (878, 8, 118, 99, 0), (889, 8, 124, 102, 0), (892, 8, 121, 103, 0), (903, 8, 182, 106, 0), (907, 8, 152, 107, 0), (915, 8, 179, 109, 0), (911, 8, 137, 108, 0), (919, 8, 173, 110, 0), (927, 8, 176, 112, 0), (923, 8, 141, 111, 0), (931, 8, 148, 113, 0), (935, 8, 155, 114, 0), (943, 8, 159, 116, 0), (947, 8, 163, 117, 0), (951, 8, 167, 118, 0), (955, 8, 170, 119, 0), (939, 8, 144, 115, 0), (963, 8, 185, 121, 0), (975, 8, 203, 124, 0), (983, 8, 222, 126, 0), (995, 8, 225, 129, 0), (987, 8, 207, 127, 0), (991, 8, 211, 128, 0), (999, 8, 215, 130, 0), (1003, 8, 218, 131, 0)]
def ax_Ln : List (Nat × Nat × Nat × Nat × Nat) := [(89, 0, 30, 20, 0), (532, 0, 42, 71, 0), (170, 3, 17, 55, 0), (520, 3, 87, 82, 0), (228, 4, 48, 22, 0), (693, 4, 121, 82, 0), (150, 5, 24, 20, 0)]
def ax_Lc : List (Nat × Nat × Nat × Nat × Nat) := [(64, 9, 8, 7, 0), (731, 9, 67, 8, 0), (87, 0, 24, 1, 0), (167, 3, 9, 6, 0), (225, 4, 29, 2, 0), (78, 5, 9, 0, 0), (80, 5, 17, 1, 0), (72, 7, 9, 5, 0), (161, 7, 16, 3, 0), (219, 7, 25, 4, 0)]
def ax_Lo : List (Nat × Nat × Nat × Nat × Nat) := [(86, 0, 3, 0, 0), (92, 1, 3, 0, 0), (231, 2, 3, 0, 0), (166, 3, 3, 0, 0), (224, 4, 3, 0, 0), (77, 5, 3, 0, 0), (173, 6, 3, 0, 0), (69, 7, 3, 0, 0), (736, 8, 1, 0, 0)]
def ax_La : List (Nat × Nat × Nat × Nat × Nat) := [(541, 6, 38, 0, 0)]
def ax_code (k pc : Nat) : Option ax_R := (ax_tab k).lookup pc
end
section
/-! what a row of a method must be to stand for its instruction: a check by program -/
def ax_ld (cc : ByteArray) (pc n x : Nat) (f : Fin 4 → Instr) (g : Nat → Instr) : Bool := (if h : x < 4 then decide (decode cc pc = .ok (f ⟨x, h⟩, 1) ∧ n = 1) else false) || decide (decode cc pc = .ok (g x, 2) ∧ n = 2)
theorem ax_ld_of {cc : ByteArray} {pc n x : Nat} {f : Fin 4 → Instr} {g : Nat → Instr} (h : ax_ld cc pc n x f g = true) : (∃ k : Fin 4, (k : Nat) = x ∧ decode cc pc = .ok (f k, 1) ∧ n = 1) ∨ (decode cc pc = .ok (g x, 2) ∧ n = 2) := by
  unfold ax_ld at h
  rw [Bool.or_eq_true] at h
  rcases h with h | h
  · split at h
    · rename_i hx
      exact Or.inl ⟨⟨x, hx⟩, rfl, of_decide_eq_true h⟩
    · cases h
  · exact Or.inr (of_decide_eq_true h)
def ax_d1 (cc : ByteArray) (pc n : Nat) (i : Instr) (l : Nat) : Bool := decide (decode cc pc = .ok (i, l) ∧ n = l)
def ax_lk (L : List (Nat × Nat × Nat × Nat × Nat)) (own : Nat) (v : Int) (x y : Nat) : Bool := L.any fun q => q.2.1 == own && (q.2.2.1 == v.toNat && (q.2.2.2.1 == x && q.2.2.2.2 == y))
def ax_callok (k x y : Nat) (np : Nat) : Bool := decide (x < 138 ∧ 0 < x ∧ y = np ∧ ax_fr x + 1 ≤ ax_fr k ∧ 8 + (ax_ml x + 11) + ax_lo x ≤ ax_lo k)
def ax_np : Nat → Nat := fun k => match k with
  | 0 => 1
  | 1 => 5
  | 2 => 7
  | 3 => 5
  | 4 => 7
  | 5 => 3
  | 6 => 3
  | 7 => 6
  | 8 => 4
  | 9 => 2
  | 10 => 3
  | 11 => 3
  | 12 => 3
  | 13 => 4
  | 14 => 3
  | 15 => 1
  | 16 => 5
  | 17 => 5
  | 18 => 1
  | 19 => 2
  | 20 => 1
  | 21 => 4
  | 22 => 1
  | 23 => 2
  | 24 => 2
  | 25 => 1
  | 26 => 2
  | 27 => 2
  | 28 => 2
  | 29 => 2
  | 30 => 2
  | 31 => 2
  | 32 => 3
  | 33 => 4
  | 34 => 3
  | 35 => 3
  | 36 => 4
  | 37 => 4
  | 38 => 4
  | 39 => 4
  | 40 => 2
  | 41 => 3
  | 42 => 2
  | 43 => 2
  | 44 => 2
  | 45 => 1
  | 46 => 1
  | 47 => 4
  | 48 => 4
  | 49 => 3
  | 50 => 4
  | 51 => 2
  | 52 => 1
  | 53 => 3
  | 54 => 2
  | 55 => 1
  | 56 => 1
  | 57 => 3
  | 58 => 5
  | 59 => 2
  | 60 => 2
  | 61 => 3
  | 62 => 2
  | 63 => 2
  | 64 => 3
  | 65 => 3
  | 66 => 2
  | 67 => 2
  | 68 => 3
  | 69 => 1
  | 70 => 5
  | 71 => 2
  | 72 => 1
  | 73 => 1
  | 74 => 6
  | 75 => 1
  | 76 => 5
  | 77 => 6
  | 78 => 1
  | 79 => 4
  | 80 => 2
  | 81 => 2
  | 82 => 1
  | 83 => 5
  | 84 => 3
  | 85 => 2
  | 86 => 2
  | 87 => 2
  | 88 => 2
  | 89 => 3
  | 90 => 2
  | 91 => 1
  | 92 => 1
  | 93 => 5
  | 94 => 1
  | 95 => 3
  | 96 => 4
  | 97 => 6
  | 98 => 1
  | 99 => 1
  | 100 => 5
  | 101 => 6
  | 102 => 4
  | 103 => 1
  | 104 => 2
  | 105 => 2
  | 106 => 2
  | 107 => 3
  | 108 => 3
  | 109 => 3
  | 110 => 5
  | 111 => 2
  | 112 => 6
  | 113 => 6
  | 114 => 3
  | 115 => 5
  | 116 => 3
  | 117 => 5
  | 118 => 5
  | 119 => 3
  | 120 => 5
  | 121 => 3
  | 122 => 3
  | 123 => 2
  | 124 => 4
  | 125 => 2
  | 126 => 1
  | 127 => 1
  | 128 => 2
  | 129 => 1
  | 130 => 2
  | 131 => 2
  | 132 => 2
  | 133 => 2
  | 134 => 3
  | 135 => 2
  | 136 => 2
  | _ => 2
def ax_st : Nat → Bool := fun k => match k with
  | 0 => true
  | 1 => true
  | 2 => true
  | 3 => true
  | 4 => true
  | 5 => true
  | 6 => true
  | 7 => true
  | 8 => true
  | 9 => true
  | 10 => true
  | 11 => true
  | 12 => true
  | 13 => true
  | 14 => true
  | 15 => false
  | 16 => false
  | 17 => false
  | 18 => false
  | 19 => false
  | 20 => false
  | 21 => false
  | 22 => false
  | 23 => false
  | 24 => false
  | 25 => false
  | 26 => false
  | 27 => false
  | 28 => false
  | 29 => false
  | 30 => false
  | 31 => false
  | 32 => false
  | 33 => false
  | 34 => false
  | 35 => false
  | 36 => false
  | 37 => false
  | 38 => false
  | 39 => false
  | 40 => false
  | 41 => false
  | 42 => false
  | 43 => false
  | 44 => false
  | 45 => false
  | 46 => false
  | 47 => false
  | 48 => false
  | 49 => false
  | 50 => false
  | 51 => false
  | 52 => false
  | 53 => false
  | 54 => false
  | 55 => false
  | 56 => false
  | 57 => false
  | 58 => false
  | 59 => false
  | 60 => false
  | 61 => false
  | 62 => true
  | 63 => false
  | 64 => false
  | 65 => false
  | 66 => false
  | 67 => false
  | 68 => false
  | 69 => false
  | 70 => false
  | 71 => true
  | 72 => true
  | 73 => false
  | 74 => false
  | 75 => true
  | 76 => false
  | 77 => false
  | 78 => true
  | 79 => true
  | 80 => false
  | 81 => false
  | 82 => true
  | 83 => false
  | 84 => false
  | 85 => false
  | 86 => false
  | 87 => false
  | 88 => false
  | 89 => false
  | 90 => false
  | 91 => false
  | 92 => false
  | 93 => false
  | 94 => true
  | 95 => true
  | 96 => false
  | 97 => false
  | 98 => true
  | 99 => true
  | 100 => false
  | 101 => false
  | 102 => true
  | 103 => true
  | 104 => false
  | 105 => false
  | 106 => false
  | 107 => false
  | 108 => false
  | 109 => false
  | 110 => false
  | 111 => false
  | 112 => false
  | 113 => false
  | 114 => false
  | 115 => false
  | 116 => false
  | 117 => false
  | 118 => false
  | 119 => false
  | 120 => false
  | 121 => false
  | 122 => false
  | 123 => false
  | 124 => false
  | 125 => false
  | 126 => false
  | 127 => false
  | 128 => false
  | 129 => false
  | 130 => false
  | 131 => false
  | 132 => false
  | 133 => false
  | 134 => false
  | 135 => false
  | 136 => true
  | _ => true
/-- a new exception of the kind: the entries of its class, of its text, of its constructor -/
def ax_tx (x : Nat) : Nat × Nat × Nat := match x with
  | 0 => (160, 162, 164)
  | 1 => (167, 169, 171)
  | _ => (172, 174, 176)
def ax_rc (k pc op n x y : Nat) (v : Int) : Bool := match op with
  | 0 => decide (decode (ax_by k) pc = .ok (.iconst v, 1) ∧ n = 1) || (decide (decode (ax_by k) pc = .ok (.bipush v, 2) ∧ n = 2 ∧ (Int8.ofInt v).toInt32 = Int32.ofInt v) || decide (decode (ax_by k) pc = .ok (.sipush v, 3) ∧ n = 3 ∧ (Int16.ofInt v).toInt32 = Int32.ofInt v))
  | 1 => ax_ld (ax_by k) pc n x .iload_n .iload
  | 2 => ax_ld (ax_by k) pc n x .aload_n .aload
  | 3 => ax_ld (ax_by k) pc n x .istore_n .istore
  | 4 => ax_ld (ax_by k) pc n x .astore_n .astore
  | 5 => ax_d1 (ax_by k) pc n (.iinc x v) 3
  | 6 => ax_d1 (ax_by k) pc n (ax_i6 x) 1
  | 7 => ax_d1 (ax_by k) pc n .i2l 1
  | 8 => ax_d1 (ax_by k) pc n .lcmp 1
  | 9 => if h : x < 2 then ax_d1 (ax_by k) pc n (.lconst ⟨x, h⟩) 1 else false
  | 10 => ax_d1 (ax_by k) pc n .dup 1
  | 11 => ax_d1 (ax_by k) pc n .dup2 1
  | 12 => ax_d1 (ax_by k) pc n (ax_i12 x ((y : Int) - pc)) 3
  | 13 => ax_d1 (ax_by k) pc n (ax_i13 x ((y : Int) - pc)) 3
  | 14 => ax_d1 (ax_by k) pc n (.goto ((y : Int) - pc)) 3
  | 15 => ax_d1 (ax_by k) pc n (.getfield v.toNat) 3 && ax_lk ax_Lf (ax_wn k) v x y
  | 16 => ax_d1 (ax_by k) pc n (.getfield v.toNat) 3 && ax_lk ax_Lg (ax_wn k) v x y
  | 17 => ax_d1 (ax_by k) pc n (.putfield v.toNat) 3 && decide ((ax_Tf x y).2.2.2 = false) && ax_lk ax_Lf (ax_wn k) v x y
  | 18 => ax_d1 (ax_by k) pc n (.putfield v.toNat) 3 && decide ((ax_Tf x y).2.2.2 = true ∧ ax_nm k = "<init>" ∧ ax_cn x = ax_ow k) && ax_lk ax_Lf (ax_wn k) v x y
  | 19 => ax_d1 (ax_by k) pc n .iaload 1
  | 20 => ax_d1 (ax_by k) pc n .iastore 1
  | 21 => ax_d1 (ax_by k) pc n .baload 1
  | 22 => ax_d1 (ax_by k) pc n .bastore 1
  | 23 => ax_d1 (ax_by k) pc n .laload 1
  | 24 => ax_d1 (ax_by k) pc n .lastore 1
  | 25 => ax_d1 (ax_by k) pc n .aaload 1
  | 26 => ax_d1 (ax_by k) pc n .aastore 1
  | 27 => ax_d1 (ax_by k) pc n .arraylength 1
  | 28 => ax_d1 (ax_by k) pc n (.new v.toNat) 3 && ax_lk ax_Lc (ax_wn k) v x 0
  | 29 => ax_d1 (ax_by k) pc n (.newarray (ax_at x)) 2
  | 30 => ax_d1 (ax_by k) pc n (.anewarray v.toNat) 3 && ax_lk ax_Lc (ax_wn k) v x 0
  | 31 => ax_d1 (ax_by k) pc n (.invokespecial v.toNat) 3 && ax_lk ax_Lo (ax_wn k) v 0 0 && decide (1 ≤ ax_fr k ∧ 20 ≤ ax_lo k)
  | 32 => ax_d1 (ax_by k) pc n (.invokestatic v.toNat) 3 && ax_lk ax_La (ax_wn k) v 0 0 && decide (1 ≤ ax_fr k ∧ nativeFrameWords "java/lang/System" "arraycopy" 5 + 11 ≤ ax_lo k)
  | 33 => decide (decode (ax_by k) pc = .ok (ax_i33 pc (ax_sw x), n))
  | 34 => ax_d1 (ax_by k) pc n .iaload 1
  | 40 => ax_d1 (ax_by k) pc n (.invokestatic v.toNat) 3 && ax_lk ax_Lm (ax_wn k) v x 0 && ax_callok k x y (ax_np x) && ax_st x
  | 41 => ax_d1 (ax_by k) pc n (.invokestatic v.toNat) 3 && ax_lk ax_Ln (ax_wn k) v x 0 && ax_callok k x y (ax_np x) && ax_st x
  | 42 => ax_d1 (ax_by k) pc n (.invokevirtual v.toNat) 3 && ax_lk ax_Lm (ax_wn k) v x 0 && ax_callok k x y (ax_np x) && !ax_st x
  | 43 => ax_d1 (ax_by k) pc n (.invokespecial v.toNat) 3 && ax_lk ax_Lm (ax_wn k) v x 0 && ax_callok k x y (ax_np x) && !ax_st x && decide (ax_nm x = "<init>")
  | 44 => ax_d1 (ax_by k) pc n (.invokespecial v.toNat) 3 && ax_lk ax_Ln (ax_wn k) v x 0 && ax_callok k x y (ax_np x) && !ax_st x && decide (ax_nm x = "<init>")
  | 50 => ax_d1 (ax_by k) pc n .ireturn 1 && decide (ax_rt k = some .int ∨ ax_rt k = some .boolean)
  | 51 => ax_d1 (ax_by k) pc n .return_ 1 && decide (ax_rt k = none)
  | 52 => ax_d1 (ax_by k) pc n .areturn 1 && (match ax_rt k with | some (.object _) => true | _ => false)
  | 53 => ax_d1 (ax_by k) pc n (.new v.toNat) 3 && decide (decode (ax_by k) (pc + 3) = .ok (.dup, 1) ∧ decode (ax_by k) (pc + 4) = .ok (.ldc (ax_tx x).2.1, 2) ∧ decode (ax_by k) (pc + 6) = .ok (.invokespecial (ax_tx x).2.2, 3) ∧ decode (ax_by k) (pc + 9) = .ok (.athrow, 1)) && decide (ax_wn k = 7 ∧ x < 3 ∧ v.toNat = (ax_tx x).1 ∧ 6 ≤ ax_fr k ∧ 100 ≤ ax_lo k ∧ ax_hx k = [])
  | _ => false
def ax_rca (k : Nat) (q : Nat × ax_R) : Bool := ax_rc k q.1 q.2.1 q.2.2.1 q.2.2.2.1 q.2.2.2.2.1 q.2.2.2.2.2
end
section
/-! each row of each method holds: by program; written by wip/tools (chunks keep the memory small) -/
theorem ax_k0_0 : ax_t0_0.all (ax_rca 0) = true := by decide +kernel
theorem ax_k0_1 : ax_t0_1.all (ax_rca 0) = true := by decide +kernel
theorem ax_k0_2 : ax_t0_2.all (ax_rca 0) = true := by decide +kernel
theorem ax_k0_3 : ax_t0_3.all (ax_rca 0) = true := by decide +kernel
theorem ax_k0_4 : ax_t0_4.all (ax_rca 0) = true := by decide +kernel
theorem ax_k0_5 : ax_t0_5.all (ax_rca 0) = true := by decide +kernel
theorem ax_k0_6 : ax_t0_6.all (ax_rca 0) = true := by decide +kernel
theorem ax_k0_7 : ax_t0_7.all (ax_rca 0) = true := by decide +kernel
theorem ax_k0_8 : ax_t0_8.all (ax_rca 0) = true := by decide +kernel
theorem ax_k0_9 : ax_t0_9.all (ax_rca 0) = true := by decide +kernel
theorem ax_k0_10 : ax_t0_10.all (ax_rca 0) = true := by decide +kernel
theorem ax_k0_11 : ax_t0_11.all (ax_rca 0) = true := by decide +kernel
theorem ax_k0 : (ax_tab 0).all (ax_rca 0) = true := by
  show ax_t0.all (ax_rca 0) = true
  unfold ax_t0
  simp only [List.all_append, ax_k0_0, ax_k0_1, ax_k0_2, ax_k0_3, ax_k0_4, ax_k0_5, ax_k0_6, ax_k0_7, ax_k0_8, ax_k0_9, ax_k0_10, ax_k0_11, Bool.and_self]
end
section
/-! each row of each method holds: by program; written by wip/tools (chunks keep the memory small) -/
theorem ax_k2 : (ax_tab 2).all (ax_rca 2) = true := by decide +kernel
theorem ax_k3 : (ax_tab 3).all (ax_rca 3) = true := by decide +kernel
theorem ax_k10 : (ax_tab 10).all (ax_rca 10) = true := by decide +kernel
theorem ax_k12 : (ax_tab 12).all (ax_rca 12) = true := by decide +kernel
theorem ax_k16 : (ax_tab 16).all (ax_rca 16) = true := by decide +kernel
theorem ax_k17 : (ax_tab 17).all (ax_rca 17) = true := by decide +kernel
theorem ax_k18 : (ax_tab 18).all (ax_rca 18) = true := by decide +kernel
theorem ax_k21 : (ax_tab 21).all (ax_rca 21) = true := by decide +kernel
theorem ax_k24 : (ax_tab 24).all (ax_rca 24) = true := by decide +kernel
theorem ax_k28 : (ax_tab 28).all (ax_rca 28) = true := by decide +kernel
theorem ax_k29 : (ax_tab 29).all (ax_rca 29) = true := by decide +kernel
theorem ax_k30_0 : ax_t30_0.all (ax_rca 30) = true := by decide +kernel
theorem ax_k30_1 : ax_t30_1.all (ax_rca 30) = true := by decide +kernel
theorem ax_k30_2 : ax_t30_2.all (ax_rca 30) = true := by decide +kernel
theorem ax_k30 : (ax_tab 30).all (ax_rca 30) = true := by
  show ax_t30.all (ax_rca 30) = true
  unfold ax_t30
  simp only [List.all_append, ax_k30_0, ax_k30_1, ax_k30_2, Bool.and_self]
theorem ax_k34 : (ax_tab 34).all (ax_rca 34) = true := by decide +kernel
theorem ax_k36 : (ax_tab 36).all (ax_rca 36) = true := by decide +kernel
theorem ax_k37 : (ax_tab 37).all (ax_rca 37) = true := by decide +kernel
theorem ax_k41 : (ax_tab 41).all (ax_rca 41) = true := by decide +kernel
theorem ax_k49 : (ax_tab 49).all (ax_rca 49) = true := by decide +kernel
theorem ax_k51 : (ax_tab 51).all (ax_rca 51) = true := by decide +kernel
theorem ax_k53 : (ax_tab 53).all (ax_rca 53) = true := by decide +kernel
theorem ax_k55 : (ax_tab 55).all (ax_rca 55) = true := by decide +kernel
theorem ax_k57 : (ax_tab 57).all (ax_rca 57) = true := by decide +kernel
theorem ax_k59 : (ax_tab 59).all (ax_rca 59) = true := by decide +kernel
theorem ax_k63 : (ax_tab 63).all (ax_rca 63) = true := by decide +kernel
theorem ax_k66 : (ax_tab 66).all (ax_rca 66) = true := by decide +kernel
theorem ax_k69 : (ax_tab 69).all (ax_rca 69) = true := by decide +kernel
theorem ax_k75 : (ax_tab 75).all (ax_rca 75) = true := by decide +kernel
theorem ax_k76 : (ax_tab 76).all (ax_rca 76) = true := by decide +kernel
theorem ax_k77 : (ax_tab 77).all (ax_rca 77) = true := by decide +kernel
theorem ax_k83 : (ax_tab 83).all (ax_rca 83) = true := by decide +kernel
theorem ax_k85 : (ax_tab 85).all (ax_rca 85) = true := by decide +kernel
theorem ax_k88 : (ax_tab 88).all (ax_rca 88) = true := by decide +kernel
theorem ax_k92 : (ax_tab 92).all (ax_rca 92) = true := by decide +kernel
theorem ax_k94 : (ax_tab 94).all (ax_rca 94) = true := by decide +kernel
theorem ax_k97_0 : ax_t97_0.all (ax_rca 97) = true := by decide +kernel
theorem ax_k97_1 : ax_t97_1.all (ax_rca 97) = true := by decide +kernel
theorem ax_k97 : (ax_tab 97).all (ax_rca 97) = true := by
  show ax_t97.all (ax_rca 97) = true
  unfold ax_t97
  simp only [List.all_append, ax_k97_0, ax_k97_1, Bool.and_self]
theorem ax_k102 : (ax_tab 102).all (ax_rca 102) = true := by decide +kernel
theorem ax_k103 : (ax_tab 103).all (ax_rca 103) = true := by decide +kernel
theorem ax_k109_0 : ax_t109_0.all (ax_rca 109) = true := by decide +kernel
theorem ax_k109_1 : ax_t109_1.all (ax_rca 109) = true := by decide +kernel
theorem ax_k109 : (ax_tab 109).all (ax_rca 109) = true := by
  show ax_t109.all (ax_rca 109) = true
  unfold ax_t109
  simp only [List.all_append, ax_k109_0, ax_k109_1, Bool.and_self]
theorem ax_k110 : (ax_tab 110).all (ax_rca 110) = true := by decide +kernel
theorem ax_k116 : (ax_tab 116).all (ax_rca 116) = true := by decide +kernel
theorem ax_k118_0 : ax_t118_0.all (ax_rca 118) = true := by decide +kernel
theorem ax_k118_1 : ax_t118_1.all (ax_rca 118) = true := by decide +kernel
theorem ax_k118 : (ax_tab 118).all (ax_rca 118) = true := by
  show ax_t118.all (ax_rca 118) = true
  unfold ax_t118
  simp only [List.all_append, ax_k118_0, ax_k118_1, Bool.and_self]
theorem ax_k123 : (ax_tab 123).all (ax_rca 123) = true := by decide +kernel
theorem ax_k124_0 : ax_t124_0.all (ax_rca 124) = true := by decide +kernel
theorem ax_k124_1 : ax_t124_1.all (ax_rca 124) = true := by decide +kernel
theorem ax_k124 : (ax_tab 124).all (ax_rca 124) = true := by
  show ax_t124.all (ax_rca 124) = true
  unfold ax_t124
  simp only [List.all_append, ax_k124_0, ax_k124_1, Bool.and_self]
theorem ax_k130 : (ax_tab 130).all (ax_rca 130) = true := by decide +kernel
theorem ax_k131 : (ax_tab 131).all (ax_rca 131) = true := by decide +kernel
theorem ax_k136 : (ax_tab 136).all (ax_rca 136) = true := by decide +kernel
theorem ax_k137 : (ax_tab 137).all (ax_rca 137) = true := by decide +kernel
end
section
/-! each row of each method holds: by program; written by wip/tools (chunks keep the memory small) -/
theorem ax_k4 : (ax_tab 4).all (ax_rca 4) = true := by decide +kernel
theorem ax_k7 : (ax_tab 7).all (ax_rca 7) = true := by decide +kernel
theorem ax_k9 : (ax_tab 9).all (ax_rca 9) = true := by decide +kernel
theorem ax_k11 : (ax_tab 11).all (ax_rca 11) = true := by decide +kernel
theorem ax_k13 : (ax_tab 13).all (ax_rca 13) = true := by decide +kernel
theorem ax_k19 : (ax_tab 19).all (ax_rca 19) = true := by decide +kernel
theorem ax_k23 : (ax_tab 23).all (ax_rca 23) = true := by decide +kernel
theorem ax_k25 : (ax_tab 25).all (ax_rca 25) = true := by decide +kernel
theorem ax_k26 : (ax_tab 26).all (ax_rca 26) = true := by decide +kernel
theorem ax_k32 : (ax_tab 32).all (ax_rca 32) = true := by decide +kernel
theorem ax_k35 : (ax_tab 35).all (ax_rca 35) = true := by decide +kernel
theorem ax_k38 : (ax_tab 38).all (ax_rca 38) = true := by decide +kernel
theorem ax_k40 : (ax_tab 40).all (ax_rca 40) = true := by decide +kernel
theorem ax_k42 : (ax_tab 42).all (ax_rca 42) = true := by decide +kernel
theorem ax_k43 : (ax_tab 43).all (ax_rca 43) = true := by decide +kernel
theorem ax_k45_0 : ax_t45_0.all (ax_rca 45) = true := by decide +kernel
theorem ax_k45_1 : ax_t45_1.all (ax_rca 45) = true := by decide +kernel
theorem ax_k45 : (ax_tab 45).all (ax_rca 45) = true := by
  show ax_t45.all (ax_rca 45) = true
  unfold ax_t45
  simp only [List.all_append, ax_k45_0, ax_k45_1, Bool.and_self]
theorem ax_k46 : (ax_tab 46).all (ax_rca 46) = true := by decide +kernel
theorem ax_k48 : (ax_tab 48).all (ax_rca 48) = true := by decide +kernel
theorem ax_k50_0 : ax_t50_0.all (ax_rca 50) = true := by decide +kernel
theorem ax_k50_1 : ax_t50_1.all (ax_rca 50) = true := by decide +kernel
theorem ax_k50 : (ax_tab 50).all (ax_rca 50) = true := by
  show ax_t50.all (ax_rca 50) = true
  unfold ax_t50
  simp only [List.all_append, ax_k50_0, ax_k50_1, Bool.and_self]
theorem ax_k54 : (ax_tab 54).all (ax_rca 54) = true := by decide +kernel
theorem ax_k58 : (ax_tab 58).all (ax_rca 58) = true := by decide +kernel
theorem ax_k64 : (ax_tab 64).all (ax_rca 64) = true := by decide +kernel
theorem ax_k65 : (ax_tab 65).all (ax_rca 65) = true := by decide +kernel
theorem ax_k67 : (ax_tab 67).all (ax_rca 67) = true := by decide +kernel
theorem ax_k70 : (ax_tab 70).all (ax_rca 70) = true := by decide +kernel
theorem ax_k71 : (ax_tab 71).all (ax_rca 71) = true := by decide +kernel
theorem ax_k79 : (ax_tab 79).all (ax_rca 79) = true := by decide +kernel
theorem ax_k80 : (ax_tab 80).all (ax_rca 80) = true := by decide +kernel
theorem ax_k84 : (ax_tab 84).all (ax_rca 84) = true := by decide +kernel
theorem ax_k87 : (ax_tab 87).all (ax_rca 87) = true := by decide +kernel
theorem ax_k91_0 : ax_t91_0.all (ax_rca 91) = true := by decide +kernel
theorem ax_k91_1 : ax_t91_1.all (ax_rca 91) = true := by decide +kernel
theorem ax_k91 : (ax_tab 91).all (ax_rca 91) = true := by
  show ax_t91.all (ax_rca 91) = true
  unfold ax_t91
  simp only [List.all_append, ax_k91_0, ax_k91_1, Bool.and_self]
theorem ax_k93 : (ax_tab 93).all (ax_rca 93) = true := by decide +kernel
theorem ax_k95 : (ax_tab 95).all (ax_rca 95) = true := by decide +kernel
theorem ax_k98 : (ax_tab 98).all (ax_rca 98) = true := by decide +kernel
theorem ax_k105 : (ax_tab 105).all (ax_rca 105) = true := by decide +kernel
theorem ax_k106_0 : ax_t106_0.all (ax_rca 106) = true := by decide +kernel
theorem ax_k106_1 : ax_t106_1.all (ax_rca 106) = true := by decide +kernel
theorem ax_k106_2 : ax_t106_2.all (ax_rca 106) = true := by decide +kernel
theorem ax_k106 : (ax_tab 106).all (ax_rca 106) = true := by
  show ax_t106.all (ax_rca 106) = true
  unfold ax_t106
  simp only [List.all_append, ax_k106_0, ax_k106_1, ax_k106_2, Bool.and_self]
theorem ax_k107_0 : ax_t107_0.all (ax_rca 107) = true := by decide +kernel
theorem ax_k107_1 : ax_t107_1.all (ax_rca 107) = true := by decide +kernel
theorem ax_k107 : (ax_tab 107).all (ax_rca 107) = true := by
  show ax_t107.all (ax_rca 107) = true
  unfold ax_t107
  simp only [List.all_append, ax_k107_0, ax_k107_1, Bool.and_self]
theorem ax_k114 : (ax_tab 114).all (ax_rca 114) = true := by decide +kernel
theorem ax_k117 : (ax_tab 117).all (ax_rca 117) = true := by decide +kernel
theorem ax_k122 : (ax_tab 122).all (ax_rca 122) = true := by decide +kernel
theorem ax_k125 : (ax_tab 125).all (ax_rca 125) = true := by decide +kernel
theorem ax_k126_0 : ax_t126_0.all (ax_rca 126) = true := by decide +kernel
theorem ax_k126_1 : ax_t126_1.all (ax_rca 126) = true := by decide +kernel
theorem ax_k126 : (ax_tab 126).all (ax_rca 126) = true := by
  show ax_t126.all (ax_rca 126) = true
  unfold ax_t126
  simp only [List.all_append, ax_k126_0, ax_k126_1, Bool.and_self]
theorem ax_k127 : (ax_tab 127).all (ax_rca 127) = true := by decide +kernel
theorem ax_k128 : (ax_tab 128).all (ax_rca 128) = true := by decide +kernel
theorem ax_k132 : (ax_tab 132).all (ax_rca 132) = true := by decide +kernel
end
section
/-! each row of each method holds: by program; written by wip/tools (chunks keep the memory small) -/
theorem ax_k1 : (ax_tab 1).all (ax_rca 1) = true := by decide +kernel
theorem ax_k5 : (ax_tab 5).all (ax_rca 5) = true := by decide +kernel
theorem ax_k6 : (ax_tab 6).all (ax_rca 6) = true := by decide +kernel
theorem ax_k8 : (ax_tab 8).all (ax_rca 8) = true := by decide +kernel
theorem ax_k14 : (ax_tab 14).all (ax_rca 14) = true := by decide +kernel
theorem ax_k15 : (ax_tab 15).all (ax_rca 15) = true := by decide +kernel
theorem ax_k20 : (ax_tab 20).all (ax_rca 20) = true := by decide +kernel
theorem ax_k22 : (ax_tab 22).all (ax_rca 22) = true := by decide +kernel
theorem ax_k27 : (ax_tab 27).all (ax_rca 27) = true := by decide +kernel
theorem ax_k31 : (ax_tab 31).all (ax_rca 31) = true := by decide +kernel
theorem ax_k33 : (ax_tab 33).all (ax_rca 33) = true := by decide +kernel
theorem ax_k39 : (ax_tab 39).all (ax_rca 39) = true := by decide +kernel
theorem ax_k44 : (ax_tab 44).all (ax_rca 44) = true := by decide +kernel
theorem ax_k47 : (ax_tab 47).all (ax_rca 47) = true := by decide +kernel
theorem ax_k52 : (ax_tab 52).all (ax_rca 52) = true := by decide +kernel
theorem ax_k56 : (ax_tab 56).all (ax_rca 56) = true := by decide +kernel
theorem ax_k60 : (ax_tab 60).all (ax_rca 60) = true := by decide +kernel
theorem ax_k61_0 : ax_t61_0.all (ax_rca 61) = true := by decide +kernel
theorem ax_k61_1 : ax_t61_1.all (ax_rca 61) = true := by decide +kernel
theorem ax_k61 : (ax_tab 61).all (ax_rca 61) = true := by
  show ax_t61.all (ax_rca 61) = true
  unfold ax_t61
  simp only [List.all_append, ax_k61_0, ax_k61_1, Bool.and_self]
theorem ax_k62 : (ax_tab 62).all (ax_rca 62) = true := by decide +kernel
theorem ax_k68 : (ax_tab 68).all (ax_rca 68) = true := by decide +kernel
theorem ax_k72 : (ax_tab 72).all (ax_rca 72) = true := by decide +kernel
theorem ax_k73 : (ax_tab 73).all (ax_rca 73) = true := by decide +kernel
theorem ax_k74 : (ax_tab 74).all (ax_rca 74) = true := by decide +kernel
theorem ax_k78 : (ax_tab 78).all (ax_rca 78) = true := by decide +kernel
theorem ax_k81 : (ax_tab 81).all (ax_rca 81) = true := by decide +kernel
theorem ax_k82 : (ax_tab 82).all (ax_rca 82) = true := by decide +kernel
theorem ax_k86 : (ax_tab 86).all (ax_rca 86) = true := by decide +kernel
theorem ax_k89 : (ax_tab 89).all (ax_rca 89) = true := by decide +kernel
theorem ax_k90 : (ax_tab 90).all (ax_rca 90) = true := by decide +kernel
theorem ax_k96 : (ax_tab 96).all (ax_rca 96) = true := by decide +kernel
theorem ax_k99 : (ax_tab 99).all (ax_rca 99) = true := by decide +kernel
theorem ax_k100 : (ax_tab 100).all (ax_rca 100) = true := by decide +kernel
theorem ax_k101_0 : ax_t101_0.all (ax_rca 101) = true := by decide +kernel
theorem ax_k101_1 : ax_t101_1.all (ax_rca 101) = true := by decide +kernel
theorem ax_k101 : (ax_tab 101).all (ax_rca 101) = true := by
  show ax_t101.all (ax_rca 101) = true
  unfold ax_t101
  simp only [List.all_append, ax_k101_0, ax_k101_1, Bool.and_self]
theorem ax_k104 : (ax_tab 104).all (ax_rca 104) = true := by decide +kernel
theorem ax_k108_0 : ax_t108_0.all (ax_rca 108) = true := by decide +kernel
theorem ax_k108_1 : ax_t108_1.all (ax_rca 108) = true := by decide +kernel
theorem ax_k108_2 : ax_t108_2.all (ax_rca 108) = true := by decide +kernel
theorem ax_k108 : (ax_tab 108).all (ax_rca 108) = true := by
  show ax_t108.all (ax_rca 108) = true
  unfold ax_t108
  simp only [List.all_append, ax_k108_0, ax_k108_1, ax_k108_2, Bool.and_self]
theorem ax_k111 : (ax_tab 111).all (ax_rca 111) = true := by decide +kernel
theorem ax_k112_0 : ax_t112_0.all (ax_rca 112) = true := by decide +kernel
theorem ax_k112_1 : ax_t112_1.all (ax_rca 112) = true := by decide +kernel
theorem ax_k112 : (ax_tab 112).all (ax_rca 112) = true := by
  show ax_t112.all (ax_rca 112) = true
  unfold ax_t112
  simp only [List.all_append, ax_k112_0, ax_k112_1, Bool.and_self]
theorem ax_k113 : (ax_tab 113).all (ax_rca 113) = true := by decide +kernel
theorem ax_k115 : (ax_tab 115).all (ax_rca 115) = true := by decide +kernel
theorem ax_k119 : (ax_tab 119).all (ax_rca 119) = true := by decide +kernel
theorem ax_k120_0 : ax_t120_0.all (ax_rca 120) = true := by decide +kernel
theorem ax_k120_1 : ax_t120_1.all (ax_rca 120) = true := by decide +kernel
theorem ax_k120 : (ax_tab 120).all (ax_rca 120) = true := by
  show ax_t120.all (ax_rca 120) = true
  unfold ax_t120
  simp only [List.all_append, ax_k120_0, ax_k120_1, Bool.and_self]
theorem ax_k121 : (ax_tab 121).all (ax_rca 121) = true := by decide +kernel
theorem ax_k129_0 : ax_t129_0.all (ax_rca 129) = true := by decide +kernel
theorem ax_k129_1 : ax_t129_1.all (ax_rca 129) = true := by decide +kernel
theorem ax_k129_2 : ax_t129_2.all (ax_rca 129) = true := by decide +kernel
theorem ax_k129 : (ax_tab 129).all (ax_rca 129) = true := by
  show ax_t129.all (ax_rca 129) = true
  unfold ax_t129
  simp only [List.all_append, ax_k129_0, ax_k129_1, ax_k129_2, Bool.and_self]
theorem ax_k133 : (ax_tab 133).all (ax_rca 133) = true := by decide +kernel
theorem ax_k134 : (ax_tab 134).all (ax_rca 134) = true := by decide +kernel
theorem ax_k135 : (ax_tab 135).all (ax_rca 135) = true := by decide +kernel
end
section
theorem ax_ck : ∀ k, k < 138 → (ax_tab k).all (ax_rca k) = true := by
  intro k h
  match k, h with
  | 0, _ => exact ax_k0
  | 1, _ => exact ax_k1
  | 2, _ => exact ax_k2
  | 3, _ => exact ax_k3
  | 4, _ => exact ax_k4
  | 5, _ => exact ax_k5
  | 6, _ => exact ax_k6
  | 7, _ => exact ax_k7
  | 8, _ => exact ax_k8
  | 9, _ => exact ax_k9
  | 10, _ => exact ax_k10
  | 11, _ => exact ax_k11
  | 12, _ => exact ax_k12
  | 13, _ => exact ax_k13
  | 14, _ => exact ax_k14
  | 15, _ => exact ax_k15
  | 16, _ => exact ax_k16
  | 17, _ => exact ax_k17
  | 18, _ => exact ax_k18
  | 19, _ => exact ax_k19
  | 20, _ => exact ax_k20
  | 21, _ => exact ax_k21
  | 22, _ => exact ax_k22
  | 23, _ => exact ax_k23
  | 24, _ => exact ax_k24
  | 25, _ => exact ax_k25
  | 26, _ => exact ax_k26
  | 27, _ => exact ax_k27
  | 28, _ => exact ax_k28
  | 29, _ => exact ax_k29
  | 30, _ => exact ax_k30
  | 31, _ => exact ax_k31
  | 32, _ => exact ax_k32
  | 33, _ => exact ax_k33
  | 34, _ => exact ax_k34
  | 35, _ => exact ax_k35
  | 36, _ => exact ax_k36
  | 37, _ => exact ax_k37
  | 38, _ => exact ax_k38
  | 39, _ => exact ax_k39
  | 40, _ => exact ax_k40
  | 41, _ => exact ax_k41
  | 42, _ => exact ax_k42
  | 43, _ => exact ax_k43
  | 44, _ => exact ax_k44
  | 45, _ => exact ax_k45
  | 46, _ => exact ax_k46
  | 47, _ => exact ax_k47
  | 48, _ => exact ax_k48
  | 49, _ => exact ax_k49
  | 50, _ => exact ax_k50
  | 51, _ => exact ax_k51
  | 52, _ => exact ax_k52
  | 53, _ => exact ax_k53
  | 54, _ => exact ax_k54
  | 55, _ => exact ax_k55
  | 56, _ => exact ax_k56
  | 57, _ => exact ax_k57
  | 58, _ => exact ax_k58
  | 59, _ => exact ax_k59
  | 60, _ => exact ax_k60
  | 61, _ => exact ax_k61
  | 62, _ => exact ax_k62
  | 63, _ => exact ax_k63
  | 64, _ => exact ax_k64
  | 65, _ => exact ax_k65
  | 66, _ => exact ax_k66
  | 67, _ => exact ax_k67
  | 68, _ => exact ax_k68
  | 69, _ => exact ax_k69
  | 70, _ => exact ax_k70
  | 71, _ => exact ax_k71
  | 72, _ => exact ax_k72
  | 73, _ => exact ax_k73
  | 74, _ => exact ax_k74
  | 75, _ => exact ax_k75
  | 76, _ => exact ax_k76
  | 77, _ => exact ax_k77
  | 78, _ => exact ax_k78
  | 79, _ => exact ax_k79
  | 80, _ => exact ax_k80
  | 81, _ => exact ax_k81
  | 82, _ => exact ax_k82
  | 83, _ => exact ax_k83
  | 84, _ => exact ax_k84
  | 85, _ => exact ax_k85
  | 86, _ => exact ax_k86
  | 87, _ => exact ax_k87
  | 88, _ => exact ax_k88
  | 89, _ => exact ax_k89
  | 90, _ => exact ax_k90
  | 91, _ => exact ax_k91
  | 92, _ => exact ax_k92
  | 93, _ => exact ax_k93
  | 94, _ => exact ax_k94
  | 95, _ => exact ax_k95
  | 96, _ => exact ax_k96
  | 97, _ => exact ax_k97
  | 98, _ => exact ax_k98
  | 99, _ => exact ax_k99
  | 100, _ => exact ax_k100
  | 101, _ => exact ax_k101
  | 102, _ => exact ax_k102
  | 103, _ => exact ax_k103
  | 104, _ => exact ax_k104
  | 105, _ => exact ax_k105
  | 106, _ => exact ax_k106
  | 107, _ => exact ax_k107
  | 108, _ => exact ax_k108
  | 109, _ => exact ax_k109
  | 110, _ => exact ax_k110
  | 111, _ => exact ax_k111
  | 112, _ => exact ax_k112
  | 113, _ => exact ax_k113
  | 114, _ => exact ax_k114
  | 115, _ => exact ax_k115
  | 116, _ => exact ax_k116
  | 117, _ => exact ax_k117
  | 118, _ => exact ax_k118
  | 119, _ => exact ax_k119
  | 120, _ => exact ax_k120
  | 121, _ => exact ax_k121
  | 122, _ => exact ax_k122
  | 123, _ => exact ax_k123
  | 124, _ => exact ax_k124
  | 125, _ => exact ax_k125
  | 126, _ => exact ax_k126
  | 127, _ => exact ax_k127
  | 128, _ => exact ax_k128
  | 129, _ => exact ax_k129
  | 130, _ => exact ax_k130
  | 131, _ => exact ax_k131
  | 132, _ => exact ax_k132
  | 133, _ => exact ax_k133
  | 134, _ => exact ax_k134
  | 135, _ => exact ax_k135
  | 136, _ => exact ax_k136
  | 137, _ => exact ax_k137
  | n + 138, h => exact absurd h (by omega)
theorem ax_lk_of {L : List (Nat × Nat × Nat × Nat × Nat)} {own : Nat} {v : Int} {x y : Nat} (h : ax_lk L own v x y = true) : ∃ q ∈ L, q.2.1 = own ∧ q.2.2.1 = v.toNat ∧ q.2.2.2.1 = x ∧ q.2.2.2.2 = y := by
  unfold ax_lk at h
  obtain ⟨q, hq, h2⟩ := List.any_eq_true.mp h
  simp only [Bool.and_eq_true, beq_iff_eq] at h2
  exact ⟨q, hq, h2.1, h2.2.1, h2.2.2.1, h2.2.2.2⟩
theorem ax_take_drop {α : Type} {f : α → Bool} (n : Nat) (l : List α) (h1 : (l.take n).all f = true) (h2 : (l.drop n).all f = true) : l.all f = true := by
  rw [← List.take_append_drop n l, List.all_append, h1, h2]; rfl
theorem ax_Lf_0 : ((ax_Lf.drop 0).take 40).all (fun q : Nat × Nat × Nat × Nat × Nat => decide (lw_tbl[q.1]? = some (Cond.fieldLink (ax_on q.2.1) q.2.2.1 (ax_cn q.2.2.2.1) (ax_Tf q.2.2.2.1 q.2.2.2.2).2.1 (ax_Tf q.2.2.2.1 q.2.2.2.2).2.2.1))) = true := by decide +kernel
theorem ax_Lf_1 : ((ax_Lf.drop 40).take 40).all (fun q : Nat × Nat × Nat × Nat × Nat => decide (lw_tbl[q.1]? = some (Cond.fieldLink (ax_on q.2.1) q.2.2.1 (ax_cn q.2.2.2.1) (ax_Tf q.2.2.2.1 q.2.2.2.2).2.1 (ax_Tf q.2.2.2.1 q.2.2.2.2).2.2.1))) = true := by decide +kernel
theorem ax_Lf_2 : ((ax_Lf.drop 80).take 40).all (fun q : Nat × Nat × Nat × Nat × Nat => decide (lw_tbl[q.1]? = some (Cond.fieldLink (ax_on q.2.1) q.2.2.1 (ax_cn q.2.2.2.1) (ax_Tf q.2.2.2.1 q.2.2.2.2).2.1 (ax_Tf q.2.2.2.1 q.2.2.2.2).2.2.1))) = true := by decide +kernel
theorem ax_Lf_all : ax_Lf.all (fun q : Nat × Nat × Nat × Nat × Nat => decide (lw_tbl[q.1]? = some (Cond.fieldLink (ax_on q.2.1) q.2.2.1 (ax_cn q.2.2.2.1) (ax_Tf q.2.2.2.1 q.2.2.2.2).2.1 (ax_Tf q.2.2.2.1 q.2.2.2.2).2.2.1))) = true := by
  refine ax_take_drop 40 _ ax_Lf_0 ?_
  show (ax_Lf.drop 40).all _ = true
  rw [show ax_Lf.drop 40 = ax_Lf.drop 40 from rfl]
  refine ax_take_drop 40 _ ax_Lf_1 ?_
  show (ax_Lf.drop 80).all _ = true
  rw [show ax_Lf.drop 80 = ax_Lf.drop 80 from rfl]
  refine ax_take_drop 40 _ ax_Lf_2 ?_
  rfl
theorem ax_Lf_in {q : Nat × Nat × Nat × Nat × Nat} (h : q ∈ ax_Lf) : Cond.fieldLink (ax_on q.2.1) q.2.2.1 (ax_cn q.2.2.2.1) (ax_Tf q.2.2.2.1 q.2.2.2.2).2.1 (ax_Tf q.2.2.2.1 q.2.2.2.2).2.2.1 ∈ lw_tbl := List.mem_of_getElem? (of_decide_eq_true (List.all_eq_true.mp ax_Lf_all q h))
theorem ax_Lg_0 : ((ax_Lg.drop 0).take 40).all (fun q : Nat × Nat × Nat × Nat × Nat => decide (lw_tbl[q.1]? = some (Cond.fieldLinkNest (ax_on q.2.1) q.2.2.1 (ax_cn q.2.2.2.1) (ax_Tf q.2.2.2.1 q.2.2.2.2).2.1 (ax_Tf q.2.2.2.1 q.2.2.2.2).2.2.1 "MakerGuard"))) = true := by decide +kernel
theorem ax_Lg_all : ax_Lg.all (fun q : Nat × Nat × Nat × Nat × Nat => decide (lw_tbl[q.1]? = some (Cond.fieldLinkNest (ax_on q.2.1) q.2.2.1 (ax_cn q.2.2.2.1) (ax_Tf q.2.2.2.1 q.2.2.2.2).2.1 (ax_Tf q.2.2.2.1 q.2.2.2.2).2.2.1 "MakerGuard"))) = true := by
  refine ax_take_drop 40 _ ax_Lg_0 ?_
  rfl
theorem ax_Lg_in {q : Nat × Nat × Nat × Nat × Nat} (h : q ∈ ax_Lg) : Cond.fieldLinkNest (ax_on q.2.1) q.2.2.1 (ax_cn q.2.2.2.1) (ax_Tf q.2.2.2.1 q.2.2.2.2).2.1 (ax_Tf q.2.2.2.1 q.2.2.2.2).2.2.1 "MakerGuard" ∈ lw_tbl := List.mem_of_getElem? (of_decide_eq_true (List.all_eq_true.mp ax_Lg_all q h))
theorem ax_Lm_0 : ((ax_Lm.drop 0).take 40).all (fun q : Nat × Nat × Nat × Nat × Nat => decide (lw_tbl[q.1]? = some (Cond.methodLink (ax_on q.2.1) q.2.2.1 (ax_md q.2.2.2.1)))) = true := by decide +kernel
theorem ax_Lm_1 : ((ax_Lm.drop 40).take 40).all (fun q : Nat × Nat × Nat × Nat × Nat => decide (lw_tbl[q.1]? = some (Cond.methodLink (ax_on q.2.1) q.2.2.1 (ax_md q.2.2.2.1)))) = true := by decide +kernel
theorem ax_Lm_2 : ((ax_Lm.drop 80).take 40).all (fun q : Nat × Nat × Nat × Nat × Nat => decide (lw_tbl[q.1]? = some (Cond.methodLink (ax_on q.2.1) q.2.2.1 (ax_md q.2.2.2.1)))) = true := by decide +kernel
theorem ax_Lm_3 : ((ax_Lm.drop 120).take 40).all (fun q : Nat × Nat × Nat × Nat × Nat => decide (lw_tbl[q.1]? = some (Cond.methodLink (ax_on q.2.1) q.2.2.1 (ax_md q.2.2.2.1)))) = true := by decide +kernel
theorem ax_Lm_all : ax_Lm.all (fun q : Nat × Nat × Nat × Nat × Nat => decide (lw_tbl[q.1]? = some (Cond.methodLink (ax_on q.2.1) q.2.2.1 (ax_md q.2.2.2.1)))) = true := by
  refine ax_take_drop 40 _ ax_Lm_0 ?_
  show (ax_Lm.drop 40).all _ = true
  rw [show ax_Lm.drop 40 = ax_Lm.drop 40 from rfl]
  refine ax_take_drop 40 _ ax_Lm_1 ?_
  show (ax_Lm.drop 80).all _ = true
  rw [show ax_Lm.drop 80 = ax_Lm.drop 80 from rfl]
  refine ax_take_drop 40 _ ax_Lm_2 ?_
  show (ax_Lm.drop 120).all _ = true
  rw [show ax_Lm.drop 120 = ax_Lm.drop 120 from rfl]
  refine ax_take_drop 40 _ ax_Lm_3 ?_
  rfl
theorem ax_Lm_in {q : Nat × Nat × Nat × Nat × Nat} (h : q ∈ ax_Lm) : Cond.methodLink (ax_on q.2.1) q.2.2.1 (ax_md q.2.2.2.1) ∈ lw_tbl := List.mem_of_getElem? (of_decide_eq_true (List.all_eq_true.mp ax_Lm_all q h))
theorem ax_Ln_0 : ((ax_Ln.drop 0).take 40).all (fun q : Nat × Nat × Nat × Nat × Nat => decide (lw_tbl[q.1]? = some (Cond.methodLinkNest (ax_on q.2.1) q.2.2.1 (ax_md q.2.2.2.1) "MakerGuard"))) = true := by decide +kernel
theorem ax_Ln_all : ax_Ln.all (fun q : Nat × Nat × Nat × Nat × Nat => decide (lw_tbl[q.1]? = some (Cond.methodLinkNest (ax_on q.2.1) q.2.2.1 (ax_md q.2.2.2.1) "MakerGuard"))) = true := by
  refine ax_take_drop 40 _ ax_Ln_0 ?_
  rfl
theorem ax_Ln_in {q : Nat × Nat × Nat × Nat × Nat} (h : q ∈ ax_Ln) : Cond.methodLinkNest (ax_on q.2.1) q.2.2.1 (ax_md q.2.2.2.1) "MakerGuard" ∈ lw_tbl := List.mem_of_getElem? (of_decide_eq_true (List.all_eq_true.mp ax_Ln_all q h))
theorem ax_Lc_0 : ((ax_Lc.drop 0).take 40).all (fun q : Nat × Nat × Nat × Nat × Nat => decide (lw_tbl[q.1]? = some (Cond.classLink (ax_on q.2.1) q.2.2.1 (ax_cn q.2.2.2.1)))) = true := by decide +kernel
theorem ax_Lc_all : ax_Lc.all (fun q : Nat × Nat × Nat × Nat × Nat => decide (lw_tbl[q.1]? = some (Cond.classLink (ax_on q.2.1) q.2.2.1 (ax_cn q.2.2.2.1)))) = true := by
  refine ax_take_drop 40 _ ax_Lc_0 ?_
  rfl
theorem ax_Lc_in {q : Nat × Nat × Nat × Nat × Nat} (h : q ∈ ax_Lc) : Cond.classLink (ax_on q.2.1) q.2.2.1 (ax_cn q.2.2.2.1) ∈ lw_tbl := List.mem_of_getElem? (of_decide_eq_true (List.all_eq_true.mp ax_Lc_all q h))
theorem ax_Lo_0 : ((ax_Lo.drop 0).take 40).all (fun q : Nat × Nat × Nat × Nat × Nat => decide (lw_tbl[q.1]? = some (Cond.methodLink (ax_on q.2.1) q.2.2.1 Lib.objectInit))) = true := by decide +kernel
theorem ax_Lo_all : ax_Lo.all (fun q : Nat × Nat × Nat × Nat × Nat => decide (lw_tbl[q.1]? = some (Cond.methodLink (ax_on q.2.1) q.2.2.1 Lib.objectInit))) = true := by
  refine ax_take_drop 40 _ ax_Lo_0 ?_
  rfl
theorem ax_Lo_in {q : Nat × Nat × Nat × Nat × Nat} (h : q ∈ ax_Lo) : Cond.methodLink (ax_on q.2.1) q.2.2.1 Lib.objectInit ∈ lw_tbl := List.mem_of_getElem? (of_decide_eq_true (List.all_eq_true.mp ax_Lo_all q h))
theorem ax_La_0 : ((ax_La.drop 0).take 40).all (fun q : Nat × Nat × Nat × Nat × Nat => decide (lw_tbl[q.1]? = some (Cond.methodLink (ax_on q.2.1) q.2.2.1 arraycopyName))) = true := by decide +kernel
theorem ax_La_all : ax_La.all (fun q : Nat × Nat × Nat × Nat × Nat => decide (lw_tbl[q.1]? = some (Cond.methodLink (ax_on q.2.1) q.2.2.1 arraycopyName))) = true := by
  refine ax_take_drop 40 _ ax_La_0 ?_
  rfl
theorem ax_La_in {q : Nat × Nat × Nat × Nat × Nat} (h : q ∈ ax_La) : Cond.methodLink (ax_on q.2.1) q.2.2.1 arraycopyName ∈ lw_tbl := List.mem_of_getElem? (of_decide_eq_true (List.all_eq_true.mp ax_La_all q h))
end
section
/-! words of the methods in the tables; written by wip/tools/gen15.py -/
def ax_cw (k : Nat) : Cond := if ax_hx k = [] then .code (ax_md k) (ax_by k) (ax_ml k) (ax_rt k) else .codeWith (ax_md k) (ax_by k) (ax_ml k) (ax_rt k) (ax_hx k)
set_option maxRecDepth 100000 in
theorem ax_cw_in : ∀ k, 0 < k → k < 138 → ax_cw k ∈ lw_tbl := by
  intro k h0 h
  match k, h0, h with
  | 0, h0, _ => exact absurd h0 (by omega)
  | 1, _, _ => exact List.mem_of_getElem? (i := 298) rfl
  | 2, _, _ => exact List.mem_of_getElem? (i := 399) rfl
  | 3, _, _ => exact List.mem_of_getElem? (i := 434) rfl
  | 4, _, _ => exact List.mem_of_getElem? (i := 445) rfl
  | 5, _, _ => exact List.mem_of_getElem? (i := 479) rfl
  | 6, _, _ => exact List.mem_of_getElem? (i := 490) rfl
  | 7, _, _ => exact List.mem_of_getElem? (i := 622) rfl
  | 8, _, _ => exact List.mem_of_getElem? (i := 638) rfl
  | 9, _, _ => exact List.mem_of_getElem? (i := 646) rfl
  | 10, _, _ => exact List.mem_of_getElem? (i := 662) rfl
  | 11, _, _ => exact List.mem_of_getElem? (i := 700) rfl
  | 12, _, _ => exact List.mem_of_getElem? (i := 711) rfl
  | 13, _, _ => exact List.mem_of_getElem? (i := 719) rfl
  | 14, _, _ => exact List.mem_of_getElem? (i := 726) rfl
  | 15, _, _ => exact List.mem_of_getElem? (i := 85) rfl
  | 16, _, _ => exact List.mem_of_getElem? (i := 427) rfl
  | 17, _, _ => exact List.mem_of_getElem? (i := 476) rfl
  | 18, _, _ => exact List.mem_of_getElem? (i := 487) rfl
  | 19, _, _ => exact List.mem_of_getElem? (i := 531) rfl
  | 20, _, _ => exact List.mem_of_getElem? (i := 91) rfl
  | 21, _, _ => exact List.mem_of_getElem? (i := 385) rfl
  | 22, _, _ => exact List.mem_of_getElem? (i := 230) rfl
  | 23, _, _ => exact List.mem_of_getElem? (i := 658) rfl
  | 24, _, _ => exact List.mem_of_getElem? (i := 165) rfl
  | 25, _, _ => exact List.mem_of_getElem? (i := 393) rfl
  | 26, _, _ => exact List.mem_of_getElem? (i := 498) rfl
  | 27, _, _ => exact List.mem_of_getElem? (i := 502) rfl
  | 28, _, _ => exact List.mem_of_getElem? (i := 506) rfl
  | 29, _, _ => exact List.mem_of_getElem? (i := 527) rfl
  | 30, _, _ => exact List.mem_of_getElem? (i := 558) rfl
  | 31, _, _ => exact List.mem_of_getElem? (i := 563) rfl
  | 32, _, _ => exact List.mem_of_getElem? (i := 567) rfl
  | 33, _, _ => exact List.mem_of_getElem? (i := 572) rfl
  | 34, _, _ => exact List.mem_of_getElem? (i := 576) rfl
  | 35, _, _ => exact List.mem_of_getElem? (i := 588) rfl
  | 36, _, _ => exact List.mem_of_getElem? (i := 596) rfl
  | 37, _, _ => exact List.mem_of_getElem? (i := 605) rfl
  | 38, _, _ => exact List.mem_of_getElem? (i := 610) rfl
  | 39, _, _ => exact List.mem_of_getElem? (i := 614) rfl
  | 40, _, _ => exact List.mem_of_getElem? (i := 619) rfl
  | 41, _, _ => exact List.mem_of_getElem? (i := 631) rfl
  | 42, _, _ => exact List.mem_of_getElem? (i := 223) rfl
  | 43, _, _ => exact List.mem_of_getElem? (i := 654) rfl
  | 44, _, _ => exact List.mem_of_getElem? (i := 670) rfl
  | 45, _, _ => exact List.mem_of_getElem? (i := 674) rfl
  | 46, _, _ => exact List.mem_of_getElem? (i := 678) rfl
  | 47, _, _ => exact List.mem_of_getElem? (i := 684) rfl
  | 48, _, _ => exact List.mem_of_getElem? (i := 688) rfl
  | 49, _, _ => exact List.mem_of_getElem? (i := 692) rfl
  | 50, _, _ => exact List.mem_of_getElem? (i := 697) rfl
  | 51, _, _ => exact List.mem_of_getElem? (i := 708) rfl
  | 52, _, _ => exact List.mem_of_getElem? (i := 76) rfl
  | 53, _, _ => exact List.mem_of_getElem? (i := 381) rfl
  | 54, _, _ => exact List.mem_of_getElem? (i := 442) rfl
  | 55, _, _ => exact List.mem_of_getElem? (i := 172) rfl
  | 56, _, _ => exact List.mem_of_getElem? (i := 510) rfl
  | 57, _, _ => exact List.mem_of_getElem? (i := 515) rfl
  | 58, _, _ => exact List.mem_of_getElem? (i := 519) rfl
  | 59, _, _ => exact List.mem_of_getElem? (i := 536) rfl
  | 60, _, _ => exact List.mem_of_getElem? (i := 540) rfl
  | 61, _, _ => exact List.mem_of_getElem? (i := 547) rfl
  | 62, _, _ => exact List.mem_of_getElem? (i := 550) rfl
  | 63, _, _ => exact List.mem_of_getElem? (i := 554) rfl
  | 64, _, _ => exact List.mem_of_getElem? (i := 580) rfl
  | 65, _, _ => exact List.mem_of_getElem? (i := 584) rfl
  | 66, _, _ => exact List.mem_of_getElem? (i := 592) rfl
  | 67, _, _ => exact List.mem_of_getElem? (i := 600) rfl
  | 68, _, _ => exact List.mem_of_getElem? (i := 635) rfl
  | 69, _, _ => exact List.mem_of_getElem? (i := 68) rfl
  | 70, _, _ => exact List.mem_of_getElem? (i := 303) rfl
  | 71, _, _ => exact List.mem_of_getElem? (i := 306) rfl
  | 72, _, _ => exact List.mem_of_getElem? (i := 309) rfl
  | 73, _, _ => exact List.mem_of_getElem? (i := 389) rfl
  | 74, _, _ => exact List.mem_of_getElem? (i := 404) rfl
  | 75, _, _ => exact List.mem_of_getElem? (i := 407) rfl
  | 76, _, _ => exact List.mem_of_getElem? (i := 438) rfl
  | 77, _, _ => exact List.mem_of_getElem? (i := 450) rfl
  | 78, _, _ => exact List.mem_of_getElem? (i := 453) rfl
  | 79, _, _ => exact List.mem_of_getElem? (i := 472) rfl
  | 80, _, _ => exact List.mem_of_getElem? (i := 483) rfl
  | 81, _, _ => exact List.mem_of_getElem? (i := 494) rfl
  | 82, _, _ => exact List.mem_of_getElem? (i := 522) rfl
  | 83, _, _ => exact List.mem_of_getElem? (i := 626) rfl
  | 84, _, _ => exact List.mem_of_getElem? (i := 642) rfl
  | 85, _, _ => exact List.mem_of_getElem? (i := 650) rfl
  | 86, _, _ => exact List.mem_of_getElem? (i := 666) rfl
  | 87, _, _ => exact List.mem_of_getElem? (i := 704) rfl
  | 88, _, _ => exact List.mem_of_getElem? (i := 715) rfl
  | 89, _, _ => exact List.mem_of_getElem? (i := 723) rfl
  | 90, _, _ => exact List.mem_of_getElem? (i := 730) rfl
  | 91, _, _ => exact List.mem_of_getElem? (i := 735) rfl
  | 92, _, _ => exact List.mem_of_getElem? (i := 856) rfl
  | 93, _, _ => exact List.mem_of_getElem? (i := 860) rfl
  | 94, _, _ => exact List.mem_of_getElem? (i := 863) rfl
  | 95, _, _ => exact List.mem_of_getElem? (i := 866) rfl
  | 96, _, _ => exact List.mem_of_getElem? (i := 870) rfl
  | 97, _, _ => exact List.mem_of_getElem? (i := 874) rfl
  | 98, _, _ => exact List.mem_of_getElem? (i := 877) rfl
  | 99, _, _ => exact List.mem_of_getElem? (i := 880) rfl
  | 100, _, _ => exact List.mem_of_getElem? (i := 884) rfl
  | 101, _, _ => exact List.mem_of_getElem? (i := 888) rfl
  | 102, _, _ => exact List.mem_of_getElem? (i := 891) rfl
  | 103, _, _ => exact List.mem_of_getElem? (i := 894) rfl
  | 104, _, _ => exact List.mem_of_getElem? (i := 898) rfl
  | 105, _, _ => exact List.mem_of_getElem? (i := 902) rfl
  | 106, _, _ => exact List.mem_of_getElem? (i := 906) rfl
  | 107, _, _ => exact List.mem_of_getElem? (i := 910) rfl
  | 108, _, _ => exact List.mem_of_getElem? (i := 914) rfl
  | 109, _, _ => exact List.mem_of_getElem? (i := 918) rfl
  | 110, _, _ => exact List.mem_of_getElem? (i := 922) rfl
  | 111, _, _ => exact List.mem_of_getElem? (i := 926) rfl
  | 112, _, _ => exact List.mem_of_getElem? (i := 930) rfl
  | 113, _, _ => exact List.mem_of_getElem? (i := 934) rfl
  | 114, _, _ => exact List.mem_of_getElem? (i := 938) rfl
  | 115, _, _ => exact List.mem_of_getElem? (i := 942) rfl
  | 116, _, _ => exact List.mem_of_getElem? (i := 946) rfl
  | 117, _, _ => exact List.mem_of_getElem? (i := 950) rfl
  | 118, _, _ => exact List.mem_of_getElem? (i := 954) rfl
  | 119, _, _ => exact List.mem_of_getElem? (i := 958) rfl
  | 120, _, _ => exact List.mem_of_getElem? (i := 962) rfl
  | 121, _, _ => exact List.mem_of_getElem? (i := 966) rfl
  | 122, _, _ => exact List.mem_of_getElem? (i := 970) rfl
  | 123, _, _ => exact List.mem_of_getElem? (i := 974) rfl
  | 124, _, _ => exact List.mem_of_getElem? (i := 978) rfl
  | 125, _, _ => exact List.mem_of_getElem? (i := 982) rfl
  | 126, _, _ => exact List.mem_of_getElem? (i := 986) rfl
  | 127, _, _ => exact List.mem_of_getElem? (i := 990) rfl
  | 128, _, _ => exact List.mem_of_getElem? (i := 994) rfl
  | 129, _, _ => exact List.mem_of_getElem? (i := 998) rfl
  | 130, _, _ => exact List.mem_of_getElem? (i := 1002) rfl
  | 131, _, _ => exact List.mem_of_getElem? (i := 1006) rfl
  | 132, _, _ => exact List.mem_of_getElem? (i := 1010) rfl
  | 133, _, _ => exact List.mem_of_getElem? (i := 1014) rfl
  | 134, _, _ => exact List.mem_of_getElem? (i := 1018) rfl
  | 135, _, _ => exact List.mem_of_getElem? (i := 1022) rfl
  | 136, _, _ => exact List.mem_of_getElem? (i := 431) rfl
  | 137, _, _ => exact List.mem_of_getElem? (i := 396) rfl
  | n + 138, _, h => exact absurd h (by omega)
def ax_kw (k : Nat) : Cond := if ax_st k = true then .static (ax_md k) else .instanceMethod (ax_md k)
theorem ax_kw_in : ∀ k, 0 < k → k < 138 → ax_kw k ∈ lw_tbl := by
  intro k h0 h
  match k, h0, h with
  | 0, h0, _ => exact absurd h0 (by omega)
  | 1, _, _ => exact List.mem_of_getElem? (i := 297) (by decide +kernel)
  | 2, _, _ => exact List.mem_of_getElem? (i := 398) (by decide +kernel)
  | 3, _, _ => exact List.mem_of_getElem? (i := 433) (by decide +kernel)
  | 4, _, _ => exact List.mem_of_getElem? (i := 444) (by decide +kernel)
  | 5, _, _ => exact List.mem_of_getElem? (i := 478) (by decide +kernel)
  | 6, _, _ => exact List.mem_of_getElem? (i := 489) (by decide +kernel)
  | 7, _, _ => exact List.mem_of_getElem? (i := 621) (by decide +kernel)
  | 8, _, _ => exact List.mem_of_getElem? (i := 637) (by decide +kernel)
  | 9, _, _ => exact List.mem_of_getElem? (i := 645) (by decide +kernel)
  | 10, _, _ => exact List.mem_of_getElem? (i := 661) (by decide +kernel)
  | 11, _, _ => exact List.mem_of_getElem? (i := 699) (by decide +kernel)
  | 12, _, _ => exact List.mem_of_getElem? (i := 710) (by decide +kernel)
  | 13, _, _ => exact List.mem_of_getElem? (i := 718) (by decide +kernel)
  | 14, _, _ => exact List.mem_of_getElem? (i := 725) (by decide +kernel)
  | 15, _, _ => exact List.mem_of_getElem? (i := 84) (by decide +kernel)
  | 16, _, _ => exact List.mem_of_getElem? (i := 425) (by decide +kernel)
  | 17, _, _ => exact List.mem_of_getElem? (i := 474) (by decide +kernel)
  | 18, _, _ => exact List.mem_of_getElem? (i := 485) (by decide +kernel)
  | 19, _, _ => exact List.mem_of_getElem? (i := 529) (by decide +kernel)
  | 20, _, _ => exact List.mem_of_getElem? (i := 90) (by decide +kernel)
  | 21, _, _ => exact List.mem_of_getElem? (i := 383) (by decide +kernel)
  | 22, _, _ => exact List.mem_of_getElem? (i := 229) (by decide +kernel)
  | 23, _, _ => exact List.mem_of_getElem? (i := 656) (by decide +kernel)
  | 24, _, _ => exact List.mem_of_getElem? (i := 164) (by decide +kernel)
  | 25, _, _ => exact List.mem_of_getElem? (i := 391) (by decide +kernel)
  | 26, _, _ => exact List.mem_of_getElem? (i := 496) (by decide +kernel)
  | 27, _, _ => exact List.mem_of_getElem? (i := 501) (by decide +kernel)
  | 28, _, _ => exact List.mem_of_getElem? (i := 505) (by decide +kernel)
  | 29, _, _ => exact List.mem_of_getElem? (i := 526) (by decide +kernel)
  | 30, _, _ => exact List.mem_of_getElem? (i := 557) (by decide +kernel)
  | 31, _, _ => exact List.mem_of_getElem? (i := 562) (by decide +kernel)
  | 32, _, _ => exact List.mem_of_getElem? (i := 566) (by decide +kernel)
  | 33, _, _ => exact List.mem_of_getElem? (i := 571) (by decide +kernel)
  | 34, _, _ => exact List.mem_of_getElem? (i := 575) (by decide +kernel)
  | 35, _, _ => exact List.mem_of_getElem? (i := 587) (by decide +kernel)
  | 36, _, _ => exact List.mem_of_getElem? (i := 595) (by decide +kernel)
  | 37, _, _ => exact List.mem_of_getElem? (i := 604) (by decide +kernel)
  | 38, _, _ => exact List.mem_of_getElem? (i := 609) (by decide +kernel)
  | 39, _, _ => exact List.mem_of_getElem? (i := 613) (by decide +kernel)
  | 40, _, _ => exact List.mem_of_getElem? (i := 618) (by decide +kernel)
  | 41, _, _ => exact List.mem_of_getElem? (i := 629) (by decide +kernel)
  | 42, _, _ => exact List.mem_of_getElem? (i := 222) (by decide +kernel)
  | 43, _, _ => exact List.mem_of_getElem? (i := 652) (by decide +kernel)
  | 44, _, _ => exact List.mem_of_getElem? (i := 668) (by decide +kernel)
  | 45, _, _ => exact List.mem_of_getElem? (i := 673) (by decide +kernel)
  | 46, _, _ => exact List.mem_of_getElem? (i := 676) (by decide +kernel)
  | 47, _, _ => exact List.mem_of_getElem? (i := 683) (by decide +kernel)
  | 48, _, _ => exact List.mem_of_getElem? (i := 687) (by decide +kernel)
  | 49, _, _ => exact List.mem_of_getElem? (i := 691) (by decide +kernel)
  | 50, _, _ => exact List.mem_of_getElem? (i := 696) (by decide +kernel)
  | 51, _, _ => exact List.mem_of_getElem? (i := 706) (by decide +kernel)
  | 52, _, _ => exact List.mem_of_getElem? (i := 75) (by decide +kernel)
  | 53, _, _ => exact List.mem_of_getElem? (i := 379) (by decide +kernel)
  | 54, _, _ => exact List.mem_of_getElem? (i := 440) (by decide +kernel)
  | 55, _, _ => exact List.mem_of_getElem? (i := 171) (by decide +kernel)
  | 56, _, _ => exact List.mem_of_getElem? (i := 508) (by decide +kernel)
  | 57, _, _ => exact List.mem_of_getElem? (i := 513) (by decide +kernel)
  | 58, _, _ => exact List.mem_of_getElem? (i := 517) (by decide +kernel)
  | 59, _, _ => exact List.mem_of_getElem? (i := 534) (by decide +kernel)
  | 60, _, _ => exact List.mem_of_getElem? (i := 538) (by decide +kernel)
  | 61, _, _ => exact List.mem_of_getElem? (i := 546) (by decide +kernel)
  | 62, _, _ => exact List.mem_of_getElem? (i := 549) (by decide +kernel)
  | 63, _, _ => exact List.mem_of_getElem? (i := 552) (by decide +kernel)
  | 64, _, _ => exact List.mem_of_getElem? (i := 578) (by decide +kernel)
  | 65, _, _ => exact List.mem_of_getElem? (i := 582) (by decide +kernel)
  | 66, _, _ => exact List.mem_of_getElem? (i := 590) (by decide +kernel)
  | 67, _, _ => exact List.mem_of_getElem? (i := 598) (by decide +kernel)
  | 68, _, _ => exact List.mem_of_getElem? (i := 633) (by decide +kernel)
  | 69, _, _ => exact List.mem_of_getElem? (i := 67) (by decide +kernel)
  | 70, _, _ => exact List.mem_of_getElem? (i := 301) (by decide +kernel)
  | 71, _, _ => exact List.mem_of_getElem? (i := 305) (by decide +kernel)
  | 72, _, _ => exact List.mem_of_getElem? (i := 308) (by decide +kernel)
  | 73, _, _ => exact List.mem_of_getElem? (i := 388) (by decide +kernel)
  | 74, _, _ => exact List.mem_of_getElem? (i := 402) (by decide +kernel)
  | 75, _, _ => exact List.mem_of_getElem? (i := 406) (by decide +kernel)
  | 76, _, _ => exact List.mem_of_getElem? (i := 436) (by decide +kernel)
  | 77, _, _ => exact List.mem_of_getElem? (i := 448) (by decide +kernel)
  | 78, _, _ => exact List.mem_of_getElem? (i := 452) (by decide +kernel)
  | 79, _, _ => exact List.mem_of_getElem? (i := 471) (by decide +kernel)
  | 80, _, _ => exact List.mem_of_getElem? (i := 481) (by decide +kernel)
  | 81, _, _ => exact List.mem_of_getElem? (i := 492) (by decide +kernel)
  | 82, _, _ => exact List.mem_of_getElem? (i := 521) (by decide +kernel)
  | 83, _, _ => exact List.mem_of_getElem? (i := 624) (by decide +kernel)
  | 84, _, _ => exact List.mem_of_getElem? (i := 640) (by decide +kernel)
  | 85, _, _ => exact List.mem_of_getElem? (i := 648) (by decide +kernel)
  | 86, _, _ => exact List.mem_of_getElem? (i := 664) (by decide +kernel)
  | 87, _, _ => exact List.mem_of_getElem? (i := 702) (by decide +kernel)
  | 88, _, _ => exact List.mem_of_getElem? (i := 713) (by decide +kernel)
  | 89, _, _ => exact List.mem_of_getElem? (i := 721) (by decide +kernel)
  | 90, _, _ => exact List.mem_of_getElem? (i := 728) (by decide +kernel)
  | 91, _, _ => exact List.mem_of_getElem? (i := 734) (by decide +kernel)
  | 92, _, _ => exact List.mem_of_getElem? (i := 854) (by decide +kernel)
  | 93, _, _ => exact List.mem_of_getElem? (i := 858) (by decide +kernel)
  | 94, _, _ => exact List.mem_of_getElem? (i := 862) (by decide +kernel)
  | 95, _, _ => exact List.mem_of_getElem? (i := 865) (by decide +kernel)
  | 96, _, _ => exact List.mem_of_getElem? (i := 869) (by decide +kernel)
  | 97, _, _ => exact List.mem_of_getElem? (i := 872) (by decide +kernel)
  | 98, _, _ => exact List.mem_of_getElem? (i := 876) (by decide +kernel)
  | 99, _, _ => exact List.mem_of_getElem? (i := 879) (by decide +kernel)
  | 100, _, _ => exact List.mem_of_getElem? (i := 882) (by decide +kernel)
  | 101, _, _ => exact List.mem_of_getElem? (i := 886) (by decide +kernel)
  | 102, _, _ => exact List.mem_of_getElem? (i := 890) (by decide +kernel)
  | 103, _, _ => exact List.mem_of_getElem? (i := 893) (by decide +kernel)
  | 104, _, _ => exact List.mem_of_getElem? (i := 896) (by decide +kernel)
  | 105, _, _ => exact List.mem_of_getElem? (i := 900) (by decide +kernel)
  | 106, _, _ => exact List.mem_of_getElem? (i := 905) (by decide +kernel)
  | 107, _, _ => exact List.mem_of_getElem? (i := 909) (by decide +kernel)
  | 108, _, _ => exact List.mem_of_getElem? (i := 913) (by decide +kernel)
  | 109, _, _ => exact List.mem_of_getElem? (i := 917) (by decide +kernel)
  | 110, _, _ => exact List.mem_of_getElem? (i := 921) (by decide +kernel)
  | 111, _, _ => exact List.mem_of_getElem? (i := 925) (by decide +kernel)
  | 112, _, _ => exact List.mem_of_getElem? (i := 929) (by decide +kernel)
  | 113, _, _ => exact List.mem_of_getElem? (i := 933) (by decide +kernel)
  | 114, _, _ => exact List.mem_of_getElem? (i := 937) (by decide +kernel)
  | 115, _, _ => exact List.mem_of_getElem? (i := 941) (by decide +kernel)
  | 116, _, _ => exact List.mem_of_getElem? (i := 945) (by decide +kernel)
  | 117, _, _ => exact List.mem_of_getElem? (i := 949) (by decide +kernel)
  | 118, _, _ => exact List.mem_of_getElem? (i := 953) (by decide +kernel)
  | 119, _, _ => exact List.mem_of_getElem? (i := 957) (by decide +kernel)
  | 120, _, _ => exact List.mem_of_getElem? (i := 960) (by decide +kernel)
  | 121, _, _ => exact List.mem_of_getElem? (i := 965) (by decide +kernel)
  | 122, _, _ => exact List.mem_of_getElem? (i := 968) (by decide +kernel)
  | 123, _, _ => exact List.mem_of_getElem? (i := 972) (by decide +kernel)
  | 124, _, _ => exact List.mem_of_getElem? (i := 977) (by decide +kernel)
  | 125, _, _ => exact List.mem_of_getElem? (i := 980) (by decide +kernel)
  | 126, _, _ => exact List.mem_of_getElem? (i := 985) (by decide +kernel)
  | 127, _, _ => exact List.mem_of_getElem? (i := 989) (by decide +kernel)
  | 128, _, _ => exact List.mem_of_getElem? (i := 993) (by decide +kernel)
  | 129, _, _ => exact List.mem_of_getElem? (i := 997) (by decide +kernel)
  | 130, _, _ => exact List.mem_of_getElem? (i := 1001) (by decide +kernel)
  | 131, _, _ => exact List.mem_of_getElem? (i := 1005) (by decide +kernel)
  | 132, _, _ => exact List.mem_of_getElem? (i := 1008) (by decide +kernel)
  | 133, _, _ => exact List.mem_of_getElem? (i := 1012) (by decide +kernel)
  | 134, _, _ => exact List.mem_of_getElem? (i := 1016) (by decide +kernel)
  | 135, _, _ => exact List.mem_of_getElem? (i := 1020) (by decide +kernel)
  | 136, _, _ => exact List.mem_of_getElem? (i := 430) (by decide +kernel)
  | 137, _, _ => exact List.mem_of_getElem? (i := 395) (by decide +kernel)
  | n + 138, _, h => exact absurd h (by omega)
theorem ax_iw_in : ∀ k, 0 < k → k < 138 → Cond.initialized (ax_ow k) ∈ lw_tbl := by
  intro k h0 h
  match k, h0, h with
  | 0, h0, _ => exact absurd h0 (by omega)
  | 1, _, _ => exact List.mem_of_getElem? (i := 45) (by decide +kernel)
  | 2, _, _ => exact List.mem_of_getElem? (i := 45) (by decide +kernel)
  | 3, _, _ => exact List.mem_of_getElem? (i := 45) (by decide +kernel)
  | 4, _, _ => exact List.mem_of_getElem? (i := 45) (by decide +kernel)
  | 5, _, _ => exact List.mem_of_getElem? (i := 45) (by decide +kernel)
  | 6, _, _ => exact List.mem_of_getElem? (i := 45) (by decide +kernel)
  | 7, _, _ => exact List.mem_of_getElem? (i := 45) (by decide +kernel)
  | 8, _, _ => exact List.mem_of_getElem? (i := 45) (by decide +kernel)
  | 9, _, _ => exact List.mem_of_getElem? (i := 45) (by decide +kernel)
  | 10, _, _ => exact List.mem_of_getElem? (i := 45) (by decide +kernel)
  | 11, _, _ => exact List.mem_of_getElem? (i := 45) (by decide +kernel)
  | 12, _, _ => exact List.mem_of_getElem? (i := 45) (by decide +kernel)
  | 13, _, _ => exact List.mem_of_getElem? (i := 45) (by decide +kernel)
  | 14, _, _ => exact List.mem_of_getElem? (i := 45) (by decide +kernel)
  | 15, _, _ => exact List.mem_of_getElem? (i := 48) (by decide +kernel)
  | 16, _, _ => exact List.mem_of_getElem? (i := 48) (by decide +kernel)
  | 17, _, _ => exact List.mem_of_getElem? (i := 48) (by decide +kernel)
  | 18, _, _ => exact List.mem_of_getElem? (i := 48) (by decide +kernel)
  | 19, _, _ => exact List.mem_of_getElem? (i := 48) (by decide +kernel)
  | 20, _, _ => exact List.mem_of_getElem? (i := 49) (by decide +kernel)
  | 21, _, _ => exact List.mem_of_getElem? (i := 49) (by decide +kernel)
  | 22, _, _ => exact List.mem_of_getElem? (i := 53) (by decide +kernel)
  | 23, _, _ => exact List.mem_of_getElem? (i := 53) (by decide +kernel)
  | 24, _, _ => exact List.mem_of_getElem? (i := 50) (by decide +kernel)
  | 25, _, _ => exact List.mem_of_getElem? (i := 50) (by decide +kernel)
  | 26, _, _ => exact List.mem_of_getElem? (i := 50) (by decide +kernel)
  | 27, _, _ => exact List.mem_of_getElem? (i := 50) (by decide +kernel)
  | 28, _, _ => exact List.mem_of_getElem? (i := 50) (by decide +kernel)
  | 29, _, _ => exact List.mem_of_getElem? (i := 50) (by decide +kernel)
  | 30, _, _ => exact List.mem_of_getElem? (i := 50) (by decide +kernel)
  | 31, _, _ => exact List.mem_of_getElem? (i := 50) (by decide +kernel)
  | 32, _, _ => exact List.mem_of_getElem? (i := 50) (by decide +kernel)
  | 33, _, _ => exact List.mem_of_getElem? (i := 50) (by decide +kernel)
  | 34, _, _ => exact List.mem_of_getElem? (i := 50) (by decide +kernel)
  | 35, _, _ => exact List.mem_of_getElem? (i := 50) (by decide +kernel)
  | 36, _, _ => exact List.mem_of_getElem? (i := 50) (by decide +kernel)
  | 37, _, _ => exact List.mem_of_getElem? (i := 50) (by decide +kernel)
  | 38, _, _ => exact List.mem_of_getElem? (i := 50) (by decide +kernel)
  | 39, _, _ => exact List.mem_of_getElem? (i := 50) (by decide +kernel)
  | 40, _, _ => exact List.mem_of_getElem? (i := 50) (by decide +kernel)
  | 41, _, _ => exact List.mem_of_getElem? (i := 50) (by decide +kernel)
  | 42, _, _ => exact List.mem_of_getElem? (i := 52) (by decide +kernel)
  | 43, _, _ => exact List.mem_of_getElem? (i := 52) (by decide +kernel)
  | 44, _, _ => exact List.mem_of_getElem? (i := 52) (by decide +kernel)
  | 45, _, _ => exact List.mem_of_getElem? (i := 52) (by decide +kernel)
  | 46, _, _ => exact List.mem_of_getElem? (i := 52) (by decide +kernel)
  | 47, _, _ => exact List.mem_of_getElem? (i := 52) (by decide +kernel)
  | 48, _, _ => exact List.mem_of_getElem? (i := 52) (by decide +kernel)
  | 49, _, _ => exact List.mem_of_getElem? (i := 52) (by decide +kernel)
  | 50, _, _ => exact List.mem_of_getElem? (i := 52) (by decide +kernel)
  | 51, _, _ => exact List.mem_of_getElem? (i := 52) (by decide +kernel)
  | 52, _, _ => exact List.mem_of_getElem? (i := 47) (by decide +kernel)
  | 53, _, _ => exact List.mem_of_getElem? (i := 47) (by decide +kernel)
  | 54, _, _ => exact List.mem_of_getElem? (i := 47) (by decide +kernel)
  | 55, _, _ => exact List.mem_of_getElem? (i := 51) (by decide +kernel)
  | 56, _, _ => exact List.mem_of_getElem? (i := 51) (by decide +kernel)
  | 57, _, _ => exact List.mem_of_getElem? (i := 51) (by decide +kernel)
  | 58, _, _ => exact List.mem_of_getElem? (i := 51) (by decide +kernel)
  | 59, _, _ => exact List.mem_of_getElem? (i := 51) (by decide +kernel)
  | 60, _, _ => exact List.mem_of_getElem? (i := 51) (by decide +kernel)
  | 61, _, _ => exact List.mem_of_getElem? (i := 51) (by decide +kernel)
  | 62, _, _ => exact List.mem_of_getElem? (i := 51) (by decide +kernel)
  | 63, _, _ => exact List.mem_of_getElem? (i := 51) (by decide +kernel)
  | 64, _, _ => exact List.mem_of_getElem? (i := 51) (by decide +kernel)
  | 65, _, _ => exact List.mem_of_getElem? (i := 51) (by decide +kernel)
  | 66, _, _ => exact List.mem_of_getElem? (i := 51) (by decide +kernel)
  | 67, _, _ => exact List.mem_of_getElem? (i := 51) (by decide +kernel)
  | 68, _, _ => exact List.mem_of_getElem? (i := 51) (by decide +kernel)
  | 69, _, _ => exact List.mem_of_getElem? (i := 46) (by decide +kernel)
  | 70, _, _ => exact List.mem_of_getElem? (i := 46) (by decide +kernel)
  | 71, _, _ => exact List.mem_of_getElem? (i := 46) (by decide +kernel)
  | 72, _, _ => exact List.mem_of_getElem? (i := 46) (by decide +kernel)
  | 73, _, _ => exact List.mem_of_getElem? (i := 46) (by decide +kernel)
  | 74, _, _ => exact List.mem_of_getElem? (i := 46) (by decide +kernel)
  | 75, _, _ => exact List.mem_of_getElem? (i := 46) (by decide +kernel)
  | 76, _, _ => exact List.mem_of_getElem? (i := 46) (by decide +kernel)
  | 77, _, _ => exact List.mem_of_getElem? (i := 46) (by decide +kernel)
  | 78, _, _ => exact List.mem_of_getElem? (i := 46) (by decide +kernel)
  | 79, _, _ => exact List.mem_of_getElem? (i := 46) (by decide +kernel)
  | 80, _, _ => exact List.mem_of_getElem? (i := 46) (by decide +kernel)
  | 81, _, _ => exact List.mem_of_getElem? (i := 46) (by decide +kernel)
  | 82, _, _ => exact List.mem_of_getElem? (i := 46) (by decide +kernel)
  | 83, _, _ => exact List.mem_of_getElem? (i := 46) (by decide +kernel)
  | 84, _, _ => exact List.mem_of_getElem? (i := 46) (by decide +kernel)
  | 85, _, _ => exact List.mem_of_getElem? (i := 46) (by decide +kernel)
  | 86, _, _ => exact List.mem_of_getElem? (i := 46) (by decide +kernel)
  | 87, _, _ => exact List.mem_of_getElem? (i := 46) (by decide +kernel)
  | 88, _, _ => exact List.mem_of_getElem? (i := 46) (by decide +kernel)
  | 89, _, _ => exact List.mem_of_getElem? (i := 46) (by decide +kernel)
  | 90, _, _ => exact List.mem_of_getElem? (i := 46) (by decide +kernel)
  | 91, _, _ => exact List.mem_of_getElem? (i := 54) (by decide +kernel)
  | 92, _, _ => exact List.mem_of_getElem? (i := 54) (by decide +kernel)
  | 93, _, _ => exact List.mem_of_getElem? (i := 54) (by decide +kernel)
  | 94, _, _ => exact List.mem_of_getElem? (i := 54) (by decide +kernel)
  | 95, _, _ => exact List.mem_of_getElem? (i := 54) (by decide +kernel)
  | 96, _, _ => exact List.mem_of_getElem? (i := 54) (by decide +kernel)
  | 97, _, _ => exact List.mem_of_getElem? (i := 54) (by decide +kernel)
  | 98, _, _ => exact List.mem_of_getElem? (i := 54) (by decide +kernel)
  | 99, _, _ => exact List.mem_of_getElem? (i := 54) (by decide +kernel)
  | 100, _, _ => exact List.mem_of_getElem? (i := 54) (by decide +kernel)
  | 101, _, _ => exact List.mem_of_getElem? (i := 54) (by decide +kernel)
  | 102, _, _ => exact List.mem_of_getElem? (i := 54) (by decide +kernel)
  | 103, _, _ => exact List.mem_of_getElem? (i := 54) (by decide +kernel)
  | 104, _, _ => exact List.mem_of_getElem? (i := 54) (by decide +kernel)
  | 105, _, _ => exact List.mem_of_getElem? (i := 54) (by decide +kernel)
  | 106, _, _ => exact List.mem_of_getElem? (i := 54) (by decide +kernel)
  | 107, _, _ => exact List.mem_of_getElem? (i := 54) (by decide +kernel)
  | 108, _, _ => exact List.mem_of_getElem? (i := 54) (by decide +kernel)
  | 109, _, _ => exact List.mem_of_getElem? (i := 54) (by decide +kernel)
  | 110, _, _ => exact List.mem_of_getElem? (i := 54) (by decide +kernel)
  | 111, _, _ => exact List.mem_of_getElem? (i := 54) (by decide +kernel)
  | 112, _, _ => exact List.mem_of_getElem? (i := 54) (by decide +kernel)
  | 113, _, _ => exact List.mem_of_getElem? (i := 54) (by decide +kernel)
  | 114, _, _ => exact List.mem_of_getElem? (i := 54) (by decide +kernel)
  | 115, _, _ => exact List.mem_of_getElem? (i := 54) (by decide +kernel)
  | 116, _, _ => exact List.mem_of_getElem? (i := 54) (by decide +kernel)
  | 117, _, _ => exact List.mem_of_getElem? (i := 54) (by decide +kernel)
  | 118, _, _ => exact List.mem_of_getElem? (i := 54) (by decide +kernel)
  | 119, _, _ => exact List.mem_of_getElem? (i := 54) (by decide +kernel)
  | 120, _, _ => exact List.mem_of_getElem? (i := 54) (by decide +kernel)
  | 121, _, _ => exact List.mem_of_getElem? (i := 54) (by decide +kernel)
  | 122, _, _ => exact List.mem_of_getElem? (i := 54) (by decide +kernel)
  | 123, _, _ => exact List.mem_of_getElem? (i := 54) (by decide +kernel)
  | 124, _, _ => exact List.mem_of_getElem? (i := 54) (by decide +kernel)
  | 125, _, _ => exact List.mem_of_getElem? (i := 54) (by decide +kernel)
  | 126, _, _ => exact List.mem_of_getElem? (i := 54) (by decide +kernel)
  | 127, _, _ => exact List.mem_of_getElem? (i := 54) (by decide +kernel)
  | 128, _, _ => exact List.mem_of_getElem? (i := 54) (by decide +kernel)
  | 129, _, _ => exact List.mem_of_getElem? (i := 54) (by decide +kernel)
  | 130, _, _ => exact List.mem_of_getElem? (i := 54) (by decide +kernel)
  | 131, _, _ => exact List.mem_of_getElem? (i := 54) (by decide +kernel)
  | 132, _, _ => exact List.mem_of_getElem? (i := 54) (by decide +kernel)
  | 133, _, _ => exact List.mem_of_getElem? (i := 54) (by decide +kernel)
  | 134, _, _ => exact List.mem_of_getElem? (i := 54) (by decide +kernel)
  | 135, _, _ => exact List.mem_of_getElem? (i := 54) (by decide +kernel)
  | 136, _, _ => exact List.mem_of_getElem? (i := 61) (by decide +kernel)
  | 137, _, _ => exact List.mem_of_getElem? (i := 59) (by decide +kernel)
  | n + 138, _, h => exact absurd h (by omega)
theorem ax_sw_in : ∀ k, 0 < k → k < 138 → (ax_st k = false ∧ ax_nm k ≠ "<init>") → Cond.selects (ax_ow k) (ax_md k) (ax_md k) ∈ lw_tbl := by
  intro k h0 h
  match k, h0, h with
  | 0, h0, _ => exact absurd h0 (by omega)
  | 1, _, _ => exact fun h => absurd h (by decide)
  | 2, _, _ => exact fun h => absurd h (by decide)
  | 3, _, _ => exact fun h => absurd h (by decide)
  | 4, _, _ => exact fun h => absurd h (by decide)
  | 5, _, _ => exact fun h => absurd h (by decide)
  | 6, _, _ => exact fun h => absurd h (by decide)
  | 7, _, _ => exact fun h => absurd h (by decide)
  | 8, _, _ => exact fun h => absurd h (by decide)
  | 9, _, _ => exact fun h => absurd h (by decide)
  | 10, _, _ => exact fun h => absurd h (by decide)
  | 11, _, _ => exact fun h => absurd h (by decide)
  | 12, _, _ => exact fun h => absurd h (by decide)
  | 13, _, _ => exact fun h => absurd h (by decide)
  | 14, _, _ => exact fun h => absurd h (by decide)
  | 15, _, _ => exact fun h => absurd h (by decide)
  | 16, _, _ => exact fun _ => List.mem_of_getElem? (i := 426) (by decide +kernel)
  | 17, _, _ => exact fun _ => List.mem_of_getElem? (i := 475) (by decide +kernel)
  | 18, _, _ => exact fun _ => List.mem_of_getElem? (i := 486) (by decide +kernel)
  | 19, _, _ => exact fun _ => List.mem_of_getElem? (i := 530) (by decide +kernel)
  | 20, _, _ => exact fun h => absurd h (by decide)
  | 21, _, _ => exact fun _ => List.mem_of_getElem? (i := 384) (by decide +kernel)
  | 22, _, _ => exact fun h => absurd h (by decide)
  | 23, _, _ => exact fun _ => List.mem_of_getElem? (i := 657) (by decide +kernel)
  | 24, _, _ => exact fun h => absurd h (by decide)
  | 25, _, _ => exact fun _ => List.mem_of_getElem? (i := 392) (by decide +kernel)
  | 26, _, _ => exact fun _ => List.mem_of_getElem? (i := 497) (by decide +kernel)
  | 27, _, _ => exact fun _ => List.mem_of_getElem? (i := 2) (by decide +kernel)
  | 28, _, _ => exact fun _ => List.mem_of_getElem? (i := 3) (by decide +kernel)
  | 29, _, _ => exact fun _ => List.mem_of_getElem? (i := 4) (by decide +kernel)
  | 30, _, _ => exact fun _ => List.mem_of_getElem? (i := 6) (by decide +kernel)
  | 31, _, _ => exact fun _ => List.mem_of_getElem? (i := 7) (by decide +kernel)
  | 32, _, _ => exact fun _ => List.mem_of_getElem? (i := 8) (by decide +kernel)
  | 33, _, _ => exact fun _ => List.mem_of_getElem? (i := 9) (by decide +kernel)
  | 34, _, _ => exact fun _ => List.mem_of_getElem? (i := 10) (by decide +kernel)
  | 35, _, _ => exact fun _ => List.mem_of_getElem? (i := 11) (by decide +kernel)
  | 36, _, _ => exact fun _ => List.mem_of_getElem? (i := 12) (by decide +kernel)
  | 37, _, _ => exact fun _ => List.mem_of_getElem? (i := 13) (by decide +kernel)
  | 38, _, _ => exact fun _ => List.mem_of_getElem? (i := 14) (by decide +kernel)
  | 39, _, _ => exact fun _ => List.mem_of_getElem? (i := 15) (by decide +kernel)
  | 40, _, _ => exact fun _ => List.mem_of_getElem? (i := 16) (by decide +kernel)
  | 41, _, _ => exact fun _ => List.mem_of_getElem? (i := 630) (by decide +kernel)
  | 42, _, _ => exact fun h => absurd h (by decide)
  | 43, _, _ => exact fun _ => List.mem_of_getElem? (i := 653) (by decide +kernel)
  | 44, _, _ => exact fun _ => List.mem_of_getElem? (i := 669) (by decide +kernel)
  | 45, _, _ => exact fun _ => List.mem_of_getElem? (i := 17) (by decide +kernel)
  | 46, _, _ => exact fun _ => List.mem_of_getElem? (i := 677) (by decide +kernel)
  | 47, _, _ => exact fun _ => List.mem_of_getElem? (i := 18) (by decide +kernel)
  | 48, _, _ => exact fun _ => List.mem_of_getElem? (i := 19) (by decide +kernel)
  | 49, _, _ => exact fun _ => List.mem_of_getElem? (i := 20) (by decide +kernel)
  | 50, _, _ => exact fun _ => List.mem_of_getElem? (i := 21) (by decide +kernel)
  | 51, _, _ => exact fun _ => List.mem_of_getElem? (i := 707) (by decide +kernel)
  | 52, _, _ => exact fun h => absurd h (by decide)
  | 53, _, _ => exact fun _ => List.mem_of_getElem? (i := 380) (by decide +kernel)
  | 54, _, _ => exact fun _ => List.mem_of_getElem? (i := 441) (by decide +kernel)
  | 55, _, _ => exact fun h => absurd h (by decide)
  | 56, _, _ => exact fun _ => List.mem_of_getElem? (i := 509) (by decide +kernel)
  | 57, _, _ => exact fun _ => List.mem_of_getElem? (i := 514) (by decide +kernel)
  | 58, _, _ => exact fun _ => List.mem_of_getElem? (i := 518) (by decide +kernel)
  | 59, _, _ => exact fun _ => List.mem_of_getElem? (i := 535) (by decide +kernel)
  | 60, _, _ => exact fun _ => List.mem_of_getElem? (i := 539) (by decide +kernel)
  | 61, _, _ => exact fun _ => List.mem_of_getElem? (i := 5) (by decide +kernel)
  | 62, _, _ => exact fun h => absurd h (by decide)
  | 63, _, _ => exact fun _ => List.mem_of_getElem? (i := 553) (by decide +kernel)
  | 64, _, _ => exact fun _ => List.mem_of_getElem? (i := 579) (by decide +kernel)
  | 65, _, _ => exact fun _ => List.mem_of_getElem? (i := 583) (by decide +kernel)
  | 66, _, _ => exact fun _ => List.mem_of_getElem? (i := 591) (by decide +kernel)
  | 67, _, _ => exact fun _ => List.mem_of_getElem? (i := 599) (by decide +kernel)
  | 68, _, _ => exact fun _ => List.mem_of_getElem? (i := 634) (by decide +kernel)
  | 69, _, _ => exact fun h => absurd h (by decide)
  | 70, _, _ => exact fun _ => List.mem_of_getElem? (i := 302) (by decide +kernel)
  | 71, _, _ => exact fun h => absurd h (by decide)
  | 72, _, _ => exact fun h => absurd h (by decide)
  | 73, _, _ => exact fun _ => List.mem_of_getElem? (i := 1) (by decide +kernel)
  | 74, _, _ => exact fun _ => List.mem_of_getElem? (i := 403) (by decide +kernel)
  | 75, _, _ => exact fun h => absurd h (by decide)
  | 76, _, _ => exact fun _ => List.mem_of_getElem? (i := 437) (by decide +kernel)
  | 77, _, _ => exact fun _ => List.mem_of_getElem? (i := 449) (by decide +kernel)
  | 78, _, _ => exact fun h => absurd h (by decide)
  | 79, _, _ => exact fun h => absurd h (by decide)
  | 80, _, _ => exact fun _ => List.mem_of_getElem? (i := 482) (by decide +kernel)
  | 81, _, _ => exact fun _ => List.mem_of_getElem? (i := 493) (by decide +kernel)
  | 82, _, _ => exact fun h => absurd h (by decide)
  | 83, _, _ => exact fun _ => List.mem_of_getElem? (i := 625) (by decide +kernel)
  | 84, _, _ => exact fun _ => List.mem_of_getElem? (i := 641) (by decide +kernel)
  | 85, _, _ => exact fun _ => List.mem_of_getElem? (i := 649) (by decide +kernel)
  | 86, _, _ => exact fun _ => List.mem_of_getElem? (i := 665) (by decide +kernel)
  | 87, _, _ => exact fun _ => List.mem_of_getElem? (i := 703) (by decide +kernel)
  | 88, _, _ => exact fun _ => List.mem_of_getElem? (i := 714) (by decide +kernel)
  | 89, _, _ => exact fun _ => List.mem_of_getElem? (i := 722) (by decide +kernel)
  | 90, _, _ => exact fun _ => List.mem_of_getElem? (i := 729) (by decide +kernel)
  | 91, _, _ => exact fun h => absurd h (by decide)
  | 92, _, _ => exact fun _ => List.mem_of_getElem? (i := 855) (by decide +kernel)
  | 93, _, _ => exact fun _ => List.mem_of_getElem? (i := 859) (by decide +kernel)
  | 94, _, _ => exact fun h => absurd h (by decide)
  | 95, _, _ => exact fun h => absurd h (by decide)
  | 96, _, _ => exact fun _ => List.mem_of_getElem? (i := 22) (by decide +kernel)
  | 97, _, _ => exact fun _ => List.mem_of_getElem? (i := 873) (by decide +kernel)
  | 98, _, _ => exact fun h => absurd h (by decide)
  | 99, _, _ => exact fun h => absurd h (by decide)
  | 100, _, _ => exact fun _ => List.mem_of_getElem? (i := 883) (by decide +kernel)
  | 101, _, _ => exact fun _ => List.mem_of_getElem? (i := 887) (by decide +kernel)
  | 102, _, _ => exact fun h => absurd h (by decide)
  | 103, _, _ => exact fun h => absurd h (by decide)
  | 104, _, _ => exact fun _ => List.mem_of_getElem? (i := 897) (by decide +kernel)
  | 105, _, _ => exact fun _ => List.mem_of_getElem? (i := 901) (by decide +kernel)
  | 106, _, _ => exact fun _ => List.mem_of_getElem? (i := 23) (by decide +kernel)
  | 107, _, _ => exact fun _ => List.mem_of_getElem? (i := 24) (by decide +kernel)
  | 108, _, _ => exact fun _ => List.mem_of_getElem? (i := 25) (by decide +kernel)
  | 109, _, _ => exact fun _ => List.mem_of_getElem? (i := 26) (by decide +kernel)
  | 110, _, _ => exact fun _ => List.mem_of_getElem? (i := 27) (by decide +kernel)
  | 111, _, _ => exact fun _ => List.mem_of_getElem? (i := 28) (by decide +kernel)
  | 112, _, _ => exact fun _ => List.mem_of_getElem? (i := 29) (by decide +kernel)
  | 113, _, _ => exact fun _ => List.mem_of_getElem? (i := 30) (by decide +kernel)
  | 114, _, _ => exact fun _ => List.mem_of_getElem? (i := 31) (by decide +kernel)
  | 115, _, _ => exact fun _ => List.mem_of_getElem? (i := 32) (by decide +kernel)
  | 116, _, _ => exact fun _ => List.mem_of_getElem? (i := 33) (by decide +kernel)
  | 117, _, _ => exact fun _ => List.mem_of_getElem? (i := 34) (by decide +kernel)
  | 118, _, _ => exact fun _ => List.mem_of_getElem? (i := 35) (by decide +kernel)
  | 119, _, _ => exact fun _ => List.mem_of_getElem? (i := 36) (by decide +kernel)
  | 120, _, _ => exact fun _ => List.mem_of_getElem? (i := 961) (by decide +kernel)
  | 121, _, _ => exact fun _ => List.mem_of_getElem? (i := 37) (by decide +kernel)
  | 122, _, _ => exact fun _ => List.mem_of_getElem? (i := 969) (by decide +kernel)
  | 123, _, _ => exact fun _ => List.mem_of_getElem? (i := 973) (by decide +kernel)
  | 124, _, _ => exact fun _ => List.mem_of_getElem? (i := 38) (by decide +kernel)
  | 125, _, _ => exact fun _ => List.mem_of_getElem? (i := 981) (by decide +kernel)
  | 126, _, _ => exact fun _ => List.mem_of_getElem? (i := 39) (by decide +kernel)
  | 127, _, _ => exact fun _ => List.mem_of_getElem? (i := 40) (by decide +kernel)
  | 128, _, _ => exact fun _ => List.mem_of_getElem? (i := 41) (by decide +kernel)
  | 129, _, _ => exact fun _ => List.mem_of_getElem? (i := 42) (by decide +kernel)
  | 130, _, _ => exact fun _ => List.mem_of_getElem? (i := 43) (by decide +kernel)
  | 131, _, _ => exact fun _ => List.mem_of_getElem? (i := 44) (by decide +kernel)
  | 132, _, _ => exact fun _ => List.mem_of_getElem? (i := 1009) (by decide +kernel)
  | 133, _, _ => exact fun _ => List.mem_of_getElem? (i := 1013) (by decide +kernel)
  | 134, _, _ => exact fun _ => List.mem_of_getElem? (i := 1017) (by decide +kernel)
  | 135, _, _ => exact fun _ => List.mem_of_getElem? (i := 1021) (by decide +kernel)
  | 136, _, _ => exact fun h => absurd h (by decide)
  | 137, _, _ => exact fun h => absurd h (by decide)
  | n + 138, _, h => exact absurd h (by omega)
theorem ax_dn : ∀ k, 0 < k → k < 138 → (parseMethodDescriptor (ax_ds k)).map (fun d => d.parameters.length) = some (if ax_st k = true then ax_np k else ax_np k - 1) ∧ (ax_st k = false → 0 < ax_np k) ∧ ax_np k ≤ ax_ml k ∧ plainFor (ax_md k) = true ∧ ax_ow k ≠ "java/lang/invoke/MethodHandle" ∧ ax_ow k ≠ "java/lang/invoke/VarHandle" := by
  intro k h0 h
  match k, h0, h with
  | 0, h0, _ => exact absurd h0 (by omega)
  | 1, _, _ => exact by decide +kernel
  | 2, _, _ => exact by decide +kernel
  | 3, _, _ => exact by decide +kernel
  | 4, _, _ => exact by decide +kernel
  | 5, _, _ => exact by decide +kernel
  | 6, _, _ => exact by decide +kernel
  | 7, _, _ => exact by decide +kernel
  | 8, _, _ => exact by decide +kernel
  | 9, _, _ => exact by decide +kernel
  | 10, _, _ => exact by decide +kernel
  | 11, _, _ => exact by decide +kernel
  | 12, _, _ => exact by decide +kernel
  | 13, _, _ => exact by decide +kernel
  | 14, _, _ => exact by decide +kernel
  | 15, _, _ => exact by decide +kernel
  | 16, _, _ => exact by decide +kernel
  | 17, _, _ => exact by decide +kernel
  | 18, _, _ => exact by decide +kernel
  | 19, _, _ => exact by decide +kernel
  | 20, _, _ => exact by decide +kernel
  | 21, _, _ => exact by decide +kernel
  | 22, _, _ => exact by decide +kernel
  | 23, _, _ => exact by decide +kernel
  | 24, _, _ => exact by decide +kernel
  | 25, _, _ => exact by decide +kernel
  | 26, _, _ => exact by decide +kernel
  | 27, _, _ => exact by decide +kernel
  | 28, _, _ => exact by decide +kernel
  | 29, _, _ => exact by decide +kernel
  | 30, _, _ => exact by decide +kernel
  | 31, _, _ => exact by decide +kernel
  | 32, _, _ => exact by decide +kernel
  | 33, _, _ => exact by decide +kernel
  | 34, _, _ => exact by decide +kernel
  | 35, _, _ => exact by decide +kernel
  | 36, _, _ => exact by decide +kernel
  | 37, _, _ => exact by decide +kernel
  | 38, _, _ => exact by decide +kernel
  | 39, _, _ => exact by decide +kernel
  | 40, _, _ => exact by decide +kernel
  | 41, _, _ => exact by decide +kernel
  | 42, _, _ => exact by decide +kernel
  | 43, _, _ => exact by decide +kernel
  | 44, _, _ => exact by decide +kernel
  | 45, _, _ => exact by decide +kernel
  | 46, _, _ => exact by decide +kernel
  | 47, _, _ => exact by decide +kernel
  | 48, _, _ => exact by decide +kernel
  | 49, _, _ => exact by decide +kernel
  | 50, _, _ => exact by decide +kernel
  | 51, _, _ => exact by decide +kernel
  | 52, _, _ => exact by decide +kernel
  | 53, _, _ => exact by decide +kernel
  | 54, _, _ => exact by decide +kernel
  | 55, _, _ => exact by decide +kernel
  | 56, _, _ => exact by decide +kernel
  | 57, _, _ => exact by decide +kernel
  | 58, _, _ => exact by decide +kernel
  | 59, _, _ => exact by decide +kernel
  | 60, _, _ => exact by decide +kernel
  | 61, _, _ => exact by decide +kernel
  | 62, _, _ => exact by decide +kernel
  | 63, _, _ => exact by decide +kernel
  | 64, _, _ => exact by decide +kernel
  | 65, _, _ => exact by decide +kernel
  | 66, _, _ => exact by decide +kernel
  | 67, _, _ => exact by decide +kernel
  | 68, _, _ => exact by decide +kernel
  | 69, _, _ => exact by decide +kernel
  | 70, _, _ => exact by decide +kernel
  | 71, _, _ => exact by decide +kernel
  | 72, _, _ => exact by decide +kernel
  | 73, _, _ => exact by decide +kernel
  | 74, _, _ => exact by decide +kernel
  | 75, _, _ => exact by decide +kernel
  | 76, _, _ => exact by decide +kernel
  | 77, _, _ => exact by decide +kernel
  | 78, _, _ => exact by decide +kernel
  | 79, _, _ => exact by decide +kernel
  | 80, _, _ => exact by decide +kernel
  | 81, _, _ => exact by decide +kernel
  | 82, _, _ => exact by decide +kernel
  | 83, _, _ => exact by decide +kernel
  | 84, _, _ => exact by decide +kernel
  | 85, _, _ => exact by decide +kernel
  | 86, _, _ => exact by decide +kernel
  | 87, _, _ => exact by decide +kernel
  | 88, _, _ => exact by decide +kernel
  | 89, _, _ => exact by decide +kernel
  | 90, _, _ => exact by decide +kernel
  | 91, _, _ => exact by decide +kernel
  | 92, _, _ => exact by decide +kernel
  | 93, _, _ => exact by decide +kernel
  | 94, _, _ => exact by decide +kernel
  | 95, _, _ => exact by decide +kernel
  | 96, _, _ => exact by decide +kernel
  | 97, _, _ => exact by decide +kernel
  | 98, _, _ => exact by decide +kernel
  | 99, _, _ => exact by decide +kernel
  | 100, _, _ => exact by decide +kernel
  | 101, _, _ => exact by decide +kernel
  | 102, _, _ => exact by decide +kernel
  | 103, _, _ => exact by decide +kernel
  | 104, _, _ => exact by decide +kernel
  | 105, _, _ => exact by decide +kernel
  | 106, _, _ => exact by decide +kernel
  | 107, _, _ => exact by decide +kernel
  | 108, _, _ => exact by decide +kernel
  | 109, _, _ => exact by decide +kernel
  | 110, _, _ => exact by decide +kernel
  | 111, _, _ => exact by decide +kernel
  | 112, _, _ => exact by decide +kernel
  | 113, _, _ => exact by decide +kernel
  | 114, _, _ => exact by decide +kernel
  | 115, _, _ => exact by decide +kernel
  | 116, _, _ => exact by decide +kernel
  | 117, _, _ => exact by decide +kernel
  | 118, _, _ => exact by decide +kernel
  | 119, _, _ => exact by decide +kernel
  | 120, _, _ => exact by decide +kernel
  | 121, _, _ => exact by decide +kernel
  | 122, _, _ => exact by decide +kernel
  | 123, _, _ => exact by decide +kernel
  | 124, _, _ => exact by decide +kernel
  | 125, _, _ => exact by decide +kernel
  | 126, _, _ => exact by decide +kernel
  | 127, _, _ => exact by decide +kernel
  | 128, _, _ => exact by decide +kernel
  | 129, _, _ => exact by decide +kernel
  | 130, _, _ => exact by decide +kernel
  | 131, _, _ => exact by decide +kernel
  | 132, _, _ => exact by decide +kernel
  | 133, _, _ => exact by decide +kernel
  | 134, _, _ => exact by decide +kernel
  | 135, _, _ => exact by decide +kernel
  | 136, _, _ => exact by decide +kernel
  | 137, _, _ => exact by decide +kernel
  | n + 138, _, h => exact absurd h (by omega)
end
section
/-! the tables' words at a state, in a form that every later state keeps -/
def ax_tt (x : Nat) : String := match x with
  | 0 => "there is no such thing"
  | 1 => "the number is none of those that the call knows"
  | _ => "not in this state"
def ax_tb (U : State) : Prop := (∀ w ∈ lw_tbl, w.onTables = true → w.before #[] U = true) ∧ (∀ ty : FieldType, ty = .int ∨ ty = .boolean ∨ ty = .long → (Cond.arrayClass ty).before #[] U = true) ∧ (∀ x ty, ax_ra x = true → ax_aty x = some ty → (Cond.arrayOver ty).before #[] U = true) ∧ (∀ j, j < 3 → ∃ a, vk_R "MakerGuard" (ax_tx j).2.1 (ax_tt j) a U) ∧ (∀ i j, i < 3 → j < 3 → i ≠ j → va_Nc (ax_en i) (ax_en j) U)
def ax_wk (w : Cond) : Bool := w.keeps || (w.faceAtom || (match w with | .fieldLinkNest .. => true | .methodLinkNest .. => true | _ => false))
theorem ax_warm {w : Cond} (ho : w.onTables = true) (hk : ax_wk w = true) {s U : State} (hW : s.WarmedH U.vm) (h : w.before #[] s = true) : w.before #[] U = true := by
  unfold ax_wk at hk
  rw [Bool.or_eq_true, Bool.or_eq_true] at hk
  rcases hk with hk | hk | hk
  · exact word_at hW (Or.inl (by rw [ho, hk]; rfl)) h
  · exact va_tabs ho (rfl : (s.setVm U.vm).vm = U.vm) (Cond.faceAtom_setVm (args := #[]) hW.alike w hk h)
  · cases w with
    | fieldLinkNest a i b n d g => exact va_Nw.warmF hW h
    | methodLinkNest a i x g => exact va_Nw.warmM hW h
    | _ => cases hk
theorem ax_wk_all_1 : (lw_tbl.take 400).all (fun w => !w.onTables || ax_wk w) = true := by decide +kernel
theorem ax_wk_all_2 : (lw_tbl.drop 400).all (fun w => !w.onTables || ax_wk w) = true := by decide +kernel
theorem ax_wk_of {w : Cond} (h : w ∈ lw_tbl) (ho : w.onTables = true) : ax_wk w = true := by
  have h1 := List.all_eq_true.mp (ax_take_drop 400 lw_tbl ax_wk_all_1 ax_wk_all_2) w h
  rw [ho] at h1
  exact h1
theorem ax_tb_warm {s U : State} (hW : s.WarmedH U.vm) (h : ax_tb s) : ax_tb U := by
  obtain ⟨h1, h2, h3, h4, h5⟩ := h
  refine ⟨fun w hw ho => ax_warm ho (ax_wk_of hw ho) hW (h1 w hw ho), fun ty ht => word_at hW (Or.inr ⟨ty, rfl⟩) (h2 ty ht), fun x ty hx ht => ?_, fun j hj => ?_, fun i j hi hj hn => (h5 i j hi hj hn).moved hW.alike⟩
  · obtain ⟨ci, -, -, e⟩ := ax_ra_aty hx
    cases e.symm.trans ht
    exact va_AO.moved hW.alike (h3 x _ hx ht)
  · obtain ⟨a, ha⟩ := h4 j hj
    exact ⟨a, ha.warm hW⟩
theorem ax_K_moved {D : va_G} {cA : Nat → ClassId} {u U : State} (hvm : u.vm.Alike U.vm) (h : ax_K D cA u) : ax_K D cA U :=
  ⟨fun ci h9 => u_Kn_moved hvm (h.1 ci h9), fun x ty hx => ⟨arrOfT_moved hvm (h.2 x ty hx).1, (h.2 x ty hx).2.moved hvm⟩⟩
/-- the two static fields of Throwable that a new exception reads -/
def ax_s1z (C n d : String) (b0 : Nat) (U : State) : Prop := va_Zq C n d (fun q => b0 ≤ q) U U.heap ∧ (Cond.laysStatic C n d).before #[] U = true
def ax_sz (b0 : Nat) (U : State) : Prop := ax_s1z "java/lang/Throwable" "UNASSIGNED_STACK" "[Ljava/lang/StackTraceElement;" b0 U ∧ ax_s1z "java/lang/Throwable" "SUPPRESSED_SENTINEL" "Ljava/util/List;" b0 U
theorem ax_s1z_kept {C n d : String} {b0 : Nat} {u U : State} (hvm : u.vm.Alike U.vm) (hq : ∀ q : Nat, q < u.heap.size → q < b0 → U.heap[q]? = u.heap[q]?) (h : ax_s1z C n d b0 u) : ax_s1z C n d b0 U := by
  obtain ⟨h1, h2⟩ := h
  refine ⟨(h1.moved hvm).kept (fun a z1 z2 => hq a z1 (Nat.not_le.mp z2)), ?_⟩
  have hz : ∃ v, va_Z C n d v (fun q => b0 ≤ q) u u.heap := by
    rcases h1 with z | ⟨t, z⟩
    · exact ⟨_, z⟩
    · exact ⟨_, z⟩
  obtain ⟨v, cf, kf, fi, f, a, cell, z1, z2, z3, z4, z5, z6, z7, z8⟩ := hz
  obtain ⟨c, k, i, f', a', cell', y1, y2, y3, y4, y5, y6, y7, y8, y9⟩ := Cond.laysStatic_spec h2
  cases z1.symm.trans y2
  cases z4.symm.trans y4
  obtain ⟨k', hi', hek⟩ := State.fieldFound?_setVm hvm y2
  have hc : U.heap[a]? = some cell' := by rw [hq a (Array.getElem?_eq_some_iff.mp y5).1 (Nat.not_le.mp z8)]; exact y5
  exact Cond.laysStatic_of (s := U) (by rw [hvm.findClass]; exact y1) hi' y3 (by rw [hek]; exact y4) hc y6 y7 y8 (by rw [hek]; exact y9)
theorem ax_s1z_ref {C n d : String} {b0 : Nat} {U : State} {A : Array Value} (h : ax_s1z C n d b0 U) : (Cond.isRef (.static C n d)).before A U = true := by
  rcases h.1 with ⟨cf, kf, fi, f, a, cell, z1, z2, z3, z4, z5, z6, z7, z8⟩ | ⟨t, cf, kf, fi, f, a, cell, z1, z2, z3, z4, z5, z6, z7, z8⟩
  · simp [Cond.before, Cond.holds, Cond.value, Term.eval, State.fieldNamed?, z1, z2, z4, z5, z6, z7]
  · simp [Cond.before, Cond.holds, Cond.value, Term.eval, State.fieldNamed?, z1, z2, z4, z5, z6, z7]
theorem ax_sz_kept {b0 : Nat} {u U : State} (hvm : u.vm.Alike U.vm) (hq : ∀ q : Nat, q < u.heap.size → q < b0 → U.heap[q]? = u.heap[q]?) (h : ax_sz b0 u) : ax_sz b0 U := ⟨ax_s1z_kept hvm hq h.1, ax_s1z_kept hvm hq h.2⟩
/-- what a method stands on at its start -/
def ax_cx (D : va_G) (cA : Nat → ClassId) (b b0 : Nat) (S : (Nat × Nat) × (Nat → Int32)) (k : Nat) (p : Program) (R : Room) (s : State) (m : MethodId) (meth : Method) (c : Code) : Prop :=
  p.tables.exec = Jvm.exec ∧ c.code = ax_by k ∧ c.maxLocals = ax_ml k ∧ s.vm.findClass (ax_ow k) = some m.cls ∧ (ax_nm k = "<init>" → meth.name = "<init>") ∧ meth.sig.returnType = ax_rt k ∧ meth.locks = false ∧ ax_tb s ∧ ax_K D cA s ∧ ax_sz b0 s ∧ (k = 0 → ax_scr b b0 S s) ∧ ax_fr k ≤ R.frames ∧ ax_lo k ≤ R.locals ∧ b0 ≤ s.heap.size
theorem ax_d1_of {cc : ByteArray} {pc n : Nat} {i : Instr} {l : Nat} (h : ax_d1 cc pc n i l = true) : decode cc pc = .ok (i, l) ∧ n = l := of_decide_eq_true h
set_option maxHeartbeats 1000000 in
theorem ax_step_mono {k pc q : Nat} {r : ax_R} {ls ls' : ax_L} {st st' : List Value} {h h' : ax_H} (hs : ax_step k pc r ls st h = some (q, ls', st', h')) : ls'.length = ls.length ∧ h.1.1 ≤ h'.1.1 ∧ h.1.2 ≤ h'.1.2 := by
  unfold ax_step at hs
  split at hs
  all_goals (try unfold ax_s1 at hs) <;> (try unfold ax_s2 at hs) <;> (try unfold ax_s3 at hs) <;> (try unfold ax_s4 at hs) <;> (try unfold ax_s5 at hs) <;> (try unfold ax_s6 at hs) <;> (try unfold ax_s7 at hs) <;> (try unfold ax_s8 at hs) <;> (try unfold ax_s10 at hs) <;> (try unfold ax_s11 at hs) <;> (try unfold ax_s12 at hs) <;> (try unfold ax_s13 at hs) <;> (try unfold ax_s15 at hs) <;> (try unfold ax_s17 at hs) <;> (try unfold ax_s19 at hs) <;> (try unfold ax_s19s at hs) <;> (try unfold ax_s20 at hs) <;> (try unfold ax_s23 at hs) <;> (try unfold ax_s24 at hs) <;> (try unfold ax_s25 at hs) <;> (try unfold ax_s26 at hs) <;> (try unfold ax_s27 at hs) <;> (try unfold ax_s28 at hs) <;> (try unfold ax_s29 at hs) <;> (try unfold ax_s30 at hs) <;> (try unfold ax_s31 at hs) <;> (try unfold ax_s32 at hs) <;> (try unfold ax_s33 at hs)
  all_goals (repeat' split at hs)
  all_goals first
    | (cases hs; done)
    | (cases hs; exact ⟨by simp, Nat.le_refl _, Nat.le_refl _⟩)
    | (cases hs; exact ⟨rfl, Nat.le_succ _, Nat.le_add_right _ _⟩)
    | (obtain ⟨v, -, e⟩ := Option.map_eq_some_iff.mp hs; cases e; exact ⟨rfl, Nat.le_refl _, Nat.le_refl _⟩)
section AxGo
variable {p : Program} {l : Launch} {e : Env} {R : Room} {s : State} {m : MethodId} {args : Array Value} {below : List Frame} {meth : Method} {c : Code} {H : Heap} {locs : List Loc} {cells slots : Nat} {Q : State → Prop}
variable {pc q : Nat} {C : Array Slot} {b b0 : Nat} {ls ls' : ax_L} {st st' : List Value} {h h' : ax_H} {D : va_G} {cA : Nat → ClassId} {S : (Nat × Nat) × (Nat → Int32)}
theorem ax_go {k op n x y : Nat} {v : Int} (X : ax_cx D cA b b0 S k p R s m meth c) (hrow : ax_rc k pc op n x y v = true) (hs : ax_step k pc (op, n, x, y, v) ls st h = some (q, ls', st', h')) (hln : ls.length = ax_ml k) (hr : ax_rel D cA b b0 S h H) (hS : va_S (fun q => b0 ≤ q) s.heap H locs) (hl : ax_lv b b0 ls C)
    (hcl : cells + (h'.1.1 - h.1.1) ≤ R.cells) (hsl : slots + (h'.1.2 - h.1.2) ≤ R.slots)
    (kk : ∀ (H1 : Heap) (locs1 : List Loc) (C1 : Array Slot), ax_rel D cA b b0 S h' H1 → va_S (fun q => b0 ≤ q) s.heap H1 locs1 → ax_lv b b0 ls' C1 → W p l e R s m args below meth c H1 locs1 (cells + (h'.1.1 - h.1.1)) (slots + (h'.1.2 - h.1.2)) Q (F0 m q C1 (st'.map (ax_cv b b0)))) : W p l e R s m args below meth c H locs cells slots Q (F0 m pc C (st.map (ax_cv b b0))) := by
  obtain ⟨hx, hb, hml, hown, hnm, -, -, htb, hK, -, hsc, hfr, hlo, -⟩ := X
  have hts : ∀ w ∈ lw_tbl, w.onTables = true → w.before args s = true := fun w hw ho => va_tabs ho rfl (htb.1 w hw ho)
  have k0 : h' = h → ∀ (H1 : Heap) (locs1 : List Loc) (C1 : Array Slot), ax_rel D cA b b0 S h' H1 → va_S (fun q => b0 ≤ q) s.heap H1 locs1 → ax_lv b b0 ls' C1 → W p l e R s m args below meth c H1 locs1 cells slots Q (F0 m q C1 (st'.map (ax_cv b b0))) := by
    intro eh H1 locs1 C1 a1 a2 a3
    have := kk H1 locs1 C1 a1 a2 a3
    rw [eh] at this
    simpa only [Nat.sub_self, Nat.add_zero] using this
  have k1 : h'.1 = h.1 → ∀ (H1 : Heap) (locs1 : List Loc) (C1 : Array Slot), ax_rel D cA b b0 S h' H1 → va_S (fun q => b0 ≤ q) s.heap H1 locs1 → ax_lv b b0 ls' C1 → W p l e R s m args below meth c H1 locs1 cells slots Q (F0 m q C1 (st'.map (ax_cv b b0))) := by
    intro eh H1 locs1 C1 a1 a2 a3
    have := kk H1 locs1 C1 a1 a2 a3
    rw [eh] at this
    simpa only [Nat.sub_self, Nat.add_zero] using this
  have kE : ls' = ls → h' = h → W p l e R s m args below meth c H locs cells slots Q (F0 m q C (st'.map (ax_cv b b0))) := fun e1 e2 => k0 e2 H locs C (by rw [e2]; exact hr) hS (by rw [e1]; exact hl)
  have kL : ∀ C', ax_lv b b0 ls' C' → h' = h → W p l e R s m args below meth c H locs cells slots Q (F0 m q C' (st'.map (ax_cv b b0))) := fun C' e1 e2 => k0 e2 H locs C' (by rw [e2]; exact hr) hS e1
  have kP : ∀ (H1 : Heap) (locs1 : List Loc), ls' = ls → h'.1 = h.1 → ax_rel D cA b b0 S h' H1 → va_S (fun q => b0 ≤ q) s.heap H1 locs1 → W p l e R s m args below meth c H1 locs1 cells slots Q (F0 m q C (st'.map (ax_cv b b0))) := fun H1 l1 e1 e2 a1 a2 => k1 e2 H1 l1 C a1 a2 (by rw [e1]; exact hl)
  have kN : ∀ (H1 : Heap), ls' = ls → ax_rel D cA b b0 S h' H1 → va_S (fun q => b0 ≤ q) s.heap H1 locs → W p l e R s m args below meth c H1 locs (cells + (h'.1.1 - h.1.1)) (slots + (h'.1.2 - h.1.2)) Q (F0 m q C (st'.map (ax_cv b b0))) := fun H1 e1 a1 a2 => kk H1 locs C a1 a2 (by rw [e1]; exact hl)
  have hCs : C.size = c.maxLocals := by rw [hl.1, hln, hml]
  have lkF : ∀ {L : List (Nat × Nat × Nat × Nat × Nat)}, True := trivial
  match op, hrow, hs with
  | 0, hrow, hs =>
    cases hs
    have hd : (decide (decode (ax_by k) pc = .ok (.iconst v, 1) ∧ n = 1) || (decide (decode (ax_by k) pc = .ok (.bipush v, 2) ∧ n = 2 ∧ (Int8.ofInt v).toInt32 = Int32.ofInt v) || decide (decode (ax_by k) pc = .ok (.sipush v, 3) ∧ n = 3 ∧ (Int16.ofInt v).toInt32 = Int32.ofInt v))) = true := hrow
    rw [Bool.or_eq_true, Bool.or_eq_true, decide_eq_true_eq, decide_eq_true_eq, decide_eq_true_eq] at hd
    exact ax_o0 hx hb hd (kE rfl rfl)
  | 1, hrow, hs => exact ax_o1 hx hb hl (ax_ld_of hrow) hs kE
  | 2, hrow, hs => exact ax_o2 hx hb hl (ax_ld_of hrow) hs kE
  | 3, hrow, hs => exact ax_o3 hx hb hl (ax_ld_of hrow) hs kL
  | 4, hrow, hs => exact ax_o4 hx hb hl (ax_ld_of hrow) hs kL
  | 5, hrow, hs =>
    obtain ⟨d, rfl⟩ := ax_d1_of hrow
    exact ax_o5 hx hb hl d hs kL
  | 6, hrow, hs =>
    obtain ⟨d, rfl⟩ := ax_d1_of hrow
    exact ax_o6 hx hb d hs kE
  | 7, hrow, hs =>
    obtain ⟨d, rfl⟩ := ax_d1_of hrow
    exact ax_o7 hx hb d hs kE
  | 8, hrow, hs =>
    obtain ⟨d, rfl⟩ := ax_d1_of hrow
    exact ax_o8 hx hb d hs kE
  | 9, hrow, hs =>
    have hd : (if h : x < 2 then ax_d1 (ax_by k) pc n (.lconst ⟨x, h⟩) 1 else false) = true := hrow
    split at hd
    · rename_i h2
      obtain ⟨d, rfl⟩ := ax_d1_of hd
      cases hs
      exact ax_o9 hx hb ⟨⟨x, h2⟩, rfl, d⟩ (kE rfl rfl)
    · cases hd
  | 10, hrow, hs =>
    obtain ⟨d, rfl⟩ := ax_d1_of hrow
    exact ax_o10 hx hb d hs kE
  | 11, hrow, hs =>
    obtain ⟨d, rfl⟩ := ax_d1_of hrow
    exact ax_o11 hx hb d hs kE
  | 12, hrow, hs =>
    obtain ⟨d, rfl⟩ := ax_d1_of hrow
    exact ax_o12 hx hb d hs kE
  | 13, hrow, hs =>
    obtain ⟨d, rfl⟩ := ax_d1_of hrow
    exact ax_o13 hx hb d hs kE
  | 14, hrow, hs =>
    obtain ⟨d, rfl⟩ := ax_d1_of hrow
    cases hs
    exact ax_o14 hx hb d (kE rfl rfl)
  | 15, hrow, hs =>
    have hrow : (ax_d1 (ax_by k) pc n (.getfield v.toNat) 3 && ax_lk ax_Lf (ax_wn k) v x y) = true := hrow
    rw [Bool.and_eq_true] at hrow
    obtain ⟨d, rfl⟩ := ax_d1_of hrow.1
    obtain ⟨w, hw, e1, e2, e3, e4⟩ := ax_lk_of hrow.2
    have hw := ax_Lf_in hw
    rw [e1, e2, e3, e4] at hw
    exact ax_o15 hx hb hown hts hK hr d (hts _ hw rfl) hs kE
  | 16, hrow, hs =>
    have hrow : (ax_d1 (ax_by k) pc n (.getfield v.toNat) 3 && ax_lk ax_Lg (ax_wn k) v x y) = true := hrow
    rw [Bool.and_eq_true] at hrow
    obtain ⟨d, rfl⟩ := ax_d1_of hrow.1
    obtain ⟨w, hw, e1, e2, e3, e4⟩ := ax_lk_of hrow.2
    have hw := ax_Lg_in hw
    rw [e1, e2, e3, e4] at hw
    exact ax_o16 hx hb hown hts hK hr d (hts _ hw rfl) hs kE
  | 17, hrow, hs =>
    have hrow : (ax_d1 (ax_by k) pc n (.putfield v.toNat) 3 && decide ((ax_Tf x y).2.2.2 = false) && ax_lk ax_Lf (ax_wn k) v x y) = true := hrow
    rw [Bool.and_eq_true, Bool.and_eq_true, decide_eq_true_eq] at hrow
    obtain ⟨d, rfl⟩ := ax_d1_of hrow.1.1
    obtain ⟨w, hw, e1, e2, e3, e4⟩ := ax_lk_of hrow.2
    have hw := ax_Lf_in hw
    rw [e1, e2, e3, e4] at hw
    exact ax_o17 hx hb hown hts hK hr hS (Or.inl hrow.1.2) d (hts _ hw rfl) hs kP
  | 18, hrow, hs =>
    have hrow : (ax_d1 (ax_by k) pc n (.putfield v.toNat) 3 && decide ((ax_Tf x y).2.2.2 = true ∧ ax_nm k = "<init>" ∧ ax_cn x = ax_ow k) && ax_lk ax_Lf (ax_wn k) v x y) = true := hrow
    rw [Bool.and_eq_true, Bool.and_eq_true, decide_eq_true_eq] at hrow
    obtain ⟨d, rfl⟩ := ax_d1_of hrow.1.1
    obtain ⟨w, hw, e1, e2, e3, e4⟩ := ax_lk_of hrow.2
    have hw := ax_Lf_in hw
    rw [e1, e2, e3, e4] at hw
    exact ax_o17 hx hb hown hts hK hr hS (Or.inr ⟨hrow.1.2.1, hnm hrow.1.2.2.1, hrow.1.2.2.2⟩) d (hts _ hw rfl) hs kP
  | 19, hrow, hs =>
    obtain ⟨d, rfl⟩ := ax_d1_of hrow
    exact ax_o19 hx hb hK hr (Or.inl ⟨rfl, d⟩) hs kE
  | 20, hrow, hs =>
    obtain ⟨d, rfl⟩ := ax_d1_of hrow
    exact ax_o20 hx hb hK hr hS (Or.inl ⟨rfl, d⟩) hs kP
  | 21, hrow, hs =>
    obtain ⟨d, rfl⟩ := ax_d1_of hrow
    exact ax_o19 hx hb hK hr (Or.inr ⟨rfl, d⟩) hs kE
  | 22, hrow, hs =>
    obtain ⟨d, rfl⟩ := ax_d1_of hrow
    exact ax_o20 hx hb hK hr hS (Or.inr ⟨rfl, d⟩) hs kP
  | 23, hrow, hs =>
    obtain ⟨d, rfl⟩ := ax_d1_of hrow
    exact ax_o23 hx hb hK hr d hs kE
  | 24, hrow, hs =>
    obtain ⟨d, rfl⟩ := ax_d1_of hrow
    exact ax_o24 hx hb hK hr hS d hs kP
  | 25, hrow, hs =>
    obtain ⟨d, rfl⟩ := ax_d1_of hrow
    exact ax_o25 hx hb hK hr d hs kE
  | 26, hrow, hs =>
    obtain ⟨d, rfl⟩ := ax_d1_of hrow
    exact ax_o26 hx hb hK hr hS d hs kP
  | 27, hrow, hs =>
    obtain ⟨d, rfl⟩ := ax_d1_of hrow
    exact ax_o27 hx hb hsc hK hr hS d hs kE
  | 28, hrow, hs =>
    have hrow : (ax_d1 (ax_by k) pc n (.new v.toNat) 3 && ax_lk ax_Lc (ax_wn k) v x 0) = true := hrow
    rw [Bool.and_eq_true] at hrow
    obtain ⟨d, rfl⟩ := ax_d1_of hrow.1
    obtain ⟨w, hw, e1, e2, e3, e4⟩ := ax_lk_of hrow.2
    have hw := ax_Lc_in hw
    rw [e1, e2, e3] at hw
    exact ax_o28 hx hb hown hts hK hr hS d (hts _ hw rfl) hs hcl hsl kN
  | 29, hrow, hs =>
    obtain ⟨d, rfl⟩ := ax_d1_of hrow
    exact ax_o29 hx hb htb.2.1 hK hr hS d hs hcl hsl kN
  | 30, hrow, hs =>
    have hrow : (ax_d1 (ax_by k) pc n (.anewarray v.toNat) 3 && ax_lk ax_Lc (ax_wn k) v x 0) = true := hrow
    rw [Bool.and_eq_true] at hrow
    obtain ⟨d, rfl⟩ := ax_d1_of hrow.1
    obtain ⟨w, hw, e1, e2, e3, e4⟩ := ax_lk_of hrow.2
    have hw := ax_Lc_in hw
    rw [e1, e2, e3] at hw
    exact ax_o30 hx hb hown htb.2.2.1 hK hr hS d (hts _ hw rfl) hs hcl hsl kN
  | 31, hrow, hs =>
    have hrow : (ax_d1 (ax_by k) pc n (.invokespecial v.toNat) 3 && ax_lk ax_Lo (ax_wn k) v 0 0 && decide (1 ≤ ax_fr k ∧ 20 ≤ ax_lo k)) = true := hrow
    rw [Bool.and_eq_true, Bool.and_eq_true, decide_eq_true_eq] at hrow
    obtain ⟨d, rfl⟩ := ax_d1_of hrow.1.1
    obtain ⟨w, hw, e1, e2, e3, e4⟩ := ax_lk_of hrow.1.2
    have hw := ax_Lo_in hw
    rw [e1, e2] at hw
    exact ax_o31 hx hb hown hCs d (hts _ hw rfl) (hts _ (List.mem_of_getElem? (i := 70) (by decide +kernel)) rfl) (hts _ (List.mem_of_getElem? (i := 71) (by decide +kernel)) rfl) (Nat.le_trans hrow.2.1 hfr) (Nat.le_trans hrow.2.2 hlo) hs kE
  | 32, hrow, hs =>
    have hrow : (ax_d1 (ax_by k) pc n (.invokestatic v.toNat) 3 && ax_lk ax_La (ax_wn k) v 0 0 && decide (1 ≤ ax_fr k ∧ nativeFrameWords "java/lang/System" "arraycopy" 5 + 11 ≤ ax_lo k)) = true := hrow
    rw [Bool.and_eq_true, Bool.and_eq_true, decide_eq_true_eq] at hrow
    obtain ⟨d, rfl⟩ := ax_d1_of hrow.1.1
    obtain ⟨w, hw, e1, e2, e3, e4⟩ := ax_lk_of hrow.1.2
    have hw := ax_La_in hw
    rw [e1, e2] at hw
    exact ax_o32 hx hb hown hCs.symm hK hr hS d (hts _ hw rfl) (hts _ (List.mem_of_getElem? (i := 543) (by decide +kernel)) rfl) (hts _ (List.mem_of_getElem? (i := 542) (by decide +kernel)) rfl) (hts _ (List.mem_of_getElem? (i := 63) (by decide +kernel)) rfl) (Nat.le_trans hrow.2.1 hfr) (Nat.le_trans hrow.2.2 hlo) hs kP
  | 33, hrow, hs => exact ax_o33 hx hb (of_decide_eq_true hrow) hs kE
  | 34, hrow, hs =>
    obtain ⟨d, rfl⟩ := ax_d1_of hrow
    exact ax_o34 hx hb hsc hr hS d hs kE
  | op + 35, hrow, hs => cases hs
end AxGo
end
section
/-! THE ABSTRACT RUN: a method's answer (.inl: what it returns; .inr (a, j): the exception a of kind j that it throws) and the heap behind it -/
abbrev ax_O : Type := Option Value ⊕ (Nat × Nat)
def ax_hn (hs : List (Nat × Nat × Nat × Nat)) (pc j : Nat) : Option Nat := match hs with
  | [] => none
  | q :: r => if q.1 ≤ pc ∧ pc < q.2.1 ∧ q.2.2.2 = j then some q.2.2.1 else ax_hn r pc j
def ax_entry (x : Nat) (As : List Value) : ax_L := As.map some ++ List.replicate (ax_ml x - As.length) none
/-- may these be the arguments of a call: the receiver's class, and the weight of what stays on the stack -/
def ax_ca (op x : Nat) (As rest : List Value) (h : ax_H) : Bool := decide (As.all (fun v => v.category == 1) = true ∧ (rest.map fun v => v.category).sum ≤ 8) && (if op < 42 then true else match As with
  | .ref a :: _ => decide (op ≠ 42 ∨ (a < h.1.1 ∧ (h.2.1 a).1 = ax_wn x + 1 ∧ ax_wn x < 9 ∧ ax_nm x ≠ "<init>"))
  | _ => false)
def ax_e50 (k : Nat) (st : List Value) (h : ax_H) : Option (ax_O × ax_H) := match st with
  | [.int a] => if ax_rt k = some .int ∨ a = 0 ∨ a = 1 then some (.inl (some (.int a)), h) else none
  | _ => none
def ax_e51 (st : List Value) (h : ax_H) : Option (ax_O × ax_H) := match st with
  | [] => some (.inl none, h)
  | _ => none
def ax_e52 (st : List Value) (h : ax_H) : Option (ax_O × ax_H) := match st with
  | [.ref a] => some (.inl (some (.ref a)), h)
  | _ => none
def ax_e53 (x : Nat) (st : List Value) (h : ax_H) : Option (ax_O × ax_H) := match st with
  | [] => if h.1.1 < 900000000 then some (.inr (h.1.1, x), ((h.1.1 + 1, h.1.2 + 6), ax_sh h.2.1 h.1.1 (0, 0), h.2.2)) else none
  | _ => none
def ax_end (k op x : Nat) (st : List Value) (h : ax_H) : Option (ax_O × ax_H) := match op with
  | 50 => ax_e50 k st h
  | 51 => ax_e51 st h
  | 52 => ax_e52 st h
  | 53 => ax_e53 x st h
  | _ => none
def ax_exec : Nat → Nat → Nat → ax_L → List Value → ax_H → Option (ax_O × ax_H)
  | 0, _, _, _, _, _ => none
  | n + 1, k, pc, ls, st, h => match ax_code k pc with
    | none => none
    | some r => if r.1 < 40 then match ax_step k pc r ls st h with
        | some z => ax_exec n k z.1 z.2.1 z.2.2.1 z.2.2.2
        | none => none
      else if r.1 < 50 then (if r.2.2.2.1 ≤ st.length ∧ ax_ca r.1 r.2.2.1 (st.take r.2.2.2.1).reverse (st.drop r.2.2.2.1) h = true then match ax_exec n r.2.2.1 0 (ax_entry r.2.2.1 (st.take r.2.2.2.1).reverse) [] h with
          | some (.inl w, h1) => ax_exec n k (pc + 3) ls (w.toList ++ st.drop r.2.2.2.1) h1
          | some (.inr q, h1) => match ax_hn (ax_hd k) pc q.2 with
            | some t => ax_exec n k t ls [.ref q.1] h1
            | none => if ax_hx k = [] then some (.inr q, h1) else none
          | none => none
        else none)
      else ax_end k r.1 r.2.2.1 st h
theorem ax_end_mono {k op x : Nat} {st : List Value} {h h' : ax_H} {r : ax_O} (he : ax_end k op x st h = some (r, h')) : h.1.1 ≤ h'.1.1 ∧ h.1.2 ≤ h'.1.2 := by
  unfold ax_end at he
  split at he
  all_goals (try unfold ax_e50 at he) <;> (try unfold ax_e51 at he) <;> (try unfold ax_e52 at he) <;> (try unfold ax_e53 at he)
  all_goals (repeat' split at he)
  all_goals first
    | (cases he; done)
    | (cases he; exact ⟨Nat.le_refl _, Nat.le_refl _⟩)
    | (cases he; exact ⟨Nat.le_succ _, Nat.le_add_right _ _⟩)
theorem ax_exec_mono : ∀ (n k pc : Nat) (ls : ax_L) (st : List Value) (h h' : ax_H) (r : ax_O), ax_exec n k pc ls st h = some (r, h') → h.1.1 ≤ h'.1.1 ∧ h.1.2 ≤ h'.1.2 := by
  intro n
  induction n with
  | zero => intro k pc ls st h h' r he; cases he
  | succ n ih =>
    intro k pc ls st h h' r he
    unfold ax_exec at he
    split at he
    · cases he
    · split at he
      · split at he
        · rename_i z hz
          obtain ⟨z1, z2, z3, z4⟩ := z
          obtain ⟨-, a1, a2⟩ := ax_step_mono hz
          obtain ⟨b1, b2⟩ := ih _ _ _ _ _ _ _ he
          exact ⟨Nat.le_trans a1 b1, Nat.le_trans a2 b2⟩
        · cases he
      · split at he
        · split at he
          · split at he
            · rename_i hc
              obtain ⟨a1, a2⟩ := ih _ _ _ _ _ _ _ hc
              obtain ⟨b1, b2⟩ := ih _ _ _ _ _ _ _ he
              exact ⟨Nat.le_trans a1 b1, Nat.le_trans a2 b2⟩
            · rename_i hc
              obtain ⟨a1, a2⟩ := ih _ _ _ _ _ _ _ hc
              split at he
              · obtain ⟨b1, b2⟩ := ih _ _ _ _ _ _ _ he
                exact ⟨Nat.le_trans a1 b1, Nat.le_trans a2 b2⟩
              · split at he
                · cases he
                  exact ⟨a1, a2⟩
                · cases he
            · cases he
          · cases he
        · exact ax_end_mono he
/-- how a run ends, as the machine has it -/
def ax_oc (b b0 : Nat) (r : ax_O) (o : Outcome) (t : State) : Prop := match r with
  | .inl w => o = .returned (w.map (ax_cv b b0))
  | .inr q => o = .threw (b0 + q.1) ∧ q.1 < 1000000000 ∧ q.2 < 3 ∧ ∃ ce : Cell, t.heap[b0 + q.1]? = some ce ∧ ce.vm = .none ∧ t.vm.findClass (ax_en q.2) = some ce.cls ∧ t.vm.assignable ce.cls ce.cls = true
def ax_Z (D : va_G) (cA : Nat → ClassId) (b b0 : Nat) (S : (Nat × Nat) × (Nat → Int32)) (below : List Frame) (s : State) (r : ax_O) (h' : ax_H) (kc ks : Nat) : State → Prop := fun t =>
  ∃ o, t.status = .running ∧ Ended t below o ∧ s.WarmedH t.vm ∧ (∃ L, s.sameButNew ({ t with vm := s.vm } : State) L kc ks ∧ ∀ q ∈ L, b0 ≤ q.base) ∧ ax_rel D cA b b0 S h' t.heap ∧ (∀ q : Nat, q < s.heap.size → q < b0 → t.heap[q]? = s.heap[q]?) ∧ ax_oc b b0 r o t
/-- the table of handlers that the machine has -/
def ax_tabl (k : Nat) (c : Code) : Prop := c.exceptionTable.toList.map (fun h => (h.startPc, h.endPc, h.handlerPc, h.catchType)) = ax_hx k
/-- every abstract run of n steps is a run of the machine -/
def ax_P (n : Nat) : Prop := ∀ (k pc : Nat) (ls : ax_L) (st : List Value) (h : ax_H) (r : ax_O) (h' : ax_H), k < 138 → ax_exec n k pc ls st h = some (r, h') →
  ∀ (p : Program) (l : Launch) (e : Env) (R : Room) (s : State) (m : MethodId) (args : Array Value) (below : List Frame) (meth : Method) (c : Code) (H : Heap) (locs : List Loc) (cells slots : Nat) (C : Array Slot) (D : va_G) (cA : Nat → ClassId) (b b0 : Nat) (S : (Nat × Nat) × (Nat → Int32)),
    e.platform.stackTraces = false → ax_cx D cA b b0 S k p R s m meth c → ax_tabl k c → ls.length = ax_ml k → ax_rel D cA b b0 S h H → va_S (fun q => b0 ≤ q) s.heap H locs → ax_lv b b0 ls C →
    cells + (h'.1.1 - h.1.1) ≤ R.cells → slots + (h'.1.2 - h.1.2) ≤ R.slots →
    W p l e R s m args below meth c H locs cells slots (ax_Z D cA b b0 S below s r h' (cells + (h'.1.1 - h.1.1)) (slots + (h'.1.2 - h.1.2))) (F0 m pc C (st.map (ax_cv b b0)))
theorem ax_cw_on (k : Nat) : (ax_cw k).onTables = true := by
  unfold ax_cw
  split <;> rfl
theorem ax_cw_spec {k : Nat} {s : State} {A : Array Value} {mk : MethodId} (hn : s.methodNamed? (ax_md k) = some mk) (hw : (ax_cw k).before A s = true) : ∃ (meth : Method) (c : Code), s.vm.method? mk = some meth ∧ meth.code = some c ∧ c.code = ax_by k ∧ c.maxLocals = ax_ml k ∧ meth.sig.returnType = ax_rt k ∧ meth.locks = false ∧ ax_tabl k c ∧ parseMethodDescriptor (ax_ds k) = some meth.sig := by
  unfold ax_cw at hw
  split at hw
  · rename_i e
    obtain ⟨meth, c, h1, h2, h3, h4, h5, h6, h7, h8⟩ := Cond.code_spec hn hw
    refine ⟨meth, c, h1, h2, h3, h4, h5, h6, ?_, h8⟩
    unfold ax_tabl
    have h0 : c.exceptionTable.size = 0 := by simpa [Array.isEmpty] using h7
    have h9 : c.exceptionTable.toList = [] := List.eq_nil_of_length_eq_zero (by simpa using h0)
    rw [h9, e]; rfl
  · obtain ⟨m9, meth, c, hn9, h1, h2, h3, h4, h5, h6, h7, h8⟩ := Cond.codeWith_spec hw
    cases hn.symm.trans hn9
    exact ⟨meth, c, h1, h2, h3, h4, h6, h7, h5, h8⟩
theorem ax_cw_named {k : Nat} {s : State} {A : Array Value} (hw : (ax_cw k).before A s = true) : ∃ mk, s.methodNamed? (ax_md k) = some mk := by
  unfold ax_cw at hw
  split at hw
  · exact Cond.code_named hw
  · obtain ⟨m9, meth, c, hn9, -⟩ := Cond.codeWith_spec hw
    exact ⟨m9, hn9⟩
theorem ax_sl_one {As : List Value} (h : As.all (fun v => v.category == 1) = true) : lg_sl As = As.map Slot.val := by
  induction As with
  | nil => rfl
  | cons v r ih =>
    rw [List.all_cons, Bool.and_eq_true, beq_iff_eq] at h
    have ih := ih h.2
    unfold lg_sl at ih ⊢
    rw [List.flatMap_cons, ih, if_neg (by omega)]
    rfl
theorem ax_lv_entry {b b0 x : Nat} {As : List Value} (hc : As.all (fun v => v.category == 1) = true) (hlen : As.length ≤ ax_ml x) : ax_lv b b0 (ax_entry x As) ((lg_sl (As.map (ax_cv b b0)) ++ List.replicate (ax_ml x - (lg_sl (As.map (ax_cv b b0))).length) Slot.unset).toArray) := by
  have hc2 : (As.map (ax_cv b b0)).all (fun v => v.category == 1) = true := by
    rw [List.all_map]
    have : ((fun v : Value => v.category == 1) ∘ ax_cv b b0) = (fun v : Value => v.category == 1) := by funext v; simp [ax_cv_cat]
    rw [this]; exact hc
  have hsl := ax_sl_one hc2
  have hE := lv_entry (As.map (ax_cv b b0)) (n := ax_ml x) (by rw [hsl]; simpa using hlen)
  refine ⟨?_, hE.2.1, fun i v hi => ?_⟩
  · rw [hE.1]; simp [ax_entry]; omega
  · unfold ax_entry at hi
    by_cases hl : i < As.length
    · rw [List.getElem?_append_left (by simpa using hl), List.getElem?_map, List.getElem?_eq_getElem hl] at hi
      have hv : As[i] = v := by simpa using hi
      have hcat : v.category = 1 := by
        have := List.all_eq_true.mp hc v (by rw [← hv]; exact List.getElem_mem hl)
        simpa using this
      refine ⟨hcat, ?_⟩
      rw [hsl]
      simp only [List.getElem?_toArray]
      rw [List.getElem?_append_left (by simpa using hl), List.getElem?_map, List.getElem?_map, List.getElem?_eq_getElem hl, hv]
      rfl
    · rw [List.getElem?_append_right (by simpa using Nat.not_lt.mp hl)] at hi
      have := List.eq_of_mem_replicate (List.mem_of_getElem? hi)
      cases this
section AxE
variable {p : Program} {l : Launch} {e : Env} {R : Room} {s : State} {m : MethodId} {args : Array Value} {below : List Frame} {meth : Method} {c : Code} {locs : List Loc} {cells slots : Nat}
variable {b b0 : Nat} {h h' : ax_H} {D : va_G} {cA : Nat → ClassId} {S : (Nat × Nat) × (Nat → Int32)}
theorem ax_enter {n x : Nat} (IH : ax_P n) (hx0 : 0 < x) (hx1 : x < 138) {T : State} (X : Stand p l e R s m args below meth c T locs cells slots) (htr : e.platform.stackTraces = false) (hexec : p.tables.exec = Jvm.exec) (htb : ax_tb s) (hK : ax_K D cA s) (hsz : ax_sz b0 s) (hS : va_S (fun q => b0 ≤ q) s.heap T.heap locs) (hb0 : b0 ≤ s.heap.size)
    {g : JFrame} (hg : g.method = m) (hsize : g.locals.size = c.maxLocals) {ig : Instr} (hdg : decode c.code g.pc = .ok (ig, 3)) {mk : MethodId} (hn : s.methodNamed? (ax_md x) = some mk) {As : List Value} (hcat : As.all (fun v => v.category == 1) = true) (hlen : As.length ≤ ax_ml x) (hr : ax_rel D cA b b0 S h T.heap) {r : ax_O} (he : ax_exec n x 0 (ax_entry x As) [] h = some (r, h'))
    (hfr : ax_fr x + 1 ≤ R.frames) (hlo : 2 * g.monitorRoom + (g.stack.map fun v => v.category).sum + (ax_ml x + 11) + ax_lo x ≤ R.locals) (hcl : cells + (h'.1.1 - h.1.1) ≤ R.cells) (hsl : slots + (h'.1.2 - h.1.2) ≤ R.slots) :
    ∃ t : State, (∀ acts, Steps p.tables e below (doInvoke e (T.setTop g) acts mk (As.map (ax_cv b b0)).toArray).1 t) ∧ ax_Z D cA b b0 S (.java g :: below) (T.calling g mk (As.map (ax_cv b b0)).toArray) r h' (h'.1.1 - h.1.1) (h'.1.2 - h.1.2) t := by
  obtain ⟨methk, ck, k1, k2, k3, k4, k5, k6, k7, k8⟩ := ax_cw_spec hn (htb.1 _ (ax_cw_in x hx0 hx1) (ax_cw_on x))
  obtain ⟨-, -, -, dp, -, -⟩ := ax_dn x hx0 hx1
  have hal : s.vm.Alike T.vm := X.warmed.alike
  have hmk : T.vm.method? mk = some methk := by rw [hal.method?]; exact k1
  have hnT : T.methodNamed? (ax_md x) = some mk := X.named hn
  have hpk : T.plainMethod mk := State.plainMethod.of_named dp hnT hmk
  obtain ⟨Y, hin⟩ := X.into hg hsize hdg (As.map (ax_cv b b0)).toArray (R' := { frames := ax_fr x, cells := h'.1.1 - h.1.1, slots := h'.1.2 - h.1.2, locals := ax_lo x }) hmk k2 k6 hpk hfr (by rw [k4]; exact hlo) hcl hsl
  have hW : s.WarmedH (T.calling g mk (As.map (ax_cv b b0)).toArray).vm := X.warmed
  have hheap : (T.calling g mk (As.map (ax_cv b b0)).toArray).heap = T.heap := rfl
  have hvm : (T.calling g mk (As.map (ax_cv b b0)).toArray).vm = T.vm := rfl
  have ctx : ax_cx D cA b b0 S x p { frames := ax_fr x, cells := h'.1.1 - h.1.1, slots := h'.1.2 - h.1.2, locals := ax_lo x } (T.calling g mk (As.map (ax_cv b b0)).toArray) mk methk ck := by
    exact ⟨hexec, k3, k4, findClass_of_methodNamed hnT, fun z => (name_of_methodNamed hnT hmk).1.trans z, k5, k6, ax_tb_warm hW htb, ax_K_moved hW.alike hK, ax_sz_kept hW.alike (fun q h1 h2 => hS.2.1 q h1 (Nat.not_le.mpr h2)) hsz, fun z => absurd z (by omega), Nat.le_refl _, Nat.le_refl _, Nat.le_trans hb0 hS.1⟩
  have hWk := IH x 0 (ax_entry x As) [] h r h' hx1 he p l e _ (T.calling g mk (As.map (ax_cv b b0)).toArray) mk (As.map (ax_cv b b0)).toArray (.java g :: below) methk ck T.heap [] 0 0 _ D cA b b0 S htr ctx k7 (by simp [ax_entry]; omega) hr va_S.rf (ax_lv_entry (x := x) hcat hlen) (by show 0 + _ ≤ h'.1.1 - h.1.1; omega) (by show 0 + _ ≤ h'.1.2 - h.1.2; omega)
  obtain ⟨t, st, hz⟩ := hWk ((T.setTop g).pushFrame (.java (entryFrame mk (As.map (ax_cv b b0)).toArray ck.maxLocals))) rfl Y
  refine ⟨t, fun acts => ?_, by simpa only [Nat.zero_add] using hz⟩
  rw [hin acts, k4]
  refine Steps.weaken (mid := [.java g]) ?_
  rw [lg_entry_eq]
  rw [k4, lg_entry_eq] at st
  exact st
end AxE
end
section
theorem ax_inits : ∀ x, x < 138 → ax_nm x = "<init>" → ax_hx x = [] ∧ ax_rt x = none ∧ ax_st x = false := by decide +kernel
theorem ax_kw_on (k : Nat) : (ax_kw k).onTables = true := by
  unfold ax_kw
  split <;> rfl
section AxI
variable {p : Program} {l : Launch} {e : Env} {R : Room} {s : State} {m : MethodId} {args : Array Value} {below : List Frame} {meth : Method} {c : Code} {locs : List Loc} {cells slots : Nat}
variable {b b0 pc : Nat} {st : List Value} {h : ax_H} {D : va_G} {cA : Nat → ClassId} {S : (Nat × Nat) × (Nat → Int32)} {C : Array Slot}
theorem ax_split (y : Nat) (st : List Value) : st.map (ax_cv b b0) = (((st.take y).reverse).map (ax_cv b b0)).reverse ++ (st.drop y).map (ax_cv b b0) := by
  rw [← List.map_reverse, List.reverse_reverse, ← List.map_append, List.take_append_drop]
/-- a call's own step: what it enters -/
theorem ax_inv {k op n x y : Nat} {v : Int} {T : State} (X : Stand p l e R s m args below meth c T locs cells slots) (G : ax_cx D cA b b0 S k p R s m meth c) (hrow : ax_rc k pc op n x y v = true) (h40 : 40 ≤ op) (h50 : op < 50) (hy : y ≤ st.length) (hca : ax_ca op x (st.take y).reverse (st.drop y) h = true) (hr : ax_rel D cA b b0 S h T.heap) :
    (0 < x ∧ x < 138 ∧ ax_fr x + 1 ≤ ax_fr k ∧ 8 + (ax_ml x + 11) + ax_lo x ≤ ax_lo k ∧ y ≤ ax_ml x) ∧ (∃ ig, decode (ax_by k) pc = .ok (ig, 3)) ∧
    ∃ (vm₁ : Vm) (mk : MethodId), s.methodNamed? (ax_md x) = some mk ∧ Stand p l e R s m args below meth c (T.setVm vm₁) locs cells slots ∧
      ∀ target, (∀ acts, Steps p.tables e below (doInvoke e ((T.setVm vm₁).setTop (F0 m pc C ((st.drop y).map (ax_cv b b0)))) acts mk (((st.take y).reverse).map (ax_cv b b0)).toArray).1 target) → Steps p.tables e below (T.setTop (F0 m pc C (st.map (ax_cv b b0)))) target := by
  obtain ⟨hx, hb, hml, hown, hnm, -, -, htb, hK, -, hsc, hfr, hlo, -⟩ := G
  have hts : ∀ w ∈ lw_tbl, w.onTables = true → w.before args s = true := fun w hw ho => va_tabs ho rfl (htb.1 w hw ho)
  have okc : ∀ {z : Bool}, ax_callok k x y (ax_np x) = true → (x < 138 ∧ 0 < x ∧ y = ax_np x ∧ ax_fr x + 1 ≤ ax_fr k ∧ 8 + (ax_ml x + 11) + ax_lo x ≤ ax_lo k) := fun h => of_decide_eq_true h
  have lenOf : ∀ N, (parseMethodDescriptor (ax_ds x)).map (fun d => d.parameters.length) = some N → ∀ sig, parseMethodDescriptor (ax_md x).desc = some sig → N = sig.parameters.length := by
    intro N hN sig hs
    have hs : parseMethodDescriptor (ax_ds x) = some sig := hs
    rw [hs] at hN
    exact (Option.some.inj hN).symm
  match op, h40, h50, hrow, hca with
  | 40, _, _, hrow, hca =>
    have hrow : (ax_d1 (ax_by k) pc n (.invokestatic v.toNat) 3 && ax_lk ax_Lm (ax_wn k) v x 0 && ax_callok k x y (ax_np x) && ax_st x) = true := hrow
    simp only [Bool.and_eq_true] at hrow
    obtain ⟨⟨⟨hd, hlk⟩, hok⟩, hst⟩ := hrow
    obtain ⟨d, -⟩ := ax_d1_of hd
    obtain ⟨w, hw, e1, e2, e3, -⟩ := ax_lk_of hlk
    have hw := ax_Lm_in hw
    rw [e1, e2, e3] at hw
    obtain ⟨hx1, hx0, hnp, hfr2, hlo2⟩ := okc (z := true) hok
    obtain ⟨dn, -, dml, -, dy⟩ := ax_dn x hx0 hx1
    rw [if_pos hst] at dn
    refine ⟨⟨hx0, hx1, hfr2, hlo2, by omega⟩, ⟨_, d⟩, ?_⟩
    have hcw := htb.1 _ (ax_cw_in x hx0 hx1) (ax_cw_on x)
    obtain ⟨mk, hn⟩ := ax_cw_named hcw
    obtain ⟨methM, cM, hmethM, -, -, -, -, -, -, hsigM⟩ := ax_cw_spec hn hcw
    have hkw := hts _ (ax_kw_in x hx0 hx1) (ax_kw_on x)
    unfold ax_kw at hkw
    rw [if_pos hst] at hkw
    have hstatic : methM.isStatic = true := Cond.static_spec hn hmethM hkw
    obtain ⟨kP, hkP, -⟩ := className_of_methodNamed hn
    have hinitP : kP.init = .initialized := Cond.initialized_spec (findClass_of_methodNamed hn) hkP (hts _ (ax_iw_in x hx0 hx1) rfl)
    obtain ⟨vm₁, X₁, hstep⟩ := X.invokestatic hx hown (hts _ hw rfl) hn hmethM hstatic hkP hinitP dy (g := F0 m pc C (st.map (ax_cv b b0))) rfl (argsL := ((st.take y).reverse).map (ax_cv b b0)) (rest := (st.drop y).map (ax_cv b b0)) (by rw [List.length_map, List.length_reverse, List.length_take, Nat.min_eq_left hy, hnp]; exact lenOf _ dn _ hsigM) (ax_split y st) (by rw [hb]; exact d)
    exact ⟨vm₁, mk, hn, X₁, fun target ht => hstep target fun acts => ht acts⟩
  | 41, _, _, hrow, hca =>
    have hrow : (ax_d1 (ax_by k) pc n (.invokestatic v.toNat) 3 && ax_lk ax_Ln (ax_wn k) v x 0 && ax_callok k x y (ax_np x) && ax_st x) = true := hrow
    simp only [Bool.and_eq_true] at hrow
    obtain ⟨⟨⟨hd, hlk⟩, hok⟩, hst⟩ := hrow
    obtain ⟨d, -⟩ := ax_d1_of hd
    obtain ⟨w, hw, e1, e2, e3, -⟩ := ax_lk_of hlk
    have hw := ax_Ln_in hw
    rw [e1, e2, e3] at hw
    obtain ⟨hx1, hx0, hnp, hfr2, hlo2⟩ := okc (z := true) hok
    obtain ⟨dn, -, dml, -, dy⟩ := ax_dn x hx0 hx1
    rw [if_pos hst] at dn
    refine ⟨⟨hx0, hx1, hfr2, hlo2, by omega⟩, ⟨_, d⟩, ?_⟩
    have hcw := htb.1 _ (ax_cw_in x hx0 hx1) (ax_cw_on x)
    obtain ⟨mk, hn⟩ := ax_cw_named hcw
    obtain ⟨methM, cM, hmethM, -, -, -, -, -, -, hsigM⟩ := ax_cw_spec hn hcw
    have hkw := hts _ (ax_kw_in x hx0 hx1) (ax_kw_on x)
    unfold ax_kw at hkw
    rw [if_pos hst] at hkw
    have hstatic : methM.isStatic = true := Cond.static_spec hn hmethM hkw
    obtain ⟨kP, hkP, -⟩ := className_of_methodNamed hn
    have hinitP : kP.init = .initialized := Cond.initialized_spec (findClass_of_methodNamed hn) hkP (hts _ (ax_iw_in x hx0 hx1) rfl)
    obtain ⟨vm₁, X₁, hstep⟩ := X.invokestaticNest hx hown (hts _ hw rfl) hn hmethM hstatic hkP hinitP dy (g := F0 m pc C (st.map (ax_cv b b0))) rfl (argsL := ((st.take y).reverse).map (ax_cv b b0)) (rest := (st.drop y).map (ax_cv b b0)) (by rw [List.length_map, List.length_reverse, List.length_take, Nat.min_eq_left hy, hnp]; exact lenOf _ dn _ hsigM) (ax_split y st) (by rw [hb]; exact d)
    exact ⟨vm₁, mk, hn, X₁, fun target ht => hstep target fun acts => ht acts⟩
  | 42, _, _, hrow, hca =>
    have hrow : (ax_d1 (ax_by k) pc n (.invokevirtual v.toNat) 3 && ax_lk ax_Lm (ax_wn k) v x 0 && ax_callok k x y (ax_np x) && !ax_st x) = true := hrow
    simp only [Bool.and_eq_true, Bool.not_eq_true'] at hrow
    obtain ⟨⟨⟨hd, hlk⟩, hok⟩, hst⟩ := hrow
    obtain ⟨d, -⟩ := ax_d1_of hd
    obtain ⟨w, hw, e1, e2, e3, -⟩ := ax_lk_of hlk
    have hw := ax_Lm_in hw
    rw [e1, e2, e3] at hw
    obtain ⟨hx1, hx0, hnp, hfr2, hlo2⟩ := okc (z := true) hok
    obtain ⟨dn, d0, dml, -, dy⟩ := ax_dn x hx0 hx1
    rw [if_neg (by rw [hst]; decide)] at dn
    have d0 := d0 hst
    refine ⟨⟨hx0, hx1, hfr2, hlo2, by omega⟩, ⟨_, d⟩, ?_⟩
    unfold ax_ca at hca
    rw [Bool.and_eq_true, if_neg (by omega)] at hca
    have hca2 := hca.2
    cases hA : (st.take y).reverse with
    | nil => rw [hA] at hca2; cases hca2
    | cons a0 As' =>
      rw [hA] at hca2
      cases a0 with
      | ref a =>
        have hca3 : (42 ≠ 42 ∨ (a < h.1.1 ∧ (h.2.1 a).1 = ax_wn x + 1 ∧ ax_wn x < 9 ∧ ax_nm x ≠ "<init>")) := of_decide_eq_true hca2
        rcases hca3 with z | ⟨ha, hka, h9, hni⟩
        · exact absurd rfl z
        · have hg : ax_g b b0 a = b0 + a := ax_g_lt (Nat.lt_trans ha hr.2.1)
          obtain ⟨cellB, c1, c2, c3, -⟩ := (hr.2.2.1 a ha).1 (ax_wn x) h9 hka
          have hfc : s.vm.findClass (ax_ow x) = some cellB.cls := by
            have e9 : ax_ow x = ax_cn (ax_wn x) := by
              unfold ax_ow
              revert h9
              generalize ax_wn x = z
              intro h9
              match z, h9 with
              | 0, _ => rfl
              | 1, _ => rfl
              | 2, _ => rfl
              | 3, _ => rfl
              | 4, _ => rfl
              | 5, _ => rfl
              | 6, _ => rfl
              | 7, _ => rfl
              | 8, _ => rfl
              | n + 9, h => exact absurd h (by omega)
            rw [e9, c2]
            exact (hK.1 (ax_wn x) h9).2.1
          have hkw := hts _ (ax_kw_in x hx0 hx1) (ax_kw_on x)
          unfold ax_kw at hkw
          rw [if_neg (by rw [hst]; decide)] at hkw
          obtain ⟨mk, methM, hn, hmethM, hstM, habM⟩ := Cond.instanceMethod_spec hkw
          have hcw := htb.1 _ (ax_cw_in x hx0 hx1) (ax_cw_on x)
          obtain ⟨methM', cM, hmethM', -, -, -, -, -, -, hsigM⟩ := ax_cw_spec hn hcw
          cases hmethM.symm.trans hmethM'
          obtain ⟨q0, r2, m2, q1, q2, q3, q4, kP, hkP, hkPi⟩ := Cond.selects_spec (hts _ (ax_sw_in x hx0 hx1 ⟨hst, hni⟩) rfl)
          cases hfc.symm.trans q1
          cases (State.methodFound?_of_named hn dy).symm.trans q2
          cases hn.symm.trans q3
          have hselP : selectMethod e.platform s.vm cellB.cls mk = .method mk := by rw [Launch.admits_selectMethod X.admits]; exact q4
          have hsp := ax_split (b := b) (b0 := b0) y st
          rw [hA, List.map_cons, ax_cv_ref, hg, List.reverse_cons, List.append_assoc] at hsp
          have hl' : (As'.map (ax_cv b b0)).length = ax_np x - 1 := by
            have : (st.take y).reverse.length = y := by rw [List.length_reverse, List.length_take, Nat.min_eq_left hy]
            rw [hA] at this
            simp only [List.length_cons] at this
            rw [List.length_map]; omega
          obtain ⟨vm₁, X₁, hstep⟩ := X.invokevirtual hx hown (hts _ hw rfl) hn hmethM hstM hkP hkPi dy (a := b0 + a) (cell := cellB) c1 (fun z hz => by rw [c3] at hz; cases hz) hselP hmethM habM hkP hkPi (g := F0 m pc C (st.map (ax_cv b b0))) rfl (argsL := As'.map (ax_cv b b0)) (rest := (st.drop y).map (ax_cv b b0)) (hl'.trans (lenOf _ dn _ hsigM)) hsp (by rw [hb]; exact d)
          refine ⟨vm₁, mk, hn, X₁, fun target ht => hstep target fun acts => ?_⟩
          have := ht acts
          rw [List.map_cons, ax_cv_ref, hg] at this
          exact this
      | _ => cases hca2
  | 43, _, _, hrow, hca =>
    have hrow : (ax_d1 (ax_by k) pc n (.invokespecial v.toNat) 3 && ax_lk ax_Lm (ax_wn k) v x 0 && ax_callok k x y (ax_np x) && !ax_st x && decide (ax_nm x = "<init>")) = true := hrow
    simp only [Bool.and_eq_true, Bool.not_eq_true', decide_eq_true_eq] at hrow
    obtain ⟨⟨⟨⟨hd, hlk⟩, hok⟩, hst⟩, hini⟩ := hrow
    obtain ⟨d, -⟩ := ax_d1_of hd
    obtain ⟨w, hw, e1, e2, e3, -⟩ := ax_lk_of hlk
    have hw := ax_Lm_in hw
    rw [e1, e2, e3] at hw
    obtain ⟨hx1, hx0, hnp, hfr2, hlo2⟩ := okc (z := true) hok
    obtain ⟨dn, d0, dml, -, dy⟩ := ax_dn x hx0 hx1
    rw [if_neg (by rw [hst]; decide)] at dn
    have d0 := d0 hst
    refine ⟨⟨hx0, hx1, hfr2, hlo2, by omega⟩, ⟨_, d⟩, ?_⟩
    unfold ax_ca at hca
    rw [Bool.and_eq_true, if_neg (by omega)] at hca
    have hca2 := hca.2
    cases hA : (st.take y).reverse with
    | nil => rw [hA] at hca2; cases hca2
    | cons a0 As' =>
      rw [hA] at hca2
      cases a0 with
      | ref a =>
        have hkw := hts _ (ax_kw_in x hx0 hx1) (ax_kw_on x)
        unfold ax_kw at hkw
        rw [if_neg (by rw [hst]; decide)] at hkw
        obtain ⟨i1, i2, -⟩ := ax_inits x hx1 hini
        have hcw := hts _ (ax_cw_in x hx0 hx1) (ax_cw_on x)
        unfold ax_cw at hcw
        rw [if_pos i1, i2] at hcw
        have hsp := ax_split (b := b) (b0 := b0) y st
        rw [hA, List.map_cons, ax_cv_ref, List.reverse_cons, List.append_assoc] at hsp
        have hl' : (As'.map (ax_cv b b0)).length = ax_np x - 1 := by
          have : (st.take y).reverse.length = y := by rw [List.length_reverse, List.length_take, Nat.min_eq_left hy]
          rw [hA] at this
          simp only [List.length_cons] at this
          rw [List.length_map]; omega
        have hpl : e.platform.magicAccessors = ({} : Platform).magicAccessors := by rw [X.admits.platform]
        obtain ⟨mk, methM, cM, kP, vm₁, hn, hmethM, hcodeM, -, hlocalsM, -, hkP, -, hW₁, hstep⟩ := Steps.initColdArgs (e := e) X.here hx X.warmed hpl hown hini dy (hts _ hw rfl) hkw hcw (f := F0 m pc C (st.map (ax_cv b b0))) rfl (argsL := As'.map (ax_cv b b0)) (rest := (st.drop y).map (ax_cv b b0)) (fun sig hs => hl'.trans (lenOf _ dn sig hs)) hsp (by rw [hb]; exact d)
        refine ⟨vm₁, mk, hn, X.noted hW₁, fun target ht => hstep target fun acts => ?_⟩
        have := ht acts
        rw [List.map_cons, ax_cv_ref] at this
        exact this
      | _ => cases hca2
  | 44, _, _, hrow, hca =>
    have hrow : (ax_d1 (ax_by k) pc n (.invokespecial v.toNat) 3 && ax_lk ax_Ln (ax_wn k) v x 0 && ax_callok k x y (ax_np x) && !ax_st x && decide (ax_nm x = "<init>")) = true := hrow
    simp only [Bool.and_eq_true, Bool.not_eq_true', decide_eq_true_eq] at hrow
    obtain ⟨⟨⟨⟨hd, hlk⟩, hok⟩, hst⟩, hini⟩ := hrow
    obtain ⟨d, -⟩ := ax_d1_of hd
    obtain ⟨w, hw, e1, e2, e3, -⟩ := ax_lk_of hlk
    have hw := ax_Ln_in hw
    rw [e1, e2, e3] at hw
    obtain ⟨hx1, hx0, hnp, hfr2, hlo2⟩ := okc (z := true) hok
    obtain ⟨dn, d0, dml, -, dy⟩ := ax_dn x hx0 hx1
    rw [if_neg (by rw [hst]; decide)] at dn
    have d0 := d0 hst
    refine ⟨⟨hx0, hx1, hfr2, hlo2, by omega⟩, ⟨_, d⟩, ?_⟩
    unfold ax_ca at hca
    rw [Bool.and_eq_true, if_neg (by omega)] at hca
    have hca2 := hca.2
    cases hA : (st.take y).reverse with
    | nil => rw [hA] at hca2; cases hca2
    | cons a0 As' =>
      rw [hA] at hca2
      cases a0 with
      | ref a =>
        have hkw := hts _ (ax_kw_in x hx0 hx1) (ax_kw_on x)
        unfold ax_kw at hkw
        rw [if_neg (by rw [hst]; decide)] at hkw
        obtain ⟨i1, i2, -⟩ := ax_inits x hx1 hini
        have hcw := hts _ (ax_cw_in x hx0 hx1) (ax_cw_on x)
        unfold ax_cw at hcw
        rw [if_pos i1, i2] at hcw
        have hsp := ax_split (b := b) (b0 := b0) y st
        rw [hA, List.map_cons, ax_cv_ref, List.reverse_cons, List.append_assoc] at hsp
        have hl' : (As'.map (ax_cv b b0)).length = ax_np x - 1 := by
          have : (st.take y).reverse.length = y := by rw [List.length_reverse, List.length_take, Nat.min_eq_left hy]
          rw [hA] at this
          simp only [List.length_cons] at this
          rw [List.length_map]; omega
        have hpl : e.platform.magicAccessors = ({} : Platform).magicAccessors := by rw [X.admits.platform]
        obtain ⟨mk, methM, cM, kP, vm₁, hn, hmethM, hcodeM, -, hlocalsM, -, hkP, -, hW₁, hstep⟩ := Steps.initColdArgsNest (e := e) X.here hx X.warmed hpl hown hini dy (hts _ hw rfl) hkw hcw (f := F0 m pc C (st.map (ax_cv b b0))) rfl (argsL := As'.map (ax_cv b b0)) (rest := (st.drop y).map (ax_cv b b0)) (fun sig hs => hl'.trans (lenOf _ dn sig hs)) hsp (by rw [hb]; exact d)
        refine ⟨vm₁, mk, hn, X.noted hW₁, fun target ht => hstep target fun acts => ?_⟩
        have := ht acts
        rw [List.map_cons, ax_cv_ref] at this
        exact this
      | _ => cases hca2
  | 45, _, _, hrow, _ => cases hrow
  | 46, _, _, hrow, _ => cases hrow
  | 47, _, _, hrow, _ => cases hrow
  | 48, _, _, hrow, _ => cases hrow
  | 49, _, _, hrow, _ => cases hrow
  | op + 50, _, h50, _, _ => exact absurd h50 (by omega)
end AxI
end
section
/-! a new exception with a written text, thrown where no handler is -/
def ax_tA : List Cond := Bundle.throwableAtoms ++ (Bundle.throwableSAtoms ++ Bundle.chainSAtoms "java/lang/RuntimeException" ["java/lang/Exception"])
theorem ax_tA_on : ax_tA.filter (fun w => w.onTables) = [55, 332, 341, 345, 348, 350, 333, 334, 70, 71, 335, 340, 346, 366, 322, 367, 324, 368, 326, 336, 338, 328, 362, 363, 365, 328, 356, 357, 358, 359, 316, 359, 360, 361, 362, 318].filterMap (fun i => lw_tbl[i]?) := by decide +kernel
theorem ax_tA_off : ax_tA.filter (fun w => !w.onTables) = [.laysStatic "java/lang/Throwable" "UNASSIGNED_STACK" "[Ljava/lang/StackTraceElement;", .laysStatic "java/lang/Throwable" "SUPPRESSED_SENTINEL" "Ljava/util/List;"] := by decide +kernel
/-- the entry and the bytes of the exception's own constructor -/
def ax_ex (j : Nat) : Nat := match j with
  | 0 => 13
  | _ => 7
def ax_eb (j : Nat) : ByteArray := match j with
  | 0 => prog_20_method_4_code
  | 1 => prog_12_method_2_code
  | _ => prog_13_method_2_code
def ax_eA (j : Nat) : List Cond := Bundle.passSAtoms (ax_en j) "java/lang/RuntimeException" (ax_ex j) (ax_eb j) ++ [.methodLink "MakerGuard" (ax_tx j).2.2 (Bundle.initS (ax_en j)), .instantiable (ax_en j) 6, .castable (ax_en j) (ax_en j), .selects (ax_en j) Bundle.tFill0 Bundle.tFill0, .selects (ax_en j) Bundle.tFill Bundle.tFill,
   .lays (ax_en j) Bundle.tN "cause" "Ljava/lang/Throwable;", .lays (ax_en j) Bundle.tN "stackTrace" Bundle.steD, .lays (ax_en j) Bundle.tN "suppressedExceptions" Bundle.listD, .lays (ax_en j) Bundle.tN "detailMessage" "Ljava/lang/String;",
   .fieldLink Bundle.tN 198 Bundle.tN "backtrace" "Ljava/lang/Object;", .lays Bundle.tN Bundle.tN "backtrace" "Ljava/lang/Object;", .lays (ax_en j) Bundle.tN "backtrace" "Ljava/lang/Object;", .initialized (ax_en j), .classLink "MakerGuard" (ax_tx j).1 (ax_en j)]
theorem ax_eA_0 : ax_eA 0 = [353, 354, 355, 356, 314, 352, 311, 312, 319, 320, 321, 323, 325, 327, 331, 330, 329, 58, 310].filterMap (fun i => lw_tbl[i]?) := by decide +kernel
theorem ax_eA_1 : ax_eA 1 = [465, 466, 467, 356, 314, 464, 455, 456, 457, 343, 458, 459, 460, 461, 331, 330, 462, 62, 454].filterMap (fun i => lw_tbl[i]?) := by decide +kernel
theorem ax_eA_2 : ax_eA 2 = [419, 420, 421, 356, 314, 418, 409, 410, 411, 344, 412, 413, 414, 415, 331, 330, 416, 60, 408].filterMap (fun i => lw_tbl[i]?) := by decide +kernel
theorem ax_eA_in {j : Nat} (hj : j < 3) : ∀ w ∈ ax_eA j, w ∈ lw_tbl ∧ w.onTables = true := by
  intro w hw
  refine ⟨?_, ?_⟩
  · match j, hj with
    | 0, _ => exact ax_mem_r _ _ ax_eA_0 w hw
    | 1, _ => exact ax_mem_r _ _ ax_eA_1 w hw
    | 2, _ => exact ax_mem_r _ _ ax_eA_2 w hw
    | n + 3, h => exact absurd h (by omega)
  · have : (ax_eA j).all (fun w => w.onTables) = true := rfl
    exact List.all_eq_true.mp this w hw
theorem ax_eb_d : ∀ j, j < 3 → decode (ax_eb j) 0 = .ok (.aload_n 0, 1) ∧ decode (ax_eb j) 1 = .ok (.aload_n 1, 1) ∧ decode (ax_eb j) 2 = .ok (.invokespecial (ax_ex j), 3) ∧ decode (ax_eb j) 5 = .ok (.return_, 1) ∧ Bundle.fit (ax_en j) = true := by decide +kernel
section AxT
variable {p : Program} {l : Launch} {e : Env} {R : Room} {s : State} {m : MethodId} {args : Array Value} {below : List Frame} {meth : Method} {c : Code} {H : Heap} {locs : List Loc} {cells slots : Nat} {Q : State → Prop}
variable {cc : ByteArray} {pc b0 : Nat} {C : Array Slot}
theorem ax_tA_all (htb : ax_tb s) (hsz : ax_sz b0 s) : ∀ w ∈ ax_tA, w.before args s = true := by
  intro w hw
  by_cases ho : w.onTables = true
  · have h1 : w ∈ ax_tA.filter (fun w => w.onTables) := List.mem_filter.mpr ⟨hw, ho⟩
    exact va_tabs ho rfl (htb.1 w (ax_mem_r _ _ ax_tA_on w h1) ho)
  · have h1 : w ∈ ax_tA.filter (fun w => !w.onTables) := List.mem_filter.mpr ⟨hw, by simpa using ho⟩
    rw [ax_tA_off] at h1
    simp only [List.mem_cons, List.not_mem_nil, or_false] at h1
    rcases h1 with rfl | rfl
    · exact hsz.1.2
    · exact hsz.2.2
set_option maxHeartbeats 1000000 in
theorem ax_thrW (hexec : p.tables.exec = Jvm.exec) (hb : c.code = cc) (htr : e.platform.stackTraces = false) (hown : s.vm.findClass "MakerGuard" = some m.cls) (htb : ax_tb s) (hsz : ax_sz b0 s) (hlocks : meth.locks = false) (hnoh : c.exceptionTable.toList = []) (hml : C.size = c.maxLocals) (hfr : 6 ≤ R.frames) (hlo : 100 ≤ R.locals) {j : Nat} (hj : j < 3) {q sa : Nat} {cX : ClassId} {kX : Class} (hfX : s.vm.findClass (ax_en j) = some cX) (hkX : s.vm.classes[cX]? = some kX) (hcell : H[q]? = some (freshCell cX kX)) (hnew : s.heap.size ≤ q) (hS : va_S (fun q => b0 ≤ q) s.heap H locs)
    (d6 : decode cc pc = .ok (.invokespecial (ax_tx j).2.2, 3)) (d9 : decode cc (pc + 3) = .ok (.athrow, 1))
    (fin : ∀ (t : State) (L : List Loc), t.status = .running → Ended t below (.threw q) → s.WarmedH t.vm → s.sameButNew ({ t with vm := s.vm } : State) (locs ++ L) cells slots → (∀ x ∈ L, x.base = q) → t.heap.size = H.size → (∀ a : Nat, a ≠ q → t.heap[a]? = H[a]?) → (∃ ce : Cell, t.heap[q]? = some ce ∧ ce.vm = .none ∧ ce.cls = cX) → s.vm.assignable cX cX = true → Q t) :
    W p l e R s m args below meth c H locs cells slots Q (F0 m pc C [.ref sa, .ref q, .ref q]) := by
  intro T0 hT X
  have hA := ax_tA_all (args := args) htb hsz
  have hE : ∀ w ∈ ax_eA j, w.before args s = true := fun w hw => va_tabs (ax_eA_in hj w hw).2 rfl (htb.1 w (ax_eA_in hj w hw).1 (ax_eA_in hj w hw).2)
  obtain ⟨e0, e1, e2, e5, efit⟩ := ax_eb_d j hj
  have howns : e.platform.frameOwnsMonitors = true := by rw [X.admits.platform]
  have hfin : e.platform.finalization = false := by rw [X.admits.platform]
  have hpl : e.platform.magicAccessors = ({} : Platform).magicAccessors := by rw [X.admits.platform]
  obtain ⟨T, Z0, L, -, Y⟩ := ThrowableC.of_atoms (args := args) howns hfin hpl (fun x hx => hA x (by simp [ax_tA, hx]))
  obtain ⟨Z, M, LZ, LM, hnZ⟩ := Init0T.ofS_atoms (args := args) hpl L Y (fun x hx => hA x (by simp [ax_tA, hx]))
  obtain ⟨P1, L1, hP1m, hP1s⟩ := PassC.ofS_atoms (args := args) (s := s) hpl (X := ax_en j) (Y := "java/lang/RuntimeException") (Bundle.fit_spec efit).1 (by decide) e0 e1 e2 e5 (fun x hx => hE x (by simp [ax_eA, hx]))
  obtain ⟨P2, Ps, hlen, L2, hL, hP2m, hlink2, hlink⟩ := Bundle.chainS (args := args) hpl hnZ ["java/lang/Exception"] "java/lang/RuntimeException" (by decide) (by decide) (fun x hx => hA x (by simp [ax_tA, hx]))
  have h12 : P1.sup = P2.m := Option.some.inj (hP1s.symm.trans hP2m)
  have hfound : s.vm.findClass (ax_en j) = some P1.m.cls := findClass_of_methodNamed hP1m
  cases Option.some.inj (hfX.symm.trans hfound)
  obtain ⟨c1, kX', hc1, hk, hord, -, -, hn6⟩ := Cond.instantiable_spec (hE (.instantiable (ax_en j) 6) (by simp [ax_eA]))
  cases Option.some.inj (hc1.symm.trans hfound)
  cases Option.some.inj (hkX.symm.trans hk)
  have hsel0 : selectMethod e.platform s.vm P1.m.cls T.fill0 = .method T.fill0 := by
    obtain ⟨c2, r2, m2, q1, q2, q3, q4, -⟩ := Cond.selects_spec (hE (.selects (ax_en j) Bundle.tFill0 Bundle.tFill0) (by simp [ax_eA]))
    cases Option.some.inj (q1.symm.trans hfound)
    cases Option.some.inj (q2.symm.trans (State.methodFound?_of_named Y.fill0 (by decide)))
    cases Option.some.inj (q3.symm.trans Y.fill0)
    rw [Launch.admits_selectMethod X.admits]; exact q4
  have hselF : selectMethod e.platform s.vm P1.m.cls T.fill = .method T.fill := by
    obtain ⟨c2, r2, m2, q1, q2, q3, q4, -⟩ := Cond.selects_spec (hE (.selects (ax_en j) Bundle.tFill Bundle.tFill) (by simp [ax_eA]))
    cases Option.some.inj (q1.symm.trans hfound)
    cases Option.some.inj (q2.symm.trans (State.methodFound?_of_named Y.fill (by decide)))
    cases Option.some.inj (q3.symm.trans Y.fill)
    rw [Launch.admits_selectMethod X.admits]; exact q4
  obtain ⟨cellS, hcS, hiss⟩ := Y.statics
  obtain ⟨u0, hu0⟩ := Cond.staticRefV Y.unassigned L.unassignedStatic L.statics hcS hiss (ax_s1z_ref (A := args) hsz.1)
  obtain ⟨sen, hsen⟩ := Cond.staticRefV Y.sentinel L.sentinelStatic L.statics hcS hiss (ax_s1z_ref (A := args) hsz.2)
  have haS : T.aS < b0 := by
    have hz : ∃ v, va_Z Bundle.tN "UNASSIGNED_STACK" Bundle.steD v (fun q => b0 ≤ q) s s.heap := by
      rcases hsz.1.1 with z | ⟨t, z⟩
      · exact ⟨_, z⟩
      · exact ⟨_, z⟩
    obtain ⟨v, cf, kf, fi, f, a, cell, z1, z2, z3, z4, z5, z6, z7, z8⟩ := hz
    cases z1.symm.trans Y.unassigned
    cases z4.symm.trans L.statics
    exact Nat.not_le.mp z8
  have hlS : T.aS < s.heap.size := (Array.getElem?_eq_some_iff.mp hcS).1
  have hcellS : T0.heap[T.aS]? = some cellS := by rw [hT, hS.2.1 _ hlS (Nat.not_le.mpr haS)]; exact hcS
  have hknownS : cellS.vm ≠ .unknown := by
    intro hu
    rw [hu] at hiss
    cases hiss
  have hneS : T.aS ≠ q := Nat.ne_of_lt (Nat.lt_of_lt_of_le hlS hnew)
  obtain ⟨ci198, i198, fB, hk198, hg198, ha198, hsB, -, hnB, htB, hffB⟩ := Cond.ownField (t := .object "java/lang/Object") Y.found L.cls (by decide +kernel) (hE (.fieldLink Bundle.tN 198 Bundle.tN "backtrace" "Ljava/lang/Object;") (by simp [ax_eA])) (hE (.lays Bundle.tN Bundle.tN "backtrace" "Ljava/lang/Object;") (by simp [ax_eA])) e.platform hpl
  obtain ⟨iM, hffM⟩ := Y.msg
  obtain ⟨tyC, dC, hdC, hdnC⟩ := Cond.laysAt hfound hk Y.cause (hE (.lays (ax_en j) Bundle.tN "cause" "Ljava/lang/Throwable;") (by simp [ax_eA]))
  obtain ⟨tyS, dS, hdS, hdnS⟩ := Cond.laysAt hfound hk Y.stack (hE (.lays (ax_en j) Bundle.tN "stackTrace" Bundle.steD) (by simp [ax_eA]))
  obtain ⟨tyP, dP, hdP, hdnP⟩ := Cond.laysAt hfound hk Y.supp (hE (.lays (ax_en j) Bundle.tN "suppressedExceptions" Bundle.listD) (by simp [ax_eA]))
  obtain ⟨tyM, dM, hdM, hdnM⟩ := Cond.laysAt hfound hk hffM (hE (.lays (ax_en j) Bundle.tN "detailMessage" "Ljava/lang/String;") (by simp [ax_eA]))
  obtain ⟨tyB, dB, hdB, hdnB⟩ := Cond.laysAt hfound hk hffB (hE (.lays (ax_en j) Bundle.tN "backtrace" "Ljava/lang/Object;") (by simp [ax_eA]))
  have bC := Cond.laysApart hdB hdC hdnB hdnC (by rw [hnB, Y.causeName]; decide)
  have bS := Cond.laysApart hdB hdS hdnB hdnS (by rw [hnB, Y.stackName]; decide)
  have bP := Cond.laysApart hdB hdP hdnB hdnP (by rw [hnB, Y.suppName]; decide)
  have hskip : SkipFacts T e.platform s (fun u => u) u0 ((preparedCellV T.toThrowableT (freshCell P1.m.cls kX) q u0 sen).withEntry T0.cur) :=
    ⟨{ ci198 := ci198, i198 := i198, fBack := fB }, ⟨hk198, hg198, ha198, hsB⟩, by
      have := fresh_default (c := P1.m.cls) tyB
      rw [htB] at this
      simpa [preparedCellV, Cell.setSlot, Cell.withEntry, Array.getElem?_setIfInBounds, bC, bS, bP, bC.symm, bS.symm, bP.symm, defaultValue] using this, fun _ _ => rfl⟩
  have hcellT : T0.heap[q]? = some (freshCell P1.m.cls kX) := by rw [hT]; exact hcell
  obtain ⟨tm, methC, cdC, kC, vm₁, hnC, -, -, -, -, -, -, -, hW₁, st1⟩ := Steps.initColdS (tb := p.tables) (e := e) (below := below) (s := s) (U := T0) X.here hexec X.warmed hpl hown (t := Bundle.initS (ax_en j)) rfl rfl (Bundle.fit_spec efit).2
    (hE (.methodLink "MakerGuard" (ax_tx j).2.2 (Bundle.initS (ax_en j))) (by simp [ax_eA])) (hE (.instanceMethod (Bundle.initS (ax_en j))) (by simp [ax_eA, Bundle.passSAtoms])) (bytes := ax_eb j) (maxL := 2) (hE (.code (Bundle.initS (ax_en j)) (ax_eb j) 2 none) (by simp [ax_eA, Bundle.passSAtoms]))
    (f := F0 m pc C [.ref sa, .ref q, .ref q]) rfl (a := q) (msg := .ref sa) (rest := [.ref q]) rfl (by rw [hb]; exact d6)
  cases Option.some.inj (hnC.symm.trans hP1m)
  have X₁ := X.noted hW₁
  obtain ⟨vm₂, X₂, st2⟩ := X₁.ctorMessageOffV hexec (g := F0 m pc C [.ref q]) rfl hml T L Z LZ M LM (P1 :: P2 :: Ps)
    (fun P hP => by
      rcases List.mem_cons.mp hP with rfl | hP
      · exact L1
      · rcases List.mem_cons.mp hP with rfl | hP
        · exact L2
        · exact hL P hP) ⟨h12, hlink2, hlink⟩ (u0 := u0) (sen := sen) (self := q) (msg := .ref sa) rfl (cell := freshCell P1.m.cls kX) (cellS := cellS)
    hcellT (fun _ => by simp) (by simp) rfl rfl hsel0 hselF hcellS hneS hknownS hu0 hsen
    (Takes.of_laid hk hord tyC (by rw [Y.causeType]; rfl)) (Takes.of_laid hk hord tyS (by rw [Y.stackType]; exact fits_refV_array _ u0)) (Takes.of_laid hk hord tyP (by rw [Y.suppType]; exact fits_refV_object _ sen))
    (Takes.of_laid hk hord tyM (by rw [Y.msgType]; rfl)) Y.objLocals hskip htr [] (by rw [hb]; exact d6)
    (by simp only [List.length_cons, hlen, List.length_nil]; omega) (by
      simp only [List.length_cons, hlen, List.length_nil]
      show 2 * 0 + 1 + _ ≤ _
      omega)
  obtain ⟨hwalk, hrun, hended, hWU, hsame⟩ := X₂.athrowLeaves hexec (g := F0 m (pc + 3) C [.ref q]) rfl rfl rfl (fun x hx => by rw [hnoh] at hx; cases hx) (a := q) (rest := []) rfl (by rw [hb]; exact d9) hlocks
  obtain ⟨c3, c4, hc3, hc4, hasg⟩ := Cond.castable_spec (hE (.castable (ax_en j) (ax_en j)) (by simp [ax_eA]))
  cases Option.some.inj (hc3.symm.trans hfound)
  cases Option.some.inj (hc4.symm.trans hfound)
  have hlt : q < T0.heap.size := (Array.getElem?_eq_some_iff.mp hcellT).1
  refine ⟨_, st1 _ (fun acts => ?_), fin _ _ hrun hended hWU hsame (fun x hx => ?_) ?_ (fun a ha => ?_) ⟨_, heapAt_setCell_self (s := (T0.setVm vm₁).setVm vm₂) _ hlt, rfl, rfl⟩ hasg⟩
  · rw [doInvoke_state]
    exact st2 _ hwalk
  · simp only [List.mem_cons, List.not_mem_nil, or_false] at hx
    rcases hx with rfl | rfl | rfl | rfl | rfl <;> rfl
  · rw [← hT]
    exact size_setCell ((T0.setVm vm₁).setVm vm₂) q _
  · rw [← hT]
    exact heapAt_setCell_ne (s := (T0.setVm vm₁).setVm vm₂) _ (Ne.symm ha)
end AxT
end
section
/-! an exception that a callee threw, and the handlers of the caller -/
def ax_ci (x : Nat) : Nat := match x with
  | 13 => 0
  | 29 => 1
  | _ => 2
def ax_hq (y : ExceptionTableEntry) : Nat × Nat × Nat × Nat := (y.startPc, y.endPc, y.handlerPc, ax_ci y.catchType)
theorem ax_hd_hx : ∀ k, k < 138 → ax_hd k = (ax_hx k).map (fun q => (q.1, q.2.1, q.2.2.1, ax_ci q.2.2.2)) ∧ (ax_hx k).all (fun q => q.2.2.2 == 13 || q.2.2.2 == 29 || q.2.2.2 == 19) = true ∧ (ax_hx k = [] ∨ ax_ow k = "MakerGuardLaw") := by decide +kernel
theorem ax_catchw : ∀ x, (x = 13 ∨ x = 29 ∨ x = 19) → Cond.classLink "MakerGuardLaw" x (ax_en (ax_ci x)) ∈ lw_tbl ∧ x ≠ 0 ∧ ax_ci x < 3 := by
  intro x hx
  rcases hx with rfl | rfl | rfl
  · exact ⟨List.mem_of_getElem? (i := 299) (by decide +kernel), by decide, by decide⟩
  · exact ⟨List.mem_of_getElem? (i := 446) (by decide +kernel), by decide, by decide⟩
  · exact ⟨List.mem_of_getElem? (i := 400) (by decide +kernel), by decide, by decide⟩
section AxC
variable {E : CtlPost} {e : Env} {d : Bool} {acts : List Action} {s : State} {f : JFrame} {a : Addr} {Q : Handler → Pre}
theorem ax_go_link {S : State} {x : ExceptionTableEntry} {t : List ExceptionTableEntry} {c : ClassId} {cell : Cell} (hx : covers x f.pc = true) (h0 : x.catchType ≠ 0)
    (hl : S.vm.ClassLinks e.platform f.method.cls x.catchType c) (hcell : S.heap[a]? = some cell) (hobj : ∀ k, cell.vm ≠ .statics k) (hk : ∃ k, S.vm.classes[cell.cls]? = some k) (hc : ∃ k, S.vm.classes[c]? = some k) :
    wp (findHandler.go f a (x :: t)) Q E e d acts S ↔ (if S.vm.assignable cell.cls c = true then Q (.found x.handlerPc) d acts (S.setVm (S.vm.noted f.method.cls x.catchType (.cls c))) else wp (findHandler.go f a t) Q E e d acts (S.setVm (S.vm.noted f.method.cls x.catchType (.cls c)))) := by
  simp only [covers] at hx
  obtain ⟨ha, ht⟩ := (resolveClass_links e.toSetting hl).op (op := VmOp.resolveClass f.method.cls x.catchType) rfl
  have hal : S.vm.Alike (S.vm.noted f.method.cls x.catchType (.cls c)) := (Vm.Alike.refl S.vm).noted _ _ _
  obtain ⟨k1, hk1⟩ := hk
  obtain ⟨k2, hk2⟩ := hc
  obtain ⟨k1', hk1', -⟩ := hal.2.2 _ _ hk1
  obtain ⟨k2', hk2', -⟩ := hal.2.2 _ _ hk2
  have hsame : (S.vm.noted f.method.cls x.catchType (.cls c)).assignable cell.cls c = S.vm.assignable cell.cls c := hal.assignable ..
  cases hfit : S.vm.assignable cell.cls c <;> rw [hfit] at hsame <;> simp [findHandler.go, hx, h0, ha, ht, hcell, hobj, hk1', hk2', hsame, VmOp.dirties, VmOp.acts]
theorem ax_find (hpl : e.platform.magicAccessors = ({} : Platform).magicAccessors) (hown : s.vm.findClass "MakerGuardLaw" = some f.method.cls) (htb : ax_tb s) {cell : Cell} {j : Nat} (hj : j < 3) (hobj : ∀ k, cell.vm ≠ .statics k) (hfj : s.vm.findClass (ax_en j) = some cell.cls) (hself : s.vm.assignable cell.cls cell.cls = true) :
    ∀ (hs : List ExceptionTableEntry) (S : State), s.WarmedH S.vm → S.heap[a]? = some cell → (∀ y ∈ hs, y.catchType = 13 ∨ y.catchType = 29 ∨ y.catchType = 19) → ∀ t, ax_hn (hs.map ax_hq) f.pc j = some t →
      ∃ vm', s.WarmedH vm' ∧ ∀ (Q : Handler → Pre) (E : CtlPost) (d : Bool) (acts : List Action), wp (findHandler.go f a hs) Q E e d acts S ↔ Q (.found t) d acts (S.setVm vm') := by
  intro hs
  induction hs with
  | nil => intro S hW hcell hy t ht; cases ht
  | cons y ys ih =>
    intro S hW hcell hy t ht
    rw [List.map_cons] at ht
    unfold ax_hn at ht
    by_cases hcv : covers y f.pc = true
    · obtain ⟨hwd, h0, h3⟩ := ax_catchw y.catchType (hy y List.mem_cons_self)
      have hlk : (Cond.classLink "MakerGuardLaw" y.catchType (ax_en (ax_ci y.catchType))).before #[] s = true := htb.1 _ hwd rfl
      obtain ⟨c', hc', hcl⟩ := Cond.classLink_spec hown hlk e.platform hpl
      obtain ⟨dk, _, _, kt, hd, _, _, _, _, hkt, _, hopen⟩ := hcl.here
      have hclS := hW.classLinks hcl
      have hW' : s.WarmedH (S.vm.noted f.method.cls y.catchType (.cls c')) := hW.noted hd hopen (State.rightAt_cls hcl)
      have hal := hW.alike
      obtain ⟨kt', hkt', -⟩ := hal.2.2 _ _ hkt
      obtain ⟨k0, hk0⟩ := Vm.classAt_of_findClass hfj
      obtain ⟨k0', hk0', -⟩ := hal.2.2 _ _ hk0
      have hcov : y.startPc ≤ f.pc ∧ f.pc < y.endPc := by simpa [covers] using hcv
      by_cases hji : ax_ci y.catchType = j
      · rw [if_pos ⟨hcov.1, hcov.2, hji⟩] at ht
        have ht : y.handlerPc = t := Option.some.inj ht
        have hfit : S.vm.assignable cell.cls c' = true := by
          rw [hji] at hc'
          cases hfj.symm.trans hc'
          rw [hal.assignable]; exact hself
        refine ⟨_, hW', fun Q E d acts => ?_⟩
        rw [ax_go_link hcv h0 hclS hcell hobj ⟨_, hk0'⟩ ⟨_, hkt'⟩, if_pos hfit, ht]
      · rw [if_neg (fun z => hji z.2.2)] at ht
        have hno : S.vm.assignable cell.cls c' = false := by
          obtain ⟨c1, c2, n1, n2, n3⟩ := htb.2.2.2.2 j (ax_ci y.catchType) hj h3 (fun z => hji z.symm)
          cases n1.symm.trans hfj
          cases n2.symm.trans hc'
          rw [hal.assignable]; exact n3
        obtain ⟨vm', hV, hf⟩ := ih (S.setVm (S.vm.noted f.method.cls y.catchType (.cls c'))) hW' hcell (fun z hz => hy z (List.mem_cons_of_mem _ hz)) t ht
        refine ⟨vm', hV, fun Q E d acts => ?_⟩
        rw [ax_go_link hcv h0 hclS hcell hobj ⟨_, hk0'⟩ ⟨_, hkt'⟩, if_neg (by rw [hno]; decide), hf]
        rfl
    · have hcv : covers y f.pc = false := by simpa using hcv
      have hcov : ¬ (y.startPc ≤ f.pc ∧ f.pc < y.endPc) := by
        intro z
        simp [covers, z.1, z.2] at hcv
      rw [if_neg (fun z => hcov ⟨z.1, z.2.1⟩)] at ht
      obtain ⟨vm', hV, hf⟩ := ih S hW hcell (fun z hz => hy z (List.mem_cons_of_mem _ hz)) t ht
      refine ⟨vm', hV, fun Q E d acts => ?_⟩
      rw [W.findHandler_go_skip hcv]
      exact hf Q E d acts
theorem ax_caughtTo {tb : Tables} {S target : State} {g : JFrame} {c : Code} {below : List Frame} (h : At S g.method c below) {pc : Nat} {vm' : Vm}
    (hfind : ∀ (Q : Handler → Pre) (E : CtlPost) (d : Bool) (acts : List Action), wp (findHandler g a) Q E e d acts ((S.setTop g).pushFrame (.throwing a)) ↔ Q (.found pc) d acts (((S.setTop g).pushFrame (.throwing a)).setVm vm')) (hrest : Steps tb e below ((S.setVm vm').setTop { g with pc := pc, stack := [.ref a] }) target) :
    Steps tb e below ((S.setTop g).pushFrame (.throwing a)) target := by
  obtain ⟨hgo, hw⟩ := h.throwing a
  refine Steps.head hgo hw ?_
  have hst : (stepThrowing e ((S.setTop g).pushFrame (.throwing a)) a (.java g :: S.frames.tail)).Is ((((S.setTop g).pushFrame (.throwing a)).setVm vm').setFrames (.java { g with pc := pc, stack := [.ref a] } :: S.frames.tail)) [] := by
    simp only [stepThrowing, searchFrame, vmDo]
    generalize hr : Sem.go _ e false [] ((S.setTop g).pushFrame (.throwing a)) = res
    obtain ⟨as, rfl, ha⟩ := Sem.eq_ok_of hr (a := Handler.found pc) (s' := ((S.setTop g).pushFrame (.throwing a)).setVm vm') (acts' := []) (by simp [hfind _ _ _ _])
    exact ⟨rfl, ha⟩
  rw [stepThread_throwing (frames_entered h.top _), hst.1]
  obtain ⟨g₀, hg⟩ := Option.isSome_iff_exists.mp h.top
  obtain ⟨r, hr⟩ := State.topJava?_eq_some.mp hg
  have hr' : (S.setVm vm').frames = .java g₀ :: r := hr
  have e1 : ∀ (u : State) (F G : List Frame), ((u.setFrames F).setVm vm').setFrames G = (u.setVm vm').setFrames G := fun u F G => by
    have h1 : (u.setFrames F).setVm vm' = (u.setVm vm').setFrames F := rfl
    rw [h1, State.setFrames_setFrames]
  rw [State.setTop_of_frames _ hr'] at hrest
  rw [hr, List.tail_cons, State.pushFrame, e1, State.setTop_of_frames _ hr, e1]
  exact hrest
end AxC
end
section
theorem ax_lookup_mem {pc : Nat} {r : ax_R} : ∀ {l : List (Nat × ax_R)}, l.lookup pc = some r → (pc, r) ∈ l := by
  intro l
  induction l with
  | nil => intro h; cases h
  | cons a t ih =>
    intro h
    obtain ⟨a1, a2⟩ := a
    rw [List.lookup_cons] at h
    split at h
    · rename_i he
      have he : pc = a1 := by simpa using he
      cases h
      subst he
      exact List.mem_cons_self
    · exact List.mem_cons_of_mem _ (ih h)
theorem ax_row_ok {k pc : Nat} {r : ax_R} (hk : k < 138) (h : ax_code k pc = some r) : ax_rc k pc r.1 r.2.1 r.2.2.1 r.2.2.2.1 r.2.2.2.2 = true :=
  List.all_eq_true.mp (ax_ck k hk) _ (ax_lookup_mem h)
section AxS
variable {p : Program} {l : Launch} {e : Env} {R : Room} {s : State} {m : MethodId} {args : Array Value} {below : List Frame} {meth : Method} {c : Code} {H : Heap} {locs : List Loc} {cells slots : Nat}
variable {b b0 pc : Nat} {st : List Value} {h h' : ax_H} {D : va_G} {cA : Nat → ClassId} {S : (Nat × Nat) × (Nat → Int32)} {C : Array Slot}
theorem ax_mono {Q Q' : State → Prop} {g : JFrame} (hq : ∀ t, Q t → Q' t) (h : W p l e R s m args below meth c H locs cells slots Q g) : W p l e R s m args below meth c H locs cells slots Q' g := fun T hT X => by
  obtain ⟨t, a, z⟩ := h T hT X
  exact ⟨t, a, hq t z⟩
theorem ax_S_old (hS : va_S (fun q => b0 ≤ q) s.heap H locs) : ∀ q : Nat, q < s.heap.size → q < b0 → H[q]? = s.heap[q]? := fun q h1 h2 => hS.2.1 q h1 (Nat.not_le.mpr h2)
/-- a return's end -/
theorem ax_retZ {w : Option Value} (hr : ax_rel D cA b b0 S h H) (hS : va_S (fun q => b0 ≤ q) s.heap H locs) (t : State) (hM : MQ below (fun _ _ o t => o = .returned (w.map (ax_cv b b0)) ∧ t.heap = H) args s cells slots (fun q => b0 ≤ q) t) : ax_Z D cA b b0 S below s (.inl w) h cells slots t := by
  obtain ⟨o, hrun, hend, ⟨ho, hh⟩, L, hF, hL⟩ := hM
  obtain ⟨-, hW, hsame⟩ := hF
  exact ⟨o, hrun, hend, hW, ⟨L, hsame, hL⟩, by rw [hh]; exact hr, by rw [hh]; exact ax_S_old hS, ho⟩
theorem ax_endW {k op n x y : Nat} {v : Int} {r : ax_O} (htr : e.platform.stackTraces = false) (G : ax_cx D cA b b0 S k p R s m meth c) (hxt : ax_tabl k c) (hrow : ax_rc k pc op n x y v = true) (he : ax_end k op x st h = some (r, h')) (hCs : C.size = c.maxLocals) (hr : ax_rel D cA b b0 S h H) (hS : va_S (fun q => b0 ≤ q) s.heap H locs) (hcl : cells + (h'.1.1 - h.1.1) ≤ R.cells) (hsl : slots + (h'.1.2 - h.1.2) ≤ R.slots) :
    W p l e R s m args below meth c H locs cells slots (ax_Z D cA b b0 S below s r h' (cells + (h'.1.1 - h.1.1)) (slots + (h'.1.2 - h.1.2))) (F0 m pc C (st.map (ax_cv b b0))) := by
  obtain ⟨hx, hb, hml, hown, hnm, hrt, hlocks, htb, hK, hsz, hsc, hfr, hlo, hb0⟩ := G
  have hts : ∀ w ∈ lw_tbl, w.onTables = true → w.before args s = true := fun w hw ho => va_tabs ho rfl (htb.1 w hw ho)
  match op, hrow, he with
  | 50, hrow, he =>
    have hrow : (ax_d1 (ax_by k) pc n .ireturn 1 && decide (ax_rt k = some .int ∨ ax_rt k = some .boolean)) = true := hrow
    rw [Bool.and_eq_true, decide_eq_true_eq] at hrow
    obtain ⟨d, -⟩ := ax_d1_of hrow.1
    replace he : ax_e50 k st h = some (r, h') := he
    unfold ax_e50 at he
    split at he
    · rename_i a hz9
      split at he
      · rename_i hcond
        cases he
        rw [Nat.sub_self, Nat.sub_self, Nat.add_zero, Nat.add_zero]
        refine ax_mono (fun t => ax_retZ (args := args) (w := some (.int a)) hr hS t) ?_
        rcases hrow.2 with h1 | h1
        · exact W.iret hx hb (hrt.trans h1) (fun t ht _ => ⟨rfl, ht⟩) hS.2.2 d hlocks
        · refine W.zret (ty := .boolean) hx hb (hrt.trans h1) ?_ (fun t ht _ => ⟨rfl, ht⟩) hS.2.2 d hlocks
          rcases hcond with h2 | rfl | rfl
          · rw [h1] at h2; cases h2
          · rfl
          · rfl
      · cases he
    · cases he
  | 51, hrow, he =>
    have hrow : (ax_d1 (ax_by k) pc n .return_ 1 && decide (ax_rt k = none)) = true := hrow
    rw [Bool.and_eq_true, decide_eq_true_eq] at hrow
    obtain ⟨d, -⟩ := ax_d1_of hrow.1
    replace he : ax_e51 st h = some (r, h') := he
    unfold ax_e51 at he
    split at he
    · cases he
      rw [Nat.sub_self, Nat.sub_self, Nat.add_zero, Nat.add_zero]
      refine ax_mono (fun t => ax_retZ (args := args) (w := none) hr hS t) ?_
      exact W.vret hx hb (hrt.trans hrow.2) (fun t ht _ => ⟨rfl, ht⟩) hS.2.2 d hlocks
    · cases he
  | 52, hrow, he =>
    have hrow : (ax_d1 (ax_by k) pc n .areturn 1 && (match ax_rt k with | some (.object _) => true | _ => false)) = true := hrow
    rw [Bool.and_eq_true] at hrow
    obtain ⟨d, -⟩ := ax_d1_of hrow.1
    have hob : ∃ nm, ax_rt k = some (.object nm) := by
      have h2 := hrow.2
      split at h2
      · rename_i nm hnm
        exact ⟨nm, hnm⟩
      · cases h2
    obtain ⟨nm, hob⟩ := hob
    replace he : ax_e52 st h = some (r, h') := he
    unfold ax_e52 at he
    split at he
    · rename_i a hz9
      cases he
      rw [Nat.sub_self, Nat.sub_self, Nat.add_zero, Nat.add_zero]
      refine ax_mono (fun t => ax_retZ (args := args) (w := some (.ref a)) hr hS t) ?_
      exact W.aret (rt := .object nm) (v := .ref (ax_g b b0 a)) hx hb (hrt.trans hob) (Or.inl ⟨nm, rfl⟩) (Or.inr ⟨_, rfl⟩) (fun t ht _ => ⟨rfl, ht⟩) hS.2.2 d hlocks
    · cases he
  | 53, hrow, he =>
    have hrow : (ax_d1 (ax_by k) pc n (.new v.toNat) 3 && decide (decode (ax_by k) (pc + 3) = .ok (.dup, 1) ∧ decode (ax_by k) (pc + 4) = .ok (.ldc (ax_tx x).2.1, 2) ∧ decode (ax_by k) (pc + 6) = .ok (.invokespecial (ax_tx x).2.2, 3) ∧ decode (ax_by k) (pc + 9) = .ok (.athrow, 1)) && decide (ax_wn k = 7 ∧ x < 3 ∧ v.toNat = (ax_tx x).1 ∧ 6 ≤ ax_fr k ∧ 100 ≤ ax_lo k ∧ ax_hx k = [])) = true := hrow
    rw [Bool.and_eq_true, Bool.and_eq_true, decide_eq_true_eq, decide_eq_true_eq] at hrow
    obtain ⟨⟨hd0, d3, d4, d6, d9⟩, hw7, hx3, hvx, hf6, hl100, hnoh⟩ := hrow
    obtain ⟨d0, -⟩ := ax_d1_of hd0
    rw [hvx] at d0
    replace he : ax_e53 x st h = some (r, h') := he
    unfold ax_e53 at he
    split at he
    · split at he
      · rename_i hlim
        cases he
        have e1 : (h.1.1 + 1) - h.1.1 = 1 := by omega
        have e2 : (h.1.2 + 6) - h.1.2 = 6 := by omega
        rw [e1] at hcl
        rw [e2] at hsl
        rw [e1, e2]
        have howM : s.vm.findClass "MakerGuard" = some m.cls := by
          have e7 : ax_ow k = "MakerGuard" := by unfold ax_ow; rw [hw7]; rfl
          rw [← e7]; exact hown
        have hE : ∀ w ∈ ax_eA x, w.before args s = true := fun w hw => hts w (ax_eA_in hx3 w hw).1 (ax_eA_in hx3 w hw).2
        obtain ⟨c1, kX, hc1, hkX, -, -, -, hn6⟩ := Cond.instantiable_spec (hE (.instantiable (ax_en x) 6) (by simp [ax_eA]))
        obtain ⟨sa, hsa⟩ := htb.2.2.2.1 x hx3
        have htab : c.exceptionTable.toList = [] := by
          have := hxt
          unfold ax_tabl at this
          rw [hnoh] at this
          exact List.map_eq_nil_iff.mp this
        have hhs := hr.1
        refine W.newcK hx hb howM (hE (.classLink "MakerGuard" (ax_tx x).1 (ax_en x)) (by simp [ax_eA])) (hE (.instantiable (ax_en x) 6) (by simp [ax_eA])) (hE (.initialized (ax_en x)) (by simp [ax_eA])) (g := F0 m pc C []) rfl d0 hcl hsl hc1 rfl fun H1 kC hkC p1 z1 o1 => ?_
        cases hkX.symm.trans hkC
        refine lv_dup (pc := pc + 3) hx hb d3 rfl ?_
        refine va_ldcS (pc := pc + 4) hx hb howM hsa d4 ?_
        have hS1 := ax_S_push hS z1 o1
        rw [hhs] at z1
        refine ax_thrW (pc := pc + 6) (j := x) (q := H.size) hx hb htr howM htb hsz hlocks htab hCs (Nat.le_trans hf6 hfr) (Nat.le_trans hl100 hlo) hx3 hc1 hkX p1 hS.1 hS1 d6 d9 ?_
        intro t L t1 t2 t3 t4 t5 t6 t7 t8 t9
        have hq : H.size = b0 + h.1.1 := hhs
        refine ⟨.threw H.size, t1, t2, t3, ⟨locs ++ L, t4, fun x hx => ?_⟩, ?_, fun q g1 g2 => ?_, ?_⟩
        · rcases List.mem_append.mp hx with hx | hx
          · exact hS.2.2 x hx
          · rw [t5 x hx, hq]; omega
        · obtain ⟨r1, r2, r3, r4, r5⟩ := hr
          refine ⟨by rw [t6, z1]; show _ = b0 + (h.1.1 + 1); omega, by show h.1.1 + 1 < _; omega, fun a ha => ?_, (ax_sh_other _ _ (by omega)).trans r4, r5⟩
          have ha : a < h.1.1 + 1 := ha
          rcases Nat.lt_or_ge a h.1.1 with hl | hl
          · refine ax_cell_congr (ax_sh_other _ _ (Nat.ne_of_lt hl)) rfl rfl rfl ?_ (r3 a hl)
            rw [t7 _ (by omega), o1 _ (by omega)]
          · have : a = h.1.1 := by omega
            subst this
            have hk0 : (ax_sh h.2.1 h.1.1 (0, 0) h.1.1) = (0, 0) := ax_sh_self _ _ _
            refine ⟨fun ci _ hk => ?_, fun hk => ?_, fun hk => ?_, fun hk => ?_⟩
            · exact absurd (hk.symm.trans (congrArg Prod.fst hk0)) (by omega)
            · rcases hk with hk | hk
              · exact absurd (hk.symm.trans (congrArg Prod.fst hk0)) (by omega)
              · exact absurd (hk.symm.trans (congrArg Prod.fst hk0)) (by omega)
            · exact absurd (hk.symm.trans (congrArg Prod.fst hk0)) (by omega)
            · have hk : ax_ra (ax_sh h.2.1 h.1.1 (0, 0) h.1.1).1 = true := hk
              rw [hk0] at hk
              cases hk
        · rw [t7 q (by omega), o1 q (by omega)]
          exact ax_S_old hS q g1 g2
        · obtain ⟨ce, u1, u2, u3⟩ := t8
          refine ⟨by rw [hq], by show h.1.1 < 1000000000; omega, hx3, ce, by rw [← hq]; exact u1, u2, ?_, ?_⟩
          · rw [t3.alike.findClass, u3]; exact hc1
          · rw [t3.alike.assignable, u3]; exact t9
      · cases he
    · cases he
  | 0, _, he => cases he
  | op + 54, _, he => cases he
  | 1, _, he | 2, _, he | 3, _, he | 4, _, he | 5, _, he | 6, _, he | 7, _, he | 8, _, he | 9, _, he | 10, _, he | 11, _, he | 12, _, he | 13, _, he | 14, _, he | 15, _, he | 16, _, he | 17, _, he | 18, _, he | 19, _, he | 20, _, he | 21, _, he | 22, _, he | 23, _, he | 24, _, he | 25, _, he | 26, _, he | 27, _, he | 28, _, he | 29, _, he | 30, _, he | 31, _, he | 32, _, he | 33, _, he | 34, _, he | 35, _, he | 36, _, he | 37, _, he | 38, _, he | 39, _, he | 40, _, he | 41, _, he | 42, _, he | 43, _, he | 44, _, he | 45, _, he | 46, _, he | 47, _, he | 48, _, he | 49, _, he => cases he
end AxS
end
section
/-! EVERY ABSTRACT RUN IS A RUN OF THE MACHINE -/
set_option maxHeartbeats 1000000 in
theorem ax_sound : ∀ n, ax_P n := by
  intro n
  induction n with
  | zero => intro k pc ls st h r h' hk he; cases he
  | succ n IH =>
    intro k pc ls st h r h' hk he p l e R s m args below meth c H locs cells slots C D cA b b0 S htr G hxt hln hr hS hl hcl hsl
    have hmono := ax_exec_mono _ _ _ _ _ _ _ _ he
    unfold ax_exec at he
    split at he
    · cases he
    · rename_i r0 hcode
      have hrow := ax_row_ok hk hcode
      have hCs : C.size = c.maxLocals := by rw [hl.1, hln, G.2.2.1]
      obtain ⟨op, ln, x, y, v⟩ := r0
      simp only at he hrow
      split at he
      · -- a step
        split at he
        · rename_i z hz
          obtain ⟨q, ls1, st1, h1⟩ := z
          simp only at he
          obtain ⟨m0, m1, m2⟩ := ax_step_mono hz
          obtain ⟨m3, m4⟩ := ax_exec_mono _ _ _ _ _ _ _ _ he
          refine ax_go G hrow hz hln hr hS hl (by omega) (by omega) (fun H1 locs1 C1 a1 a2 a3 => ?_)
          have := IH k q ls1 st1 h1 r h' hk he p l e R s m args below meth c H1 locs1 (cells + (h1.1.1 - h.1.1)) (slots + (h1.1.2 - h.1.2)) C1 D cA b b0 S htr G hxt (m0.trans hln) a1 a2 a3 (by omega) (by omega)
          rw [show cells + (h1.1.1 - h.1.1) + (h'.1.1 - h1.1.1) = cells + (h'.1.1 - h.1.1) by omega, show slots + (h1.1.2 - h.1.2) + (h'.1.2 - h1.1.2) = slots + (h'.1.2 - h.1.2) by omega] at this
          exact this
        · cases he
      · rename_i h40
        split at he
        · -- a call
          rename_i h50
          split at he
          · rename_i hca
            obtain ⟨hy, hca⟩ := hca
            intro T hT X
            have hrT : ax_rel D cA b b0 S h T.heap := by rw [hT]; exact hr
            obtain ⟨⟨hx0, hx1, hfr2, hlo2, hyml⟩, ⟨ig, d⟩, vm₁, mk, hn, X₁, hstep⟩ := ax_inv (C := C) X G hrow (Nat.not_lt.mp h40) h50 hy hca hrT
            obtain ⟨hx, hb, hml, hown, hnm, hrt, hlocks, htb, hK, hsz, hsc, hfr, hlo, hb0⟩ := id G
            have hcat : ((st.take y).reverse).all (fun v => v.category == 1) = true ∧ ((st.drop y).map fun v => v.category).sum ≤ 8 := by
              unfold ax_ca at hca
              rw [Bool.and_eq_true, decide_eq_true_eq] at hca
              exact hca.1
            have hS1 : va_S (fun q => b0 ≤ q) s.heap (T.setVm vm₁).heap locs := by
              show va_S _ _ T.heap _
              rw [hT]; exact hS
            have hw8 : (((st.drop y).map (ax_cv b b0)).map fun v => v.category).sum ≤ 8 := by
              rw [List.map_map]
              have : ((fun v => v.category) ∘ ax_cv b b0) = (fun v : Value => v.category) := by funext v; exact ax_cv_cat b b0 v
              rw [this]; exact hcat.2
            have hlenA : ((st.take y).reverse).length ≤ ax_ml x := by rw [List.length_reverse, List.length_take, Nat.min_eq_left hy]; exact hyml
            have main : ∀ (r1 : ax_O) (h1 : ax_H), ax_exec n x 0 (ax_entry x (st.take y).reverse) [] h = some (r1, h1) → h1.1.1 ≤ h'.1.1 → h1.1.2 ≤ h'.1.2 →
                ∃ t : State, (∀ acts, Steps p.tables e below (doInvoke e ((T.setVm vm₁).setTop (F0 m pc C ((st.drop y).map (ax_cv b b0)))) acts mk (((st.take y).reverse).map (ax_cv b b0)).toArray).1 t) ∧ ax_Z D cA b b0 S (.java (F0 m pc C ((st.drop y).map (ax_cv b b0))) :: below) ((T.setVm vm₁).calling (F0 m pc C ((st.drop y).map (ax_cv b b0))) mk (((st.take y).reverse).map (ax_cv b b0)).toArray) r1 h1 (h1.1.1 - h.1.1) (h1.1.2 - h.1.2) t := by
              intro r1 h1 he1 q1 q2
              obtain ⟨q3, q4⟩ := ax_exec_mono _ _ _ _ _ _ _ _ he1
              exact ax_enter IH hx0 hx1 X₁ htr hx htb hK hsz hS1 hb0 (g := F0 m pc C ((st.drop y).map (ax_cv b b0))) rfl hCs (by rw [hb]; exact d) hn hcat.1 hlenA hrT he1 (by omega) (by show 2 * 0 + (((st.drop y).map (ax_cv b b0)).map fun v => v.category).sum + (ax_ml x + 11) + ax_lo x ≤ R.locals; omega) (by omega) (by omega)
            have hold1 : ∀ {t : State}, (∀ q : Nat, q < T.heap.size → q < b0 → t.heap[q]? = T.heap[q]?) → ∀ q : Nat, q < s.heap.size → q < b0 → t.heap[q]? = s.heap[q]? := by
              intro t ht q g1 g2
              rw [ht q (Nat.lt_of_lt_of_le g1 (by rw [hT]; exact hS.1)) g2, hT]
              exact ax_S_old hS q g1 g2
            split at he
            · -- it came back
              rename_i w h1 he1
              obtain ⟨q3, q4⟩ := ax_exec_mono _ _ _ _ _ _ _ _ he
              obtain ⟨t, hst, o, hrun, hend, hW, ⟨L, hsame, hLb⟩, hrel, hold, hoc⟩ := main _ _ he1 q3 q4
              have hoc : o = .returned (w.map (ax_cv b b0)) := hoc
              subst hoc
              obtain ⟨T', X', hW', -, ht⟩ := X₁.outOf (g := F0 m pc C ((st.drop y).map (ax_cv b b0))) rfl (by rw [hb]; exact d) hend hW hsame
              have hheap : t.heap = T'.heap := by rw [ht]; rfl
              obtain ⟨q5, q6⟩ := ax_exec_mono _ _ _ _ _ _ _ _ he1
              have hS2 : va_S (fun q => b0 ≤ q) s.heap T'.heap (locs ++ L) := by
                refine ⟨?_, fun q g1 g2 => ?_, fun q hq => ?_⟩
                · have g1 := hS.1
                  rw [← hheap, hrel.1]
                  rw [hr.1] at g1
                  omega
                · rw [← hheap]
                  exact hold1 hold q g1 (Nat.not_le.mp g2)
                · rcases List.mem_append.mp hq with hq | hq
                  · exact hS.2.2 q hq
                  · exact hLb q hq
              have := IH k (pc + 3) ls (w.toList ++ st.drop y) h1 r h' hk he p l e R s m args below meth c T'.heap (locs ++ L) (cells + (h1.1.1 - h.1.1)) (slots + (h1.1.2 - h.1.2)) C D cA b b0 S htr G hxt hln (by rw [← hheap]; exact hrel) hS2 hl (by omega) (by omega)
              rw [show cells + (h1.1.1 - h.1.1) + (h'.1.1 - h1.1.1) = cells + (h'.1.1 - h.1.1) by omega, show slots + (h1.1.2 - h.1.2) + (h'.1.2 - h1.1.2) = slots + (h'.1.2 - h.1.2) by omega] at this
              obtain ⟨t2, a1, b1⟩ := this T' rfl X'
              refine ⟨t2, hstep _ (fun acts => (hst acts).trans ?_), b1⟩
              rw [ht]
              have e3 : (w.toList ++ st.drop y).map (ax_cv b b0) = (w.map (ax_cv b b0)).toList ++ (st.drop y).map (ax_cv b b0) := by
                rw [List.map_append]
                cases w <;> rfl
              rw [e3] at a1
              exact a1
            · -- it threw
              rename_i ex h1 he1
              obtain ⟨ea, ej⟩ := ex
              obtain ⟨q5, q6⟩ := ax_exec_mono _ _ _ _ _ _ _ _ he1
              have q34 : h1.1.1 ≤ h'.1.1 ∧ h1.1.2 ≤ h'.1.2 := by
                split at he
                · exact ax_exec_mono _ _ _ _ _ _ _ _ he
                · split at he
                  · cases he
                    exact ⟨Nat.le_refl _, Nat.le_refl _⟩
                  · cases he
              obtain ⟨q3, q4⟩ := q34
              obtain ⟨t, hst, o, hrun, hend, hW, ⟨L, hsame, hLb⟩, hrel, hold, hoc⟩ := main _ _ he1 q3 q4
              obtain ⟨ho, hlim, hj3, ce, hce, hcev, hcec, hceS⟩ := hoc
              subst ho
              obtain ⟨T', X', hW', -, ht⟩ := X₁.outOfThrown (g := F0 m pc C ((st.drop y).map (ax_cv b b0))) rfl hend hW hsame
              have hheap : t.heap = T'.heap := by rw [ht]; rfl
              have hvm : t.vm = T'.vm := by rw [ht]; rfl
              have hS2 : va_S (fun q => b0 ≤ q) s.heap T'.heap (locs ++ L) := by
                refine ⟨?_, fun q g1 g2 => ?_, fun q hq => ?_⟩
                · have g1 := hS.1
                  rw [← hheap, hrel.1]
                  rw [hr.1] at g1
                  omega
                · rw [← hheap]
                  exact hold1 hold q g1 (Nat.not_le.mp g2)
                · rcases List.mem_append.mp hq with hq | hq
                  · exact hS.2.2 q hq
                  · exact hLb q hq
              obtain ⟨hd1, hd2, hd3⟩ := ax_hd_hx k hk
              split at he
              · -- caught here
                rename_i tgt hfound
                have hne : ax_hx k ≠ [] := by
                  intro z
                  rw [hd1, z] at hfound
                  cases hfound
                have howL : ax_ow k = "MakerGuardLaw" := by
                  rcases hd3 with z | z
                  · exact absurd z hne
                  · exact z
                have hal : s.vm.Alike T'.vm := X'.warmed.alike
                have hpl : e.platform.magicAccessors = ({} : Platform).magicAccessors := by rw [X.admits.platform]
                have hmap : c.exceptionTable.toList.map ax_hq = ax_hd k := by
                  rw [hd1, ← hxt, List.map_map]
                  rfl
                have hcat2 : ∀ y ∈ c.exceptionTable.toList, y.catchType = 13 ∨ y.catchType = 29 ∨ y.catchType = 19 := by
                  intro y hy
                  rw [← hxt] at hd2
                  have := List.all_eq_true.mp hd2 _ (List.mem_map.mpr ⟨y, hy, rfl⟩)
                  simp only [Bool.or_eq_true, beq_iff_eq] at this
                  rcases this with (z | z) | z
                  · exact Or.inl z
                  · exact Or.inr (Or.inl z)
                  · exact Or.inr (Or.inr z)
                obtain ⟨vm', hV, hf⟩ := ax_find (e := e) (f := F0 m pc C ((st.drop y).map (ax_cv b b0))) (a := b0 + ea) (cell := ce) (j := ej) hpl (by rw [← howL]; exact hown) htb hj3 (fun z hz => by rw [hcev] at hz; cases hz) (by rw [← hal.findClass, ← hvm]; exact hcec) (by rw [← hal.assignable, ← hvm]; exact hceS) c.exceptionTable.toList ((T'.setTop (F0 m pc C ((st.drop y).map (ax_cv b b0)))).pushFrame (.throwing (b0 + ea))) X'.warmed (by show T'.heap[b0 + ea]? = _; rw [← hheap]; exact hce) hcat2 tgt (by rw [hmap]; exact hfound)
                have := IH k tgt ls [.ref ea] h1 r h' hk he p l e R s m args below meth c T'.heap (locs ++ L) (cells + (h1.1.1 - h.1.1)) (slots + (h1.1.2 - h.1.2)) C D cA b b0 S htr G hxt hln (by rw [← hheap]; exact hrel) hS2 hl (by omega) (by omega)
                rw [show cells + (h1.1.1 - h.1.1) + (h'.1.1 - h1.1.1) = cells + (h'.1.1 - h.1.1) by omega, show slots + (h1.1.2 - h.1.2) + (h'.1.2 - h1.1.2) = slots + (h'.1.2 - h.1.2) by omega] at this
                obtain ⟨t2, a1, b1⟩ := this (T'.setVm vm') rfl (X'.noted hV)
                refine ⟨t2, hstep _ (fun acts => (hst acts).trans ?_), b1⟩
                rw [ht]
                refine ax_caughtTo (g := F0 m pc C ((st.drop y).map (ax_cv b b0))) (pc := tgt) (vm' := vm') X'.here (fun Q E d acts => ?_) ?_
                · rw [W.findHandler_eq (meth := meth) (code := c) X'.method' X'.code]
                  exact hf Q E d acts
                · have hg : ax_g b b0 ea = b0 + ea := ax_g_lt hlim
                  simpa only [List.map_cons, List.map_nil, ax_cv_ref, hg] using a1
              · -- it goes through
                split at he
                · rename_i hnil
                  cases he
                  have htab : c.exceptionTable.toList = [] := by
                    have := hxt
                    unfold ax_tabl at this
                    rw [hnil] at this
                    exact List.map_eq_nil_iff.mp this
                  obtain ⟨hwalk, g1, g2, g3, g4⟩ := X'.leaveThrown (b0 + ea) (g := F0 m pc C ((st.drop y).map (ax_cv b b0))) rfl rfl rfl (fun x hx => by rw [htab] at hx; cases hx) hlocks
                  refine ⟨_, hstep _ (fun acts => (hst acts).trans (by rw [ht]; exact hwalk)), .threw (b0 + ea), g1, g2, g3, ⟨locs ++ L, g4, hS2.2.2⟩, ?_, ?_, rfl, hlim, hj3, ce, ?_, hcev, ?_, ?_⟩
                  · show ax_rel D cA b b0 S h' T'.heap
                    rw [← hheap]; exact hrel
                  · show ∀ q : Nat, q < s.heap.size → q < b0 → T'.heap[q]? = s.heap[q]?
                    rw [← hheap]
                    exact hold1 hold
                  · show T'.heap[b0 + ea]? = some ce
                    rw [← hheap]; exact hce
                  · show T'.vm.findClass (ax_en ej) = some ce.cls
                    rw [← hvm]; exact hcec
                  · show T'.vm.assignable ce.cls ce.cls = true
                    rw [← hvm]; exact hceS
                · cases he
            · cases he
          · cases he
        · exact ax_endW htr G hxt hrow he hCs hr hS hcl hsl
end
section
/-! THE ABSTRACT RUN AS A FUNCTION: ax_fn k pc ls st h, what the run from there comes to (none: it never ends well); it obeys one equation an instruction, by which it is computed with unknown numbers inside -/
theorem ax_exec_succ : ∀ (n k pc : Nat) (ls : ax_L) (st : List Value) (h : ax_H) (z : ax_O × ax_H), ax_exec n k pc ls st h = some z → ax_exec (n + 1) k pc ls st h = some z := by
  intro n
  induction n with
  | zero => intro k pc ls st h z he; cases he
  | succ n ih =>
    intro k pc ls st h z he
    rw [ax_exec] at he ⊢
    split at he
    · cases he
    · rename_i r hr
      split at he
      · rename_i h40
        simp only [h40, if_true] at he ⊢
        split at he
        · rename_i w hw
          exact ih _ _ _ _ _ _ he
        · cases he
      · rename_i h40
        simp only [h40, if_false] at he ⊢
        split at he
        · rename_i h50
          simp only [h50, if_true] at he ⊢
          split at he
          · rename_i hca
            simp only [hca, if_true] at he ⊢
            split at he
            · rename_i w h1 hw
              rw [ih _ _ _ _ _ _ hw]
              exact ih _ _ _ _ _ _ he
            · rename_i q h1 hw
              rw [ih _ _ _ _ _ _ hw]
              simp only
              split at he
              · rename_i t ht
                exact ih _ _ _ _ _ _ he
              · exact he
            · cases he
          · cases he
        · rename_i h50
          simp only [h50, if_false] at he ⊢
          exact he
theorem ax_exec_le {n m k pc : Nat} {ls : ax_L} {st : List Value} {h : ax_H} {z : ax_O × ax_H} (hnm : n ≤ m) (he : ax_exec n k pc ls st h = some z) : ax_exec m k pc ls st h = some z := by
  induction hnm with
  | refl => exact he
  | step _ ih => exact ax_exec_succ _ _ _ _ _ _ _ ih
noncomputable def ax_fn (k pc : Nat) (ls : ax_L) (st : List Value) (h : ax_H) : Option (ax_O × ax_H) :=
  @dite _ (∃ (n : Nat) (z : ax_O × ax_H), ax_exec n k pc ls st h = some z) (Classical.propDecidable _) (fun H => some (Classical.choose (Classical.choose_spec H))) (fun _ => none)
theorem ax_fn_iff {k pc : Nat} {ls : ax_L} {st : List Value} {h : ax_H} {z : ax_O × ax_H} : ax_fn k pc ls st h = some z ↔ ∃ n, ax_exec n k pc ls st h = some z := by
  unfold ax_fn
  constructor
  · intro hf
    split at hf
    · rename_i H
      have := Classical.choose_spec (Classical.choose_spec H)
      cases hf
      exact ⟨_, this⟩
    · cases hf
  · rintro ⟨n, hn⟩
    have H : ∃ (n : Nat) (z : ax_O × ax_H), ax_exec n k pc ls st h = some z := ⟨n, z, hn⟩
    rw [dif_pos H]
    have h2 := Classical.choose_spec (Classical.choose_spec H)
    have h3 := ax_exec_le (Nat.le_max_left n (Classical.choose H)) hn
    have h4 := ax_exec_le (Nat.le_max_right n (Classical.choose H)) h2
    exact congrArg some (Option.some.inj (h4.symm.trans h3))
/-- one instruction's unrolling -/
noncomputable def ax_un (r : ax_R) (k pc : Nat) (ls : ax_L) (st : List Value) (h : ax_H) : Option (ax_O × ax_H) :=
  if r.1 < 40 then (match ax_step k pc r ls st h with
    | some z => ax_fn k z.1 z.2.1 z.2.2.1 z.2.2.2
    | none => none)
  else if r.1 < 50 then (if r.2.2.2.1 ≤ st.length ∧ ax_ca r.1 r.2.2.1 (st.take r.2.2.2.1).reverse (st.drop r.2.2.2.1) h = true then (match ax_fn r.2.2.1 0 (ax_entry r.2.2.1 (st.take r.2.2.2.1).reverse) [] h with
      | some (.inl w, h1) => ax_fn k (pc + 3) ls (w.toList ++ st.drop r.2.2.2.1) h1
      | some (.inr q, h1) => (match ax_hn (ax_hd k) pc q.2 with
        | some t => ax_fn k t ls [.ref q.1] h1
        | none => if ax_hx k = [] then some (.inr q, h1) else none)
      | none => none)
    else none)
  else ax_end k r.1 r.2.2.1 st h
theorem ax_opt {α : Type} {a b : Option α} (h : ∀ z, a = some z ↔ b = some z) : a = b := by
  cases a with
  | none =>
    cases b with
    | none => rfl
    | some z => exact absurd ((h z).mpr rfl) (by simp)
  | some z => exact ((h z).mp rfl).symm
theorem ax_fn_row {k pc : Nat} {r : ax_R} (hr : ax_code k pc = some r) (ls : ax_L) (st : List Value) (h : ax_H) : ax_fn k pc ls st h = ax_un r k pc ls st h := by
  apply ax_opt
  intro z
  rw [ax_fn_iff]
  constructor
  · rintro ⟨n, hn⟩
    cases n with
    | zero => cases hn
    | succ n =>
      rw [ax_exec, hr] at hn
      simp only at hn
      unfold ax_un
      split at hn
      · rename_i h40
        rw [if_pos h40]
        split at hn
        · rename_i w hw
          rw [hw]
          exact ax_fn_iff.mpr ⟨n, hn⟩
        · cases hn
      · rename_i h40
        rw [if_neg h40]
        split at hn
        · rename_i h50
          rw [if_pos h50]
          split at hn
          · rename_i hca
            rw [if_pos hca]
            split at hn
            · rename_i w h1 hw
              rw [ax_fn_iff.mpr ⟨n, hw⟩]
              exact ax_fn_iff.mpr ⟨n, hn⟩
            · rename_i q h1 hw
              rw [ax_fn_iff.mpr ⟨n, hw⟩]
              simp only
              split at hn
              · rename_i t ht
                rw [ht]
                exact ax_fn_iff.mpr ⟨n, hn⟩
              · rename_i ht
                rw [ht]
                exact hn
            · cases hn
          · cases hn
        · rename_i h50
          rw [if_neg h50]
          exact hn
  · intro hz
    unfold ax_un at hz
    split at hz
    · rename_i h40
      split at hz
      · rename_i w hw
        obtain ⟨n, hn⟩ := ax_fn_iff.mp hz
        refine ⟨n + 1, ?_⟩
        rw [ax_exec, hr]
        simp only [h40, if_true, hw]
        exact hn
      · cases hz
    · rename_i h40
      split at hz
      · rename_i h50
        split at hz
        · rename_i hca
          split at hz
          · rename_i w h1 hw
            obtain ⟨n1, hn1⟩ := ax_fn_iff.mp hw
            obtain ⟨n2, hn2⟩ := ax_fn_iff.mp hz
            refine ⟨max n1 n2 + 1, ?_⟩
            rw [ax_exec, hr]
            simp only [h40, h50, hca, if_true, if_false, ax_exec_le (Nat.le_max_left n1 n2) hn1]
            exact ax_exec_le (Nat.le_max_right n1 n2) hn2
          · rename_i q h1 hw
            obtain ⟨n1, hn1⟩ := ax_fn_iff.mp hw
            split at hz
            · rename_i t ht
              obtain ⟨n2, hn2⟩ := ax_fn_iff.mp hz
              refine ⟨max n1 n2 + 1, ?_⟩
              rw [ax_exec, hr]
              simp only [h40, h50, hca, if_true, if_false, ax_exec_le (Nat.le_max_left n1 n2) hn1, ht]
              exact ax_exec_le (Nat.le_max_right n1 n2) hn2
            · rename_i ht
              refine ⟨n1 + 1, ?_⟩
              rw [ax_exec, hr]
              simp only [h40, h50, hca, if_true, if_false, hn1, ht]
              exact hz
          · cases hz
        · cases hz
      · rename_i h50
        refine ⟨1, ?_⟩
        rw [ax_exec, hr]
        simp only [h40, h50, if_false]
        exact hz
end
section
/-! THE HEAP BEHIND THE CONSTRUCTORS, by families of cells (written by wip/tools/gen31.py; the families stand in wip/tools/fam.py): ints M f i j (family, number in it, slot) -/
def ax_fi : List (Nat × Nat) := [(0, 0), (1, 0), (2, 0), (17, 0), (3, 0), (4, 0), (5, 0), (6, 0), (7, 0), (8, 0), (10, 60), (10, 24), (10, 25), (10, 26), (3, 1), (4, 1), (5, 1), (6, 1), (7, 1), (8, 1), (10, 61), (10, 27), (10, 28), (10, 29), (3, 2), (4, 2), (5, 2), (6, 2), (7, 2), (8, 2), (10, 62), (10, 30), (10, 31), (10, 32), (3, 3), (4, 3), (5, 3), (6, 3), (7, 3), (8, 3), (10, 63), (10, 33), (10, 34), (10, 35), (3, 4), (4, 4), (5, 4), (6, 4), (7, 4), (8, 4), (10, 64), (10, 36), (10, 37), (10, 38), (3, 5), (4, 5), (5, 5), (6, 5), (7, 5), (8, 5), (10, 65), (10, 39), (10, 40), (10, 41), (3, 6), (4, 6), (5, 6), (6, 6), (7, 6), (8, 6), (10, 66), (10, 42), (10, 43), (10, 44), (3, 7), (4, 7), (5, 7), (6, 7), (7, 7), (8, 7), (10, 67), (10, 45), (10, 46), (10, 47), (3, 8), (4, 8), (5, 8), (6, 8), (7, 8), (8, 8), (10, 68), (10, 48), (10, 49), (10, 50), (3, 9), (4, 9), (5, 9), (6, 9), (7, 9), (8, 9), (10, 69), (10, 51), (10, 52), (10, 53), (3, 10), (4, 10), (5, 10), (6, 10), (7, 10), (8, 10), (10, 70), (10, 54), (10, 55), (10, 56), (3, 11), (4, 11), (5, 11), (6, 11), (7, 11), (8, 11), (10, 71), (10, 57), (10, 58), (10, 59), (10, 0), (10, 1), (10, 2), (10, 3), (10, 4), (10, 5), (10, 6), (10, 7), (10, 8), (10, 9), (10, 10), (10, 11), (10, 12), (10, 13), (10, 14), (10, 15), (10, 16), (10, 17), (10, 18), (10, 19), (10, 20), (10, 21), (10, 22), (10, 23), (9, 0), (11, 0), (12, 40), (13, 40), (14, 40), (15, 40), (16, 0), (12, 0), (13, 0), (14, 0), (15, 0), (12, 1), (13, 1), (14, 1), (15, 1), (12, 2), (13, 2), (14, 2), (15, 2), (12, 3), (13, 3), (14, 3), (15, 3), (12, 4), (13, 4), (14, 4), (15, 4), (12, 5), (13, 5), (14, 5), (15, 5), (12, 6), (13, 6), (14, 6), (15, 6), (12, 7), (13, 7), (14, 7), (15, 7), (12, 8), (13, 8), (14, 8), (15, 8), (12, 9), (13, 9), (14, 9), (15, 9), (12, 10), (13, 10), (14, 10), (15, 10), (12, 11), (13, 11), (14, 11), (15, 11), (12, 12), (13, 12), (14, 12), (15, 12), (12, 13), (13, 13), (14, 13), (15, 13), (12, 14), (13, 14), (14, 14), (15, 14), (12, 15), (13, 15), (14, 15), (15, 15), (12, 16), (13, 16), (14, 16), (15, 16), (12, 17), (13, 17), (14, 17), (15, 17), (12, 18), (13, 18), (14, 18), (15, 18), (12, 19), (13, 19), (14, 19), (15, 19), (12, 20), (13, 20), (14, 20), (15, 20), (12, 21), (13, 21), (14, 21), (15, 21), (12, 22), (13, 22), (14, 22), (15, 22), (12, 23), (13, 23), (14, 23), (15, 23), (12, 24), (13, 24), (14, 24), (15, 24), (12, 25), (13, 25), (14, 25), (15, 25), (12, 26), (13, 26), (14, 26), (15, 26), (12, 27), (13, 27), (14, 27), (15, 27), (12, 28), (13, 28), (14, 28), (15, 28), (12, 29), (13, 29), (14, 29), (15, 29), (12, 30), (13, 30), (14, 30), (15, 30), (12, 31), (13, 31), (14, 31), (15, 31), (12, 32), (13, 32), (14, 32), (15, 32), (12, 33), (13, 33), (14, 33), (15, 33), (12, 34), (13, 34), (14, 34), (15, 34), (12, 35), (13, 35), (14, 35), (15, 35), (12, 36), (13, 36), (14, 36), (15, 36), (12, 37), (13, 37), (14, 37), (15, 37), (12, 38), (13, 38), (14, 38), (15, 38), (12, 39), (13, 39), (14, 39), (15, 39), (18, 0), (19, 0), (20, 0), (21, 0), (22, 0), (23, 0), (22, 1), (23, 1), (22, 2), (23, 2), (22, 3), (23, 3), (22, 4), (23, 4), (22, 5), (23, 5), (22, 6), (23, 6), (22, 7), (23, 7), (22, 8), (23, 8), (22, 9), (23, 9), (22, 10), (23, 10), (22, 11), (23, 11), (22, 12), (23, 12), (22, 13), (23, 13), (22, 14), (23, 14), (22, 15), (23, 15), (22, 16), (23, 16), (22, 17), (23, 17), (22, 18), (23, 18), (22, 19), (23, 19), (24, 0), (31, 0), (32, 0), (33, 0), (34, 0), (35, 0), (36, 0), (37, 0), (38, 0), (39, 0), (40, 0), (41, 0), (42, 0), (43, 0), (44, 0), (45, 0), (46, 0), (47, 0), (48, 0), (49, 0), (52, 0), (53, 0), (54, 0), (58, 0), (59, 0), (60, 0), (61, 0), (66, 0), (67, 0), (68, 0)]
def ax_ad : List (List Nat) := [[0], [1], [2], [4, 14, 24, 34, 44, 54, 64, 74, 84, 94, 104, 114], [5, 15, 25, 35, 45, 55, 65, 75, 85, 95, 105, 115], [6, 16, 26, 36, 46, 56, 66, 76, 86, 96, 106, 116], [7, 17, 27, 37, 47, 57, 67, 77, 87, 97, 107, 117], [8, 18, 28, 38, 48, 58, 68, 78, 88, 98, 108, 118], [9, 19, 29, 39, 49, 59, 69, 79, 89, 99, 109, 119], [148], [124, 125, 126, 127, 128, 129, 130, 131, 132, 133, 134, 135, 136, 137, 138, 139, 140, 141, 142, 143, 144, 145, 146, 147, 11, 12, 13, 21, 22, 23, 31, 32, 33, 41, 42, 43, 51, 52, 53, 61, 62, 63, 71, 72, 73, 81, 82, 83, 91, 92, 93, 101, 102, 103, 111, 112, 113, 121, 122, 123, 10, 20, 30, 40, 50, 60, 70, 80, 90, 100, 110, 120], [149], [155, 159, 163, 167, 171, 175, 179, 183, 187, 191, 195, 199, 203, 207, 211, 215, 219, 223, 227, 231, 235, 239, 243, 247, 251, 255, 259, 263, 267, 271, 275, 279, 283, 287, 291, 295, 299, 303, 307, 311, 150], [156, 160, 164, 168, 172, 176, 180, 184, 188, 192, 196, 200, 204, 208, 212, 216, 220, 224, 228, 232, 236, 240, 244, 248, 252, 256, 260, 264, 268, 272, 276, 280, 284, 288, 292, 296, 300, 304, 308, 312, 151], [157, 161, 165, 169, 173, 177, 181, 185, 189, 193, 197, 201, 205, 209, 213, 217, 221, 225, 229, 233, 237, 241, 245, 249, 253, 257, 261, 265, 269, 273, 277, 281, 285, 289, 293, 297, 301, 305, 309, 313, 152], [158, 162, 166, 170, 174, 178, 182, 186, 190, 194, 198, 202, 206, 210, 214, 218, 222, 226, 230, 234, 238, 242, 246, 250, 254, 258, 262, 266, 270, 274, 278, 282, 286, 290, 294, 298, 302, 306, 310, 314, 153], [154], [3], [315], [316], [317], [318], [319, 321, 323, 325, 327, 329, 331, 333, 335, 337, 339, 341, 343, 345, 347, 349, 351, 353, 355, 357], [320, 322, 324, 326, 328, 330, 332, 334, 336, 338, 340, 342, 344, 346, 348, 350, 352, 354, 356, 358], [359], [], [], [], [], [], [], [360], [361], [362], [363], [364], [365], [366], [367], [368], [369], [370], [371], [372], [373], [374], [375], [376], [377], [378], [], [], [379], [380], [381], [], [], [], [382], [383], [384], [385], [], [], [], [], [386], [387], [388]]
def ax_fk : List (Nat × Nat) := [(8, 3), (6, 2), (30, 12), (1, 8), (20, 40), (20, 40), (20, 40), (20, 40), (31, 3), (4, 6), (2, 3), (36, 40), (7, 6), (20, 8), (20, 8), (20, 8), (20, 12), (31, 24), (5, 10), (20, 60), (20, 240), (32, 20), (3, 4), (20, 8), (9, 38), (0, 0), (0, 0), (0, 0), (0, 0), (0, 0), (0, 0), (20, 24), (21, 24), (20, 12), (20, 36), (21, 36), (20, 36), (20, 6), (21, 6), (20, 6), (20, 12), (20, 480), (20, 480), (20, 480), (20, 480), (21, 40), (20, 320), (20, 320), (20, 320), (20, 40), (0, 0), (0, 0), (20, 8), (20, 8), (20, 8), (0, 0), (0, 0), (0, 0), (20, 20), (20, 20), (20, 160), (20, 20), (0, 0), (0, 0), (0, 0), (0, 0), (20, 60), (20, 240), (22, 1)]
def ax_a (f i : Nat) : Nat := (ax_ad.getD f []).getD i 0
def ax_ct (f : Nat) : Nat := (ax_ad.getD f []).length
def ax_kd (f : Nat) : Nat × Nat := ax_fk.getD f (0, 0)
def ax_fa (a : Nat) : Nat := (ax_fi.getD a (0, 0)).1
def ax_ix (a : Nat) : Nat := (ax_fi.getD a (0, 0)).2
/-- references that never change -/
def ax_rq (f i j : Nat) : Option Nat := match f, j with
  | 0, 0 => some (ax_a 1 0)
  | 0, 1 => some (ax_a 9 0)
  | 0, 2 => some (ax_a 18 0)
  | 1, 0 => some (ax_a 2 0)
  | 1, 1 => some (ax_a 17 0)
  | 3, 0 => some (ax_a 4 i)
  | 3, 1 => some (ax_a 5 i)
  | 3, 2 => some (ax_a 6 i)
  | 3, 3 => some (ax_a 7 i)
  | 3, 4 => some (ax_a 8 i)
  | 3, 5 => some (ax_a 10 (60 + i))
  | 9, 0 => some (ax_a 1 0)
  | 9, 1 => some (ax_a 11 0)
  | 9, 2 => some (ax_a 12 40)
  | 9, 3 => some (ax_a 16 0)
  | 12, 0 => some (ax_a 13 i)
  | 12, 1 => some (ax_a 14 i)
  | 12, 2 => some (ax_a 15 i)
  | 18, 0 => some (ax_a 19 0)
  | 18, 1 => some (ax_a 20 0)
  | 18, 5 => some (ax_a 1 0)
  | 18, 6 => some (ax_a 21 0)
  | 22, 0 => some (ax_a 23 i)
  | 24, 1 => some (ax_a 31 0)
  | 24, 2 => some (ax_a 32 0)
  | 24, 3 => some (ax_a 33 0)
  | 24, 4 => some (ax_a 34 0)
  | 24, 5 => some (ax_a 35 0)
  | 24, 6 => some (ax_a 36 0)
  | 24, 7 => some (ax_a 37 0)
  | 24, 8 => some (ax_a 38 0)
  | 24, 9 => some (ax_a 39 0)
  | 24, 10 => some (ax_a 40 0)
  | 24, 11 => some (ax_a 41 0)
  | 24, 12 => some (ax_a 42 0)
  | 24, 13 => some (ax_a 43 0)
  | 24, 14 => some (ax_a 44 0)
  | 24, 15 => some (ax_a 45 0)
  | 24, 16 => some (ax_a 46 0)
  | 24, 17 => some (ax_a 47 0)
  | 24, 18 => some (ax_a 48 0)
  | 24, 19 => some (ax_a 49 0)
  | 24, 22 => some (ax_a 52 0)
  | 24, 23 => some (ax_a 53 0)
  | 24, 24 => some (ax_a 54 0)
  | 24, 28 => some (ax_a 58 0)
  | 24, 29 => some (ax_a 59 0)
  | 24, 30 => some (ax_a 60 0)
  | 24, 31 => some (ax_a 61 0)
  | 24, 36 => some (ax_a 66 0)
  | 24, 37 => some (ax_a 67 0)
  | 2, j => if j < 12 then some (ax_a 3 j) else none
  | 8, j => if j < 3 then some (ax_a 10 (24 + 3 * i + j)) else none
  | 11, j => if j < 40 then some (ax_a 12 j) else none
  | 17, j => if j < 24 then some (ax_a 10 j) else none
  | 21, j => if j < 20 then some (ax_a 22 j) else none
  | _, _ => none
def ax_rf (gb f i j : Nat) : Option Nat := if f = 9 ∧ j = 5 then some (ax_a 3 gb) else ax_rq f i j
abbrev ax_M : Type := Nat → Nat → Nat → Int32
def ax_u3 (M : ax_M) (f i j : Nat) (v : Int32) : ax_M := fun f' i' j' => if f' = f ∧ i' = i ∧ j' = j then v else M f' i' j'
def ax_r3 (M : ax_M) (f i : Nat) (g : Nat → Int32) : ax_M := fun f' i' => if f' = f ∧ i' = i then g else M f' i'
/-- X: the script; e: how many exceptions were thrown; gb: the guard's body; M: the ints; o: the law's out -/
def ax_hp (X : Nat × (Nat → Int32)) (e gb : Nat) (M : ax_M) (o : Int64) : ax_H :=
  ((389 + e, 7908 + 6 * e), (fun a => if a < 389 then ax_kd (ax_fa a) else if a = 1000000000 then (99, X.1) else (0, 0)),
   (fun a => if a < 389 then M (ax_fa a) (ax_ix a) else if a = 1000000000 then X.2 else fun _ => 0),
   (fun a => if a < 389 then ax_rf gb (ax_fa a) (ax_ix a) else fun _ => none), (fun a j => if a = 388 ∧ j = 0 then o else 0))
theorem ax_de1 : (List.range 69).all (fun f => (List.range (ax_ct f)).all (fun i => decide (ax_a f i < 389 ∧ ax_fa (ax_a f i) = f ∧ ax_ix (ax_a f i) = i))) = true := by decide +kernel
theorem ax_de2 : (List.range 389).all (fun a => decide (ax_fa a < 69 ∧ ax_ix a < ax_ct (ax_fa a) ∧ ax_a (ax_fa a) (ax_ix a) = a)) = true := by decide +kernel
theorem ax_ct_ge {f : Nat} (h : 69 ≤ f) : ax_ct f = 0 := by
  unfold ax_ct
  rw [List.getD_eq_getElem?_getD, List.getElem?_eq_none (by exact h)]
  rfl
theorem ax_dc {f i : Nat} (h : i < ax_ct f) : ax_a f i < 389 ∧ ax_fa (ax_a f i) = f ∧ ax_ix (ax_a f i) = i := by
  have hf : f < 69 := by
    by_cases hf : f < 69
    · exact hf
    · rw [ax_ct_ge (by omega)] at h; omega
  have h1 := List.all_eq_true.mp ax_de1 f (List.mem_range.mpr hf)
  have h2 := List.all_eq_true.mp h1 i (List.mem_range.mpr h)
  exact of_decide_eq_true h2
theorem ax_dd {a : Nat} (h : a < 389) : ax_fa a < 69 ∧ ax_ix a < ax_ct (ax_fa a) ∧ ax_a (ax_fa a) (ax_ix a) = a :=
  of_decide_eq_true (List.all_eq_true.mp ax_de2 a (List.mem_range.mpr h))
section AxHp
variable {X : Nat × (Nat → Int32)} {e gb : Nat} {M : ax_M} {o : Int64}
theorem ax_hp_c : (ax_hp X e gb M o).1.1 = 389 + e := rfl
theorem ax_hp_s {f i : Nat} (h : i < ax_ct f) : (ax_hp X e gb M o).2.1 (ax_a f i) = ax_kd f := by
  obtain ⟨h1, h2, -⟩ := ax_dc h
  show (if ax_a f i < 389 then ax_kd (ax_fa (ax_a f i)) else _) = _
  rw [if_pos h1, h2]
theorem ax_hp_i {f i j : Nat} (h : i < ax_ct f) : (ax_hp X e gb M o).2.2.1 (ax_a f i) j = M f i j := by
  obtain ⟨h1, h2, h3⟩ := ax_dc h
  show (if ax_a f i < 389 then M (ax_fa (ax_a f i)) (ax_ix (ax_a f i)) else _) j = _
  rw [if_pos h1, h2, h3]
theorem ax_hp_r {f i j : Nat} (h : i < ax_ct f) : (ax_hp X e gb M o).2.2.2.1 (ax_a f i) j = ax_rf gb f i j := by
  obtain ⟨h1, h2, h3⟩ := ax_dc h
  show (if ax_a f i < 389 then ax_rf gb (ax_fa (ax_a f i)) (ax_ix (ax_a f i)) else _) j = _
  rw [if_pos h1, h2, h3]
theorem ax_hp_lt {f i : Nat} (h : i < ax_ct f) : ax_a f i < (ax_hp X e gb M o).1.1 := by
  rw [ax_hp_c]; have := (ax_dc h).1; omega
theorem ax_hp_rw {f i : Nat} {g : Nat → Int32} (h : i < ax_ct f) : ((ax_hp X e gb M o).1, (ax_hp X e gb M o).2.1, ax_rw (ax_hp X e gb M o).2.2.1 (ax_a f i) g, (ax_hp X e gb M o).2.2.2) = ax_hp X e gb (ax_r3 M f i g) o := by
  obtain ⟨h1, h2, h3⟩ := ax_dc h
  unfold ax_hp
  simp only [Prod.mk.injEq, true_and, and_true]
  funext a
  unfold ax_rw ax_r3
  by_cases ha : a = ax_a f i
  · subst ha; simp only [h1, h2, h3, if_true, and_self]
  · rw [if_neg ha]
    by_cases hl : a < 389
    · have hn : ¬ (ax_fa a = f ∧ ax_ix a = i) := by
        rintro ⟨rfl, rfl⟩
        exact ha (ax_dd hl).2.2.symm
      simp only [hl, if_true, if_neg hn]
    · simp only [hl, if_false]
theorem ax_hp_up {f i j : Nat} {v : Int32} (h : i < ax_ct f) : ((ax_hp X e gb M o).1, (ax_hp X e gb M o).2.1, ax_up (ax_hp X e gb M o).2.2.1 (ax_a f i) j v, (ax_hp X e gb M o).2.2.2) = ax_hp X e gb (ax_u3 M f i j v) o := by
  have h0 : ax_up (ax_hp X e gb M o).2.2.1 (ax_a f i) j v = ax_rw (ax_hp X e gb M o).2.2.1 (ax_a f i) (fun j' => if j' = j then v else M f i j') := by
    funext a j'
    unfold ax_up ax_rw
    by_cases ha : a = ax_a f i
    · subst ha; simp only [true_and, if_true]
      split
      · rfl
      · exact ax_hp_i h
    · simp only [ha, false_and, if_false]
  rw [h0, ax_hp_rw h]
  congr 1
  funext f' i' j'
  unfold ax_r3 ax_u3
  by_cases hf : f' = f ∧ i' = i
  · obtain ⟨rfl, rfl⟩ := hf; simp only [true_and, and_self, if_true]
  · have : ¬ (f' = f ∧ i' = i ∧ j' = j) := fun h => hf ⟨h.1, h.2.1⟩
    simp only [hf, this, if_false]
theorem ax_hp_gb {b : Nat} : ((ax_hp X e gb M o).1, (ax_hp X e gb M o).2.1, (ax_hp X e gb M o).2.2.1, ax_up (ax_hp X e gb M o).2.2.2.1 (ax_a 9 0) 5 (some (ax_a 3 b)), (ax_hp X e gb M o).2.2.2.2) = ax_hp X e b M o := by
  unfold ax_hp
  simp only [Prod.mk.injEq, true_and, and_true]
  obtain ⟨h1, h2, h3⟩ := ax_dc (f := 9) (i := 0) (by decide)
  funext a j
  unfold ax_up
  by_cases ha : a = ax_a 9 0 ∧ j = 5
  · obtain ⟨rfl, rfl⟩ := ha
    simp only [h1, h2, h3, and_self, if_true, ax_rf]
  · rw [if_neg ha]
    by_cases hl : a < 389
    · simp only [hl, if_true]
      have hn : ¬ (ax_fa a = 9 ∧ j = 5) := by
        rintro ⟨h4, rfl⟩
        have h5 := ax_dd hl
        have h6 : ax_ix a = 0 := by
          have h7 := h5.2.1
          rw [h4] at h7
          have : ax_ct 9 = 1 := by decide
          omega
        rw [h4, h6] at h5
        exact ha ⟨h5.2.2.symm, rfl⟩
      simp only [ax_rf, if_neg hn]
    · simp only [hl, if_false]
theorem ax_hp_o {v : Int64} : ((ax_hp X e gb M o).1, (ax_hp X e gb M o).2.1, (ax_hp X e gb M o).2.2.1, (ax_hp X e gb M o).2.2.2.1, ax_up (ax_hp X e gb M o).2.2.2.2 (ax_a 68 0) 0 v) = ax_hp X e gb M v := by
  unfold ax_hp
  simp only [Prod.mk.injEq, true_and]
  funext a j
  have : ax_a 68 0 = 388 := by decide
  unfold ax_up
  rw [this]
  split <;> simp_all
theorem ax_hp_x (he : e < 800000000) : (((ax_hp X e gb M o).1.1 + 1, (ax_hp X e gb M o).1.2 + 6), ax_sh (ax_hp X e gb M o).2.1 (ax_hp X e gb M o).1.1 (0, 0), (ax_hp X e gb M o).2.2) = ax_hp X (e + 1) gb M o := by
  unfold ax_hp
  simp only [Prod.mk.injEq, and_true]
  refine ⟨⟨by omega, by omega⟩, ?_⟩
  funext a
  unfold ax_sh
  by_cases ha : a = 389 + e
  · subst ha
    have h1 : ¬ 389 + e < 389 := by omega
    have h2 : ¬ 389 + e = 1000000000 := by omega
    simp only [h1, h2, if_false, if_true]
  · rw [if_neg ha]
end AxHp
end
section
/-! one row for each kind of instruction, over heaps ax_hp and over numbers ay_i (written by wip/tools/gen32.py) -/
theorem ay_c0 : ax_ct 0 = 1 := by decide +kernel
theorem ay_k0 : ax_kd 0 = (8, 3) := by decide +kernel
theorem ay_c1 : ax_ct 1 = 1 := by decide +kernel
theorem ay_k1 : ax_kd 1 = (6, 2) := by decide +kernel
theorem ay_c2 : ax_ct 2 = 1 := by decide +kernel
theorem ay_k2 : ax_kd 2 = (30, 12) := by decide +kernel
theorem ay_c3 : ax_ct 3 = 12 := by decide +kernel
theorem ay_k3 : ax_kd 3 = (1, 8) := by decide +kernel
theorem ay_c4 : ax_ct 4 = 12 := by decide +kernel
theorem ay_k4 : ax_kd 4 = (20, 40) := by decide +kernel
theorem ay_c5 : ax_ct 5 = 12 := by decide +kernel
theorem ay_k5 : ax_kd 5 = (20, 40) := by decide +kernel
theorem ay_c6 : ax_ct 6 = 12 := by decide +kernel
theorem ay_k6 : ax_kd 6 = (20, 40) := by decide +kernel
theorem ay_c7 : ax_ct 7 = 12 := by decide +kernel
theorem ay_k7 : ax_kd 7 = (20, 40) := by decide +kernel
theorem ay_c8 : ax_ct 8 = 12 := by decide +kernel
theorem ay_k8 : ax_kd 8 = (31, 3) := by decide +kernel
theorem ay_c9 : ax_ct 9 = 1 := by decide +kernel
theorem ay_k9 : ax_kd 9 = (4, 6) := by decide +kernel
theorem ay_c10 : ax_ct 10 = 72 := by decide +kernel
theorem ay_k10 : ax_kd 10 = (2, 3) := by decide +kernel
theorem ay_c11 : ax_ct 11 = 1 := by decide +kernel
theorem ay_k11 : ax_kd 11 = (36, 40) := by decide +kernel
theorem ay_c12 : ax_ct 12 = 41 := by decide +kernel
theorem ay_k12 : ax_kd 12 = (7, 6) := by decide +kernel
theorem ay_c13 : ax_ct 13 = 41 := by decide +kernel
theorem ay_k13 : ax_kd 13 = (20, 8) := by decide +kernel
theorem ay_c14 : ax_ct 14 = 41 := by decide +kernel
theorem ay_k14 : ax_kd 14 = (20, 8) := by decide +kernel
theorem ay_c15 : ax_ct 15 = 41 := by decide +kernel
theorem ay_k15 : ax_kd 15 = (20, 8) := by decide +kernel
theorem ay_c16 : ax_ct 16 = 1 := by decide +kernel
theorem ay_k16 : ax_kd 16 = (20, 12) := by decide +kernel
theorem ay_c17 : ax_ct 17 = 1 := by decide +kernel
theorem ay_k17 : ax_kd 17 = (31, 24) := by decide +kernel
theorem ay_c18 : ax_ct 18 = 1 := by decide +kernel
theorem ay_k18 : ax_kd 18 = (5, 10) := by decide +kernel
theorem ay_c19 : ax_ct 19 = 1 := by decide +kernel
theorem ay_k19 : ax_kd 19 = (20, 60) := by decide +kernel
theorem ay_c20 : ax_ct 20 = 1 := by decide +kernel
theorem ay_k20 : ax_kd 20 = (20, 240) := by decide +kernel
theorem ay_c21 : ax_ct 21 = 1 := by decide +kernel
theorem ay_k21 : ax_kd 21 = (32, 20) := by decide +kernel
theorem ay_c22 : ax_ct 22 = 20 := by decide +kernel
theorem ay_k22 : ax_kd 22 = (3, 4) := by decide +kernel
theorem ay_c23 : ax_ct 23 = 20 := by decide +kernel
theorem ay_k23 : ax_kd 23 = (20, 8) := by decide +kernel
theorem ay_c24 : ax_ct 24 = 1 := by decide +kernel
theorem ay_k24 : ax_kd 24 = (9, 38) := by decide +kernel
theorem ay_c31 : ax_ct 31 = 1 := by decide +kernel
theorem ay_k31 : ax_kd 31 = (20, 24) := by decide +kernel
theorem ay_c32 : ax_ct 32 = 1 := by decide +kernel
theorem ay_k32 : ax_kd 32 = (21, 24) := by decide +kernel
theorem ay_c33 : ax_ct 33 = 1 := by decide +kernel
theorem ay_k33 : ax_kd 33 = (20, 12) := by decide +kernel
theorem ay_c34 : ax_ct 34 = 1 := by decide +kernel
theorem ay_k34 : ax_kd 34 = (20, 36) := by decide +kernel
theorem ay_c35 : ax_ct 35 = 1 := by decide +kernel
theorem ay_k35 : ax_kd 35 = (21, 36) := by decide +kernel
theorem ay_c36 : ax_ct 36 = 1 := by decide +kernel
theorem ay_k36 : ax_kd 36 = (20, 36) := by decide +kernel
theorem ay_c37 : ax_ct 37 = 1 := by decide +kernel
theorem ay_k37 : ax_kd 37 = (20, 6) := by decide +kernel
theorem ay_c38 : ax_ct 38 = 1 := by decide +kernel
theorem ay_k38 : ax_kd 38 = (21, 6) := by decide +kernel
theorem ay_c39 : ax_ct 39 = 1 := by decide +kernel
theorem ay_k39 : ax_kd 39 = (20, 6) := by decide +kernel
theorem ay_c40 : ax_ct 40 = 1 := by decide +kernel
theorem ay_k40 : ax_kd 40 = (20, 12) := by decide +kernel
theorem ay_c41 : ax_ct 41 = 1 := by decide +kernel
theorem ay_k41 : ax_kd 41 = (20, 480) := by decide +kernel
theorem ay_c42 : ax_ct 42 = 1 := by decide +kernel
theorem ay_k42 : ax_kd 42 = (20, 480) := by decide +kernel
theorem ay_c43 : ax_ct 43 = 1 := by decide +kernel
theorem ay_k43 : ax_kd 43 = (20, 480) := by decide +kernel
theorem ay_c44 : ax_ct 44 = 1 := by decide +kernel
theorem ay_k44 : ax_kd 44 = (20, 480) := by decide +kernel
theorem ay_c45 : ax_ct 45 = 1 := by decide +kernel
theorem ay_k45 : ax_kd 45 = (21, 40) := by decide +kernel
theorem ay_c46 : ax_ct 46 = 1 := by decide +kernel
theorem ay_k46 : ax_kd 46 = (20, 320) := by decide +kernel
theorem ay_c47 : ax_ct 47 = 1 := by decide +kernel
theorem ay_k47 : ax_kd 47 = (20, 320) := by decide +kernel
theorem ay_c48 : ax_ct 48 = 1 := by decide +kernel
theorem ay_k48 : ax_kd 48 = (20, 320) := by decide +kernel
theorem ay_c49 : ax_ct 49 = 1 := by decide +kernel
theorem ay_k49 : ax_kd 49 = (20, 40) := by decide +kernel
theorem ay_c52 : ax_ct 52 = 1 := by decide +kernel
theorem ay_k52 : ax_kd 52 = (20, 8) := by decide +kernel
theorem ay_c53 : ax_ct 53 = 1 := by decide +kernel
theorem ay_k53 : ax_kd 53 = (20, 8) := by decide +kernel
theorem ay_c54 : ax_ct 54 = 1 := by decide +kernel
theorem ay_k54 : ax_kd 54 = (20, 8) := by decide +kernel
theorem ay_c58 : ax_ct 58 = 1 := by decide +kernel
theorem ay_k58 : ax_kd 58 = (20, 20) := by decide +kernel
theorem ay_c59 : ax_ct 59 = 1 := by decide +kernel
theorem ay_k59 : ax_kd 59 = (20, 20) := by decide +kernel
theorem ay_c60 : ax_ct 60 = 1 := by decide +kernel
theorem ay_k60 : ax_kd 60 = (20, 160) := by decide +kernel
theorem ay_c61 : ax_ct 61 = 1 := by decide +kernel
theorem ay_k61 : ax_kd 61 = (20, 20) := by decide +kernel
theorem ay_c66 : ax_ct 66 = 1 := by decide +kernel
theorem ay_k66 : ax_kd 66 = (20, 60) := by decide +kernel
theorem ay_c67 : ax_ct 67 = 1 := by decide +kernel
theorem ay_k67 : ax_kd 67 = (20, 240) := by decide +kernel
theorem ay_c68 : ax_ct 68 = 1 := by decide +kernel
theorem ay_k68 : ax_kd 68 = (22, 1) := by decide +kernel
def ay_i (n : Nat) : Int32 := Int32.ofNat n
def ay_n (n : Nat) : Int32 := Int32.ofInt (-(n : Int))
def ay_b (c : Bool) : Int32 := if c = true then ay_i 1 else ay_i 0
theorem ay_i_add (a b : Nat) : ay_i a + ay_i b = ay_i (a + b) := (Int32.ofNat_add a b).symm
theorem ay_i_mul (a b : Nat) : ay_i a * ay_i b = ay_i (a * b) := (Int32.ofNat_mul a b).symm
theorem ay_i_sub {a b : Nat} (h : b ≤ a) : ay_i a - ay_i b = ay_i (a - b) := by
  have : ay_i a = ay_i (a - b) + ay_i b := by rw [ay_i_add]; congr 1; omega
  rw [this, Int32.add_sub_cancel]
theorem ay_i_toInt {a : Nat} (ha : a < 2147483648) : (ay_i a).toInt = (a : Int) := by
  unfold ay_i
  exact Int32.toInt_ofNat_of_lt (by simpa using ha)
theorem ay_i_eq {a b : Nat} (ha : a < 2147483648) (hb : b < 2147483648) : (ay_i a = ay_i b) = (a = b) := by
  apply propext
  constructor
  · intro h
    have := congrArg Int32.toInt h
    rw [ay_i_toInt ha, ay_i_toInt hb] at this
    omega
  · rintro rfl; rfl
theorem ay_i_lt {a b : Nat} (ha : a < 2147483648) (hb : b < 2147483648) : (ay_i a < ay_i b) = (a < b) := by
  apply propext
  rw [Int32.lt_iff_toInt_lt, ay_i_toInt ha, ay_i_toInt hb]
  omega
theorem ay_i_ct {a : Nat} (ha : a < 2147483648) : (ay_i a).toNatClampNeg = a := by
  unfold Int32.toNatClampNeg
  rw [ay_i_toInt ha]
  rfl
theorem ay_i_out {a n : Nat} (ha : a < 2147483648) (h : a < n) : ax_out (ay_i a) n = false := by
  unfold ax_out
  rw [ay_i_ct ha]
  have h0 : ¬ ay_i a < 0 := by
    have := ay_i_lt (a := a) (b := 0) ha (by omega)
    show ¬ ay_i a < ay_i 0
    rw [this]; omega
  simp only [h0, false_or, decide_eq_false_iff_not]
  omega
theorem ay_n_toInt {n : Nat} (h : n < 2147483648) : (ay_n n).toInt = -(n : Int) := by
  unfold ay_n
  rw [Int32.toInt_ofInt]
  apply Int.bmod_eq_of_le <;> (have hs : (Int32.size : Int) = 4294967296 := rfl; omega)
theorem ay_ni {n a : Nat} (h : 0 < n) (hn : n < 2147483648) (ha : a < 2147483648) : (ay_n n = ay_i a) = False := by
  apply propext
  refine ⟨fun h1 => ?_, False.elim⟩
  have := congrArg Int32.toInt h1
  rw [ay_n_toInt hn, ay_i_toInt ha] at this
  omega
theorem ay_in {n a : Nat} (h : 0 < n) (hn : n < 2147483648) (ha : a < 2147483648) : (ay_i a = ay_n n) = False := by
  apply propext
  refine ⟨fun h1 => ?_, False.elim⟩
  have := congrArg Int32.toInt h1
  rw [ay_n_toInt hn, ay_i_toInt ha] at this
  omega
theorem ay_nn {n a : Nat} (hn : n < 2147483648) (ha : a < 2147483648) : (ay_n n = ay_n a) = (n = a) := by
  apply propext
  refine ⟨fun h1 => ?_, fun h => h ▸ rfl⟩
  have := congrArg Int32.toInt h1
  rw [ay_n_toInt hn, ay_n_toInt ha] at this
  omega
theorem ay_nl {n a : Nat} (h : 0 < n) (hn : n < 2147483648) (ha : a < 2147483648) : (ay_n n < ay_i a) = True := by
  apply propext
  rw [Int32.lt_iff_toInt_lt, ay_n_toInt hn, ay_i_toInt ha]
  simp only [iff_true]
  omega
theorem ay_ln {n a : Nat} (hn : n < 2147483648) (ha : a < 2147483648) : (ay_i a < ay_n n) = False := by
  apply propext
  rw [Int32.lt_iff_toInt_lt, ay_n_toInt hn, ay_i_toInt ha]
  simp only [iff_false]
  omega
theorem ay_b0 (c : Bool) : (ay_b c = ay_i 0) = (c = false) := by
  cases c
  · simp [ay_b]
  · have : ¬ (ay_i 1 = ay_i 0) := by rw [ay_i_eq (by omega) (by omega)]; omega
    simp [ay_b, this]
theorem ay_b1 (c : Bool) : (ay_b c = ay_i 1) = (c = true) := by
  cases c
  · have : ¬ (ay_i 0 = ay_i 1) := by rw [ay_i_eq (by omega) (by omega)]; omega
    simp [ay_b, this]
  · simp [ay_b]
theorem ay_bt : ay_b true = ay_i 1 := rfl
theorem ay_bf : ay_b false = ay_i 0 := rfl
def ay_z1 (v : Int32) : Prop := v = ay_i 0 ∨ v = ay_i 1
theorem ay_z1b (c : Bool) : ay_z1 (ay_b c) := by
  cases c
  · exact .inl rfl
  · exact .inr rfl
theorem ay_z10 : ay_z1 (ay_i 0) := .inl rfl
theorem ay_z11 : ay_z1 (ay_i 1) := .inr rfl
theorem ay_u3e (M : ax_M) (f i j : Nat) (v : Int32) (f' i' j' : Nat) : ax_u3 M f i j v f' i' j' = if f' = f ∧ i' = i ∧ j' = j then v else M f' i' j' := rfl
section AxO
variable {k pc pc' ln x y : Nat} {v : Int} {ls ls' : ax_L} {st st' : List Value} {h h' : ax_H}
theorem ay_o {r : ax_R} (hr : ax_code k pc = some r) (h40 : r.1 < 40) (hs : ax_step k pc r ls st h = some (pc', ls', st', h')) : ax_fn k pc ls st h = ax_fn k pc' ls' st' h' := by
  rw [ax_fn_row hr]
  unfold ax_un
  rw [if_pos h40, hs]
theorem ay_o0 (n : Nat) (hr : ax_code k pc = some (0, ln, x, y, (n : Int))) (hp : pc + ln = pc') : ax_fn k pc ls st h = ax_fn k pc' ls (.int (ay_i n) :: st) h := by
  refine ay_o hr (by dsimp only; omega) ?_
  subst hp; rfl
theorem ay_o0m (n : Nat) (hr : ax_code k pc = some (0, ln, x, y, -(n : Int))) (hp : pc + ln = pc') : ax_fn k pc ls st h = ax_fn k pc' ls (.int (ay_n n) :: st) h := by
  refine ay_o hr (by dsimp only; omega) ?_
  subst hp; rfl
theorem ay_o1 {a : Int32} (hr : ax_code k pc = some (1, ln, x, y, v)) (hp : pc + ln = pc') (hx : ls[x]? = some (some (.int a))) : ax_fn k pc ls st h = ax_fn k pc' ls (.int a :: st) h := by
  refine ay_o hr (by dsimp only; omega) ?_
  subst hp
  show ax_s1 _ _ _ _ _ = _
  unfold ax_s1; simp only [hx]
theorem ay_o2 {a : Nat} (hr : ax_code k pc = some (2, ln, x, y, v)) (hp : pc + ln = pc') (hx : ls[x]? = some (some (.ref a))) : ax_fn k pc ls st h = ax_fn k pc' ls (.ref a :: st) h := by
  refine ay_o hr (by dsimp only; omega) ?_
  subst hp
  show ax_s2 _ _ _ _ _ = _
  unfold ax_s2; simp only [hx]
theorem ay_o3 {a : Int32} (hr : ax_code k pc = some (3, ln, x, y, v)) (hp : pc + ln = pc') (hx : x < ls.length) : ax_fn k pc ls (.int a :: st) h = ax_fn k pc' (ls.set x (some (.int a))) st h := by
  refine ay_o hr (by dsimp only; omega) ?_
  subst hp
  show ax_s3 (pc + ln) ls (.int a :: st) h x = _
  unfold ax_s3; simp only [hx, if_true]
theorem ay_o4 {a : Nat} (hr : ax_code k pc = some (4, ln, x, y, v)) (hp : pc + ln = pc') (hx : x < ls.length) : ax_fn k pc ls (.ref a :: st) h = ax_fn k pc' (ls.set x (some (.ref a))) st h := by
  refine ay_o hr (by dsimp only; omega) ?_
  subst hp
  show ax_s4 (pc + ln) ls (.ref a :: st) h x = _
  unfold ax_s4; simp only [hx, if_true]
theorem ay_o5 {a : Int32} (n : Nat) (hr : ax_code k pc = some (5, ln, x, y, (n : Int))) (hp : pc + ln = pc') (hx : ls[x]? = some (some (.int a))) : ax_fn k pc ls st h = ax_fn k pc' (ls.set x (some (.int (a + ay_i n)))) st h := by
  refine ay_o hr (by dsimp only; omega) ?_
  subst hp
  show ax_s5 _ _ _ _ _ _ = _
  unfold ax_s5; simp only [hx]; rfl
theorem ay_o6 {a b : Int32} (hr : ax_code k pc = some (6, ln, x, y, v)) (hp : pc + ln = pc') : ax_fn k pc ls (.int b :: .int a :: st) h = ax_fn k pc' ls (.int (ax_bin x a b) :: st) h := by
  refine ay_o hr (by dsimp only; omega) ?_
  subst hp; rfl
theorem ay_o7 {a : Int32} (hr : ax_code k pc = some (7, ln, x, y, v)) (hp : pc + ln = pc') : ax_fn k pc ls (.int a :: st) h = ax_fn k pc' ls (.long a.toInt64 :: st) h := by
  refine ay_o hr (by dsimp only; omega) ?_
  subst hp; rfl
theorem ay_o8 {a b : Int64} (hr : ax_code k pc = some (8, ln, x, y, v)) (hp : pc + ln = pc') : ax_fn k pc ls (.long b :: .long a :: st) h = ax_fn k pc' ls (.int (lg_cmp a b) :: st) h := by
  refine ay_o hr (by dsimp only; omega) ?_
  subst hp; rfl
theorem ay_o9 (hr : ax_code k pc = some (9, ln, x, y, v)) (hp : pc + ln = pc') : ax_fn k pc ls st h = ax_fn k pc' ls (.long (Int64.ofNat x) :: st) h := by
  refine ay_o hr (by dsimp only; omega) ?_
  subst hp; rfl
theorem ay_o10i {a : Int32} (hr : ax_code k pc = some (10, ln, x, y, v)) (hp : pc + ln = pc') : ax_fn k pc ls (.int a :: st) h = ax_fn k pc' ls (.int a :: .int a :: st) h := by
  refine ay_o hr (by dsimp only; omega) ?_
  subst hp; rfl
theorem ay_o10r {a : Nat} (hr : ax_code k pc = some (10, ln, x, y, v)) (hp : pc + ln = pc') : ax_fn k pc ls (.ref a :: st) h = ax_fn k pc' ls (.ref a :: .ref a :: st) h := by
  refine ay_o hr (by dsimp only; omega) ?_
  subst hp; rfl
theorem ay_o11 {a : Int32} {b : Nat} (hr : ax_code k pc = some (11, ln, x, y, v)) (hp : pc + ln = pc') : ax_fn k pc ls (.int a :: .ref b :: st) h = ax_fn k pc' ls (.int a :: .ref b :: .int a :: .ref b :: st) h := by
  refine ay_o hr (by dsimp only; omega) ?_
  subst hp; rfl
theorem ay_o12 {a : Int32} (hr : ax_code k pc = some (12, ln, x, y, v)) (hp : pc + ln = pc') : ax_fn k pc ls (.int a :: st) h = ax_fn k (if ax_c1 x a = true then y else pc') ls st h := by
  refine ay_o hr (by dsimp only; omega) ?_
  subst hp; rfl
theorem ay_o13 {a b : Int32} (hr : ax_code k pc = some (13, ln, x, y, v)) (hp : pc + ln = pc') : ax_fn k pc ls (.int b :: .int a :: st) h = ax_fn k (if ax_c2 x a b = true then y else pc') ls st h := by
  refine ay_o hr (by dsimp only; omega) ?_
  subst hp; rfl
theorem ay_ja {c : Bool} {p : Prop} {d : Decidable p} {p1 p2 : Nat} (hc : (c = true) = p) : ax_fn k (if c = true then p1 else p2) ls st h = if p then ax_fn k p1 ls st h else ax_fn k p2 ls st h := by
  by_cases hp : p
  · rw [if_pos hp, if_pos (hc ▸ hp)]
  · rw [if_neg hp, if_neg (hc ▸ hp)]
theorem ay_jb {c : Bool} {p : Prop} {d : Decidable p} {p1 p2 : Nat} (hc : (c = true) = ¬ p) : ax_fn k (if c = true then p1 else p2) ls st h = if p then ax_fn k p2 ls st h else ax_fn k p1 ls st h := by
  by_cases hp : p
  · rw [if_pos hp, if_neg (by rw [hc]; exact fun h => h hp)]
  · rw [if_neg hp, if_pos (by rw [hc]; exact hp)]
theorem ay_o12_0 {a : Int32} (hr : ax_code k pc = some (12, ln, 0, y, v)) (hp : pc + ln = pc') : ax_fn k pc ls (.int a :: st) h = if a = ay_i 0 then ax_fn k y ls st h else ax_fn k pc' ls st h := by
  rw [ay_o12 hr hp]; exact ay_ja (by simp only [ax_c1, decide_eq_true_eq]; rfl)
theorem ay_o12_1 {a : Int32} (hr : ax_code k pc = some (12, ln, 1, y, v)) (hp : pc + ln = pc') : ax_fn k pc ls (.int a :: st) h = if a = ay_i 0 then ax_fn k pc' ls st h else ax_fn k y ls st h := by
  rw [ay_o12 hr hp]; exact ay_jb (by simp only [ax_c1, decide_eq_true_eq]; rfl)
theorem ay_o12_2 {a : Int32} (hr : ax_code k pc = some (12, ln, 2, y, v)) (hp : pc + ln = pc') : ax_fn k pc ls (.int a :: st) h = if a < ay_i 0 then ax_fn k y ls st h else ax_fn k pc' ls st h := by
  rw [ay_o12 hr hp]; exact ay_ja (by simp only [ax_c1, decide_eq_true_eq]; rfl)
theorem ay_o12_3 {a : Int32} (hr : ax_code k pc = some (12, ln, 3, y, v)) (hp : pc + ln = pc') : ax_fn k pc ls (.int a :: st) h = if a < ay_i 0 then ax_fn k pc' ls st h else ax_fn k y ls st h := by
  rw [ay_o12 hr hp]; exact ay_jb (by simp only [ax_c1, decide_eq_true_eq, Int32.not_lt]; rfl)
theorem ay_o12_4 {a : Int32} (hr : ax_code k pc = some (12, ln, 4, y, v)) (hp : pc + ln = pc') : ax_fn k pc ls (.int a :: st) h = if ay_i 0 < a then ax_fn k y ls st h else ax_fn k pc' ls st h := by
  rw [ay_o12 hr hp]; exact ay_ja (by simp only [ax_c1, decide_eq_true_eq]; rfl)
theorem ay_o12_5 {a : Int32} (hr : ax_code k pc = some (12, ln, 5, y, v)) (hp : pc + ln = pc') : ax_fn k pc ls (.int a :: st) h = if ay_i 0 < a then ax_fn k pc' ls st h else ax_fn k y ls st h := by
  rw [ay_o12 hr hp]; exact ay_jb (by simp only [ax_c1, decide_eq_true_eq, Int32.not_lt]; rfl)
theorem ay_o13_0 {a b : Int32} (hr : ax_code k pc = some (13, ln, 0, y, v)) (hp : pc + ln = pc') : ax_fn k pc ls (.int b :: .int a :: st) h = if a = b then ax_fn k y ls st h else ax_fn k pc' ls st h := by
  rw [ay_o13 hr hp]; exact ay_ja (by simp only [ax_c2, decide_eq_true_eq])
theorem ay_o13_1 {a b : Int32} (hr : ax_code k pc = some (13, ln, 1, y, v)) (hp : pc + ln = pc') : ax_fn k pc ls (.int b :: .int a :: st) h = if a = b then ax_fn k pc' ls st h else ax_fn k y ls st h := by
  rw [ay_o13 hr hp]; exact ay_jb (by simp only [ax_c2, decide_eq_true_eq])
theorem ay_o13_2 {a b : Int32} (hr : ax_code k pc = some (13, ln, 2, y, v)) (hp : pc + ln = pc') : ax_fn k pc ls (.int b :: .int a :: st) h = if a < b then ax_fn k y ls st h else ax_fn k pc' ls st h := by
  rw [ay_o13 hr hp]; exact ay_ja (by simp only [ax_c2, decide_eq_true_eq])
theorem ay_o13_3 {a b : Int32} (hr : ax_code k pc = some (13, ln, 3, y, v)) (hp : pc + ln = pc') : ax_fn k pc ls (.int b :: .int a :: st) h = if a < b then ax_fn k pc' ls st h else ax_fn k y ls st h := by
  rw [ay_o13 hr hp]; exact ay_jb (by simp only [ax_c2, decide_eq_true_eq, Int32.not_lt])
theorem ay_o13_4 {a b : Int32} (hr : ax_code k pc = some (13, ln, 4, y, v)) (hp : pc + ln = pc') : ax_fn k pc ls (.int b :: .int a :: st) h = if b < a then ax_fn k y ls st h else ax_fn k pc' ls st h := by
  rw [ay_o13 hr hp]; exact ay_ja (by simp only [ax_c2, decide_eq_true_eq])
theorem ay_o13_5 {a b : Int32} (hr : ax_code k pc = some (13, ln, 5, y, v)) (hp : pc + ln = pc') : ax_fn k pc ls (.int b :: .int a :: st) h = if b < a then ax_fn k pc' ls st h else ax_fn k y ls st h := by
  rw [ay_o13 hr hp]; exact ay_jb (by simp only [ax_c2, decide_eq_true_eq, Int32.not_lt])
theorem ay_o14 (hr : ax_code k pc = some (14, ln, x, pc', v)) : ax_fn k pc ls st h = ax_fn k pc' ls st h := by
  refine ay_o hr (by dsimp only; omega) ?_
  rfl
theorem ay_o33 {a : Int32} (hr : ax_code k pc = some (33, ln, x, y, v)) : ax_fn k pc ls (.int a :: st) h = ax_fn k (if a.toInt < (ax_sw x).1 then (ax_sw x).2.2 else ((ax_sw x).2.1[(a.toInt - (ax_sw x).1).toNat]?).getD (ax_sw x).2.2) ls st h := by
  refine ay_o hr (by dsimp only; omega) ?_
  rfl
theorem ay_o33i {n : Nat} (hn : n < 2147483648) (hr : ax_code k pc = some (33, ln, x, y, v)) {t : Nat} (ht : (if (n : Int) < (ax_sw x).1 then (ax_sw x).2.2 else ((ax_sw x).2.1[((n : Int) - (ax_sw x).1).toNat]?).getD (ax_sw x).2.2) = t) : ax_fn k pc ls (.int (ay_i n) :: st) h = ax_fn k t ls st h := by
  rw [ay_o33 hr, ay_i_toInt hn, ht]
end AxO
section AxOh
variable {k pc pc' ln x y : Nat} {v : Int} {ls : ax_L} {st : List Value} {X : Nat × (Nat → Int32)} {e gb : Nat} {M : ax_M} {o : Int64} {f i n nd : Nat}
theorem ay_o15i {op kk : Nat} (hop : op = 15 ∨ op = 16) (hr : ax_code k pc = some (op, ln, x, y, v)) (hp : pc + ln = pc') (hk : ax_kd f = (x + 1, kk)) (hc : ax_ct f = n) (hq : x < 9 ∧ y < ax_nf x ∧ ax_ft x y ≠ 2) (hi : i < n) : ax_fn k pc ls (.ref (ax_a f i) :: st) (ax_hp X e gb M o) = ax_fn k pc' ls (.int (M f i y) :: st) (ax_hp X e gb M o) := by
  have hi : i < ax_ct f := by rw [hc]; exact hi
  have hs : ax_s15 (pc + ln) ls (.ref (ax_a f i) :: st) (ax_hp X e gb M o) x y = some (pc', ls, .int (M f i y) :: st, ax_hp X e gb M o) := by
    subst hp
    unfold ax_s15 ax_fv
    simp only [ax_hp_lt hi, ax_hp_s hi, hk, hq.1, hq.2.1, hq.2.2, ax_hp_i hi, and_self, if_true, if_false, Option.map_some]
  refine ay_o hr (by rcases hop with rfl | rfl <;> (dsimp only; omega)) ?_
  rcases hop with rfl | rfl <;> exact hs
theorem ay_o15r {op kk a : Nat} (hop : op = 15 ∨ op = 16) (hr : ax_code k pc = some (op, ln, x, y, v)) (hp : pc + ln = pc') (hk : ax_kd f = (x + 1, kk)) (hc : ax_ct f = n) (hq : x < 9 ∧ y < ax_nf x ∧ ax_ft x y = 2) (ha : ax_rf gb f i y = some a) (hi : i < n) : ax_fn k pc ls (.ref (ax_a f i) :: st) (ax_hp X e gb M o) = ax_fn k pc' ls (.ref a :: st) (ax_hp X e gb M o) := by
  have hi : i < ax_ct f := by rw [hc]; exact hi
  have hs : ax_s15 (pc + ln) ls (.ref (ax_a f i) :: st) (ax_hp X e gb M o) x y = some (pc', ls, .ref a :: st, ax_hp X e gb M o) := by
    subst hp
    unfold ax_s15 ax_fv
    simp only [ax_hp_lt hi, ax_hp_s hi, hk, hq.1, hq.2.1, hq.2.2, ax_hp_r hi, ha, and_self, if_true, Option.map_some]
  refine ay_o hr (by rcases hop with rfl | rfl <;> (dsimp only; omega)) ?_
  rcases hop with rfl | rfl <;> exact hs
theorem ay_o17i {kk : Nat} {w : Int32} (hr : ax_code k pc = some (17, ln, x, y, v)) (hp : pc + ln = pc') (hk : ax_kd f = (x + 1, kk)) (hc : ax_ct f = n) (hq : x < 9 ∧ y < ax_nf x ∧ ax_ft x y = 0) (hi : i < n) : ax_fn k pc ls (.int w :: .ref (ax_a f i) :: st) (ax_hp X e gb M o) = ax_fn k pc' ls st (ax_hp X e gb (ax_u3 M f i y w) o) := by
  have hi : i < ax_ct f := by rw [hc]; exact hi
  refine ay_o hr (by dsimp only; omega) ?_
  subst hp
  show ax_s17 (pc + ln) ls (.int w :: .ref (ax_a f i) :: st) (ax_hp X e gb M o) x y = _
  unfold ax_s17
  simp only [ax_hp_lt hi, ax_hp_s hi, hk, hq.1, hq.2.1, hq.2.2, ax_hp_up hi, and_self, true_or, if_true]
theorem ay_o17b {kk : Nat} {w : Int32} (hr : ax_code k pc = some (17, ln, x, y, v)) (hp : pc + ln = pc') (hk : ax_kd f = (x + 1, kk)) (hc : ax_ct f = n) (hq : x < 9 ∧ y < ax_nf x ∧ ax_ft x y = 1) (hi : i < n) (hw : ay_z1 w) : ax_fn k pc ls (.int w :: .ref (ax_a f i) :: st) (ax_hp X e gb M o) = ax_fn k pc' ls st (ax_hp X e gb (ax_u3 M f i y w) o) := by
  have hi : i < ax_ct f := by rw [hc]; exact hi
  have hw : w = 0 ∨ w = 1 := hw
  refine ay_o hr (by dsimp only; omega) ?_
  subst hp
  show ax_s17 (pc + ln) ls (.int w :: .ref (ax_a f i) :: st) (ax_hp X e gb M o) x y = _
  unfold ax_s17
  simp only [ax_hp_lt hi, ax_hp_s hi, hk, hq.1, hq.2.1, hq.2.2, ax_hp_up hi, hw, and_self, or_true, if_true]
theorem ay_o17g {b : Nat} (hr : ax_code k pc = some (17, ln, 3, 5, v)) (hp : pc + ln = pc') : ax_fn k pc ls (.ref (ax_a 3 b) :: .ref (ax_a 9 0) :: st) (ax_hp X e gb M o) = ax_fn k pc' ls st (ax_hp X e b M o) := by
  have hi : 0 < ax_ct 9 := by decide
  refine ay_o hr (by dsimp only; omega) ?_
  subst hp
  show ax_s17 (pc + ln) ls (.ref (ax_a 3 b) :: .ref (ax_a 9 0) :: st) (ax_hp X e gb M o) 3 5 = _
  unfold ax_s17
  simp only [ax_hp_gb]
  rw [if_pos ⟨ax_hp_lt hi, by rw [ax_hp_s hi, ay_k9], by decide, by decide, by decide⟩]
theorem ay_o19 {op kd m j : Nat} (hop : (op = 19 ∧ kd = 20) ∨ (op = 21 ∧ kd = 21)) (hr : ax_code k pc = some (op, ln, x, y, v)) (hp : pc + ln = pc') (hk : ax_kd f = (kd, m)) (hc : ax_ct f = n) (hm : m ≤ 480) (hi : i < n) (hj : j < m) : ax_fn k pc ls (.int (ay_i j) :: .ref (ax_a f i) :: st) (ax_hp X e gb M o) = ax_fn k pc' ls (.int (M f i j) :: st) (ax_hp X e gb M o) := by
  have hi : i < ax_ct f := by rw [hc]; exact hi
  have hj' : j < 2147483648 := by omega
  have hs : ax_s19 kd (pc + ln) ls (.int (ay_i j) :: .ref (ax_a f i) :: st) (ax_hp X e gb M o) = some (pc', ls, .int (M f i j) :: st, ax_hp X e gb M o) := by
    subst hp
    unfold ax_s19
    simp only [ax_hp_lt hi, ax_hp_s hi, hk, ay_i_out hj' hj, ay_i_ct hj', ax_hp_i hi, and_self, if_true]
  refine ay_o hr (by rcases hop with ⟨rfl, -⟩ | ⟨rfl, -⟩ <;> (dsimp only; omega)) ?_
  rcases hop with ⟨rfl, rfl⟩ | ⟨rfl, rfl⟩ <;> exact hs
theorem ay_o20 {m j : Nat} {w : Int32} (hr : ax_code k pc = some (20, ln, x, y, v)) (hp : pc + ln = pc') (hk : ax_kd f = (20, m)) (hc : ax_ct f = n) (hm : m ≤ 480) (hi : i < n) (hj : j < m) : ax_fn k pc ls (.int w :: .int (ay_i j) :: .ref (ax_a f i) :: st) (ax_hp X e gb M o) = ax_fn k pc' ls st (ax_hp X e gb (ax_u3 M f i j w) o) := by
  have hi : i < ax_ct f := by rw [hc]; exact hi
  have hj' : j < 2147483648 := by omega
  refine ay_o hr (by dsimp only; omega) ?_
  subst hp
  show ax_s20 20 (pc + ln) ls (.int w :: .int (ay_i j) :: .ref (ax_a f i) :: st) (ax_hp X e gb M o) = _
  unfold ax_s20
  simp only [ax_hp_lt hi, ax_hp_s hi, hk, ay_i_out hj' hj, ay_i_ct hj', ax_hp_up hi, and_self, true_or, if_true]
theorem ay_o22 {m j : Nat} {w : Int32} (hr : ax_code k pc = some (22, ln, x, y, v)) (hp : pc + ln = pc') (hk : ax_kd f = (21, m)) (hc : ax_ct f = n) (hm : m ≤ 480) (hi : i < n) (hj : j < m) (hw : ay_z1 w) : ax_fn k pc ls (.int w :: .int (ay_i j) :: .ref (ax_a f i) :: st) (ax_hp X e gb M o) = ax_fn k pc' ls st (ax_hp X e gb (ax_u3 M f i j w) o) := by
  have hi : i < ax_ct f := by rw [hc]; exact hi
  have hw : w = 0 ∨ w = 1 := hw
  have hj' : j < 2147483648 := by omega
  refine ay_o hr (by dsimp only; omega) ?_
  subst hp
  show ax_s20 21 (pc + ln) ls (.int w :: .int (ay_i j) :: .ref (ax_a f i) :: st) (ax_hp X e gb M o) = _
  unfold ax_s20
  simp only [ax_hp_lt hi, ax_hp_s hi, hk, ay_i_out hj' hj, ay_i_ct hj', ax_hp_up hi, hw, and_self, or_true, if_true]
theorem ay_o23 (hr : ax_code k pc = some (23, ln, x, y, v)) (hp : pc + ln = pc') : ax_fn k pc ls (.int (ay_i 0) :: .ref (ax_a 68 0) :: st) (ax_hp X e gb M o) = ax_fn k pc' ls (.long o :: st) (ax_hp X e gb M o) := by
  have hi : 0 < ax_ct 68 := by decide
  refine ay_o hr (by dsimp only; omega) ?_
  subst hp
  show ax_s23 (pc + ln) ls (.int (ay_i 0) :: .ref (ax_a 68 0) :: st) (ax_hp X e gb M o) = _
  unfold ax_s23
  simp only [ax_hp_lt hi, ax_hp_s hi, ay_k68, ay_i_out (a := 0) (n := 1) (by omega) (by omega), ay_i_ct (a := 0) (by omega), and_self, if_true]
  rfl
theorem ay_o24 {w : Int64} (hr : ax_code k pc = some (24, ln, x, y, v)) (hp : pc + ln = pc') : ax_fn k pc ls (.long w :: .int (ay_i 0) :: .ref (ax_a 68 0) :: st) (ax_hp X e gb M o) = ax_fn k pc' ls st (ax_hp X e gb M w) := by
  have hi : 0 < ax_ct 68 := by decide
  refine ay_o hr (by dsimp only; omega) ?_
  subst hp
  show ax_s24 (pc + ln) ls (.long w :: .int (ay_i 0) :: .ref (ax_a 68 0) :: st) (ax_hp X e gb M o) = _
  unfold ax_s24
  simp only [ax_hp_lt hi, ax_hp_s hi, ay_k68, ay_i_out (a := 0) (n := 1) (by omega) (by omega), ay_i_ct (a := 0) (by omega), and_self, if_true, ax_hp_o]
theorem ay_o25 {kd m j a : Nat} (hr : ax_code k pc = some (25, ln, x, y, v)) (hp : pc + ln = pc') (hk : ax_kd f = (kd, m)) (hra : ax_ra kd = true) (hc : ax_ct f = n) (hm : m ≤ 480) (ha : j < m → ax_rf gb f i j = some a) (hi : i < n) (hj : j < m) : ax_fn k pc ls (.int (ay_i j) :: .ref (ax_a f i) :: st) (ax_hp X e gb M o) = ax_fn k pc' ls (.ref a :: st) (ax_hp X e gb M o) := by
  have hi : i < ax_ct f := by rw [hc]; exact hi
  have hj' : j < 2147483648 := by omega
  refine ay_o hr (by dsimp only; omega) ?_
  subst hp
  show ax_s25 (pc + ln) ls (.int (ay_i j) :: .ref (ax_a f i) :: st) (ax_hp X e gb M o) = _
  unfold ax_s25
  simp only [ax_hp_lt hi, ax_hp_s hi, hk, hra, ay_i_out hj' hj, ay_i_ct hj', ax_hp_r hi, ha hj, and_self, if_true, Option.map_some]
theorem ay_o27 {m : Nat} (hr : ax_code k pc = some (27, ln, x, y, v)) (hp : pc + ln = pc') (hk : ax_kd f = (20, m)) (hi : i < ax_ct f) : ax_fn k pc ls (.ref (ax_a f i) :: st) (ax_hp X e gb M o) = ax_fn k pc' ls (.int (ay_i m) :: st) (ax_hp X e gb M o) := by
  refine ay_o hr (by dsimp only; omega) ?_
  subst hp
  show ax_s27 k (pc + ln) ls (.ref (ax_a f i) :: st) (ax_hp X e gb M o) = _
  unfold ax_s27
  simp only [ax_hp_lt hi, ax_hp_s hi, hk, and_self, true_or, if_true]
  rfl
theorem ay_o27s (hr : ax_code 0 pc = some (27, ln, x, y, v)) (hp : pc + ln = pc') : ax_fn 0 pc ls (.ref 1000000000 :: st) (ax_hp X e gb M o) = ax_fn 0 pc' ls (.int (ay_i X.1) :: st) (ax_hp X e gb M o) := by
  refine ay_o hr (by dsimp only; omega) ?_
  subst hp
  show ax_s27 0 (pc + ln) ls (.ref 1000000000 :: st) (ax_hp X e gb M o) = _
  unfold ax_s27
  simp only [and_self, or_true, if_true]
  rfl
theorem ay_o34 {j : Nat} (hr : ax_code 0 pc = some (34, ln, x, y, v)) (hp : pc + ln = pc') (hX : X.1 ≤ 3072) (hj : j < X.1) : ax_fn 0 pc ls (.int (ay_i j) :: .ref 1000000000 :: st) (ax_hp X e gb M o) = ax_fn 0 pc' ls (.int (X.2 j) :: st) (ax_hp X e gb M o) := by
  have hj' : j < 2147483648 := by omega
  have hsh : (ax_hp X e gb M o).2.1 1000000000 = (99, X.1) := rfl
  refine ay_o hr (by dsimp only; omega) ?_
  subst hp
  show ax_s19s 0 (pc + ln) ls (.int (ay_i j) :: .ref 1000000000 :: st) (ax_hp X e gb M o) = _
  unfold ax_s19s
  simp only [hsh, ay_i_out hj' hj, ay_i_ct hj', and_self, if_true]
  rfl
theorem ay_o32 {f' i' n' : Nat} (hr : ax_code k pc = some (32, ln, x, y, v)) (hp : pc + ln = pc') (hk : ax_kd f = (20, 8)) (hk' : ax_kd f' = (20, 8)) (hc : ax_ct f = n) (hc' : ax_ct f' = n') (hi : i < n) (hi' : i' < n') (hne : ¬ (f = f' ∧ i = i')) : ax_fn k pc ls [.int (ay_i 8), .int (ay_i 0), .ref (ax_a f' i'), .int (ay_i 0), .ref (ax_a f i)] (ax_hp X e gb M o) = ax_fn k pc' ls [] (ax_hp X e gb (ax_r3 M f' i' (fun j => if j < 8 then M f i j else M f' i' j)) o) := by
  have hi : i < ax_ct f := by rw [hc]; exact hi
  have hi' : i' < ax_ct f' := by rw [hc']; exact hi'
  have hna : ax_a f i ≠ ax_a f' i' := by
    intro hh
    obtain ⟨-, h1, h2⟩ := ax_dc hi
    obtain ⟨-, h3, h4⟩ := ax_dc hi'
    rw [hh] at h1 h2
    exact hne ⟨h1.symm.trans h3, h2.symm.trans h4⟩
  refine ay_o hr (by dsimp only; omega) ?_
  subst hp
  show ax_s32 (pc + ln) ls [.int (ay_i 8), .int (ay_i 0), .ref (ax_a f' i'), .int (ay_i 0), .ref (ax_a f i)] (ax_hp X e gb M o) = _
  unfold ax_s32
  have h8 : ay_i 8 = 8 := rfl
  have h0 : ay_i 0 = 0 := rfl
  simp only [ax_hp_lt hi, ax_hp_lt hi', ax_hp_s hi, ax_hp_s hi', hk, hk', h8, h0, hna, ne_eq, not_false_eq_true, and_self, if_true, ax_hp_i hi, ax_hp_i hi', ax_hp_rw hi']
end AxOh
/-! calls and ends -/
noncomputable def ay_cl (r : Option (ax_O × ax_H)) (k pc pc' : Nat) (ls : ax_L) (st : List Value) : Option (ax_O × ax_H) := match r with
  | some (.inl w, h1) => ax_fn k pc' ls (w.toList ++ st) h1
  | some (.inr q, h1) => (match ax_hn (ax_hd k) pc q.2 with
    | some t => ax_fn k t ls [.ref q.1] h1
    | none => if ax_hx k = [] then some (.inr q, h1) else none)
  | none => none
section AxC
variable {k pc pc' ln x y : Nat} {v : Int} {ls : ax_L} {st : List Value} {h h1 : ax_H} {X : Nat × (Nat → Int32)} {e gb : Nat} {M : ax_M} {o : Int64}
theorem ay_cl_v : ay_cl (some (.inl none, h1)) k pc pc' ls st = ax_fn k pc' ls st h1 := rfl
theorem ay_cl_s {w : Value} : ay_cl (some (.inl (some w), h1)) k pc pc' ls st = ax_fn k pc' ls (w :: st) h1 := rfl
theorem ay_cl_x {q : Nat × Nat} (h2 : ax_hd k = []) (h3 : ax_hx k = []) : ay_cl (some (.inr q, h1)) k pc pc' ls st = some (.inr q, h1) := by
  show (match ax_hn (ax_hd k) pc q.2 with | some t => ax_fn k t ls [.ref q.1] h1 | none => if ax_hx k = [] then some (.inr q, h1) else none) = _
  rw [h2, h3]; rfl
theorem ay_cl_h {a j t : Nat} (h2 : ax_hn (ax_hd k) pc j = some t) : ay_cl (some (.inr (a, j), h1)) k pc pc' ls st = ax_fn k t ls [.ref a] h1 := by
  show (match ax_hn (ax_hd k) pc j with | some t => ax_fn k t ls [.ref a] h1 | none => if ax_hx k = [] then some (.inr (a, j), h1) else none) = _
  rw [h2]
theorem ay_call {op : Nat} {as : List Value} {st0 : List Value} (hr : ax_code k pc = some (op, ln, x, y, v)) (hp : pc + 3 = pc') (hop : 40 ≤ op ∧ op < 50) (hy : y = as.length) (hst : st0 = as.reverse ++ st) (hca : ax_ca op x as st h = true) : ax_fn k pc ls st0 h = ay_cl (ax_fn x 0 (ax_entry x as) [] h) k pc pc' ls st := by
  rw [ax_fn_row hr]
  unfold ax_un
  have ht : (st0.take y).reverse = as := by
    rw [hst, hy, List.take_append_of_le_length (by simp), ← List.length_reverse, List.take_length, List.reverse_reverse]
  have hd : st0.drop y = st := by
    rw [hst, hy, ← List.length_reverse, List.drop_left]
  simp only [show ¬ op < 40 by omega, show op < 50 from hop.2, if_false, if_true, ht, hd, hca, and_true]
  rw [if_pos (by rw [hst, hy]; simp)]
  subst hp
  rfl
theorem ay_ca40 {op x : Nat} {as rest : List Value} (ho : op < 42) (h1 : as.all (fun v => v.category == 1) = true) (h2 : (rest.map fun v => v.category).sum ≤ 8) : ax_ca op x as rest h = true := by
  unfold ax_ca
  simp only [ho, if_true, Bool.and_true, decide_eq_true_eq]
  exact ⟨h1, h2⟩
theorem ay_ca43 {op x a : Nat} {as rest : List Value} (ho : 42 < op) (h1 : as.all (fun v => v.category == 1) = true) (h2 : (rest.map fun v => v.category).sum ≤ 8) : ax_ca op x (.ref a :: as) rest h = true := by
  unfold ax_ca
  simp only [show ¬ op < 42 by omega, if_false, Bool.and_eq_true, decide_eq_true_eq]
  exact ⟨⟨h1, h2⟩, .inl (by omega)⟩
theorem ay_ca42 {x f i n kk : Nat} {as rest : List Value} (hk : ax_kd f = (ax_wn x + 1, kk)) (hq : ax_wn x < 9 ∧ ax_nm x ≠ "<init>") (hc : ax_ct f = n) (h1 : as.all (fun v => v.category == 1) = true) (h2 : (rest.map fun v => v.category).sum ≤ 8) (hi : i < n) : ax_ca 42 x (.ref (ax_a f i) :: as) rest (ax_hp X e gb M o) = true := by
  have hi : i < ax_ct f := by rw [hc]; exact hi
  unfold ax_ca
  simp only [Nat.lt_irrefl, if_false, Bool.and_eq_true, decide_eq_true_eq]
  exact ⟨⟨h1, h2⟩, .inr ⟨ax_hp_lt hi, by rw [ax_hp_s hi, hk], hq.1, hq.2⟩⟩
theorem ay_end50 {a : Int32} (hr : ax_code k pc = some (50, ln, x, y, v)) (hq : ax_rt k = some .int) : ax_fn k pc ls [.int a] h = some (.inl (some (.int a)), h) := by
  rw [ax_fn_row hr]
  show ax_e50 k [.int a] h = _
  unfold ax_e50
  simp only [hq, true_or, if_true]
theorem ay_end50b {a : Int32} (hr : ax_code k pc = some (50, ln, x, y, v)) (ha : ay_z1 a) : ax_fn k pc ls [.int a] h = some (.inl (some (.int a)), h) := by
  have ha : a = 0 ∨ a = 1 := ha
  rw [ax_fn_row hr]
  show ax_e50 k [.int a] h = _
  unfold ax_e50
  simp only [ha, or_true, if_true]
theorem ay_end51 (hr : ax_code k pc = some (51, ln, x, y, v)) : ax_fn k pc ls [] h = some (.inl none, h) := by
  rw [ax_fn_row hr]; rfl
theorem ay_end52 {a : Nat} (hr : ax_code k pc = some (52, ln, x, y, v)) : ax_fn k pc ls [.ref a] h = some (.inl (some (.ref a)), h) := by
  rw [ax_fn_row hr]; rfl
theorem ay_end53 (hr : ax_code k pc = some (53, ln, x, y, v)) (he : e < 800000) : ax_fn k pc ls [] (ax_hp X e gb M o) = some (.inr (389 + e, x), ax_hp X (e + 1) gb M o) := by
  rw [ax_fn_row hr]
  show ax_e53 x [] (ax_hp X e gb M o) = _
  unfold ax_e53
  simp only
  rw [if_pos (by rw [ax_hp_c]; omega), ax_hp_x (by omega)]
  rfl
end AxC
end
