section
-- ===== PART A: goes FIRST, ahead of the names: the tables' words, and 'selects' of the private methods out of them =====
/-- a private method of a class that the tables say can be made, by its rows of tables_1 -/
def lw_okq (q : MethodName × Nat) : Prop := (q.1.cls ≠ "java/lang/invoke/MethodHandle" ∧ q.1.cls ≠ "java/lang/invoke/VarHandle") ∧ Cond.instantiable q.1.cls q.2 ∈ tables_1 ∧ Cond.privateMethod q.1 ∈ tables_1 ∧ Cond.instanceMethod q.1 ∈ tables_1
theorem lw_p0 : lw_okq (⟨"java/lang/Throwable", "fillInStackTrace", "(I)Ljava/lang/Throwable;"⟩, 6) := ⟨⟨by decide +kernel, by decide +kernel⟩, List.mem_of_getElem? (i := 304) (by decide +kernel), List.mem_of_getElem? (i := 302) (by decide +kernel), List.mem_of_getElem? (i := 303) (by decide +kernel)⟩
theorem lw_p1 : lw_okq (⟨"MakerGuard", "forgetOldAnswers", "()V"⟩, 3) := ⟨⟨by decide +kernel, by decide +kernel⟩, List.mem_of_getElem? (i := 20) (by decide +kernel), List.mem_of_getElem? (i := 342) (by decide +kernel), List.mem_of_getElem? (i := 343) (by decide +kernel)⟩
theorem lw_p2 : lw_okq (⟨"MakerGuard$Guard", "watch", "(I)V"⟩, 6) := ⟨⟨by decide +kernel, by decide +kernel⟩, List.mem_of_getElem? (i := 117) (by decide +kernel), List.mem_of_getElem? (i := 455) (by decide +kernel), List.mem_of_getElem? (i := 456) (by decide +kernel)⟩
theorem lw_p3 : lw_okq (⟨"MakerGuard$Guard", "prepare", "(I)V"⟩, 6) := ⟨⟨by decide +kernel, by decide +kernel⟩, List.mem_of_getElem? (i := 117) (by decide +kernel), List.mem_of_getElem? (i := 459) (by decide +kernel), List.mem_of_getElem? (i := 460) (by decide +kernel)⟩
theorem lw_p4 : lw_okq (⟨"MakerGuard$Guard", "goTo", "(I)Z"⟩, 6) := ⟨⟨by decide +kernel, by decide +kernel⟩, List.mem_of_getElem? (i := 117) (by decide +kernel), List.mem_of_getElem? (i := 480) (by decide +kernel), List.mem_of_getElem? (i := 481) (by decide +kernel)⟩
theorem lw_p5 : lw_okq (⟨"MakerGuard$Sight", "meetLocal", "(ILMakerGuard$Sight;)V"⟩, 6) := ⟨⟨by decide +kernel, by decide +kernel⟩, List.mem_of_getElem? (i := 124) (by decide +kernel), List.mem_of_getElem? (i := 500) (by decide +kernel), List.mem_of_getElem? (i := 501) (by decide +kernel)⟩
theorem lw_p6 : lw_okq (⟨"MakerGuard$Guard", "pass", "(I)Z"⟩, 6) := ⟨⟨by decide +kernel, by decide +kernel⟩, List.mem_of_getElem? (i := 117) (by decide +kernel), List.mem_of_getElem? (i := 511) (by decide +kernel), List.mem_of_getElem? (i := 512) (by decide +kernel)⟩
theorem lw_p7 : lw_okq (⟨"MakerGuard$Guard", "isSelf", "(I)Z"⟩, 6) := ⟨⟨by decide +kernel, by decide +kernel⟩, List.mem_of_getElem? (i := 117) (by decide +kernel), List.mem_of_getElem? (i := 516) (by decide +kernel), List.mem_of_getElem? (i := 517) (by decide +kernel)⟩
theorem lw_p8 : lw_okq (⟨"MakerGuard$Guard", "copy", "(II)Z"⟩, 6) := ⟨⟨by decide +kernel, by decide +kernel⟩, List.mem_of_getElem? (i := 117) (by decide +kernel), List.mem_of_getElem? (i := 520) (by decide +kernel), List.mem_of_getElem? (i := 521) (by decide +kernel)⟩
theorem lw_p9 : lw_okq (⟨"MakerGuard$Guard", "make", "(III)Z"⟩, 6) := ⟨⟨by decide +kernel, by decide +kernel⟩, List.mem_of_getElem? (i := 117) (by decide +kernel), List.mem_of_getElem? (i := 525) (by decide +kernel), List.mem_of_getElem? (i := 526) (by decide +kernel)⟩
theorem lw_p10 : lw_okq (⟨"MakerGuard$Guard", "parametersFit", "(LMakerGuard$Body;I)Z"⟩, 6) := ⟨⟨by decide +kernel, by decide +kernel⟩, List.mem_of_getElem? (i := 117) (by decide +kernel), List.mem_of_getElem? (i := 529) (by decide +kernel), List.mem_of_getElem? (i := 530) (by decide +kernel)⟩
theorem lw_p11 : lw_okq (⟨"MakerGuard$Guard", "stageOfNew", "(II)I"⟩, 6) := ⟨⟨by decide +kernel, by decide +kernel⟩, List.mem_of_getElem? (i := 117) (by decide +kernel), List.mem_of_getElem? (i := 541) (by decide +kernel), List.mem_of_getElem? (i := 542) (by decide +kernel)⟩
theorem lw_p12 : lw_okq (⟨"MakerGuard$Guard", "fetch", "(III)Z"⟩, 6) := ⟨⟨by decide +kernel, by decide +kernel⟩, List.mem_of_getElem? (i := 117) (by decide +kernel), List.mem_of_getElem? (i := 549) (by decide +kernel), List.mem_of_getElem? (i := 550) (by decide +kernel)⟩
theorem lw_p13 : lw_okq (⟨"MakerGuard$Guard", "store", "(III)Z"⟩, 6) := ⟨⟨by decide +kernel, by decide +kernel⟩, List.mem_of_getElem? (i := 117) (by decide +kernel), List.mem_of_getElem? (i := 558) (by decide +kernel), List.mem_of_getElem? (i := 559) (by decide +kernel)⟩
theorem lw_p14 : lw_okq (⟨"MakerGuard$Guard", "fork", "(III)Z"⟩, 6) := ⟨⟨by decide +kernel, by decide +kernel⟩, List.mem_of_getElem? (i := 117) (by decide +kernel), List.mem_of_getElem? (i := 563) (by decide +kernel), List.mem_of_getElem? (i := 564) (by decide +kernel)⟩
theorem lw_p15 : lw_okq (⟨"MakerGuard$Guard", "call", "(III)Z"⟩, 6) := ⟨⟨by decide +kernel, by decide +kernel⟩, List.mem_of_getElem? (i := 117) (by decide +kernel), List.mem_of_getElem? (i := 567) (by decide +kernel), List.mem_of_getElem? (i := 568) (by decide +kernel)⟩
def lw_privs_1 : List (MethodName × Nat) := [(⟨"java/lang/Throwable", "fillInStackTrace", "(I)Ljava/lang/Throwable;"⟩, 6), (⟨"MakerGuard", "forgetOldAnswers", "()V"⟩, 3), (⟨"MakerGuard$Guard", "watch", "(I)V"⟩, 6), (⟨"MakerGuard$Guard", "prepare", "(I)V"⟩, 6), (⟨"MakerGuard$Guard", "goTo", "(I)Z"⟩, 6), (⟨"MakerGuard$Sight", "meetLocal", "(ILMakerGuard$Sight;)V"⟩, 6), (⟨"MakerGuard$Guard", "pass", "(I)Z"⟩, 6), (⟨"MakerGuard$Guard", "isSelf", "(I)Z"⟩, 6), (⟨"MakerGuard$Guard", "copy", "(II)Z"⟩, 6), (⟨"MakerGuard$Guard", "make", "(III)Z"⟩, 6), (⟨"MakerGuard$Guard", "parametersFit", "(LMakerGuard$Body;I)Z"⟩, 6), (⟨"MakerGuard$Guard", "stageOfNew", "(II)I"⟩, 6), (⟨"MakerGuard$Guard", "fetch", "(III)Z"⟩, 6), (⟨"MakerGuard$Guard", "store", "(III)Z"⟩, 6), (⟨"MakerGuard$Guard", "fork", "(III)Z"⟩, 6), (⟨"MakerGuard$Guard", "call", "(III)Z"⟩, 6)]
theorem lw_r1 : ∀ q ∈ lw_privs_1, lw_okq q := List.forall_mem_cons.mpr ⟨lw_p0, List.forall_mem_cons.mpr ⟨lw_p1, List.forall_mem_cons.mpr ⟨lw_p2, List.forall_mem_cons.mpr ⟨lw_p3, List.forall_mem_cons.mpr ⟨lw_p4, List.forall_mem_cons.mpr ⟨lw_p5, List.forall_mem_cons.mpr ⟨lw_p6, List.forall_mem_cons.mpr ⟨lw_p7, List.forall_mem_cons.mpr ⟨lw_p8, List.forall_mem_cons.mpr ⟨lw_p9, List.forall_mem_cons.mpr ⟨lw_p10, List.forall_mem_cons.mpr ⟨lw_p11, List.forall_mem_cons.mpr ⟨lw_p12, List.forall_mem_cons.mpr ⟨lw_p13, List.forall_mem_cons.mpr ⟨lw_p14, List.forall_mem_cons.mpr ⟨lw_p15, fun _ h => absurd h List.not_mem_nil⟩⟩⟩⟩⟩⟩⟩⟩⟩⟩⟩⟩⟩⟩⟩⟩
theorem lw_p16 : lw_okq (⟨"MakerGuard$Guard", "mayReturn", "(I)Z"⟩, 6) := ⟨⟨by decide +kernel, by decide +kernel⟩, List.mem_of_getElem? (i := 117) (by decide +kernel), List.mem_of_getElem? (i := 572) (by decide +kernel), List.mem_of_getElem? (i := 573) (by decide +kernel)⟩
theorem lw_p17 : lw_okq (⟨"MakerGuard$Machine", "attempt", "()I"⟩, 10) := ⟨⟨by decide +kernel, by decide +kernel⟩, List.mem_of_getElem? (i := 175) (by decide +kernel), List.mem_of_getElem? (i := 627) (by decide +kernel), List.mem_of_getElem? (i := 628) (by decide +kernel)⟩
theorem lw_p18 : lw_okq (⟨"MakerGuard$Machine", "make", "(LMakerGuard$Frame;II)I"⟩, 10) := ⟨⟨by decide +kernel, by decide +kernel⟩, List.mem_of_getElem? (i := 175) (by decide +kernel), List.mem_of_getElem? (i := 637) (by decide +kernel), List.mem_of_getElem? (i := 638) (by decide +kernel)⟩
theorem lw_p19 : lw_okq (⟨"MakerGuard$Machine", "call", "(LMakerGuard$Frame;II)I"⟩, 10) := ⟨⟨by decide +kernel, by decide +kernel⟩, List.mem_of_getElem? (i := 175) (by decide +kernel), List.mem_of_getElem? (i := 641) (by decide +kernel), List.mem_of_getElem? (i := 642) (by decide +kernel)⟩
theorem lw_p20 : lw_okq (⟨"MakerGuard$Machine", "leave", "(LMakerGuard$Frame;I)V"⟩, 10) := ⟨⟨by decide +kernel, by decide +kernel⟩, List.mem_of_getElem? (i := 175) (by decide +kernel), List.mem_of_getElem? (i := 645) (by decide +kernel), List.mem_of_getElem? (i := 646) (by decide +kernel)⟩
theorem lw_p21 : lw_okq (⟨"MakerGuard$Machine", "move", "(LMakerGuard$Frame;LMakerGuard$Body;I)I"⟩, 10) := ⟨⟨by decide +kernel, by decide +kernel⟩, List.mem_of_getElem? (i := 175) (by decide +kernel), List.mem_of_getElem? (i := 650) (by decide +kernel), List.mem_of_getElem? (i := 651) (by decide +kernel)⟩
theorem lw_p22 : lw_okq (⟨"MakerGuardModel", "goes", "(ZZZ)Z"⟩, 38) := ⟨⟨by decide +kernel, by decide +kernel⟩, List.mem_of_getElem? (i := 687) (by decide +kernel), List.mem_of_getElem? (i := 823) (by decide +kernel), List.mem_of_getElem? (i := 824) (by decide +kernel)⟩
theorem lw_p23 : lw_okq (⟨"MakerGuardModel", "judge", "(I)Z"⟩, 38) := ⟨⟨by decide +kernel, by decide +kernel⟩, List.mem_of_getElem? (i := 687) (by decide +kernel), List.mem_of_getElem? (i := 859) (by decide +kernel), List.mem_of_getElem? (i := 860) (by decide +kernel)⟩
theorem lw_p24 : lw_okq (⟨"MakerGuardModel", "come", "(II)V"⟩, 38) := ⟨⟨by decide +kernel, by decide +kernel⟩, List.mem_of_getElem? (i := 687) (by decide +kernel), List.mem_of_getElem? (i := 863) (by decide +kernel), List.mem_of_getElem? (i := 864) (by decide +kernel)⟩
theorem lw_p25 : lw_okq (⟨"MakerGuardModel", "meet", "(II)V"⟩, 38) := ⟨⟨by decide +kernel, by decide +kernel⟩, List.mem_of_getElem? (i := 687) (by decide +kernel), List.mem_of_getElem? (i := 867) (by decide +kernel), List.mem_of_getElem? (i := 868) (by decide +kernel)⟩
theorem lw_p26 : lw_okq (⟨"MakerGuardModel", "look", "(II)V"⟩, 38) := ⟨⟨by decide +kernel, by decide +kernel⟩, List.mem_of_getElem? (i := 687) (by decide +kernel), List.mem_of_getElem? (i := 871) (by decide +kernel), List.mem_of_getElem? (i := 872) (by decide +kernel)⟩
theorem lw_p27 : lw_okq (⟨"MakerGuardModel", "choose", "(IIII)V"⟩, 38) := ⟨⟨by decide +kernel, by decide +kernel⟩, List.mem_of_getElem? (i := 687) (by decide +kernel), List.mem_of_getElem? (i := 875) (by decide +kernel), List.mem_of_getElem? (i := 876) (by decide +kernel)⟩
theorem lw_p28 : lw_okq (⟨"MakerGuardModel", "isHeld", "(I)Z"⟩, 38) := ⟨⟨by decide +kernel, by decide +kernel⟩, List.mem_of_getElem? (i := 687) (by decide +kernel), List.mem_of_getElem? (i := 879) (by decide +kernel), List.mem_of_getElem? (i := 880) (by decide +kernel)⟩
theorem lw_p29 : lw_okq (⟨"MakerGuardModel", "effect", "(IIIII)V"⟩, 38) := ⟨⟨by decide +kernel, by decide +kernel⟩, List.mem_of_getElem? (i := 687) (by decide +kernel), List.mem_of_getElem? (i := 883) (by decide +kernel), List.mem_of_getElem? (i := 884) (by decide +kernel)⟩
theorem lw_p30 : lw_okq (⟨"MakerGuardModel", "hold", "(IIIII)V"⟩, 38) := ⟨⟨by decide +kernel, by decide +kernel⟩, List.mem_of_getElem? (i := 687) (by decide +kernel), List.mem_of_getElem? (i := 887) (by decide +kernel), List.mem_of_getElem? (i := 888) (by decide +kernel)⟩
theorem lw_p31 : lw_okq (⟨"MakerGuardModel", "allFit", "(II)Z"⟩, 38) := ⟨⟨by decide +kernel, by decide +kernel⟩, List.mem_of_getElem? (i := 687) (by decide +kernel), List.mem_of_getElem? (i := 891) (by decide +kernel), List.mem_of_getElem? (i := 892) (by decide +kernel)⟩
def lw_privs_2 : List (MethodName × Nat) := [(⟨"MakerGuard$Guard", "mayReturn", "(I)Z"⟩, 6), (⟨"MakerGuard$Machine", "attempt", "()I"⟩, 10), (⟨"MakerGuard$Machine", "make", "(LMakerGuard$Frame;II)I"⟩, 10), (⟨"MakerGuard$Machine", "call", "(LMakerGuard$Frame;II)I"⟩, 10), (⟨"MakerGuard$Machine", "leave", "(LMakerGuard$Frame;I)V"⟩, 10), (⟨"MakerGuard$Machine", "move", "(LMakerGuard$Frame;LMakerGuard$Body;I)I"⟩, 10), (⟨"MakerGuardModel", "goes", "(ZZZ)Z"⟩, 38), (⟨"MakerGuardModel", "judge", "(I)Z"⟩, 38), (⟨"MakerGuardModel", "come", "(II)V"⟩, 38), (⟨"MakerGuardModel", "meet", "(II)V"⟩, 38), (⟨"MakerGuardModel", "look", "(II)V"⟩, 38), (⟨"MakerGuardModel", "choose", "(IIII)V"⟩, 38), (⟨"MakerGuardModel", "isHeld", "(I)Z"⟩, 38), (⟨"MakerGuardModel", "effect", "(IIIII)V"⟩, 38), (⟨"MakerGuardModel", "hold", "(IIIII)V"⟩, 38), (⟨"MakerGuardModel", "allFit", "(II)Z"⟩, 38)]
theorem lw_r2 : ∀ q ∈ lw_privs_2, lw_okq q := List.forall_mem_cons.mpr ⟨lw_p16, List.forall_mem_cons.mpr ⟨lw_p17, List.forall_mem_cons.mpr ⟨lw_p18, List.forall_mem_cons.mpr ⟨lw_p19, List.forall_mem_cons.mpr ⟨lw_p20, List.forall_mem_cons.mpr ⟨lw_p21, List.forall_mem_cons.mpr ⟨lw_p22, List.forall_mem_cons.mpr ⟨lw_p23, List.forall_mem_cons.mpr ⟨lw_p24, List.forall_mem_cons.mpr ⟨lw_p25, List.forall_mem_cons.mpr ⟨lw_p26, List.forall_mem_cons.mpr ⟨lw_p27, List.forall_mem_cons.mpr ⟨lw_p28, List.forall_mem_cons.mpr ⟨lw_p29, List.forall_mem_cons.mpr ⟨lw_p30, List.forall_mem_cons.mpr ⟨lw_p31, fun _ h => absurd h List.not_mem_nil⟩⟩⟩⟩⟩⟩⟩⟩⟩⟩⟩⟩⟩⟩⟩⟩
theorem lw_p32 : lw_okq (⟨"MakerGuardModel", "fits", "(IIZI)Z"⟩, 38) := ⟨⟨by decide +kernel, by decide +kernel⟩, List.mem_of_getElem? (i := 687) (by decide +kernel), List.mem_of_getElem? (i := 895) (by decide +kernel), List.mem_of_getElem? (i := 896) (by decide +kernel)⟩
theorem lw_p33 : lw_okq (⟨"MakerGuardModel", "stateOf", "(II)I"⟩, 38) := ⟨⟨by decide +kernel, by decide +kernel⟩, List.mem_of_getElem? (i := 687) (by decide +kernel), List.mem_of_getElem? (i := 899) (by decide +kernel), List.mem_of_getElem? (i := 900) (by decide +kernel)⟩
theorem lw_p34 : lw_okq (⟨"MakerGuardModel", "get", "(IIII)V"⟩, 38) := ⟨⟨by decide +kernel, by decide +kernel⟩, List.mem_of_getElem? (i := 687) (by decide +kernel), List.mem_of_getElem? (i := 903) (by decide +kernel), List.mem_of_getElem? (i := 904) (by decide +kernel)⟩
theorem lw_p35 : lw_okq (⟨"MakerGuardModel", "put", "(IIII)V"⟩, 38) := ⟨⟨by decide +kernel, by decide +kernel⟩, List.mem_of_getElem? (i := 687) (by decide +kernel), List.mem_of_getElem? (i := 907) (by decide +kernel), List.mem_of_getElem? (i := 908) (by decide +kernel)⟩
theorem lw_p36 : lw_okq (⟨"MakerGuardModel", "back", "(II)V"⟩, 38) := ⟨⟨by decide +kernel, by decide +kernel⟩, List.mem_of_getElem? (i := 687) (by decide +kernel), List.mem_of_getElem? (i := 911) (by decide +kernel), List.mem_of_getElem? (i := 912) (by decide +kernel)⟩
theorem lw_p37 : lw_okq (⟨"MakerGuardModel", "isPlace", "(II)Z"⟩, 38) := ⟨⟨by decide +kernel, by decide +kernel⟩, List.mem_of_getElem? (i := 687) (by decide +kernel), List.mem_of_getElem? (i := 919) (by decide +kernel), List.mem_of_getElem? (i := 920) (by decide +kernel)⟩
theorem lw_p38 : lw_okq (⟨"MakerGuardModel", "open", "(III)V"⟩, 38) := ⟨⟨by decide +kernel, by decide +kernel⟩, List.mem_of_getElem? (i := 687) (by decide +kernel), List.mem_of_getElem? (i := 931) (by decide +kernel), List.mem_of_getElem? (i := 932) (by decide +kernel)⟩
theorem lw_p39 : lw_okq (⟨"MakerGuardModel", "next", "()I"⟩, 38) := ⟨⟨by decide +kernel, by decide +kernel⟩, List.mem_of_getElem? (i := 687) (by decide +kernel), List.mem_of_getElem? (i := 939) (by decide +kernel), List.mem_of_getElem? (i := 940) (by decide +kernel)⟩
theorem lw_p40 : lw_okq (⟨"MakerGuardModel", "at", "()I"⟩, 38) := ⟨⟨by decide +kernel, by decide +kernel⟩, List.mem_of_getElem? (i := 687) (by decide +kernel), List.mem_of_getElem? (i := 943) (by decide +kernel), List.mem_of_getElem? (i := 944) (by decide +kernel)⟩
theorem lw_p41 : lw_okq (⟨"MakerGuardModel", "own", "(I)I"⟩, 38) := ⟨⟨by decide +kernel, by decide +kernel⟩, List.mem_of_getElem? (i := 687) (by decide +kernel), List.mem_of_getElem? (i := 947) (by decide +kernel), List.mem_of_getElem? (i := 948) (by decide +kernel)⟩
theorem lw_p42 : lw_okq (⟨"MakerGuardModel", "step", "()V"⟩, 38) := ⟨⟨by decide +kernel, by decide +kernel⟩, List.mem_of_getElem? (i := 687) (by decide +kernel), List.mem_of_getElem? (i := 951) (by decide +kernel), List.mem_of_getElem? (i := 952) (by decide +kernel)⟩
theorem lw_p43 : lw_okq (⟨"MakerGuardModel", "create", "(I)I"⟩, 38) := ⟨⟨by decide +kernel, by decide +kernel⟩, List.mem_of_getElem? (i := 687) (by decide +kernel), List.mem_of_getElem? (i := 955) (by decide +kernel), List.mem_of_getElem? (i := 956) (by decide +kernel)⟩
theorem lw_p44 : lw_okq (⟨"MakerGuardModel", "leave", "(I)V"⟩, 38) := ⟨⟨by decide +kernel, by decide +kernel⟩, List.mem_of_getElem? (i := 687) (by decide +kernel), List.mem_of_getElem? (i := 959) (by decide +kernel), List.mem_of_getElem? (i := 960) (by decide +kernel)⟩
def lw_privs_3 : List (MethodName × Nat) := [(⟨"MakerGuardModel", "fits", "(IIZI)Z"⟩, 38), (⟨"MakerGuardModel", "stateOf", "(II)I"⟩, 38), (⟨"MakerGuardModel", "get", "(IIII)V"⟩, 38), (⟨"MakerGuardModel", "put", "(IIII)V"⟩, 38), (⟨"MakerGuardModel", "back", "(II)V"⟩, 38), (⟨"MakerGuardModel", "isPlace", "(II)Z"⟩, 38), (⟨"MakerGuardModel", "open", "(III)V"⟩, 38), (⟨"MakerGuardModel", "next", "()I"⟩, 38), (⟨"MakerGuardModel", "at", "()I"⟩, 38), (⟨"MakerGuardModel", "own", "(I)I"⟩, 38), (⟨"MakerGuardModel", "step", "()V"⟩, 38), (⟨"MakerGuardModel", "create", "(I)I"⟩, 38), (⟨"MakerGuardModel", "leave", "(I)V"⟩, 38)]
theorem lw_r3 : ∀ q ∈ lw_privs_3, lw_okq q := List.forall_mem_cons.mpr ⟨lw_p32, List.forall_mem_cons.mpr ⟨lw_p33, List.forall_mem_cons.mpr ⟨lw_p34, List.forall_mem_cons.mpr ⟨lw_p35, List.forall_mem_cons.mpr ⟨lw_p36, List.forall_mem_cons.mpr ⟨lw_p37, List.forall_mem_cons.mpr ⟨lw_p38, List.forall_mem_cons.mpr ⟨lw_p39, List.forall_mem_cons.mpr ⟨lw_p40, List.forall_mem_cons.mpr ⟨lw_p41, List.forall_mem_cons.mpr ⟨lw_p42, List.forall_mem_cons.mpr ⟨lw_p43, List.forall_mem_cons.mpr ⟨lw_p44, fun _ h => absurd h List.not_mem_nil⟩⟩⟩⟩⟩⟩⟩⟩⟩⟩⟩⟩⟩
def lw_privs : List (MethodName × Nat) := lw_privs_1 ++ (lw_privs_2 ++ (lw_privs_3))
def lw_tbl : List Cond := k2_sels lw_privs ++ tables_1
theorem lw_privs_ok : ∀ q ∈ lw_privs, lw_okq q := by
  show ∀ q ∈ lw_privs_1 ++ (lw_privs_2 ++ (lw_privs_3)), lw_okq q
  exact List.forall_mem_append.mpr ⟨lw_r1, List.forall_mem_append.mpr ⟨lw_r2, lw_r3⟩⟩
-- ===== end of PART A; then your names; then what follows =====
end
section
theorem ax_mem_r {big : List Cond} (ws : List Cond) (ps : List Nat) (hp : ws = ps.filterMap (fun i => big[i]?)) : ∀ w ∈ ws, w ∈ big := by
  intro w hw
  rw [hp] at hw
  obtain ⟨i, -, hi⟩ := List.mem_filterMap.mp hw
  exact List.mem_of_getElem? hi
/-! classes of the worlds: names, fields in the order of the slots, types (2: a reference, 1: boolean, 0: int); written by wip/tools/gen02.py -/
def ax_T0 : u_T := fun k => match k with
  | 0 => ("MakerGuard$Body", "orders", "[I", true)
  | 1 => ("MakerGuard$Body", "xs", "[I", true)
  | 2 => ("MakerGuard$Body", "ys", "[I", true)
  | 3 => ("MakerGuard$Body", "zs", "[I", true)
  | 4 => ("MakerGuard$Body", "parameters", "[LMakerGuard$Declaration;", true)
  | 5 => ("MakerGuard$Body", "returned", "LMakerGuard$Declaration;", true)
  | 6 => ("MakerGuard$Body", "size", "I", false)
  | _ => ("MakerGuard$Body", "parameterCount", "I", false)
def ax_ty0 : Nat → FieldType := fun k => match k with
  | 0 => (.array .int)
  | 1 => (.array .int)
  | 2 => (.array .int)
  | 3 => (.array .int)
  | 4 => (.array (.object "MakerGuard$Declaration"))
  | 5 => (.object "MakerGuard$Declaration")
  | 6 => .int
  | _ => .int
def ax_ft0 : Nat → Nat := fun k => match k with
  | 0 => 2
  | 1 => 2
  | 2 => 2
  | 3 => 2
  | 4 => 2
  | 5 => 2
  | 6 => 0
  | _ => 0
def ax_T1 : u_T := fun k => match k with
  | 0 => ("MakerGuard$Declaration", "ofClass", "I", false)
  | 1 => ("MakerGuard$Declaration", "nullable", "Z", false)
  | _ => ("MakerGuard$Declaration", "stage", "I", false)
def ax_ty1 : Nat → FieldType := fun k => match k with
  | 0 => .int
  | 1 => .boolean
  | _ => .int
def ax_ft1 : Nat → Nat := fun k => match k with
  | 0 => 0
  | 1 => 1
  | _ => 0
def ax_T2 : u_T := fun k => match k with
  | 0 => ("MakerGuard$Frame", "locals", "[I", true)
  | 1 => ("MakerGuard$Frame", "body", "I", false)
  | 2 => ("MakerGuard$Frame", "place", "I", false)
  | _ => ("MakerGuard$Frame", "made", "I", false)
def ax_ty2 : Nat → FieldType := fun k => match k with
  | 0 => (.array .int)
  | 1 => .int
  | 2 => .int
  | _ => .int
def ax_ft2 : Nat → Nat := fun k => match k with
  | 0 => 2
  | 1 => 0
  | 2 => 0
  | _ => 0
def ax_T3 : u_T := fun k => match k with
  | 0 => ("MakerGuard$Guard", "program", "LMakerGuard$Program;", true)
  | 1 => ("MakerGuard$Guard", "sights", "[LMakerGuard$Sight;", true)
  | 2 => ("MakerGuard$Guard", "after", "LMakerGuard$Sight;", true)
  | 3 => ("MakerGuard$Guard", "verdicts", "[I", true)
  | 4 => ("MakerGuard$Guard", "watched", "I", false)
  | _ => ("MakerGuard$Guard", "body", "LMakerGuard$Body;", false)
def ax_ty3 : Nat → FieldType := fun k => match k with
  | 0 => (.object "MakerGuard$Program")
  | 1 => (.array (.object "MakerGuard$Sight"))
  | 2 => (.object "MakerGuard$Sight")
  | 3 => (.array .int)
  | 4 => .int
  | _ => (.object "MakerGuard$Body")
def ax_ft3 : Nat → Nat := fun k => match k with
  | 0 => 2
  | 1 => 2
  | 2 => 2
  | 3 => 2
  | 4 => 0
  | _ => 2
def ax_T4 : u_T := fun k => match k with
  | 0 => ("MakerGuard$Machine", "classOf", "[I", true)
  | 1 => ("MakerGuard$Machine", "fieldRow", "[I", true)
  | 2 => ("MakerGuard$Machine", "present", "Z", false)
  | 3 => ("MakerGuard$Machine", "depth", "I", false)
  | 4 => ("MakerGuard$Machine", "objectCount", "I", false)
  | 5 => ("MakerGuard$Machine", "program", "LMakerGuard$Program;", true)
  | 6 => ("MakerGuard$Machine", "frames", "[LMakerGuard$Frame;", true)
  | 7 => ("MakerGuard$Machine", "status", "I", false)
  | 8 => ("MakerGuard$Machine", "steps", "I", false)
  | _ => ("MakerGuard$Machine", "answer", "I", false)
def ax_ty4 : Nat → FieldType := fun k => match k with
  | 0 => (.array .int)
  | 1 => (.array .int)
  | 2 => .boolean
  | 3 => .int
  | 4 => .int
  | 5 => (.object "MakerGuard$Program")
  | 6 => (.array (.object "MakerGuard$Frame"))
  | 7 => .int
  | 8 => .int
  | _ => .int
def ax_ft4 : Nat → Nat := fun k => match k with
  | 0 => 2
  | 1 => 2
  | 2 => 1
  | 3 => 0
  | 4 => 0
  | 5 => 2
  | 6 => 2
  | 7 => 0
  | 8 => 0
  | _ => 0
def ax_T5 : u_T := fun k => match k with
  | 0 => ("MakerGuard$Program", "bodies", "[LMakerGuard$Body;", true)
  | _ => ("MakerGuard$Program", "fieldsOfAll", "[LMakerGuard$Declaration;", true)
def ax_ty5 : Nat → FieldType := fun k => match k with
  | 0 => (.array (.object "MakerGuard$Body"))
  | _ => (.array (.object "MakerGuard$Declaration"))
def ax_ft5 : Nat → Nat := fun k => match k with
  | 0 => 2
  | _ => 2
def ax_T6 : u_T := fun k => match k with
  | 0 => ("MakerGuard$Sight", "classes", "[I", true)
  | 1 => ("MakerGuard$Sight", "nullness", "[I", true)
  | 2 => ("MakerGuard$Sight", "stages", "[I", true)
  | 3 => ("MakerGuard$Sight", "put", "I", false)
  | 4 => ("MakerGuard$Sight", "reached", "Z", false)
  | _ => ("MakerGuard$Sight", "changed", "Z", false)
def ax_ty6 : Nat → FieldType := fun k => match k with
  | 0 => (.array .int)
  | 1 => (.array .int)
  | 2 => (.array .int)
  | 3 => .int
  | 4 => .boolean
  | _ => .boolean
def ax_ft6 : Nat → Nat := fun k => match k with
  | 0 => 2
  | 1 => 2
  | 2 => 2
  | 3 => 0
  | 4 => 1
  | _ => 1
def ax_T7 : u_T := fun k => match k with
  | 0 => ("MakerGuard", "program", "LMakerGuard$Program;", true)
  | 1 => ("MakerGuard", "guard", "LMakerGuard$Guard;", true)
  | _ => ("MakerGuard", "machine", "LMakerGuard$Machine;", true)
def ax_ty7 : Nat → FieldType := fun k => match k with
  | 0 => (.object "MakerGuard$Program")
  | 1 => (.object "MakerGuard$Guard")
  | _ => (.object "MakerGuard$Machine")
def ax_ft7 : Nat → Nat := fun k => match k with
  | 0 => 2
  | 1 => 2
  | _ => 2
def ax_T8 : u_T := fun k => match k with
  | 0 => ("MakerGuardModel", "thrown", "I", false)
  | 1 => ("MakerGuardModel", "fieldClasses", "[I", true)
  | 2 => ("MakerGuardModel", "isSure", "[Z", true)
  | 3 => ("MakerGuardModel", "many", "[I", true)
  | 4 => ("MakerGuardModel", "parameterClasses", "[I", true)
  | 5 => ("MakerGuardModel", "parameterNulls", "[Z", true)
  | 6 => ("MakerGuardModel", "parameterStates", "[I", true)
  | 7 => ("MakerGuardModel", "returnClasses", "[I", true)
  | 8 => ("MakerGuardModel", "returnSure", "[Z", true)
  | 9 => ("MakerGuardModel", "returnStates", "[I", true)
  | 10 => ("MakerGuardModel", "sizes", "[I", true)
  | 11 => ("MakerGuardModel", "orders", "[I", true)
  | 12 => ("MakerGuardModel", "xs", "[I", true)
  | 13 => ("MakerGuardModel", "ys", "[I", true)
  | 14 => ("MakerGuardModel", "zs", "[I", true)
  | 15 => ("MakerGuardModel", "comes", "[Z", true)
  | 16 => ("MakerGuardModel", "classes", "[I", true)
  | 17 => ("MakerGuardModel", "nulls", "[I", true)
  | 18 => ("MakerGuardModel", "states", "[I", true)
  | 19 => ("MakerGuardModel", "puts", "[I", true)
  | 20 => ("MakerGuardModel", "fails", "Z", false)
  | 21 => ("MakerGuardModel", "changes", "Z", false)
  | 22 => ("MakerGuardModel", "nowClasses", "[I", true)
  | 23 => ("MakerGuardModel", "nowNulls", "[I", true)
  | 24 => ("MakerGuardModel", "nowStates", "[I", true)
  | 25 => ("MakerGuardModel", "nowPuts", "I", false)
  | 26 => ("MakerGuardModel", "isRun", "Z", false)
  | 27 => ("MakerGuardModel", "frames", "I", false)
  | 28 => ("MakerGuardModel", "bodies", "[I", true)
  | 29 => ("MakerGuardModel", "places", "[I", true)
  | 30 => ("MakerGuardModel", "locals", "[I", true)
  | 31 => ("MakerGuardModel", "made", "[I", true)
  | 32 => ("MakerGuardModel", "trouble", "I", false)
  | 33 => ("MakerGuardModel", "steps", "I", false)
  | 34 => ("MakerGuardModel", "answer", "I", false)
  | 35 => ("MakerGuardModel", "objects", "I", false)
  | 36 => ("MakerGuardModel", "objectClasses", "[I", true)
  | _ => ("MakerGuardModel", "objectFields", "[I", true)
def ax_ty8 : Nat → FieldType := fun k => match k with
  | 0 => .int
  | 1 => (.array .int)
  | 2 => (.array .boolean)
  | 3 => (.array .int)
  | 4 => (.array .int)
  | 5 => (.array .boolean)
  | 6 => (.array .int)
  | 7 => (.array .int)
  | 8 => (.array .boolean)
  | 9 => (.array .int)
  | 10 => (.array .int)
  | 11 => (.array .int)
  | 12 => (.array .int)
  | 13 => (.array .int)
  | 14 => (.array .int)
  | 15 => (.array .boolean)
  | 16 => (.array .int)
  | 17 => (.array .int)
  | 18 => (.array .int)
  | 19 => (.array .int)
  | 20 => .boolean
  | 21 => .boolean
  | 22 => (.array .int)
  | 23 => (.array .int)
  | 24 => (.array .int)
  | 25 => .int
  | 26 => .boolean
  | 27 => .int
  | 28 => (.array .int)
  | 29 => (.array .int)
  | 30 => (.array .int)
  | 31 => (.array .int)
  | 32 => .int
  | 33 => .int
  | 34 => .int
  | 35 => .int
  | 36 => (.array .int)
  | _ => (.array .int)
def ax_ft8 : Nat → Nat := fun k => match k with
  | 0 => 0
  | 1 => 2
  | 2 => 2
  | 3 => 2
  | 4 => 2
  | 5 => 2
  | 6 => 2
  | 7 => 2
  | 8 => 2
  | 9 => 2
  | 10 => 2
  | 11 => 2
  | 12 => 2
  | 13 => 2
  | 14 => 2
  | 15 => 2
  | 16 => 2
  | 17 => 2
  | 18 => 2
  | 19 => 2
  | 20 => 1
  | 21 => 1
  | 22 => 2
  | 23 => 2
  | 24 => 2
  | 25 => 0
  | 26 => 1
  | 27 => 0
  | 28 => 2
  | 29 => 2
  | 30 => 2
  | 31 => 2
  | 32 => 0
  | 33 => 0
  | 34 => 0
  | 35 => 0
  | 36 => 2
  | _ => 2
def ax_cl : List vw_C := [("MakerGuard$Body", ax_T0, 8), ("MakerGuard$Declaration", ax_T1, 3), ("MakerGuard$Frame", ax_T2, 4), ("MakerGuard$Guard", ax_T3, 6), ("MakerGuard$Machine", ax_T4, 10), ("MakerGuard$Program", ax_T5, 2), ("MakerGuard$Sight", ax_T6, 6), ("MakerGuard", ax_T7, 3), ("MakerGuardModel", ax_T8, 38)]
def ax_ty : Nat → Nat → FieldType := fun c => match c with
  | 0 => ax_ty0
  | 1 => ax_ty1
  | 2 => ax_ty2
  | 3 => ax_ty3
  | 4 => ax_ty4
  | 5 => ax_ty5
  | 6 => ax_ty6
  | 7 => ax_ty7
  | _ => ax_ty8
def ax_ft : Nat → Nat → Nat := fun c => match c with
  | 0 => ax_ft0
  | 1 => ax_ft1
  | 2 => ax_ft2
  | 3 => ax_ft3
  | 4 => ax_ft4
  | 5 => ax_ft5
  | 6 => ax_ft6
  | 7 => ax_ft7
  | _ => ax_ft8
def ax_nf : Nat → Nat := fun c => match c with
  | 0 => 8
  | 1 => 3
  | 2 => 4
  | 3 => 6
  | 4 => 10
  | 5 => 2
  | 6 => 6
  | 7 => 3
  | _ => 38
def ax_cn : Nat → String := fun c => match c with
  | 0 => "MakerGuard$Body"
  | 1 => "MakerGuard$Declaration"
  | 2 => "MakerGuard$Frame"
  | 3 => "MakerGuard$Guard"
  | 4 => "MakerGuard$Machine"
  | 5 => "MakerGuard$Program"
  | 6 => "MakerGuard$Sight"
  | 7 => "MakerGuard"
  | _ => "MakerGuardModel"
def ax_Tf : Nat → u_T := fun c => match c with
  | 0 => ax_T0
  | 1 => ax_T1
  | 2 => ax_T2
  | 3 => ax_T3
  | 4 => ax_T4
  | 5 => ax_T5
  | 6 => ax_T6
  | 7 => ax_T7
  | _ => ax_T8
theorem ax_cl_at : ∀ ci, ci < 9 → ax_cl[ci]? = some (ax_cn ci, ax_Tf ci, ax_nf ci) := by
  intro ci h
  match ci, h with
  | 0, _ => rfl
  | 1, _ => rfl
  | 2, _ => rfl
  | 3, _ => rfl
  | 4, _ => rfl
  | 5, _ => rfl
  | 6, _ => rfl
  | 7, _ => rfl
  | 8, _ => rfl
  | n + 9, h => exact absurd h (by omega)
theorem ax_cl_of {ci : Nat} {q : vw_C} (h : ax_cl[ci]? = some q) : ci < 9 ∧ q = (ax_cn ci, ax_Tf ci, ax_nf ci) := by
  have hl : ci < 9 := (List.getElem?_eq_some_iff.mp h).1
  exact ⟨hl, Option.some.inj (h.symm.trans (ax_cl_at ci hl))⟩
theorem ax_tyok_0 : ∀ k, k < ax_nf 0 → parseFieldDescriptor (ax_Tf 0 k).2.2.1 = some (ax_ty 0 k) := by decide +kernel
theorem ax_tyok_1 : ∀ k, k < ax_nf 1 → parseFieldDescriptor (ax_Tf 1 k).2.2.1 = some (ax_ty 1 k) := by decide +kernel
theorem ax_tyok_2 : ∀ k, k < ax_nf 2 → parseFieldDescriptor (ax_Tf 2 k).2.2.1 = some (ax_ty 2 k) := by decide +kernel
theorem ax_tyok_3 : ∀ k, k < ax_nf 3 → parseFieldDescriptor (ax_Tf 3 k).2.2.1 = some (ax_ty 3 k) := by decide +kernel
theorem ax_tyok_4 : ∀ k, k < ax_nf 4 → parseFieldDescriptor (ax_Tf 4 k).2.2.1 = some (ax_ty 4 k) := by decide +kernel
theorem ax_tyok_5 : ∀ k, k < ax_nf 5 → parseFieldDescriptor (ax_Tf 5 k).2.2.1 = some (ax_ty 5 k) := by decide +kernel
theorem ax_tyok_6 : ∀ k, k < ax_nf 6 → parseFieldDescriptor (ax_Tf 6 k).2.2.1 = some (ax_ty 6 k) := by decide +kernel
theorem ax_tyok_7 : ∀ k, k < ax_nf 7 → parseFieldDescriptor (ax_Tf 7 k).2.2.1 = some (ax_ty 7 k) := by decide +kernel
theorem ax_tyok_8 : ∀ k, k < ax_nf 8 → parseFieldDescriptor (ax_Tf 8 k).2.2.1 = some (ax_ty 8 k) := by decide +kernel
theorem ax_tyok : ∀ ci, ci < 9 → ∀ k, k < ax_nf ci → parseFieldDescriptor (ax_Tf ci k).2.2.1 = some (ax_ty ci k) := by
  intro ci h
  match ci, h with
  | 0, _ => exact ax_tyok_0
  | 1, _ => exact ax_tyok_1
  | 2, _ => exact ax_tyok_2
  | 3, _ => exact ax_tyok_3
  | 4, _ => exact ax_tyok_4
  | 5, _ => exact ax_tyok_5
  | 6, _ => exact ax_tyok_6
  | 7, _ => exact ax_tyok_7
  | 8, _ => exact ax_tyok_8
  | n + 9, h => exact absurd h (by omega)
theorem ax_nmok_0 : ∀ a, a < ax_nf 0 → ∀ b, b < ax_nf 0 → a ≠ b → (ax_Tf 0 a).2.1 ≠ (ax_Tf 0 b).2.1 := by decide +kernel
theorem ax_nmok_1 : ∀ a, a < ax_nf 1 → ∀ b, b < ax_nf 1 → a ≠ b → (ax_Tf 1 a).2.1 ≠ (ax_Tf 1 b).2.1 := by decide +kernel
theorem ax_nmok_2 : ∀ a, a < ax_nf 2 → ∀ b, b < ax_nf 2 → a ≠ b → (ax_Tf 2 a).2.1 ≠ (ax_Tf 2 b).2.1 := by decide +kernel
theorem ax_nmok_3 : ∀ a, a < ax_nf 3 → ∀ b, b < ax_nf 3 → a ≠ b → (ax_Tf 3 a).2.1 ≠ (ax_Tf 3 b).2.1 := by decide +kernel
theorem ax_nmok_4 : ∀ a, a < ax_nf 4 → ∀ b, b < ax_nf 4 → a ≠ b → (ax_Tf 4 a).2.1 ≠ (ax_Tf 4 b).2.1 := by decide +kernel
theorem ax_nmok_5 : ∀ a, a < ax_nf 5 → ∀ b, b < ax_nf 5 → a ≠ b → (ax_Tf 5 a).2.1 ≠ (ax_Tf 5 b).2.1 := by decide +kernel
theorem ax_nmok_6 : ∀ a, a < ax_nf 6 → ∀ b, b < ax_nf 6 → a ≠ b → (ax_Tf 6 a).2.1 ≠ (ax_Tf 6 b).2.1 := by decide +kernel
theorem ax_nmok_7 : ∀ a, a < ax_nf 7 → ∀ b, b < ax_nf 7 → a ≠ b → (ax_Tf 7 a).2.1 ≠ (ax_Tf 7 b).2.1 := by decide +kernel
theorem ax_nmok_8 : ∀ a, a < ax_nf 8 → ∀ b, b < ax_nf 8 → a ≠ b → (ax_Tf 8 a).2.1 ≠ (ax_Tf 8 b).2.1 := by decide +kernel
theorem ax_nmok : ∀ ci, ci < 9 → ∀ a, a < ax_nf ci → ∀ b, b < ax_nf ci → a ≠ b → (ax_Tf ci a).2.1 ≠ (ax_Tf ci b).2.1 := by
  intro ci h
  match ci, h with
  | 0, _ => exact ax_nmok_0
  | 1, _ => exact ax_nmok_1
  | 2, _ => exact ax_nmok_2
  | 3, _ => exact ax_nmok_3
  | 4, _ => exact ax_nmok_4
  | 5, _ => exact ax_nmok_5
  | 6, _ => exact ax_nmok_6
  | 7, _ => exact ax_nmok_7
  | 8, _ => exact ax_nmok_8
  | n + 9, h => exact absurd h (by omega)
theorem ax_ftok_0 : ∀ k, k < ax_nf 0 → ((ax_ft 0 k = 0 ∧ ax_ty 0 k = .int) ∨ (ax_ft 0 k = 1 ∧ ax_ty 0 k = .boolean) ∨ (ax_ft 0 k = 2 ∧ (ax_ty 0 k).isReference = true)) := by decide +kernel
theorem ax_ftok_1 : ∀ k, k < ax_nf 1 → ((ax_ft 1 k = 0 ∧ ax_ty 1 k = .int) ∨ (ax_ft 1 k = 1 ∧ ax_ty 1 k = .boolean) ∨ (ax_ft 1 k = 2 ∧ (ax_ty 1 k).isReference = true)) := by decide +kernel
theorem ax_ftok_2 : ∀ k, k < ax_nf 2 → ((ax_ft 2 k = 0 ∧ ax_ty 2 k = .int) ∨ (ax_ft 2 k = 1 ∧ ax_ty 2 k = .boolean) ∨ (ax_ft 2 k = 2 ∧ (ax_ty 2 k).isReference = true)) := by decide +kernel
theorem ax_ftok_3 : ∀ k, k < ax_nf 3 → ((ax_ft 3 k = 0 ∧ ax_ty 3 k = .int) ∨ (ax_ft 3 k = 1 ∧ ax_ty 3 k = .boolean) ∨ (ax_ft 3 k = 2 ∧ (ax_ty 3 k).isReference = true)) := by decide +kernel
theorem ax_ftok_4 : ∀ k, k < ax_nf 4 → ((ax_ft 4 k = 0 ∧ ax_ty 4 k = .int) ∨ (ax_ft 4 k = 1 ∧ ax_ty 4 k = .boolean) ∨ (ax_ft 4 k = 2 ∧ (ax_ty 4 k).isReference = true)) := by decide +kernel
theorem ax_ftok_5 : ∀ k, k < ax_nf 5 → ((ax_ft 5 k = 0 ∧ ax_ty 5 k = .int) ∨ (ax_ft 5 k = 1 ∧ ax_ty 5 k = .boolean) ∨ (ax_ft 5 k = 2 ∧ (ax_ty 5 k).isReference = true)) := by decide +kernel
theorem ax_ftok_6 : ∀ k, k < ax_nf 6 → ((ax_ft 6 k = 0 ∧ ax_ty 6 k = .int) ∨ (ax_ft 6 k = 1 ∧ ax_ty 6 k = .boolean) ∨ (ax_ft 6 k = 2 ∧ (ax_ty 6 k).isReference = true)) := by decide +kernel
theorem ax_ftok_7 : ∀ k, k < ax_nf 7 → ((ax_ft 7 k = 0 ∧ ax_ty 7 k = .int) ∨ (ax_ft 7 k = 1 ∧ ax_ty 7 k = .boolean) ∨ (ax_ft 7 k = 2 ∧ (ax_ty 7 k).isReference = true)) := by decide +kernel
theorem ax_ftok_8 : ∀ k, k < ax_nf 8 → ((ax_ft 8 k = 0 ∧ ax_ty 8 k = .int) ∨ (ax_ft 8 k = 1 ∧ ax_ty 8 k = .boolean) ∨ (ax_ft 8 k = 2 ∧ (ax_ty 8 k).isReference = true)) := by decide +kernel
theorem ax_ftok : ∀ ci, ci < 9 → ∀ k, k < ax_nf ci → ((ax_ft ci k = 0 ∧ ax_ty ci k = .int) ∨ (ax_ft ci k = 1 ∧ ax_ty ci k = .boolean) ∨ (ax_ft ci k = 2 ∧ (ax_ty ci k).isReference = true)) := by
  intro ci h
  match ci, h with
  | 0, _ => exact ax_ftok_0
  | 1, _ => exact ax_ftok_1
  | 2, _ => exact ax_ftok_2
  | 3, _ => exact ax_ftok_3
  | 4, _ => exact ax_ftok_4
  | 5, _ => exact ax_ftok_5
  | 6, _ => exact ax_ftok_6
  | 7, _ => exact ax_ftok_7
  | 8, _ => exact ax_ftok_8
  | n + 9, h => exact absurd h (by omega)
theorem ax_ownok_0 : ∀ k, k < ax_nf 0 → (ax_Tf 0 k).1 = ax_cn 0 := by decide +kernel
theorem ax_ownok_1 : ∀ k, k < ax_nf 1 → (ax_Tf 1 k).1 = ax_cn 1 := by decide +kernel
theorem ax_ownok_2 : ∀ k, k < ax_nf 2 → (ax_Tf 2 k).1 = ax_cn 2 := by decide +kernel
theorem ax_ownok_3 : ∀ k, k < ax_nf 3 → (ax_Tf 3 k).1 = ax_cn 3 := by decide +kernel
theorem ax_ownok_4 : ∀ k, k < ax_nf 4 → (ax_Tf 4 k).1 = ax_cn 4 := by decide +kernel
theorem ax_ownok_5 : ∀ k, k < ax_nf 5 → (ax_Tf 5 k).1 = ax_cn 5 := by decide +kernel
theorem ax_ownok_6 : ∀ k, k < ax_nf 6 → (ax_Tf 6 k).1 = ax_cn 6 := by decide +kernel
theorem ax_ownok_7 : ∀ k, k < ax_nf 7 → (ax_Tf 7 k).1 = ax_cn 7 := by decide +kernel
theorem ax_ownok_8 : ∀ k, k < ax_nf 8 → (ax_Tf 8 k).1 = ax_cn 8 := by decide +kernel
theorem ax_ownok : ∀ ci, ci < 9 → ∀ k, k < ax_nf ci → (ax_Tf ci k).1 = ax_cn ci := by
  intro ci h
  match ci, h with
  | 0, _ => exact ax_ownok_0
  | 1, _ => exact ax_ownok_1
  | 2, _ => exact ax_ownok_2
  | 3, _ => exact ax_ownok_3
  | 4, _ => exact ax_ownok_4
  | 5, _ => exact ax_ownok_5
  | 6, _ => exact ax_ownok_6
  | 7, _ => exact ax_ownok_7
  | 8, _ => exact ax_ownok_8
  | n + 9, h => exact absurd h (by omega)
theorem ax_in_0 : ∀ w ∈ u_ws (ax_cn 0) (ax_Tf 0) (ax_nf 0), w ∈ lw_tbl := ax_mem_r (u_ws (ax_cn 0) (ax_Tf 0) (ax_nf 0)) [133, 135, 137, 139, 141, 143, 145, 147] (by decide +kernel)
theorem ax_in_1 : ∀ w ∈ u_ws (ax_cn 1) (ax_Tf 1) (ax_nf 1), w ∈ lw_tbl := ax_mem_r (u_ws (ax_cn 1) (ax_Tf 1) (ax_nf 1)) [101, 103, 105] (by decide +kernel)
theorem ax_in_2 : ∀ w ∈ u_ws (ax_cn 2) (ax_Tf 2) (ax_nf 2), w ∈ lw_tbl := ax_mem_r (u_ws (ax_cn 2) (ax_Tf 2) (ax_nf 2)) [241, 243, 245, 247] (by decide +kernel)
theorem ax_in_3 : ∀ w ∈ u_ws (ax_cn 3) (ax_Tf 3) (ax_nf 3), w ∈ lw_tbl := ax_mem_r (u_ws (ax_cn 3) (ax_Tf 3) (ax_nf 3)) [206, 208, 210, 212, 214, 216] (by decide +kernel)
theorem ax_in_4 : ∀ w ∈ u_ws (ax_cn 4) (ax_Tf 4) (ax_nf 4), w ∈ lw_tbl := ax_mem_r (u_ws (ax_cn 4) (ax_Tf 4) (ax_nf 4)) [265, 267, 269, 271, 273, 275, 277, 279, 281, 283] (by decide +kernel)
theorem ax_in_5 : ∀ w ∈ u_ws (ax_cn 5) (ax_Tf 5) (ax_nf 5), w ∈ lw_tbl := ax_mem_r (u_ws (ax_cn 5) (ax_Tf 5) (ax_nf 5)) [156, 158] (by decide +kernel)
theorem ax_in_6 : ∀ w ∈ u_ws (ax_cn 6) (ax_Tf 6) (ax_nf 6), w ∈ lw_tbl := ax_mem_r (u_ws (ax_cn 6) (ax_Tf 6) (ax_nf 6)) [187, 189, 191, 193, 195, 197] (by decide +kernel)
theorem ax_in_7 : ∀ w ∈ u_ws (ax_cn 7) (ax_Tf 7) (ax_nf 7), w ∈ lw_tbl := ax_mem_r (u_ws (ax_cn 7) (ax_Tf 7) (ax_nf 7)) [289, 291, 293] (by decide +kernel)
theorem ax_in_8 : ∀ w ∈ u_ws (ax_cn 8) (ax_Tf 8) (ax_nf 8), w ∈ lw_tbl := ax_mem_r (u_ws (ax_cn 8) (ax_Tf 8) (ax_nf 8)) [775, 777, 779, 781, 783, 785, 787, 789, 791, 793, 795, 797, 799, 801, 803, 805, 807, 809, 811, 813, 815, 817, 819, 821, 823, 825, 827, 829, 831, 833, 835, 837, 839, 841, 843, 845, 847, 849] (by decide +kernel)
theorem ax_in : ∀ ci, ci < 9 → ∀ w ∈ u_ws (ax_cn ci) (ax_Tf ci) (ax_nf ci), w ∈ lw_tbl := by
  intro ci h
  match ci, h with
  | 0, _ => exact ax_in_0
  | 1, _ => exact ax_in_1
  | 2, _ => exact ax_in_2
  | 3, _ => exact ax_in_3
  | 4, _ => exact ax_in_4
  | 5, _ => exact ax_in_5
  | 6, _ => exact ax_in_6
  | 7, _ => exact ax_in_7
  | 8, _ => exact ax_in_8
  | n + 9, h => exact absurd h (by omega)
theorem ax_inst : ∀ ci, ci < 9 → Cond.instantiable (ax_cn ci) (ax_nf ci) ∈ lw_tbl := by
  intro ci h
  match ci, h with
  | 0, _ => exact List.mem_of_getElem? (i := 82) (by decide +kernel)
  | 1, _ => exact List.mem_of_getElem? (i := 88) (by decide +kernel)
  | 2, _ => exact List.mem_of_getElem? (i := 227) (by decide +kernel)
  | 3, _ => exact List.mem_of_getElem? (i := 162) (by decide +kernel)
  | 4, _ => exact List.mem_of_getElem? (i := 220) (by decide +kernel)
  | 5, _ => exact List.mem_of_getElem? (i := 73) (by decide +kernel)
  | 6, _ => exact List.mem_of_getElem? (i := 169) (by decide +kernel)
  | 7, _ => exact List.mem_of_getElem? (i := 65) (by decide +kernel)
  | 8, _ => exact List.mem_of_getElem? (i := 732) (by decide +kernel)
  | n + 9, h => exact absurd h (by omega)
theorem ax_init : ∀ ci, ci < 9 → Cond.initialized (ax_cn ci) ∈ lw_tbl := by
  intro ci h
  match ci, h with
  | 0, _ => exact List.mem_of_getElem? (i := 48) (by decide +kernel)
  | 1, _ => exact List.mem_of_getElem? (i := 49) (by decide +kernel)
  | 2, _ => exact List.mem_of_getElem? (i := 53) (by decide +kernel)
  | 3, _ => exact List.mem_of_getElem? (i := 50) (by decide +kernel)
  | 4, _ => exact List.mem_of_getElem? (i := 52) (by decide +kernel)
  | 5, _ => exact List.mem_of_getElem? (i := 47) (by decide +kernel)
  | 6, _ => exact List.mem_of_getElem? (i := 51) (by decide +kernel)
  | 7, _ => exact List.mem_of_getElem? (i := 46) (by decide +kernel)
  | 8, _ => exact List.mem_of_getElem? (i := 54) (by decide +kernel)
  | n + 9, h => exact absurd h (by omega)
end
section
/-! THE ABSTRACT MACHINE. A heap: ((cells made, slots made), what a cell is (kind, length), its ints, its references, its longs), by the cell's number since the law's start. Kinds: 1 + c an object of class c; 20 int[], 21 boolean[], 22 long[]; 30 + c an array of class c; 0 nothing is known. Address 1000000000 is the script. -/
abbrev ax_H : Type := (Nat × Nat) × (Nat → Nat × Nat) × (Nat → Nat → Int32) × (Nat → Nat → Option Nat) × (Nat → Nat → Int64)
abbrev ax_R : Type := Nat × Nat × Nat × Nat × Int
abbrev ax_L : Type := List (Option Value)
def ax_up {α : Type} (f : Nat → Nat → α) (a i : Nat) (x : α) : Nat → Nat → α := fun b j => if b = a ∧ j = i then x else f b j
def ax_rw {α : Type} (f : Nat → Nat → α) (a : Nat) (g : Nat → α) : Nat → Nat → α := fun b => if b = a then g else f b
def ax_sh (f : Nat → Nat × Nat) (a : Nat) (x : Nat × Nat) : Nat → Nat × Nat := fun b => if b = a then x else f b
def ax_bin (o : Nat) (x y : Int32) : Int32 := match o with
  | 0 => x + y
  | 1 => x - y
  | 2 => x * y
  | 3 => x &&& y
  | 4 => x ||| y
  | 5 => x ^^^ y
  | 6 => x <<< (y &&& 31)
  | _ => x >>> (y &&& 31)
def ax_c1 (o : Nat) (x : Int32) : Bool := match o with
  | 0 => decide (x = 0)
  | 1 => decide (¬ x = 0)
  | 2 => decide (x < 0)
  | 3 => decide (0 ≤ x)
  | 4 => decide (0 < x)
  | _ => decide (x ≤ 0)
def ax_c2 (o : Nat) (x y : Int32) : Bool := match o with
  | 0 => decide (x = y)
  | 1 => decide (¬ x = y)
  | 2 => decide (x < y)
  | 3 => decide (y ≤ x)
  | 4 => decide (y < x)
  | _ => decide (x ≤ y)
/-- what a field holds, as a value -/
def ax_fv (h : ax_H) (ci a i : Nat) : Option Value := if ax_ft ci i = 2 then (h.2.2.2.1 a i).map Value.ref else some (.int (h.2.2.1 a i))
/-- a new cell: its kind, its length, how many slots -/
def ax_new (h : ax_H) (kd n : Nat) : ax_H := ((h.1.1 + 1, h.1.2 + n), ax_sh h.2.1 h.1.1 (kd, n), ax_rw h.2.2.1 h.1.1 (fun _ => 0), ax_rw h.2.2.2.1 h.1.1 (fun _ => none), ax_rw h.2.2.2.2 h.1.1 (fun _ => 0))
def ax_out (i : Int32) (n : Nat) : Bool := decide (i < 0 ∨ n ≤ i.toNatClampNeg)
/-- the switches: the least number, the targets, the default -/
abbrev ax_G : Type := Option (Nat × ax_L × List Value × ax_H)
def ax_s1 (pc : Nat) (ls : ax_L) (st : List Value) (h : ax_H) (x : Nat) : ax_G := match ls[x]? with
  | some (some (.int a)) => some (pc, ls, .int a :: st, h)
  | _ => none
def ax_s2 (pc : Nat) (ls : ax_L) (st : List Value) (h : ax_H) (x : Nat) : ax_G := match ls[x]? with
  | some (some (.ref a)) => some (pc, ls, .ref a :: st, h)
  | _ => none
def ax_s3 (pc : Nat) (ls : ax_L) (st : List Value) (h : ax_H) (x : Nat) : ax_G := match st with
  | .int a :: r => if x < ls.length then some (pc, ls.set x (some (.int a)), r, h) else none
  | _ => none
def ax_s4 (pc : Nat) (ls : ax_L) (st : List Value) (h : ax_H) (x : Nat) : ax_G := match st with
  | .ref a :: r => if x < ls.length then some (pc, ls.set x (some (.ref a)), r, h) else none
  | _ => none
def ax_s5 (pc : Nat) (ls : ax_L) (st : List Value) (h : ax_H) (x : Nat) (v : Int) : ax_G := match ls[x]? with
  | some (some (.int a)) => some (pc, ls.set x (some (.int (a + Int32.ofInt v))), st, h)
  | _ => none
def ax_s6 (pc : Nat) (ls : ax_L) (st : List Value) (h : ax_H) (x : Nat) : ax_G := match st with
  | .int b :: .int a :: r => some (pc, ls, .int (ax_bin x a b) :: r, h)
  | _ => none
def ax_s7 (pc : Nat) (ls : ax_L) (st : List Value) (h : ax_H) : ax_G := match st with
  | .int a :: r => some (pc, ls, .long a.toInt64 :: r, h)
  | _ => none
def ax_s8 (pc : Nat) (ls : ax_L) (st : List Value) (h : ax_H) : ax_G := match st with
  | .long b :: .long a :: r => some (pc, ls, .int (lg_cmp a b) :: r, h)
  | _ => none
def ax_s10 (pc : Nat) (ls : ax_L) (st : List Value) (h : ax_H) : ax_G := match st with
  | .int a :: r => some (pc, ls, .int a :: .int a :: r, h)
  | .ref a :: r => some (pc, ls, .ref a :: .ref a :: r, h)
  | _ => none
def ax_s11 (pc : Nat) (ls : ax_L) (st : List Value) (h : ax_H) : ax_G := match st with
  | .int a :: .ref b :: r => some (pc, ls, .int a :: .ref b :: .int a :: .ref b :: r, h)
  | _ => none
def ax_s12 (pc : Nat) (ls : ax_L) (st : List Value) (h : ax_H) (x y : Nat) : ax_G := match st with
  | .int a :: r => some (if ax_c1 x a then y else pc, ls, r, h)
  | _ => none
def ax_s13 (pc : Nat) (ls : ax_L) (st : List Value) (h : ax_H) (x y : Nat) : ax_G := match st with
  | .int b :: .int a :: r => some (if ax_c2 x a b then y else pc, ls, r, h)
  | _ => none
def ax_s15 (pc : Nat) (ls : ax_L) (st : List Value) (h : ax_H) (x y : Nat) : ax_G := match st with
  | .ref a :: r => if a < h.1.1 ∧ (h.2.1 a).1 = x + 1 ∧ x < 9 ∧ y < ax_nf x then (ax_fv h x a y).map fun v => (pc, ls, v :: r, h) else none
  | _ => none
def ax_s17 (pc : Nat) (ls : ax_L) (st : List Value) (h : ax_H) (x y : Nat) : ax_G := match st with
  | .int v :: .ref a :: r => if a < h.1.1 ∧ (h.2.1 a).1 = x + 1 ∧ x < 9 ∧ y < ax_nf x ∧ (ax_ft x y = 0 ∨ (ax_ft x y = 1 ∧ (v = 0 ∨ v = 1))) then some (pc, ls, r, (h.1, h.2.1, ax_up h.2.2.1 a y v, h.2.2.2)) else none
  | .ref v :: .ref a :: r => if a < h.1.1 ∧ (h.2.1 a).1 = x + 1 ∧ x < 9 ∧ y < ax_nf x ∧ ax_ft x y = 2 then some (pc, ls, r, (h.1, h.2.1, h.2.2.1, ax_up h.2.2.2.1 a y (some v), h.2.2.2.2)) else none
  | _ => none
def ax_s19 (kd : Nat) (pc : Nat) (ls : ax_L) (st : List Value) (h : ax_H) : ax_G := match st with
  | .int i :: .ref a :: r => if a < h.1.1 ∧ (h.2.1 a).1 = kd ∧ ax_out i (h.2.1 a).2 = false then some (pc, ls, .int (h.2.2.1 a i.toNatClampNeg) :: r, h) else none
  | _ => none
/-- the script: read by the law alone -/
def ax_s19s (k : Nat) (pc : Nat) (ls : ax_L) (st : List Value) (h : ax_H) : ax_G := match st with
  | .int i :: .ref a :: r => if k = 0 ∧ a = 1000000000 ∧ ax_out i (h.2.1 a).2 = false then some (pc, ls, .int (h.2.2.1 a i.toNatClampNeg) :: r, h) else none
  | _ => none
def ax_s20 (kd : Nat) (pc : Nat) (ls : ax_L) (st : List Value) (h : ax_H) : ax_G := match st with
  | .int v :: .int i :: .ref a :: r => if a < h.1.1 ∧ (h.2.1 a).1 = kd ∧ ax_out i (h.2.1 a).2 = false ∧ (kd = 20 ∨ (kd = 21 ∧ (v = 0 ∨ v = 1))) then some (pc, ls, r, (h.1, h.2.1, ax_up h.2.2.1 a i.toNatClampNeg v, h.2.2.2)) else none
  | _ => none
def ax_s23 (pc : Nat) (ls : ax_L) (st : List Value) (h : ax_H) : ax_G := match st with
  | .int i :: .ref a :: r => if a < h.1.1 ∧ (h.2.1 a).1 = 22 ∧ ax_out i (h.2.1 a).2 = false then some (pc, ls, .long (h.2.2.2.2 a i.toNatClampNeg) :: r, h) else none
  | _ => none
def ax_s24 (pc : Nat) (ls : ax_L) (st : List Value) (h : ax_H) : ax_G := match st with
  | .long v :: .int i :: .ref a :: r => if a < h.1.1 ∧ (h.2.1 a).1 = 22 ∧ ax_out i (h.2.1 a).2 = false then some (pc, ls, r, (h.1, h.2.1, h.2.2.1, h.2.2.2.1, ax_up h.2.2.2.2 a i.toNatClampNeg v)) else none
  | _ => none
def ax_ra (x : Nat) : Bool := x == 30 || x == 31 || x == 32 || x == 36
def ax_s25 (pc : Nat) (ls : ax_L) (st : List Value) (h : ax_H) : ax_G := match st with
  | .int i :: .ref a :: r => if a < h.1.1 ∧ ax_ra (h.2.1 a).1 = true ∧ ax_out i (h.2.1 a).2 = false then (h.2.2.2.1 a i.toNatClampNeg).map fun v => (pc, ls, .ref v :: r, h) else none
  | _ => none
def ax_s26 (pc : Nat) (ls : ax_L) (st : List Value) (h : ax_H) : ax_G := match st with
  | .ref v :: .int i :: .ref a :: r => if a < h.1.1 ∧ v < h.1.1 ∧ ax_ra (h.2.1 a).1 = true ∧ (h.2.1 v).1 + 29 = (h.2.1 a).1 ∧ ax_out i (h.2.1 a).2 = false then some (pc, ls, r, (h.1, h.2.1, h.2.2.1, ax_up h.2.2.2.1 a i.toNatClampNeg (some v), h.2.2.2.2)) else none
  | _ => none
def ax_s27 (k : Nat) (pc : Nat) (ls : ax_L) (st : List Value) (h : ax_H) : ax_G := match st with
  | .ref a :: r => if (a < h.1.1 ∧ (h.2.1 a).1 = 20) ∨ (k = 0 ∧ a = 1000000000) then some (pc, ls, .int (Int32.ofNat (h.2.1 a).2) :: r, h) else none
  | _ => none
def ax_s28 (pc : Nat) (ls : ax_L) (st : List Value) (h : ax_H) (x : Nat) : ax_G := if x < 9 ∧ h.1.1 < 900000000 then some (pc, ls, .ref h.1.1 :: st, ax_new h (x + 1) (ax_nf x)) else none
def ax_s29 (pc : Nat) (ls : ax_L) (st : List Value) (h : ax_H) (x : Nat) : ax_G := match st with
  | .int n :: r => if h.1.1 < 900000000 ∧ ¬ n < 0 ∧ n.toNatClampNeg ≤ 10000 ∧ (x = 20 ∨ x = 21 ∨ x = 22) then some (pc, ls, .ref h.1.1 :: r, ax_new h x n.toNatClampNeg) else none
  | _ => none
def ax_s30 (pc : Nat) (ls : ax_L) (st : List Value) (h : ax_H) (x : Nat) : ax_G := match st with
  | .int n :: r => if h.1.1 < 900000000 ∧ ¬ n < 0 ∧ n.toNatClampNeg ≤ 10000 ∧ (x = 0 ∨ x = 1 ∨ x = 2 ∨ x = 6) then some (pc, ls, .ref h.1.1 :: r, ax_new h (x + 30) n.toNatClampNeg) else none
  | _ => none
def ax_s31 (pc : Nat) (ls : ax_L) (st : List Value) (h : ax_H) : ax_G := match st with
  | .ref _ :: r => if (r.map fun v => v.category).sum ≤ 8 then some (pc, ls, r, h) else none
  | _ => none
/-- System.arraycopy of a whole int[] of eight onto another one -/
def ax_s32 (pc : Nat) (ls : ax_L) (st : List Value) (h : ax_H) : ax_G := match st with
  | .int n :: .int d :: .ref b :: .int c :: .ref a :: r => if a < h.1.1 ∧ b < h.1.1 ∧ a ≠ b ∧ h.2.1 a = (20, 8) ∧ h.2.1 b = (20, 8) ∧ n = 8 ∧ c = 0 ∧ d = 0 ∧ r = [] then some (pc, ls, r, (h.1, h.2.1, ax_rw h.2.2.1 b (fun j => if j < 8 then h.2.2.1 a j else h.2.2.1 b j), h.2.2.2)) else none
  | _ => none
def ax_s33 (ls : ax_L) (st : List Value) (h : ax_H) (w : Int × List Nat × Nat) : ax_G := match st with
  | .int a :: r => some (if a.toInt < w.1 then w.2.2 else (w.2.1[(a.toInt - w.1).toNat]?).getD w.2.2, ls, r, h)
  | _ => none
def ax_sw : Nat → Int × List Nat × Nat := fun c => match c with
  | 0 => (0, [112, 200, 320, 408, 512, 568, 631, 723, 791, 827, 883, 939, 995, 1063], 1119)
  | 1 => (0, [100, 133, 168, 203, 238, 265, 275, 281], 316)
  | 2 => (2, [80, 177, 177, 132, 165, 98, 119], 177)
  | 3 => (0, [40, 45, 50, 55, 74, 93], 98)
  | 4 => (0, [64, 142, 71, 119, 119, 142, 142, 95], 142)
  | 5 => (0, [52, 100, 112, 159, 172, 255, 255, 185, 246], 255)
  | 6 => (0, [116, 133, 146, 161, 188, 211, 249, 264], 278)
  | _ => (0, [60, 87, 92, 97, 120, 143], 148)
/-- one step of a method k, ahead of pc, by its row; no call, no end -/
def ax_step (k pc : Nat) (r : ax_R) (ls : ax_L) (st : List Value) (h : ax_H) : ax_G := match r.1 with
  | 0 => some (pc + r.2.1, ls, .int (Int32.ofInt r.2.2.2.2) :: st, h)
  | 1 => ax_s1 (pc + r.2.1) ls st h r.2.2.1
  | 2 => ax_s2 (pc + r.2.1) ls st h r.2.2.1
  | 3 => ax_s3 (pc + r.2.1) ls st h r.2.2.1
  | 4 => ax_s4 (pc + r.2.1) ls st h r.2.2.1
  | 5 => ax_s5 (pc + r.2.1) ls st h r.2.2.1 r.2.2.2.2
  | 6 => ax_s6 (pc + r.2.1) ls st h r.2.2.1
  | 7 => ax_s7 (pc + r.2.1) ls st h
  | 8 => ax_s8 (pc + r.2.1) ls st h
  | 9 => some (pc + r.2.1, ls, .long (Int64.ofNat r.2.2.1) :: st, h)
  | 10 => ax_s10 (pc + r.2.1) ls st h
  | 11 => ax_s11 (pc + r.2.1) ls st h
  | 12 => ax_s12 (pc + r.2.1) ls st h r.2.2.1 r.2.2.2.1
  | 13 => ax_s13 (pc + r.2.1) ls st h r.2.2.1 r.2.2.2.1
  | 14 => some (r.2.2.2.1, ls, st, h)
  | 15 => ax_s15 (pc + r.2.1) ls st h r.2.2.1 r.2.2.2.1
  | 16 => ax_s15 (pc + r.2.1) ls st h r.2.2.1 r.2.2.2.1
  | 17 => ax_s17 (pc + r.2.1) ls st h r.2.2.1 r.2.2.2.1
  | 18 => ax_s17 (pc + r.2.1) ls st h r.2.2.1 r.2.2.2.1
  | 19 => ax_s19 20 (pc + r.2.1) ls st h
  | 20 => ax_s20 20 (pc + r.2.1) ls st h
  | 21 => ax_s19 21 (pc + r.2.1) ls st h
  | 22 => ax_s20 21 (pc + r.2.1) ls st h
  | 23 => ax_s23 (pc + r.2.1) ls st h
  | 24 => ax_s24 (pc + r.2.1) ls st h
  | 25 => ax_s25 (pc + r.2.1) ls st h
  | 26 => ax_s26 (pc + r.2.1) ls st h
  | 27 => ax_s27 k (pc + r.2.1) ls st h
  | 28 => ax_s28 (pc + r.2.1) ls st h r.2.2.1
  | 29 => ax_s29 (pc + r.2.1) ls st h r.2.2.1
  | 30 => ax_s30 (pc + r.2.1) ls st h r.2.2.1
  | 31 => ax_s31 (pc + r.2.1) ls st h
  | 32 => ax_s32 (pc + r.2.1) ls st h
  | 33 => ax_s33 ls st h (ax_sw r.2.2.1)
  | 34 => ax_s19s k (pc + r.2.1) ls st h
  | _ => none
end
section
/-! what an abstract heap says of the machine's heap H: cell a lies at b0 + a; the script at b -/
def ax_g (b b0 a : Nat) : Nat := if a = 1000000000 then b else b0 + a
def ax_cv (b b0 : Nat) (v : Value) : Value := match v with
  | .ref a => .ref (ax_g b b0 a)
  | v => v
def ax_fw (b b0 : Nat) (h : ax_H) (ci a i : Nat) : Value := if ax_ft ci i = 2 then va_rf ((h.2.2.2.1 a i).map (ax_g b b0)) else .int (h.2.2.1 a i)
def ax_cell (D : va_G) (cA : Nat → ClassId) (b b0 : Nat) (h : ax_H) (a : Nat) (H : Heap) : Prop :=
  (∀ ci, ci < 9 → (h.2.1 a).1 = ci + 1 → t_OB (b0 + a) (D.1 ci) (ax_nf ci) (D.2 ci) H (ax_fw b b0 h ci a)) ∧
  ((h.2.1 a).1 = 20 ∨ (h.2.1 a).1 = 21 → H[b0 + a]? = some (arrV (cA (h.2.1 a).1) (h.2.1 a).2 (fun j => .int (h.2.2.1 a j)))) ∧
  ((h.2.1 a).1 = 22 → H[b0 + a]? = some (arrV (cA 22) (h.2.1 a).2 (fun j => .long (h.2.2.2.2 a j)))) ∧
  (ax_ra (h.2.1 a).1 = true → H[b0 + a]? = some (arrV (cA (h.2.1 a).1) (h.2.1 a).2 (fun j => va_rf ((h.2.2.2.1 a j).map (ax_g b b0)))))
def ax_rel (D : va_G) (cA : Nat → ClassId) (b b0 : Nat) (S : (Nat × Nat) × (Nat → Int32)) (h : ax_H) (H : Heap) : Prop := H.size = b0 + h.1.1 ∧ h.1.1 < 1000000000 ∧ (∀ a, a < h.1.1 → ax_cell D cA b b0 h a H) ∧ h.2.1 1000000000 = S.1 ∧ h.2.2.1 1000000000 = S.2
theorem ax_g_lt {b b0 a : Nat} (h : a < 1000000000) : ax_g b b0 a = b0 + a := by
  unfold ax_g; rw [if_neg (by omega)]
theorem ax_cv_int (b b0 : Nat) (x : Int32) : ax_cv b b0 (.int x) = .int x := rfl
theorem ax_cv_long (b b0 : Nat) (x : Int64) : ax_cv b b0 (.long x) = .long x := rfl
theorem ax_cv_ref (b b0 : Nat) (a : Nat) : ax_cv b b0 (.ref a) = .ref (ax_g b b0 a) := rfl
theorem ax_cv_cat (b b0 : Nat) (v : Value) : (ax_cv b b0 v).category = v.category := by cases v <;> rfl
theorem ax_cell_congr {D : va_G} {cA : Nat → ClassId} {b b0 : Nat} {h h' : ax_H} {a : Nat} {H H' : Heap} (e1 : h'.2.1 a = h.2.1 a) (e2 : h'.2.2.1 a = h.2.2.1 a) (e3 : h'.2.2.2.1 a = h.2.2.2.1 a) (e4 : h'.2.2.2.2 a = h.2.2.2.2 a) (eH : H'[b0 + a]? = H[b0 + a]?) (hc : ax_cell D cA b b0 h a H) : ax_cell D cA b b0 h' a H' := by
  obtain ⟨c1, c2, c3, c4⟩ := hc
  unfold ax_cell
  rw [e1, e2, e3, e4, eH]
  refine ⟨fun ci h9 hk => ?_, c2, c3, c4⟩
  refine ((c1 ci h9 hk).kept eH).to (fun i hi => ?_)
  unfold ax_fw
  rw [e2, e3]
theorem ax_up_other {α : Type} (f : Nat → Nat → α) {a a' i : Nat} (x : α) (h : a' ≠ a) : ax_up f a i x a' = f a' := by
  funext j
  simp [ax_up, h]
theorem ax_up_self {α : Type} (f : Nat → Nat → α) (a i : Nat) (x : α) : ax_up f a i x a = fun j => if j = i then x else f a j := by
  funext j
  simp [ax_up]
theorem ax_rw_other {α : Type} (f : Nat → Nat → α) {a a' : Nat} (g : Nat → α) (h : a' ≠ a) : ax_rw f a g a' = f a' := by
  simp [ax_rw, h]
theorem ax_rw_self {α : Type} (f : Nat → Nat → α) (a : Nat) (g : Nat → α) : ax_rw f a g a = g := by
  simp [ax_rw]
theorem ax_sh_other (f : Nat → Nat × Nat) {a a' : Nat} (x : Nat × Nat) (h : a' ≠ a) : ax_sh f a x a' = f a' := by
  simp [ax_sh, h]
theorem ax_sh_self (f : Nat → Nat × Nat) (a : Nat) (x : Nat × Nat) : ax_sh f a x a = x := by
  simp [ax_sh]
/-- a cell is pushed: the rest stays -/
theorem ax_rel_new {D : va_G} {cA : Nat → ClassId} {b b0 : Nat} {S : (Nat × Nat) × (Nat → Int32)} {h : ax_H} {H H' : Heap} {kd n : Nat} (hr : ax_rel D cA b b0 S h H) (hs : h.1.1 < 900000000) (hz : H'.size = b0 + h.1.1 + 1) (ho : ∀ q : Nat, q < b0 + h.1.1 → H'[q]? = H[q]?) (hc : ax_cell D cA b b0 (ax_new h kd n) h.1.1 H') : ax_rel D cA b b0 S (ax_new h kd n) H' := by
  obtain ⟨r1, r2, r3, r4, r5⟩ := hr
  have hns : (1000000000 : Nat) ≠ h.1.1 := by omega
  refine ⟨by rw [hz]; show _ = b0 + (h.1.1 + 1); omega, by show h.1.1 + 1 < _; omega, fun a ha => ?_, (ax_sh_other _ _ hns).trans r4, (ax_rw_other _ _ hns).trans r5⟩
  have ha : a < h.1.1 + 1 := ha
  rcases Nat.lt_or_ge a h.1.1 with hl | hl
  · have hne : a ≠ h.1.1 := Nat.ne_of_lt hl
    exact ax_cell_congr (ax_sh_other _ _ hne) (ax_rw_other _ _ hne) (ax_rw_other _ _ hne) (ax_rw_other _ _ hne) (ho _ (by omega)) (r3 a hl)
  · have : a = h.1.1 := by omega
    subst this
    exact hc
/-- one cell is written: the rest stays -/
theorem ax_rel_set {D : va_G} {cA : Nat → ClassId} {b b0 : Nat} {S : (Nat × Nat) × (Nat → Int32)} {h h' : ax_H} {H H' : Heap} {a : Nat} (hr : ax_rel D cA b b0 S h H) (hns : (1000000000 : Nat) ≠ a) (ez : h'.1 = h.1) (hz : H'.size = H.size) (ho : ∀ q : Nat, q ≠ b0 + a → H'[q]? = H[q]?) (hk : ∀ a', a' ≠ a → h'.2.1 a' = h.2.1 a' ∧ h'.2.2.1 a' = h.2.2.1 a' ∧ h'.2.2.2.1 a' = h.2.2.2.1 a' ∧ h'.2.2.2.2 a' = h.2.2.2.2 a') (hc : ax_cell D cA b b0 h' a H') : ax_rel D cA b b0 S h' H' := by
  obtain ⟨r1, r2, r3, r4, r5⟩ := hr
  refine ⟨by rw [hz, r1, ez], by rw [ez]; exact r2, fun a' ha' => ?_, (hk _ hns).1.trans r4, (hk _ hns).2.1.trans r5⟩
  rw [ez] at ha'
  by_cases e : a' = a
  · subst e; exact hc
  · obtain ⟨k1, k2, k3, k4⟩ := hk a' e
    exact ax_cell_congr k1 k2 k3 k4 (ho _ (by omega)) (r3 a' ha')
/-! the locals -/
def ax_lv (b b0 : Nat) (ls : ax_L) (C : Array Slot) : Prop := C.size = ls.length ∧ lv_wf C ∧ ∀ (i : Nat) (v : Value), ls[i]? = some (some v) → v.category = 1 ∧ C[i]? = some (.val (ax_cv b b0 v))
def ax_al (b b0 : Nat) (ls : ax_L) : List (Nat × Value) := (List.range ls.length).filterMap (fun i => (ls[i]?.join).map (fun v => (i, ax_cv b b0 v)))
theorem ax_al_mem {b b0 : Nat} {ls : ax_L} {i : Nat} {v : Value} : (i, v) ∈ ax_al b b0 ls ↔ ∃ w, ls[i]? = some (some w) ∧ v = ax_cv b b0 w := by
  unfold ax_al
  rw [List.mem_filterMap]
  constructor
  · rintro ⟨j, hj, he⟩
    cases hl : ls[j]? with
    | none => rw [hl] at he; simp at he
    | some o =>
      rw [hl] at he
      cases o with
      | none => simp at he
      | some w =>
        simp at he
        obtain ⟨rfl, rfl⟩ := he
        exact ⟨w, hl, rfl⟩
  · rintro ⟨w, hw, rfl⟩
    have hi : i < ls.length := (List.getElem?_eq_some_iff.mp hw).1
    exact ⟨i, List.mem_range.mpr hi, by rw [hw]; rfl⟩
theorem ax_lv_has {b b0 : Nat} {ls : ax_L} {C : Array Slot} (h : ax_lv b b0 ls C) : lv_has C ls.length (ax_al b b0 ls) := by
  obtain ⟨h1, h2, h3⟩ := h
  refine ⟨h1, h2, fun q hq => ?_⟩
  obtain ⟨i, v⟩ := q
  obtain ⟨w, hw, rfl⟩ := ax_al_mem.mp hq
  exact (h3 i w hw).2
theorem ax_lv_put {b b0 : Nat} {ls : ax_L} {C C' : Array Slot} {x : Nat} {v : Value} (h : ax_lv b b0 ls C) (hx : x < ls.length) (hc : v.category = 1) (h' : lv_has C' ls.length ((x, ax_cv b b0 v) :: (ax_al b b0 ls).filter (fun q => !(q.1 == x) && !(q.1 + 1 == x && q.2.category == 2)))) : ax_lv b b0 (ls.set x (some v)) C' := by
  obtain ⟨h1, h2, h3⟩ := h'
  refine ⟨by rw [h1]; simp, h2, fun i w hw => ?_⟩
  by_cases e : i = x
  · subst e
    rw [List.getElem?_set_self hx] at hw
    cases hw
    exact ⟨hc, h3 (i, ax_cv b b0 v) List.mem_cons_self⟩
  · rw [List.getElem?_set_ne (fun q => e q.symm)] at hw
    obtain ⟨k1, k2⟩ := h.2.2 i w hw
    refine ⟨k1, h3 (i, ax_cv b b0 w) (List.mem_cons_of_mem _ (List.mem_filter.mpr ⟨ax_al_mem.mpr ⟨w, hw, rfl⟩, ?_⟩))⟩
    have k3 : (ax_cv b b0 w).category = 1 := by rw [ax_cv_cat]; exact k1
    simp [e, k3]
end
section
/-! which instructions a row may stand for -/
def ax_i6 (x : Nat) : Instr := match x with
  | 0 => .iadd
  | 1 => .isub
  | 2 => .imul
  | 3 => .iand
  | 4 => .ior
  | 5 => .ixor
  | 6 => .ishl
  | _ => .ishr
def ax_i12 (x : Nat) (o : Int) : Instr := match x with
  | 0 => .ifCond .eq o
  | 1 => .ifCond .ne o
  | 2 => .ifCond .lt o
  | 3 => .ifCond .ge o
  | 4 => .ifCond .gt o
  | _ => .ifCond .le o
def ax_i13 (x : Nat) (o : Int) : Instr := match x with
  | 0 => .if_icmp .eq o
  | 1 => .if_icmp .ne o
  | 2 => .if_icmp .lt o
  | 3 => .if_icmp .ge o
  | 4 => .if_icmp .gt o
  | _ => .if_icmp .le o
def ax_at (x : Nat) : ArrayType := match x with
  | 20 => .int
  | 21 => .boolean
  | _ => .long
def ax_i33 (pc : Nat) (w : Int × List Nat × Nat) : Instr := .tableswitch ((w.2.2 : Int) - pc) w.1 (w.1 + w.2.1.length - 1) (w.2.1.map fun (t : Nat) => (t : Int) - pc).toArray
section AxG
variable {p : Program} {l : Launch} {e : Env} {R : Room} {s : State} {m : MethodId} {args : Array Value} {below : List Frame} {meth : Method} {c : Code} {H : Heap} {locs : List Loc} {cells slots : Nat} {Q : State → Prop}
variable {cc : ByteArray} {pc q : Nat} {C : Array Slot} {b b0 : Nat} {ls ls' : ax_L} {st st' : List Value} {h h' : ax_H}
theorem ax_o0 (hx : p.tables.exec = Jvm.exec) (hb : c.code = cc) {v : Int} {n : Nat} (hd : (decode cc pc = .ok (.iconst v, 1) ∧ n = 1) ∨ (decode cc pc = .ok (.bipush v, 2) ∧ n = 2 ∧ (Int8.ofInt v).toInt32 = Int32.ofInt v) ∨ (decode cc pc = .ok (.sipush v, 3) ∧ n = 3 ∧ (Int16.ofInt v).toInt32 = Int32.ofInt v))
    (kk : W p l e R s m args below meth c H locs cells slots Q (F0 m (pc + n) C ((Value.int (Int32.ofInt v) :: st).map (ax_cv b b0)))) : W p l e R s m args below meth c H locs cells slots Q (F0 m pc C (st.map (ax_cv b b0))) := by
  rcases hd with ⟨d, rfl⟩ | ⟨d, rfl, e1⟩ | ⟨d, rfl, e1⟩
  · exact lv_iconst hx hb d rfl kk
  · exact lv_bipush hx hb d e1 kk
  · exact lv_sipush hx hb d e1 kk
theorem ax_o1 (hx : p.tables.exec = Jvm.exec) (hb : c.code = cc) {x n : Nat} (hl : ax_lv b b0 ls C) (hd : (∃ k : Fin 4, (k : Nat) = x ∧ decode cc pc = .ok (.iload_n k, 1) ∧ n = 1) ∨ (decode cc pc = .ok (.iload x, 2) ∧ n = 2)) (hs : ax_s1 (pc + n) ls st h x = some (q, ls', st', h'))
    (kk : ls' = ls → h' = h → W p l e R s m args below meth c H locs cells slots Q (F0 m q C (st'.map (ax_cv b b0)))) : W p l e R s m args below meth c H locs cells slots Q (F0 m pc C (st.map (ax_cv b b0))) := by
  unfold ax_s1 at hs
  split at hs
  · rename_i a ha
    cases hs
    have hv := (hl.2.2 x _ ha).2
    rcases hd with ⟨k, e1, d, rfl⟩ | ⟨d, rfl⟩
    · exact lv_iload_n hx hb d e1 hv (kk rfl rfl)
    · exact lv_iload hx hb d hv (kk rfl rfl)
  · cases hs
theorem ax_o2 (hx : p.tables.exec = Jvm.exec) (hb : c.code = cc) {x n : Nat} (hl : ax_lv b b0 ls C) (hd : (∃ k : Fin 4, (k : Nat) = x ∧ decode cc pc = .ok (.aload_n k, 1) ∧ n = 1) ∨ (decode cc pc = .ok (.aload x, 2) ∧ n = 2)) (hs : ax_s2 (pc + n) ls st h x = some (q, ls', st', h'))
    (kk : ls' = ls → h' = h → W p l e R s m args below meth c H locs cells slots Q (F0 m q C (st'.map (ax_cv b b0)))) : W p l e R s m args below meth c H locs cells slots Q (F0 m pc C (st.map (ax_cv b b0))) := by
  unfold ax_s2 at hs
  split at hs
  · rename_i a ha
    cases hs
    have hv := (hl.2.2 x _ ha).2
    rcases hd with ⟨k, e1, d, rfl⟩ | ⟨d, rfl⟩
    · exact lv_aload_n hx hb d e1 hv (kk rfl rfl)
    · exact lv_aload hx hb d hv (kk rfl rfl)
  · cases hs
theorem ax_o3 (hx : p.tables.exec = Jvm.exec) (hb : c.code = cc) {x n : Nat} (hl : ax_lv b b0 ls C) (hd : (∃ k : Fin 4, (k : Nat) = x ∧ decode cc pc = .ok (.istore_n k, 1) ∧ n = 1) ∨ (decode cc pc = .ok (.istore x, 2) ∧ n = 2)) (hs : ax_s3 (pc + n) ls st h x = some (q, ls', st', h'))
    (kk : ∀ C', ax_lv b b0 ls' C' → h' = h → W p l e R s m args below meth c H locs cells slots Q (F0 m q C' (st'.map (ax_cv b b0)))) : W p l e R s m args below meth c H locs cells slots Q (F0 m pc C (st.map (ax_cv b b0))) := by
  unfold ax_s3 at hs
  split at hs
  · rename_i a r
    split at hs
    · rename_i hx2
      cases hs
      rcases hd with ⟨k, e1, d, rfl⟩ | ⟨d, rfl⟩
      · exact lv_istore_n hx hb d e1 (ax_lv_has hl) hx2 rfl (fun C' hC => kk C' (ax_lv_put (v := .int a) hl hx2 rfl hC) rfl)
      · exact lv_istore hx hb d (ax_lv_has hl) hx2 rfl (fun C' hC => kk C' (ax_lv_put (v := .int a) hl hx2 rfl hC) rfl)
    · cases hs
  · cases hs
theorem ax_o4 (hx : p.tables.exec = Jvm.exec) (hb : c.code = cc) {x n : Nat} (hl : ax_lv b b0 ls C) (hd : (∃ k : Fin 4, (k : Nat) = x ∧ decode cc pc = .ok (.astore_n k, 1) ∧ n = 1) ∨ (decode cc pc = .ok (.astore x, 2) ∧ n = 2)) (hs : ax_s4 (pc + n) ls st h x = some (q, ls', st', h'))
    (kk : ∀ C', ax_lv b b0 ls' C' → h' = h → W p l e R s m args below meth c H locs cells slots Q (F0 m q C' (st'.map (ax_cv b b0)))) : W p l e R s m args below meth c H locs cells slots Q (F0 m pc C (st.map (ax_cv b b0))) := by
  unfold ax_s4 at hs
  split at hs
  · rename_i a r
    split at hs
    · rename_i hx2
      cases hs
      rcases hd with ⟨k, e1, d, rfl⟩ | ⟨d, rfl⟩
      · exact lv_astore_n hx hb d e1 (ax_lv_has hl) hx2 rfl (fun C' hC => kk C' (ax_lv_put (v := .ref a) hl hx2 rfl hC) rfl)
      · exact lv_astore hx hb d (ax_lv_has hl) hx2 rfl (fun C' hC => kk C' (ax_lv_put (v := .ref a) hl hx2 rfl hC) rfl)
    · cases hs
  · cases hs
theorem ax_o5 (hx : p.tables.exec = Jvm.exec) (hb : c.code = cc) {x : Nat} {v : Int} (hl : ax_lv b b0 ls C) (hd : decode cc pc = .ok (.iinc x v, 3)) (hs : ax_s5 (pc + 3) ls st h x v = some (q, ls', st', h'))
    (kk : ∀ C', ax_lv b b0 ls' C' → h' = h → W p l e R s m args below meth c H locs cells slots Q (F0 m q C' (st'.map (ax_cv b b0)))) : W p l e R s m args below meth c H locs cells slots Q (F0 m pc C (st.map (ax_cv b b0))) := by
  unfold ax_s5 at hs
  split at hs
  · rename_i a ha
    cases hs
    have hx2 : x < ls.length := (List.getElem?_eq_some_iff.mp ha).1
    obtain ⟨k, hk⟩ := List.getElem?_of_mem (ax_al_mem (b := b) (b0 := b0) (v := .int a)|>.mpr ⟨_, ha, rfl⟩)
    exact lv_iinc hx hb hd (ax_lv_has hl) hk rfl hx2 rfl (fun C' hC => kk C' (ax_lv_put (v := .int (a + Int32.ofInt v)) hl hx2 rfl hC) rfl)
  · cases hs
theorem ax_o6 (hx : p.tables.exec = Jvm.exec) (hb : c.code = cc) {x : Nat} (hd : decode cc pc = .ok (ax_i6 x, 1)) (hs : ax_s6 (pc + 1) ls st h x = some (q, ls', st', h'))
    (kk : ls' = ls → h' = h → W p l e R s m args below meth c H locs cells slots Q (F0 m q C (st'.map (ax_cv b b0)))) : W p l e R s m args below meth c H locs cells slots Q (F0 m pc C (st.map (ax_cv b b0))) := by
  unfold ax_s6 at hs
  split at hs
  · rename_i y a r
    cases hs
    have kk := kk rfl rfl
    unfold ax_i6 at hd
    unfold ax_bin at kk
    split at hd
    · exact lv_iadd hx hb hd kk
    · exact lv_isub hx hb hd kk
    · exact lv_imul hx hb hd kk
    · exact lv_iand hx hb hd kk
    · exact lv_ior hx hb hd kk
    · exact lv_ixor hx hb hd kk
    · exact lv_ishl hx hb hd kk
    · rename_i n0 n1 n2 n3 n4 n5 n6
      split at kk
      all_goals first | (exact absurd rfl n0) | (exact absurd rfl n1) | (exact absurd rfl n2) | (exact absurd rfl n3) | (exact absurd rfl n4) | (exact absurd rfl n5) | (exact absurd rfl n6) | exact lv_ishr hx hb hd kk
  · cases hs
theorem ax_o7 (hx : p.tables.exec = Jvm.exec) (hb : c.code = cc) (hd : decode cc pc = .ok (.i2l, 1)) (hs : ax_s7 (pc + 1) ls st h = some (q, ls', st', h'))
    (kk : ls' = ls → h' = h → W p l e R s m args below meth c H locs cells slots Q (F0 m q C (st'.map (ax_cv b b0)))) : W p l e R s m args below meth c H locs cells slots Q (F0 m pc C (st.map (ax_cv b b0))) := by
  unfold ax_s7 at hs
  split at hs
  · cases hs
    exact lv_i2l hx hb hd rfl (kk rfl rfl)
  · cases hs
theorem ax_o8 (hx : p.tables.exec = Jvm.exec) (hb : c.code = cc) (hd : decode cc pc = .ok (.lcmp, 1)) (hs : ax_s8 (pc + 1) ls st h = some (q, ls', st', h'))
    (kk : ls' = ls → h' = h → W p l e R s m args below meth c H locs cells slots Q (F0 m q C (st'.map (ax_cv b b0)))) : W p l e R s m args below meth c H locs cells slots Q (F0 m pc C (st.map (ax_cv b b0))) := by
  unfold ax_s8 at hs
  split at hs
  · cases hs
    exact W.lcmp hx hb hd (kk rfl rfl)
  · cases hs
theorem ax_o9 (hx : p.tables.exec = Jvm.exec) (hb : c.code = cc) {x : Nat} (hd : ∃ k : Fin 2, (k : Nat) = x ∧ decode cc pc = .ok (.lconst k, 1))
    (kk : W p l e R s m args below meth c H locs cells slots Q (F0 m (pc + 1) C ((Value.long (Int64.ofNat x) :: st).map (ax_cv b b0)))) : W p l e R s m args below meth c H locs cells slots Q (F0 m pc C (st.map (ax_cv b b0))) := by
  obtain ⟨k, rfl, d⟩ := hd
  exact lv_lconst hx hb d rfl kk
theorem ax_o10 (hx : p.tables.exec = Jvm.exec) (hb : c.code = cc) (hd : decode cc pc = .ok (.dup, 1)) (hs : ax_s10 (pc + 1) ls st h = some (q, ls', st', h'))
    (kk : ls' = ls → h' = h → W p l e R s m args below meth c H locs cells slots Q (F0 m q C (st'.map (ax_cv b b0)))) : W p l e R s m args below meth c H locs cells slots Q (F0 m pc C (st.map (ax_cv b b0))) := by
  unfold ax_s10 at hs
  split at hs
  · cases hs
    exact lv_dup hx hb hd rfl (kk rfl rfl)
  · cases hs
    exact lv_dup hx hb hd rfl (kk rfl rfl)
  · cases hs
theorem ax_o11 (hx : p.tables.exec = Jvm.exec) (hb : c.code = cc) (hd : decode cc pc = .ok (.dup2, 1)) (hs : ax_s11 (pc + 1) ls st h = some (q, ls', st', h'))
    (kk : ls' = ls → h' = h → W p l e R s m args below meth c H locs cells slots Q (F0 m q C (st'.map (ax_cv b b0)))) : W p l e R s m args below meth c H locs cells slots Q (F0 m pc C (st.map (ax_cv b b0))) := by
  unfold ax_s11 at hs
  split at hs
  · cases hs
    exact lv_dup2_11 hx hb hd rfl rfl (kk rfl rfl)
  · cases hs
theorem ax_o12 (hx : p.tables.exec = Jvm.exec) (hb : c.code = cc) {x y : Nat} (hd : decode cc pc = .ok (ax_i12 x ((y : Int) - pc), 3)) (hs : ax_s12 (pc + 3) ls st h x y = some (q, ls', st', h'))
    (kk : ls' = ls → h' = h → W p l e R s m args below meth c H locs cells slots Q (F0 m q C (st'.map (ax_cv b b0)))) : W p l e R s m args below meth c H locs cells slots Q (F0 m pc C (st.map (ax_cv b b0))) := by
  unfold ax_s12 at hs
  have ht : (pc : Int) + ((y : Int) - pc) = (y : Int) := by omega
  split at hs
  · rename_i a r
    cases hs
    have kk := kk rfl rfl
    unfold ax_i12 at hd
    unfold ax_c1 at kk
    split at hd
    · exact lv_if_eq hx hb hd ht (fun z => by simpa [z] using kk) (fun z => by simpa [z] using kk)
    · exact lv_if_ne hx hb hd ht (fun z => by simpa [z] using kk) (fun z => by simpa [z] using kk)
    · exact lv_if_lt hx hb hd ht (fun z => by simpa [z] using kk) (fun z => by simpa [z] using kk)
    · exact lv_if_ge hx hb hd ht (fun z => by simpa [z] using kk) (fun z => by simpa [z] using kk)
    · exact lv_if_gt hx hb hd ht (fun z => by simpa [z] using kk) (fun z => by simpa [z] using kk)
    · rename_i n0 n1 n2 n3 n4
      split at kk
      all_goals first | (exact absurd rfl n0) | (exact absurd rfl n1) | (exact absurd rfl n2) | (exact absurd rfl n3) | (exact absurd rfl n4) | exact lv_if_le hx hb hd ht (fun z => by simpa [z] using kk) (fun z => by simpa [z] using kk)
  · cases hs
theorem ax_o13 (hx : p.tables.exec = Jvm.exec) (hb : c.code = cc) {x y : Nat} (hd : decode cc pc = .ok (ax_i13 x ((y : Int) - pc), 3)) (hs : ax_s13 (pc + 3) ls st h x y = some (q, ls', st', h'))
    (kk : ls' = ls → h' = h → W p l e R s m args below meth c H locs cells slots Q (F0 m q C (st'.map (ax_cv b b0)))) : W p l e R s m args below meth c H locs cells slots Q (F0 m pc C (st.map (ax_cv b b0))) := by
  unfold ax_s13 at hs
  have ht : (pc : Int) + ((y : Int) - pc) = (y : Int) := by omega
  split at hs
  · rename_i w a r
    cases hs
    have kk := kk rfl rfl
    unfold ax_i13 at hd
    unfold ax_c2 at kk
    split at hd
    · exact lv_icmp_eq hx hb hd ht (fun z => by simpa [z] using kk) (fun z => by simpa [z] using kk)
    · exact lv_icmp_ne hx hb hd ht (fun z => by simpa [z] using kk) (fun z => by simpa [z] using kk)
    · exact lv_icmp_lt hx hb hd ht (fun z => by simpa [z] using kk) (fun z => by simpa [z] using kk)
    · exact lv_icmp_ge hx hb hd ht (fun z => by simpa [z] using kk) (fun z => by simpa [z] using kk)
    · exact lv_icmp_gt hx hb hd ht (fun z => by simpa [z] using kk) (fun z => by simpa [z] using kk)
    · rename_i n0 n1 n2 n3 n4
      split at kk
      all_goals first | (exact absurd rfl n0) | (exact absurd rfl n1) | (exact absurd rfl n2) | (exact absurd rfl n3) | (exact absurd rfl n4) | exact lv_icmp_le hx hb hd ht (fun z => by simpa [z] using kk) (fun z => by simpa [z] using kk)
  · cases hs
theorem ax_o14 (hx : p.tables.exec = Jvm.exec) (hb : c.code = cc) {y : Nat} (hd : decode cc pc = .ok (.goto ((y : Int) - pc), 3))
    (kk : W p l e R s m args below meth c H locs cells slots Q (F0 m y C (st.map (ax_cv b b0)))) : W p l e R s m args below meth c H locs cells slots Q (F0 m pc C (st.map (ax_cv b b0))) :=
  lv_goto hx hb hd (by omega) kk
theorem ax_o33 (hx : p.tables.exec = Jvm.exec) (hb : c.code = cc) {w : Int × List Nat × Nat} {n : Nat} (hd : decode cc pc = .ok (ax_i33 pc w, n)) (hs : ax_s33 ls st h w = some (q, ls', st', h'))
    (kk : ls' = ls → h' = h → W p l e R s m args below meth c H locs cells slots Q (F0 m q C (st'.map (ax_cv b b0)))) : W p l e R s m args below meth c H locs cells slots Q (F0 m pc C (st.map (ax_cv b b0))) := by
  unfold ax_s33 at hs
  split at hs
  · rename_i a r
    cases hs
    have kk := kk rfl rfl
    unfold ax_i33 at hd
    by_cases h1 : a.toInt < w.1
    · rw [if_pos h1] at kk
      exact lv_tableOut hx hb hd (Or.inl h1) (by omega) kk
    · rw [if_neg h1] at kk
      by_cases h2 : (a.toInt - w.1).toNat < w.2.1.length
      · rw [List.getElem?_eq_getElem h2, Option.getD_some] at kk
        exact lv_tableIn hx hb hd h1 (by omega) (off := (w.2.1[(a.toInt - w.1).toNat] : Int) - pc) (by simp [h2]) (by omega) kk
      · rw [List.getElem?_eq_none (by omega), Option.getD_none] at kk
        exact lv_tableOut hx hb hd (Or.inr (by omega)) (by omega) kk
  · cases hs
end AxG
end
section
/-! rows that read and write cells -/
def ax_aty (x : Nat) : Option FieldType := match x with
  | 20 => some .int
  | 21 => some .boolean
  | 22 => some .long
  | 30 => some (.object "MakerGuard$Body")
  | 31 => some (.object "MakerGuard$Declaration")
  | 32 => some (.object "MakerGuard$Frame")
  | 36 => some (.object "MakerGuard$Sight")
  | _ => none
/-- what the tables say of classes and array classes at a state -/
def ax_K (D : va_G) (cA : Nat → ClassId) (U : State) : Prop := (∀ ci, ci < 9 → u_Kn U (ax_cn ci) (ax_Tf ci) (ax_nf ci) (D.1 ci) (D.2 ci)) ∧ ∀ x ty, ax_aty x = some ty → ArrOfT U (cA x) ty ∧ va_RA U (cA x) ty
theorem ax_K_va {D : va_G} {cA : Nat → ClassId} {U : State} (h : ax_K D cA U) : va_K D ax_cl [] U := ⟨fun ci q hq => by
  obtain ⟨h9, rfl⟩ := ax_cl_of hq
  exact h.1 ci h9, fun k q hk => by simp at hk⟩
theorem ax_ra_aty {x : Nat} (h : ax_ra x = true) : ∃ ci, ci < 9 ∧ x = ci + 30 ∧ ax_aty x = some (.object (ax_cn ci)) := by
  unfold ax_ra at h
  simp only [Bool.or_eq_true, beq_iff_eq] at h
  rcases h with ((rfl | rfl) | rfl) | rfl
  · exact ⟨0, by omega, rfl, rfl⟩
  · exact ⟨1, by omega, rfl, rfl⟩
  · exact ⟨2, by omega, rfl, rfl⟩
  · exact ⟨6, by omega, rfl, rfl⟩
theorem ax_out_in {i : Int32} {n : Nat} (h : ax_out i n = false) : ¬ (i < 0 ∨ n ≤ i.toNatClampNeg) := by
  unfold ax_out at h
  exact of_decide_eq_false h
theorem ax_onws {ci : Nat} {w : Cond} (h : w ∈ u_ws (ax_cn ci) (ax_Tf ci) (ax_nf ci)) : w.onTables = true := by
  unfold u_ws at h
  obtain ⟨k, -, rfl⟩ := List.mem_map.mp h
  unfold u_lay
  split <;> rfl
section AxH
variable {p : Program} {l : Launch} {e : Env} {R : Room} {s : State} {m : MethodId} {args : Array Value} {below : List Frame} {meth : Method} {c : Code} {H : Heap} {locs : List Loc} {cells slots : Nat} {Q : State → Prop}
variable {cc : ByteArray} {pc q : Nat} {C : Array Slot} {b b0 : Nat} {ls ls' : ax_L} {st st' : List Value} {h h' : ax_H} {D : va_G} {cA : Nat → ClassId} {S : (Nat × Nat) × (Nat → Int32)}
theorem ax_hU (hts : ∀ w ∈ lw_tbl, w.onTables = true → w.before args s = true) {ci : Nat} (h9 : ci < 9) : ∀ w ∈ u_ws (ax_cn ci) (ax_Tf ci) (ax_nf ci), w.before args s = true := fun w hw => hts w (ax_in ci h9 w hw) (ax_onws hw)
theorem ax_P1 {ci a : Nat} (h9 : ci < 9) {V : Nat → Value} (ho : t_OB a (D.1 ci) (ax_nf ci) (D.2 ci) H V) : va_P D ax_cl [(a, .inr (ci, (List.range (ax_nf ci)).map V))] H := by
  intro k q hk
  have hz : k < 1 := (List.getElem?_eq_some_iff.mp hk).1
  have hz : k = 0 := by omega
  subst hz
  cases hk
  refine ⟨_, ax_cl_at ci h9, ho.to (fun j hj => ?_)⟩
  have hj : j < ax_nf ci := hj
  simp [vp_V, hj]
theorem ax_fv_fw {h : ax_H} {ci a i : Nat} {v : Value} (hv : ax_fv h ci a i = some v) : ax_fw b b0 h ci a i = ax_cv b b0 v := by
  unfold ax_fv at hv
  unfold ax_fw
  split at hv
  · rename_i e
    rw [if_pos e]
    cases hm : h.2.2.2.1 a i with
    | none => rw [hm] at hv; cases hv
    | some r => rw [hm] at hv; cases hv; rfl
  · rename_i e
    rw [if_neg e]
    cases hv
    rfl
theorem ax_o15 (hx : p.tables.exec = Jvm.exec) (hb : c.code = cc) {own : String} (hown : s.vm.findClass own = some m.cls) (hts : ∀ w ∈ lw_tbl, w.onTables = true → w.before args s = true) (hK : ax_K D cA s) (hr : ax_rel D cA b b0 S h H) {x y idx : Nat} (hd : decode cc pc = .ok (.getfield idx, 3)) (hlk : (Cond.fieldLink own idx (ax_cn x) (ax_Tf x y).2.1 (ax_Tf x y).2.2.1).before args s = true) (hs : ax_s15 (pc + 3) ls st h x y = some (q, ls', st', h'))
    (kk : ls' = ls → h' = h → W p l e R s m args below meth c H locs cells slots Q (F0 m q C (st'.map (ax_cv b b0)))) : W p l e R s m args below meth c H locs cells slots Q (F0 m pc C (st.map (ax_cv b b0))) := by
  unfold ax_s15 at hs
  split at hs
  · rename_i a r
    split at hs
    · rename_i hc
      obtain ⟨h1, h2, h9, hy⟩ := hc
      cases hv : ax_fv h x a y with
      | none => rw [hv] at hs; cases hs
      | some v =>
        rw [hv] at hs
        cases hs
        have kk := kk rfl rfl
        have ho := (hr.2.2.1 a h1).1 x h9 h2
        have hP := ax_P1 h9 ho
        have hg : ax_g b b0 a = b0 + a := ax_g_lt (Nat.lt_trans h1 hr.2.1)
        have := va_get (rest := r.map (ax_cv b b0)) (ls := C) (Q := Q) hx hb (ax_hU hts h9) (fun w hw => hw) hown (ax_K_va hK) hP 0 rfl (ax_cl_at x h9) y hy hlk (fun z hz => by rw [ax_ownok x h9 y hy] at hz; exact hz) (v := ax_cv b b0 v) (by rw [List.getElem?_map, List.getElem?_range hy, ← ax_fv_fw hv]; rfl) hd kk
        simpa only [List.map_cons, ax_cv_ref, hg] using this
    · cases hs
  · cases hs
theorem ax_o16 (hx : p.tables.exec = Jvm.exec) (hb : c.code = cc) {own host : String} (hown : s.vm.findClass own = some m.cls) (hts : ∀ w ∈ lw_tbl, w.onTables = true → w.before args s = true) (hK : ax_K D cA s) (hr : ax_rel D cA b b0 S h H) {x y idx : Nat} (hd : decode cc pc = .ok (.getfield idx, 3)) (hlk : (Cond.fieldLinkNest own idx (ax_cn x) (ax_Tf x y).2.1 (ax_Tf x y).2.2.1 host).before args s = true) (hs : ax_s15 (pc + 3) ls st h x y = some (q, ls', st', h'))
    (kk : ls' = ls → h' = h → W p l e R s m args below meth c H locs cells slots Q (F0 m q C (st'.map (ax_cv b b0)))) : W p l e R s m args below meth c H locs cells slots Q (F0 m pc C (st.map (ax_cv b b0))) := by
  unfold ax_s15 at hs
  split at hs
  · rename_i a r
    split at hs
    · rename_i hc
      obtain ⟨h1, h2, h9, hy⟩ := hc
      cases hv : ax_fv h x a y with
      | none => rw [hv] at hs; cases hs
      | some v =>
        rw [hv] at hs
        cases hs
        have kk := kk rfl rfl
        have ho := (hr.2.2.1 a h1).1 x h9 h2
        have hP := ax_P1 h9 ho
        have hg : ax_g b b0 a = b0 + a := ax_g_lt (Nat.lt_trans h1 hr.2.1)
        have := va_getN (rest := r.map (ax_cv b b0)) (ls := C) (Q := Q) hx hb (ax_hU hts h9) (fun w hw => hw) hown (ax_K_va hK) hP 0 rfl (ax_cl_at x h9) y hy hlk (fun z hz => by rw [ax_ownok x h9 y hy] at hz; exact hz) (v := ax_cv b b0 v) (by rw [List.getElem?_map, List.getElem?_range hy, ← ax_fv_fw hv]; rfl) hd kk
        simpa only [List.map_cons, ax_cv_ref, hg] using this
    · cases hs
  · cases hs
end AxH
end
section
section AxP
variable {p : Program} {l : Launch} {e : Env} {R : Room} {s : State} {m : MethodId} {args : Array Value} {below : List Frame} {meth : Method} {c : Code} {H : Heap} {locs : List Loc} {cells slots : Nat} {Q : State → Prop}
variable {cc : ByteArray} {pc q : Nat} {C : Array Slot} {b b0 : Nat} {ls ls' : ax_L} {st st' : List Value} {h h' : ax_H} {D : va_G} {cA : Nat → ClassId} {S : (Nat × Nat) × (Nat → Int32)}
theorem ax_obj_only {h : ax_H} {a x : Nat} (h9 : x < 9) (h2 : (h.2.1 a).1 = x + 1) {H' : Heap} (ho : t_OB (b0 + a) (D.1 x) (ax_nf x) (D.2 x) H' (ax_fw b b0 h x a)) : ax_cell D cA b b0 h a H' := by
  refine ⟨fun ci hc hk => ?_, fun hk => ?_, fun hk => ?_, fun hk => ?_⟩
  · have : ci = x := by omega
    subst this
    exact ho
  · omega
  · omega
  · obtain ⟨ci, -, e1, -⟩ := ax_ra_aty hk
    omega
theorem ax_fw_int {h : ax_H} {x a y : Nat} {v : Int32} (hf : ax_ft x y ≠ 2) (i : Nat) : updV (ax_fw b b0 h x a) y (.int v) i = ax_fw b b0 (h.1, h.2.1, ax_up h.2.2.1 a y v, h.2.2.2) x a i := by
  unfold updV ax_fw
  by_cases e : i = y
  · subst e
    simp [hf, ax_up]
  · simp [e, ax_up]
theorem ax_fw_ref {h : ax_H} {x a y v : Nat} (hf : ax_ft x y = 2) (i : Nat) : updV (ax_fw b b0 h x a) y (.ref (ax_g b b0 v)) i = ax_fw b b0 (h.1, h.2.1, h.2.2.1, ax_up h.2.2.2.1 a y (some v), h.2.2.2.2) x a i := by
  unfold updV ax_fw
  by_cases e : i = y
  · subst e
    simp [hf, ax_up, va_rf]
  · simp [e, ax_up]
/-- a field is written: the machine's step -/
theorem ax_putW (hx : p.tables.exec = Jvm.exec) (hb : c.code = cc) {own : String} (hown : s.vm.findClass own = some m.cls) (hts : ∀ w ∈ lw_tbl, w.onTables = true → w.before args s = true) (hK : ax_K D cA s) {a x y idx : Nat} (h9 : x < 9) (hy : y < ax_nf x) {V : Nat → Value} (ho : t_OB a (D.1 x) (ax_nf x) (D.2 x) H V) (hfin : (ax_Tf x y).2.2.2 = false ∨ ((ax_Tf x y).2.2.2 = true ∧ meth.name = "<init>" ∧ ax_cn x = own)) {v : Value} (hn : narrow (ax_ty x y) v = v) (hfit : fits (ax_ty x y) v = true) {rest : List Value} (hd : decode cc pc = .ok (.putfield idx, 3)) (hlk : (Cond.fieldLink own idx (ax_cn x) (ax_Tf x y).2.1 (ax_Tf x y).2.2.1).before args s = true)
    (kk : ∀ (H1 : Heap) (n : Nat), t_OB a (D.1 x) (ax_nf x) (D.2 x) H1 (updV V y v) → H1.size = H.size → (∀ q, q ≠ a → H1[q]? = H[q]?) → W p l e R s m args below meth c H1 (locs ++ [⟨a, n⟩]) cells slots Q (F0 m (pc + 3) C rest)) : W p l e R s m args below meth c H locs cells slots Q (F0 m pc C (v :: .ref a :: rest)) := by
  have hU := ax_hU hts h9
  have hc := ax_cl_at x h9
  have hKv := ax_K_va hK
  have hap := va_apart (own := own) hU (fun w hw => hw) (ax_ty x) (ax_tyok x h9) (ax_nmok x h9) hKv hc
  obtain ⟨cell, q1, q2, q3, q4⟩ := ho
  obtain ⟨hS, hfc, kC, hkC, hkind⟩ := hK.1 x h9
  obtain ⟨cf, kf, fi, f, hi, hsl⟩ := hS y hy
  have hdc := ax_tyok x h9 y hy
  have hsame : s.fieldFound? (ax_cn x) (ax_Tf x y).2.1 (ax_Tf x y).2.2.1 = some (cf, kf, fi, f) := by rw [← ax_ownok x h9 y hy]; exact hi
  have hst := (u_facts hfc hkC (u_lays hU (fun w hw => hw) hy) hi).1
  have hlay := hU _ (u_in_lay hy)
  unfold u_lay at hlay
  rcases hfin with hf0 | ⟨hf1, hin2, hdecl⟩
  · rw [if_neg (by rw [hf0]; decide)] at hlay
    have h6 := u_store hfc hkC hkind hlay hi hdc hn hfit
    refine W.putK hx hb (f := f) ⟨hown, hlk, ⟨_, _, _, hsame⟩, hst⟩ (by rw [q2]; exact h6) q1 q3 (by rw [hsl]; exact k2_hasslot (q4 y hy)) rfl rfl hd fun H' e1 e2 e3 => ?_
    rw [hsl] at e1 ⊢
    exact kk H' _ ⟨_, e1, q2, q3, t_set q4 hap hy v⟩ e2 e3
  · rw [if_pos hf1] at hlay
    have hcf : m.cls = cf := by
      obtain ⟨_, _, c', _, _, _, -, -, hf', -, -, -, hown2, -⟩ := Cond.laysFinal_spec hlay
      have e1 : c' = cf := by have := hi.symm.trans hf'; simp at this; exact this.1.symm
      rw [ax_ownok x h9 y hy, hdecl] at hown2
      rw [← e1]; exact Option.some.inj (hown.symm.trans hown2)
    have h6 := u_fits hfc hkC hkind (Or.inr hlay) hi hdc hn hfit
    refine W.putFinK hx hb hown hlk hsame hst hcf hin2 (by rw [q2]; exact h6) q1 q3 (by rw [hsl]; exact k2_hasslot (q4 y hy)) rfl rfl hd fun H' e1 e2 e3 => ?_
    rw [hsl] at e1 ⊢
    exact kk H' _ ⟨_, e1, q2, q3, t_set q4 hap hy v⟩ e2 e3
theorem ax_o17 (hx : p.tables.exec = Jvm.exec) (hb : c.code = cc) {own : String} (hown : s.vm.findClass own = some m.cls) (hts : ∀ w ∈ lw_tbl, w.onTables = true → w.before args s = true) (hK : ax_K D cA s) (hr : ax_rel D cA b b0 S h H) (hS : va_S (fun q => b0 ≤ q) s.heap H locs) {x y idx : Nat} (hfin : (ax_Tf x y).2.2.2 = false ∨ ((ax_Tf x y).2.2.2 = true ∧ meth.name = "<init>" ∧ ax_cn x = own)) (hd : decode cc pc = .ok (.putfield idx, 3)) (hlk : (Cond.fieldLink own idx (ax_cn x) (ax_Tf x y).2.1 (ax_Tf x y).2.2.1).before args s = true) (hs : ax_s17 (pc + 3) ls st h x y = some (q, ls', st', h'))
    (kk : ∀ (H1 : Heap) (locs1 : List Loc), ls' = ls → h'.1 = h.1 → ax_rel D cA b b0 S h' H1 → va_S (fun q => b0 ≤ q) s.heap H1 locs1 → W p l e R s m args below meth c H1 locs1 cells slots Q (F0 m q C (st'.map (ax_cv b b0)))) : W p l e R s m args below meth c H locs cells slots Q (F0 m pc C (st.map (ax_cv b b0))) := by
  unfold ax_s17 at hs
  split at hs
  · rename_i v a r
    split at hs
    · rename_i hc
      obtain ⟨h1, h2, h9, hy, hty⟩ := hc
      cases hs
      have hg : ax_g b b0 a = b0 + a := ax_g_lt (Nat.lt_trans h1 hr.2.1)
      have ho := (hr.2.2.1 a h1).1 x h9 h2
      have hft := ax_ftok x h9 y hy
      have hne : ax_ft x y ≠ 2 := by omega
      have hnf : narrow (ax_ty x y) (.int v) = .int v ∧ fits (ax_ty x y) (.int v) = true := by
        rcases hft with ⟨f0, t0⟩ | ⟨f1, t1⟩ | ⟨f2, -⟩
        · rw [t0]; exact ⟨rfl, rfl⟩
        · rw [t1]
          rcases hty with z | ⟨-, z⟩
          · omega
          · rcases z with rfl | rfl <;> exact ⟨rfl, rfl⟩
        · omega
      have := ax_putW (rest := st'.map (ax_cv b b0)) (C := C) (Q := Q) (locs := locs) (cells := cells) (slots := slots) hx hb hown hts hK h9 hy ho hfin hnf.1 hnf.2 hd hlk (fun H1 n o1 z1 n1 => kk H1 _ rfl rfl (ax_rel_set (a := a) hr (Nat.ne_of_gt (Nat.lt_trans h1 hr.2.1)) rfl z1 n1 (fun a' ha' => ⟨rfl, ax_up_other _ _ ha', rfl, rfl⟩) (ax_obj_only (h := (h.1, h.2.1, ax_up h.2.2.1 a y v, h.2.2.2)) h9 h2 (o1.to (fun i _ => ax_fw_int hne i)))) (hS.put z1 n1 (Nat.le_add_right _ _)))
      simpa only [List.map_cons, ax_cv_ref, ax_cv_int, hg] using this
    · cases hs
  · rename_i v a r
    split at hs
    · rename_i hc
      obtain ⟨h1, h2, h9, hy, hty⟩ := hc
      cases hs
      have hg : ax_g b b0 a = b0 + a := ax_g_lt (Nat.lt_trans h1 hr.2.1)
      have ho := (hr.2.2.1 a h1).1 x h9 h2
      have hft := ax_ftok x h9 y hy
      have hnf : narrow (ax_ty x y) (.ref (ax_g b b0 v)) = .ref (ax_g b b0 v) ∧ fits (ax_ty x y) (.ref (ax_g b b0 v)) = true := by
        rcases hft with ⟨f0, t0⟩ | ⟨f1, t1⟩ | ⟨f2, t2⟩
        · omega
        · omega
        · cases ht : ax_ty x y <;> rw [ht] at t2 <;> first | exact ⟨rfl, rfl⟩ | cases t2
      have := ax_putW (rest := st'.map (ax_cv b b0)) (C := C) (Q := Q) (locs := locs) (cells := cells) (slots := slots) hx hb hown hts hK h9 hy ho hfin hnf.1 hnf.2 hd hlk (fun H1 n o1 z1 n1 => kk H1 _ rfl rfl (ax_rel_set (a := a) hr (Nat.ne_of_gt (Nat.lt_trans h1 hr.2.1)) rfl z1 n1 (fun a' ha' => ⟨rfl, rfl, ax_up_other _ _ ha', rfl⟩) (ax_obj_only (h := (h.1, h.2.1, h.2.2.1, ax_up h.2.2.2.1 a y (some v), h.2.2.2.2)) h9 h2 (o1.to (fun i _ => ax_fw_ref hty i)))) (hS.put z1 n1 (Nat.le_add_right _ _)))
      simpa only [List.map_cons, ax_cv_ref, ax_cv_int, hg] using this
    · cases hs
  · cases hs
end AxP
end
section
section AxA
variable {p : Program} {l : Launch} {e : Env} {R : Room} {s : State} {m : MethodId} {args : Array Value} {below : List Frame} {meth : Method} {c : Code} {H : Heap} {locs : List Loc} {cells slots : Nat} {Q : State → Prop}
variable {cc : ByteArray} {pc q : Nat} {C : Array Slot} {b b0 : Nat} {ls ls' : ax_L} {st st' : List Value} {h h' : ax_H} {D : va_G} {cA : Nat → ClassId} {S : (Nat × Nat) × (Nat → Int32)}
theorem ax_arri_only {h : ax_H} {a : Nat} (hk : (h.2.1 a).1 = 20 ∨ (h.2.1 a).1 = 21) {H' : Heap} (ho : H'[b0 + a]? = some (arrV (cA (h.2.1 a).1) (h.2.1 a).2 (fun j => .int (h.2.2.1 a j)))) : ax_cell D cA b b0 h a H' := by
  refine ⟨fun ci hc hk => by omega, fun _ => ho, fun hk => by omega, fun hk => ?_⟩
  obtain ⟨ci, -, e1, -⟩ := ax_ra_aty hk
  omega
theorem ax_arrl_only {h : ax_H} {a : Nat} (hk : (h.2.1 a).1 = 22) {H' : Heap} (ho : H'[b0 + a]? = some (arrV (cA 22) (h.2.1 a).2 (fun j => .long (h.2.2.2.2 a j)))) : ax_cell D cA b b0 h a H' := by
  refine ⟨fun ci hc hk => by omega, fun hk => by omega, fun _ => ho, fun hk => ?_⟩
  obtain ⟨ci, -, e1, -⟩ := ax_ra_aty hk
  omega
theorem ax_arrr_only {h : ax_H} {a : Nat} (hk : ax_ra (h.2.1 a).1 = true) {H' : Heap} (ho : H'[b0 + a]? = some (arrV (cA (h.2.1 a).1) (h.2.1 a).2 (fun j => va_rf ((h.2.2.2.1 a j).map (ax_g b b0))))) : ax_cell D cA b b0 h a H' := by
  obtain ⟨ci, -, e1, -⟩ := ax_ra_aty hk
  exact ⟨fun ci hc hk => by omega, fun hk => by omega, fun hk => by omega, fun _ => ho⟩
theorem ax_o19 (hx : p.tables.exec = Jvm.exec) (hb : c.code = cc) (hK : ax_K D cA s) (hr : ax_rel D cA b b0 S h H) {kd : Nat} (hd : (kd = 20 ∧ decode cc pc = .ok (.iaload, 1)) ∨ (kd = 21 ∧ decode cc pc = .ok (.baload, 1))) (hs : ax_s19 kd (pc + 1) ls st h = some (q, ls', st', h'))
    (kk : ls' = ls → h' = h → W p l e R s m args below meth c H locs cells slots Q (F0 m q C (st'.map (ax_cv b b0)))) : W p l e R s m args below meth c H locs cells slots Q (F0 m pc C (st.map (ax_cv b b0))) := by
  unfold ax_s19 at hs
  split at hs
  · rename_i i a r
    split at hs
    · rename_i hc
      obtain ⟨h1, h2, h3⟩ := hc
      cases hs
      have kk := kk rfl rfl
      have hin := ax_out_in h3
      have hlt : i.toNatClampNeg < (h.2.1 a).2 := Nat.not_le.mp fun z => hin (Or.inr z)
      have hg : ax_g b b0 a = b0 + a := ax_g_lt (Nat.lt_trans h1 hr.2.1)
      rcases hd with ⟨rfl, d⟩ | ⟨rfl, d⟩
      · have ho := (hr.2.2.1 a h1).2.1 (Or.inl h2)
        rw [h2] at ho
        have := W.iald (v := .int (h.2.2.1 a i.toNatClampNeg)) (Q := Q) (g := F0 m pc C (.int i :: .ref (b0 + a) :: r.map (ax_cv b b0))) hx hb ho ((hK.2 20 .int rfl).1 _ _) (fun z => by cases z) (by rw [arrV_size]; exact hin) (by rw [arrV_read _ _ hlt]) rfl rfl d kk
        simpa only [List.map_cons, ax_cv_ref, ax_cv_int, hg] using this
      · have ho := (hr.2.2.1 a h1).2.1 (Or.inr h2)
        rw [h2] at ho
        have := W.zald (v := .int (h.2.2.1 a i.toNatClampNeg)) (Q := Q) (g := F0 m pc C (.int i :: .ref (b0 + a) :: r.map (ax_cv b b0))) hx hb ho ((hK.2 21 .boolean rfl).1 _ _) (fun z => by cases z) (by rw [arrV_size]; exact hin) (by rw [arrV_read _ _ hlt]) rfl rfl d kk
        simpa only [List.map_cons, ax_cv_ref, ax_cv_int, hg] using this
    · cases hs
  · cases hs
theorem ax_upi {h : ax_H} {a i : Nat} {v : Int32} : updV (fun j => Value.int (h.2.2.1 a j)) i (.int v) = fun j => Value.int (ax_up h.2.2.1 a i v a j) := by
  funext j
  unfold updV ax_up
  by_cases e : j = i <;> simp [e]
theorem ax_upl {h : ax_H} {a i : Nat} {v : Int64} : updV (fun j => Value.long (h.2.2.2.2 a j)) i (.long v) = fun j => Value.long (ax_up h.2.2.2.2 a i v a j) := by
  funext j
  unfold updV ax_up
  by_cases e : j = i <;> simp [e]
theorem ax_upr {h : ax_H} {a i v : Nat} : updV (fun j => va_rf ((h.2.2.2.1 a j).map (ax_g b b0))) i (.ref (ax_g b b0 v)) = fun j => va_rf ((ax_up h.2.2.2.1 a i (some v) a j).map (ax_g b b0)) := by
  funext j
  unfold updV ax_up
  by_cases e : j = i <;> simp [e, va_rf]
theorem ax_o20 (hx : p.tables.exec = Jvm.exec) (hb : c.code = cc) (hK : ax_K D cA s) (hr : ax_rel D cA b b0 S h H) (hS : va_S (fun q => b0 ≤ q) s.heap H locs) {kd : Nat} (hd : (kd = 20 ∧ decode cc pc = .ok (.iastore, 1)) ∨ (kd = 21 ∧ decode cc pc = .ok (.bastore, 1))) (hs : ax_s20 kd (pc + 1) ls st h = some (q, ls', st', h'))
    (kk : ∀ (H1 : Heap) (locs1 : List Loc), ls' = ls → h'.1 = h.1 → ax_rel D cA b b0 S h' H1 → va_S (fun q => b0 ≤ q) s.heap H1 locs1 → W p l e R s m args below meth c H1 locs1 cells slots Q (F0 m q C (st'.map (ax_cv b b0)))) : W p l e R s m args below meth c H locs cells slots Q (F0 m pc C (st.map (ax_cv b b0))) := by
  unfold ax_s20 at hs
  split at hs
  · rename_i v i a r
    split at hs
    · rename_i hc
      obtain ⟨h1, h2, h3, h4⟩ := hc
      cases hs
      have hin := ax_out_in h3
      have hlt : i.toNatClampNeg < (h.2.1 a).2 := Nat.not_le.mp fun z => hin (Or.inr z)
      have hg : ax_g b b0 a = b0 + a := ax_g_lt (Nat.lt_trans h1 hr.2.1)
      have hk : (h.2.1 a).1 = 20 ∨ (h.2.1 a).1 = 21 := by omega
      have ho := (hr.2.2.1 a h1).2.1 hk
      have fin : ∀ H1 : Heap, H1[b0 + a]? = some ((arrV (cA (h.2.1 a).1) (h.2.1 a).2 (fun j => .int (h.2.2.1 a j))).setSlot i.toNatClampNeg (.int v)) → H1.size = H.size → (∀ q, q ≠ b0 + a → H1[q]? = H[q]?) → W p l e R s m args below meth c H1 (locs ++ [⟨b0 + a, i.toNatClampNeg⟩]) cells slots Q (F0 m (pc + 1) C (st'.map (ax_cv b b0))) := by
        intro H1 e1 z1 n1
        rw [arrV_store, ax_upi] at e1
        exact kk H1 _ rfl rfl (ax_rel_set (a := a) hr (Nat.ne_of_gt (Nat.lt_trans h1 hr.2.1)) rfl z1 n1 (fun a' ha' => ⟨rfl, ax_up_other _ _ ha', rfl, rfl⟩) (ax_arri_only (h := (h.1, h.2.1, ax_up h.2.2.1 a i.toNatClampNeg v, h.2.2.2)) hk e1)) (hS.put z1 n1 (Nat.le_add_right _ _))
      rcases hd with ⟨rfl, d⟩ | ⟨rfl, d⟩
      · rw [h2] at ho fin
        have := W.iast (Q := Q) (g := F0 m pc C (.int v :: .int i :: .ref (b0 + a) :: st'.map (ax_cv b b0))) hx hb ho ((hK.2 20 .int rfl).1 _ _) (fun z => by cases z) (by rw [arrV_size]; exact hin) rfl rfl d fin
        simpa only [List.map_cons, ax_cv_ref, ax_cv_int, hg] using this
      · rw [h2] at ho fin
        have hn : narrow .boolean (.int v) = .int v := by
          rcases h4 with z | ⟨-, rfl | rfl⟩
          · omega
          · rfl
          · rfl
        have := W.zast (Q := Q) (g := F0 m pc C (.int v :: .int i :: .ref (b0 + a) :: st'.map (ax_cv b b0))) hx hb ho ((hK.2 21 .boolean rfl).1 _ _) (fun z => by cases z) (by rw [arrV_size]; exact hin) rfl rfl d (by rw [hn]; exact fin)
        simpa only [List.map_cons, ax_cv_ref, ax_cv_int, hg] using this
    · cases hs
  · cases hs
theorem ax_o23 (hx : p.tables.exec = Jvm.exec) (hb : c.code = cc) (hK : ax_K D cA s) (hr : ax_rel D cA b b0 S h H) (hd : decode cc pc = .ok (.laload, 1)) (hs : ax_s23 (pc + 1) ls st h = some (q, ls', st', h'))
    (kk : ls' = ls → h' = h → W p l e R s m args below meth c H locs cells slots Q (F0 m q C (st'.map (ax_cv b b0)))) : W p l e R s m args below meth c H locs cells slots Q (F0 m pc C (st.map (ax_cv b b0))) := by
  unfold ax_s23 at hs
  split at hs
  · rename_i i a r
    split at hs
    · rename_i hc
      obtain ⟨h1, h2, h3⟩ := hc
      cases hs
      have kk := kk rfl rfl
      have hin := ax_out_in h3
      have hlt : i.toNatClampNeg < (h.2.1 a).2 := Nat.not_le.mp fun z => hin (Or.inr z)
      have hg : ax_g b b0 a = b0 + a := ax_g_lt (Nat.lt_trans h1 hr.2.1)
      have ho := (hr.2.2.1 a h1).2.2.1 h2
      have := W.lald (v := .long (h.2.2.2.2 a i.toNatClampNeg)) (Q := Q) (g := F0 m pc C (.int i :: .ref (b0 + a) :: r.map (ax_cv b b0))) hx hb ho ((hK.2 22 .long rfl).1 _ _) (fun z => by cases z) (by rw [arrV_size]; exact hin) (by rw [arrV_read _ _ hlt]) rfl rfl hd kk
      simpa only [List.map_cons, ax_cv_ref, ax_cv_int, hg] using this
    · cases hs
  · cases hs
theorem ax_o24 (hx : p.tables.exec = Jvm.exec) (hb : c.code = cc) (hK : ax_K D cA s) (hr : ax_rel D cA b b0 S h H) (hS : va_S (fun q => b0 ≤ q) s.heap H locs) (hd : decode cc pc = .ok (.lastore, 1)) (hs : ax_s24 (pc + 1) ls st h = some (q, ls', st', h'))
    (kk : ∀ (H1 : Heap) (locs1 : List Loc), ls' = ls → h'.1 = h.1 → ax_rel D cA b b0 S h' H1 → va_S (fun q => b0 ≤ q) s.heap H1 locs1 → W p l e R s m args below meth c H1 locs1 cells slots Q (F0 m q C (st'.map (ax_cv b b0)))) : W p l e R s m args below meth c H locs cells slots Q (F0 m pc C (st.map (ax_cv b b0))) := by
  unfold ax_s24 at hs
  split at hs
  · rename_i v i a r
    split at hs
    · rename_i hc
      obtain ⟨h1, h2, h3⟩ := hc
      cases hs
      have hin := ax_out_in h3
      have hg : ax_g b b0 a = b0 + a := ax_g_lt (Nat.lt_trans h1 hr.2.1)
      have ho := (hr.2.2.1 a h1).2.2.1 h2
      have := W.last (Q := Q) (g := F0 m pc C (.long v :: .int i :: .ref (b0 + a) :: st'.map (ax_cv b b0))) hx hb ho ((hK.2 22 .long rfl).1 _ _) (fun z => by cases z) (by rw [arrV_size]; exact hin) rfl rfl hd (fun H1 e1 z1 n1 => by
        rw [arrV_store, ax_upl] at e1
        exact kk H1 _ rfl rfl (ax_rel_set (a := a) hr (Nat.ne_of_gt (Nat.lt_trans h1 hr.2.1)) rfl z1 n1 (fun a' ha' => ⟨rfl, rfl, rfl, ax_up_other _ _ ha'⟩) (ax_arrl_only (h := (h.1, h.2.1, h.2.2.1, h.2.2.2.1, ax_up h.2.2.2.2 a i.toNatClampNeg v)) h2 e1)) (hS.put z1 n1 (Nat.le_add_right _ _)))
      simpa only [List.map_cons, ax_cv_ref, ax_cv_int, ax_cv_long, hg] using this
    · cases hs
  · cases hs
theorem ax_o25 (hx : p.tables.exec = Jvm.exec) (hb : c.code = cc) (hK : ax_K D cA s) (hr : ax_rel D cA b b0 S h H) (hd : decode cc pc = .ok (.aaload, 1)) (hs : ax_s25 (pc + 1) ls st h = some (q, ls', st', h'))
    (kk : ls' = ls → h' = h → W p l e R s m args below meth c H locs cells slots Q (F0 m q C (st'.map (ax_cv b b0)))) : W p l e R s m args below meth c H locs cells slots Q (F0 m pc C (st.map (ax_cv b b0))) := by
  unfold ax_s25 at hs
  split at hs
  · rename_i i a r
    split at hs
    · rename_i hc
      obtain ⟨h1, h2, h3⟩ := hc
      cases hv : h.2.2.2.1 a i.toNatClampNeg with
      | none => rw [hv] at hs; cases hs
      | some v =>
        rw [hv] at hs
        cases hs
        have kk := kk rfl rfl
        have hin := ax_out_in h3
        have hlt : i.toNatClampNeg < (h.2.1 a).2 := Nat.not_le.mp fun z => hin (Or.inr z)
        have hg : ax_g b b0 a = b0 + a := ax_g_lt (Nat.lt_trans h1 hr.2.1)
        have ho := (hr.2.2.1 a h1).2.2.2 h2
        obtain ⟨ci, h9, -, hty⟩ := ax_ra_aty h2
        have := W.aald (v := .ref (ax_g b b0 v)) (ty := .object (ax_cn ci)) (Q := Q) (g := F0 m pc C (.int i :: .ref (b0 + a) :: r.map (ax_cv b b0))) hx hb ho ((hK.2 _ _ hty).1 _ _) rfl (fun z => by cases z) (by rw [arrV_size]; exact hin) (by rw [arrV_read _ _ hlt, hv]; rfl) rfl rfl hd kk
        simpa only [List.map_cons, ax_cv_ref, ax_cv_int, hg] using this
    · cases hs
  · cases hs
theorem ax_o26 (hx : p.tables.exec = Jvm.exec) (hb : c.code = cc) (hK : ax_K D cA s) (hr : ax_rel D cA b b0 S h H) (hS : va_S (fun q => b0 ≤ q) s.heap H locs) (hd : decode cc pc = .ok (.aastore, 1)) (hs : ax_s26 (pc + 1) ls st h = some (q, ls', st', h'))
    (kk : ∀ (H1 : Heap) (locs1 : List Loc), ls' = ls → h'.1 = h.1 → ax_rel D cA b b0 S h' H1 → va_S (fun q => b0 ≤ q) s.heap H1 locs1 → W p l e R s m args below meth c H1 locs1 cells slots Q (F0 m q C (st'.map (ax_cv b b0)))) : W p l e R s m args below meth c H locs cells slots Q (F0 m pc C (st.map (ax_cv b b0))) := by
  unfold ax_s26 at hs
  split at hs
  · rename_i v i a r
    split at hs
    · rename_i hc
      obtain ⟨h1, hv1, h2, hv2, h3⟩ := hc
      cases hs
      have hin := ax_out_in h3
      have hlt : i.toNatClampNeg < (h.2.1 a).2 := Nat.not_le.mp fun z => hin (Or.inr z)
      have h0 : ¬ i < 0 := fun z => hin (Or.inl z)
      have hg : ax_g b b0 a = b0 + a := ax_g_lt (Nat.lt_trans h1 hr.2.1)
      have hgv : ax_g b b0 v = b0 + v := ax_g_lt (Nat.lt_trans hv1 hr.2.1)
      have ho := (hr.2.2.1 a h1).2.2.2 h2
      obtain ⟨ci, h9, e1, hty⟩ := ax_ra_aty h2
      obtain ⟨cellV, g1, g2, g3, -⟩ := (hr.2.2.1 v hv1).1 ci h9 (by omega)
      have hcls := (hK.1 ci h9).2
      obtain ⟨kA, comp, k1, k2, k3, -⟩ := (hK.2 _ _ hty).2
      have hcomp : comp = D.1 ci := Option.some.inj (k3.symm.trans hcls.1)
      subst hcomp
      obtain ⟨kC, hkC, -⟩ := id hcls.2
      have := W.aast (Q := Q) (g := F0 m pc C (.ref (b0 + v) :: .int i :: .ref (b0 + a) :: st'.map (ax_cv b b0))) hx hb ho (fun q h => by cases h) (fun h => by cases h) k1 k2 rfl hkC ⟨h0, by rw [arrV_size]; exact hlt⟩ g1 (fun q h => by rw [g3] at h; cases h) (by rw [g2]; exact hkC) (by rw [g2]; exact va_assign hcls) rfl rfl hd (fun H1 e1 z1 n1 => by
        rw [arrV_store, ← hgv, ax_upr] at e1
        exact kk H1 _ rfl rfl (ax_rel_set (a := a) hr (Nat.ne_of_gt (Nat.lt_trans h1 hr.2.1)) rfl z1 n1 (fun a' ha' => ⟨rfl, rfl, ax_up_other _ _ ha', rfl⟩) (ax_arrr_only (h := (h.1, h.2.1, h.2.2.1, ax_up h.2.2.2.1 a i.toNatClampNeg (some v), h.2.2.2.2)) h2 e1)) (hS.put z1 n1 (Nat.le_add_right _ _)))
      simpa only [List.map_cons, ax_cv_ref, ax_cv_int, hg, hgv] using this
    · cases hs
  · cases hs
end AxA
end
section
section AxN
variable {p : Program} {l : Launch} {e : Env} {R : Room} {s : State} {m : MethodId} {args : Array Value} {below : List Frame} {meth : Method} {c : Code} {H : Heap} {locs : List Loc} {cells slots : Nat} {Q : State → Prop}
variable {cc : ByteArray} {pc q : Nat} {C : Array Slot} {b b0 : Nat} {ls ls' : ax_L} {st st' : List Value} {h h' : ax_H} {D : va_G} {cA : Nat → ClassId} {S : (Nat × Nat) × (Nat → Int32)}
/-- what is known of the script where the law itself runs -/
def ax_scr (b b0 : Nat) (S : (Nat × Nat) × (Nat → Int32)) (s : State) : Prop := va_X b S.1.2 S.2 s s.heap ∧ b < s.heap.size ∧ b < b0
theorem ax_o34 (hx : p.tables.exec = Jvm.exec) (hb : c.code = cc) {k : Nat} (hsc : k = 0 → ax_scr b b0 S s) (hr : ax_rel D cA b b0 S h H) (hS : va_S (fun q => b0 ≤ q) s.heap H locs) (hd : decode cc pc = .ok (.iaload, 1)) (hs : ax_s19s k (pc + 1) ls st h = some (q, ls', st', h'))
    (kk : ls' = ls → h' = h → W p l e R s m args below meth c H locs cells slots Q (F0 m q C (st'.map (ax_cv b b0)))) : W p l e R s m args below meth c H locs cells slots Q (F0 m pc C (st.map (ax_cv b b0))) := by
  unfold ax_s19s at hs
  split at hs
  · rename_i i a r
    split at hs
    · rename_i hc
      obtain ⟨h1, rfl, h3⟩ := hc
      cases hs
      have kk := kk rfl rfl
      obtain ⟨sx, sb, sl⟩ := hsc h1
      have hin := ax_out_in h3
      rw [hr.2.2.2.1] at hin
      rw [hr.2.2.2.2] at kk
      exact va_sld (b := b) hx hb sx sb (Nat.not_le.mpr sl) hS hin hd kk
    · cases hs
  · cases hs
theorem ax_o27 (hx : p.tables.exec = Jvm.exec) (hb : c.code = cc) {k : Nat} (hsc : k = 0 → ax_scr b b0 S s) (hK : ax_K D cA s) (hr : ax_rel D cA b b0 S h H) (hS : va_S (fun q => b0 ≤ q) s.heap H locs) (hd : decode cc pc = .ok (.arraylength, 1)) (hs : ax_s27 k (pc + 1) ls st h = some (q, ls', st', h'))
    (kk : ls' = ls → h' = h → W p l e R s m args below meth c H locs cells slots Q (F0 m q C (st'.map (ax_cv b b0)))) : W p l e R s m args below meth c H locs cells slots Q (F0 m pc C (st.map (ax_cv b b0))) := by
  unfold ax_s27 at hs
  split at hs
  · rename_i a r
    split at hs
    · rename_i hc
      cases hs
      have kk := kk rfl rfl
      rcases hc with ⟨h1, h2⟩ | ⟨h1, rfl⟩
      · have hg : ax_g b b0 a = b0 + a := ax_g_lt (Nat.lt_trans h1 hr.2.1)
        have ho := (hr.2.2.1 a h1).2.1 (Or.inl h2)
        rw [h2] at ho
        have := W.alen (n := Int32.ofNat (h.2.1 a).2) (ty := .int) (Q := Q) (g := F0 m pc C (.ref (b0 + a) :: r.map (ax_cv b b0))) hx hb ho ((hK.2 20 .int rfl).1 _ _) (by rw [arrV_size]) rfl rfl hd kk
        simpa only [List.map_cons, ax_cv_ref, ax_cv_int, hg] using this
      · obtain ⟨sx, sb, sl⟩ := hsc h1
        rw [hr.2.2.2.1] at kk
        exact va_slen (b := b) hx hb sx sb (Nat.not_le.mpr sl) hS hd kk
    · cases hs
  · cases hs
theorem ax_S_push (hS : va_S (fun q => b0 ≤ q) s.heap H locs) {H1 : Heap} (hz : H1.size = H.size + 1) (ho : ∀ q : Nat, q < H.size → H1[q]? = H[q]?) : va_S (fun q => b0 ≤ q) s.heap H1 locs :=
  ⟨Nat.le_trans hS.1 (by omega), fun x h1 h2 => (ho x (Nat.lt_of_lt_of_le h1 hS.1)).trans (hS.2.1 x h1 h2), hS.2.2⟩
theorem ax_fw_new {x n : Nat} (h : ax_H) (i : Nat) : ax_fw b b0 (ax_new h (x + 1) n) x h.1.1 i = if ax_ft x i = 2 then .null else .int 0 := by
  unfold ax_fw ax_new
  simp only [ax_rw_self]
  split <;> rfl
theorem ax_o28 (hx : p.tables.exec = Jvm.exec) (hb : c.code = cc) {own : String} (hown : s.vm.findClass own = some m.cls) (hts : ∀ w ∈ lw_tbl, w.onTables = true → w.before args s = true) (hK : ax_K D cA s) (hr : ax_rel D cA b b0 S h H) (hS : va_S (fun q => b0 ≤ q) s.heap H locs) {x idx : Nat} (hd : decode cc pc = .ok (.new idx, 3)) (hlk : (Cond.classLink own idx (ax_cn x)).before args s = true) (hs : ax_s28 (pc + 3) ls st h x = some (q, ls', st', h'))
    (hcl : cells + (h'.1.1 - h.1.1) ≤ R.cells) (hsl : slots + (h'.1.2 - h.1.2) ≤ R.slots)
    (kk : ∀ (H1 : Heap), ls' = ls → ax_rel D cA b b0 S h' H1 → va_S (fun q => b0 ≤ q) s.heap H1 locs → W p l e R s m args below meth c H1 locs (cells + (h'.1.1 - h.1.1)) (slots + (h'.1.2 - h.1.2)) Q (F0 m q C (st'.map (ax_cv b b0)))) : W p l e R s m args below meth c H locs cells slots Q (F0 m pc C (st.map (ax_cv b b0))) := by
  unfold ax_s28 at hs
  split at hs
  · rename_i hc
    obtain ⟨h9, hlim⟩ := hc
    cases hs
    have e1 : (ax_new h (x + 1) (ax_nf x)).1.1 - h.1.1 = 1 := by show h.1.1 + 1 - h.1.1 = 1; omega
    have e2 : (ax_new h (x + 1) (ax_nf x)).1.2 - h.1.2 = ax_nf x := by show h.1.2 + ax_nf x - h.1.2 = ax_nf x; omega
    rw [e1] at hcl
    rw [e2] at hsl
    rw [e1, e2] at kk
    have hKn := hK.1 x h9
    have hU := ax_hU hts h9
    have hi := hts _ (ax_inst x h9) rfl
    have hini := hts _ (ax_init x h9) rfl
    have hsz := hr.1
    have hg : ax_g b b0 h.1.1 = b0 + h.1.1 := ax_g_lt hr.2.1
    refine W.newcK hx hb hown hlk hi hini rfl hd hcl hsl hKn.2.1 rfl fun H1 kC hkC p1 z1 o1 => ?_
    rw [hsz] at p1 z1 o1
    have ob : t_OB (b0 + h.1.1) (D.1 x) (ax_nf x) (D.2 x) H1 (fun j => defaultValue (ax_ty x j)) := u_born (ax_ty x) hU (fun w hw => hw) hKn hkC p1 (ax_tyok x h9)
    have cell : ax_cell D cA b b0 (ax_new h (x + 1) (ax_nf x)) h.1.1 H1 := by
      refine ax_obj_only h9 (by show (ax_sh _ _ _ _).1 = _; rw [ax_sh_self]) (ob.to (fun i hi => ?_))
      rw [ax_fw_new]
      rcases ax_ftok x h9 i hi with ⟨f0, t0⟩ | ⟨f1, t1⟩ | ⟨f2, t2⟩
      · rw [if_neg (by omega), t0]; rfl
      · rw [if_neg (by omega), t1]; rfl
      · rw [if_pos f2]
        cases ht : ax_ty x i <;> rw [ht] at t2 <;> first | rfl | cases t2
    have := kk H1 rfl (ax_rel_new hr hlim z1 o1 cell) (ax_S_push hS (by omega) (by rw [hsz]; exact o1))
    simpa only [List.map_cons, ax_cv_ref, hg, hsz] using this
  · cases hs
theorem ax_o29 (hx : p.tables.exec = Jvm.exec) (hb : c.code = cc) (hta : ∀ ty, ty = .int ∨ ty = .boolean ∨ ty = .long → (Cond.arrayClass ty).before args s = true) (hK : ax_K D cA s) (hr : ax_rel D cA b b0 S h H) (hS : va_S (fun q => b0 ≤ q) s.heap H locs) {x : Nat} (hd : decode cc pc = .ok (.newarray (ax_at x), 2)) (hs : ax_s29 (pc + 2) ls st h x = some (q, ls', st', h'))
    (hcl : cells + (h'.1.1 - h.1.1) ≤ R.cells) (hsl : slots + (h'.1.2 - h.1.2) ≤ R.slots)
    (kk : ∀ (H1 : Heap), ls' = ls → ax_rel D cA b b0 S h' H1 → va_S (fun q => b0 ≤ q) s.heap H1 locs → W p l e R s m args below meth c H1 locs (cells + (h'.1.1 - h.1.1)) (slots + (h'.1.2 - h.1.2)) Q (F0 m q C (st'.map (ax_cv b b0)))) : W p l e R s m args below meth c H locs cells slots Q (F0 m pc C (st.map (ax_cv b b0))) := by
  unfold ax_s29 at hs
  split at hs
  · rename_i n r
    split at hs
    · rename_i hc
      obtain ⟨hlim, hn, hn2, hx3⟩ := hc
      cases hs
      have e1 : (ax_new h x n.toNatClampNeg).1.1 - h.1.1 = 1 := by show h.1.1 + 1 - h.1.1 = 1; omega
      have e2 : (ax_new h x n.toNatClampNeg).1.2 - h.1.2 = n.toNatClampNeg := by show h.1.2 + n.toNatClampNeg - h.1.2 = _; omega
      rw [e1] at hcl
      rw [e2] at hsl
      rw [e1, e2] at kk
      have hsz := hr.1
      have hg : ax_g b b0 h.1.1 = b0 + h.1.1 := ax_g_lt hr.2.1
      have fin : ∀ (H1 : Heap) (ty : FieldType) (cN : ClassId), ax_aty x = some ty → H1[b0 + h.1.1]? = some (arrV cN n.toNatClampNeg (fun _ => defaultValue ty)) → H1.size = b0 + h.1.1 + 1 → (∀ q, q < b0 + h.1.1 → H1[q]? = H[q]?) → s.vm.findClass ("[" ++ ty.toString) = some cN → (ty = .int ∨ ty = .boolean ∨ ty = .long) → W p l e R s m args below meth c H1 locs (cells + 1) (slots + n.toNatClampNeg) Q (F0 m (pc + 2) C (.ref (b0 + h.1.1) :: r.map (ax_cv b b0))) := by
        intro H1 ty cN hty p1 z1 o1 hcn hty3
        have hra := (hK.2 x ty hty).2
        have hcA : cN = cA x := by
          rcases hty3 with rfl | rfl | rfl <;> exact Option.some.inj (hcn.symm.trans hra)
        subst hcA
        have hsh : (ax_new h x n.toNatClampNeg).2.1 h.1.1 = (x, n.toNatClampNeg) := ax_sh_self _ _ _
        have cell : ax_cell D cA b b0 (ax_new h x n.toNatClampNeg) h.1.1 H1 := by
          rcases hx3 with rfl | rfl | rfl
          · cases hty
            refine ax_arri_only (Or.inl (by rw [hsh])) ?_
            rw [hsh, p1]
            show _ = some (arrV (cA 20) _ (fun j => .int (ax_rw _ _ _ _ j)))
            rw [ax_rw_self]; rfl
          · cases hty
            refine ax_arri_only (Or.inr (by rw [hsh])) ?_
            rw [hsh, p1]
            show _ = some (arrV (cA 21) _ (fun j => .int (ax_rw _ _ _ _ j)))
            rw [ax_rw_self]; rfl
          · cases hty
            refine ax_arrl_only (by rw [hsh]) ?_
            rw [hsh, p1]
            show _ = some (arrV (cA 22) _ (fun j => .long (ax_rw _ _ _ _ j)))
            rw [ax_rw_self]; rfl
        have := kk H1 rfl (ax_rel_new hr hlim z1 o1 cell) (ax_S_push hS (by omega) (by rw [hsz]; exact o1))
        simpa only [List.map_cons, ax_cv_ref, hg] using this
      have bytes : ∀ ty, ty = .int ∨ ty = .boolean ∨ ty = .long → n.toNatClampNeg * componentBytes ty ≤ 536870912 := by
        intro ty h3
        rcases h3 with rfl | rfl | rfl
        · show n.toNatClampNeg * 4 ≤ _; omega
        · show n.toNatClampNeg * 1 ≤ _; omega
        · show n.toNatClampNeg * 8 ≤ _; omega
      rcases hx3 with rfl | rfl | rfl
      · exact va_newaK (atype := .int) hx hb (hta _ (Or.inl rfl)) rfl hd rfl hn rfl (bytes _ (Or.inl rfl)) hcl hsl hsz fun H1 cN p1 z1 o1 _ hN => fin H1 .int cN rfl p1 z1 o1 hN (Or.inl rfl)
      · exact va_newaK (atype := .boolean) hx hb (hta _ (Or.inr (Or.inl rfl))) rfl hd rfl hn rfl (bytes _ (Or.inr (Or.inl rfl))) hcl hsl hsz fun H1 cN p1 z1 o1 _ hN => fin H1 .boolean cN rfl p1 z1 o1 hN (Or.inr (Or.inl rfl))
      · exact va_newaK (atype := .long) hx hb (hta _ (Or.inr (Or.inr rfl))) rfl hd rfl hn rfl (bytes _ (Or.inr (Or.inr rfl))) hcl hsl hsz fun H1 cN p1 z1 o1 _ hN => fin H1 .long cN rfl p1 z1 o1 hN (Or.inr (Or.inr rfl))
    · cases hs
  · cases hs
end AxN
end
section
section AxN2
variable {p : Program} {l : Launch} {e : Env} {R : Room} {s : State} {m : MethodId} {args : Array Value} {below : List Frame} {meth : Method} {c : Code} {H : Heap} {locs : List Loc} {cells slots : Nat} {Q : State → Prop}
variable {cc : ByteArray} {pc q : Nat} {C : Array Slot} {b b0 : Nat} {ls ls' : ax_L} {st st' : List Value} {h h' : ax_H} {D : va_G} {cA : Nat → ClassId} {S : (Nat × Nat) × (Nat → Int32)}
theorem ax_o30 (hx : p.tables.exec = Jvm.exec) (hb : c.code = cc) {own : String} (hown : s.vm.findClass own = some m.cls) (hta : ∀ x ty, ax_ra x = true → ax_aty x = some ty → (Cond.arrayOver ty).before args s = true) (hK : ax_K D cA s) (hr : ax_rel D cA b b0 S h H) (hS : va_S (fun q => b0 ≤ q) s.heap H locs) {x idx : Nat} (hd : decode cc pc = .ok (.anewarray idx, 3)) (hlk : (Cond.classLink own idx (ax_cn x)).before args s = true) (hs : ax_s30 (pc + 3) ls st h x = some (q, ls', st', h'))
    (hcl : cells + (h'.1.1 - h.1.1) ≤ R.cells) (hsl : slots + (h'.1.2 - h.1.2) ≤ R.slots)
    (kk : ∀ (H1 : Heap), ls' = ls → ax_rel D cA b b0 S h' H1 → va_S (fun q => b0 ≤ q) s.heap H1 locs → W p l e R s m args below meth c H1 locs (cells + (h'.1.1 - h.1.1)) (slots + (h'.1.2 - h.1.2)) Q (F0 m q C (st'.map (ax_cv b b0)))) : W p l e R s m args below meth c H locs cells slots Q (F0 m pc C (st.map (ax_cv b b0))) := by
  unfold ax_s30 at hs
  split at hs
  · rename_i n r
    split at hs
    · rename_i hc
      obtain ⟨hlim, hn, hn2, hx3⟩ := hc
      cases hs
      have e1 : (ax_new h (x + 30) n.toNatClampNeg).1.1 - h.1.1 = 1 := by show h.1.1 + 1 - h.1.1 = 1; omega
      have e2 : (ax_new h (x + 30) n.toNatClampNeg).1.2 - h.1.2 = n.toNatClampNeg := by show h.1.2 + n.toNatClampNeg - h.1.2 = _; omega
      rw [e1] at hcl
      rw [e2] at hsl
      rw [e1, e2] at kk
      have hsz := hr.1
      have hg : ax_g b b0 h.1.1 = b0 + h.1.1 := ax_g_lt hr.2.1
      have hra : ax_ra (x + 30) = true := by rcases hx3 with rfl | rfl | rfl | rfl <;> rfl
      obtain ⟨ci, h9, ec, hty⟩ := ax_ra_aty hra
      have ec : ci = x := by omega
      subst ec
      refine W.anew (g := F0 m pc C (.int n :: r.map (ax_cv b b0))) hx hb hown hlk (hta _ _ hra hty) rfl hd rfl hn (by omega) hcl hsl fun cN kA comp f1 f2 f3 f4 => ?_
      generalize hH1 : H.push ({ cls := cN, slots := Array.replicate n.toNatClampNeg .null, vm := .none } : Cell) = H1
      have z1 : H1.size = b0 + h.1.1 + 1 := by rw [← hH1, Array.size_push, hsz]
      have p1 : H1[b0 + h.1.1]? = some (arrV cN n.toNatClampNeg (fun _ => .null)) := by rw [← hH1, ← hsz, Array.getElem?_push_size, ← arrV_new]
      have o1 : ∀ q : Nat, q < b0 + h.1.1 → H1[q]? = H[q]? := fun q hq => by rw [← hH1, Array.getElem?_push, if_neg (by omega)]
      have hcA : cN = cA (ci + 30) := by
        obtain ⟨kA', comp', k1, k2, k3, k4⟩ := (hK.2 _ _ hty).2
        exact Option.some.inj (f1.symm.trans k4)
      subst hcA
      have hsh : (ax_new h (ci + 30) n.toNatClampNeg).2.1 h.1.1 = (ci + 30, n.toNatClampNeg) := ax_sh_self _ _ _
      have cell : ax_cell D cA b b0 (ax_new h (ci + 30) n.toNatClampNeg) h.1.1 H1 := by
        refine ax_arrr_only (by rw [hsh]; exact hra) ?_
        rw [hsh, p1]
        show _ = some (arrV (cA (ci + 30)) _ (fun j => va_rf (Option.map (ax_g b b0) (ax_rw h.2.2.2.1 h.1.1 (fun _ => none) h.1.1 j))))
        rw [ax_rw_self]; rfl
      have := kk H1 rfl (ax_rel_new hr hlim z1 o1 cell) (ax_S_push hS (by omega) (by rw [hsz]; exact o1))
      simpa only [List.map_cons, ax_cv_ref, hg, hsz] using this
    · cases hs
  · cases hs
theorem ax_o31 (hx : p.tables.exec = Jvm.exec) (hb : c.code = cc) {own : String} (hown : s.vm.findClass own = some m.cls) (hml : C.size = c.maxLocals) {idx : Nat} (hd : decode cc pc = .ok (.invokespecial idx, 3)) (hlk : (Cond.methodLink own idx Lib.objectInit).before args s = true) (hin : (Cond.instanceMethod Lib.objectInit).before args s = true) (hco : (Cond.code Lib.objectInit ⟨#[0xb1]⟩ 1 none).before args s = true) (hfr : 1 ≤ R.frames) (hlo : 20 ≤ R.locals) (hs : ax_s31 (pc + 3) ls st h = some (q, ls', st', h'))
    (kk : ls' = ls → h' = h → W p l e R s m args below meth c H locs cells slots Q (F0 m q C (st'.map (ax_cv b b0)))) : W p l e R s m args below meth c H locs cells slots Q (F0 m pc C (st.map (ax_cv b b0))) := by
  unfold ax_s31 at hs
  split at hs
  · rename_i a r
    split at hs
    · rename_i hw
      cases hs
      have kk := kk rfl rfl
      have hw2 : ((st'.map (ax_cv b b0)).map fun v => v.category).sum ≤ 8 := by
        rw [List.map_map]
        have : ((fun v => v.category) ∘ ax_cv b b0) = (fun v : Value => v.category) := by funext v; exact ax_cv_cat b b0 v
        rw [this]; exact hw
      exact W.objInit (g := F0 m pc C (.ref (ax_g b b0 a) :: st'.map (ax_cv b b0))) hx hb hown hlk hin hco rfl hml rfl hd hfr (by show 2 * 0 + _ + 12 ≤ _; omega) kk
    · cases hs
  · cases hs
theorem ax_o32 (hx : p.tables.exec = Jvm.exec) (hb : c.code = cc) {own : String} (hown : s.vm.findClass own = some m.cls) (hml : c.maxLocals = C.size) (hK : ax_K D cA s) (hr : ax_rel D cA b b0 S h H) (hS : va_S (fun q => b0 ≤ q) s.heap H locs) {idx : Nat} (hd : decode cc pc = .ok (.invokestatic idx, 3)) (hlk : (Cond.methodLink own idx arraycopyName).before args s = true) (hnat : (Cond.native arraycopyName).before args s = true) (hstat : (Cond.static arraycopyName).before args s = true) (hini : (Cond.initialized "java/lang/System").before args s = true) (hfr : 1 ≤ R.frames) (hlo : nativeFrameWords "java/lang/System" "arraycopy" 5 + 11 ≤ R.locals) (hs : ax_s32 (pc + 3) ls st h = some (q, ls', st', h'))
    (kk : ∀ (H1 : Heap) (locs1 : List Loc), ls' = ls → h'.1 = h.1 → ax_rel D cA b b0 S h' H1 → va_S (fun q => b0 ≤ q) s.heap H1 locs1 → W p l e R s m args below meth c H1 locs1 cells slots Q (F0 m q C (st'.map (ax_cv b b0)))) : W p l e R s m args below meth c H locs cells slots Q (F0 m pc C (st.map (ax_cv b b0))) := by
  unfold ax_s32 at hs
  split at hs
  · rename_i n d t c1 a r
    split at hs
    · rename_i hc
      obtain ⟨h1, h2, hne, hka, hkb, rfl, rfl, rfl, rfl⟩ := hc
      cases hs
      have hga : ax_g b b0 a = b0 + a := ax_g_lt (Nat.lt_trans h1 hr.2.1)
      have hgb : ax_g b b0 t = b0 + t := ax_g_lt (Nat.lt_trans h2 hr.2.1)
      have oa := (hr.2.2.1 a h1).2.1 (by rw [hka]; exact Or.inl rfl)
      have ob := (hr.2.2.1 t h2).2.1 (by rw [hkb]; exact Or.inl rfl)
      rw [hka] at oa
      rw [hkb] at ob
      intro T hT X
      obtain ⟨-, k0, hk0, cm0, hkk0⟩ := (hK.2 20 .int rfl).1 8 (fun j => .int (h.2.2.1 a j))
      have z0 : ¬ (0 : Int32) < 0 := by decide
      obtain ⟨vm', X', step⟩ := X.arraycopy hx hown hlk hnat hstat hini (src := b0 + a) (dst := b0 + t) (cs := arrV (cA 20) 8 (fun j => .int (h.2.2.1 a j))) (cd := arrV (cA 20) 8 (fun j => .int (h.2.2.1 t j))) (srcPos := 0) (destPos := 0) (n := 8) (by rw [hT]; exact oa) (by rw [hT]; exact ob)
        (fun _ h => by cases h) (fun _ h => by cases h) (fun h => by cases h) (fun h => by cases h) hk0 hk0 hkk0 hkk0 (by decide) z0 z0 (by decide)
        (by rw [arrV_size]; decide) (by rw [arrV_size]; decide)
        (fun vm₁ _ i hi => by
          have hi : i < 8 := hi
          have e : (arrV (cA 20) 8 (fun j => .int (h.2.2.1 a j))).slots.getD ((0 : Int32).toNatClampNeg + i) .null = .int (h.2.2.1 a ((0 : Int32).toNatClampNeg + i)) := by
            rw [Array.getD_eq_getD_getElem?, arrV_read _ _ (by show 0 + i < 8; omega)]
            rfl
          refine ⟨?_, ?_⟩
          · rw [e]; rfl
          · rw [e]; exact trivial)
        (g := F0 m pc C (.int 8 :: .int 0 :: .ref (b0 + t) :: .int 0 :: .ref (b0 + a) :: [])) rfl (by rw [hml]) (rest := []) rfl (by rw [hb]; exact hd) hfr (by show 2 * 0 + 0 + _ ≤ _; omega)
      have e1 : copied (arrV (cA 20) 8 (fun j => .int (h.2.2.1 a j))) (arrV (cA 20) 8 (fun j => .int (h.2.2.1 t j))) 0 0 8 = arrV (cA 20) 8 (fun j => .int (va_cpy (h.2.2.1 a) (h.2.2.1 t) 0 0 8 j)) := va_copied (n := 8) (sp := 0) (dp := 0) (fun z => .int z) (cA 20) (cA 20) (h.2.2.1 a) (h.2.2.1 t) (by decide)
      rw [e1] at X' step
      have hl : b0 + t < H.size := by rw [hr.1]; exact Nat.add_lt_add_left h2 b0
      have oq : ∀ q : Nat, q ≠ b0 + t → (H.setIfInBounds (b0 + t) (arrV (cA 20) 8 (fun j => .int (va_cpy (h.2.2.1 a) (h.2.2.1 t) 0 0 8 j))))[q]? = H[q]? := fun q hq => by simp [Array.getElem?_setIfInBounds, Ne.symm hq]
      have ec : (fun j => Value.int (va_cpy (h.2.2.1 a) (h.2.2.1 t) 0 0 8 j)) = fun j => Value.int (if j < 8 then h.2.2.1 a j else h.2.2.1 t j) := by
        funext j
        unfold va_cpy
        by_cases z : j < 8 <;> simp [z]
      obtain ⟨t2, a1, b1⟩ := kk (H.setIfInBounds (b0 + t) (arrV (cA 20) 8 (fun j => .int (va_cpy (h.2.2.1 a) (h.2.2.1 t) 0 0 8 j)))) _ rfl rfl (ax_rel_set (a := t) hr (Nat.ne_of_gt (Nat.lt_trans h2 hr.2.1)) rfl (by simp) oq (fun a' ha' => ⟨rfl, ax_rw_other _ _ ha', rfl, rfl⟩) (ax_arri_only (Or.inl (by show (h.2.1 t).1 = 20; rw [hkb])) (by
          show _ = some (arrV (cA (h.2.1 t).1) (h.2.1 t).2 (fun j => .int (ax_rw _ _ _ _ j)))
          rw [ax_rw_self, hkb, ec]
          simp [Array.getElem?_setIfInBounds, hl])))
        ⟨by simp; exact hS.1, fun q g1 g2 => by
          rw [oq q (fun e => g2 (by rw [e]; exact Nat.le_add_right _ _))]
          exact hS.2.1 q g1 g2, fun q hq => by
          rcases List.mem_append.mp hq with h | h
          · exact hS.2.2 q h
          · obtain ⟨z, -, hz⟩ := List.mem_map.mp h
            rw [← hz]
            exact Nat.le_add_right _ _⟩ ((T.setVm vm').setCell (b0 + t) (arrV (cA 20) 8 (fun j => .int (va_cpy (h.2.2.1 a) (h.2.2.1 t) 0 0 8 j)))) (by rw [← hT]; rfl) X'
      refine ⟨t2, ?_, b1⟩
      have := step t2 a1
      simpa only [List.map_cons, List.map_nil, ax_cv_ref, ax_cv_int, hga, hgb] using this
    · cases hs
  · cases hs
end AxN2
end
