section
-- ===== PART A: goes FIRST, ahead of the names: the tables' words, and 'selects' of the private methods out of them =====
/-- a private method of a class that the tables say can be made, by its rows of tables_1 -/
def lw_okq (q : MethodName × Nat) : Prop := (q.1.cls ≠ "java/lang/invoke/MethodHandle" ∧ q.1.cls ≠ "java/lang/invoke/VarHandle") ∧ Cond.instantiable q.1.cls q.2 ∈ tables_1 ∧ Cond.privateMethod q.1 ∈ tables_1 ∧ Cond.instanceMethod q.1 ∈ tables_1
theorem lw_p0 : lw_okq (⟨"DeadTimeLoop$Changes", "forgetOldest", "()V"⟩, 2) := ⟨⟨by decide +kernel, by decide +kernel⟩, List.mem_of_getElem? (i := 41) (by decide +kernel), List.mem_of_getElem? (i := 231) (by decide +kernel), List.mem_of_getElem? (i := 232) (by decide +kernel)⟩
theorem lw_p1 : lw_okq (⟨"DeadTimeLoop$Text", "readAssignment", "(I)I"⟩, 5) := ⟨⟨by decide +kernel, by decide +kernel⟩, List.mem_of_getElem? (i := 57) (by decide +kernel), List.mem_of_getElem? (i := 371) (by decide +kernel), List.mem_of_getElem? (i := 372) (by decide +kernel)⟩
theorem lw_p2 : lw_okq (⟨"DeadTimeLoop$Text", "targetAt", "(I)I"⟩, 5) := ⟨⟨by decide +kernel, by decide +kernel⟩, List.mem_of_getElem? (i := 57) (by decide +kernel), List.mem_of_getElem? (i := 375) (by decide +kernel), List.mem_of_getElem? (i := 376) (by decide +kernel)⟩
theorem lw_p3 : lw_okq (⟨"DeadTimeLoop$Text", "standsAt", "(Ljava/lang/String;I)Z"⟩, 5) := ⟨⟨by decide +kernel, by decide +kernel⟩, List.mem_of_getElem? (i := 57) (by decide +kernel), List.mem_of_getElem? (i := 380) (by decide +kernel), List.mem_of_getElem? (i := 381) (by decide +kernel)⟩
theorem lw_p4 : lw_okq (⟨"DeadTimeLoop$Text", "characterAt", "(I)I"⟩, 5) := ⟨⟨by decide +kernel, by decide +kernel⟩, List.mem_of_getElem? (i := 57) (by decide +kernel), List.mem_of_getElem? (i := 385) (by decide +kernel), List.mem_of_getElem? (i := 386) (by decide +kernel)⟩
theorem lw_p5 : lw_okq (⟨"DeadTimeLoop$Text", "isDigitAt", "(I)Z"⟩, 5) := ⟨⟨by decide +kernel, by decide +kernel⟩, List.mem_of_getElem? (i := 57) (by decide +kernel), List.mem_of_getElem? (i := 390) (by decide +kernel), List.mem_of_getElem? (i := 391) (by decide +kernel)⟩
theorem lw_p6 : lw_okq (⟨"DeadTimeLoop$Text", "keep", "(II)Z"⟩, 5) := ⟨⟨by decide +kernel, by decide +kernel⟩, List.mem_of_getElem? (i := 57) (by decide +kernel), List.mem_of_getElem? (i := 394) (by decide +kernel), List.mem_of_getElem? (i := 395) (by decide +kernel)⟩
theorem lw_p7 : lw_okq (⟨"DeadTimeLoop$Text", "isFirst", "(I)Z"⟩, 5) := ⟨⟨by decide +kernel, by decide +kernel⟩, List.mem_of_getElem? (i := 57) (by decide +kernel), List.mem_of_getElem? (i := 416) (by decide +kernel), List.mem_of_getElem? (i := 417) (by decide +kernel)⟩
theorem lw_p8 : lw_okq (⟨"DeadTimeLoop", "advance", "(LDeadTimeLoop$Loop;I)V"⟩, 11) := ⟨⟨by decide +kernel, by decide +kernel⟩, List.mem_of_getElem? (i := 16) (by decide +kernel), List.mem_of_getElem? (i := 432) (by decide +kernel), List.mem_of_getElem? (i := 433) (by decide +kernel)⟩
theorem lw_p9 : lw_okq (⟨"DeadTimeLoop$Loop", "noise", "(I)I"⟩, 9) := ⟨⟨by decide +kernel, by decide +kernel⟩, List.mem_of_getElem? (i := 82) (by decide +kernel), List.mem_of_getElem? (i := 441) (by decide +kernel), List.mem_of_getElem? (i := 442) (by decide +kernel)⟩
theorem lw_p10 : lw_okq (⟨"DeadTimeLoop$Loop", "delayed", "(III)I"⟩, 9) := ⟨⟨by decide +kernel, by decide +kernel⟩, List.mem_of_getElem? (i := 82) (by decide +kernel), List.mem_of_getElem? (i := 449) (by decide +kernel), List.mem_of_getElem? (i := 450) (by decide +kernel)⟩
theorem lw_p11 : lw_okq (⟨"DeadTimeLoop$Loop", "judge", "(ZI)V"⟩, 9) := ⟨⟨by decide +kernel, by decide +kernel⟩, List.mem_of_getElem? (i := 82) (by decide +kernel), List.mem_of_getElem? (i := 478) (by decide +kernel), List.mem_of_getElem? (i := 479) (by decide +kernel)⟩
theorem lw_p12 : lw_okq (⟨"DeadTimeLoop$Loop", "control", "(LDeadTimeLoop$Settings;Z)V"⟩, 9) := ⟨⟨by decide +kernel, by decide +kernel⟩, List.mem_of_getElem? (i := 82) (by decide +kernel), List.mem_of_getElem? (i := 482) (by decide +kernel), List.mem_of_getElem? (i := 483) (by decide +kernel)⟩
theorem lw_p13 : lw_okq (⟨"DeadTimeLoop$Loop", "outputFor", "(JLDeadTimeLoop$Settings;)J"⟩, 9) := ⟨⟨by decide +kernel, by decide +kernel⟩, List.mem_of_getElem? (i := 82) (by decide +kernel), List.mem_of_getElem? (i := 487) (by decide +kernel), List.mem_of_getElem? (i := 488) (by decide +kernel)⟩
theorem lw_p14 : lw_okq (⟨"DeadTimeLoop$Loop", "keepRecords", "()V"⟩, 9) := ⟨⟨by decide +kernel, by decide +kernel⟩, List.mem_of_getElem? (i := 82) (by decide +kernel), List.mem_of_getElem? (i := 500) (by decide +kernel), List.mem_of_getElem? (i := 501) (by decide +kernel)⟩
theorem lw_p15 : lw_okq (⟨"DeadTimeLoop$Watches", "seeOne", "(III)V"⟩, 5) := ⟨⟨by decide +kernel, by decide +kernel⟩, List.mem_of_getElem? (i := 114) (by decide +kernel), List.mem_of_getElem? (i := 516) (by decide +kernel), List.mem_of_getElem? (i := 517) (by decide +kernel)⟩
def lw_privs_1 : List (MethodName × Nat) := [(⟨"DeadTimeLoop$Changes", "forgetOldest", "()V"⟩, 2), (⟨"DeadTimeLoop$Text", "readAssignment", "(I)I"⟩, 5), (⟨"DeadTimeLoop$Text", "targetAt", "(I)I"⟩, 5), (⟨"DeadTimeLoop$Text", "standsAt", "(Ljava/lang/String;I)Z"⟩, 5), (⟨"DeadTimeLoop$Text", "characterAt", "(I)I"⟩, 5), (⟨"DeadTimeLoop$Text", "isDigitAt", "(I)Z"⟩, 5), (⟨"DeadTimeLoop$Text", "keep", "(II)Z"⟩, 5), (⟨"DeadTimeLoop$Text", "isFirst", "(I)Z"⟩, 5), (⟨"DeadTimeLoop", "advance", "(LDeadTimeLoop$Loop;I)V"⟩, 11), (⟨"DeadTimeLoop$Loop", "noise", "(I)I"⟩, 9), (⟨"DeadTimeLoop$Loop", "delayed", "(III)I"⟩, 9), (⟨"DeadTimeLoop$Loop", "judge", "(ZI)V"⟩, 9), (⟨"DeadTimeLoop$Loop", "control", "(LDeadTimeLoop$Settings;Z)V"⟩, 9), (⟨"DeadTimeLoop$Loop", "outputFor", "(JLDeadTimeLoop$Settings;)J"⟩, 9), (⟨"DeadTimeLoop$Loop", "keepRecords", "()V"⟩, 9), (⟨"DeadTimeLoop$Watches", "seeOne", "(III)V"⟩, 5)]
theorem lw_r1 : ∀ q ∈ lw_privs_1, lw_okq q := List.forall_mem_cons.mpr ⟨lw_p0, List.forall_mem_cons.mpr ⟨lw_p1, List.forall_mem_cons.mpr ⟨lw_p2, List.forall_mem_cons.mpr ⟨lw_p3, List.forall_mem_cons.mpr ⟨lw_p4, List.forall_mem_cons.mpr ⟨lw_p5, List.forall_mem_cons.mpr ⟨lw_p6, List.forall_mem_cons.mpr ⟨lw_p7, List.forall_mem_cons.mpr ⟨lw_p8, List.forall_mem_cons.mpr ⟨lw_p9, List.forall_mem_cons.mpr ⟨lw_p10, List.forall_mem_cons.mpr ⟨lw_p11, List.forall_mem_cons.mpr ⟨lw_p12, List.forall_mem_cons.mpr ⟨lw_p13, List.forall_mem_cons.mpr ⟨lw_p14, List.forall_mem_cons.mpr ⟨lw_p15, fun _ h => absurd h List.not_mem_nil⟩⟩⟩⟩⟩⟩⟩⟩⟩⟩⟩⟩⟩⟩⟩⟩
theorem lw_p16 : lw_okq (⟨"DeadTimeLoop$Loop", "moveOn", "(LDeadTimeLoop$Settings;)V"⟩, 9) := ⟨⟨by decide +kernel, by decide +kernel⟩, List.mem_of_getElem? (i := 82) (by decide +kernel), List.mem_of_getElem? (i := 524) (by decide +kernel), List.mem_of_getElem? (i := 525) (by decide +kernel)⟩
theorem lw_p17 : lw_okq (⟨"DeadTimeLoop", "storedAt", "(I)LDeadTimeLoop$Loop;"⟩, 11) := ⟨⟨by decide +kernel, by decide +kernel⟩, List.mem_of_getElem? (i := 16) (by decide +kernel), List.mem_of_getElem? (i := 602) (by decide +kernel), List.mem_of_getElem? (i := 603) (by decide +kernel)⟩
theorem lw_p18 : lw_okq (⟨"DeadTimeLoop", "correlationFor", "(I)J"⟩, 11) := ⟨⟨by decide +kernel, by decide +kernel⟩, List.mem_of_getElem? (i := 16) (by decide +kernel), List.mem_of_getElem? (i := 628) (by decide +kernel), List.mem_of_getElem? (i := 629) (by decide +kernel)⟩
theorem lw_p19 : lw_okq (⟨"DeadTimeLoop", "strongestLag", "(I)I"⟩, 11) := ⟨⟨by decide +kernel, by decide +kernel⟩, List.mem_of_getElem? (i := 16) (by decide +kernel), List.mem_of_getElem? (i := 641) (by decide +kernel), List.mem_of_getElem? (i := 642) (by decide +kernel)⟩
theorem lw_p20 : lw_okq (⟨"DeadTimeLoop", "errorsWith", "(II)J"⟩, 11) := ⟨⟨by decide +kernel, by decide +kernel⟩, List.mem_of_getElem? (i := 16) (by decide +kernel), List.mem_of_getElem? (i := 658) (by decide +kernel), List.mem_of_getElem? (i := 659) (by decide +kernel)⟩
theorem lw_p21 : lw_okq (⟨"DeadTimeLoop", "prepareIdeal", "()V"⟩, 11) := ⟨⟨by decide +kernel, by decide +kernel⟩, List.mem_of_getElem? (i := 16) (by decide +kernel), List.mem_of_getElem? (i := 670) (by decide +kernel), List.mem_of_getElem? (i := 671) (by decide +kernel)⟩
theorem lw_p22 : lw_okq (⟨"DeadTimeLoop", "difference", "()I"⟩, 11) := ⟨⟨by decide +kernel, by decide +kernel⟩, List.mem_of_getElem? (i := 16) (by decide +kernel), List.mem_of_getElem? (i := 674) (by decide +kernel), List.mem_of_getElem? (i := 675) (by decide +kernel)⟩
theorem lw_p23 : lw_okq (⟨"DeadTimeLoopModel", "is", "(IIIIIIII)V"⟩, 18) := ⟨⟨by decide +kernel, by decide +kernel⟩, List.mem_of_getElem? (i := 679) (by decide +kernel), List.mem_of_getElem? (i := 685) (by decide +kernel), List.mem_of_getElem? (i := 686) (by decide +kernel)⟩
theorem lw_p24 : lw_okq (⟨"DeadTimeLoopModel", "lettersAre", "(IIIII)V"⟩, 18) := ⟨⟨by decide +kernel, by decide +kernel⟩, List.mem_of_getElem? (i := 679) (by decide +kernel), List.mem_of_getElem? (i := 689) (by decide +kernel), List.mem_of_getElem? (i := 690) (by decide +kernel)⟩
theorem lw_p25 : lw_okq (⟨"DeadTimeLoopModel", "goesOn", "(IIIII)V"⟩, 18) := ⟨⟨by decide +kernel, by decide +kernel⟩, List.mem_of_getElem? (i := 679) (by decide +kernel), List.mem_of_getElem? (i := 693) (by decide +kernel), List.mem_of_getElem? (i := 694) (by decide +kernel)⟩
theorem lw_p26 : lw_okq (⟨"DeadTimeLoopModel", "keeps", "()V"⟩, 18) := ⟨⟨by decide +kernel, by decide +kernel⟩, List.mem_of_getElem? (i := 679) (by decide +kernel), List.mem_of_getElem? (i := 770) (by decide +kernel), List.mem_of_getElem? (i := 771) (by decide +kernel)⟩
theorem lw_p27 : lw_okq (⟨"DeadTimeLoopModel", "longOf", "(I)I"⟩, 18) := ⟨⟨by decide +kernel, by decide +kernel⟩, List.mem_of_getElem? (i := 679) (by decide +kernel), List.mem_of_getElem? (i := 782) (by decide +kernel), List.mem_of_getElem? (i := 783) (by decide +kernel)⟩
theorem lw_p28 : lw_okq (⟨"DeadTimeLoopModel", "faultOf", "()I"⟩, 18) := ⟨⟨by decide +kernel, by decide +kernel⟩, List.mem_of_getElem? (i := 679) (by decide +kernel), List.mem_of_getElem? (i := 822) (by decide +kernel), List.mem_of_getElem? (i := 823) (by decide +kernel)⟩
theorem lw_p29 : lw_okq (⟨"DeadTimeLoopModel", "isAssignment", "()Z"⟩, 18) := ⟨⟨by decide +kernel, by decide +kernel⟩, List.mem_of_getElem? (i := 679) (by decide +kernel), List.mem_of_getElem? (i := 826) (by decide +kernel), List.mem_of_getElem? (i := 827) (by decide +kernel)⟩
theorem lw_p30 : lw_okq (⟨"DeadTimeLoopModel", "named", "()I"⟩, 18) := ⟨⟨by decide +kernel, by decide +kernel⟩, List.mem_of_getElem? (i := 679) (by decide +kernel), List.mem_of_getElem? (i := 830) (by decide +kernel), List.mem_of_getElem? (i := 831) (by decide +kernel)⟩
theorem lw_p31 : lw_okq (⟨"DeadTimeLoopModel", "charAt", "(I)I"⟩, 18) := ⟨⟨by decide +kernel, by decide +kernel⟩, List.mem_of_getElem? (i := 679) (by decide +kernel), List.mem_of_getElem? (i := 834) (by decide +kernel), List.mem_of_getElem? (i := 835) (by decide +kernel)⟩
def lw_privs_2 : List (MethodName × Nat) := [(⟨"DeadTimeLoop$Loop", "moveOn", "(LDeadTimeLoop$Settings;)V"⟩, 9), (⟨"DeadTimeLoop", "storedAt", "(I)LDeadTimeLoop$Loop;"⟩, 11), (⟨"DeadTimeLoop", "correlationFor", "(I)J"⟩, 11), (⟨"DeadTimeLoop", "strongestLag", "(I)I"⟩, 11), (⟨"DeadTimeLoop", "errorsWith", "(II)J"⟩, 11), (⟨"DeadTimeLoop", "prepareIdeal", "()V"⟩, 11), (⟨"DeadTimeLoop", "difference", "()I"⟩, 11), (⟨"DeadTimeLoopModel", "is", "(IIIIIIII)V"⟩, 18), (⟨"DeadTimeLoopModel", "lettersAre", "(IIIII)V"⟩, 18), (⟨"DeadTimeLoopModel", "goesOn", "(IIIII)V"⟩, 18), (⟨"DeadTimeLoopModel", "keeps", "()V"⟩, 18), (⟨"DeadTimeLoopModel", "longOf", "(I)I"⟩, 18), (⟨"DeadTimeLoopModel", "faultOf", "()I"⟩, 18), (⟨"DeadTimeLoopModel", "isAssignment", "()Z"⟩, 18), (⟨"DeadTimeLoopModel", "named", "()I"⟩, 18), (⟨"DeadTimeLoopModel", "charAt", "(I)I"⟩, 18)]
theorem lw_r2 : ∀ q ∈ lw_privs_2, lw_okq q := List.forall_mem_cons.mpr ⟨lw_p16, List.forall_mem_cons.mpr ⟨lw_p17, List.forall_mem_cons.mpr ⟨lw_p18, List.forall_mem_cons.mpr ⟨lw_p19, List.forall_mem_cons.mpr ⟨lw_p20, List.forall_mem_cons.mpr ⟨lw_p21, List.forall_mem_cons.mpr ⟨lw_p22, List.forall_mem_cons.mpr ⟨lw_p23, List.forall_mem_cons.mpr ⟨lw_p24, List.forall_mem_cons.mpr ⟨lw_p25, List.forall_mem_cons.mpr ⟨lw_p26, List.forall_mem_cons.mpr ⟨lw_p27, List.forall_mem_cons.mpr ⟨lw_p28, List.forall_mem_cons.mpr ⟨lw_p29, List.forall_mem_cons.mpr ⟨lw_p30, List.forall_mem_cons.mpr ⟨lw_p31, fun _ h => absurd h List.not_mem_nil⟩⟩⟩⟩⟩⟩⟩⟩⟩⟩⟩⟩⟩⟩⟩⟩
theorem lw_p32 : lw_okq (⟨"DeadTimeLoopModel", "assignedBy", "(I)I"⟩, 18) := ⟨⟨by decide +kernel, by decide +kernel⟩, List.mem_of_getElem? (i := 679) (by decide +kernel), List.mem_of_getElem? (i := 849) (by decide +kernel), List.mem_of_getElem? (i := 850) (by decide +kernel)⟩
theorem lw_p33 : lw_okq (⟨"DeadTimeLoopModel", "ticks", "()V"⟩, 18) := ⟨⟨by decide +kernel, by decide +kernel⟩, List.mem_of_getElem? (i := 679) (by decide +kernel), List.mem_of_getElem? (i := 862) (by decide +kernel), List.mem_of_getElem? (i := 863) (by decide +kernel)⟩
theorem lw_p34 : lw_okq (⟨"DeadTimeLoopModel", "noise", "()J"⟩, 18) := ⟨⟨by decide +kernel, by decide +kernel⟩, List.mem_of_getElem? (i := 679) (by decide +kernel), List.mem_of_getElem? (i := 866) (by decide +kernel), List.mem_of_getElem? (i := 867) (by decide +kernel)⟩
theorem lw_p35 : lw_okq (⟨"DeadTimeLoopModel", "records", "(IJ)V"⟩, 18) := ⟨⟨by decide +kernel, by decide +kernel⟩, List.mem_of_getElem? (i := 679) (by decide +kernel), List.mem_of_getElem? (i := 874) (by decide +kernel), List.mem_of_getElem? (i := 875) (by decide +kernel)⟩
theorem lw_p36 : lw_okq (⟨"DeadTimeLoopModel", "delayed", "(II)J"⟩, 18) := ⟨⟨by decide +kernel, by decide +kernel⟩, List.mem_of_getElem? (i := 679) (by decide +kernel), List.mem_of_getElem? (i := 879) (by decide +kernel), List.mem_of_getElem? (i := 880) (by decide +kernel)⟩
theorem lw_p37 : lw_okq (⟨"DeadTimeLoopModel", "at", "(IJ)J"⟩, 18) := ⟨⟨by decide +kernel, by decide +kernel⟩, List.mem_of_getElem? (i := 679) (by decide +kernel), List.mem_of_getElem? (i := 883) (by decide +kernel), List.mem_of_getElem? (i := 884) (by decide +kernel)⟩
theorem lw_p38 : lw_okq (⟨"DeadTimeLoopModel", "steps", "(JJI)J"⟩, 18) := ⟨⟨by decide +kernel, by decide +kernel⟩, List.mem_of_getElem? (i := 679) (by decide +kernel), List.mem_of_getElem? (i := 891) (by decide +kernel), List.mem_of_getElem? (i := 892) (by decide +kernel)⟩
theorem lw_p39 : lw_okq (⟨"DeadTimeLoopModel", "judges", "(J)V"⟩, 18) := ⟨⟨by decide +kernel, by decide +kernel⟩, List.mem_of_getElem? (i := 679) (by decide +kernel), List.mem_of_getElem? (i := 896) (by decide +kernel), List.mem_of_getElem? (i := 897) (by decide +kernel)⟩
theorem lw_p40 : lw_okq (⟨"DeadTimeLoopModel", "controls", "()V"⟩, 18) := ⟨⟨by decide +kernel, by decide +kernel⟩, List.mem_of_getElem? (i := 679) (by decide +kernel), List.mem_of_getElem? (i := 903) (by decide +kernel), List.mem_of_getElem? (i := 904) (by decide +kernel)⟩
theorem lw_p41 : lw_okq (⟨"DeadTimeLoopModel", "measures", "()V"⟩, 18) := ⟨⟨by decide +kernel, by decide +kernel⟩, List.mem_of_getElem? (i := 679) (by decide +kernel), List.mem_of_getElem? (i := 907) (by decide +kernel), List.mem_of_getElem? (i := 908) (by decide +kernel)⟩
theorem lw_p42 : lw_okq (⟨"DeadTimeLoopModel", "watches", "()V"⟩, 18) := ⟨⟨by decide +kernel, by decide +kernel⟩, List.mem_of_getElem? (i := 679) (by decide +kernel), List.mem_of_getElem? (i := 911) (by decide +kernel), List.mem_of_getElem? (i := 912) (by decide +kernel)⟩
theorem lw_p43 : lw_okq (⟨"DeadTimeLoopModel", "present", "(I)I"⟩, 18) := ⟨⟨by decide +kernel, by decide +kernel⟩, List.mem_of_getElem? (i := 679) (by decide +kernel), List.mem_of_getElem? (i := 927) (by decide +kernel), List.mem_of_getElem? (i := 928) (by decide +kernel)⟩
theorem lw_p44 : lw_okq (⟨"DeadTimeLoopModel", "clears", "()V"⟩, 18) := ⟨⟨by decide +kernel, by decide +kernel⟩, List.mem_of_getElem? (i := 679) (by decide +kernel), List.mem_of_getElem? (i := 940) (by decide +kernel), List.mem_of_getElem? (i := 941) (by decide +kernel)⟩
theorem lw_p45 : lw_okq (⟨"DeadTimeLoopModel", "placeOf", "(I)I"⟩, 18) := ⟨⟨by decide +kernel, by decide +kernel⟩, List.mem_of_getElem? (i := 679) (by decide +kernel), List.mem_of_getElem? (i := 948) (by decide +kernel), List.mem_of_getElem? (i := 949) (by decide +kernel)⟩
theorem lw_p46 : lw_okq (⟨"DeadTimeLoopModel", "correlationOf", "(I)J"⟩, 18) := ⟨⟨by decide +kernel, by decide +kernel⟩, List.mem_of_getElem? (i := 679) (by decide +kernel), List.mem_of_getElem? (i := 990) (by decide +kernel), List.mem_of_getElem? (i := 991) (by decide +kernel)⟩
theorem lw_p47 : lw_okq (⟨"DeadTimeLoopModel", "bestLag", "()I"⟩, 18) := ⟨⟨by decide +kernel, by decide +kernel⟩, List.mem_of_getElem? (i := 679) (by decide +kernel), List.mem_of_getElem? (i := 998) (by decide +kernel), List.mem_of_getElem? (i := 999) (by decide +kernel)⟩
def lw_privs_3 : List (MethodName × Nat) := [(⟨"DeadTimeLoopModel", "assignedBy", "(I)I"⟩, 18), (⟨"DeadTimeLoopModel", "ticks", "()V"⟩, 18), (⟨"DeadTimeLoopModel", "noise", "()J"⟩, 18), (⟨"DeadTimeLoopModel", "records", "(IJ)V"⟩, 18), (⟨"DeadTimeLoopModel", "delayed", "(II)J"⟩, 18), (⟨"DeadTimeLoopModel", "at", "(IJ)J"⟩, 18), (⟨"DeadTimeLoopModel", "steps", "(JJI)J"⟩, 18), (⟨"DeadTimeLoopModel", "judges", "(J)V"⟩, 18), (⟨"DeadTimeLoopModel", "controls", "()V"⟩, 18), (⟨"DeadTimeLoopModel", "measures", "()V"⟩, 18), (⟨"DeadTimeLoopModel", "watches", "()V"⟩, 18), (⟨"DeadTimeLoopModel", "present", "(I)I"⟩, 18), (⟨"DeadTimeLoopModel", "clears", "()V"⟩, 18), (⟨"DeadTimeLoopModel", "placeOf", "(I)I"⟩, 18), (⟨"DeadTimeLoopModel", "correlationOf", "(I)J"⟩, 18), (⟨"DeadTimeLoopModel", "bestLag", "()I"⟩, 18)]
theorem lw_r3 : ∀ q ∈ lw_privs_3, lw_okq q := List.forall_mem_cons.mpr ⟨lw_p32, List.forall_mem_cons.mpr ⟨lw_p33, List.forall_mem_cons.mpr ⟨lw_p34, List.forall_mem_cons.mpr ⟨lw_p35, List.forall_mem_cons.mpr ⟨lw_p36, List.forall_mem_cons.mpr ⟨lw_p37, List.forall_mem_cons.mpr ⟨lw_p38, List.forall_mem_cons.mpr ⟨lw_p39, List.forall_mem_cons.mpr ⟨lw_p40, List.forall_mem_cons.mpr ⟨lw_p41, List.forall_mem_cons.mpr ⟨lw_p42, List.forall_mem_cons.mpr ⟨lw_p43, List.forall_mem_cons.mpr ⟨lw_p44, List.forall_mem_cons.mpr ⟨lw_p45, List.forall_mem_cons.mpr ⟨lw_p46, List.forall_mem_cons.mpr ⟨lw_p47, fun _ h => absurd h List.not_mem_nil⟩⟩⟩⟩⟩⟩⟩⟩⟩⟩⟩⟩⟩⟩⟩⟩
theorem lw_p48 : lw_okq (⟨"DeadTimeLoopModel", "putsAside", "()V"⟩, 18) := ⟨⟨by decide +kernel, by decide +kernel⟩, List.mem_of_getElem? (i := 679) (by decide +kernel), List.mem_of_getElem? (i := 1010) (by decide +kernel), List.mem_of_getElem? (i := 1011) (by decide +kernel)⟩
theorem lw_p49 : lw_okq (⟨"DeadTimeLoopModel", "putsBack", "()V"⟩, 18) := ⟨⟨by decide +kernel, by decide +kernel⟩, List.mem_of_getElem? (i := 679) (by decide +kernel), List.mem_of_getElem? (i := 1014) (by decide +kernel), List.mem_of_getElem? (i := 1015) (by decide +kernel)⟩
def lw_privs_4 : List (MethodName × Nat) := [(⟨"DeadTimeLoopModel", "putsAside", "()V"⟩, 18), (⟨"DeadTimeLoopModel", "putsBack", "()V"⟩, 18)]
theorem lw_r4 : ∀ q ∈ lw_privs_4, lw_okq q := List.forall_mem_cons.mpr ⟨lw_p48, List.forall_mem_cons.mpr ⟨lw_p49, fun _ h => absurd h List.not_mem_nil⟩⟩
def lw_privs : List (MethodName × Nat) := lw_privs_1 ++ (lw_privs_2 ++ (lw_privs_3 ++ (lw_privs_4)))
def lw_tbl : List Cond := k2_sels lw_privs ++ tables_1
theorem lw_privs_ok : ∀ q ∈ lw_privs, lw_okq q := by
  show ∀ q ∈ lw_privs_1 ++ (lw_privs_2 ++ (lw_privs_3 ++ (lw_privs_4))), lw_okq q
  exact List.forall_mem_append.mpr ⟨lw_r1, List.forall_mem_append.mpr ⟨lw_r2, List.forall_mem_append.mpr ⟨lw_r3, lw_r4⟩⟩⟩
end
section
/-! ===== BEGIN words of one list among another's, by their places ===== -/
theorem goodIn_r {big : List Cond} (ws : List Cond) (ps : List Nat) (hp : ws = ps.filterMap (fun i => big[i]?)) (h : ws.all goodWord = true) : GoodIn big ws := by
  intro w hw
  have h1 := List.all_eq_true.mp h w hw
  rw [hp] at hw
  obtain ⟨i, -, hi⟩ := List.mem_filterMap.mp hw
  have hm : w ∈ big := by first | exact List.mem_of_getElem? hi | exact List.getElem?_mem hi
  exact ⟨hm, good_of_word h1⟩
theorem goodIn_app {big a b : List Cond} (ha : GoodIn big a) (hb : GoodIn big b) : GoodIn big (a ++ b) := fun w h => (List.mem_append.mp h).elim (ha w) (hb w)
theorem goodIn_ca {big a b : List Cond} {c : Cond} (ha : GoodIn big (c :: a)) (hb : GoodIn big b) : GoodIn big (c :: (a ++ b)) := fun w h => (List.mem_cons.mp h).elim (fun e => ha w (List.mem_cons.mpr (Or.inl e))) (fun h => (List.mem_append.mp h).elim (fun h => ha w (List.mem_cons.mpr (Or.inr h))) (hb w))
theorem goodIn_sub {big ws : List Cond} (hm : ∀ w ∈ ws, w ∈ big) (h : ws.all goodWord = true) : GoodIn big ws := fun w hw => ⟨hm w hw, good_of_word (List.all_eq_true.mp h w hw)⟩
/-! ===== END ===== -/


/-! ===== BEGIN printed: names, fields, word lists, decode rows ===== -/
def RX0 : String := "DeadTimeLoop$Changes"
def TX0 : u_T := fun k => match k with
  | 0 => ("DeadTimeLoop$Changes", "rows", "[[I", true)
  | _ => ("DeadTimeLoop$Changes", "count", "I", false)
def tyX0 : Nat → FieldType := fun k => match k with
  | 0 => .array (.array .int)
  | _ => .int
abbrev wsX00 : List Cond := u_ws RX0 TX0 2
theorem nmX0 : ∀ a, a < 2 → ∀ b, b < 2 → a ≠ b → (TX0 a).2.1 ≠ (TX0 b).2.1 := by decide +kernel
theorem tyX0_ok : ∀ k, k < 2 → parseFieldDescriptor (TX0 k).2.2.1 = some (tyX0 k) := by decide +kernel
abbrev cX0_init : ByteArray := prog_2_method_1_code
def yX0_init : MethodName := ⟨RX0, "<init>", "()V"⟩
abbrev cX0_keep : ByteArray := prog_2_method_2_code
def yX0_keep : MethodName := ⟨RX0, "keep", "(LDeadTimeLoop$Settings;)V"⟩
abbrev cX0_takeBack : ByteArray := prog_2_method_3_code
def yX0_takeBack : MethodName := ⟨RX0, "takeBack", "(LDeadTimeLoop$Settings;)V"⟩
abbrev cX0_forgetOldest : ByteArray := prog_2_method_4_code
def yX0_forgetOldest : MethodName := ⟨RX0, "forgetOldest", "()V"⟩
def RX1 : String := "DeadTimeLoop$Loop"
def TX1 : u_T := fun k => match k with
  | 0 => ("DeadTimeLoop$Loop", "now", "I", false)
  | 1 => ("DeadTimeLoop$Loop", "load", "I", false)
  | 2 => ("DeadTimeLoop$Loop", "seed", "I", false)
  | 3 => ("DeadTimeLoop$Loop", "badTicks", "I", false)
  | 4 => ("DeadTimeLoop$Loop", "goodTicks", "I", false)
  | 5 => ("DeadTimeLoop$Loop", "present", "[I", true)
  | 6 => ("DeadTimeLoop$Loop", "records", "[I", true)
  | 7 => ("DeadTimeLoop$Loop", "section", "LDeadTimeLoop$Section;", true)
  | _ => ("DeadTimeLoop$Loop", "watches", "LDeadTimeLoop$Watches;", true)
def tyX1 : Nat → FieldType := fun k => match k with
  | 0 => .int
  | 1 => .int
  | 2 => .int
  | 3 => .int
  | 4 => .int
  | 5 => .array .int
  | 6 => .array .int
  | 7 => .object "DeadTimeLoop$Section"
  | _ => .object "DeadTimeLoop$Watches"
abbrev wsX10 : List Cond := u_ws RX1 TX1 9
theorem nmX1 : ∀ a, a < 9 → ∀ b, b < 9 → a ≠ b → (TX1 a).2.1 ≠ (TX1 b).2.1 := by decide +kernel
theorem tyX1_ok : ∀ k, k < 9 → parseFieldDescriptor (TX1 k).2.2.1 = some (tyX1 k) := by decide +kernel
abbrev cX1_init : ByteArray := prog_3_method_1_code
def yX1_init : MethodName := ⟨RX1, "<init>", "()V"⟩
abbrev cX1_begin : ByteArray := prog_3_method_2_code
def yX1_begin : MethodName := ⟨RX1, "begin", "()V"⟩
abbrev cX1_copy : ByteArray := prog_3_method_3_code
def yX1_copy : MethodName := ⟨RX1, "copy", "(LDeadTimeLoop$Loop;)V"⟩
abbrev cX1_changeSetpoint : ByteArray := prog_3_method_4_code
def yX1_changeSetpoint : MethodName := ⟨RX1, "changeSetpoint", "(I)I"⟩
abbrev cX1_recordOf : ByteArray := prog_3_method_5_code
def yX1_recordOf : MethodName := ⟨RX1, "recordOf", "(II)I"⟩
abbrev cX1_agreement : ByteArray := prog_3_method_6_code
def yX1_agreement : MethodName := ⟨RX1, "agreement", "(I)J"⟩
abbrev cX1_tick : ByteArray := prog_3_method_7_code
def yX1_tick : MethodName := ⟨RX1, "tick", "(LDeadTimeLoop$Settings;Z)V"⟩
abbrev cX1_noise : ByteArray := prog_3_method_8_code
def yX1_noise : MethodName := ⟨RX1, "noise", "(I)I"⟩
abbrev cX1_delayed : ByteArray := prog_3_method_9_code
def yX1_delayed : MethodName := ⟨RX1, "delayed", "(III)I"⟩
abbrev cX1_judge : ByteArray := prog_3_method_10_code
def yX1_judge : MethodName := ⟨RX1, "judge", "(ZI)V"⟩
abbrev cX1_control : ByteArray := prog_3_method_11_code
def yX1_control : MethodName := ⟨RX1, "control", "(LDeadTimeLoop$Settings;Z)V"⟩
abbrev cX1_outputFor : ByteArray := prog_3_method_12_code
def yX1_outputFor : MethodName := ⟨RX1, "outputFor", "(JLDeadTimeLoop$Settings;)J"⟩
abbrev cX1_keepRecords : ByteArray := prog_3_method_13_code
def yX1_keepRecords : MethodName := ⟨RX1, "keepRecords", "()V"⟩
abbrev cX1_moveOn : ByteArray := prog_3_method_14_code
def yX1_moveOn : MethodName := ⟨RX1, "moveOn", "(LDeadTimeLoop$Settings;)V"⟩
def RX2 : String := "DeadTimeLoop$Section"
def TX2 : u_T := fun k => match k with
  | 0 => ("DeadTimeLoop$Section", "errorSum", "J", false)
  | 1 => ("DeadTimeLoop$Section", "effort", "J", false)
  | 2 => ("DeadTimeLoop$Section", "overshoot", "I", false)
  | 3 => ("DeadTimeLoop$Section", "ticks", "I", false)
  | _ => ("DeadTimeLoop$Section", "upwards", "Z", false)
def tyX2 : Nat → FieldType := fun k => match k with
  | 0 => .long
  | 1 => .long
  | 2 => .int
  | 3 => .int
  | _ => .boolean
abbrev wsX20 : List Cond := u_ws RX2 TX2 5
theorem nmX2 : ∀ a, a < 5 → ∀ b, b < 5 → a ≠ b → (TX2 a).2.1 ≠ (TX2 b).2.1 := by decide +kernel
theorem tyX2_ok : ∀ k, k < 5 → parseFieldDescriptor (TX2 k).2.2.1 = some (tyX2 k) := by decide +kernel
abbrev cX2_init : ByteArray := prog_4_method_1_code
def yX2_init : MethodName := ⟨RX2, "<init>", "()V"⟩
abbrev cX2_begin : ByteArray := prog_4_method_2_code
def yX2_begin : MethodName := ⟨RX2, "begin", "(Z)V"⟩
abbrev cX2_copy : ByteArray := prog_4_method_3_code
def yX2_copy : MethodName := ⟨RX2, "copy", "(LDeadTimeLoop$Section;)V"⟩
abbrev cX2_see : ByteArray := prog_4_method_4_code
def yX2_see : MethodName := ⟨RX2, "see", "(III)V"⟩
def RX3 : String := "DeadTimeLoop$Settings"
def TX3 : u_T := fun k => match k with
  | _ => ("DeadTimeLoop$Settings", "values", "[I", true)
def tyX3 : Nat → FieldType := fun k => match k with
  | _ => .array .int
abbrev wsX30 : List Cond := u_ws RX3 TX3 1
theorem nmX3 : ∀ a, a < 1 → ∀ b, b < 1 → a ≠ b → (TX3 a).2.1 ≠ (TX3 b).2.1 := by decide +kernel
theorem tyX3_ok : ∀ k, k < 1 → parseFieldDescriptor (TX3 k).2.2.1 = some (tyX3 k) := by decide +kernel
abbrev cX3_init : ByteArray := prog_5_method_1_code
def yX3_init : MethodName := ⟨RX3, "<init>", "()V"⟩
abbrev cX3_get : ByteArray := prog_5_method_2_code
def yX3_get : MethodName := ⟨RX3, "get", "(I)I"⟩
abbrev cX3_set : ByteArray := prog_5_method_3_code
def yX3_set : MethodName := ⟨RX3, "set", "(II)V"⟩
abbrev cX3_copy : ByteArray := prog_5_method_4_code
def yX3_copy : MethodName := ⟨RX3, "copy", "(LDeadTimeLoop$Settings;)V"⟩
def RX4 : String := "DeadTimeLoop$Text"
def TX4 : u_T := fun k => match k with
  | 0 => ("DeadTimeLoop$Text", "characters", "[C", true)
  | 1 => ("DeadTimeLoop$Text", "targets", "[I", true)
  | 2 => ("DeadTimeLoop$Text", "wanted", "[I", true)
  | 3 => ("DeadTimeLoop$Text", "length", "I", false)
  | _ => ("DeadTimeLoop$Text", "count", "I", false)
def tyX4 : Nat → FieldType := fun k => match k with
  | 0 => .array .char
  | 1 => .array .int
  | 2 => .array .int
  | 3 => .int
  | _ => .int
abbrev wsX40 : List Cond := u_ws RX4 TX4 5
theorem nmX4 : ∀ a, a < 5 → ∀ b, b < 5 → a ≠ b → (TX4 a).2.1 ≠ (TX4 b).2.1 := by decide +kernel
theorem tyX4_ok : ∀ k, k < 5 → parseFieldDescriptor (TX4 k).2.2.1 = some (tyX4 k) := by decide +kernel
abbrev cX4_init : ByteArray := prog_6_method_1_code
def yX4_init : MethodName := ⟨RX4, "<init>", "()V"⟩
abbrev cX4_append : ByteArray := prog_6_method_2_code
def yX4_append : MethodName := ⟨RX4, "append", "(C)Z"⟩
abbrev cX4_read : ByteArray := prog_6_method_3_code
def yX4_read : MethodName := ⟨RX4, "read", "()I"⟩
abbrev cX4_assignTo : ByteArray := prog_6_method_4_code
def yX4_assignTo : MethodName := ⟨RX4, "assignTo", "(LDeadTimeLoop$Settings;)V"⟩
abbrev cX4_different : ByteArray := prog_6_method_5_code
def yX4_different : MethodName := ⟨RX4, "different", "()I"⟩
abbrev cX4_differentAt : ByteArray := prog_6_method_6_code
def yX4_differentAt : MethodName := ⟨RX4, "differentAt", "(I)I"⟩
abbrev cX4_isFirst : ByteArray := prog_6_method_7_code
def yX4_isFirst : MethodName := ⟨RX4, "isFirst", "(I)Z"⟩
abbrev cX4_characterAt : ByteArray := prog_6_method_8_code
def yX4_characterAt : MethodName := ⟨RX4, "characterAt", "(I)I"⟩
abbrev cX4_isDigitAt : ByteArray := prog_6_method_9_code
def yX4_isDigitAt : MethodName := ⟨RX4, "isDigitAt", "(I)Z"⟩
abbrev cX4_readAssignment : ByteArray := prog_6_method_10_code
def yX4_readAssignment : MethodName := ⟨RX4, "readAssignment", "(I)I"⟩
abbrev cX4_keep : ByteArray := prog_6_method_11_code
def yX4_keep : MethodName := ⟨RX4, "keep", "(II)Z"⟩
abbrev cX4_targetAt : ByteArray := prog_6_method_12_code
def yX4_targetAt : MethodName := ⟨RX4, "targetAt", "(I)I"⟩
abbrev cX4_standsAt : ByteArray := prog_6_method_13_code
def yX4_standsAt : MethodName := ⟨RX4, "standsAt", "(Ljava/lang/String;I)Z"⟩
def RX5 : String := "DeadTimeLoop$Watches"
def TX5 : u_T := fun k => match k with
  | 0 => ("DeadTimeLoop$Watches", "signals", "[I", true)
  | 1 => ("DeadTimeLoop$Watches", "least", "[I", true)
  | 2 => ("DeadTimeLoop$Watches", "greatest", "[I", true)
  | 3 => ("DeadTimeLoop$Watches", "greatestTick", "[I", true)
  | _ => ("DeadTimeLoop$Watches", "count", "I", false)
def tyX5 : Nat → FieldType := fun k => match k with
  | 0 => .array .int
  | 1 => .array .int
  | 2 => .array .int
  | 3 => .array .int
  | _ => .int
abbrev wsX50 : List Cond := u_ws RX5 TX5 5
theorem nmX5 : ∀ a, a < 5 → ∀ b, b < 5 → a ≠ b → (TX5 a).2.1 ≠ (TX5 b).2.1 := by decide +kernel
theorem tyX5_ok : ∀ k, k < 5 → parseFieldDescriptor (TX5 k).2.2.1 = some (tyX5 k) := by decide +kernel
abbrev cX5_init : ByteArray := prog_7_method_1_code
def yX5_init : MethodName := ⟨RX5, "<init>", "()V"⟩
abbrev cX5_copy : ByteArray := prog_7_method_2_code
def yX5_copy : MethodName := ⟨RX5, "copy", "(LDeadTimeLoop$Watches;)V"⟩
abbrev cX5_placeOf : ByteArray := prog_7_method_3_code
def yX5_placeOf : MethodName := ⟨RX5, "placeOf", "(I)I"⟩
abbrev cX5_add : ByteArray := prog_7_method_4_code
def yX5_add : MethodName := ⟨RX5, "add", "(I)Z"⟩
abbrev cX5_remove : ByteArray := prog_7_method_5_code
def yX5_remove : MethodName := ⟨RX5, "remove", "(I)Z"⟩
abbrev cX5_hasSeen : ByteArray := prog_7_method_6_code
def yX5_hasSeen : MethodName := ⟨RX5, "hasSeen", "(I)Z"⟩
abbrev cX5_get : ByteArray := prog_7_method_7_code
def yX5_get : MethodName := ⟨RX5, "get", "(II)I"⟩
abbrev cX5_see : ByteArray := prog_7_method_8_code
def yX5_see : MethodName := ⟨RX5, "see", "([II)V"⟩
abbrev cX5_seeOne : ByteArray := prog_7_method_9_code
def yX5_seeOne : MethodName := ⟨RX5, "seeOne", "(III)V"⟩
def RX6 : String := "DeadTimeLoop"
def TX6 : u_T := fun k => match k with
  | 0 => ("DeadTimeLoop", "settings", "LDeadTimeLoop$Settings;", true)
  | 1 => ("DeadTimeLoop", "changes", "LDeadTimeLoop$Changes;", true)
  | 2 => ("DeadTimeLoop", "text", "LDeadTimeLoop$Text;", true)
  | 3 => ("DeadTimeLoop", "loop", "LDeadTimeLoop$Loop;", true)
  | 4 => ("DeadTimeLoop", "firstStored", "LDeadTimeLoop$Loop;", true)
  | 5 => ("DeadTimeLoop", "secondStored", "LDeadTimeLoop$Loop;", true)
  | 6 => ("DeadTimeLoop", "storedStates", "I", false)
  | 7 => ("DeadTimeLoop", "trialSettings", "LDeadTimeLoop$Settings;", true)
  | 8 => ("DeadTimeLoop", "idealSettings", "LDeadTimeLoop$Settings;", true)
  | 9 => ("DeadTimeLoop", "trial", "LDeadTimeLoop$Loop;", true)
  | _ => ("DeadTimeLoop", "ideal", "LDeadTimeLoop$Loop;", true)
def tyX6 : Nat → FieldType := fun k => match k with
  | 0 => .object "DeadTimeLoop$Settings"
  | 1 => .object "DeadTimeLoop$Changes"
  | 2 => .object "DeadTimeLoop$Text"
  | 3 => .object "DeadTimeLoop$Loop"
  | 4 => .object "DeadTimeLoop$Loop"
  | 5 => .object "DeadTimeLoop$Loop"
  | 6 => .int
  | 7 => .object "DeadTimeLoop$Settings"
  | 8 => .object "DeadTimeLoop$Settings"
  | 9 => .object "DeadTimeLoop$Loop"
  | _ => .object "DeadTimeLoop$Loop"
abbrev wsX60 : List Cond := u_ws RX6 TX6 11
theorem nmX6 : ∀ a, a < 11 → ∀ b, b < 11 → a ≠ b → (TX6 a).2.1 ≠ (TX6 b).2.1 := by decide +kernel
theorem tyX6_ok : ∀ k, k < 11 → parseFieldDescriptor (TX6 k).2.2.1 = some (tyX6 k) := by decide +kernel
abbrev cX6_init : ByteArray := prog_1_method_1_code
def yX6_init : MethodName := ⟨RX6, "<init>", "()V"⟩
abbrev cX6_setParameter : ByteArray := prog_1_method_2_code
def yX6_setParameter : MethodName := ⟨RX6, "setParameter", "(II)I"⟩
abbrev cX6_parameter : ByteArray := prog_1_method_3_code
def yX6_parameter : MethodName := ⟨RX6, "parameter", "(I)I"⟩
abbrev cX6_nameAt : ByteArray := prog_1_method_4_code
def yX6_nameAt : MethodName := ⟨RX6, "nameAt", "(II)I"⟩
abbrev cX6_undo : ByteArray := prog_1_method_5_code
def yX6_undo : MethodName := ⟨RX6, "undo", "()I"⟩
abbrev cX6_setSetpoint : ByteArray := prog_1_method_6_code
def yX6_setSetpoint : MethodName := ⟨RX6, "setSetpoint", "(I)I"⟩
abbrev cX6_setLoad : ByteArray := prog_1_method_7_code
def yX6_setLoad : MethodName := ⟨RX6, "setLoad", "(I)I"⟩
abbrev cX6_setSeed : ByteArray := prog_1_method_8_code
def yX6_setSeed : MethodName := ⟨RX6, "setSeed", "(I)I"⟩
abbrev cX6_type : ByteArray := prog_1_method_9_code
def yX6_type : MethodName := ⟨RX6, "type", "(I)I"⟩
abbrev cX6_clearText : ByteArray := prog_1_method_10_code
def yX6_clearText : MethodName := ⟨RX6, "clearText", "()I"⟩
abbrev cX6_fault : ByteArray := prog_1_method_11_code
def yX6_fault : MethodName := ⟨RX6, "fault", "()I"⟩
abbrev cX6_apply : ByteArray := prog_1_method_12_code
def yX6_apply : MethodName := ⟨RX6, "apply", "()I"⟩
abbrev cX6_assigned : ByteArray := prog_1_method_13_code
def yX6_assigned : MethodName := ⟨RX6, "assigned", "()I"⟩
abbrev cX6_assignedAt : ByteArray := prog_1_method_14_code
def yX6_assignedAt : MethodName := ⟨RX6, "assignedAt", "(I)I"⟩
abbrev cX6_run : ByteArray := prog_1_method_15_code
def yX6_run : MethodName := ⟨RX6, "run", "(I)I"⟩
abbrev cX6_time : ByteArray := prog_1_method_16_code
def yX6_time : MethodName := ⟨RX6, "time", "()I"⟩
abbrev cX6_value : ByteArray := prog_1_method_17_code
def yX6_value : MethodName := ⟨RX6, "value", "(I)I"⟩
abbrev cX6_recorded : ByteArray := prog_1_method_18_code
def yX6_recorded : MethodName := ⟨RX6, "recorded", "(II)I"⟩
abbrev cX6_restart : ByteArray := prog_1_method_19_code
def yX6_restart : MethodName := ⟨RX6, "restart", "()I"⟩
abbrev cX6_watch : ByteArray := prog_1_method_20_code
def yX6_watch : MethodName := ⟨RX6, "watch", "(I)I"⟩
abbrev cX6_unwatch : ByteArray := prog_1_method_21_code
def yX6_unwatch : MethodName := ⟨RX6, "unwatch", "(I)I"⟩
abbrev cX6_watchedAt : ByteArray := prog_1_method_22_code
def yX6_watchedAt : MethodName := ⟨RX6, "watchedAt", "(I)I"⟩
abbrev cX6_extreme : ByteArray := prog_1_method_23_code
def yX6_extreme : MethodName := ⟨RX6, "extreme", "(II)I"⟩
abbrev cX6_measure : ByteArray := prog_1_method_24_code
def yX6_measure : MethodName := ⟨RX6, "measure", "(I)J"⟩
abbrev cX6_settledTicks : ByteArray := prog_1_method_25_code
def yX6_settledTicks : MethodName := ⟨RX6, "settledTicks", "(I)I"⟩
abbrev cX6_store : ByteArray := prog_1_method_26_code
def yX6_store : MethodName := ⟨RX6, "store", "()I"⟩
abbrev cX6_recall : ByteArray := prog_1_method_27_code
def yX6_recall : MethodName := ⟨RX6, "recall", "()I"⟩
abbrev cX6_correlation : ByteArray := prog_1_method_28_code
def yX6_correlation : MethodName := ⟨RX6, "correlation", "(I)J"⟩
abbrev cX6_estimatedLag : ByteArray := prog_1_method_29_code
def yX6_estimatedLag : MethodName := ⟨RX6, "estimatedLag", "()I"⟩
abbrev cX6_tuneDelay : ByteArray := prog_1_method_30_code
def yX6_tuneDelay : MethodName := ⟨RX6, "tuneDelay", "()I"⟩
abbrev cX6_ahead : ByteArray := prog_1_method_31_code
def yX6_ahead : MethodName := ⟨RX6, "ahead", "(II)I"⟩
abbrev cX6_bestGain : ByteArray := prog_1_method_32_code
def yX6_bestGain : MethodName := ⟨RX6, "bestGain", "(I)I"⟩
abbrev cX6_idealDifference : ByteArray := prog_1_method_33_code
def yX6_idealDifference : MethodName := ⟨RX6, "idealDifference", "(I)I"⟩
abbrev cX6_isParameter : ByteArray := prog_1_method_34_code
def yX6_isParameter : MethodName := ⟨RX6, "isParameter", "(I)Z"⟩
abbrev cX6_isSignal : ByteArray := prog_1_method_35_code
def yX6_isSignal : MethodName := ⟨RX6, "isSignal", "(I)Z"⟩
abbrev cX6_isLevel : ByteArray := prog_1_method_36_code
def yX6_isLevel : MethodName := ⟨RX6, "isLevel", "(I)Z"⟩
abbrev cX6_allows : ByteArray := prog_1_method_37_code
def yX6_allows : MethodName := ⟨RX6, "allows", "(II)Z"⟩
abbrev cX6_nameOf : ByteArray := prog_1_method_38_code
def yX6_nameOf : MethodName := ⟨RX6, "nameOf", "(I)Ljava/lang/String;"⟩
abbrev cX6_thousandth : ByteArray := prog_1_method_39_code
def yX6_thousandth : MethodName := ⟨RX6, "thousandth", "(J)J"⟩
abbrev cX6_stepped : ByteArray := prog_1_method_40_code
def yX6_stepped : MethodName := ⟨RX6, "stepped", "(JJJ)I"⟩
abbrev cX6_limited : ByteArray := prog_1_method_41_code
def yX6_limited : MethodName := ⟨RX6, "limited", "(JJJ)J"⟩
abbrev cX6_storedAt : ByteArray := prog_1_method_42_code
def yX6_storedAt : MethodName := ⟨RX6, "storedAt", "(I)LDeadTimeLoop$Loop;"⟩
abbrev cX6_advance : ByteArray := prog_1_method_43_code
def yX6_advance : MethodName := ⟨RX6, "advance", "(LDeadTimeLoop$Loop;I)V"⟩
abbrev cX6_correlationFor : ByteArray := prog_1_method_44_code
def yX6_correlationFor : MethodName := ⟨RX6, "correlationFor", "(I)J"⟩
abbrev cX6_strongestLag : ByteArray := prog_1_method_45_code
def yX6_strongestLag : MethodName := ⟨RX6, "strongestLag", "(I)I"⟩
abbrev cX6_errorsWith : ByteArray := prog_1_method_46_code
def yX6_errorsWith : MethodName := ⟨RX6, "errorsWith", "(II)J"⟩
abbrev cX6_prepareIdeal : ByteArray := prog_1_method_47_code
def yX6_prepareIdeal : MethodName := ⟨RX6, "prepareIdeal", "()V"⟩
abbrev cX6_difference : ByteArray := prog_1_method_48_code
def yX6_difference : MethodName := ⟨RX6, "difference", "()I"⟩
def RX7 : String := "DeadTimeLoopModel"
def TX7 : u_T := fun k => match k with
  | 0 => ("DeadTimeLoopModel", "now", "[J", true)
  | 1 => ("DeadTimeLoopModel", "aside", "[J", true)
  | 2 => ("DeadTimeLoopModel", "kept", "[J", true)
  | 3 => ("DeadTimeLoopModel", "keptMany", "I", false)
  | 4 => ("DeadTimeLoopModel", "par", "[I", true)
  | 5 => ("DeadTimeLoopModel", "parAside", "[I", true)
  | 6 => ("DeadTimeLoopModel", "before", "[I", true)
  | 7 => ("DeadTimeLoopModel", "undoMany", "I", false)
  | 8 => ("DeadTimeLoopModel", "low", "[I", true)
  | 9 => ("DeadTimeLoopModel", "high", "[I", true)
  | 10 => ("DeadTimeLoopModel", "names", "[I", true)
  | 11 => ("DeadTimeLoopModel", "length", "I", false)
  | 12 => ("DeadTimeLoopModel", "text", "[I", true)
  | 13 => ("DeadTimeLoopModel", "path", "[J", true)
  | 14 => ("DeadTimeLoopModel", "isIdeal", "Z", false)
  | 15 => ("DeadTimeLoopModel", "spot", "I", false)
  | 16 => ("DeadTimeLoopModel", "which", "I", false)
  | _ => ("DeadTimeLoopModel", "number", "I", false)
def tyX7 : Nat → FieldType := fun k => match k with
  | 0 => .array .long
  | 1 => .array .long
  | 2 => .array .long
  | 3 => .int
  | 4 => .array .int
  | 5 => .array .int
  | 6 => .array .int
  | 7 => .int
  | 8 => .array .int
  | 9 => .array .int
  | 10 => .array .int
  | 11 => .int
  | 12 => .array .int
  | 13 => .array .long
  | 14 => .boolean
  | 15 => .int
  | 16 => .int
  | _ => .int
abbrev wsX70 : List Cond := u_ws RX7 TX7 18
theorem nmX7 : ∀ a, a < 18 → ∀ b, b < 18 → a ≠ b → (TX7 a).2.1 ≠ (TX7 b).2.1 := by decide +kernel
theorem tyX7_ok : ∀ k, k < 18 → parseFieldDescriptor (TX7 k).2.2.1 = some (tyX7 k) := by decide +kernel
abbrev cX7_init : ByteArray := prog_9_method_1_code
def yX7_init : MethodName := ⟨RX7, "<init>", "()V"⟩
abbrev cX7_is : ByteArray := prog_9_method_2_code
def yX7_is : MethodName := ⟨RX7, "is", "(IIIIIIII)V"⟩
abbrev cX7_goesOn : ByteArray := prog_9_method_3_code
def yX7_goesOn : MethodName := ⟨RX7, "goesOn", "(IIIII)V"⟩
abbrev cX7_lettersAre : ByteArray := prog_9_method_4_code
def yX7_lettersAre : MethodName := ⟨RX7, "lettersAre", "(IIIII)V"⟩
abbrev cX7_in : ByteArray := prog_9_method_5_code
def yX7_in : MethodName := ⟨RX7, "in", "(JJJ)Z"⟩
abbrev cX7_size : ByteArray := prog_9_method_6_code
def yX7_size : MethodName := ⟨RX7, "size", "(J)J"⟩
abbrev cX7_floor : ByteArray := prog_9_method_7_code
def yX7_floor : MethodName := ⟨RX7, "floor", "(JJ)J"⟩
abbrev cX7_keeps : ByteArray := prog_9_method_8_code
def yX7_keeps : MethodName := ⟨RX7, "keeps", "()V"⟩
abbrev cX7_isParameter : ByteArray := prog_9_method_9_code
def yX7_isParameter : MethodName := ⟨RX7, "isParameter", "(I)Z"⟩
abbrev cX7_setParameter : ByteArray := prog_9_method_10_code
def yX7_setParameter : MethodName := ⟨RX7, "setParameter", "(II)I"⟩
abbrev cX7_parameter : ByteArray := prog_9_method_11_code
def yX7_parameter : MethodName := ⟨RX7, "parameter", "(I)I"⟩
abbrev cX7_longOf : ByteArray := prog_9_method_12_code
def yX7_longOf : MethodName := ⟨RX7, "longOf", "(I)I"⟩
abbrev cX7_nameAt : ByteArray := prog_9_method_13_code
def yX7_nameAt : MethodName := ⟨RX7, "nameAt", "(II)I"⟩
abbrev cX7_undo : ByteArray := prog_9_method_14_code
def yX7_undo : MethodName := ⟨RX7, "undo", "()I"⟩
abbrev cX7_setSetpoint : ByteArray := prog_9_method_15_code
def yX7_setSetpoint : MethodName := ⟨RX7, "setSetpoint", "(I)I"⟩
abbrev cX7_setLoad : ByteArray := prog_9_method_16_code
def yX7_setLoad : MethodName := ⟨RX7, "setLoad", "(I)I"⟩
abbrev cX7_setSeed : ByteArray := prog_9_method_17_code
def yX7_setSeed : MethodName := ⟨RX7, "setSeed", "(I)I"⟩
abbrev cX7_type : ByteArray := prog_9_method_18_code
def yX7_type : MethodName := ⟨RX7, "type", "(I)I"⟩
abbrev cX7_clearText : ByteArray := prog_9_method_19_code
def yX7_clearText : MethodName := ⟨RX7, "clearText", "()I"⟩
abbrev cX7_charAt : ByteArray := prog_9_method_20_code
def yX7_charAt : MethodName := ⟨RX7, "charAt", "(I)I"⟩
abbrev cX7_named : ByteArray := prog_9_method_21_code
def yX7_named : MethodName := ⟨RX7, "named", "()I"⟩
abbrev cX7_isAssignment : ByteArray := prog_9_method_22_code
def yX7_isAssignment : MethodName := ⟨RX7, "isAssignment", "()Z"⟩
abbrev cX7_faultOf : ByteArray := prog_9_method_23_code
def yX7_faultOf : MethodName := ⟨RX7, "faultOf", "()I"⟩
abbrev cX7_fault : ByteArray := prog_9_method_24_code
def yX7_fault : MethodName := ⟨RX7, "fault", "()I"⟩
abbrev cX7_apply : ByteArray := prog_9_method_25_code
def yX7_apply : MethodName := ⟨RX7, "apply", "()I"⟩
abbrev cX7_assignedBy : ByteArray := prog_9_method_26_code
def yX7_assignedBy : MethodName := ⟨RX7, "assignedBy", "(I)I"⟩
abbrev cX7_assigned : ByteArray := prog_9_method_27_code
def yX7_assigned : MethodName := ⟨RX7, "assigned", "()I"⟩
abbrev cX7_assignedAt : ByteArray := prog_9_method_28_code
def yX7_assignedAt : MethodName := ⟨RX7, "assignedAt", "(I)I"⟩
abbrev cX7_at : ByteArray := prog_9_method_29_code
def yX7_at : MethodName := ⟨RX7, "at", "(IJ)J"⟩
abbrev cX7_records : ByteArray := prog_9_method_30_code
def yX7_records : MethodName := ⟨RX7, "records", "(IJ)V"⟩
abbrev cX7_delayed : ByteArray := prog_9_method_31_code
def yX7_delayed : MethodName := ⟨RX7, "delayed", "(II)J"⟩
abbrev cX7_steps : ByteArray := prog_9_method_32_code
def yX7_steps : MethodName := ⟨RX7, "steps", "(JJI)J"⟩
abbrev cX7_noise : ByteArray := prog_9_method_33_code
def yX7_noise : MethodName := ⟨RX7, "noise", "()J"⟩
abbrev cX7_judges : ByteArray := prog_9_method_34_code
def yX7_judges : MethodName := ⟨RX7, "judges", "(J)V"⟩
abbrev cX7_controls : ByteArray := prog_9_method_35_code
def yX7_controls : MethodName := ⟨RX7, "controls", "()V"⟩
abbrev cX7_ticks : ByteArray := prog_9_method_36_code
def yX7_ticks : MethodName := ⟨RX7, "ticks", "()V"⟩
abbrev cX7_measures : ByteArray := prog_9_method_37_code
def yX7_measures : MethodName := ⟨RX7, "measures", "()V"⟩
abbrev cX7_watches : ByteArray := prog_9_method_38_code
def yX7_watches : MethodName := ⟨RX7, "watches", "()V"⟩
abbrev cX7_run : ByteArray := prog_9_method_39_code
def yX7_run : MethodName := ⟨RX7, "run", "(I)I"⟩
abbrev cX7_time : ByteArray := prog_9_method_40_code
def yX7_time : MethodName := ⟨RX7, "time", "()I"⟩
abbrev cX7_isSignal : ByteArray := prog_9_method_41_code
def yX7_isSignal : MethodName := ⟨RX7, "isSignal", "(I)Z"⟩
abbrev cX7_present : ByteArray := prog_9_method_42_code
def yX7_present : MethodName := ⟨RX7, "present", "(I)I"⟩
abbrev cX7_value : ByteArray := prog_9_method_43_code
def yX7_value : MethodName := ⟨RX7, "value", "(I)I"⟩
abbrev cX7_recorded : ByteArray := prog_9_method_44_code
def yX7_recorded : MethodName := ⟨RX7, "recorded", "(II)I"⟩
abbrev cX7_clears : ByteArray := prog_9_method_45_code
def yX7_clears : MethodName := ⟨RX7, "clears", "()V"⟩
abbrev cX7_restart : ByteArray := prog_9_method_46_code
def yX7_restart : MethodName := ⟨RX7, "restart", "()I"⟩
abbrev cX7_placeOf : ByteArray := prog_9_method_47_code
def yX7_placeOf : MethodName := ⟨RX7, "placeOf", "(I)I"⟩
abbrev cX7_watch : ByteArray := prog_9_method_48_code
def yX7_watch : MethodName := ⟨RX7, "watch", "(I)I"⟩
abbrev cX7_unwatch : ByteArray := prog_9_method_49_code
def yX7_unwatch : MethodName := ⟨RX7, "unwatch", "(I)I"⟩
abbrev cX7_watchedAt : ByteArray := prog_9_method_50_code
def yX7_watchedAt : MethodName := ⟨RX7, "watchedAt", "(I)I"⟩
abbrev cX7_extreme : ByteArray := prog_9_method_51_code
def yX7_extreme : MethodName := ⟨RX7, "extreme", "(II)I"⟩
abbrev cX7_measure : ByteArray := prog_9_method_52_code
def yX7_measure : MethodName := ⟨RX7, "measure", "(I)J"⟩
abbrev cX7_settledTicks : ByteArray := prog_9_method_53_code
def yX7_settledTicks : MethodName := ⟨RX7, "settledTicks", "(I)I"⟩
abbrev cX7_store : ByteArray := prog_9_method_54_code
def yX7_store : MethodName := ⟨RX7, "store", "()I"⟩
abbrev cX7_recall : ByteArray := prog_9_method_55_code
def yX7_recall : MethodName := ⟨RX7, "recall", "()I"⟩
abbrev cX7_correlationOf : ByteArray := prog_9_method_56_code
def yX7_correlationOf : MethodName := ⟨RX7, "correlationOf", "(I)J"⟩
abbrev cX7_correlation : ByteArray := prog_9_method_57_code
def yX7_correlation : MethodName := ⟨RX7, "correlation", "(I)J"⟩
abbrev cX7_bestLag : ByteArray := prog_9_method_58_code
def yX7_bestLag : MethodName := ⟨RX7, "bestLag", "()I"⟩
abbrev cX7_estimatedLag : ByteArray := prog_9_method_59_code
def yX7_estimatedLag : MethodName := ⟨RX7, "estimatedLag", "()I"⟩
abbrev cX7_tuneDelay : ByteArray := prog_9_method_60_code
def yX7_tuneDelay : MethodName := ⟨RX7, "tuneDelay", "()I"⟩
abbrev cX7_putsAside : ByteArray := prog_9_method_61_code
def yX7_putsAside : MethodName := ⟨RX7, "putsAside", "()V"⟩
abbrev cX7_putsBack : ByteArray := prog_9_method_62_code
def yX7_putsBack : MethodName := ⟨RX7, "putsBack", "()V"⟩
abbrev cX7_ahead : ByteArray := prog_9_method_63_code
def yX7_ahead : MethodName := ⟨RX7, "ahead", "(II)I"⟩
abbrev cX7_bestGain : ByteArray := prog_9_method_64_code
def yX7_bestGain : MethodName := ⟨RX7, "bestGain", "(I)I"⟩
abbrev cX7_idealDifference : ByteArray := prog_9_method_65_code
def yX7_idealDifference : MethodName := ⟨RX7, "idealDifference", "(I)I"⟩
def RJ9 : String := "java/lang/Math"
def TJ9 : u_T := fun k => match k with
  | _ => ("", "", "", false)
def tyJ9 : Nat → FieldType := fun k => match k with
  | _ => .int
abbrev wsJ90 : List Cond := u_ws RJ9 TJ9 0
theorem nmJ9 : ∀ a, a < 0 → ∀ b, b < 0 → a ≠ b → (TJ9 a).2.1 ≠ (TJ9 b).2.1 := by decide +kernel
theorem tyJ9_ok : ∀ k, k < 0 → parseFieldDescriptor (TJ9 k).2.2.1 = some (tyJ9 k) := by decide +kernel
abbrev cJ9_floorDiv_f86c9 : ByteArray := prog_10_method_49_code
def yJ9_floorDiv_f86c9 : MethodName := ⟨RJ9, "floorDiv", "(JJ)J"⟩
abbrev cJ9_floorMod_7cf53 : ByteArray := prog_10_method_50_code
def yJ9_floorMod_7cf53 : MethodName := ⟨RJ9, "floorMod", "(II)I"⟩
abbrev cJ9_abs_0f7a4 : ByteArray := prog_10_method_59_code
def yJ9_abs_0f7a4 : MethodName := ⟨RJ9, "abs", "(I)I"⟩
abbrev cJ9_max_7cf53 : ByteArray := prog_10_method_65_code
def yJ9_max_7cf53 : MethodName := ⟨RJ9, "max", "(II)I"⟩
abbrev cJ9_max_f86c9 : ByteArray := prog_10_method_66_code
def yJ9_max_f86c9 : MethodName := ⟨RJ9, "max", "(JJ)J"⟩
abbrev cJ9_min_7cf53 : ByteArray := prog_10_method_69_code
def yJ9_min_7cf53 : MethodName := ⟨RJ9, "min", "(II)I"⟩
abbrev cJ9_min_f86c9 : ByteArray := prog_10_method_70_code
def yJ9_min_f86c9 : MethodName := ⟨RJ9, "min", "(JJ)J"⟩
def RJ0 : String := "java/lang/String"
def TJ0 : u_T := fun k => match k with
  | _ => ("", "", "", false)
def tyJ0 : Nat → FieldType := fun k => match k with
  | _ => .int
abbrev wsJ00 : List Cond := u_ws RJ0 TJ0 0
theorem nmJ0 : ∀ a, a < 0 → ∀ b, b < 0 → a ≠ b → (TJ0 a).2.1 ≠ (TJ0 b).2.1 := by decide +kernel
theorem tyJ0_ok : ∀ k, k < 0 → parseFieldDescriptor (TJ0 k).2.2.1 = some (tyJ0 k) := by decide +kernel
abbrev cJ0_length_8abf5 : ByteArray := prog_11_method_54_code
def yJ0_length_8abf5 : MethodName := ⟨RJ0, "length", "()I"⟩
abbrev cJ0_charAt_5068e : ByteArray := prog_11_method_56_code
def yJ0_charAt_5068e : MethodName := ⟨RJ0, "charAt", "(I)C"⟩
abbrev cJ0_coder_7d493 : ByteArray := prog_11_method_152_code
def yJ0_coder_7d493 : MethodName := ⟨RJ0, "coder", "()B"⟩
abbrev cJ0_isLatin1_aae02 : ByteArray := prog_11_method_154_code
def yJ0_isLatin1_aae02 : MethodName := ⟨RJ0, "isLatin1", "()Z"⟩
abbrev cJ0_checkIndex_df160 : ByteArray := prog_11_method_155_code
def yJ0_checkIndex_df160 : MethodName := ⟨RJ0, "checkIndex", "(II)V"⟩
def RJ1 : String := "java/lang/StringLatin1"
def TJ1 : u_T := fun k => match k with
  | _ => ("", "", "", false)
def tyJ1 : Nat → FieldType := fun k => match k with
  | _ => .int
abbrev wsJ10 : List Cond := u_ws RJ1 TJ1 0
theorem nmJ1 : ∀ a, a < 0 → ∀ b, b < 0 → a ≠ b → (TJ1 a).2.1 ≠ (TJ1 b).2.1 := by decide +kernel
theorem tyJ1_ok : ∀ k, k < 0 → parseFieldDescriptor (TJ1 k).2.2.1 = some (tyJ1 k) := by decide +kernel
abbrev cJ1_charAt_3b067 : ByteArray := prog_12_method_2_code
def yJ1_charAt_3b067 : MethodName := ⟨RJ1, "charAt", "([BI)C"⟩
def RJ2 : String := "java/lang/StringUTF16"
def TJ2 : u_T := fun k => match k with
  | _ => ("", "", "", false)
def tyJ2 : Nat → FieldType := fun k => match k with
  | _ => .int
abbrev wsJ20 : List Cond := u_ws RJ2 TJ2 0
theorem nmJ2 : ∀ a, a < 0 → ∀ b, b < 0 → a ≠ b → (TJ2 a).2.1 ≠ (TJ2 b).2.1 := by decide +kernel
theorem tyJ2_ok : ∀ k, k < 0 → parseFieldDescriptor (TJ2 k).2.2.1 = some (tyJ2 k) := by decide +kernel
abbrev cJ2_getChar_3b067 : ByteArray := prog_13_method_5_code
def yJ2_getChar_3b067 : MethodName := ⟨RJ2, "getChar", "([BI)C"⟩
abbrev cJ2_length_9d52b : ByteArray := prog_13_method_6_code
def yJ2_length_9d52b : MethodName := ⟨RJ2, "length", "([B)I"⟩
abbrev cJ2_charAt_3b067 : ByteArray := prog_13_method_83_code
def yJ2_charAt_3b067 : MethodName := ⟨RJ2, "charAt", "([BI)C"⟩
abbrev cJ2_checkIndex_2214a : ByteArray := prog_13_method_91_code
def yJ2_checkIndex_2214a : MethodName := ⟨RJ2, "checkIndex", "(I[B)V"⟩
def RJ10 : String := "java/lang/System"
def TJ10 : u_T := fun k => match k with
  | _ => ("", "", "", false)
def tyJ10 : Nat → FieldType := fun k => match k with
  | _ => .int
abbrev wsJ100 : List Cond := u_ws RJ10 TJ10 0
theorem nmJ10 : ∀ a, a < 0 → ∀ b, b < 0 → a ≠ b → (TJ10 a).2.1 ≠ (TJ10 b).2.1 := by decide +kernel
theorem tyJ10_ok : ∀ k, k < 0 → parseFieldDescriptor (TJ10 k).2.2.1 = some (tyJ10 k) := by decide +kernel
def RJ3 : String := "jdk/internal/util/Preconditions"
def TJ3 : u_T := fun k => match k with
  | _ => ("", "", "", false)
def tyJ3 : Nat → FieldType := fun k => match k with
  | _ => .int
abbrev wsJ30 : List Cond := u_ws RJ3 TJ3 0
theorem nmJ3 : ∀ a, a < 0 → ∀ b, b < 0 → a ≠ b → (TJ3 a).2.1 ≠ (TJ3 b).2.1 := by decide +kernel
theorem tyJ3_ok : ∀ k, k < 0 → parseFieldDescriptor (TJ3 k).2.2.1 = some (tyJ3 k) := by decide +kernel
abbrev cJ3_checkIndex_8e157 : ByteArray := prog_15_method_11_code
def yJ3_checkIndex_8e157 : MethodName := ⟨RJ3, "checkIndex", "(IILjava/util/function/BiFunction;)I"⟩
def RL : String := "DeadTimeLoopLaw"
abbrev cL_law : ByteArray := code
def yL_law : MethodName := ⟨RL, "law", "([I)Z"⟩
end
section
def wsX0_init : List Cond := .code yX0_init cX0_init 1 none :: ([.methodLink RX0 3 objectInit, .instanceMethod objectInit, .code objectInit ⟨#[0xb1]⟩ 1 none, .classLink RX0 9 "[[I", .arrayClass .int, .fieldLink RX0 11 "DeadTimeLoop$Changes" "rows" "[[I", .fieldLink RX0 16 "DeadTimeLoop$Changes" "count" "I"] ++ wsX00)
def wsX0_forgetOldest : List Cond := .code yX0_forgetOldest cX0_forgetOldest 2 none :: ([.fieldLink RX0 11 "DeadTimeLoop$Changes" "rows" "[[I", .methodLink RX0 29 arraycopyName, .native arraycopyName, .static arraycopyName, .initialized "java/lang/System", .fieldLink RX0 16 "DeadTimeLoop$Changes" "count" "I"] ++ wsX00)
def wsX0_keep : List Cond := .code yX0_keep cX0_keep 2 none :: ([.fieldLink RX0 16 "DeadTimeLoop$Changes" "count" "I", .fieldLink RX0 11 "DeadTimeLoop$Changes" "rows" "[[I", .methodLink RX0 29 arraycopyName, .native arraycopyName, .static arraycopyName, .initialized "java/lang/System", .methodLink RX0 20 yX0_forgetOldest, .instanceMethod yX0_forgetOldest, .selects RX0 yX0_forgetOldest yX0_forgetOldest, .initialized RX0, .code yX0_forgetOldest cX0_forgetOldest 2 none] ++ wsX00 ++ wsX30)
def wsX0_takeBack : List Cond := .code yX0_takeBack cX0_takeBack 2 none :: ([.fieldLink RX0 16 "DeadTimeLoop$Changes" "count" "I", .fieldLink RX0 11 "DeadTimeLoop$Changes" "rows" "[[I", .methodLink RX0 29 arraycopyName, .native arraycopyName, .static arraycopyName, .initialized "java/lang/System"] ++ wsX00 ++ wsX30)
def wsX2_init : List Cond := .code yX2_init cX2_init 1 none :: ([.methodLink RX2 1 objectInit, .instanceMethod objectInit, .code objectInit ⟨#[0xb1]⟩ 1 none, .fieldLink RX2 7 "DeadTimeLoop$Section" "errorSum" "J", .fieldLink RX2 13 "DeadTimeLoop$Section" "effort" "J", .fieldLink RX2 16 "DeadTimeLoop$Section" "overshoot" "I", .fieldLink RX2 20 "DeadTimeLoop$Section" "ticks" "I", .fieldLink RX2 23 "DeadTimeLoop$Section" "upwards" "Z"] ++ wsX20)
def wsX5_init : List Cond := .code yX5_init cX5_init 1 none :: ([.methodLink RX5 3 objectInit, .instanceMethod objectInit, .code objectInit ⟨#[0xb1]⟩ 1 none, .arrayClass .int, .fieldLink RX5 9 "DeadTimeLoop$Watches" "signals" "[I", .fieldLink RX5 15 "DeadTimeLoop$Watches" "least" "[I", .fieldLink RX5 18 "DeadTimeLoop$Watches" "greatest" "[I", .fieldLink RX5 21 "DeadTimeLoop$Watches" "greatestTick" "[I", .fieldLink RX5 24 "DeadTimeLoop$Watches" "count" "I"] ++ wsX50)
def wsX1_init_r1 : List Cond := [Cond.methodLink RX1 3 objectInit, Cond.instanceMethod objectInit, Cond.code objectInit ⟨#[0xb1]⟩ 1 none, Cond.fieldLink RX1 9 "DeadTimeLoop$Loop" "now" "I", Cond.fieldLink RX1 15 "DeadTimeLoop$Loop" "load" "I", Cond.fieldLink RX1 18 "DeadTimeLoop$Loop" "seed" "I", Cond.fieldLink RX1 21 "DeadTimeLoop$Loop" "badTicks" "I", Cond.fieldLink RX1 24 "DeadTimeLoop$Loop" "goodTicks" "I", Cond.arrayClass .int, Cond.fieldLink RX1 27 "DeadTimeLoop$Loop" "present" "[I", Cond.fieldLink RX1 31 "DeadTimeLoop$Loop" "records" "[I", Cond.classLink RX1 34 RX2, Cond.instantiable RX2 5, Cond.initialized RX2, Cond.fieldLink RX1 37 "DeadTimeLoop$Loop" "section" "LDeadTimeLoop$Section;", Cond.classLink RX1 41 RX5, Cond.instantiable RX5 5, Cond.initialized RX5, Cond.fieldLink RX1 44 "DeadTimeLoop$Loop" "watches" "LDeadTimeLoop$Watches;", Cond.methodLink RX1 36 yX2_init, Cond.instanceMethod yX2_init, Cond.code yX2_init cX2_init 1 none, Cond.methodLink RX2 1 objectInit, Cond.fieldLink RX2 7 "DeadTimeLoop$Section" "errorSum" "J"]
def wsX1_init_r2 : List Cond := [Cond.fieldLink RX2 13 "DeadTimeLoop$Section" "effort" "J", Cond.fieldLink RX2 16 "DeadTimeLoop$Section" "overshoot" "I", Cond.fieldLink RX2 20 "DeadTimeLoop$Section" "ticks" "I", Cond.fieldLink RX2 23 "DeadTimeLoop$Section" "upwards" "Z", Cond.methodLink RX1 43 yX5_init, Cond.instanceMethod yX5_init, Cond.code yX5_init cX5_init 1 none, Cond.methodLink RX5 3 objectInit, Cond.fieldLink RX5 9 "DeadTimeLoop$Watches" "signals" "[I", Cond.fieldLink RX5 15 "DeadTimeLoop$Watches" "least" "[I", Cond.fieldLink RX5 18 "DeadTimeLoop$Watches" "greatest" "[I", Cond.fieldLink RX5 21 "DeadTimeLoop$Watches" "greatestTick" "[I", Cond.fieldLink RX5 24 "DeadTimeLoop$Watches" "count" "I"]
def wsX1_init : List Cond := .code yX1_init cX1_init 1 none :: ((wsX1_init_r1 ++ wsX1_init_r2) ++ wsX10 ++ wsX20 ++ wsX50)
def wsX2_begin : List Cond := .code yX2_begin cX2_begin 2 none :: ([.fieldLink RX2 7 "DeadTimeLoop$Section" "errorSum" "J", .fieldLink RX2 13 "DeadTimeLoop$Section" "effort" "J", .fieldLink RX2 16 "DeadTimeLoop$Section" "overshoot" "I", .fieldLink RX2 20 "DeadTimeLoop$Section" "ticks" "I", .fieldLink RX2 23 "DeadTimeLoop$Section" "upwards" "Z"] ++ wsX20)
def wsX1_begin : List Cond := .code yX1_begin cX1_begin 2 none :: ([.fieldLink RX1 9 "DeadTimeLoop$Loop" "now" "I", .fieldLink RX1 15 "DeadTimeLoop$Loop" "load" "I", .fieldLink RX1 18 "DeadTimeLoop$Loop" "seed" "I", .fieldLink RX1 21 "DeadTimeLoop$Loop" "badTicks" "I", .fieldLink RX1 24 "DeadTimeLoop$Loop" "goodTicks" "I", .fieldLink RX1 27 "DeadTimeLoop$Loop" "present" "[I", .fieldLink RX1 37 "DeadTimeLoop$Loop" "section" "LDeadTimeLoop$Section;", .fieldLink RX1 44 "DeadTimeLoop$Loop" "watches" "LDeadTimeLoop$Watches;", .fieldLink RX1 52 "DeadTimeLoop$Watches" "count" "I", .methodLink RX1 48 yX2_begin, .instanceMethod yX2_begin, .selects RX2 yX2_begin yX2_begin, .initialized RX2, .code yX2_begin cX2_begin 2 none, .fieldLink RX2 7 "DeadTimeLoop$Section" "errorSum" "J", .fieldLink RX2 13 "DeadTimeLoop$Section" "effort" "J", .fieldLink RX2 16 "DeadTimeLoop$Section" "overshoot" "I", .fieldLink RX2 20 "DeadTimeLoop$Section" "ticks" "I", .fieldLink RX2 23 "DeadTimeLoop$Section" "upwards" "Z"] ++ wsX10 ++ wsX50 ++ wsX20)
def wsX2_copy : List Cond := .code yX2_copy cX2_copy 2 none :: ([.fieldLink RX2 7 "DeadTimeLoop$Section" "errorSum" "J", .fieldLink RX2 13 "DeadTimeLoop$Section" "effort" "J", .fieldLink RX2 16 "DeadTimeLoop$Section" "overshoot" "I", .fieldLink RX2 20 "DeadTimeLoop$Section" "ticks" "I", .fieldLink RX2 23 "DeadTimeLoop$Section" "upwards" "Z"] ++ wsX20)
def wsX5_copy : List Cond := .code yX5_copy cX5_copy 2 none :: ([.fieldLink RX5 9 "DeadTimeLoop$Watches" "signals" "[I", .methodLink RX5 28 arraycopyName, .native arraycopyName, .static arraycopyName, .initialized "java/lang/System", .fieldLink RX5 15 "DeadTimeLoop$Watches" "least" "[I", .fieldLink RX5 18 "DeadTimeLoop$Watches" "greatest" "[I", .fieldLink RX5 21 "DeadTimeLoop$Watches" "greatestTick" "[I", .fieldLink RX5 24 "DeadTimeLoop$Watches" "count" "I"] ++ wsX50)
def wsX1_copy_r1 : List Cond := [Cond.fieldLink RX1 9 "DeadTimeLoop$Loop" "now" "I", Cond.fieldLink RX1 15 "DeadTimeLoop$Loop" "load" "I", Cond.fieldLink RX1 18 "DeadTimeLoop$Loop" "seed" "I", Cond.fieldLink RX1 21 "DeadTimeLoop$Loop" "badTicks" "I", Cond.fieldLink RX1 24 "DeadTimeLoop$Loop" "goodTicks" "I", Cond.fieldLink RX1 27 "DeadTimeLoop$Loop" "present" "[I", Cond.methodLink RX1 55 arraycopyName, Cond.native arraycopyName, Cond.static arraycopyName, Cond.initialized "java/lang/System", Cond.fieldLink RX1 31 "DeadTimeLoop$Loop" "records" "[I", Cond.fieldLink RX1 37 "DeadTimeLoop$Loop" "section" "LDeadTimeLoop$Section;", Cond.fieldLink RX1 44 "DeadTimeLoop$Loop" "watches" "LDeadTimeLoop$Watches;", Cond.methodLink RX1 61 yX2_copy, Cond.instanceMethod yX2_copy, Cond.selects RX2 yX2_copy yX2_copy, Cond.initialized RX2, Cond.code yX2_copy cX2_copy 2 none, Cond.fieldLink RX2 7 "DeadTimeLoop$Section" "errorSum" "J", Cond.fieldLink RX2 13 "DeadTimeLoop$Section" "effort" "J", Cond.fieldLink RX2 16 "DeadTimeLoop$Section" "overshoot" "I", Cond.fieldLink RX2 20 "DeadTimeLoop$Section" "ticks" "I", Cond.fieldLink RX2 23 "DeadTimeLoop$Section" "upwards" "Z", Cond.methodLink RX1 65 yX5_copy]
def wsX1_copy_r2 : List Cond := [Cond.instanceMethod yX5_copy, Cond.selects RX5 yX5_copy yX5_copy, Cond.initialized RX5, Cond.code yX5_copy cX5_copy 2 none, Cond.fieldLink RX5 9 "DeadTimeLoop$Watches" "signals" "[I", Cond.methodLink RX5 28 arraycopyName, Cond.fieldLink RX5 15 "DeadTimeLoop$Watches" "least" "[I", Cond.fieldLink RX5 18 "DeadTimeLoop$Watches" "greatest" "[I", Cond.fieldLink RX5 21 "DeadTimeLoop$Watches" "greatestTick" "[I", Cond.fieldLink RX5 24 "DeadTimeLoop$Watches" "count" "I"]
def wsX1_copy : List Cond := .code yX1_copy cX1_copy 2 none :: ((wsX1_copy_r1 ++ wsX1_copy_r2) ++ wsX10 ++ wsX20 ++ wsX50)
def wsX1_changeSetpoint : List Cond := .code yX1_changeSetpoint cX1_changeSetpoint 3 (some .int) :: ([.fieldLink RX1 27 "DeadTimeLoop$Loop" "present" "[I", .fieldLink RX1 37 "DeadTimeLoop$Loop" "section" "LDeadTimeLoop$Section;", .methodLink RX1 48 yX2_begin, .instanceMethod yX2_begin, .selects RX2 yX2_begin yX2_begin, .initialized RX2, .code yX2_begin cX2_begin 2 none, .fieldLink RX2 7 "DeadTimeLoop$Section" "errorSum" "J", .fieldLink RX2 13 "DeadTimeLoop$Section" "effort" "J", .fieldLink RX2 16 "DeadTimeLoop$Section" "overshoot" "I", .fieldLink RX2 20 "DeadTimeLoop$Section" "ticks" "I", .fieldLink RX2 23 "DeadTimeLoop$Section" "upwards" "Z"] ++ wsX10 ++ wsX20)
def wsX6_isSignal : List Cond := .code yX6_isSignal cX6_isSignal 1 (some .boolean) :: ([])
def wsJ9_floorMod_7cf53 : List Cond := .code yJ9_floorMod_7cf53 cJ9_floorMod_7cf53 3 (some .int) :: ([])
def wsX1_recordOf : List Cond := .code yX1_recordOf cX1_recordOf 3 (some .int) :: ([.fieldLink RX1 9 "DeadTimeLoop$Loop" "now" "I", .fieldLink RX1 31 "DeadTimeLoop$Loop" "records" "[I", .static yX6_isSignal, .initialized RX6, .code yX6_isSignal cX6_isSignal 1 (some .boolean), .methodLink RX1 72 yJ9_floorMod_7cf53, .static yJ9_floorMod_7cf53, .initialized RJ9, .code yJ9_floorMod_7cf53 cJ9_floorMod_7cf53 3 (some .int)] ++ wsX10)
def wsX1_agreement : List Cond := .code yX1_agreement cX1_agreement 10 (some .long) :: ([.fieldLink RX1 9 "DeadTimeLoop$Loop" "now" "I", .methodLink RX1 78 Lib.Math.max.name, .static Lib.Math.max.name, .initialized "java/lang/Math", .code Lib.Math.max.name Lib.Math.max.code 2 (some .int), .methodLink RX1 81 yX1_recordOf, .instanceMethod yX1_recordOf, .selects RX1 yX1_recordOf yX1_recordOf, .initialized RX1, .code yX1_recordOf cX1_recordOf 3 (some .int), .fieldLink RX1 31 "DeadTimeLoop$Loop" "records" "[I", .static yX6_isSignal, .initialized RX6, .code yX6_isSignal cX6_isSignal 1 (some .boolean), .methodLink RX1 72 yJ9_floorMod_7cf53, .static yJ9_floorMod_7cf53, .initialized RJ9, .code yJ9_floorMod_7cf53 cJ9_floorMod_7cf53 3 (some .int)] ++ wsX10)
def wsX6_isParameter : List Cond := .code yX6_isParameter cX6_isParameter 1 (some .boolean) :: ([])
def wsX3_get : List Cond := .code yX3_get cX3_get 2 (some .int) :: ([.fieldLink RX3 9 "DeadTimeLoop$Settings" "values" "[I", .static yX6_isParameter, .initialized RX6, .code yX6_isParameter cX6_isParameter 1 (some .boolean)] ++ wsX30)
def wsX1_noise : List Cond := .code yX1_noise cX1_noise 6 (some .int) :: ([.constantLong RX1 126 (7919), .fieldLink RX1 9 "DeadTimeLoop$Loop" "now" "I", .constantLong RX1 128 (6151), .fieldLink RX1 18 "DeadTimeLoop$Loop" "seed" "I", .constantLong RX1 130 (2), .constantLong RX1 132 (65521)] ++ wsX10)
def wsJ9_floorDiv_f86c9 : List Cond := .code yJ9_floorDiv_f86c9 cJ9_floorDiv_f86c9 6 (some .long) :: ([])
def wsX1_delayed : List Cond := .code yX1_delayed cX1_delayed 10 (some .int) :: ([.fieldLink RX1 9 "DeadTimeLoop$Loop" "now" "I", .constantLong RX1 134 (10), .methodLink RX1 81 yX1_recordOf, .instanceMethod yX1_recordOf, .selects RX1 yX1_recordOf yX1_recordOf, .initialized RX1, .code yX1_recordOf cX1_recordOf 3 (some .int), .fieldLink RX1 31 "DeadTimeLoop$Loop" "records" "[I", .static yX6_isSignal, .initialized RX6, .code yX6_isSignal cX6_isSignal 1 (some .boolean), .methodLink RX1 72 yJ9_floorMod_7cf53, .static yJ9_floorMod_7cf53, .initialized RJ9, .code yJ9_floorMod_7cf53 cJ9_floorMod_7cf53 3 (some .int), .methodLink RX1 136 yJ9_floorDiv_f86c9, .static yJ9_floorDiv_f86c9, .code yJ9_floorDiv_f86c9 cJ9_floorDiv_f86c9 6 (some .long)] ++ wsX10)
def wsX6_thousandth : List Cond := .code yX6_thousandth cX6_thousandth 2 (some .long) :: ([.constantLong RX6 280 (1000), .methodLink RX6 282 yJ9_floorDiv_f86c9, .static yJ9_floorDiv_f86c9, .initialized RJ9, .code yJ9_floorDiv_f86c9 cJ9_floorDiv_f86c9 6 (some .long)])
def wsX6_stepped : List Cond := .code yX6_stepped cX6_stepped 6 (some .int) :: ([.methodLink RX6 286 yX6_thousandth, .static yX6_thousandth, .initialized RX6, .code yX6_thousandth cX6_thousandth 2 (some .long), .constantLong RX6 280 (1000), .methodLink RX6 282 yJ9_floorDiv_f86c9, .static yJ9_floorDiv_f86c9, .initialized RJ9, .code yJ9_floorDiv_f86c9 cJ9_floorDiv_f86c9 6 (some .long)])
def wsX1_judge : List Cond := .code yX1_judge cX1_judge 5 none :: ([.fieldLink RX1 21 "DeadTimeLoop$Loop" "badTicks" "I", .fieldLink RX1 24 "DeadTimeLoop$Loop" "goodTicks" "I", .fieldLink RX1 27 "DeadTimeLoop$Loop" "present" "[I"] ++ wsX10)
def wsX6_limited : List Cond := .code yX6_limited cX6_limited 6 (some .long) :: ([.methodLink RX6 290 Lib.MathLoose.max_long.x, .static Lib.MathLoose.max_long.x, .initialized "java/lang/Math", .code Lib.MathLoose.max_long.x Lib.MathLoose.max_long.code 4 (some .long), .methodLink RX6 292 Lib.MathLoose.min_long.x, .static Lib.MathLoose.min_long.x, .code Lib.MathLoose.min_long.x Lib.MathLoose.min_long.code 4 (some .long)])
def wsX1_outputFor : List Cond := .code yX1_outputFor cX1_outputFor 8 (some .long) :: ([.fieldLink RX1 27 "DeadTimeLoop$Loop" "present" "[I", .methodLink RX1 84 yX3_get, .instanceMethod yX3_get, .selects RX3 yX3_get yX3_get, .initialized RX3, .code yX3_get cX3_get 2 (some .int), .fieldLink RX3 9 "DeadTimeLoop$Settings" "values" "[I", .static yX6_isParameter, .initialized RX6, .code yX6_isParameter cX6_isParameter 1 (some .boolean), .static yX6_limited, .code yX6_limited cX6_limited 6 (some .long), .methodLink RX6 290 Lib.MathLoose.max_long.x, .static Lib.MathLoose.max_long.x, .initialized "java/lang/Math", .code Lib.MathLoose.max_long.x Lib.MathLoose.max_long.code 4 (some .long), .methodLink RX6 292 Lib.MathLoose.min_long.x, .static Lib.MathLoose.min_long.x, .code Lib.MathLoose.min_long.x Lib.MathLoose.min_long.code 4 (some .long)] ++ wsX10 ++ wsX30)
def wsX1_control_r1 : List Cond := [Cond.fieldLink RX1 27 "DeadTimeLoop$Loop" "present" "[I", Cond.methodLink RX1 84 yX3_get, Cond.instanceMethod yX3_get, Cond.selects RX3 yX3_get yX3_get, Cond.initialized RX3, Cond.code yX3_get cX3_get 2 (some .int), Cond.fieldLink RX3 9 "DeadTimeLoop$Settings" "values" "[I", Cond.static yX6_isParameter, Cond.initialized RX6, Cond.code yX6_isParameter cX6_isParameter 1 (some .boolean), Cond.static yX6_thousandth, Cond.code yX6_thousandth cX6_thousandth 2 (some .long), Cond.constantLong RX6 280 (1000), Cond.methodLink RX6 282 yJ9_floorDiv_f86c9, Cond.static yJ9_floorDiv_f86c9, Cond.initialized RJ9, Cond.code yJ9_floorDiv_f86c9 cJ9_floorDiv_f86c9 6 (some .long), Cond.methodLink RX1 144 yX1_outputFor, Cond.instanceMethod yX1_outputFor, Cond.selects RX1 yX1_outputFor yX1_outputFor, Cond.initialized RX1, Cond.code yX1_outputFor cX1_outputFor 8 (some .long), Cond.static yX6_limited, Cond.code yX6_limited cX6_limited 6 (some .long)]
def wsX1_control_r2 : List Cond := [Cond.methodLink RX6 290 Lib.MathLoose.max_long.x, Cond.static Lib.MathLoose.max_long.x, Cond.initialized "java/lang/Math", Cond.code Lib.MathLoose.max_long.x Lib.MathLoose.max_long.code 4 (some .long), Cond.methodLink RX6 292 Lib.MathLoose.min_long.x, Cond.static Lib.MathLoose.min_long.x, Cond.code Lib.MathLoose.min_long.x Lib.MathLoose.min_long.code 4 (some .long)]
def wsX1_control : List Cond := .code yX1_control cX1_control 18 none :: ((wsX1_control_r1 ++ wsX1_control_r2) ++ wsX10 ++ wsX30)
def wsX1_keepRecords : List Cond := .code yX1_keepRecords cX1_keepRecords 2 none :: ([.fieldLink RX1 31 "DeadTimeLoop$Loop" "records" "[I", .fieldLink RX1 9 "DeadTimeLoop$Loop" "now" "I", .fieldLink RX1 27 "DeadTimeLoop$Loop" "present" "[I", .methodLink RX1 72 yJ9_floorMod_7cf53, .static yJ9_floorMod_7cf53, .initialized RJ9, .code yJ9_floorMod_7cf53 cJ9_floorMod_7cf53 3 (some .int)] ++ wsX10)
def wsX2_see : List Cond := .code yX2_see cX2_see 4 none :: ([.fieldLink RX2 7 "DeadTimeLoop$Section" "errorSum" "J", .methodLink RX2 27 Lib.Math.abs.name, .static Lib.Math.abs.name, .initialized "java/lang/Math", .code Lib.Math.abs.name Lib.Math.abs.code 1 (some .int), .fieldLink RX2 13 "DeadTimeLoop$Section" "effort" "J", .fieldLink RX2 16 "DeadTimeLoop$Section" "overshoot" "I", .fieldLink RX2 23 "DeadTimeLoop$Section" "upwards" "Z", .methodLink RX2 33 Lib.Math.max.name, .static Lib.Math.max.name, .code Lib.Math.max.name Lib.Math.max.code 2 (some .int), .fieldLink RX2 20 "DeadTimeLoop$Section" "ticks" "I"] ++ wsX20)
def wsX5_hasSeen : List Cond := .code yX5_hasSeen cX5_hasSeen 2 (some .boolean) :: ([.fieldLink RX5 21 "DeadTimeLoop$Watches" "greatestTick" "[I"] ++ wsX50)
def wsX5_seeOne : List Cond := .code yX5_seeOne cX5_seeOne 5 none :: ([.fieldLink RX5 15 "DeadTimeLoop$Watches" "least" "[I", .fieldLink RX5 18 "DeadTimeLoop$Watches" "greatest" "[I", .fieldLink RX5 21 "DeadTimeLoop$Watches" "greatestTick" "[I", .methodLink RX5 43 yX5_hasSeen, .instanceMethod yX5_hasSeen, .selects RX5 yX5_hasSeen yX5_hasSeen, .initialized RX5, .code yX5_hasSeen cX5_hasSeen 2 (some .boolean)] ++ wsX50)
def wsX5_see : List Cond := .code yX5_see cX5_see 5 none :: ([.fieldLink RX5 24 "DeadTimeLoop$Watches" "count" "I", .fieldLink RX5 9 "DeadTimeLoop$Watches" "signals" "[I", .methodLink RX5 39 yX5_seeOne, .instanceMethod yX5_seeOne, .selects RX5 yX5_seeOne yX5_seeOne, .initialized RX5, .code yX5_seeOne cX5_seeOne 5 none, .fieldLink RX5 15 "DeadTimeLoop$Watches" "least" "[I", .fieldLink RX5 18 "DeadTimeLoop$Watches" "greatest" "[I", .fieldLink RX5 21 "DeadTimeLoop$Watches" "greatestTick" "[I", .methodLink RX5 43 yX5_hasSeen, .instanceMethod yX5_hasSeen, .selects RX5 yX5_hasSeen yX5_hasSeen, .code yX5_hasSeen cX5_hasSeen 2 (some .boolean)] ++ wsX50)
def wsX1_moveOn_r1 : List Cond := [Cond.fieldLink RX1 27 "DeadTimeLoop$Loop" "present" "[I", Cond.fieldLink RX1 15 "DeadTimeLoop$Loop" "load" "I", Cond.fieldLink RX1 9 "DeadTimeLoop$Loop" "now" "I", Cond.methodLink RX1 84 yX3_get, Cond.instanceMethod yX3_get, Cond.selects RX3 yX3_get yX3_get, Cond.initialized RX3, Cond.code yX3_get cX3_get 2 (some .int), Cond.fieldLink RX3 9 "DeadTimeLoop$Settings" "values" "[I", Cond.static yX6_isParameter, Cond.initialized RX6, Cond.code yX6_isParameter cX6_isParameter 1 (some .boolean), Cond.methodLink RX1 93 yX1_delayed, Cond.instanceMethod yX1_delayed, Cond.selects RX1 yX1_delayed yX1_delayed, Cond.initialized RX1, Cond.code yX1_delayed cX1_delayed 10 (some .int), Cond.constantLong RX1 134 (10), Cond.methodLink RX1 81 yX1_recordOf, Cond.instanceMethod yX1_recordOf, Cond.selects RX1 yX1_recordOf yX1_recordOf, Cond.code yX1_recordOf cX1_recordOf 3 (some .int), Cond.fieldLink RX1 31 "DeadTimeLoop$Loop" "records" "[I", Cond.static yX6_isSignal]
def wsX1_moveOn_r2 : List Cond := [Cond.code yX6_isSignal cX6_isSignal 1 (some .boolean), Cond.methodLink RX1 72 yJ9_floorMod_7cf53, Cond.static yJ9_floorMod_7cf53, Cond.initialized RJ9, Cond.code yJ9_floorMod_7cf53 cJ9_floorMod_7cf53 3 (some .int), Cond.methodLink RX1 136 yJ9_floorDiv_f86c9, Cond.static yJ9_floorDiv_f86c9, Cond.code yJ9_floorDiv_f86c9 cJ9_floorDiv_f86c9 6 (some .long), Cond.static yX6_thousandth, Cond.code yX6_thousandth cX6_thousandth 2 (some .long), Cond.constantLong RX6 280 (1000), Cond.methodLink RX6 282 yJ9_floorDiv_f86c9, Cond.static yX6_stepped, Cond.code yX6_stepped cX6_stepped 6 (some .int), Cond.methodLink RX6 286 yX6_thousandth]
def wsX1_moveOn : List Cond := .code yX1_moveOn cX1_moveOn 8 none :: ((wsX1_moveOn_r1 ++ wsX1_moveOn_r2) ++ wsX10 ++ wsX30)
def wsX1_tick_r1 : List Cond := [Cond.fieldLink RX1 27 "DeadTimeLoop$Loop" "present" "[I", Cond.methodLink RX1 101 Lib.Math.abs.name, Cond.static Lib.Math.abs.name, Cond.initialized "java/lang/Math", Cond.code Lib.Math.abs.name Lib.Math.abs.code 1 (some .int), Cond.fieldLink RX1 37 "DeadTimeLoop$Loop" "section" "LDeadTimeLoop$Section;", Cond.fieldLink RX1 44 "DeadTimeLoop$Loop" "watches" "LDeadTimeLoop$Watches;", Cond.fieldLink RX1 9 "DeadTimeLoop$Loop" "now" "I", Cond.methodLink RX1 84 yX3_get, Cond.instanceMethod yX3_get, Cond.selects RX3 yX3_get yX3_get, Cond.initialized RX3, Cond.code yX3_get cX3_get 2 (some .int), Cond.fieldLink RX3 9 "DeadTimeLoop$Settings" "values" "[I", Cond.static yX6_isParameter, Cond.initialized RX6, Cond.code yX6_isParameter cX6_isParameter 1 (some .boolean), Cond.methodLink RX1 90 yX1_noise, Cond.instanceMethod yX1_noise, Cond.selects RX1 yX1_noise yX1_noise, Cond.initialized RX1, Cond.code yX1_noise cX1_noise 6 (some .int), Cond.constantLong RX1 126 (7919), Cond.constantLong RX1 128 (6151)]
def wsX1_tick_r2 : List Cond := [Cond.fieldLink RX1 18 "DeadTimeLoop$Loop" "seed" "I", Cond.constantLong RX1 130 (2), Cond.constantLong RX1 132 (65521), Cond.methodLink RX1 93 yX1_delayed, Cond.instanceMethod yX1_delayed, Cond.selects RX1 yX1_delayed yX1_delayed, Cond.code yX1_delayed cX1_delayed 10 (some .int), Cond.constantLong RX1 134 (10), Cond.methodLink RX1 81 yX1_recordOf, Cond.instanceMethod yX1_recordOf, Cond.selects RX1 yX1_recordOf yX1_recordOf, Cond.code yX1_recordOf cX1_recordOf 3 (some .int), Cond.fieldLink RX1 31 "DeadTimeLoop$Loop" "records" "[I", Cond.static yX6_isSignal, Cond.code yX6_isSignal cX6_isSignal 1 (some .boolean), Cond.methodLink RX1 72 yJ9_floorMod_7cf53, Cond.static yJ9_floorMod_7cf53, Cond.initialized RJ9, Cond.code yJ9_floorMod_7cf53 cJ9_floorMod_7cf53 3 (some .int), Cond.methodLink RX1 136 yJ9_floorDiv_f86c9, Cond.static yJ9_floorDiv_f86c9, Cond.code yJ9_floorDiv_f86c9 cJ9_floorDiv_f86c9 6 (some .long), Cond.static yX6_stepped, Cond.code yX6_stepped cX6_stepped 6 (some .int)]
def wsX1_tick_r3 : List Cond := [Cond.methodLink RX6 286 yX6_thousandth, Cond.static yX6_thousandth, Cond.code yX6_thousandth cX6_thousandth 2 (some .long), Cond.constantLong RX6 280 (1000), Cond.methodLink RX6 282 yJ9_floorDiv_f86c9, Cond.methodLink RX1 104 yX1_judge, Cond.instanceMethod yX1_judge, Cond.selects RX1 yX1_judge yX1_judge, Cond.code yX1_judge cX1_judge 5 none, Cond.fieldLink RX1 21 "DeadTimeLoop$Loop" "badTicks" "I", Cond.fieldLink RX1 24 "DeadTimeLoop$Loop" "goodTicks" "I", Cond.methodLink RX1 108 yX1_control, Cond.instanceMethod yX1_control, Cond.selects RX1 yX1_control yX1_control, Cond.code yX1_control cX1_control 18 none, Cond.methodLink RX1 144 yX1_outputFor, Cond.instanceMethod yX1_outputFor, Cond.selects RX1 yX1_outputFor yX1_outputFor, Cond.code yX1_outputFor cX1_outputFor 8 (some .long), Cond.static yX6_limited, Cond.code yX6_limited cX6_limited 6 (some .long), Cond.methodLink RX6 290 Lib.MathLoose.max_long.x, Cond.static Lib.MathLoose.max_long.x, Cond.code Lib.MathLoose.max_long.x Lib.MathLoose.max_long.code 4 (some .long)]
def wsX1_tick_r4 : List Cond := [Cond.methodLink RX6 292 Lib.MathLoose.min_long.x, Cond.static Lib.MathLoose.min_long.x, Cond.code Lib.MathLoose.min_long.x Lib.MathLoose.min_long.code 4 (some .long), Cond.methodLink RX1 112 yX1_keepRecords, Cond.instanceMethod yX1_keepRecords, Cond.selects RX1 yX1_keepRecords yX1_keepRecords, Cond.code yX1_keepRecords cX1_keepRecords 2 none, Cond.methodLink RX1 115 yX2_see, Cond.instanceMethod yX2_see, Cond.selects RX2 yX2_see yX2_see, Cond.initialized RX2, Cond.code yX2_see cX2_see 4 none, Cond.fieldLink RX2 7 "DeadTimeLoop$Section" "errorSum" "J", Cond.methodLink RX2 27 Lib.Math.abs.name, Cond.fieldLink RX2 13 "DeadTimeLoop$Section" "effort" "J", Cond.fieldLink RX2 16 "DeadTimeLoop$Section" "overshoot" "I", Cond.fieldLink RX2 23 "DeadTimeLoop$Section" "upwards" "Z", Cond.methodLink RX2 33 Lib.Math.max.name, Cond.static Lib.Math.max.name, Cond.code Lib.Math.max.name Lib.Math.max.code 2 (some .int), Cond.fieldLink RX2 20 "DeadTimeLoop$Section" "ticks" "I", Cond.methodLink RX1 119 yX5_see, Cond.instanceMethod yX5_see, Cond.selects RX5 yX5_see yX5_see]
def wsX1_tick_r5 : List Cond := [Cond.initialized RX5, Cond.code yX5_see cX5_see 5 none, Cond.fieldLink RX5 24 "DeadTimeLoop$Watches" "count" "I", Cond.fieldLink RX5 9 "DeadTimeLoop$Watches" "signals" "[I", Cond.methodLink RX5 39 yX5_seeOne, Cond.instanceMethod yX5_seeOne, Cond.selects RX5 yX5_seeOne yX5_seeOne, Cond.code yX5_seeOne cX5_seeOne 5 none, Cond.fieldLink RX5 15 "DeadTimeLoop$Watches" "least" "[I", Cond.fieldLink RX5 18 "DeadTimeLoop$Watches" "greatest" "[I", Cond.fieldLink RX5 21 "DeadTimeLoop$Watches" "greatestTick" "[I", Cond.methodLink RX5 43 yX5_hasSeen, Cond.instanceMethod yX5_hasSeen, Cond.selects RX5 yX5_hasSeen yX5_hasSeen, Cond.code yX5_hasSeen cX5_hasSeen 2 (some .boolean), Cond.methodLink RX1 122 yX1_moveOn, Cond.instanceMethod yX1_moveOn, Cond.selects RX1 yX1_moveOn yX1_moveOn, Cond.code yX1_moveOn cX1_moveOn 8 none, Cond.fieldLink RX1 15 "DeadTimeLoop$Loop" "load" "I"]
def wsX1_tick : List Cond := .code yX1_tick cX1_tick 5 none :: ((wsX1_tick_r1 ++ (wsX1_tick_r2 ++ (wsX1_tick_r3 ++ (wsX1_tick_r4 ++ wsX1_tick_r5)))) ++ wsX10 ++ wsX30 ++ wsX20 ++ wsX50)
def wsX3_init : List Cond := .code yX3_init cX3_init 1 none :: ([.methodLink RX3 3 objectInit, .instanceMethod objectInit, .code objectInit ⟨#[0xb1]⟩ 1 none, .arrayClass .int, .fieldLink RX3 9 "DeadTimeLoop$Settings" "values" "[I", .methodLink RX3 18 arraycopyName, .native arraycopyName, .static arraycopyName, .initialized "java/lang/System"] ++ wsX30)
def wsX3_set : List Cond := .code yX3_set cX3_set 3 none :: ([.fieldLink RX3 9 "DeadTimeLoop$Settings" "values" "[I", .static yX6_isParameter, .initialized RX6, .code yX6_isParameter cX6_isParameter 1 (some .boolean)] ++ wsX30)
def wsX3_copy : List Cond := .code yX3_copy cX3_copy 2 none :: ([.fieldLink RX3 9 "DeadTimeLoop$Settings" "values" "[I", .methodLink RX3 18 arraycopyName, .native arraycopyName, .static arraycopyName, .initialized "java/lang/System"] ++ wsX30)
def wsX4_init : List Cond := .code yX4_init cX4_init 1 none :: ([.methodLink RX4 3 objectInit, .instanceMethod objectInit, .code objectInit ⟨#[0xb1]⟩ 1 none, .arrayClass .char, .fieldLink RX4 9 "DeadTimeLoop$Text" "characters" "[C", .arrayClass .int, .fieldLink RX4 15 "DeadTimeLoop$Text" "targets" "[I", .fieldLink RX4 19 "DeadTimeLoop$Text" "wanted" "[I", .fieldLink RX4 22 "DeadTimeLoop$Text" "length" "I", .fieldLink RX4 26 "DeadTimeLoop$Text" "count" "I"] ++ wsX40)
def wsX4_append : List Cond := .code yX4_append cX4_append 2 (some .boolean) :: ([.fieldLink RX4 22 "DeadTimeLoop$Text" "length" "I", .fieldLink RX4 9 "DeadTimeLoop$Text" "characters" "[C"] ++ wsX40)
def wsX6_nameOf : List Cond := .code yX6_nameOf cX6_nameOf 1 (some (.object "java/lang/String")) :: ([])
def wsJ0_coder_7d493 : List Cond := .code yJ0_coder_7d493 cJ0_coder_7d493 1 (some .byte) :: ([.fieldLink RJ0 38 "java/lang/String" "COMPACT_STRINGS" "Z", .fieldLink RJ0 15 "java/lang/String" "coder" "B"])
def wsJ0_length_8abf5 : List Cond := .code yJ0_length_8abf5 cJ0_length_8abf5 1 (some .int) :: ([.fieldLink RJ0 9 "java/lang/String" "value" "[B", .methodLink RJ0 335 yJ0_coder_7d493, .instanceMethod yJ0_coder_7d493, .selects RJ0 yJ0_coder_7d493 yJ0_coder_7d493, .initialized RJ0, .code yJ0_coder_7d493 cJ0_coder_7d493 1 (some .byte), .fieldLink RJ0 38 "java/lang/String" "COMPACT_STRINGS" "Z", .fieldLink RJ0 15 "java/lang/String" "coder" "B"])
def wsX4_characterAt : List Cond := .code yX4_characterAt cX4_characterAt 2 (some .int) :: ([.fieldLink RX4 22 "DeadTimeLoop$Text" "length" "I", .fieldLink RX4 9 "DeadTimeLoop$Text" "characters" "[C"] ++ wsX40)
def wsJ0_isLatin1_aae02 : List Cond := .code yJ0_isLatin1_aae02 cJ0_isLatin1_aae02 1 (some .boolean) :: ([.fieldLink RJ0 38 "java/lang/String" "COMPACT_STRINGS" "Z", .fieldLink RJ0 15 "java/lang/String" "coder" "B"])
def wsJ3_checkIndex_8e157 : List Cond := .code yJ3_checkIndex_8e157 cJ3_checkIndex_8e157 3 (some .int) :: ([])
def wsJ0_checkIndex_df160 : List Cond := .code yJ0_checkIndex_df160 cJ0_checkIndex_df160 2 none :: ([.fieldLink RJ0 1053 "jdk/internal/util/Preconditions" "SIOOBE_FORMATTER" "Ljava/util/function/BiFunction;", .methodLink RJ0 1059 yJ3_checkIndex_8e157, .static yJ3_checkIndex_8e157, .initialized RJ3, .code yJ3_checkIndex_8e157 cJ3_checkIndex_8e157 3 (some .int)])
def wsJ1_charAt_3b067 : List Cond := .code yJ1_charAt_3b067 cJ1_charAt_3b067 2 (some .char) :: ([.methodLink RJ1 9 yJ0_checkIndex_df160, .static yJ0_checkIndex_df160, .initialized RJ0, .code yJ0_checkIndex_df160 cJ0_checkIndex_df160 2 none, .fieldLink RJ0 1053 "jdk/internal/util/Preconditions" "SIOOBE_FORMATTER" "Ljava/util/function/BiFunction;", .methodLink RJ0 1059 yJ3_checkIndex_8e157, .static yJ3_checkIndex_8e157, .initialized RJ3, .code yJ3_checkIndex_8e157 cJ3_checkIndex_8e157 3 (some .int)])
def wsJ2_length_9d52b : List Cond := .code yJ2_length_9d52b cJ2_length_9d52b 1 (some .int) :: ([])
def wsJ2_checkIndex_2214a : List Cond := .code yJ2_checkIndex_2214a cJ2_checkIndex_2214a 2 none :: ([.methodLink RJ2 48 yJ2_length_9d52b, .static yJ2_length_9d52b, .initialized RJ2, .code yJ2_length_9d52b cJ2_length_9d52b 1 (some .int), .methodLink RJ2 414 yJ0_checkIndex_df160, .static yJ0_checkIndex_df160, .initialized RJ0, .code yJ0_checkIndex_df160 cJ0_checkIndex_df160 2 none, .fieldLink RJ0 1053 "jdk/internal/util/Preconditions" "SIOOBE_FORMATTER" "Ljava/util/function/BiFunction;", .methodLink RJ0 1059 yJ3_checkIndex_8e157, .static yJ3_checkIndex_8e157, .initialized RJ3, .code yJ3_checkIndex_8e157 cJ3_checkIndex_8e157 3 (some .int)])
def wsJ2_getChar_3b067 : List Cond := .code yJ2_getChar_3b067 cJ2_getChar_3b067 2 (some .char) :: ([.fieldLink RJ2 44 "java/lang/StringUTF16" "$assertionsDisabled" "Z", .fieldLink RJ2 59 "java/lang/StringUTF16" "HI_BYTE_SHIFT" "I", .fieldLink RJ2 63 "java/lang/StringUTF16" "LO_BYTE_SHIFT" "I", .methodLink RJ2 48 yJ2_length_9d52b, .static yJ2_length_9d52b, .initialized RJ2, .code yJ2_length_9d52b cJ2_length_9d52b 1 (some .int)])
def wsJ2_charAt_3b067 : List Cond := .code yJ2_charAt_3b067 cJ2_charAt_3b067 2 (some .char) :: ([.methodLink RJ2 67 yJ2_checkIndex_2214a, .static yJ2_checkIndex_2214a, .initialized RJ2, .code yJ2_checkIndex_2214a cJ2_checkIndex_2214a 2 none, .methodLink RJ2 48 yJ2_length_9d52b, .static yJ2_length_9d52b, .code yJ2_length_9d52b cJ2_length_9d52b 1 (some .int), .methodLink RJ2 414 yJ0_checkIndex_df160, .static yJ0_checkIndex_df160, .initialized RJ0, .code yJ0_checkIndex_df160 cJ0_checkIndex_df160 2 none, .fieldLink RJ0 1053 "jdk/internal/util/Preconditions" "SIOOBE_FORMATTER" "Ljava/util/function/BiFunction;", .methodLink RJ0 1059 yJ3_checkIndex_8e157, .static yJ3_checkIndex_8e157, .initialized RJ3, .code yJ3_checkIndex_8e157 cJ3_checkIndex_8e157 3 (some .int), .methodLink RJ2 71 yJ2_getChar_3b067, .static yJ2_getChar_3b067, .code yJ2_getChar_3b067 cJ2_getChar_3b067 2 (some .char), .fieldLink RJ2 44 "java/lang/StringUTF16" "$assertionsDisabled" "Z", .fieldLink RJ2 59 "java/lang/StringUTF16" "HI_BYTE_SHIFT" "I", .fieldLink RJ2 63 "java/lang/StringUTF16" "LO_BYTE_SHIFT" "I"])
def wsJ0_charAt_5068e_r1 : List Cond := [Cond.fieldLink RJ0 9 "java/lang/String" "value" "[B", Cond.methodLink RJ0 492 yJ0_isLatin1_aae02, Cond.instanceMethod yJ0_isLatin1_aae02, Cond.selects RJ0 yJ0_isLatin1_aae02 yJ0_isLatin1_aae02, Cond.initialized RJ0, Cond.code yJ0_isLatin1_aae02 cJ0_isLatin1_aae02 1 (some .boolean), Cond.fieldLink RJ0 38 "java/lang/String" "COMPACT_STRINGS" "Z", Cond.fieldLink RJ0 15 "java/lang/String" "coder" "B", Cond.methodLink RJ0 495 yJ1_charAt_3b067, Cond.static yJ1_charAt_3b067, Cond.initialized RJ1, Cond.code yJ1_charAt_3b067 cJ1_charAt_3b067 2 (some .char), Cond.methodLink RJ1 9 yJ0_checkIndex_df160, Cond.static yJ0_checkIndex_df160, Cond.code yJ0_checkIndex_df160 cJ0_checkIndex_df160 2 none, Cond.fieldLink RJ0 1053 "jdk/internal/util/Preconditions" "SIOOBE_FORMATTER" "Ljava/util/function/BiFunction;", Cond.methodLink RJ0 1059 yJ3_checkIndex_8e157, Cond.static yJ3_checkIndex_8e157, Cond.initialized RJ3, Cond.code yJ3_checkIndex_8e157 cJ3_checkIndex_8e157 3 (some .int), Cond.methodLink RJ0 498 yJ2_charAt_3b067, Cond.static yJ2_charAt_3b067, Cond.initialized RJ2, Cond.code yJ2_charAt_3b067 cJ2_charAt_3b067 2 (some .char)]
def wsJ0_charAt_5068e_r2 : List Cond := [Cond.methodLink RJ2 67 yJ2_checkIndex_2214a, Cond.static yJ2_checkIndex_2214a, Cond.code yJ2_checkIndex_2214a cJ2_checkIndex_2214a 2 none, Cond.methodLink RJ2 48 yJ2_length_9d52b, Cond.static yJ2_length_9d52b, Cond.code yJ2_length_9d52b cJ2_length_9d52b 1 (some .int), Cond.methodLink RJ2 414 yJ0_checkIndex_df160, Cond.methodLink RJ2 71 yJ2_getChar_3b067, Cond.static yJ2_getChar_3b067, Cond.code yJ2_getChar_3b067 cJ2_getChar_3b067 2 (some .char), Cond.fieldLink RJ2 44 "java/lang/StringUTF16" "$assertionsDisabled" "Z", Cond.fieldLink RJ2 59 "java/lang/StringUTF16" "HI_BYTE_SHIFT" "I", Cond.fieldLink RJ2 63 "java/lang/StringUTF16" "LO_BYTE_SHIFT" "I"]
def wsJ0_charAt_5068e : List Cond := .code yJ0_charAt_5068e cJ0_charAt_5068e 2 (some .char) :: ((wsJ0_charAt_5068e_r1 ++ wsJ0_charAt_5068e_r2))
def wsX4_standsAt_r1 : List Cond := [Cond.methodLink RX4 53 yJ0_length_8abf5, Cond.instanceMethod yJ0_length_8abf5, Cond.selects RJ0 yJ0_length_8abf5 yJ0_length_8abf5, Cond.initialized RJ0, Cond.code yJ0_length_8abf5 cJ0_length_8abf5 1 (some .int), Cond.fieldLink RJ0 9 "java/lang/String" "value" "[B", Cond.methodLink RJ0 335 yJ0_coder_7d493, Cond.instanceMethod yJ0_coder_7d493, Cond.selects RJ0 yJ0_coder_7d493 yJ0_coder_7d493, Cond.code yJ0_coder_7d493 cJ0_coder_7d493 1 (some .byte), Cond.fieldLink RJ0 38 "java/lang/String" "COMPACT_STRINGS" "Z", Cond.fieldLink RJ0 15 "java/lang/String" "coder" "B", Cond.methodLink RX4 43 yX4_characterAt, Cond.instanceMethod yX4_characterAt, Cond.selects RX4 yX4_characterAt yX4_characterAt, Cond.initialized RX4, Cond.code yX4_characterAt cX4_characterAt 2 (some .int), Cond.fieldLink RX4 22 "DeadTimeLoop$Text" "length" "I", Cond.fieldLink RX4 9 "DeadTimeLoop$Text" "characters" "[C", Cond.methodLink RX4 72 yJ0_charAt_5068e, Cond.instanceMethod yJ0_charAt_5068e, Cond.selects RJ0 yJ0_charAt_5068e yJ0_charAt_5068e, Cond.code yJ0_charAt_5068e cJ0_charAt_5068e 2 (some .char), Cond.methodLink RJ0 492 yJ0_isLatin1_aae02]
def wsX4_standsAt_r2 : List Cond := [Cond.instanceMethod yJ0_isLatin1_aae02, Cond.selects RJ0 yJ0_isLatin1_aae02 yJ0_isLatin1_aae02, Cond.code yJ0_isLatin1_aae02 cJ0_isLatin1_aae02 1 (some .boolean), Cond.methodLink RJ0 495 yJ1_charAt_3b067, Cond.static yJ1_charAt_3b067, Cond.initialized RJ1, Cond.code yJ1_charAt_3b067 cJ1_charAt_3b067 2 (some .char), Cond.methodLink RJ1 9 yJ0_checkIndex_df160, Cond.static yJ0_checkIndex_df160, Cond.code yJ0_checkIndex_df160 cJ0_checkIndex_df160 2 none, Cond.fieldLink RJ0 1053 "jdk/internal/util/Preconditions" "SIOOBE_FORMATTER" "Ljava/util/function/BiFunction;", Cond.methodLink RJ0 1059 yJ3_checkIndex_8e157, Cond.static yJ3_checkIndex_8e157, Cond.initialized RJ3, Cond.code yJ3_checkIndex_8e157 cJ3_checkIndex_8e157 3 (some .int), Cond.methodLink RJ0 498 yJ2_charAt_3b067, Cond.static yJ2_charAt_3b067, Cond.initialized RJ2, Cond.code yJ2_charAt_3b067 cJ2_charAt_3b067 2 (some .char), Cond.methodLink RJ2 67 yJ2_checkIndex_2214a, Cond.static yJ2_checkIndex_2214a, Cond.code yJ2_checkIndex_2214a cJ2_checkIndex_2214a 2 none, Cond.methodLink RJ2 48 yJ2_length_9d52b, Cond.static yJ2_length_9d52b]
def wsX4_standsAt_r3 : List Cond := [Cond.code yJ2_length_9d52b cJ2_length_9d52b 1 (some .int), Cond.methodLink RJ2 414 yJ0_checkIndex_df160, Cond.methodLink RJ2 71 yJ2_getChar_3b067, Cond.static yJ2_getChar_3b067, Cond.code yJ2_getChar_3b067 cJ2_getChar_3b067 2 (some .char), Cond.fieldLink RJ2 44 "java/lang/StringUTF16" "$assertionsDisabled" "Z", Cond.fieldLink RJ2 59 "java/lang/StringUTF16" "HI_BYTE_SHIFT" "I", Cond.fieldLink RJ2 63 "java/lang/StringUTF16" "LO_BYTE_SHIFT" "I"]
def wsX4_standsAt : List Cond := .code yX4_standsAt cX4_standsAt 4 (some .boolean) :: ((wsX4_standsAt_r1 ++ (wsX4_standsAt_r2 ++ wsX4_standsAt_r3)) ++ wsX40)
def wsX4_targetAt_r1 : List Cond := [Cond.static yX6_nameOf, Cond.initialized RX6, Cond.code yX6_nameOf cX6_nameOf 1 (some (.object "java/lang/String")), Cond.methodLink RX4 68 yX4_standsAt, Cond.instanceMethod yX4_standsAt, Cond.selects RX4 yX4_standsAt yX4_standsAt, Cond.initialized RX4, Cond.code yX4_standsAt cX4_standsAt 4 (some .boolean), Cond.methodLink RX4 53 yJ0_length_8abf5, Cond.instanceMethod yJ0_length_8abf5, Cond.selects RJ0 yJ0_length_8abf5 yJ0_length_8abf5, Cond.initialized RJ0, Cond.code yJ0_length_8abf5 cJ0_length_8abf5 1 (some .int), Cond.fieldLink RJ0 9 "java/lang/String" "value" "[B", Cond.methodLink RJ0 335 yJ0_coder_7d493, Cond.instanceMethod yJ0_coder_7d493, Cond.selects RJ0 yJ0_coder_7d493 yJ0_coder_7d493, Cond.code yJ0_coder_7d493 cJ0_coder_7d493 1 (some .byte), Cond.fieldLink RJ0 38 "java/lang/String" "COMPACT_STRINGS" "Z", Cond.fieldLink RJ0 15 "java/lang/String" "coder" "B", Cond.methodLink RX4 43 yX4_characterAt, Cond.instanceMethod yX4_characterAt, Cond.selects RX4 yX4_characterAt yX4_characterAt, Cond.code yX4_characterAt cX4_characterAt 2 (some .int)]
def wsX4_targetAt_r2 : List Cond := [Cond.fieldLink RX4 22 "DeadTimeLoop$Text" "length" "I", Cond.fieldLink RX4 9 "DeadTimeLoop$Text" "characters" "[C", Cond.methodLink RX4 72 yJ0_charAt_5068e, Cond.instanceMethod yJ0_charAt_5068e, Cond.selects RJ0 yJ0_charAt_5068e yJ0_charAt_5068e, Cond.code yJ0_charAt_5068e cJ0_charAt_5068e 2 (some .char), Cond.methodLink RJ0 492 yJ0_isLatin1_aae02, Cond.instanceMethod yJ0_isLatin1_aae02, Cond.selects RJ0 yJ0_isLatin1_aae02 yJ0_isLatin1_aae02, Cond.code yJ0_isLatin1_aae02 cJ0_isLatin1_aae02 1 (some .boolean), Cond.methodLink RJ0 495 yJ1_charAt_3b067, Cond.static yJ1_charAt_3b067, Cond.initialized RJ1, Cond.code yJ1_charAt_3b067 cJ1_charAt_3b067 2 (some .char), Cond.methodLink RJ1 9 yJ0_checkIndex_df160, Cond.static yJ0_checkIndex_df160, Cond.code yJ0_checkIndex_df160 cJ0_checkIndex_df160 2 none, Cond.fieldLink RJ0 1053 "jdk/internal/util/Preconditions" "SIOOBE_FORMATTER" "Ljava/util/function/BiFunction;", Cond.methodLink RJ0 1059 yJ3_checkIndex_8e157, Cond.static yJ3_checkIndex_8e157, Cond.initialized RJ3, Cond.code yJ3_checkIndex_8e157 cJ3_checkIndex_8e157 3 (some .int), Cond.methodLink RJ0 498 yJ2_charAt_3b067, Cond.static yJ2_charAt_3b067]
def wsX4_targetAt_r3 : List Cond := [Cond.initialized RJ2, Cond.code yJ2_charAt_3b067 cJ2_charAt_3b067 2 (some .char), Cond.methodLink RJ2 67 yJ2_checkIndex_2214a, Cond.static yJ2_checkIndex_2214a, Cond.code yJ2_checkIndex_2214a cJ2_checkIndex_2214a 2 none, Cond.methodLink RJ2 48 yJ2_length_9d52b, Cond.static yJ2_length_9d52b, Cond.code yJ2_length_9d52b cJ2_length_9d52b 1 (some .int), Cond.methodLink RJ2 414 yJ0_checkIndex_df160, Cond.methodLink RJ2 71 yJ2_getChar_3b067, Cond.static yJ2_getChar_3b067, Cond.code yJ2_getChar_3b067 cJ2_getChar_3b067 2 (some .char), Cond.fieldLink RJ2 44 "java/lang/StringUTF16" "$assertionsDisabled" "Z", Cond.fieldLink RJ2 59 "java/lang/StringUTF16" "HI_BYTE_SHIFT" "I", Cond.fieldLink RJ2 63 "java/lang/StringUTF16" "LO_BYTE_SHIFT" "I"]
def wsX4_targetAt : List Cond := .code yX4_targetAt cX4_targetAt 4 (some .int) :: ((wsX4_targetAt_r1 ++ (wsX4_targetAt_r2 ++ wsX4_targetAt_r3)) ++ wsX40)
def wsX4_isDigitAt : List Cond := .code yX4_isDigitAt cX4_isDigitAt 3 (some .boolean) :: ([.methodLink RX4 43 yX4_characterAt, .instanceMethod yX4_characterAt, .selects RX4 yX4_characterAt yX4_characterAt, .initialized RX4, .code yX4_characterAt cX4_characterAt 2 (some .int), .fieldLink RX4 22 "DeadTimeLoop$Text" "length" "I", .fieldLink RX4 9 "DeadTimeLoop$Text" "characters" "[C"] ++ wsX40)
def wsX6_allows : List Cond := .code yX6_allows cX6_allows 2 (some .boolean) :: ([.fieldLink RX6 244 "DeadTimeLoop" "LEAST" "[I", .fieldLink RX6 247 "DeadTimeLoop" "GREATEST" "[I", .methodLink RX6 76 yX6_isParameter, .static yX6_isParameter, .initialized RX6, .code yX6_isParameter cX6_isParameter 1 (some .boolean)])
def wsX4_keep : List Cond := .code yX4_keep cX4_keep 3 (some .boolean) :: ([.fieldLink RX4 26 "DeadTimeLoop$Text" "count" "I", .fieldLink RX4 15 "DeadTimeLoop$Text" "targets" "[I", .fieldLink RX4 19 "DeadTimeLoop$Text" "wanted" "[I", .static yX6_allows, .initialized RX6, .code yX6_allows cX6_allows 2 (some .boolean), .fieldLink RX6 244 "DeadTimeLoop" "LEAST" "[I", .fieldLink RX6 247 "DeadTimeLoop" "GREATEST" "[I", .methodLink RX6 76 yX6_isParameter, .static yX6_isParameter, .code yX6_isParameter cX6_isParameter 1 (some .boolean)] ++ wsX40)
def wsX4_readAssignment_r1 : List Cond := [Cond.methodLink RX4 46 yX4_targetAt, Cond.instanceMethod yX4_targetAt, Cond.selects RX4 yX4_targetAt yX4_targetAt, Cond.initialized RX4, Cond.code yX4_targetAt cX4_targetAt 4 (some .int), Cond.static yX6_nameOf, Cond.initialized RX6, Cond.code yX6_nameOf cX6_nameOf 1 (some (.object "java/lang/String")), Cond.methodLink RX4 68 yX4_standsAt, Cond.instanceMethod yX4_standsAt, Cond.selects RX4 yX4_standsAt yX4_standsAt, Cond.code yX4_standsAt cX4_standsAt 4 (some .boolean), Cond.methodLink RX4 53 yJ0_length_8abf5, Cond.instanceMethod yJ0_length_8abf5, Cond.selects RJ0 yJ0_length_8abf5 yJ0_length_8abf5, Cond.initialized RJ0, Cond.code yJ0_length_8abf5 cJ0_length_8abf5 1 (some .int), Cond.fieldLink RJ0 9 "java/lang/String" "value" "[B", Cond.methodLink RJ0 335 yJ0_coder_7d493, Cond.instanceMethod yJ0_coder_7d493, Cond.selects RJ0 yJ0_coder_7d493 yJ0_coder_7d493, Cond.code yJ0_coder_7d493 cJ0_coder_7d493 1 (some .byte), Cond.fieldLink RJ0 38 "java/lang/String" "COMPACT_STRINGS" "Z", Cond.fieldLink RJ0 15 "java/lang/String" "coder" "B"]
def wsX4_readAssignment_r2 : List Cond := [Cond.methodLink RX4 43 yX4_characterAt, Cond.instanceMethod yX4_characterAt, Cond.selects RX4 yX4_characterAt yX4_characterAt, Cond.code yX4_characterAt cX4_characterAt 2 (some .int), Cond.fieldLink RX4 22 "DeadTimeLoop$Text" "length" "I", Cond.fieldLink RX4 9 "DeadTimeLoop$Text" "characters" "[C", Cond.methodLink RX4 72 yJ0_charAt_5068e, Cond.instanceMethod yJ0_charAt_5068e, Cond.selects RJ0 yJ0_charAt_5068e yJ0_charAt_5068e, Cond.code yJ0_charAt_5068e cJ0_charAt_5068e 2 (some .char), Cond.methodLink RJ0 492 yJ0_isLatin1_aae02, Cond.instanceMethod yJ0_isLatin1_aae02, Cond.selects RJ0 yJ0_isLatin1_aae02 yJ0_isLatin1_aae02, Cond.code yJ0_isLatin1_aae02 cJ0_isLatin1_aae02 1 (some .boolean), Cond.methodLink RJ0 495 yJ1_charAt_3b067, Cond.static yJ1_charAt_3b067, Cond.initialized RJ1, Cond.code yJ1_charAt_3b067 cJ1_charAt_3b067 2 (some .char), Cond.methodLink RJ1 9 yJ0_checkIndex_df160, Cond.static yJ0_checkIndex_df160, Cond.code yJ0_checkIndex_df160 cJ0_checkIndex_df160 2 none, Cond.fieldLink RJ0 1053 "jdk/internal/util/Preconditions" "SIOOBE_FORMATTER" "Ljava/util/function/BiFunction;", Cond.methodLink RJ0 1059 yJ3_checkIndex_8e157, Cond.static yJ3_checkIndex_8e157]
def wsX4_readAssignment_r3 : List Cond := [Cond.initialized RJ3, Cond.code yJ3_checkIndex_8e157 cJ3_checkIndex_8e157 3 (some .int), Cond.methodLink RJ0 498 yJ2_charAt_3b067, Cond.static yJ2_charAt_3b067, Cond.initialized RJ2, Cond.code yJ2_charAt_3b067 cJ2_charAt_3b067 2 (some .char), Cond.methodLink RJ2 67 yJ2_checkIndex_2214a, Cond.static yJ2_checkIndex_2214a, Cond.code yJ2_checkIndex_2214a cJ2_checkIndex_2214a 2 none, Cond.methodLink RJ2 48 yJ2_length_9d52b, Cond.static yJ2_length_9d52b, Cond.code yJ2_length_9d52b cJ2_length_9d52b 1 (some .int), Cond.methodLink RJ2 414 yJ0_checkIndex_df160, Cond.methodLink RJ2 71 yJ2_getChar_3b067, Cond.static yJ2_getChar_3b067, Cond.code yJ2_getChar_3b067 cJ2_getChar_3b067 2 (some .char), Cond.fieldLink RJ2 44 "java/lang/StringUTF16" "$assertionsDisabled" "Z", Cond.fieldLink RJ2 59 "java/lang/StringUTF16" "HI_BYTE_SHIFT" "I", Cond.fieldLink RJ2 63 "java/lang/StringUTF16" "LO_BYTE_SHIFT" "I", Cond.methodLink RX4 58 yX4_isDigitAt, Cond.instanceMethod yX4_isDigitAt, Cond.selects RX4 yX4_isDigitAt yX4_isDigitAt, Cond.code yX4_isDigitAt cX4_isDigitAt 3 (some .boolean), Cond.methodLink RX4 61 yX4_keep]
def wsX4_readAssignment_r4 : List Cond := [Cond.instanceMethod yX4_keep, Cond.selects RX4 yX4_keep yX4_keep, Cond.code yX4_keep cX4_keep 3 (some .boolean), Cond.fieldLink RX4 26 "DeadTimeLoop$Text" "count" "I", Cond.fieldLink RX4 15 "DeadTimeLoop$Text" "targets" "[I", Cond.fieldLink RX4 19 "DeadTimeLoop$Text" "wanted" "[I", Cond.static yX6_allows, Cond.code yX6_allows cX6_allows 2 (some .boolean), Cond.fieldLink RX6 244 "DeadTimeLoop" "LEAST" "[I", Cond.fieldLink RX6 247 "DeadTimeLoop" "GREATEST" "[I", Cond.methodLink RX6 76 yX6_isParameter, Cond.static yX6_isParameter, Cond.code yX6_isParameter cX6_isParameter 1 (some .boolean)]
def wsX4_readAssignment : List Cond := .code yX4_readAssignment cX4_readAssignment 7 (some .int) :: ((wsX4_readAssignment_r1 ++ (wsX4_readAssignment_r2 ++ (wsX4_readAssignment_r3 ++ wsX4_readAssignment_r4))) ++ wsX40)
def wsX4_read_r1 : List Cond := [Cond.fieldLink RX4 26 "DeadTimeLoop$Text" "count" "I", Cond.fieldLink RX4 22 "DeadTimeLoop$Text" "length" "I", Cond.methodLink RX4 29 yX4_readAssignment, Cond.instanceMethod yX4_readAssignment, Cond.selects RX4 yX4_readAssignment yX4_readAssignment, Cond.initialized RX4, Cond.code yX4_readAssignment cX4_readAssignment 7 (some .int), Cond.methodLink RX4 46 yX4_targetAt, Cond.instanceMethod yX4_targetAt, Cond.selects RX4 yX4_targetAt yX4_targetAt, Cond.code yX4_targetAt cX4_targetAt 4 (some .int), Cond.static yX6_nameOf, Cond.initialized RX6, Cond.code yX6_nameOf cX6_nameOf 1 (some (.object "java/lang/String")), Cond.methodLink RX4 68 yX4_standsAt, Cond.instanceMethod yX4_standsAt, Cond.selects RX4 yX4_standsAt yX4_standsAt, Cond.code yX4_standsAt cX4_standsAt 4 (some .boolean), Cond.methodLink RX4 53 yJ0_length_8abf5, Cond.instanceMethod yJ0_length_8abf5, Cond.selects RJ0 yJ0_length_8abf5 yJ0_length_8abf5, Cond.initialized RJ0, Cond.code yJ0_length_8abf5 cJ0_length_8abf5 1 (some .int), Cond.fieldLink RJ0 9 "java/lang/String" "value" "[B"]
def wsX4_read_r2 : List Cond := [Cond.methodLink RJ0 335 yJ0_coder_7d493, Cond.instanceMethod yJ0_coder_7d493, Cond.selects RJ0 yJ0_coder_7d493 yJ0_coder_7d493, Cond.code yJ0_coder_7d493 cJ0_coder_7d493 1 (some .byte), Cond.fieldLink RJ0 38 "java/lang/String" "COMPACT_STRINGS" "Z", Cond.fieldLink RJ0 15 "java/lang/String" "coder" "B", Cond.methodLink RX4 43 yX4_characterAt, Cond.instanceMethod yX4_characterAt, Cond.selects RX4 yX4_characterAt yX4_characterAt, Cond.code yX4_characterAt cX4_characterAt 2 (some .int), Cond.fieldLink RX4 9 "DeadTimeLoop$Text" "characters" "[C", Cond.methodLink RX4 72 yJ0_charAt_5068e, Cond.instanceMethod yJ0_charAt_5068e, Cond.selects RJ0 yJ0_charAt_5068e yJ0_charAt_5068e, Cond.code yJ0_charAt_5068e cJ0_charAt_5068e 2 (some .char), Cond.methodLink RJ0 492 yJ0_isLatin1_aae02, Cond.instanceMethod yJ0_isLatin1_aae02, Cond.selects RJ0 yJ0_isLatin1_aae02 yJ0_isLatin1_aae02, Cond.code yJ0_isLatin1_aae02 cJ0_isLatin1_aae02 1 (some .boolean), Cond.methodLink RJ0 495 yJ1_charAt_3b067, Cond.static yJ1_charAt_3b067, Cond.initialized RJ1, Cond.code yJ1_charAt_3b067 cJ1_charAt_3b067 2 (some .char), Cond.methodLink RJ1 9 yJ0_checkIndex_df160]
def wsX4_read_r3 : List Cond := [Cond.static yJ0_checkIndex_df160, Cond.code yJ0_checkIndex_df160 cJ0_checkIndex_df160 2 none, Cond.fieldLink RJ0 1053 "jdk/internal/util/Preconditions" "SIOOBE_FORMATTER" "Ljava/util/function/BiFunction;", Cond.methodLink RJ0 1059 yJ3_checkIndex_8e157, Cond.static yJ3_checkIndex_8e157, Cond.initialized RJ3, Cond.code yJ3_checkIndex_8e157 cJ3_checkIndex_8e157 3 (some .int), Cond.methodLink RJ0 498 yJ2_charAt_3b067, Cond.static yJ2_charAt_3b067, Cond.initialized RJ2, Cond.code yJ2_charAt_3b067 cJ2_charAt_3b067 2 (some .char), Cond.methodLink RJ2 67 yJ2_checkIndex_2214a, Cond.static yJ2_checkIndex_2214a, Cond.code yJ2_checkIndex_2214a cJ2_checkIndex_2214a 2 none, Cond.methodLink RJ2 48 yJ2_length_9d52b, Cond.static yJ2_length_9d52b, Cond.code yJ2_length_9d52b cJ2_length_9d52b 1 (some .int), Cond.methodLink RJ2 414 yJ0_checkIndex_df160, Cond.methodLink RJ2 71 yJ2_getChar_3b067, Cond.static yJ2_getChar_3b067, Cond.code yJ2_getChar_3b067 cJ2_getChar_3b067 2 (some .char), Cond.fieldLink RJ2 44 "java/lang/StringUTF16" "$assertionsDisabled" "Z", Cond.fieldLink RJ2 59 "java/lang/StringUTF16" "HI_BYTE_SHIFT" "I", Cond.fieldLink RJ2 63 "java/lang/StringUTF16" "LO_BYTE_SHIFT" "I"]
def wsX4_read_r4 : List Cond := [Cond.methodLink RX4 58 yX4_isDigitAt, Cond.instanceMethod yX4_isDigitAt, Cond.selects RX4 yX4_isDigitAt yX4_isDigitAt, Cond.code yX4_isDigitAt cX4_isDigitAt 3 (some .boolean), Cond.methodLink RX4 61 yX4_keep, Cond.instanceMethod yX4_keep, Cond.selects RX4 yX4_keep yX4_keep, Cond.code yX4_keep cX4_keep 3 (some .boolean), Cond.fieldLink RX4 15 "DeadTimeLoop$Text" "targets" "[I", Cond.fieldLink RX4 19 "DeadTimeLoop$Text" "wanted" "[I", Cond.static yX6_allows, Cond.code yX6_allows cX6_allows 2 (some .boolean), Cond.fieldLink RX6 244 "DeadTimeLoop" "LEAST" "[I", Cond.fieldLink RX6 247 "DeadTimeLoop" "GREATEST" "[I", Cond.methodLink RX6 76 yX6_isParameter, Cond.static yX6_isParameter, Cond.code yX6_isParameter cX6_isParameter 1 (some .boolean)]
def wsX4_read : List Cond := .code yX4_read cX4_read 3 (some .int) :: ((wsX4_read_r1 ++ (wsX4_read_r2 ++ (wsX4_read_r3 ++ wsX4_read_r4))) ++ wsX40)
def wsX4_assignTo : List Cond := .code yX4_assignTo cX4_assignTo 3 none :: ([.fieldLink RX4 26 "DeadTimeLoop$Text" "count" "I", .fieldLink RX4 15 "DeadTimeLoop$Text" "targets" "[I", .fieldLink RX4 19 "DeadTimeLoop$Text" "wanted" "[I", .methodLink RX4 33 yX3_set, .instanceMethod yX3_set, .selects RX3 yX3_set yX3_set, .initialized RX3, .code yX3_set cX3_set 3 none, .fieldLink RX3 9 "DeadTimeLoop$Settings" "values" "[I", .static yX6_isParameter, .initialized RX6, .code yX6_isParameter cX6_isParameter 1 (some .boolean)] ++ wsX40 ++ wsX30)
def wsX4_isFirst : List Cond := .code yX4_isFirst cX4_isFirst 3 (some .boolean) :: ([.fieldLink RX4 15 "DeadTimeLoop$Text" "targets" "[I"] ++ wsX40)
def wsX4_different : List Cond := .code yX4_different cX4_different 3 (some .int) :: ([.fieldLink RX4 26 "DeadTimeLoop$Text" "count" "I", .methodLink RX4 39 yX4_isFirst, .instanceMethod yX4_isFirst, .selects RX4 yX4_isFirst yX4_isFirst, .initialized RX4, .code yX4_isFirst cX4_isFirst 3 (some .boolean), .fieldLink RX4 15 "DeadTimeLoop$Text" "targets" "[I"] ++ wsX40)
def wsX4_differentAt : List Cond := .code yX4_differentAt cX4_differentAt 4 (some .int) :: ([.fieldLink RX4 26 "DeadTimeLoop$Text" "count" "I", .fieldLink RX4 15 "DeadTimeLoop$Text" "targets" "[I", .methodLink RX4 39 yX4_isFirst, .instanceMethod yX4_isFirst, .selects RX4 yX4_isFirst yX4_isFirst, .initialized RX4, .code yX4_isFirst cX4_isFirst 3 (some .boolean)] ++ wsX40)
def wsX5_placeOf : List Cond := .code yX5_placeOf cX5_placeOf 3 (some .int) :: ([.fieldLink RX5 24 "DeadTimeLoop$Watches" "count" "I", .fieldLink RX5 9 "DeadTimeLoop$Watches" "signals" "[I"] ++ wsX50)
def wsX5_add : List Cond := .code yX5_add cX5_add 3 (some .boolean) :: ([.fieldLink RX5 24 "DeadTimeLoop$Watches" "count" "I", .fieldLink RX5 9 "DeadTimeLoop$Watches" "signals" "[I", .fieldLink RX5 21 "DeadTimeLoop$Watches" "greatestTick" "[I", .methodLink RX5 34 yX5_placeOf, .instanceMethod yX5_placeOf, .selects RX5 yX5_placeOf yX5_placeOf, .initialized RX5, .code yX5_placeOf cX5_placeOf 3 (some .int)] ++ wsX50)
def wsX5_remove : List Cond := .code yX5_remove cX5_remove 4 (some .boolean) :: ([.fieldLink RX5 24 "DeadTimeLoop$Watches" "count" "I", .fieldLink RX5 9 "DeadTimeLoop$Watches" "signals" "[I", .fieldLink RX5 15 "DeadTimeLoop$Watches" "least" "[I", .fieldLink RX5 18 "DeadTimeLoop$Watches" "greatest" "[I", .fieldLink RX5 21 "DeadTimeLoop$Watches" "greatestTick" "[I", .methodLink RX5 34 yX5_placeOf, .instanceMethod yX5_placeOf, .selects RX5 yX5_placeOf yX5_placeOf, .initialized RX5, .code yX5_placeOf cX5_placeOf 3 (some .int)] ++ wsX50)
def wsX5_get : List Cond := .code yX5_get cX5_get 3 (some .int) :: ([.constant RX5 38 (-2000000004), .fieldLink RX5 15 "DeadTimeLoop$Watches" "least" "[I", .fieldLink RX5 18 "DeadTimeLoop$Watches" "greatest" "[I", .fieldLink RX5 21 "DeadTimeLoop$Watches" "greatestTick" "[I"] ++ wsX50)
def wsX6_init_r1 : List Cond := [Cond.methodLink RX6 3 objectInit, Cond.instanceMethod objectInit, Cond.code objectInit ⟨#[0xb1]⟩ 1 none, Cond.classLink RX6 9 RX3, Cond.instantiable RX3 1, Cond.initialized RX3, Cond.fieldLink RX6 12 "DeadTimeLoop" "settings" "LDeadTimeLoop$Settings;", Cond.classLink RX6 16 RX0, Cond.instantiable RX0 2, Cond.initialized RX0, Cond.fieldLink RX6 19 "DeadTimeLoop" "changes" "LDeadTimeLoop$Changes;", Cond.classLink RX6 23 RX4, Cond.instantiable RX4 5, Cond.initialized RX4, Cond.fieldLink RX6 26 "DeadTimeLoop" "text" "LDeadTimeLoop$Text;", Cond.classLink RX6 30 RX1, Cond.instantiable RX1 9, Cond.initialized RX1, Cond.fieldLink RX6 33 "DeadTimeLoop" "loop" "LDeadTimeLoop$Loop;", Cond.fieldLink RX6 37 "DeadTimeLoop" "firstStored" "LDeadTimeLoop$Loop;", Cond.fieldLink RX6 40 "DeadTimeLoop" "secondStored" "LDeadTimeLoop$Loop;", Cond.fieldLink RX6 43 "DeadTimeLoop" "storedStates" "I", Cond.fieldLink RX6 47 "DeadTimeLoop" "trialSettings" "LDeadTimeLoop$Settings;", Cond.fieldLink RX6 50 "DeadTimeLoop" "idealSettings" "LDeadTimeLoop$Settings;"]
def wsX6_init_r2 : List Cond := [Cond.fieldLink RX6 53 "DeadTimeLoop" "trial" "LDeadTimeLoop$Loop;", Cond.fieldLink RX6 56 "DeadTimeLoop" "ideal" "LDeadTimeLoop$Loop;", Cond.methodLink RX6 11 yX3_init, Cond.instanceMethod yX3_init, Cond.code yX3_init cX3_init 1 none, Cond.methodLink RX3 3 objectInit, Cond.arrayClass .int, Cond.fieldLink RX3 9 "DeadTimeLoop$Settings" "values" "[I", Cond.methodLink RX3 18 arraycopyName, Cond.native arraycopyName, Cond.static arraycopyName, Cond.initialized "java/lang/System", Cond.methodLink RX6 18 yX0_init, Cond.instanceMethod yX0_init, Cond.code yX0_init cX0_init 1 none, Cond.methodLink RX0 3 objectInit, Cond.classLink RX0 9 "[[I", Cond.fieldLink RX0 11 "DeadTimeLoop$Changes" "rows" "[[I", Cond.fieldLink RX0 16 "DeadTimeLoop$Changes" "count" "I", Cond.methodLink RX6 25 yX4_init, Cond.instanceMethod yX4_init, Cond.code yX4_init cX4_init 1 none, Cond.methodLink RX4 3 objectInit, Cond.arrayClass .char]
def wsX6_init_r3 : List Cond := [Cond.fieldLink RX4 9 "DeadTimeLoop$Text" "characters" "[C", Cond.fieldLink RX4 15 "DeadTimeLoop$Text" "targets" "[I", Cond.fieldLink RX4 19 "DeadTimeLoop$Text" "wanted" "[I", Cond.fieldLink RX4 22 "DeadTimeLoop$Text" "length" "I", Cond.fieldLink RX4 26 "DeadTimeLoop$Text" "count" "I", Cond.methodLink RX6 32 yX1_init, Cond.instanceMethod yX1_init, Cond.code yX1_init cX1_init 1 none, Cond.methodLink RX1 3 objectInit, Cond.fieldLink RX1 9 "DeadTimeLoop$Loop" "now" "I", Cond.fieldLink RX1 15 "DeadTimeLoop$Loop" "load" "I", Cond.fieldLink RX1 18 "DeadTimeLoop$Loop" "seed" "I", Cond.fieldLink RX1 21 "DeadTimeLoop$Loop" "badTicks" "I", Cond.fieldLink RX1 24 "DeadTimeLoop$Loop" "goodTicks" "I", Cond.fieldLink RX1 27 "DeadTimeLoop$Loop" "present" "[I", Cond.fieldLink RX1 31 "DeadTimeLoop$Loop" "records" "[I", Cond.classLink RX1 34 RX2, Cond.instantiable RX2 5, Cond.initialized RX2, Cond.fieldLink RX1 37 "DeadTimeLoop$Loop" "section" "LDeadTimeLoop$Section;", Cond.classLink RX1 41 RX5, Cond.instantiable RX5 5, Cond.initialized RX5, Cond.fieldLink RX1 44 "DeadTimeLoop$Loop" "watches" "LDeadTimeLoop$Watches;"]
def wsX6_init_r4 : List Cond := [Cond.methodLink RX1 36 yX2_init, Cond.instanceMethod yX2_init, Cond.code yX2_init cX2_init 1 none, Cond.methodLink RX2 1 objectInit, Cond.fieldLink RX2 7 "DeadTimeLoop$Section" "errorSum" "J", Cond.fieldLink RX2 13 "DeadTimeLoop$Section" "effort" "J", Cond.fieldLink RX2 16 "DeadTimeLoop$Section" "overshoot" "I", Cond.fieldLink RX2 20 "DeadTimeLoop$Section" "ticks" "I", Cond.fieldLink RX2 23 "DeadTimeLoop$Section" "upwards" "Z", Cond.methodLink RX1 43 yX5_init, Cond.instanceMethod yX5_init, Cond.code yX5_init cX5_init 1 none, Cond.methodLink RX5 3 objectInit, Cond.fieldLink RX5 9 "DeadTimeLoop$Watches" "signals" "[I", Cond.fieldLink RX5 15 "DeadTimeLoop$Watches" "least" "[I", Cond.fieldLink RX5 18 "DeadTimeLoop$Watches" "greatest" "[I", Cond.fieldLink RX5 21 "DeadTimeLoop$Watches" "greatestTick" "[I", Cond.fieldLink RX5 24 "DeadTimeLoop$Watches" "count" "I"]
def wsX6_init : List Cond := .code yX6_init cX6_init 1 none :: ((wsX6_init_r1 ++ (wsX6_init_r2 ++ (wsX6_init_r3 ++ wsX6_init_r4))) ++ wsX30 ++ wsX60 ++ wsX00 ++ wsX40 ++ wsX10 ++ wsX20 ++ wsX50)
def wsX6_setParameter_r1 : List Cond := [Cond.constant RX6 63 (-2000000001), Cond.fieldLink RX6 12 "DeadTimeLoop" "settings" "LDeadTimeLoop$Settings;", Cond.fieldLink RX6 19 "DeadTimeLoop" "changes" "LDeadTimeLoop$Changes;", Cond.methodLink RX6 59 yX6_allows, Cond.static yX6_allows, Cond.initialized RX6, Cond.code yX6_allows cX6_allows 2 (some .boolean), Cond.fieldLink RX6 244 "DeadTimeLoop" "LEAST" "[I", Cond.fieldLink RX6 247 "DeadTimeLoop" "GREATEST" "[I", Cond.methodLink RX6 76 yX6_isParameter, Cond.static yX6_isParameter, Cond.code yX6_isParameter cX6_isParameter 1 (some .boolean), Cond.methodLink RX6 64 yX3_get, Cond.instanceMethod yX3_get, Cond.selects RX3 yX3_get yX3_get, Cond.initialized RX3, Cond.code yX3_get cX3_get 2 (some .int), Cond.fieldLink RX3 9 "DeadTimeLoop$Settings" "values" "[I", Cond.methodLink RX6 68 yX0_keep, Cond.instanceMethod yX0_keep, Cond.selects RX0 yX0_keep yX0_keep, Cond.initialized RX0, Cond.code yX0_keep cX0_keep 2 none, Cond.fieldLink RX0 16 "DeadTimeLoop$Changes" "count" "I"]
def wsX6_setParameter_r2 : List Cond := [Cond.fieldLink RX0 11 "DeadTimeLoop$Changes" "rows" "[[I", Cond.methodLink RX0 29 arraycopyName, Cond.native arraycopyName, Cond.static arraycopyName, Cond.initialized "java/lang/System", Cond.methodLink RX0 20 yX0_forgetOldest, Cond.instanceMethod yX0_forgetOldest, Cond.selects RX0 yX0_forgetOldest yX0_forgetOldest, Cond.code yX0_forgetOldest cX0_forgetOldest 2 none, Cond.methodLink RX6 72 yX3_set, Cond.instanceMethod yX3_set, Cond.selects RX3 yX3_set yX3_set, Cond.code yX3_set cX3_set 3 none]
def wsX6_setParameter : List Cond := .code yX6_setParameter cX6_setParameter 4 (some .int) :: ((wsX6_setParameter_r1 ++ wsX6_setParameter_r2) ++ wsX60 ++ wsX30 ++ wsX00)
def wsX6_parameter : List Cond := .code yX6_parameter cX6_parameter 2 (some .int) :: ([.fieldLink RX6 12 "DeadTimeLoop" "settings" "LDeadTimeLoop$Settings;", .constant RX6 63 (-2000000001), .methodLink RX6 76 yX6_isParameter, .static yX6_isParameter, .initialized RX6, .code yX6_isParameter cX6_isParameter 1 (some .boolean), .methodLink RX6 64 yX3_get, .instanceMethod yX3_get, .selects RX3 yX3_get yX3_get, .initialized RX3, .code yX3_get cX3_get 2 (some .int), .fieldLink RX3 9 "DeadTimeLoop$Settings" "values" "[I"] ++ wsX60 ++ wsX30)
def wsX6_nameAt_r1 : List Cond := [Cond.constant RX6 63 (-2000000001), Cond.constant RX6 94 (-2000000004), Cond.methodLink RX6 76 yX6_isParameter, Cond.static yX6_isParameter, Cond.initialized RX6, Cond.code yX6_isParameter cX6_isParameter 1 (some .boolean), Cond.methodLink RX6 80 yX6_nameOf, Cond.static yX6_nameOf, Cond.code yX6_nameOf cX6_nameOf 1 (some (.object "java/lang/String")), Cond.methodLink RX6 84 yJ0_length_8abf5, Cond.instanceMethod yJ0_length_8abf5, Cond.selects RJ0 yJ0_length_8abf5 yJ0_length_8abf5, Cond.initialized RJ0, Cond.code yJ0_length_8abf5 cJ0_length_8abf5 1 (some .int), Cond.fieldLink RJ0 9 "java/lang/String" "value" "[B", Cond.methodLink RJ0 335 yJ0_coder_7d493, Cond.instanceMethod yJ0_coder_7d493, Cond.selects RJ0 yJ0_coder_7d493 yJ0_coder_7d493, Cond.code yJ0_coder_7d493 cJ0_coder_7d493 1 (some .byte), Cond.fieldLink RJ0 38 "java/lang/String" "COMPACT_STRINGS" "Z", Cond.fieldLink RJ0 15 "java/lang/String" "coder" "B", Cond.methodLink RX6 90 yJ0_charAt_5068e, Cond.instanceMethod yJ0_charAt_5068e, Cond.selects RJ0 yJ0_charAt_5068e yJ0_charAt_5068e]
def wsX6_nameAt_r2 : List Cond := [Cond.code yJ0_charAt_5068e cJ0_charAt_5068e 2 (some .char), Cond.methodLink RJ0 492 yJ0_isLatin1_aae02, Cond.instanceMethod yJ0_isLatin1_aae02, Cond.selects RJ0 yJ0_isLatin1_aae02 yJ0_isLatin1_aae02, Cond.code yJ0_isLatin1_aae02 cJ0_isLatin1_aae02 1 (some .boolean), Cond.methodLink RJ0 495 yJ1_charAt_3b067, Cond.static yJ1_charAt_3b067, Cond.initialized RJ1, Cond.code yJ1_charAt_3b067 cJ1_charAt_3b067 2 (some .char), Cond.methodLink RJ1 9 yJ0_checkIndex_df160, Cond.static yJ0_checkIndex_df160, Cond.code yJ0_checkIndex_df160 cJ0_checkIndex_df160 2 none, Cond.fieldLink RJ0 1053 "jdk/internal/util/Preconditions" "SIOOBE_FORMATTER" "Ljava/util/function/BiFunction;", Cond.methodLink RJ0 1059 yJ3_checkIndex_8e157, Cond.static yJ3_checkIndex_8e157, Cond.initialized RJ3, Cond.code yJ3_checkIndex_8e157 cJ3_checkIndex_8e157 3 (some .int), Cond.methodLink RJ0 498 yJ2_charAt_3b067, Cond.static yJ2_charAt_3b067, Cond.initialized RJ2, Cond.code yJ2_charAt_3b067 cJ2_charAt_3b067 2 (some .char), Cond.methodLink RJ2 67 yJ2_checkIndex_2214a, Cond.static yJ2_checkIndex_2214a, Cond.code yJ2_checkIndex_2214a cJ2_checkIndex_2214a 2 none]
def wsX6_nameAt_r3 : List Cond := [Cond.methodLink RJ2 48 yJ2_length_9d52b, Cond.static yJ2_length_9d52b, Cond.code yJ2_length_9d52b cJ2_length_9d52b 1 (some .int), Cond.methodLink RJ2 414 yJ0_checkIndex_df160, Cond.methodLink RJ2 71 yJ2_getChar_3b067, Cond.static yJ2_getChar_3b067, Cond.code yJ2_getChar_3b067 cJ2_getChar_3b067 2 (some .char), Cond.fieldLink RJ2 44 "java/lang/StringUTF16" "$assertionsDisabled" "Z", Cond.fieldLink RJ2 59 "java/lang/StringUTF16" "HI_BYTE_SHIFT" "I", Cond.fieldLink RJ2 63 "java/lang/StringUTF16" "LO_BYTE_SHIFT" "I"]
def wsX6_nameAt : List Cond := .code yX6_nameAt cX6_nameAt 4 (some .int) :: ((wsX6_nameAt_r1 ++ (wsX6_nameAt_r2 ++ wsX6_nameAt_r3)))
def wsX6_undo : List Cond := .code yX6_undo cX6_undo 1 (some .int) :: ([.fieldLink RX6 19 "DeadTimeLoop" "changes" "LDeadTimeLoop$Changes;", .fieldLink RX6 95 "DeadTimeLoop$Changes" "count" "I", .constant RX6 98 (-2000000002), .fieldLink RX6 12 "DeadTimeLoop" "settings" "LDeadTimeLoop$Settings;", .methodLink RX6 99 yX0_takeBack, .instanceMethod yX0_takeBack, .selects RX0 yX0_takeBack yX0_takeBack, .initialized RX0, .code yX0_takeBack cX0_takeBack 2 none, .fieldLink RX0 16 "DeadTimeLoop$Changes" "count" "I", .fieldLink RX0 11 "DeadTimeLoop$Changes" "rows" "[[I", .methodLink RX0 29 arraycopyName, .native arraycopyName, .static arraycopyName, .initialized "java/lang/System"] ++ wsX60 ++ wsX00 ++ wsX30)
def wsX6_isLevel : List Cond := .code yX6_isLevel cX6_isLevel 1 (some .boolean) :: ([.constant RX6 243 (-100000), .constant RX6 134 (100000)])
def wsX6_setSetpoint_r1 : List Cond := [Cond.fieldLink RX6 33 "DeadTimeLoop" "loop" "LDeadTimeLoop$Loop;", Cond.constant RX6 63 (-2000000001), Cond.methodLink RX6 102 yX6_isLevel, Cond.static yX6_isLevel, Cond.initialized RX6, Cond.code yX6_isLevel cX6_isLevel 1 (some .boolean), Cond.constant RX6 243 (-100000), Cond.constant RX6 134 (100000), Cond.methodLink RX6 105 yX1_changeSetpoint, Cond.instanceMethod yX1_changeSetpoint, Cond.selects RX1 yX1_changeSetpoint yX1_changeSetpoint, Cond.initialized RX1, Cond.code yX1_changeSetpoint cX1_changeSetpoint 3 (some .int), Cond.fieldLink RX1 27 "DeadTimeLoop$Loop" "present" "[I", Cond.fieldLink RX1 37 "DeadTimeLoop$Loop" "section" "LDeadTimeLoop$Section;", Cond.methodLink RX1 48 yX2_begin, Cond.instanceMethod yX2_begin, Cond.selects RX2 yX2_begin yX2_begin, Cond.initialized RX2, Cond.code yX2_begin cX2_begin 2 none, Cond.fieldLink RX2 7 "DeadTimeLoop$Section" "errorSum" "J", Cond.fieldLink RX2 13 "DeadTimeLoop$Section" "effort" "J", Cond.fieldLink RX2 16 "DeadTimeLoop$Section" "overshoot" "I", Cond.fieldLink RX2 20 "DeadTimeLoop$Section" "ticks" "I"]
def wsX6_setSetpoint_r2 : List Cond := [Cond.fieldLink RX2 23 "DeadTimeLoop$Section" "upwards" "Z"]
def wsX6_setSetpoint : List Cond := .code yX6_setSetpoint cX6_setSetpoint 2 (some .int) :: ((wsX6_setSetpoint_r1 ++ wsX6_setSetpoint_r2) ++ wsX60 ++ wsX10 ++ wsX20)
def wsX6_setLoad : List Cond := .code yX6_setLoad cX6_setLoad 3 (some .int) :: ([.constant RX6 63 (-2000000001), .fieldLink RX6 33 "DeadTimeLoop" "loop" "LDeadTimeLoop$Loop;", .fieldLink RX6 108 "DeadTimeLoop$Loop" "load" "I", .methodLink RX6 102 yX6_isLevel, .static yX6_isLevel, .initialized RX6, .code yX6_isLevel cX6_isLevel 1 (some .boolean), .constant RX6 243 (-100000), .constant RX6 134 (100000)] ++ wsX60 ++ wsX10)
def wsX6_setSeed : List Cond := .code yX6_setSeed cX6_setSeed 3 (some .int) :: ([.constant RX6 63 (-2000000001), .fieldLink RX6 33 "DeadTimeLoop" "loop" "LDeadTimeLoop$Loop;", .fieldLink RX6 111 "DeadTimeLoop$Loop" "seed" "I"] ++ wsX60 ++ wsX10)
def wsX6_type : List Cond := .code yX6_type cX6_type 2 (some .int) :: ([.constant RX6 63 (-2000000001), .fieldLink RX6 26 "DeadTimeLoop" "text" "LDeadTimeLoop$Text;", .fieldLink RX6 118 "DeadTimeLoop$Text" "length" "I", .constant RX6 120 (-2000000003), .methodLink RX6 114 yX4_append, .instanceMethod yX4_append, .selects RX4 yX4_append yX4_append, .initialized RX4, .code yX4_append cX4_append 2 (some .boolean), .fieldLink RX4 22 "DeadTimeLoop$Text" "length" "I", .fieldLink RX4 9 "DeadTimeLoop$Text" "characters" "[C"] ++ wsX60 ++ wsX40)
def wsX6_clearText : List Cond := .code yX6_clearText cX6_clearText 2 (some .int) :: ([.fieldLink RX6 26 "DeadTimeLoop" "text" "LDeadTimeLoop$Text;", .fieldLink RX6 118 "DeadTimeLoop$Text" "length" "I"] ++ wsX60 ++ wsX40)
def wsX6_fault_r1 : List Cond := [Cond.fieldLink RX6 26 "DeadTimeLoop" "text" "LDeadTimeLoop$Text;", Cond.constant RX6 94 (-2000000004), Cond.methodLink RX6 121 yX4_read, Cond.instanceMethod yX4_read, Cond.selects RX4 yX4_read yX4_read, Cond.initialized RX4, Cond.code yX4_read cX4_read 3 (some .int), Cond.fieldLink RX4 26 "DeadTimeLoop$Text" "count" "I", Cond.fieldLink RX4 22 "DeadTimeLoop$Text" "length" "I", Cond.methodLink RX4 29 yX4_readAssignment, Cond.instanceMethod yX4_readAssignment, Cond.selects RX4 yX4_readAssignment yX4_readAssignment, Cond.code yX4_readAssignment cX4_readAssignment 7 (some .int), Cond.methodLink RX4 46 yX4_targetAt, Cond.instanceMethod yX4_targetAt, Cond.selects RX4 yX4_targetAt yX4_targetAt, Cond.code yX4_targetAt cX4_targetAt 4 (some .int), Cond.static yX6_nameOf, Cond.initialized RX6, Cond.code yX6_nameOf cX6_nameOf 1 (some (.object "java/lang/String")), Cond.methodLink RX4 68 yX4_standsAt, Cond.instanceMethod yX4_standsAt, Cond.selects RX4 yX4_standsAt yX4_standsAt, Cond.code yX4_standsAt cX4_standsAt 4 (some .boolean)]
def wsX6_fault_r2 : List Cond := [Cond.methodLink RX4 53 yJ0_length_8abf5, Cond.instanceMethod yJ0_length_8abf5, Cond.selects RJ0 yJ0_length_8abf5 yJ0_length_8abf5, Cond.initialized RJ0, Cond.code yJ0_length_8abf5 cJ0_length_8abf5 1 (some .int), Cond.fieldLink RJ0 9 "java/lang/String" "value" "[B", Cond.methodLink RJ0 335 yJ0_coder_7d493, Cond.instanceMethod yJ0_coder_7d493, Cond.selects RJ0 yJ0_coder_7d493 yJ0_coder_7d493, Cond.code yJ0_coder_7d493 cJ0_coder_7d493 1 (some .byte), Cond.fieldLink RJ0 38 "java/lang/String" "COMPACT_STRINGS" "Z", Cond.fieldLink RJ0 15 "java/lang/String" "coder" "B", Cond.methodLink RX4 43 yX4_characterAt, Cond.instanceMethod yX4_characterAt, Cond.selects RX4 yX4_characterAt yX4_characterAt, Cond.code yX4_characterAt cX4_characterAt 2 (some .int), Cond.fieldLink RX4 9 "DeadTimeLoop$Text" "characters" "[C", Cond.methodLink RX4 72 yJ0_charAt_5068e, Cond.instanceMethod yJ0_charAt_5068e, Cond.selects RJ0 yJ0_charAt_5068e yJ0_charAt_5068e, Cond.code yJ0_charAt_5068e cJ0_charAt_5068e 2 (some .char), Cond.methodLink RJ0 492 yJ0_isLatin1_aae02, Cond.instanceMethod yJ0_isLatin1_aae02, Cond.selects RJ0 yJ0_isLatin1_aae02 yJ0_isLatin1_aae02]
def wsX6_fault_r3 : List Cond := [Cond.code yJ0_isLatin1_aae02 cJ0_isLatin1_aae02 1 (some .boolean), Cond.methodLink RJ0 495 yJ1_charAt_3b067, Cond.static yJ1_charAt_3b067, Cond.initialized RJ1, Cond.code yJ1_charAt_3b067 cJ1_charAt_3b067 2 (some .char), Cond.methodLink RJ1 9 yJ0_checkIndex_df160, Cond.static yJ0_checkIndex_df160, Cond.code yJ0_checkIndex_df160 cJ0_checkIndex_df160 2 none, Cond.fieldLink RJ0 1053 "jdk/internal/util/Preconditions" "SIOOBE_FORMATTER" "Ljava/util/function/BiFunction;", Cond.methodLink RJ0 1059 yJ3_checkIndex_8e157, Cond.static yJ3_checkIndex_8e157, Cond.initialized RJ3, Cond.code yJ3_checkIndex_8e157 cJ3_checkIndex_8e157 3 (some .int), Cond.methodLink RJ0 498 yJ2_charAt_3b067, Cond.static yJ2_charAt_3b067, Cond.initialized RJ2, Cond.code yJ2_charAt_3b067 cJ2_charAt_3b067 2 (some .char), Cond.methodLink RJ2 67 yJ2_checkIndex_2214a, Cond.static yJ2_checkIndex_2214a, Cond.code yJ2_checkIndex_2214a cJ2_checkIndex_2214a 2 none, Cond.methodLink RJ2 48 yJ2_length_9d52b, Cond.static yJ2_length_9d52b, Cond.code yJ2_length_9d52b cJ2_length_9d52b 1 (some .int), Cond.methodLink RJ2 414 yJ0_checkIndex_df160]
def wsX6_fault_r4 : List Cond := [Cond.methodLink RJ2 71 yJ2_getChar_3b067, Cond.static yJ2_getChar_3b067, Cond.code yJ2_getChar_3b067 cJ2_getChar_3b067 2 (some .char), Cond.fieldLink RJ2 44 "java/lang/StringUTF16" "$assertionsDisabled" "Z", Cond.fieldLink RJ2 59 "java/lang/StringUTF16" "HI_BYTE_SHIFT" "I", Cond.fieldLink RJ2 63 "java/lang/StringUTF16" "LO_BYTE_SHIFT" "I", Cond.methodLink RX4 58 yX4_isDigitAt, Cond.instanceMethod yX4_isDigitAt, Cond.selects RX4 yX4_isDigitAt yX4_isDigitAt, Cond.code yX4_isDigitAt cX4_isDigitAt 3 (some .boolean), Cond.methodLink RX4 61 yX4_keep, Cond.instanceMethod yX4_keep, Cond.selects RX4 yX4_keep yX4_keep, Cond.code yX4_keep cX4_keep 3 (some .boolean), Cond.fieldLink RX4 15 "DeadTimeLoop$Text" "targets" "[I", Cond.fieldLink RX4 19 "DeadTimeLoop$Text" "wanted" "[I", Cond.static yX6_allows, Cond.code yX6_allows cX6_allows 2 (some .boolean), Cond.fieldLink RX6 244 "DeadTimeLoop" "LEAST" "[I", Cond.fieldLink RX6 247 "DeadTimeLoop" "GREATEST" "[I", Cond.methodLink RX6 76 yX6_isParameter, Cond.static yX6_isParameter, Cond.code yX6_isParameter cX6_isParameter 1 (some .boolean)]
def wsX6_fault : List Cond := .code yX6_fault cX6_fault 2 (some .int) :: ((wsX6_fault_r1 ++ (wsX6_fault_r2 ++ (wsX6_fault_r3 ++ wsX6_fault_r4))) ++ wsX60 ++ wsX40)
def wsX6_apply_r1 : List Cond := [Cond.fieldLink RX6 26 "DeadTimeLoop" "text" "LDeadTimeLoop$Text;", Cond.fieldLink RX6 124 "DeadTimeLoop$Text" "count" "I", Cond.constant RX6 98 (-2000000002), Cond.fieldLink RX6 19 "DeadTimeLoop" "changes" "LDeadTimeLoop$Changes;", Cond.fieldLink RX6 12 "DeadTimeLoop" "settings" "LDeadTimeLoop$Settings;", Cond.methodLink RX6 121 yX4_read, Cond.instanceMethod yX4_read, Cond.selects RX4 yX4_read yX4_read, Cond.initialized RX4, Cond.code yX4_read cX4_read 3 (some .int), Cond.fieldLink RX4 26 "DeadTimeLoop$Text" "count" "I", Cond.fieldLink RX4 22 "DeadTimeLoop$Text" "length" "I", Cond.methodLink RX4 29 yX4_readAssignment, Cond.instanceMethod yX4_readAssignment, Cond.selects RX4 yX4_readAssignment yX4_readAssignment, Cond.code yX4_readAssignment cX4_readAssignment 7 (some .int), Cond.methodLink RX4 46 yX4_targetAt, Cond.instanceMethod yX4_targetAt, Cond.selects RX4 yX4_targetAt yX4_targetAt, Cond.code yX4_targetAt cX4_targetAt 4 (some .int), Cond.static yX6_nameOf, Cond.initialized RX6, Cond.code yX6_nameOf cX6_nameOf 1 (some (.object "java/lang/String")), Cond.methodLink RX4 68 yX4_standsAt]
def wsX6_apply_r2 : List Cond := [Cond.instanceMethod yX4_standsAt, Cond.selects RX4 yX4_standsAt yX4_standsAt, Cond.code yX4_standsAt cX4_standsAt 4 (some .boolean), Cond.methodLink RX4 53 yJ0_length_8abf5, Cond.instanceMethod yJ0_length_8abf5, Cond.selects RJ0 yJ0_length_8abf5 yJ0_length_8abf5, Cond.initialized RJ0, Cond.code yJ0_length_8abf5 cJ0_length_8abf5 1 (some .int), Cond.fieldLink RJ0 9 "java/lang/String" "value" "[B", Cond.methodLink RJ0 335 yJ0_coder_7d493, Cond.instanceMethod yJ0_coder_7d493, Cond.selects RJ0 yJ0_coder_7d493 yJ0_coder_7d493, Cond.code yJ0_coder_7d493 cJ0_coder_7d493 1 (some .byte), Cond.fieldLink RJ0 38 "java/lang/String" "COMPACT_STRINGS" "Z", Cond.fieldLink RJ0 15 "java/lang/String" "coder" "B", Cond.methodLink RX4 43 yX4_characterAt, Cond.instanceMethod yX4_characterAt, Cond.selects RX4 yX4_characterAt yX4_characterAt, Cond.code yX4_characterAt cX4_characterAt 2 (some .int), Cond.fieldLink RX4 9 "DeadTimeLoop$Text" "characters" "[C", Cond.methodLink RX4 72 yJ0_charAt_5068e, Cond.instanceMethod yJ0_charAt_5068e, Cond.selects RJ0 yJ0_charAt_5068e yJ0_charAt_5068e, Cond.code yJ0_charAt_5068e cJ0_charAt_5068e 2 (some .char)]
def wsX6_apply_r3 : List Cond := [Cond.methodLink RJ0 492 yJ0_isLatin1_aae02, Cond.instanceMethod yJ0_isLatin1_aae02, Cond.selects RJ0 yJ0_isLatin1_aae02 yJ0_isLatin1_aae02, Cond.code yJ0_isLatin1_aae02 cJ0_isLatin1_aae02 1 (some .boolean), Cond.methodLink RJ0 495 yJ1_charAt_3b067, Cond.static yJ1_charAt_3b067, Cond.initialized RJ1, Cond.code yJ1_charAt_3b067 cJ1_charAt_3b067 2 (some .char), Cond.methodLink RJ1 9 yJ0_checkIndex_df160, Cond.static yJ0_checkIndex_df160, Cond.code yJ0_checkIndex_df160 cJ0_checkIndex_df160 2 none, Cond.fieldLink RJ0 1053 "jdk/internal/util/Preconditions" "SIOOBE_FORMATTER" "Ljava/util/function/BiFunction;", Cond.methodLink RJ0 1059 yJ3_checkIndex_8e157, Cond.static yJ3_checkIndex_8e157, Cond.initialized RJ3, Cond.code yJ3_checkIndex_8e157 cJ3_checkIndex_8e157 3 (some .int), Cond.methodLink RJ0 498 yJ2_charAt_3b067, Cond.static yJ2_charAt_3b067, Cond.initialized RJ2, Cond.code yJ2_charAt_3b067 cJ2_charAt_3b067 2 (some .char), Cond.methodLink RJ2 67 yJ2_checkIndex_2214a, Cond.static yJ2_checkIndex_2214a, Cond.code yJ2_checkIndex_2214a cJ2_checkIndex_2214a 2 none, Cond.methodLink RJ2 48 yJ2_length_9d52b]
def wsX6_apply_r4 : List Cond := [Cond.static yJ2_length_9d52b, Cond.code yJ2_length_9d52b cJ2_length_9d52b 1 (some .int), Cond.methodLink RJ2 414 yJ0_checkIndex_df160, Cond.methodLink RJ2 71 yJ2_getChar_3b067, Cond.static yJ2_getChar_3b067, Cond.code yJ2_getChar_3b067 cJ2_getChar_3b067 2 (some .char), Cond.fieldLink RJ2 44 "java/lang/StringUTF16" "$assertionsDisabled" "Z", Cond.fieldLink RJ2 59 "java/lang/StringUTF16" "HI_BYTE_SHIFT" "I", Cond.fieldLink RJ2 63 "java/lang/StringUTF16" "LO_BYTE_SHIFT" "I", Cond.methodLink RX4 58 yX4_isDigitAt, Cond.instanceMethod yX4_isDigitAt, Cond.selects RX4 yX4_isDigitAt yX4_isDigitAt, Cond.code yX4_isDigitAt cX4_isDigitAt 3 (some .boolean), Cond.methodLink RX4 61 yX4_keep, Cond.instanceMethod yX4_keep, Cond.selects RX4 yX4_keep yX4_keep, Cond.code yX4_keep cX4_keep 3 (some .boolean), Cond.fieldLink RX4 15 "DeadTimeLoop$Text" "targets" "[I", Cond.fieldLink RX4 19 "DeadTimeLoop$Text" "wanted" "[I", Cond.static yX6_allows, Cond.code yX6_allows cX6_allows 2 (some .boolean), Cond.fieldLink RX6 244 "DeadTimeLoop" "LEAST" "[I", Cond.fieldLink RX6 247 "DeadTimeLoop" "GREATEST" "[I", Cond.methodLink RX6 76 yX6_isParameter]
def wsX6_apply_r5 : List Cond := [Cond.static yX6_isParameter, Cond.code yX6_isParameter cX6_isParameter 1 (some .boolean), Cond.methodLink RX6 68 yX0_keep, Cond.instanceMethod yX0_keep, Cond.selects RX0 yX0_keep yX0_keep, Cond.initialized RX0, Cond.code yX0_keep cX0_keep 2 none, Cond.fieldLink RX0 16 "DeadTimeLoop$Changes" "count" "I", Cond.fieldLink RX0 11 "DeadTimeLoop$Changes" "rows" "[[I", Cond.methodLink RX0 29 arraycopyName, Cond.native arraycopyName, Cond.static arraycopyName, Cond.initialized "java/lang/System", Cond.methodLink RX0 20 yX0_forgetOldest, Cond.instanceMethod yX0_forgetOldest, Cond.selects RX0 yX0_forgetOldest yX0_forgetOldest, Cond.code yX0_forgetOldest cX0_forgetOldest 2 none, Cond.methodLink RX6 125 yX4_assignTo, Cond.instanceMethod yX4_assignTo, Cond.selects RX4 yX4_assignTo yX4_assignTo, Cond.code yX4_assignTo cX4_assignTo 3 none, Cond.methodLink RX4 33 yX3_set, Cond.instanceMethod yX3_set, Cond.selects RX3 yX3_set yX3_set]
def wsX6_apply_r6 : List Cond := [Cond.initialized RX3, Cond.code yX3_set cX3_set 3 none, Cond.fieldLink RX3 9 "DeadTimeLoop$Settings" "values" "[I"]
def wsX6_apply : List Cond := .code yX6_apply cX6_apply 1 (some .int) :: ((wsX6_apply_r1 ++ (wsX6_apply_r2 ++ (wsX6_apply_r3 ++ (wsX6_apply_r4 ++ (wsX6_apply_r5 ++ wsX6_apply_r6))))) ++ wsX60 ++ wsX40 ++ wsX00 ++ wsX30)
def wsX6_assigned_r1 : List Cond := [Cond.fieldLink RX6 26 "DeadTimeLoop" "text" "LDeadTimeLoop$Text;", Cond.constant RX6 98 (-2000000002), Cond.methodLink RX6 121 yX4_read, Cond.instanceMethod yX4_read, Cond.selects RX4 yX4_read yX4_read, Cond.initialized RX4, Cond.code yX4_read cX4_read 3 (some .int), Cond.fieldLink RX4 26 "DeadTimeLoop$Text" "count" "I", Cond.fieldLink RX4 22 "DeadTimeLoop$Text" "length" "I", Cond.methodLink RX4 29 yX4_readAssignment, Cond.instanceMethod yX4_readAssignment, Cond.selects RX4 yX4_readAssignment yX4_readAssignment, Cond.code yX4_readAssignment cX4_readAssignment 7 (some .int), Cond.methodLink RX4 46 yX4_targetAt, Cond.instanceMethod yX4_targetAt, Cond.selects RX4 yX4_targetAt yX4_targetAt, Cond.code yX4_targetAt cX4_targetAt 4 (some .int), Cond.static yX6_nameOf, Cond.initialized RX6, Cond.code yX6_nameOf cX6_nameOf 1 (some (.object "java/lang/String")), Cond.methodLink RX4 68 yX4_standsAt, Cond.instanceMethod yX4_standsAt, Cond.selects RX4 yX4_standsAt yX4_standsAt, Cond.code yX4_standsAt cX4_standsAt 4 (some .boolean)]
def wsX6_assigned_r2 : List Cond := [Cond.methodLink RX4 53 yJ0_length_8abf5, Cond.instanceMethod yJ0_length_8abf5, Cond.selects RJ0 yJ0_length_8abf5 yJ0_length_8abf5, Cond.initialized RJ0, Cond.code yJ0_length_8abf5 cJ0_length_8abf5 1 (some .int), Cond.fieldLink RJ0 9 "java/lang/String" "value" "[B", Cond.methodLink RJ0 335 yJ0_coder_7d493, Cond.instanceMethod yJ0_coder_7d493, Cond.selects RJ0 yJ0_coder_7d493 yJ0_coder_7d493, Cond.code yJ0_coder_7d493 cJ0_coder_7d493 1 (some .byte), Cond.fieldLink RJ0 38 "java/lang/String" "COMPACT_STRINGS" "Z", Cond.fieldLink RJ0 15 "java/lang/String" "coder" "B", Cond.methodLink RX4 43 yX4_characterAt, Cond.instanceMethod yX4_characterAt, Cond.selects RX4 yX4_characterAt yX4_characterAt, Cond.code yX4_characterAt cX4_characterAt 2 (some .int), Cond.fieldLink RX4 9 "DeadTimeLoop$Text" "characters" "[C", Cond.methodLink RX4 72 yJ0_charAt_5068e, Cond.instanceMethod yJ0_charAt_5068e, Cond.selects RJ0 yJ0_charAt_5068e yJ0_charAt_5068e, Cond.code yJ0_charAt_5068e cJ0_charAt_5068e 2 (some .char), Cond.methodLink RJ0 492 yJ0_isLatin1_aae02, Cond.instanceMethod yJ0_isLatin1_aae02, Cond.selects RJ0 yJ0_isLatin1_aae02 yJ0_isLatin1_aae02]
def wsX6_assigned_r3 : List Cond := [Cond.code yJ0_isLatin1_aae02 cJ0_isLatin1_aae02 1 (some .boolean), Cond.methodLink RJ0 495 yJ1_charAt_3b067, Cond.static yJ1_charAt_3b067, Cond.initialized RJ1, Cond.code yJ1_charAt_3b067 cJ1_charAt_3b067 2 (some .char), Cond.methodLink RJ1 9 yJ0_checkIndex_df160, Cond.static yJ0_checkIndex_df160, Cond.code yJ0_checkIndex_df160 cJ0_checkIndex_df160 2 none, Cond.fieldLink RJ0 1053 "jdk/internal/util/Preconditions" "SIOOBE_FORMATTER" "Ljava/util/function/BiFunction;", Cond.methodLink RJ0 1059 yJ3_checkIndex_8e157, Cond.static yJ3_checkIndex_8e157, Cond.initialized RJ3, Cond.code yJ3_checkIndex_8e157 cJ3_checkIndex_8e157 3 (some .int), Cond.methodLink RJ0 498 yJ2_charAt_3b067, Cond.static yJ2_charAt_3b067, Cond.initialized RJ2, Cond.code yJ2_charAt_3b067 cJ2_charAt_3b067 2 (some .char), Cond.methodLink RJ2 67 yJ2_checkIndex_2214a, Cond.static yJ2_checkIndex_2214a, Cond.code yJ2_checkIndex_2214a cJ2_checkIndex_2214a 2 none, Cond.methodLink RJ2 48 yJ2_length_9d52b, Cond.static yJ2_length_9d52b, Cond.code yJ2_length_9d52b cJ2_length_9d52b 1 (some .int), Cond.methodLink RJ2 414 yJ0_checkIndex_df160]
def wsX6_assigned_r4 : List Cond := [Cond.methodLink RJ2 71 yJ2_getChar_3b067, Cond.static yJ2_getChar_3b067, Cond.code yJ2_getChar_3b067 cJ2_getChar_3b067 2 (some .char), Cond.fieldLink RJ2 44 "java/lang/StringUTF16" "$assertionsDisabled" "Z", Cond.fieldLink RJ2 59 "java/lang/StringUTF16" "HI_BYTE_SHIFT" "I", Cond.fieldLink RJ2 63 "java/lang/StringUTF16" "LO_BYTE_SHIFT" "I", Cond.methodLink RX4 58 yX4_isDigitAt, Cond.instanceMethod yX4_isDigitAt, Cond.selects RX4 yX4_isDigitAt yX4_isDigitAt, Cond.code yX4_isDigitAt cX4_isDigitAt 3 (some .boolean), Cond.methodLink RX4 61 yX4_keep, Cond.instanceMethod yX4_keep, Cond.selects RX4 yX4_keep yX4_keep, Cond.code yX4_keep cX4_keep 3 (some .boolean), Cond.fieldLink RX4 15 "DeadTimeLoop$Text" "targets" "[I", Cond.fieldLink RX4 19 "DeadTimeLoop$Text" "wanted" "[I", Cond.static yX6_allows, Cond.code yX6_allows cX6_allows 2 (some .boolean), Cond.fieldLink RX6 244 "DeadTimeLoop" "LEAST" "[I", Cond.fieldLink RX6 247 "DeadTimeLoop" "GREATEST" "[I", Cond.methodLink RX6 76 yX6_isParameter, Cond.static yX6_isParameter, Cond.code yX6_isParameter cX6_isParameter 1 (some .boolean), Cond.methodLink RX6 128 yX4_different]
def wsX6_assigned_r5 : List Cond := [Cond.instanceMethod yX4_different, Cond.selects RX4 yX4_different yX4_different, Cond.code yX4_different cX4_different 3 (some .int), Cond.methodLink RX4 39 yX4_isFirst, Cond.instanceMethod yX4_isFirst, Cond.selects RX4 yX4_isFirst yX4_isFirst, Cond.code yX4_isFirst cX4_isFirst 3 (some .boolean)]
def wsX6_assigned : List Cond := .code yX6_assigned cX6_assigned 1 (some .int) :: ((wsX6_assigned_r1 ++ (wsX6_assigned_r2 ++ (wsX6_assigned_r3 ++ (wsX6_assigned_r4 ++ wsX6_assigned_r5)))) ++ wsX60 ++ wsX40)
def wsX6_assignedAt_r1 : List Cond := [Cond.constant RX6 63 (-2000000001), Cond.fieldLink RX6 26 "DeadTimeLoop" "text" "LDeadTimeLoop$Text;", Cond.constant RX6 98 (-2000000002), Cond.constant RX6 94 (-2000000004), Cond.methodLink RX6 121 yX4_read, Cond.instanceMethod yX4_read, Cond.selects RX4 yX4_read yX4_read, Cond.initialized RX4, Cond.code yX4_read cX4_read 3 (some .int), Cond.fieldLink RX4 26 "DeadTimeLoop$Text" "count" "I", Cond.fieldLink RX4 22 "DeadTimeLoop$Text" "length" "I", Cond.methodLink RX4 29 yX4_readAssignment, Cond.instanceMethod yX4_readAssignment, Cond.selects RX4 yX4_readAssignment yX4_readAssignment, Cond.code yX4_readAssignment cX4_readAssignment 7 (some .int), Cond.methodLink RX4 46 yX4_targetAt, Cond.instanceMethod yX4_targetAt, Cond.selects RX4 yX4_targetAt yX4_targetAt, Cond.code yX4_targetAt cX4_targetAt 4 (some .int), Cond.static yX6_nameOf, Cond.initialized RX6, Cond.code yX6_nameOf cX6_nameOf 1 (some (.object "java/lang/String")), Cond.methodLink RX4 68 yX4_standsAt, Cond.instanceMethod yX4_standsAt]
def wsX6_assignedAt_r2 : List Cond := [Cond.selects RX4 yX4_standsAt yX4_standsAt, Cond.code yX4_standsAt cX4_standsAt 4 (some .boolean), Cond.methodLink RX4 53 yJ0_length_8abf5, Cond.instanceMethod yJ0_length_8abf5, Cond.selects RJ0 yJ0_length_8abf5 yJ0_length_8abf5, Cond.initialized RJ0, Cond.code yJ0_length_8abf5 cJ0_length_8abf5 1 (some .int), Cond.fieldLink RJ0 9 "java/lang/String" "value" "[B", Cond.methodLink RJ0 335 yJ0_coder_7d493, Cond.instanceMethod yJ0_coder_7d493, Cond.selects RJ0 yJ0_coder_7d493 yJ0_coder_7d493, Cond.code yJ0_coder_7d493 cJ0_coder_7d493 1 (some .byte), Cond.fieldLink RJ0 38 "java/lang/String" "COMPACT_STRINGS" "Z", Cond.fieldLink RJ0 15 "java/lang/String" "coder" "B", Cond.methodLink RX4 43 yX4_characterAt, Cond.instanceMethod yX4_characterAt, Cond.selects RX4 yX4_characterAt yX4_characterAt, Cond.code yX4_characterAt cX4_characterAt 2 (some .int), Cond.fieldLink RX4 9 "DeadTimeLoop$Text" "characters" "[C", Cond.methodLink RX4 72 yJ0_charAt_5068e, Cond.instanceMethod yJ0_charAt_5068e, Cond.selects RJ0 yJ0_charAt_5068e yJ0_charAt_5068e, Cond.code yJ0_charAt_5068e cJ0_charAt_5068e 2 (some .char), Cond.methodLink RJ0 492 yJ0_isLatin1_aae02]
def wsX6_assignedAt_r3 : List Cond := [Cond.instanceMethod yJ0_isLatin1_aae02, Cond.selects RJ0 yJ0_isLatin1_aae02 yJ0_isLatin1_aae02, Cond.code yJ0_isLatin1_aae02 cJ0_isLatin1_aae02 1 (some .boolean), Cond.methodLink RJ0 495 yJ1_charAt_3b067, Cond.static yJ1_charAt_3b067, Cond.initialized RJ1, Cond.code yJ1_charAt_3b067 cJ1_charAt_3b067 2 (some .char), Cond.methodLink RJ1 9 yJ0_checkIndex_df160, Cond.static yJ0_checkIndex_df160, Cond.code yJ0_checkIndex_df160 cJ0_checkIndex_df160 2 none, Cond.fieldLink RJ0 1053 "jdk/internal/util/Preconditions" "SIOOBE_FORMATTER" "Ljava/util/function/BiFunction;", Cond.methodLink RJ0 1059 yJ3_checkIndex_8e157, Cond.static yJ3_checkIndex_8e157, Cond.initialized RJ3, Cond.code yJ3_checkIndex_8e157 cJ3_checkIndex_8e157 3 (some .int), Cond.methodLink RJ0 498 yJ2_charAt_3b067, Cond.static yJ2_charAt_3b067, Cond.initialized RJ2, Cond.code yJ2_charAt_3b067 cJ2_charAt_3b067 2 (some .char), Cond.methodLink RJ2 67 yJ2_checkIndex_2214a, Cond.static yJ2_checkIndex_2214a, Cond.code yJ2_checkIndex_2214a cJ2_checkIndex_2214a 2 none, Cond.methodLink RJ2 48 yJ2_length_9d52b, Cond.static yJ2_length_9d52b]
def wsX6_assignedAt_r4 : List Cond := [Cond.code yJ2_length_9d52b cJ2_length_9d52b 1 (some .int), Cond.methodLink RJ2 414 yJ0_checkIndex_df160, Cond.methodLink RJ2 71 yJ2_getChar_3b067, Cond.static yJ2_getChar_3b067, Cond.code yJ2_getChar_3b067 cJ2_getChar_3b067 2 (some .char), Cond.fieldLink RJ2 44 "java/lang/StringUTF16" "$assertionsDisabled" "Z", Cond.fieldLink RJ2 59 "java/lang/StringUTF16" "HI_BYTE_SHIFT" "I", Cond.fieldLink RJ2 63 "java/lang/StringUTF16" "LO_BYTE_SHIFT" "I", Cond.methodLink RX4 58 yX4_isDigitAt, Cond.instanceMethod yX4_isDigitAt, Cond.selects RX4 yX4_isDigitAt yX4_isDigitAt, Cond.code yX4_isDigitAt cX4_isDigitAt 3 (some .boolean), Cond.methodLink RX4 61 yX4_keep, Cond.instanceMethod yX4_keep, Cond.selects RX4 yX4_keep yX4_keep, Cond.code yX4_keep cX4_keep 3 (some .boolean), Cond.fieldLink RX4 15 "DeadTimeLoop$Text" "targets" "[I", Cond.fieldLink RX4 19 "DeadTimeLoop$Text" "wanted" "[I", Cond.static yX6_allows, Cond.code yX6_allows cX6_allows 2 (some .boolean), Cond.fieldLink RX6 244 "DeadTimeLoop" "LEAST" "[I", Cond.fieldLink RX6 247 "DeadTimeLoop" "GREATEST" "[I", Cond.methodLink RX6 76 yX6_isParameter, Cond.static yX6_isParameter]
def wsX6_assignedAt_r5 : List Cond := [Cond.code yX6_isParameter cX6_isParameter 1 (some .boolean), Cond.methodLink RX6 131 yX4_differentAt, Cond.instanceMethod yX4_differentAt, Cond.selects RX4 yX4_differentAt yX4_differentAt, Cond.code yX4_differentAt cX4_differentAt 4 (some .int), Cond.methodLink RX4 39 yX4_isFirst, Cond.instanceMethod yX4_isFirst, Cond.selects RX4 yX4_isFirst yX4_isFirst, Cond.code yX4_isFirst cX4_isFirst 3 (some .boolean)]
def wsX6_assignedAt : List Cond := .code yX6_assignedAt cX6_assignedAt 3 (some .int) :: ((wsX6_assignedAt_r1 ++ (wsX6_assignedAt_r2 ++ (wsX6_assignedAt_r3 ++ (wsX6_assignedAt_r4 ++ wsX6_assignedAt_r5)))) ++ wsX60 ++ wsX40)
def wsX6_advance_r1 : List Cond := [Cond.fieldLink RX6 12 "DeadTimeLoop" "settings" "LDeadTimeLoop$Settings;", Cond.methodLink RX6 233 yX1_tick, Cond.instanceMethod yX1_tick, Cond.selects RX1 yX1_tick yX1_tick, Cond.initialized RX1, Cond.code yX1_tick cX1_tick 5 none, Cond.fieldLink RX1 27 "DeadTimeLoop$Loop" "present" "[I", Cond.methodLink RX1 101 Lib.Math.abs.name, Cond.static Lib.Math.abs.name, Cond.initialized "java/lang/Math", Cond.code Lib.Math.abs.name Lib.Math.abs.code 1 (some .int), Cond.fieldLink RX1 37 "DeadTimeLoop$Loop" "section" "LDeadTimeLoop$Section;", Cond.fieldLink RX1 44 "DeadTimeLoop$Loop" "watches" "LDeadTimeLoop$Watches;", Cond.fieldLink RX1 9 "DeadTimeLoop$Loop" "now" "I", Cond.methodLink RX1 84 yX3_get, Cond.instanceMethod yX3_get, Cond.selects RX3 yX3_get yX3_get, Cond.initialized RX3, Cond.code yX3_get cX3_get 2 (some .int), Cond.fieldLink RX3 9 "DeadTimeLoop$Settings" "values" "[I", Cond.static yX6_isParameter, Cond.initialized RX6, Cond.code yX6_isParameter cX6_isParameter 1 (some .boolean), Cond.methodLink RX1 90 yX1_noise]
def wsX6_advance_r2 : List Cond := [Cond.instanceMethod yX1_noise, Cond.selects RX1 yX1_noise yX1_noise, Cond.code yX1_noise cX1_noise 6 (some .int), Cond.constantLong RX1 126 (7919), Cond.constantLong RX1 128 (6151), Cond.fieldLink RX1 18 "DeadTimeLoop$Loop" "seed" "I", Cond.constantLong RX1 130 (2), Cond.constantLong RX1 132 (65521), Cond.methodLink RX1 93 yX1_delayed, Cond.instanceMethod yX1_delayed, Cond.selects RX1 yX1_delayed yX1_delayed, Cond.code yX1_delayed cX1_delayed 10 (some .int), Cond.constantLong RX1 134 (10), Cond.methodLink RX1 81 yX1_recordOf, Cond.instanceMethod yX1_recordOf, Cond.selects RX1 yX1_recordOf yX1_recordOf, Cond.code yX1_recordOf cX1_recordOf 3 (some .int), Cond.fieldLink RX1 31 "DeadTimeLoop$Loop" "records" "[I", Cond.static yX6_isSignal, Cond.code yX6_isSignal cX6_isSignal 1 (some .boolean), Cond.methodLink RX1 72 yJ9_floorMod_7cf53, Cond.static yJ9_floorMod_7cf53, Cond.initialized RJ9, Cond.code yJ9_floorMod_7cf53 cJ9_floorMod_7cf53 3 (some .int)]
def wsX6_advance_r3 : List Cond := [Cond.methodLink RX1 136 yJ9_floorDiv_f86c9, Cond.static yJ9_floorDiv_f86c9, Cond.code yJ9_floorDiv_f86c9 cJ9_floorDiv_f86c9 6 (some .long), Cond.static yX6_stepped, Cond.code yX6_stepped cX6_stepped 6 (some .int), Cond.methodLink RX6 286 yX6_thousandth, Cond.static yX6_thousandth, Cond.code yX6_thousandth cX6_thousandth 2 (some .long), Cond.constantLong RX6 280 (1000), Cond.methodLink RX6 282 yJ9_floorDiv_f86c9, Cond.methodLink RX1 104 yX1_judge, Cond.instanceMethod yX1_judge, Cond.selects RX1 yX1_judge yX1_judge, Cond.code yX1_judge cX1_judge 5 none, Cond.fieldLink RX1 21 "DeadTimeLoop$Loop" "badTicks" "I", Cond.fieldLink RX1 24 "DeadTimeLoop$Loop" "goodTicks" "I", Cond.methodLink RX1 108 yX1_control, Cond.instanceMethod yX1_control, Cond.selects RX1 yX1_control yX1_control, Cond.code yX1_control cX1_control 18 none, Cond.methodLink RX1 144 yX1_outputFor, Cond.instanceMethod yX1_outputFor, Cond.selects RX1 yX1_outputFor yX1_outputFor, Cond.code yX1_outputFor cX1_outputFor 8 (some .long)]
def wsX6_advance_r4 : List Cond := [Cond.static yX6_limited, Cond.code yX6_limited cX6_limited 6 (some .long), Cond.methodLink RX6 290 Lib.MathLoose.max_long.x, Cond.static Lib.MathLoose.max_long.x, Cond.code Lib.MathLoose.max_long.x Lib.MathLoose.max_long.code 4 (some .long), Cond.methodLink RX6 292 Lib.MathLoose.min_long.x, Cond.static Lib.MathLoose.min_long.x, Cond.code Lib.MathLoose.min_long.x Lib.MathLoose.min_long.code 4 (some .long), Cond.methodLink RX1 112 yX1_keepRecords, Cond.instanceMethod yX1_keepRecords, Cond.selects RX1 yX1_keepRecords yX1_keepRecords, Cond.code yX1_keepRecords cX1_keepRecords 2 none, Cond.methodLink RX1 115 yX2_see, Cond.instanceMethod yX2_see, Cond.selects RX2 yX2_see yX2_see, Cond.initialized RX2, Cond.code yX2_see cX2_see 4 none, Cond.fieldLink RX2 7 "DeadTimeLoop$Section" "errorSum" "J", Cond.methodLink RX2 27 Lib.Math.abs.name, Cond.fieldLink RX2 13 "DeadTimeLoop$Section" "effort" "J", Cond.fieldLink RX2 16 "DeadTimeLoop$Section" "overshoot" "I", Cond.fieldLink RX2 23 "DeadTimeLoop$Section" "upwards" "Z", Cond.methodLink RX2 33 Lib.Math.max.name, Cond.static Lib.Math.max.name]
def wsX6_advance_r5 : List Cond := [Cond.code Lib.Math.max.name Lib.Math.max.code 2 (some .int), Cond.fieldLink RX2 20 "DeadTimeLoop$Section" "ticks" "I", Cond.methodLink RX1 119 yX5_see, Cond.instanceMethod yX5_see, Cond.selects RX5 yX5_see yX5_see, Cond.initialized RX5, Cond.code yX5_see cX5_see 5 none, Cond.fieldLink RX5 24 "DeadTimeLoop$Watches" "count" "I", Cond.fieldLink RX5 9 "DeadTimeLoop$Watches" "signals" "[I", Cond.methodLink RX5 39 yX5_seeOne, Cond.instanceMethod yX5_seeOne, Cond.selects RX5 yX5_seeOne yX5_seeOne, Cond.code yX5_seeOne cX5_seeOne 5 none, Cond.fieldLink RX5 15 "DeadTimeLoop$Watches" "least" "[I", Cond.fieldLink RX5 18 "DeadTimeLoop$Watches" "greatest" "[I", Cond.fieldLink RX5 21 "DeadTimeLoop$Watches" "greatestTick" "[I", Cond.methodLink RX5 43 yX5_hasSeen, Cond.instanceMethod yX5_hasSeen, Cond.selects RX5 yX5_hasSeen yX5_hasSeen, Cond.code yX5_hasSeen cX5_hasSeen 2 (some .boolean), Cond.methodLink RX1 122 yX1_moveOn, Cond.instanceMethod yX1_moveOn, Cond.selects RX1 yX1_moveOn yX1_moveOn, Cond.code yX1_moveOn cX1_moveOn 8 none]
def wsX6_advance_r6 : List Cond := [Cond.fieldLink RX1 15 "DeadTimeLoop$Loop" "load" "I"]
def wsX6_advance : List Cond := .code yX6_advance cX6_advance 4 none :: ((wsX6_advance_r1 ++ (wsX6_advance_r2 ++ (wsX6_advance_r3 ++ (wsX6_advance_r4 ++ (wsX6_advance_r5 ++ wsX6_advance_r6))))) ++ wsX60 ++ wsX10 ++ wsX30 ++ wsX20 ++ wsX50)
def wsX6_run_r1 : List Cond := [Cond.constant RX6 63 (-2000000001), Cond.constant RX6 134 (100000), Cond.fieldLink RX6 33 "DeadTimeLoop" "loop" "LDeadTimeLoop$Loop;", Cond.fieldLink RX6 135 "DeadTimeLoop$Loop" "now" "I", Cond.constant RX6 120 (-2000000003), Cond.methodLink RX6 138 yX6_advance, Cond.instanceMethod yX6_advance, Cond.selects RX6 yX6_advance yX6_advance, Cond.initialized RX6, Cond.code yX6_advance cX6_advance 4 none, Cond.fieldLink RX6 12 "DeadTimeLoop" "settings" "LDeadTimeLoop$Settings;", Cond.methodLink RX6 233 yX1_tick, Cond.instanceMethod yX1_tick, Cond.selects RX1 yX1_tick yX1_tick, Cond.initialized RX1, Cond.code yX1_tick cX1_tick 5 none, Cond.fieldLink RX1 27 "DeadTimeLoop$Loop" "present" "[I", Cond.methodLink RX1 101 Lib.Math.abs.name, Cond.static Lib.Math.abs.name, Cond.initialized "java/lang/Math", Cond.code Lib.Math.abs.name Lib.Math.abs.code 1 (some .int), Cond.fieldLink RX1 37 "DeadTimeLoop$Loop" "section" "LDeadTimeLoop$Section;", Cond.fieldLink RX1 44 "DeadTimeLoop$Loop" "watches" "LDeadTimeLoop$Watches;", Cond.fieldLink RX1 9 "DeadTimeLoop$Loop" "now" "I"]
def wsX6_run_r2 : List Cond := [Cond.methodLink RX1 84 yX3_get, Cond.instanceMethod yX3_get, Cond.selects RX3 yX3_get yX3_get, Cond.initialized RX3, Cond.code yX3_get cX3_get 2 (some .int), Cond.fieldLink RX3 9 "DeadTimeLoop$Settings" "values" "[I", Cond.static yX6_isParameter, Cond.code yX6_isParameter cX6_isParameter 1 (some .boolean), Cond.methodLink RX1 90 yX1_noise, Cond.instanceMethod yX1_noise, Cond.selects RX1 yX1_noise yX1_noise, Cond.code yX1_noise cX1_noise 6 (some .int), Cond.constantLong RX1 126 (7919), Cond.constantLong RX1 128 (6151), Cond.fieldLink RX1 18 "DeadTimeLoop$Loop" "seed" "I", Cond.constantLong RX1 130 (2), Cond.constantLong RX1 132 (65521), Cond.methodLink RX1 93 yX1_delayed, Cond.instanceMethod yX1_delayed, Cond.selects RX1 yX1_delayed yX1_delayed, Cond.code yX1_delayed cX1_delayed 10 (some .int), Cond.constantLong RX1 134 (10), Cond.methodLink RX1 81 yX1_recordOf, Cond.instanceMethod yX1_recordOf]
def wsX6_run_r3 : List Cond := [Cond.selects RX1 yX1_recordOf yX1_recordOf, Cond.code yX1_recordOf cX1_recordOf 3 (some .int), Cond.fieldLink RX1 31 "DeadTimeLoop$Loop" "records" "[I", Cond.static yX6_isSignal, Cond.code yX6_isSignal cX6_isSignal 1 (some .boolean), Cond.methodLink RX1 72 yJ9_floorMod_7cf53, Cond.static yJ9_floorMod_7cf53, Cond.initialized RJ9, Cond.code yJ9_floorMod_7cf53 cJ9_floorMod_7cf53 3 (some .int), Cond.methodLink RX1 136 yJ9_floorDiv_f86c9, Cond.static yJ9_floorDiv_f86c9, Cond.code yJ9_floorDiv_f86c9 cJ9_floorDiv_f86c9 6 (some .long), Cond.static yX6_stepped, Cond.code yX6_stepped cX6_stepped 6 (some .int), Cond.methodLink RX6 286 yX6_thousandth, Cond.static yX6_thousandth, Cond.code yX6_thousandth cX6_thousandth 2 (some .long), Cond.constantLong RX6 280 (1000), Cond.methodLink RX6 282 yJ9_floorDiv_f86c9, Cond.methodLink RX1 104 yX1_judge, Cond.instanceMethod yX1_judge, Cond.selects RX1 yX1_judge yX1_judge, Cond.code yX1_judge cX1_judge 5 none, Cond.fieldLink RX1 21 "DeadTimeLoop$Loop" "badTicks" "I"]
def wsX6_run_r4 : List Cond := [Cond.fieldLink RX1 24 "DeadTimeLoop$Loop" "goodTicks" "I", Cond.methodLink RX1 108 yX1_control, Cond.instanceMethod yX1_control, Cond.selects RX1 yX1_control yX1_control, Cond.code yX1_control cX1_control 18 none, Cond.methodLink RX1 144 yX1_outputFor, Cond.instanceMethod yX1_outputFor, Cond.selects RX1 yX1_outputFor yX1_outputFor, Cond.code yX1_outputFor cX1_outputFor 8 (some .long), Cond.static yX6_limited, Cond.code yX6_limited cX6_limited 6 (some .long), Cond.methodLink RX6 290 Lib.MathLoose.max_long.x, Cond.static Lib.MathLoose.max_long.x, Cond.code Lib.MathLoose.max_long.x Lib.MathLoose.max_long.code 4 (some .long), Cond.methodLink RX6 292 Lib.MathLoose.min_long.x, Cond.static Lib.MathLoose.min_long.x, Cond.code Lib.MathLoose.min_long.x Lib.MathLoose.min_long.code 4 (some .long), Cond.methodLink RX1 112 yX1_keepRecords, Cond.instanceMethod yX1_keepRecords, Cond.selects RX1 yX1_keepRecords yX1_keepRecords, Cond.code yX1_keepRecords cX1_keepRecords 2 none, Cond.methodLink RX1 115 yX2_see, Cond.instanceMethod yX2_see, Cond.selects RX2 yX2_see yX2_see]
def wsX6_run_r5 : List Cond := [Cond.initialized RX2, Cond.code yX2_see cX2_see 4 none, Cond.fieldLink RX2 7 "DeadTimeLoop$Section" "errorSum" "J", Cond.methodLink RX2 27 Lib.Math.abs.name, Cond.fieldLink RX2 13 "DeadTimeLoop$Section" "effort" "J", Cond.fieldLink RX2 16 "DeadTimeLoop$Section" "overshoot" "I", Cond.fieldLink RX2 23 "DeadTimeLoop$Section" "upwards" "Z", Cond.methodLink RX2 33 Lib.Math.max.name, Cond.static Lib.Math.max.name, Cond.code Lib.Math.max.name Lib.Math.max.code 2 (some .int), Cond.fieldLink RX2 20 "DeadTimeLoop$Section" "ticks" "I", Cond.methodLink RX1 119 yX5_see, Cond.instanceMethod yX5_see, Cond.selects RX5 yX5_see yX5_see, Cond.initialized RX5, Cond.code yX5_see cX5_see 5 none, Cond.fieldLink RX5 24 "DeadTimeLoop$Watches" "count" "I", Cond.fieldLink RX5 9 "DeadTimeLoop$Watches" "signals" "[I", Cond.methodLink RX5 39 yX5_seeOne, Cond.instanceMethod yX5_seeOne, Cond.selects RX5 yX5_seeOne yX5_seeOne, Cond.code yX5_seeOne cX5_seeOne 5 none, Cond.fieldLink RX5 15 "DeadTimeLoop$Watches" "least" "[I", Cond.fieldLink RX5 18 "DeadTimeLoop$Watches" "greatest" "[I"]
def wsX6_run_r6 : List Cond := [Cond.fieldLink RX5 21 "DeadTimeLoop$Watches" "greatestTick" "[I", Cond.methodLink RX5 43 yX5_hasSeen, Cond.instanceMethod yX5_hasSeen, Cond.selects RX5 yX5_hasSeen yX5_hasSeen, Cond.code yX5_hasSeen cX5_hasSeen 2 (some .boolean), Cond.methodLink RX1 122 yX1_moveOn, Cond.instanceMethod yX1_moveOn, Cond.selects RX1 yX1_moveOn yX1_moveOn, Cond.code yX1_moveOn cX1_moveOn 8 none, Cond.fieldLink RX1 15 "DeadTimeLoop$Loop" "load" "I"]
def wsX6_run : List Cond := .code yX6_run cX6_run 2 (some .int) :: ((wsX6_run_r1 ++ (wsX6_run_r2 ++ (wsX6_run_r3 ++ (wsX6_run_r4 ++ (wsX6_run_r5 ++ wsX6_run_r6))))) ++ wsX60 ++ wsX10 ++ wsX30 ++ wsX20 ++ wsX50)
def wsX6_time : List Cond := .code yX6_time cX6_time 1 (some .int) :: ([.fieldLink RX6 33 "DeadTimeLoop" "loop" "LDeadTimeLoop$Loop;", .fieldLink RX6 135 "DeadTimeLoop$Loop" "now" "I"] ++ wsX60 ++ wsX10)
def wsX6_value : List Cond := .code yX6_value cX6_value 2 (some .int) :: ([.fieldLink RX6 33 "DeadTimeLoop" "loop" "LDeadTimeLoop$Loop;", .fieldLink RX6 145 "DeadTimeLoop$Loop" "present" "[I", .constant RX6 63 (-2000000001), .methodLink RX6 142 yX6_isSignal, .static yX6_isSignal, .initialized RX6, .code yX6_isSignal cX6_isSignal 1 (some .boolean)] ++ wsX60 ++ wsX10)
def wsX6_recorded : List Cond := .code yX6_recorded cX6_recorded 3 (some .int) :: ([.constant RX6 63 (-2000000001), .fieldLink RX6 33 "DeadTimeLoop" "loop" "LDeadTimeLoop$Loop;", .fieldLink RX6 135 "DeadTimeLoop$Loop" "now" "I", .constant RX6 94 (-2000000004), .methodLink RX6 142 yX6_isSignal, .static yX6_isSignal, .initialized RX6, .code yX6_isSignal cX6_isSignal 1 (some .boolean), .methodLink RX6 149 yX1_recordOf, .instanceMethod yX1_recordOf, .selects RX1 yX1_recordOf yX1_recordOf, .initialized RX1, .code yX1_recordOf cX1_recordOf 3 (some .int), .fieldLink RX1 9 "DeadTimeLoop$Loop" "now" "I", .fieldLink RX1 31 "DeadTimeLoop$Loop" "records" "[I", .methodLink RX1 72 yJ9_floorMod_7cf53, .static yJ9_floorMod_7cf53, .initialized RJ9, .code yJ9_floorMod_7cf53 cJ9_floorMod_7cf53 3 (some .int)] ++ wsX60 ++ wsX10)
def wsX6_restart_r1 : List Cond := [Cond.fieldLink RX6 33 "DeadTimeLoop" "loop" "LDeadTimeLoop$Loop;", Cond.fieldLink RX6 135 "DeadTimeLoop$Loop" "now" "I", Cond.fieldLink RX6 43 "DeadTimeLoop" "storedStates" "I", Cond.methodLink RX6 153 yX1_begin, Cond.instanceMethod yX1_begin, Cond.selects RX1 yX1_begin yX1_begin, Cond.initialized RX1, Cond.code yX1_begin cX1_begin 2 none, Cond.fieldLink RX1 9 "DeadTimeLoop$Loop" "now" "I", Cond.fieldLink RX1 15 "DeadTimeLoop$Loop" "load" "I", Cond.fieldLink RX1 18 "DeadTimeLoop$Loop" "seed" "I", Cond.fieldLink RX1 21 "DeadTimeLoop$Loop" "badTicks" "I", Cond.fieldLink RX1 24 "DeadTimeLoop$Loop" "goodTicks" "I", Cond.fieldLink RX1 27 "DeadTimeLoop$Loop" "present" "[I", Cond.fieldLink RX1 37 "DeadTimeLoop$Loop" "section" "LDeadTimeLoop$Section;", Cond.fieldLink RX1 44 "DeadTimeLoop$Loop" "watches" "LDeadTimeLoop$Watches;", Cond.fieldLink RX1 52 "DeadTimeLoop$Watches" "count" "I", Cond.methodLink RX1 48 yX2_begin, Cond.instanceMethod yX2_begin, Cond.selects RX2 yX2_begin yX2_begin, Cond.initialized RX2, Cond.code yX2_begin cX2_begin 2 none, Cond.fieldLink RX2 7 "DeadTimeLoop$Section" "errorSum" "J", Cond.fieldLink RX2 13 "DeadTimeLoop$Section" "effort" "J"]
def wsX6_restart_r2 : List Cond := [Cond.fieldLink RX2 16 "DeadTimeLoop$Section" "overshoot" "I", Cond.fieldLink RX2 20 "DeadTimeLoop$Section" "ticks" "I", Cond.fieldLink RX2 23 "DeadTimeLoop$Section" "upwards" "Z"]
def wsX6_restart : List Cond := .code yX6_restart cX6_restart 2 (some .int) :: ((wsX6_restart_r1 ++ wsX6_restart_r2) ++ wsX60 ++ wsX10 ++ wsX50 ++ wsX20)
def wsX6_watch : List Cond := .code yX6_watch cX6_watch 2 (some .int) :: ([.constant RX6 63 (-2000000001), .fieldLink RX6 33 "DeadTimeLoop" "loop" "LDeadTimeLoop$Loop;", .fieldLink RX6 156 "DeadTimeLoop$Loop" "watches" "LDeadTimeLoop$Watches;", .fieldLink RX6 165 "DeadTimeLoop$Watches" "count" "I", .constant RX6 120 (-2000000003), .methodLink RX6 142 yX6_isSignal, .static yX6_isSignal, .initialized RX6, .code yX6_isSignal cX6_isSignal 1 (some .boolean), .methodLink RX6 160 yX5_add, .instanceMethod yX5_add, .selects RX5 yX5_add yX5_add, .initialized RX5, .code yX5_add cX5_add 3 (some .boolean), .fieldLink RX5 24 "DeadTimeLoop$Watches" "count" "I", .fieldLink RX5 9 "DeadTimeLoop$Watches" "signals" "[I", .fieldLink RX5 21 "DeadTimeLoop$Watches" "greatestTick" "[I", .methodLink RX5 34 yX5_placeOf, .instanceMethod yX5_placeOf, .selects RX5 yX5_placeOf yX5_placeOf, .code yX5_placeOf cX5_placeOf 3 (some .int)] ++ wsX60 ++ wsX10 ++ wsX50)
def wsX6_unwatch : List Cond := .code yX6_unwatch cX6_unwatch 2 (some .int) :: ([.constant RX6 63 (-2000000001), .fieldLink RX6 33 "DeadTimeLoop" "loop" "LDeadTimeLoop$Loop;", .fieldLink RX6 156 "DeadTimeLoop$Loop" "watches" "LDeadTimeLoop$Watches;", .fieldLink RX6 165 "DeadTimeLoop$Watches" "count" "I", .constant RX6 94 (-2000000004), .methodLink RX6 142 yX6_isSignal, .static yX6_isSignal, .initialized RX6, .code yX6_isSignal cX6_isSignal 1 (some .boolean), .methodLink RX6 166 yX5_remove, .instanceMethod yX5_remove, .selects RX5 yX5_remove yX5_remove, .initialized RX5, .code yX5_remove cX5_remove 4 (some .boolean), .fieldLink RX5 24 "DeadTimeLoop$Watches" "count" "I", .fieldLink RX5 9 "DeadTimeLoop$Watches" "signals" "[I", .fieldLink RX5 15 "DeadTimeLoop$Watches" "least" "[I", .fieldLink RX5 18 "DeadTimeLoop$Watches" "greatest" "[I", .fieldLink RX5 21 "DeadTimeLoop$Watches" "greatestTick" "[I", .methodLink RX5 34 yX5_placeOf, .instanceMethod yX5_placeOf, .selects RX5 yX5_placeOf yX5_placeOf, .code yX5_placeOf cX5_placeOf 3 (some .int)] ++ wsX60 ++ wsX10 ++ wsX50)
def wsX6_watchedAt : List Cond := .code yX6_watchedAt cX6_watchedAt 2 (some .int) :: ([.constant RX6 63 (-2000000001), .fieldLink RX6 33 "DeadTimeLoop" "loop" "LDeadTimeLoop$Loop;", .fieldLink RX6 156 "DeadTimeLoop$Loop" "watches" "LDeadTimeLoop$Watches;", .fieldLink RX6 165 "DeadTimeLoop$Watches" "count" "I", .fieldLink RX6 169 "DeadTimeLoop$Watches" "signals" "[I", .constant RX6 94 (-2000000004)] ++ wsX60 ++ wsX10 ++ wsX50)
def wsX6_extreme_r1 : List Cond := [Cond.constant RX6 63 (-2000000001), Cond.fieldLink RX6 33 "DeadTimeLoop" "loop" "LDeadTimeLoop$Loop;", Cond.fieldLink RX6 156 "DeadTimeLoop$Loop" "watches" "LDeadTimeLoop$Watches;", Cond.constant RX6 98 (-2000000002), Cond.constant RX6 94 (-2000000004), Cond.methodLink RX6 142 yX6_isSignal, Cond.static yX6_isSignal, Cond.initialized RX6, Cond.code yX6_isSignal cX6_isSignal 1 (some .boolean), Cond.methodLink RX6 172 yX5_placeOf, Cond.instanceMethod yX5_placeOf, Cond.selects RX5 yX5_placeOf yX5_placeOf, Cond.initialized RX5, Cond.code yX5_placeOf cX5_placeOf 3 (some .int), Cond.fieldLink RX5 24 "DeadTimeLoop$Watches" "count" "I", Cond.fieldLink RX5 9 "DeadTimeLoop$Watches" "signals" "[I", Cond.methodLink RX6 175 yX5_hasSeen, Cond.instanceMethod yX5_hasSeen, Cond.selects RX5 yX5_hasSeen yX5_hasSeen, Cond.code yX5_hasSeen cX5_hasSeen 2 (some .boolean), Cond.fieldLink RX5 21 "DeadTimeLoop$Watches" "greatestTick" "[I", Cond.methodLink RX6 178 yX5_get, Cond.instanceMethod yX5_get, Cond.selects RX5 yX5_get yX5_get]
def wsX6_extreme_r2 : List Cond := [Cond.code yX5_get cX5_get 3 (some .int), Cond.constant RX5 38 (-2000000004), Cond.fieldLink RX5 15 "DeadTimeLoop$Watches" "least" "[I", Cond.fieldLink RX5 18 "DeadTimeLoop$Watches" "greatest" "[I"]
def wsX6_extreme : List Cond := .code yX6_extreme cX6_extreme 4 (some .int) :: ((wsX6_extreme_r1 ++ wsX6_extreme_r2) ++ wsX60 ++ wsX10 ++ wsX50)
def wsX6_measure : List Cond := .code yX6_measure cX6_measure 2 (some .long) :: ([.fieldLink RX6 33 "DeadTimeLoop" "loop" "LDeadTimeLoop$Loop;", .fieldLink RX6 180 "DeadTimeLoop$Loop" "section" "LDeadTimeLoop$Section;", .fieldLink RX6 184 "DeadTimeLoop$Section" "errorSum" "J", .fieldLink RX6 190 "DeadTimeLoop$Section" "effort" "J", .fieldLink RX6 193 "DeadTimeLoop$Section" "overshoot" "I", .fieldLink RX6 196 "DeadTimeLoop$Section" "ticks" "I", .constantLong RX6 199 (-2000000001)] ++ wsX60 ++ wsX10 ++ wsX20)
def wsX6_settledTicks_r1 : List Cond := [Cond.constant RX6 134 (100000), Cond.constant RX6 63 (-2000000001), Cond.fieldLink RX6 33 "DeadTimeLoop" "loop" "LDeadTimeLoop$Loop;", Cond.fieldLink RX6 180 "DeadTimeLoop$Loop" "section" "LDeadTimeLoop$Section;", Cond.fieldLink RX6 196 "DeadTimeLoop$Section" "ticks" "I", Cond.methodLink RX6 201 Lib.Math.min.name, Cond.static Lib.Math.min.name, Cond.initialized "java/lang/Math", Cond.code Lib.Math.min.name Lib.Math.min.code 2 (some .int), Cond.fieldLink RX6 135 "DeadTimeLoop$Loop" "now" "I", Cond.methodLink RX6 206 Lib.Math.abs.name, Cond.static Lib.Math.abs.name, Cond.code Lib.Math.abs.name Lib.Math.abs.code 1 (some .int), Cond.methodLink RX6 149 yX1_recordOf, Cond.instanceMethod yX1_recordOf, Cond.selects RX1 yX1_recordOf yX1_recordOf, Cond.initialized RX1, Cond.code yX1_recordOf cX1_recordOf 3 (some .int), Cond.fieldLink RX1 9 "DeadTimeLoop$Loop" "now" "I", Cond.fieldLink RX1 31 "DeadTimeLoop$Loop" "records" "[I", Cond.static yX6_isSignal, Cond.initialized RX6, Cond.code yX6_isSignal cX6_isSignal 1 (some .boolean), Cond.methodLink RX1 72 yJ9_floorMod_7cf53]
def wsX6_settledTicks_r2 : List Cond := [Cond.static yJ9_floorMod_7cf53, Cond.initialized RJ9, Cond.code yJ9_floorMod_7cf53 cJ9_floorMod_7cf53 3 (some .int)]
def wsX6_settledTicks : List Cond := .code yX6_settledTicks cX6_settledTicks 5 (some .int) :: ((wsX6_settledTicks_r1 ++ wsX6_settledTicks_r2) ++ wsX60 ++ wsX10 ++ wsX20)
def wsX6_storedAt : List Cond := .code yX6_storedAt cX6_storedAt 2 (some (.object "DeadTimeLoop$Loop")) :: ([.fieldLink RX6 37 "DeadTimeLoop" "firstStored" "LDeadTimeLoop$Loop;", .fieldLink RX6 40 "DeadTimeLoop" "secondStored" "LDeadTimeLoop$Loop;"] ++ wsX60)
def wsX6_store_r1 : List Cond := [Cond.fieldLink RX6 43 "DeadTimeLoop" "storedStates" "I", Cond.constant RX6 120 (-2000000003), Cond.fieldLink RX6 33 "DeadTimeLoop" "loop" "LDeadTimeLoop$Loop;", Cond.methodLink RX6 209 yX6_storedAt, Cond.instanceMethod yX6_storedAt, Cond.selects RX6 yX6_storedAt yX6_storedAt, Cond.initialized RX6, Cond.code yX6_storedAt cX6_storedAt 2 (some (.object "DeadTimeLoop$Loop")), Cond.fieldLink RX6 37 "DeadTimeLoop" "firstStored" "LDeadTimeLoop$Loop;", Cond.fieldLink RX6 40 "DeadTimeLoop" "secondStored" "LDeadTimeLoop$Loop;", Cond.methodLink RX6 213 yX1_copy, Cond.instanceMethod yX1_copy, Cond.selects RX1 yX1_copy yX1_copy, Cond.initialized RX1, Cond.code yX1_copy cX1_copy 2 none, Cond.fieldLink RX1 9 "DeadTimeLoop$Loop" "now" "I", Cond.fieldLink RX1 15 "DeadTimeLoop$Loop" "load" "I", Cond.fieldLink RX1 18 "DeadTimeLoop$Loop" "seed" "I", Cond.fieldLink RX1 21 "DeadTimeLoop$Loop" "badTicks" "I", Cond.fieldLink RX1 24 "DeadTimeLoop$Loop" "goodTicks" "I", Cond.fieldLink RX1 27 "DeadTimeLoop$Loop" "present" "[I", Cond.methodLink RX1 55 arraycopyName, Cond.native arraycopyName, Cond.static arraycopyName]
def wsX6_store_r2 : List Cond := [Cond.initialized "java/lang/System", Cond.fieldLink RX1 31 "DeadTimeLoop$Loop" "records" "[I", Cond.fieldLink RX1 37 "DeadTimeLoop$Loop" "section" "LDeadTimeLoop$Section;", Cond.fieldLink RX1 44 "DeadTimeLoop$Loop" "watches" "LDeadTimeLoop$Watches;", Cond.methodLink RX1 61 yX2_copy, Cond.instanceMethod yX2_copy, Cond.selects RX2 yX2_copy yX2_copy, Cond.initialized RX2, Cond.code yX2_copy cX2_copy 2 none, Cond.fieldLink RX2 7 "DeadTimeLoop$Section" "errorSum" "J", Cond.fieldLink RX2 13 "DeadTimeLoop$Section" "effort" "J", Cond.fieldLink RX2 16 "DeadTimeLoop$Section" "overshoot" "I", Cond.fieldLink RX2 20 "DeadTimeLoop$Section" "ticks" "I", Cond.fieldLink RX2 23 "DeadTimeLoop$Section" "upwards" "Z", Cond.methodLink RX1 65 yX5_copy, Cond.instanceMethod yX5_copy, Cond.selects RX5 yX5_copy yX5_copy, Cond.initialized RX5, Cond.code yX5_copy cX5_copy 2 none, Cond.fieldLink RX5 9 "DeadTimeLoop$Watches" "signals" "[I", Cond.methodLink RX5 28 arraycopyName, Cond.fieldLink RX5 15 "DeadTimeLoop$Watches" "least" "[I", Cond.fieldLink RX5 18 "DeadTimeLoop$Watches" "greatest" "[I", Cond.fieldLink RX5 21 "DeadTimeLoop$Watches" "greatestTick" "[I"]
def wsX6_store_r3 : List Cond := [Cond.fieldLink RX5 24 "DeadTimeLoop$Watches" "count" "I"]
def wsX6_store : List Cond := .code yX6_store cX6_store 1 (some .int) :: ((wsX6_store_r1 ++ (wsX6_store_r2 ++ wsX6_store_r3)) ++ wsX60 ++ wsX10 ++ wsX20 ++ wsX50)
def wsX6_recall_r1 : List Cond := [Cond.fieldLink RX6 43 "DeadTimeLoop" "storedStates" "I", Cond.constant RX6 98 (-2000000002), Cond.fieldLink RX6 33 "DeadTimeLoop" "loop" "LDeadTimeLoop$Loop;", Cond.methodLink RX6 209 yX6_storedAt, Cond.instanceMethod yX6_storedAt, Cond.selects RX6 yX6_storedAt yX6_storedAt, Cond.initialized RX6, Cond.code yX6_storedAt cX6_storedAt 2 (some (.object "DeadTimeLoop$Loop")), Cond.fieldLink RX6 37 "DeadTimeLoop" "firstStored" "LDeadTimeLoop$Loop;", Cond.fieldLink RX6 40 "DeadTimeLoop" "secondStored" "LDeadTimeLoop$Loop;", Cond.methodLink RX6 213 yX1_copy, Cond.instanceMethod yX1_copy, Cond.selects RX1 yX1_copy yX1_copy, Cond.initialized RX1, Cond.code yX1_copy cX1_copy 2 none, Cond.fieldLink RX1 9 "DeadTimeLoop$Loop" "now" "I", Cond.fieldLink RX1 15 "DeadTimeLoop$Loop" "load" "I", Cond.fieldLink RX1 18 "DeadTimeLoop$Loop" "seed" "I", Cond.fieldLink RX1 21 "DeadTimeLoop$Loop" "badTicks" "I", Cond.fieldLink RX1 24 "DeadTimeLoop$Loop" "goodTicks" "I", Cond.fieldLink RX1 27 "DeadTimeLoop$Loop" "present" "[I", Cond.methodLink RX1 55 arraycopyName, Cond.native arraycopyName, Cond.static arraycopyName]
def wsX6_recall_r2 : List Cond := [Cond.initialized "java/lang/System", Cond.fieldLink RX1 31 "DeadTimeLoop$Loop" "records" "[I", Cond.fieldLink RX1 37 "DeadTimeLoop$Loop" "section" "LDeadTimeLoop$Section;", Cond.fieldLink RX1 44 "DeadTimeLoop$Loop" "watches" "LDeadTimeLoop$Watches;", Cond.methodLink RX1 61 yX2_copy, Cond.instanceMethod yX2_copy, Cond.selects RX2 yX2_copy yX2_copy, Cond.initialized RX2, Cond.code yX2_copy cX2_copy 2 none, Cond.fieldLink RX2 7 "DeadTimeLoop$Section" "errorSum" "J", Cond.fieldLink RX2 13 "DeadTimeLoop$Section" "effort" "J", Cond.fieldLink RX2 16 "DeadTimeLoop$Section" "overshoot" "I", Cond.fieldLink RX2 20 "DeadTimeLoop$Section" "ticks" "I", Cond.fieldLink RX2 23 "DeadTimeLoop$Section" "upwards" "Z", Cond.methodLink RX1 65 yX5_copy, Cond.instanceMethod yX5_copy, Cond.selects RX5 yX5_copy yX5_copy, Cond.initialized RX5, Cond.code yX5_copy cX5_copy 2 none, Cond.fieldLink RX5 9 "DeadTimeLoop$Watches" "signals" "[I", Cond.methodLink RX5 28 arraycopyName, Cond.fieldLink RX5 15 "DeadTimeLoop$Watches" "least" "[I", Cond.fieldLink RX5 18 "DeadTimeLoop$Watches" "greatest" "[I", Cond.fieldLink RX5 21 "DeadTimeLoop$Watches" "greatestTick" "[I"]
def wsX6_recall_r3 : List Cond := [Cond.fieldLink RX5 24 "DeadTimeLoop$Watches" "count" "I"]
def wsX6_recall : List Cond := .code yX6_recall cX6_recall 1 (some .int) :: ((wsX6_recall_r1 ++ (wsX6_recall_r2 ++ wsX6_recall_r3)) ++ wsX60 ++ wsX10 ++ wsX20 ++ wsX50)
def wsX6_correlationFor_r1 : List Cond := [Cond.fieldLink RX6 33 "DeadTimeLoop" "loop" "LDeadTimeLoop$Loop;", Cond.fieldLink RX6 12 "DeadTimeLoop" "settings" "LDeadTimeLoop$Settings;", Cond.methodLink RX6 294 yX1_agreement, Cond.instanceMethod yX1_agreement, Cond.selects RX1 yX1_agreement yX1_agreement, Cond.initialized RX1, Cond.code yX1_agreement cX1_agreement 10 (some .long), Cond.fieldLink RX1 9 "DeadTimeLoop$Loop" "now" "I", Cond.methodLink RX1 78 Lib.Math.max.name, Cond.static Lib.Math.max.name, Cond.initialized "java/lang/Math", Cond.code Lib.Math.max.name Lib.Math.max.code 2 (some .int), Cond.methodLink RX1 81 yX1_recordOf, Cond.instanceMethod yX1_recordOf, Cond.selects RX1 yX1_recordOf yX1_recordOf, Cond.code yX1_recordOf cX1_recordOf 3 (some .int), Cond.fieldLink RX1 31 "DeadTimeLoop$Loop" "records" "[I", Cond.static yX6_isSignal, Cond.initialized RX6, Cond.code yX6_isSignal cX6_isSignal 1 (some .boolean), Cond.methodLink RX1 72 yJ9_floorMod_7cf53, Cond.static yJ9_floorMod_7cf53, Cond.initialized RJ9, Cond.code yJ9_floorMod_7cf53 cJ9_floorMod_7cf53 3 (some .int)]
def wsX6_correlationFor_r2 : List Cond := [Cond.methodLink RX6 64 yX3_get, Cond.instanceMethod yX3_get, Cond.selects RX3 yX3_get yX3_get, Cond.initialized RX3, Cond.code yX3_get cX3_get 2 (some .int), Cond.fieldLink RX3 9 "DeadTimeLoop$Settings" "values" "[I", Cond.static yX6_isParameter, Cond.code yX6_isParameter cX6_isParameter 1 (some .boolean)]
def wsX6_correlationFor : List Cond := .code yX6_correlationFor cX6_correlationFor 4 (some .long) :: ((wsX6_correlationFor_r1 ++ wsX6_correlationFor_r2) ++ wsX60 ++ wsX10 ++ wsX30)
def wsX6_correlation_r1 : List Cond := [Cond.constantLong RX6 199 (-2000000001), Cond.methodLink RX6 217 yX6_correlationFor, Cond.instanceMethod yX6_correlationFor, Cond.selects RX6 yX6_correlationFor yX6_correlationFor, Cond.initialized RX6, Cond.code yX6_correlationFor cX6_correlationFor 4 (some .long), Cond.fieldLink RX6 33 "DeadTimeLoop" "loop" "LDeadTimeLoop$Loop;", Cond.fieldLink RX6 12 "DeadTimeLoop" "settings" "LDeadTimeLoop$Settings;", Cond.methodLink RX6 294 yX1_agreement, Cond.instanceMethod yX1_agreement, Cond.selects RX1 yX1_agreement yX1_agreement, Cond.initialized RX1, Cond.code yX1_agreement cX1_agreement 10 (some .long), Cond.fieldLink RX1 9 "DeadTimeLoop$Loop" "now" "I", Cond.methodLink RX1 78 Lib.Math.max.name, Cond.static Lib.Math.max.name, Cond.initialized "java/lang/Math", Cond.code Lib.Math.max.name Lib.Math.max.code 2 (some .int), Cond.methodLink RX1 81 yX1_recordOf, Cond.instanceMethod yX1_recordOf, Cond.selects RX1 yX1_recordOf yX1_recordOf, Cond.code yX1_recordOf cX1_recordOf 3 (some .int), Cond.fieldLink RX1 31 "DeadTimeLoop$Loop" "records" "[I", Cond.static yX6_isSignal]
def wsX6_correlation_r2 : List Cond := [Cond.code yX6_isSignal cX6_isSignal 1 (some .boolean), Cond.methodLink RX1 72 yJ9_floorMod_7cf53, Cond.static yJ9_floorMod_7cf53, Cond.initialized RJ9, Cond.code yJ9_floorMod_7cf53 cJ9_floorMod_7cf53 3 (some .int), Cond.methodLink RX6 64 yX3_get, Cond.instanceMethod yX3_get, Cond.selects RX3 yX3_get yX3_get, Cond.initialized RX3, Cond.code yX3_get cX3_get 2 (some .int), Cond.fieldLink RX3 9 "DeadTimeLoop$Settings" "values" "[I", Cond.static yX6_isParameter, Cond.code yX6_isParameter cX6_isParameter 1 (some .boolean)]
def wsX6_correlation : List Cond := .code yX6_correlation cX6_correlation 2 (some .long) :: ((wsX6_correlation_r1 ++ wsX6_correlation_r2) ++ wsX60 ++ wsX10 ++ wsX30)
def wsX6_strongestLag_r1 : List Cond := [Cond.methodLink RX6 217 yX6_correlationFor, Cond.instanceMethod yX6_correlationFor, Cond.selects RX6 yX6_correlationFor yX6_correlationFor, Cond.initialized RX6, Cond.code yX6_correlationFor cX6_correlationFor 4 (some .long), Cond.fieldLink RX6 33 "DeadTimeLoop" "loop" "LDeadTimeLoop$Loop;", Cond.fieldLink RX6 12 "DeadTimeLoop" "settings" "LDeadTimeLoop$Settings;", Cond.methodLink RX6 294 yX1_agreement, Cond.instanceMethod yX1_agreement, Cond.selects RX1 yX1_agreement yX1_agreement, Cond.initialized RX1, Cond.code yX1_agreement cX1_agreement 10 (some .long), Cond.fieldLink RX1 9 "DeadTimeLoop$Loop" "now" "I", Cond.methodLink RX1 78 Lib.Math.max.name, Cond.static Lib.Math.max.name, Cond.initialized "java/lang/Math", Cond.code Lib.Math.max.name Lib.Math.max.code 2 (some .int), Cond.methodLink RX1 81 yX1_recordOf, Cond.instanceMethod yX1_recordOf, Cond.selects RX1 yX1_recordOf yX1_recordOf, Cond.code yX1_recordOf cX1_recordOf 3 (some .int), Cond.fieldLink RX1 31 "DeadTimeLoop$Loop" "records" "[I", Cond.static yX6_isSignal, Cond.code yX6_isSignal cX6_isSignal 1 (some .boolean)]
def wsX6_strongestLag_r2 : List Cond := [Cond.methodLink RX1 72 yJ9_floorMod_7cf53, Cond.static yJ9_floorMod_7cf53, Cond.initialized RJ9, Cond.code yJ9_floorMod_7cf53 cJ9_floorMod_7cf53 3 (some .int), Cond.methodLink RX6 64 yX3_get, Cond.instanceMethod yX3_get, Cond.selects RX3 yX3_get yX3_get, Cond.initialized RX3, Cond.code yX3_get cX3_get 2 (some .int), Cond.fieldLink RX3 9 "DeadTimeLoop$Settings" "values" "[I", Cond.static yX6_isParameter, Cond.code yX6_isParameter cX6_isParameter 1 (some .boolean)]
def wsX6_strongestLag : List Cond := .code yX6_strongestLag cX6_strongestLag 8 (some .int) :: ((wsX6_strongestLag_r1 ++ wsX6_strongestLag_r2) ++ wsX60 ++ wsX10 ++ wsX30)
def wsX6_estimatedLag_r1 : List Cond := [Cond.constant RX6 94 (-2000000004), Cond.methodLink RX6 221 yX6_strongestLag, Cond.instanceMethod yX6_strongestLag, Cond.selects RX6 yX6_strongestLag yX6_strongestLag, Cond.initialized RX6, Cond.code yX6_strongestLag cX6_strongestLag 8 (some .int), Cond.methodLink RX6 217 yX6_correlationFor, Cond.instanceMethod yX6_correlationFor, Cond.selects RX6 yX6_correlationFor yX6_correlationFor, Cond.code yX6_correlationFor cX6_correlationFor 4 (some .long), Cond.fieldLink RX6 33 "DeadTimeLoop" "loop" "LDeadTimeLoop$Loop;", Cond.fieldLink RX6 12 "DeadTimeLoop" "settings" "LDeadTimeLoop$Settings;", Cond.methodLink RX6 294 yX1_agreement, Cond.instanceMethod yX1_agreement, Cond.selects RX1 yX1_agreement yX1_agreement, Cond.initialized RX1, Cond.code yX1_agreement cX1_agreement 10 (some .long), Cond.fieldLink RX1 9 "DeadTimeLoop$Loop" "now" "I", Cond.methodLink RX1 78 Lib.Math.max.name, Cond.static Lib.Math.max.name, Cond.initialized "java/lang/Math", Cond.code Lib.Math.max.name Lib.Math.max.code 2 (some .int), Cond.methodLink RX1 81 yX1_recordOf, Cond.instanceMethod yX1_recordOf]
def wsX6_estimatedLag_r2 : List Cond := [Cond.selects RX1 yX1_recordOf yX1_recordOf, Cond.code yX1_recordOf cX1_recordOf 3 (some .int), Cond.fieldLink RX1 31 "DeadTimeLoop$Loop" "records" "[I", Cond.static yX6_isSignal, Cond.code yX6_isSignal cX6_isSignal 1 (some .boolean), Cond.methodLink RX1 72 yJ9_floorMod_7cf53, Cond.static yJ9_floorMod_7cf53, Cond.initialized RJ9, Cond.code yJ9_floorMod_7cf53 cJ9_floorMod_7cf53 3 (some .int), Cond.methodLink RX6 64 yX3_get, Cond.instanceMethod yX3_get, Cond.selects RX3 yX3_get yX3_get, Cond.initialized RX3, Cond.code yX3_get cX3_get 2 (some .int), Cond.fieldLink RX3 9 "DeadTimeLoop$Settings" "values" "[I", Cond.static yX6_isParameter, Cond.code yX6_isParameter cX6_isParameter 1 (some .boolean)]
def wsX6_estimatedLag : List Cond := .code yX6_estimatedLag cX6_estimatedLag 2 (some .int) :: ((wsX6_estimatedLag_r1 ++ wsX6_estimatedLag_r2) ++ wsX60 ++ wsX10 ++ wsX30)
def wsX6_tuneDelay_r1 : List Cond := [Cond.constantLong RX6 224 (2), Cond.constant RX6 98 (-2000000002), Cond.fieldLink RX6 19 "DeadTimeLoop" "changes" "LDeadTimeLoop$Changes;", Cond.fieldLink RX6 12 "DeadTimeLoop" "settings" "LDeadTimeLoop$Settings;", Cond.methodLink RX6 221 yX6_strongestLag, Cond.instanceMethod yX6_strongestLag, Cond.selects RX6 yX6_strongestLag yX6_strongestLag, Cond.initialized RX6, Cond.code yX6_strongestLag cX6_strongestLag 8 (some .int), Cond.methodLink RX6 217 yX6_correlationFor, Cond.instanceMethod yX6_correlationFor, Cond.selects RX6 yX6_correlationFor yX6_correlationFor, Cond.code yX6_correlationFor cX6_correlationFor 4 (some .long), Cond.fieldLink RX6 33 "DeadTimeLoop" "loop" "LDeadTimeLoop$Loop;", Cond.methodLink RX6 294 yX1_agreement, Cond.instanceMethod yX1_agreement, Cond.selects RX1 yX1_agreement yX1_agreement, Cond.initialized RX1, Cond.code yX1_agreement cX1_agreement 10 (some .long), Cond.fieldLink RX1 9 "DeadTimeLoop$Loop" "now" "I", Cond.methodLink RX1 78 Lib.Math.max.name, Cond.static Lib.Math.max.name, Cond.initialized "java/lang/Math", Cond.code Lib.Math.max.name Lib.Math.max.code 2 (some .int)]
def wsX6_tuneDelay_r2 : List Cond := [Cond.methodLink RX1 81 yX1_recordOf, Cond.instanceMethod yX1_recordOf, Cond.selects RX1 yX1_recordOf yX1_recordOf, Cond.code yX1_recordOf cX1_recordOf 3 (some .int), Cond.fieldLink RX1 31 "DeadTimeLoop$Loop" "records" "[I", Cond.static yX6_isSignal, Cond.code yX6_isSignal cX6_isSignal 1 (some .boolean), Cond.methodLink RX1 72 yJ9_floorMod_7cf53, Cond.static yJ9_floorMod_7cf53, Cond.initialized RJ9, Cond.code yJ9_floorMod_7cf53 cJ9_floorMod_7cf53 3 (some .int), Cond.methodLink RX6 64 yX3_get, Cond.instanceMethod yX3_get, Cond.selects RX3 yX3_get yX3_get, Cond.initialized RX3, Cond.code yX3_get cX3_get 2 (some .int), Cond.fieldLink RX3 9 "DeadTimeLoop$Settings" "values" "[I", Cond.static yX6_isParameter, Cond.code yX6_isParameter cX6_isParameter 1 (some .boolean), Cond.methodLink RX6 68 yX0_keep, Cond.instanceMethod yX0_keep, Cond.selects RX0 yX0_keep yX0_keep, Cond.initialized RX0, Cond.code yX0_keep cX0_keep 2 none]
def wsX6_tuneDelay_r3 : List Cond := [Cond.fieldLink RX0 16 "DeadTimeLoop$Changes" "count" "I", Cond.fieldLink RX0 11 "DeadTimeLoop$Changes" "rows" "[[I", Cond.methodLink RX0 29 arraycopyName, Cond.native arraycopyName, Cond.static arraycopyName, Cond.initialized "java/lang/System", Cond.methodLink RX0 20 yX0_forgetOldest, Cond.instanceMethod yX0_forgetOldest, Cond.selects RX0 yX0_forgetOldest yX0_forgetOldest, Cond.code yX0_forgetOldest cX0_forgetOldest 2 none, Cond.methodLink RX6 72 yX3_set, Cond.instanceMethod yX3_set, Cond.selects RX3 yX3_set yX3_set, Cond.code yX3_set cX3_set 3 none]
def wsX6_tuneDelay : List Cond := .code yX6_tuneDelay cX6_tuneDelay 6 (some .int) :: ((wsX6_tuneDelay_r1 ++ (wsX6_tuneDelay_r2 ++ wsX6_tuneDelay_r3)) ++ wsX60 ++ wsX10 ++ wsX30 ++ wsX00)
def wsX6_ahead_r1 : List Cond := [Cond.constant RX6 63 (-2000000001), Cond.fieldLink RX6 53 "DeadTimeLoop" "trial" "LDeadTimeLoop$Loop;", Cond.fieldLink RX6 33 "DeadTimeLoop" "loop" "LDeadTimeLoop$Loop;", Cond.fieldLink RX6 145 "DeadTimeLoop$Loop" "present" "[I", Cond.methodLink RX6 142 yX6_isSignal, Cond.static yX6_isSignal, Cond.initialized RX6, Cond.code yX6_isSignal cX6_isSignal 1 (some .boolean), Cond.methodLink RX6 213 yX1_copy, Cond.instanceMethod yX1_copy, Cond.selects RX1 yX1_copy yX1_copy, Cond.initialized RX1, Cond.code yX1_copy cX1_copy 2 none, Cond.fieldLink RX1 9 "DeadTimeLoop$Loop" "now" "I", Cond.fieldLink RX1 15 "DeadTimeLoop$Loop" "load" "I", Cond.fieldLink RX1 18 "DeadTimeLoop$Loop" "seed" "I", Cond.fieldLink RX1 21 "DeadTimeLoop$Loop" "badTicks" "I", Cond.fieldLink RX1 24 "DeadTimeLoop$Loop" "goodTicks" "I", Cond.fieldLink RX1 27 "DeadTimeLoop$Loop" "present" "[I", Cond.methodLink RX1 55 arraycopyName, Cond.native arraycopyName, Cond.static arraycopyName, Cond.initialized "java/lang/System", Cond.fieldLink RX1 31 "DeadTimeLoop$Loop" "records" "[I"]
def wsX6_ahead_r2 : List Cond := [Cond.fieldLink RX1 37 "DeadTimeLoop$Loop" "section" "LDeadTimeLoop$Section;", Cond.fieldLink RX1 44 "DeadTimeLoop$Loop" "watches" "LDeadTimeLoop$Watches;", Cond.methodLink RX1 61 yX2_copy, Cond.instanceMethod yX2_copy, Cond.selects RX2 yX2_copy yX2_copy, Cond.initialized RX2, Cond.code yX2_copy cX2_copy 2 none, Cond.fieldLink RX2 7 "DeadTimeLoop$Section" "errorSum" "J", Cond.fieldLink RX2 13 "DeadTimeLoop$Section" "effort" "J", Cond.fieldLink RX2 16 "DeadTimeLoop$Section" "overshoot" "I", Cond.fieldLink RX2 20 "DeadTimeLoop$Section" "ticks" "I", Cond.fieldLink RX2 23 "DeadTimeLoop$Section" "upwards" "Z", Cond.methodLink RX1 65 yX5_copy, Cond.instanceMethod yX5_copy, Cond.selects RX5 yX5_copy yX5_copy, Cond.initialized RX5, Cond.code yX5_copy cX5_copy 2 none, Cond.fieldLink RX5 9 "DeadTimeLoop$Watches" "signals" "[I", Cond.methodLink RX5 28 arraycopyName, Cond.fieldLink RX5 15 "DeadTimeLoop$Watches" "least" "[I", Cond.fieldLink RX5 18 "DeadTimeLoop$Watches" "greatest" "[I", Cond.fieldLink RX5 21 "DeadTimeLoop$Watches" "greatestTick" "[I", Cond.fieldLink RX5 24 "DeadTimeLoop$Watches" "count" "I", Cond.methodLink RX6 138 yX6_advance]
def wsX6_ahead_r3 : List Cond := [Cond.instanceMethod yX6_advance, Cond.selects RX6 yX6_advance yX6_advance, Cond.code yX6_advance cX6_advance 4 none, Cond.fieldLink RX6 12 "DeadTimeLoop" "settings" "LDeadTimeLoop$Settings;", Cond.methodLink RX6 233 yX1_tick, Cond.instanceMethod yX1_tick, Cond.selects RX1 yX1_tick yX1_tick, Cond.code yX1_tick cX1_tick 5 none, Cond.methodLink RX1 101 Lib.Math.abs.name, Cond.static Lib.Math.abs.name, Cond.initialized "java/lang/Math", Cond.code Lib.Math.abs.name Lib.Math.abs.code 1 (some .int), Cond.methodLink RX1 84 yX3_get, Cond.instanceMethod yX3_get, Cond.selects RX3 yX3_get yX3_get, Cond.initialized RX3, Cond.code yX3_get cX3_get 2 (some .int), Cond.fieldLink RX3 9 "DeadTimeLoop$Settings" "values" "[I", Cond.static yX6_isParameter, Cond.code yX6_isParameter cX6_isParameter 1 (some .boolean), Cond.methodLink RX1 90 yX1_noise, Cond.instanceMethod yX1_noise, Cond.selects RX1 yX1_noise yX1_noise, Cond.code yX1_noise cX1_noise 6 (some .int)]
def wsX6_ahead_r4 : List Cond := [Cond.constantLong RX1 126 (7919), Cond.constantLong RX1 128 (6151), Cond.constantLong RX1 130 (2), Cond.constantLong RX1 132 (65521), Cond.methodLink RX1 93 yX1_delayed, Cond.instanceMethod yX1_delayed, Cond.selects RX1 yX1_delayed yX1_delayed, Cond.code yX1_delayed cX1_delayed 10 (some .int), Cond.constantLong RX1 134 (10), Cond.methodLink RX1 81 yX1_recordOf, Cond.instanceMethod yX1_recordOf, Cond.selects RX1 yX1_recordOf yX1_recordOf, Cond.code yX1_recordOf cX1_recordOf 3 (some .int), Cond.methodLink RX1 72 yJ9_floorMod_7cf53, Cond.static yJ9_floorMod_7cf53, Cond.initialized RJ9, Cond.code yJ9_floorMod_7cf53 cJ9_floorMod_7cf53 3 (some .int), Cond.methodLink RX1 136 yJ9_floorDiv_f86c9, Cond.static yJ9_floorDiv_f86c9, Cond.code yJ9_floorDiv_f86c9 cJ9_floorDiv_f86c9 6 (some .long), Cond.static yX6_stepped, Cond.code yX6_stepped cX6_stepped 6 (some .int), Cond.methodLink RX6 286 yX6_thousandth, Cond.static yX6_thousandth]
def wsX6_ahead_r5 : List Cond := [Cond.code yX6_thousandth cX6_thousandth 2 (some .long), Cond.constantLong RX6 280 (1000), Cond.methodLink RX6 282 yJ9_floorDiv_f86c9, Cond.methodLink RX1 104 yX1_judge, Cond.instanceMethod yX1_judge, Cond.selects RX1 yX1_judge yX1_judge, Cond.code yX1_judge cX1_judge 5 none, Cond.methodLink RX1 108 yX1_control, Cond.instanceMethod yX1_control, Cond.selects RX1 yX1_control yX1_control, Cond.code yX1_control cX1_control 18 none, Cond.methodLink RX1 144 yX1_outputFor, Cond.instanceMethod yX1_outputFor, Cond.selects RX1 yX1_outputFor yX1_outputFor, Cond.code yX1_outputFor cX1_outputFor 8 (some .long), Cond.static yX6_limited, Cond.code yX6_limited cX6_limited 6 (some .long), Cond.methodLink RX6 290 Lib.MathLoose.max_long.x, Cond.static Lib.MathLoose.max_long.x, Cond.code Lib.MathLoose.max_long.x Lib.MathLoose.max_long.code 4 (some .long), Cond.methodLink RX6 292 Lib.MathLoose.min_long.x, Cond.static Lib.MathLoose.min_long.x, Cond.code Lib.MathLoose.min_long.x Lib.MathLoose.min_long.code 4 (some .long), Cond.methodLink RX1 112 yX1_keepRecords]
def wsX6_ahead_r6 : List Cond := [Cond.instanceMethod yX1_keepRecords, Cond.selects RX1 yX1_keepRecords yX1_keepRecords, Cond.code yX1_keepRecords cX1_keepRecords 2 none, Cond.methodLink RX1 115 yX2_see, Cond.instanceMethod yX2_see, Cond.selects RX2 yX2_see yX2_see, Cond.code yX2_see cX2_see 4 none, Cond.methodLink RX2 27 Lib.Math.abs.name, Cond.methodLink RX2 33 Lib.Math.max.name, Cond.static Lib.Math.max.name, Cond.code Lib.Math.max.name Lib.Math.max.code 2 (some .int), Cond.methodLink RX1 119 yX5_see, Cond.instanceMethod yX5_see, Cond.selects RX5 yX5_see yX5_see, Cond.code yX5_see cX5_see 5 none, Cond.methodLink RX5 39 yX5_seeOne, Cond.instanceMethod yX5_seeOne, Cond.selects RX5 yX5_seeOne yX5_seeOne, Cond.code yX5_seeOne cX5_seeOne 5 none, Cond.methodLink RX5 43 yX5_hasSeen, Cond.instanceMethod yX5_hasSeen, Cond.selects RX5 yX5_hasSeen yX5_hasSeen, Cond.code yX5_hasSeen cX5_hasSeen 2 (some .boolean), Cond.methodLink RX1 122 yX1_moveOn]
def wsX6_ahead_r7 : List Cond := [Cond.instanceMethod yX1_moveOn, Cond.selects RX1 yX1_moveOn yX1_moveOn, Cond.code yX1_moveOn cX1_moveOn 8 none]
def wsX6_ahead : List Cond := .code yX6_ahead cX6_ahead 3 (some .int) :: ((wsX6_ahead_r1 ++ (wsX6_ahead_r2 ++ (wsX6_ahead_r3 ++ (wsX6_ahead_r4 ++ (wsX6_ahead_r5 ++ (wsX6_ahead_r6 ++ wsX6_ahead_r7)))))) ++ wsX60 ++ wsX10 ++ wsX20 ++ wsX50 ++ wsX30)
def wsX6_errorsWith_r1 : List Cond := [Cond.fieldLink RX6 47 "DeadTimeLoop" "trialSettings" "LDeadTimeLoop$Settings;", Cond.fieldLink RX6 12 "DeadTimeLoop" "settings" "LDeadTimeLoop$Settings;", Cond.fieldLink RX6 53 "DeadTimeLoop" "trial" "LDeadTimeLoop$Loop;", Cond.fieldLink RX6 33 "DeadTimeLoop" "loop" "LDeadTimeLoop$Loop;", Cond.fieldLink RX6 145 "DeadTimeLoop$Loop" "present" "[I", Cond.methodLink RX6 206 Lib.Math.abs.name, Cond.static Lib.Math.abs.name, Cond.initialized "java/lang/Math", Cond.code Lib.Math.abs.name Lib.Math.abs.code 1 (some .int), Cond.methodLink RX6 297 yX3_copy, Cond.instanceMethod yX3_copy, Cond.selects RX3 yX3_copy yX3_copy, Cond.initialized RX3, Cond.code yX3_copy cX3_copy 2 none, Cond.fieldLink RX3 9 "DeadTimeLoop$Settings" "values" "[I", Cond.methodLink RX3 18 arraycopyName, Cond.native arraycopyName, Cond.static arraycopyName, Cond.initialized "java/lang/System", Cond.methodLink RX6 72 yX3_set, Cond.instanceMethod yX3_set, Cond.selects RX3 yX3_set yX3_set, Cond.code yX3_set cX3_set 3 none, Cond.static yX6_isParameter]
def wsX6_errorsWith_r2 : List Cond := [Cond.initialized RX6, Cond.code yX6_isParameter cX6_isParameter 1 (some .boolean), Cond.methodLink RX6 213 yX1_copy, Cond.instanceMethod yX1_copy, Cond.selects RX1 yX1_copy yX1_copy, Cond.initialized RX1, Cond.code yX1_copy cX1_copy 2 none, Cond.fieldLink RX1 9 "DeadTimeLoop$Loop" "now" "I", Cond.fieldLink RX1 15 "DeadTimeLoop$Loop" "load" "I", Cond.fieldLink RX1 18 "DeadTimeLoop$Loop" "seed" "I", Cond.fieldLink RX1 21 "DeadTimeLoop$Loop" "badTicks" "I", Cond.fieldLink RX1 24 "DeadTimeLoop$Loop" "goodTicks" "I", Cond.fieldLink RX1 27 "DeadTimeLoop$Loop" "present" "[I", Cond.methodLink RX1 55 arraycopyName, Cond.fieldLink RX1 31 "DeadTimeLoop$Loop" "records" "[I", Cond.fieldLink RX1 37 "DeadTimeLoop$Loop" "section" "LDeadTimeLoop$Section;", Cond.fieldLink RX1 44 "DeadTimeLoop$Loop" "watches" "LDeadTimeLoop$Watches;", Cond.methodLink RX1 61 yX2_copy, Cond.instanceMethod yX2_copy, Cond.selects RX2 yX2_copy yX2_copy, Cond.initialized RX2, Cond.code yX2_copy cX2_copy 2 none, Cond.fieldLink RX2 7 "DeadTimeLoop$Section" "errorSum" "J", Cond.fieldLink RX2 13 "DeadTimeLoop$Section" "effort" "J"]
def wsX6_errorsWith_r3 : List Cond := [Cond.fieldLink RX2 16 "DeadTimeLoop$Section" "overshoot" "I", Cond.fieldLink RX2 20 "DeadTimeLoop$Section" "ticks" "I", Cond.fieldLink RX2 23 "DeadTimeLoop$Section" "upwards" "Z", Cond.methodLink RX1 65 yX5_copy, Cond.instanceMethod yX5_copy, Cond.selects RX5 yX5_copy yX5_copy, Cond.initialized RX5, Cond.code yX5_copy cX5_copy 2 none, Cond.fieldLink RX5 9 "DeadTimeLoop$Watches" "signals" "[I", Cond.methodLink RX5 28 arraycopyName, Cond.fieldLink RX5 15 "DeadTimeLoop$Watches" "least" "[I", Cond.fieldLink RX5 18 "DeadTimeLoop$Watches" "greatest" "[I", Cond.fieldLink RX5 21 "DeadTimeLoop$Watches" "greatestTick" "[I", Cond.fieldLink RX5 24 "DeadTimeLoop$Watches" "count" "I", Cond.methodLink RX6 233 yX1_tick, Cond.instanceMethod yX1_tick, Cond.selects RX1 yX1_tick yX1_tick, Cond.code yX1_tick cX1_tick 5 none, Cond.methodLink RX1 101 Lib.Math.abs.name, Cond.methodLink RX1 84 yX3_get, Cond.instanceMethod yX3_get, Cond.selects RX3 yX3_get yX3_get, Cond.code yX3_get cX3_get 2 (some .int), Cond.methodLink RX1 90 yX1_noise]
def wsX6_errorsWith_r4 : List Cond := [Cond.instanceMethod yX1_noise, Cond.selects RX1 yX1_noise yX1_noise, Cond.code yX1_noise cX1_noise 6 (some .int), Cond.constantLong RX1 126 (7919), Cond.constantLong RX1 128 (6151), Cond.constantLong RX1 130 (2), Cond.constantLong RX1 132 (65521), Cond.methodLink RX1 93 yX1_delayed, Cond.instanceMethod yX1_delayed, Cond.selects RX1 yX1_delayed yX1_delayed, Cond.code yX1_delayed cX1_delayed 10 (some .int), Cond.constantLong RX1 134 (10), Cond.methodLink RX1 81 yX1_recordOf, Cond.instanceMethod yX1_recordOf, Cond.selects RX1 yX1_recordOf yX1_recordOf, Cond.code yX1_recordOf cX1_recordOf 3 (some .int), Cond.static yX6_isSignal, Cond.code yX6_isSignal cX6_isSignal 1 (some .boolean), Cond.methodLink RX1 72 yJ9_floorMod_7cf53, Cond.static yJ9_floorMod_7cf53, Cond.initialized RJ9, Cond.code yJ9_floorMod_7cf53 cJ9_floorMod_7cf53 3 (some .int), Cond.methodLink RX1 136 yJ9_floorDiv_f86c9, Cond.static yJ9_floorDiv_f86c9]
def wsX6_errorsWith_r5 : List Cond := [Cond.code yJ9_floorDiv_f86c9 cJ9_floorDiv_f86c9 6 (some .long), Cond.static yX6_stepped, Cond.code yX6_stepped cX6_stepped 6 (some .int), Cond.methodLink RX6 286 yX6_thousandth, Cond.static yX6_thousandth, Cond.code yX6_thousandth cX6_thousandth 2 (some .long), Cond.constantLong RX6 280 (1000), Cond.methodLink RX6 282 yJ9_floorDiv_f86c9, Cond.methodLink RX1 104 yX1_judge, Cond.instanceMethod yX1_judge, Cond.selects RX1 yX1_judge yX1_judge, Cond.code yX1_judge cX1_judge 5 none, Cond.methodLink RX1 108 yX1_control, Cond.instanceMethod yX1_control, Cond.selects RX1 yX1_control yX1_control, Cond.code yX1_control cX1_control 18 none, Cond.methodLink RX1 144 yX1_outputFor, Cond.instanceMethod yX1_outputFor, Cond.selects RX1 yX1_outputFor yX1_outputFor, Cond.code yX1_outputFor cX1_outputFor 8 (some .long), Cond.static yX6_limited, Cond.code yX6_limited cX6_limited 6 (some .long), Cond.methodLink RX6 290 Lib.MathLoose.max_long.x, Cond.static Lib.MathLoose.max_long.x]
def wsX6_errorsWith_r6 : List Cond := [Cond.code Lib.MathLoose.max_long.x Lib.MathLoose.max_long.code 4 (some .long), Cond.methodLink RX6 292 Lib.MathLoose.min_long.x, Cond.static Lib.MathLoose.min_long.x, Cond.code Lib.MathLoose.min_long.x Lib.MathLoose.min_long.code 4 (some .long), Cond.methodLink RX1 112 yX1_keepRecords, Cond.instanceMethod yX1_keepRecords, Cond.selects RX1 yX1_keepRecords yX1_keepRecords, Cond.code yX1_keepRecords cX1_keepRecords 2 none, Cond.methodLink RX1 115 yX2_see, Cond.instanceMethod yX2_see, Cond.selects RX2 yX2_see yX2_see, Cond.code yX2_see cX2_see 4 none, Cond.methodLink RX2 27 Lib.Math.abs.name, Cond.methodLink RX2 33 Lib.Math.max.name, Cond.static Lib.Math.max.name, Cond.code Lib.Math.max.name Lib.Math.max.code 2 (some .int), Cond.methodLink RX1 119 yX5_see, Cond.instanceMethod yX5_see, Cond.selects RX5 yX5_see yX5_see, Cond.code yX5_see cX5_see 5 none, Cond.methodLink RX5 39 yX5_seeOne, Cond.instanceMethod yX5_seeOne, Cond.selects RX5 yX5_seeOne yX5_seeOne, Cond.code yX5_seeOne cX5_seeOne 5 none]
def wsX6_errorsWith_r7 : List Cond := [Cond.methodLink RX5 43 yX5_hasSeen, Cond.instanceMethod yX5_hasSeen, Cond.selects RX5 yX5_hasSeen yX5_hasSeen, Cond.code yX5_hasSeen cX5_hasSeen 2 (some .boolean), Cond.methodLink RX1 122 yX1_moveOn, Cond.instanceMethod yX1_moveOn, Cond.selects RX1 yX1_moveOn yX1_moveOn, Cond.code yX1_moveOn cX1_moveOn 8 none]
def wsX6_errorsWith : List Cond := .code yX6_errorsWith cX6_errorsWith 6 (some .long) :: ((wsX6_errorsWith_r1 ++ (wsX6_errorsWith_r2 ++ (wsX6_errorsWith_r3 ++ (wsX6_errorsWith_r4 ++ (wsX6_errorsWith_r5 ++ (wsX6_errorsWith_r6 ++ wsX6_errorsWith_r7)))))) ++ wsX60 ++ wsX10 ++ wsX30 ++ wsX20 ++ wsX50)
def wsX6_bestGain_r1 : List Cond := [Cond.constant RX6 63 (-2000000001), Cond.methodLink RX6 226 yX6_errorsWith, Cond.instanceMethod yX6_errorsWith, Cond.selects RX6 yX6_errorsWith yX6_errorsWith, Cond.initialized RX6, Cond.code yX6_errorsWith cX6_errorsWith 6 (some .long), Cond.fieldLink RX6 47 "DeadTimeLoop" "trialSettings" "LDeadTimeLoop$Settings;", Cond.fieldLink RX6 12 "DeadTimeLoop" "settings" "LDeadTimeLoop$Settings;", Cond.fieldLink RX6 53 "DeadTimeLoop" "trial" "LDeadTimeLoop$Loop;", Cond.fieldLink RX6 33 "DeadTimeLoop" "loop" "LDeadTimeLoop$Loop;", Cond.fieldLink RX6 145 "DeadTimeLoop$Loop" "present" "[I", Cond.methodLink RX6 206 Lib.Math.abs.name, Cond.static Lib.Math.abs.name, Cond.initialized "java/lang/Math", Cond.code Lib.Math.abs.name Lib.Math.abs.code 1 (some .int), Cond.methodLink RX6 297 yX3_copy, Cond.instanceMethod yX3_copy, Cond.selects RX3 yX3_copy yX3_copy, Cond.initialized RX3, Cond.code yX3_copy cX3_copy 2 none, Cond.fieldLink RX3 9 "DeadTimeLoop$Settings" "values" "[I", Cond.methodLink RX3 18 arraycopyName, Cond.native arraycopyName, Cond.static arraycopyName]
def wsX6_bestGain_r2 : List Cond := [Cond.initialized "java/lang/System", Cond.methodLink RX6 72 yX3_set, Cond.instanceMethod yX3_set, Cond.selects RX3 yX3_set yX3_set, Cond.code yX3_set cX3_set 3 none, Cond.static yX6_isParameter, Cond.code yX6_isParameter cX6_isParameter 1 (some .boolean), Cond.methodLink RX6 213 yX1_copy, Cond.instanceMethod yX1_copy, Cond.selects RX1 yX1_copy yX1_copy, Cond.initialized RX1, Cond.code yX1_copy cX1_copy 2 none, Cond.fieldLink RX1 9 "DeadTimeLoop$Loop" "now" "I", Cond.fieldLink RX1 15 "DeadTimeLoop$Loop" "load" "I", Cond.fieldLink RX1 18 "DeadTimeLoop$Loop" "seed" "I", Cond.fieldLink RX1 21 "DeadTimeLoop$Loop" "badTicks" "I", Cond.fieldLink RX1 24 "DeadTimeLoop$Loop" "goodTicks" "I", Cond.fieldLink RX1 27 "DeadTimeLoop$Loop" "present" "[I", Cond.methodLink RX1 55 arraycopyName, Cond.fieldLink RX1 31 "DeadTimeLoop$Loop" "records" "[I", Cond.fieldLink RX1 37 "DeadTimeLoop$Loop" "section" "LDeadTimeLoop$Section;", Cond.fieldLink RX1 44 "DeadTimeLoop$Loop" "watches" "LDeadTimeLoop$Watches;", Cond.methodLink RX1 61 yX2_copy, Cond.instanceMethod yX2_copy]
def wsX6_bestGain_r3 : List Cond := [Cond.selects RX2 yX2_copy yX2_copy, Cond.initialized RX2, Cond.code yX2_copy cX2_copy 2 none, Cond.fieldLink RX2 7 "DeadTimeLoop$Section" "errorSum" "J", Cond.fieldLink RX2 13 "DeadTimeLoop$Section" "effort" "J", Cond.fieldLink RX2 16 "DeadTimeLoop$Section" "overshoot" "I", Cond.fieldLink RX2 20 "DeadTimeLoop$Section" "ticks" "I", Cond.fieldLink RX2 23 "DeadTimeLoop$Section" "upwards" "Z", Cond.methodLink RX1 65 yX5_copy, Cond.instanceMethod yX5_copy, Cond.selects RX5 yX5_copy yX5_copy, Cond.initialized RX5, Cond.code yX5_copy cX5_copy 2 none, Cond.fieldLink RX5 9 "DeadTimeLoop$Watches" "signals" "[I", Cond.methodLink RX5 28 arraycopyName, Cond.fieldLink RX5 15 "DeadTimeLoop$Watches" "least" "[I", Cond.fieldLink RX5 18 "DeadTimeLoop$Watches" "greatest" "[I", Cond.fieldLink RX5 21 "DeadTimeLoop$Watches" "greatestTick" "[I", Cond.fieldLink RX5 24 "DeadTimeLoop$Watches" "count" "I", Cond.methodLink RX6 233 yX1_tick, Cond.instanceMethod yX1_tick, Cond.selects RX1 yX1_tick yX1_tick, Cond.code yX1_tick cX1_tick 5 none, Cond.methodLink RX1 101 Lib.Math.abs.name]
def wsX6_bestGain_r4 : List Cond := [Cond.methodLink RX1 84 yX3_get, Cond.instanceMethod yX3_get, Cond.selects RX3 yX3_get yX3_get, Cond.code yX3_get cX3_get 2 (some .int), Cond.methodLink RX1 90 yX1_noise, Cond.instanceMethod yX1_noise, Cond.selects RX1 yX1_noise yX1_noise, Cond.code yX1_noise cX1_noise 6 (some .int), Cond.constantLong RX1 126 (7919), Cond.constantLong RX1 128 (6151), Cond.constantLong RX1 130 (2), Cond.constantLong RX1 132 (65521), Cond.methodLink RX1 93 yX1_delayed, Cond.instanceMethod yX1_delayed, Cond.selects RX1 yX1_delayed yX1_delayed, Cond.code yX1_delayed cX1_delayed 10 (some .int), Cond.constantLong RX1 134 (10), Cond.methodLink RX1 81 yX1_recordOf, Cond.instanceMethod yX1_recordOf, Cond.selects RX1 yX1_recordOf yX1_recordOf, Cond.code yX1_recordOf cX1_recordOf 3 (some .int), Cond.static yX6_isSignal, Cond.code yX6_isSignal cX6_isSignal 1 (some .boolean), Cond.methodLink RX1 72 yJ9_floorMod_7cf53]
def wsX6_bestGain_r5 : List Cond := [Cond.static yJ9_floorMod_7cf53, Cond.initialized RJ9, Cond.code yJ9_floorMod_7cf53 cJ9_floorMod_7cf53 3 (some .int), Cond.methodLink RX1 136 yJ9_floorDiv_f86c9, Cond.static yJ9_floorDiv_f86c9, Cond.code yJ9_floorDiv_f86c9 cJ9_floorDiv_f86c9 6 (some .long), Cond.static yX6_stepped, Cond.code yX6_stepped cX6_stepped 6 (some .int), Cond.methodLink RX6 286 yX6_thousandth, Cond.static yX6_thousandth, Cond.code yX6_thousandth cX6_thousandth 2 (some .long), Cond.constantLong RX6 280 (1000), Cond.methodLink RX6 282 yJ9_floorDiv_f86c9, Cond.methodLink RX1 104 yX1_judge, Cond.instanceMethod yX1_judge, Cond.selects RX1 yX1_judge yX1_judge, Cond.code yX1_judge cX1_judge 5 none, Cond.methodLink RX1 108 yX1_control, Cond.instanceMethod yX1_control, Cond.selects RX1 yX1_control yX1_control, Cond.code yX1_control cX1_control 18 none, Cond.methodLink RX1 144 yX1_outputFor, Cond.instanceMethod yX1_outputFor, Cond.selects RX1 yX1_outputFor yX1_outputFor]
def wsX6_bestGain_r6 : List Cond := [Cond.code yX1_outputFor cX1_outputFor 8 (some .long), Cond.static yX6_limited, Cond.code yX6_limited cX6_limited 6 (some .long), Cond.methodLink RX6 290 Lib.MathLoose.max_long.x, Cond.static Lib.MathLoose.max_long.x, Cond.code Lib.MathLoose.max_long.x Lib.MathLoose.max_long.code 4 (some .long), Cond.methodLink RX6 292 Lib.MathLoose.min_long.x, Cond.static Lib.MathLoose.min_long.x, Cond.code Lib.MathLoose.min_long.x Lib.MathLoose.min_long.code 4 (some .long), Cond.methodLink RX1 112 yX1_keepRecords, Cond.instanceMethod yX1_keepRecords, Cond.selects RX1 yX1_keepRecords yX1_keepRecords, Cond.code yX1_keepRecords cX1_keepRecords 2 none, Cond.methodLink RX1 115 yX2_see, Cond.instanceMethod yX2_see, Cond.selects RX2 yX2_see yX2_see, Cond.code yX2_see cX2_see 4 none, Cond.methodLink RX2 27 Lib.Math.abs.name, Cond.methodLink RX2 33 Lib.Math.max.name, Cond.static Lib.Math.max.name, Cond.code Lib.Math.max.name Lib.Math.max.code 2 (some .int), Cond.methodLink RX1 119 yX5_see, Cond.instanceMethod yX5_see, Cond.selects RX5 yX5_see yX5_see]
def wsX6_bestGain_r7 : List Cond := [Cond.code yX5_see cX5_see 5 none, Cond.methodLink RX5 39 yX5_seeOne, Cond.instanceMethod yX5_seeOne, Cond.selects RX5 yX5_seeOne yX5_seeOne, Cond.code yX5_seeOne cX5_seeOne 5 none, Cond.methodLink RX5 43 yX5_hasSeen, Cond.instanceMethod yX5_hasSeen, Cond.selects RX5 yX5_hasSeen yX5_hasSeen, Cond.code yX5_hasSeen cX5_hasSeen 2 (some .boolean), Cond.methodLink RX1 122 yX1_moveOn, Cond.instanceMethod yX1_moveOn, Cond.selects RX1 yX1_moveOn yX1_moveOn, Cond.code yX1_moveOn cX1_moveOn 8 none]
def wsX6_bestGain : List Cond := .code yX6_bestGain cX6_bestGain 8 (some .int) :: ((wsX6_bestGain_r1 ++ (wsX6_bestGain_r2 ++ (wsX6_bestGain_r3 ++ (wsX6_bestGain_r4 ++ (wsX6_bestGain_r5 ++ (wsX6_bestGain_r6 ++ wsX6_bestGain_r7)))))) ++ wsX60 ++ wsX10 ++ wsX30 ++ wsX20 ++ wsX50)
def wsX6_prepareIdeal_r1 : List Cond := [Cond.fieldLink RX6 47 "DeadTimeLoop" "trialSettings" "LDeadTimeLoop$Settings;", Cond.fieldLink RX6 12 "DeadTimeLoop" "settings" "LDeadTimeLoop$Settings;", Cond.fieldLink RX6 50 "DeadTimeLoop" "idealSettings" "LDeadTimeLoop$Settings;", Cond.fieldLink RX6 53 "DeadTimeLoop" "trial" "LDeadTimeLoop$Loop;", Cond.fieldLink RX6 33 "DeadTimeLoop" "loop" "LDeadTimeLoop$Loop;", Cond.fieldLink RX6 145 "DeadTimeLoop$Loop" "present" "[I", Cond.fieldLink RX6 56 "DeadTimeLoop" "ideal" "LDeadTimeLoop$Loop;", Cond.methodLink RX6 297 yX3_copy, Cond.instanceMethod yX3_copy, Cond.selects RX3 yX3_copy yX3_copy, Cond.initialized RX3, Cond.code yX3_copy cX3_copy 2 none, Cond.fieldLink RX3 9 "DeadTimeLoop$Settings" "values" "[I", Cond.methodLink RX3 18 arraycopyName, Cond.native arraycopyName, Cond.static arraycopyName, Cond.initialized "java/lang/System", Cond.methodLink RX6 72 yX3_set, Cond.instanceMethod yX3_set, Cond.selects RX3 yX3_set yX3_set, Cond.code yX3_set cX3_set 3 none, Cond.static yX6_isParameter, Cond.initialized RX6, Cond.code yX6_isParameter cX6_isParameter 1 (some .boolean)]
def wsX6_prepareIdeal_r2 : List Cond := [Cond.methodLink RX6 153 yX1_begin, Cond.instanceMethod yX1_begin, Cond.selects RX1 yX1_begin yX1_begin, Cond.initialized RX1, Cond.code yX1_begin cX1_begin 2 none, Cond.fieldLink RX1 9 "DeadTimeLoop$Loop" "now" "I", Cond.fieldLink RX1 15 "DeadTimeLoop$Loop" "load" "I", Cond.fieldLink RX1 18 "DeadTimeLoop$Loop" "seed" "I", Cond.fieldLink RX1 21 "DeadTimeLoop$Loop" "badTicks" "I", Cond.fieldLink RX1 24 "DeadTimeLoop$Loop" "goodTicks" "I", Cond.fieldLink RX1 27 "DeadTimeLoop$Loop" "present" "[I", Cond.fieldLink RX1 37 "DeadTimeLoop$Loop" "section" "LDeadTimeLoop$Section;", Cond.fieldLink RX1 44 "DeadTimeLoop$Loop" "watches" "LDeadTimeLoop$Watches;", Cond.fieldLink RX1 52 "DeadTimeLoop$Watches" "count" "I", Cond.methodLink RX1 48 yX2_begin, Cond.instanceMethod yX2_begin, Cond.selects RX2 yX2_begin yX2_begin, Cond.initialized RX2, Cond.code yX2_begin cX2_begin 2 none, Cond.fieldLink RX2 7 "DeadTimeLoop$Section" "errorSum" "J", Cond.fieldLink RX2 13 "DeadTimeLoop$Section" "effort" "J", Cond.fieldLink RX2 16 "DeadTimeLoop$Section" "overshoot" "I", Cond.fieldLink RX2 20 "DeadTimeLoop$Section" "ticks" "I", Cond.fieldLink RX2 23 "DeadTimeLoop$Section" "upwards" "Z"]
def wsX6_prepareIdeal_r3 : List Cond := [Cond.methodLink RX6 105 yX1_changeSetpoint, Cond.instanceMethod yX1_changeSetpoint, Cond.selects RX1 yX1_changeSetpoint yX1_changeSetpoint, Cond.code yX1_changeSetpoint cX1_changeSetpoint 3 (some .int)]
def wsX6_prepareIdeal : List Cond := .code yX6_prepareIdeal cX6_prepareIdeal 1 none :: ((wsX6_prepareIdeal_r1 ++ (wsX6_prepareIdeal_r2 ++ wsX6_prepareIdeal_r3)) ++ wsX60 ++ wsX10 ++ wsX30 ++ wsX50 ++ wsX20)
def wsX6_difference : List Cond := .code yX6_difference cX6_difference 1 (some .int) :: ([.fieldLink RX6 53 "DeadTimeLoop" "trial" "LDeadTimeLoop$Loop;", .fieldLink RX6 145 "DeadTimeLoop$Loop" "present" "[I", .fieldLink RX6 56 "DeadTimeLoop" "ideal" "LDeadTimeLoop$Loop;", .methodLink RX6 206 Lib.Math.abs.name, .static Lib.Math.abs.name, .initialized "java/lang/Math", .code Lib.Math.abs.name Lib.Math.abs.code 1 (some .int)] ++ wsX60 ++ wsX10)
def wsX6_idealDifference_r1 : List Cond := [Cond.constant RX6 63 (-2000000001), Cond.fieldLink RX6 12 "DeadTimeLoop" "settings" "LDeadTimeLoop$Settings;", Cond.fieldLink RX6 53 "DeadTimeLoop" "trial" "LDeadTimeLoop$Loop;", Cond.fieldLink RX6 47 "DeadTimeLoop" "trialSettings" "LDeadTimeLoop$Settings;", Cond.fieldLink RX6 56 "DeadTimeLoop" "ideal" "LDeadTimeLoop$Loop;", Cond.fieldLink RX6 50 "DeadTimeLoop" "idealSettings" "LDeadTimeLoop$Settings;", Cond.methodLink RX6 240 Lib.Math.max.name, Cond.static Lib.Math.max.name, Cond.initialized "java/lang/Math", Cond.code Lib.Math.max.name Lib.Math.max.code 2 (some .int), Cond.methodLink RX6 230 yX6_prepareIdeal, Cond.instanceMethod yX6_prepareIdeal, Cond.selects RX6 yX6_prepareIdeal yX6_prepareIdeal, Cond.initialized RX6, Cond.code yX6_prepareIdeal cX6_prepareIdeal 1 none, Cond.fieldLink RX6 33 "DeadTimeLoop" "loop" "LDeadTimeLoop$Loop;", Cond.fieldLink RX6 145 "DeadTimeLoop$Loop" "present" "[I", Cond.methodLink RX6 297 yX3_copy, Cond.instanceMethod yX3_copy, Cond.selects RX3 yX3_copy yX3_copy, Cond.initialized RX3, Cond.code yX3_copy cX3_copy 2 none, Cond.fieldLink RX3 9 "DeadTimeLoop$Settings" "values" "[I", Cond.methodLink RX3 18 arraycopyName]
def wsX6_idealDifference_r2 : List Cond := [Cond.native arraycopyName, Cond.static arraycopyName, Cond.initialized "java/lang/System", Cond.methodLink RX6 72 yX3_set, Cond.instanceMethod yX3_set, Cond.selects RX3 yX3_set yX3_set, Cond.code yX3_set cX3_set 3 none, Cond.static yX6_isParameter, Cond.code yX6_isParameter cX6_isParameter 1 (some .boolean), Cond.methodLink RX6 153 yX1_begin, Cond.instanceMethod yX1_begin, Cond.selects RX1 yX1_begin yX1_begin, Cond.initialized RX1, Cond.code yX1_begin cX1_begin 2 none, Cond.fieldLink RX1 9 "DeadTimeLoop$Loop" "now" "I", Cond.fieldLink RX1 15 "DeadTimeLoop$Loop" "load" "I", Cond.fieldLink RX1 18 "DeadTimeLoop$Loop" "seed" "I", Cond.fieldLink RX1 21 "DeadTimeLoop$Loop" "badTicks" "I", Cond.fieldLink RX1 24 "DeadTimeLoop$Loop" "goodTicks" "I", Cond.fieldLink RX1 27 "DeadTimeLoop$Loop" "present" "[I", Cond.fieldLink RX1 37 "DeadTimeLoop$Loop" "section" "LDeadTimeLoop$Section;", Cond.fieldLink RX1 44 "DeadTimeLoop$Loop" "watches" "LDeadTimeLoop$Watches;", Cond.fieldLink RX1 52 "DeadTimeLoop$Watches" "count" "I", Cond.methodLink RX1 48 yX2_begin]
def wsX6_idealDifference_r3 : List Cond := [Cond.instanceMethod yX2_begin, Cond.selects RX2 yX2_begin yX2_begin, Cond.initialized RX2, Cond.code yX2_begin cX2_begin 2 none, Cond.fieldLink RX2 7 "DeadTimeLoop$Section" "errorSum" "J", Cond.fieldLink RX2 13 "DeadTimeLoop$Section" "effort" "J", Cond.fieldLink RX2 16 "DeadTimeLoop$Section" "overshoot" "I", Cond.fieldLink RX2 20 "DeadTimeLoop$Section" "ticks" "I", Cond.fieldLink RX2 23 "DeadTimeLoop$Section" "upwards" "Z", Cond.methodLink RX6 105 yX1_changeSetpoint, Cond.instanceMethod yX1_changeSetpoint, Cond.selects RX1 yX1_changeSetpoint yX1_changeSetpoint, Cond.code yX1_changeSetpoint cX1_changeSetpoint 3 (some .int), Cond.methodLink RX6 64 yX3_get, Cond.instanceMethod yX3_get, Cond.selects RX3 yX3_get yX3_get, Cond.code yX3_get cX3_get 2 (some .int), Cond.methodLink RX6 233 yX1_tick, Cond.instanceMethod yX1_tick, Cond.selects RX1 yX1_tick yX1_tick, Cond.code yX1_tick cX1_tick 5 none, Cond.methodLink RX1 101 Lib.Math.abs.name, Cond.static Lib.Math.abs.name, Cond.code Lib.Math.abs.name Lib.Math.abs.code 1 (some .int)]
def wsX6_idealDifference_r4 : List Cond := [Cond.methodLink RX1 84 yX3_get, Cond.methodLink RX1 90 yX1_noise, Cond.instanceMethod yX1_noise, Cond.selects RX1 yX1_noise yX1_noise, Cond.code yX1_noise cX1_noise 6 (some .int), Cond.constantLong RX1 126 (7919), Cond.constantLong RX1 128 (6151), Cond.constantLong RX1 130 (2), Cond.constantLong RX1 132 (65521), Cond.methodLink RX1 93 yX1_delayed, Cond.instanceMethod yX1_delayed, Cond.selects RX1 yX1_delayed yX1_delayed, Cond.code yX1_delayed cX1_delayed 10 (some .int), Cond.constantLong RX1 134 (10), Cond.methodLink RX1 81 yX1_recordOf, Cond.instanceMethod yX1_recordOf, Cond.selects RX1 yX1_recordOf yX1_recordOf, Cond.code yX1_recordOf cX1_recordOf 3 (some .int), Cond.fieldLink RX1 31 "DeadTimeLoop$Loop" "records" "[I", Cond.static yX6_isSignal, Cond.code yX6_isSignal cX6_isSignal 1 (some .boolean), Cond.methodLink RX1 72 yJ9_floorMod_7cf53, Cond.static yJ9_floorMod_7cf53, Cond.initialized RJ9]
def wsX6_idealDifference_r5 : List Cond := [Cond.code yJ9_floorMod_7cf53 cJ9_floorMod_7cf53 3 (some .int), Cond.methodLink RX1 136 yJ9_floorDiv_f86c9, Cond.static yJ9_floorDiv_f86c9, Cond.code yJ9_floorDiv_f86c9 cJ9_floorDiv_f86c9 6 (some .long), Cond.static yX6_stepped, Cond.code yX6_stepped cX6_stepped 6 (some .int), Cond.methodLink RX6 286 yX6_thousandth, Cond.static yX6_thousandth, Cond.code yX6_thousandth cX6_thousandth 2 (some .long), Cond.constantLong RX6 280 (1000), Cond.methodLink RX6 282 yJ9_floorDiv_f86c9, Cond.methodLink RX1 104 yX1_judge, Cond.instanceMethod yX1_judge, Cond.selects RX1 yX1_judge yX1_judge, Cond.code yX1_judge cX1_judge 5 none, Cond.methodLink RX1 108 yX1_control, Cond.instanceMethod yX1_control, Cond.selects RX1 yX1_control yX1_control, Cond.code yX1_control cX1_control 18 none, Cond.methodLink RX1 144 yX1_outputFor, Cond.instanceMethod yX1_outputFor, Cond.selects RX1 yX1_outputFor yX1_outputFor, Cond.code yX1_outputFor cX1_outputFor 8 (some .long), Cond.static yX6_limited]
def wsX6_idealDifference_r6 : List Cond := [Cond.code yX6_limited cX6_limited 6 (some .long), Cond.methodLink RX6 290 Lib.MathLoose.max_long.x, Cond.static Lib.MathLoose.max_long.x, Cond.code Lib.MathLoose.max_long.x Lib.MathLoose.max_long.code 4 (some .long), Cond.methodLink RX6 292 Lib.MathLoose.min_long.x, Cond.static Lib.MathLoose.min_long.x, Cond.code Lib.MathLoose.min_long.x Lib.MathLoose.min_long.code 4 (some .long), Cond.methodLink RX1 112 yX1_keepRecords, Cond.instanceMethod yX1_keepRecords, Cond.selects RX1 yX1_keepRecords yX1_keepRecords, Cond.code yX1_keepRecords cX1_keepRecords 2 none, Cond.methodLink RX1 115 yX2_see, Cond.instanceMethod yX2_see, Cond.selects RX2 yX2_see yX2_see, Cond.code yX2_see cX2_see 4 none, Cond.methodLink RX2 27 Lib.Math.abs.name, Cond.methodLink RX2 33 Lib.Math.max.name, Cond.methodLink RX1 119 yX5_see, Cond.instanceMethod yX5_see, Cond.selects RX5 yX5_see yX5_see, Cond.initialized RX5, Cond.code yX5_see cX5_see 5 none, Cond.fieldLink RX5 24 "DeadTimeLoop$Watches" "count" "I", Cond.fieldLink RX5 9 "DeadTimeLoop$Watches" "signals" "[I"]
def wsX6_idealDifference_r7 : List Cond := [Cond.methodLink RX5 39 yX5_seeOne, Cond.instanceMethod yX5_seeOne, Cond.selects RX5 yX5_seeOne yX5_seeOne, Cond.code yX5_seeOne cX5_seeOne 5 none, Cond.fieldLink RX5 15 "DeadTimeLoop$Watches" "least" "[I", Cond.fieldLink RX5 18 "DeadTimeLoop$Watches" "greatest" "[I", Cond.fieldLink RX5 21 "DeadTimeLoop$Watches" "greatestTick" "[I", Cond.methodLink RX5 43 yX5_hasSeen, Cond.instanceMethod yX5_hasSeen, Cond.selects RX5 yX5_hasSeen yX5_hasSeen, Cond.code yX5_hasSeen cX5_hasSeen 2 (some .boolean), Cond.methodLink RX1 122 yX1_moveOn, Cond.instanceMethod yX1_moveOn, Cond.selects RX1 yX1_moveOn yX1_moveOn, Cond.code yX1_moveOn cX1_moveOn 8 none, Cond.methodLink RX6 237 yX6_difference, Cond.instanceMethod yX6_difference, Cond.selects RX6 yX6_difference yX6_difference, Cond.code yX6_difference cX6_difference 1 (some .int), Cond.methodLink RX6 206 Lib.Math.abs.name]
def wsX6_idealDifference : List Cond := .code yX6_idealDifference cX6_idealDifference 4 (some .int) :: ((wsX6_idealDifference_r1 ++ (wsX6_idealDifference_r2 ++ (wsX6_idealDifference_r3 ++ (wsX6_idealDifference_r4 ++ (wsX6_idealDifference_r5 ++ (wsX6_idealDifference_r6 ++ wsX6_idealDifference_r7)))))) ++ wsX60 ++ wsX10 ++ wsX30 ++ wsX50 ++ wsX20)
def wsX7_lettersAre : List Cond := .code yX7_lettersAre cX7_lettersAre 6 none :: ([.fieldLink RX7 35 "DeadTimeLoopModel" "names" "[I"] ++ wsX70)
def wsX7_is : List Cond := .code yX7_is cX7_is 9 none :: ([.fieldLink RX7 29 "DeadTimeLoopModel" "low" "[I", .fieldLink RX7 32 "DeadTimeLoopModel" "high" "[I", .fieldLink RX7 19 "DeadTimeLoopModel" "par" "[I", .methodLink RX7 57 yX7_lettersAre, .instanceMethod yX7_lettersAre, .selects RX7 yX7_lettersAre yX7_lettersAre, .initialized RX7, .code yX7_lettersAre cX7_lettersAre 6 none, .fieldLink RX7 35 "DeadTimeLoopModel" "names" "[I"] ++ wsX70)
def wsX7_goesOn : List Cond := .code yX7_goesOn cX7_goesOn 6 none :: ([.methodLink RX7 57 yX7_lettersAre, .instanceMethod yX7_lettersAre, .selects RX7 yX7_lettersAre yX7_lettersAre, .initialized RX7, .code yX7_lettersAre cX7_lettersAre 6 none, .fieldLink RX7 35 "DeadTimeLoopModel" "names" "[I"] ++ wsX70)
def wsX7_init_r1 : List Cond := [Cond.methodLink RX7 1 objectInit, Cond.instanceMethod objectInit, Cond.code objectInit ⟨#[0xb1]⟩ 1 none, Cond.arrayClass .long, Cond.fieldLink RX7 7 "DeadTimeLoopModel" "now" "[J", Cond.fieldLink RX7 13 "DeadTimeLoopModel" "aside" "[J", Cond.fieldLink RX7 16 "DeadTimeLoopModel" "kept" "[J", Cond.arrayClass .int, Cond.fieldLink RX7 19 "DeadTimeLoopModel" "par" "[I", Cond.fieldLink RX7 23 "DeadTimeLoopModel" "parAside" "[I", Cond.fieldLink RX7 26 "DeadTimeLoopModel" "before" "[I", Cond.fieldLink RX7 29 "DeadTimeLoopModel" "low" "[I", Cond.fieldLink RX7 32 "DeadTimeLoopModel" "high" "[I", Cond.fieldLink RX7 35 "DeadTimeLoopModel" "names" "[I", Cond.fieldLink RX7 38 "DeadTimeLoopModel" "text" "[I", Cond.fieldLink RX7 41 "DeadTimeLoopModel" "path" "[J", Cond.constant RX7 52 (-100000), Cond.constant RX7 53 (-50000), Cond.constant RX7 54 (100000), Cond.constant RX7 55 (50000), Cond.constant RX7 56 (200000), Cond.methodLink RX7 44 yX7_is, Cond.instanceMethod yX7_is, Cond.selects RX7 yX7_is yX7_is]
def wsX7_init_r2 : List Cond := [Cond.initialized RX7, Cond.code yX7_is cX7_is 9 none, Cond.methodLink RX7 57 yX7_lettersAre, Cond.instanceMethod yX7_lettersAre, Cond.selects RX7 yX7_lettersAre yX7_lettersAre, Cond.code yX7_lettersAre cX7_lettersAre 6 none, Cond.methodLink RX7 48 yX7_goesOn, Cond.instanceMethod yX7_goesOn, Cond.selects RX7 yX7_goesOn yX7_goesOn, Cond.code yX7_goesOn cX7_goesOn 6 none]
def wsX7_init : List Cond := .code yX7_init cX7_init 1 none :: ((wsX7_init_r1 ++ wsX7_init_r2) ++ wsX70)
def wsX7_in : List Cond := .code yX7_in cX7_in 6 (some .boolean) :: ([])
def wsX7_size : List Cond := .code yX7_size cX7_size 2 (some .long) :: ([])
def wsX7_floor : List Cond := .code yX7_floor cX7_floor 6 (some .long) :: ([])
def wsX7_keeps : List Cond := .code yX7_keeps cX7_keeps 2 none :: ([.fieldLink RX7 60 "DeadTimeLoopModel" "undoMany" "I", .fieldLink RX7 26 "DeadTimeLoopModel" "before" "[I", .fieldLink RX7 19 "DeadTimeLoopModel" "par" "[I"] ++ wsX70)
def wsX7_isParameter : List Cond := .code yX7_isParameter cX7_isParameter 1 (some .boolean) :: ([.constantLong RX7 64 (14), .methodLink RX7 66 yX7_in, .static yX7_in, .initialized RX7, .code yX7_in cX7_in 6 (some .boolean)])
def wsX7_setParameter : List Cond := .code yX7_setParameter cX7_setParameter 4 (some .int) :: ([.fieldLink RX7 29 "DeadTimeLoopModel" "low" "[I", .fieldLink RX7 32 "DeadTimeLoopModel" "high" "[I", .constant RX7 74 (-2000000001), .fieldLink RX7 19 "DeadTimeLoopModel" "par" "[I", .methodLink RX7 70 yX7_isParameter, .static yX7_isParameter, .initialized RX7, .code yX7_isParameter cX7_isParameter 1 (some .boolean), .constantLong RX7 64 (14), .methodLink RX7 66 yX7_in, .static yX7_in, .code yX7_in cX7_in 6 (some .boolean), .methodLink RX7 75 yX7_keeps, .instanceMethod yX7_keeps, .selects RX7 yX7_keeps yX7_keeps, .code yX7_keeps cX7_keeps 2 none, .fieldLink RX7 60 "DeadTimeLoopModel" "undoMany" "I", .fieldLink RX7 26 "DeadTimeLoopModel" "before" "[I"] ++ wsX70)
def wsX7_parameter : List Cond := .code yX7_parameter cX7_parameter 2 (some .int) :: ([.fieldLink RX7 19 "DeadTimeLoopModel" "par" "[I", .constant RX7 74 (-2000000001), .methodLink RX7 70 yX7_isParameter, .static yX7_isParameter, .initialized RX7, .code yX7_isParameter cX7_isParameter 1 (some .boolean), .constantLong RX7 64 (14), .methodLink RX7 66 yX7_in, .static yX7_in, .code yX7_in cX7_in 6 (some .boolean)] ++ wsX70)
def wsX7_longOf : List Cond := .code yX7_longOf cX7_longOf 3 (some .int) :: ([.fieldLink RX7 35 "DeadTimeLoopModel" "names" "[I"] ++ wsX70)
def wsX7_nameAt : List Cond := .code yX7_nameAt cX7_nameAt 3 (some .int) :: ([.constant RX7 74 (-2000000001), .fieldLink RX7 35 "DeadTimeLoopModel" "names" "[I", .constant RX7 82 (-2000000004), .methodLink RX7 70 yX7_isParameter, .static yX7_isParameter, .initialized RX7, .code yX7_isParameter cX7_isParameter 1 (some .boolean), .constantLong RX7 64 (14), .methodLink RX7 66 yX7_in, .static yX7_in, .code yX7_in cX7_in 6 (some .boolean), .methodLink RX7 78 yX7_longOf, .instanceMethod yX7_longOf, .selects RX7 yX7_longOf yX7_longOf, .code yX7_longOf cX7_longOf 3 (some .int)] ++ wsX70)
def wsX7_undo : List Cond := .code yX7_undo cX7_undo 2 (some .int) :: ([.fieldLink RX7 60 "DeadTimeLoopModel" "undoMany" "I", .constant RX7 83 (-2000000002), .fieldLink RX7 19 "DeadTimeLoopModel" "par" "[I", .fieldLink RX7 26 "DeadTimeLoopModel" "before" "[I"] ++ wsX70)
def wsX7_setSetpoint : List Cond := .code yX7_setSetpoint cX7_setSetpoint 3 (some .int) :: ([.constantLong RX7 84 (-100000), .constantLong RX7 86 (100000), .constant RX7 74 (-2000000001), .fieldLink RX7 7 "DeadTimeLoopModel" "now" "[J", .methodLink RX7 66 yX7_in, .static yX7_in, .initialized RX7, .code yX7_in cX7_in 6 (some .boolean)] ++ wsX70)
def wsX7_setLoad : List Cond := .code yX7_setLoad cX7_setLoad 3 (some .int) :: ([.constantLong RX7 84 (-100000), .constantLong RX7 86 (100000), .constant RX7 74 (-2000000001), .fieldLink RX7 7 "DeadTimeLoopModel" "now" "[J", .methodLink RX7 66 yX7_in, .static yX7_in, .initialized RX7, .code yX7_in cX7_in 6 (some .boolean)] ++ wsX70)
def wsX7_setSeed : List Cond := .code yX7_setSeed cX7_setSeed 3 (some .int) :: ([.constantLong RX7 88 (9999), .constant RX7 74 (-2000000001), .fieldLink RX7 7 "DeadTimeLoopModel" "now" "[J", .methodLink RX7 66 yX7_in, .static yX7_in, .initialized RX7, .code yX7_in cX7_in 6 (some .boolean)] ++ wsX70)
def wsX7_type : List Cond := .code yX7_type cX7_type 2 (some .int) :: ([.constantLong RX7 90 (32), .constantLong RX7 92 (126), .constant RX7 74 (-2000000001), .fieldLink RX7 94 "DeadTimeLoopModel" "length" "I", .constant RX7 97 (-2000000003), .fieldLink RX7 38 "DeadTimeLoopModel" "text" "[I", .methodLink RX7 66 yX7_in, .static yX7_in, .initialized RX7, .code yX7_in cX7_in 6 (some .boolean)] ++ wsX70)
def wsX7_clearText : List Cond := .code yX7_clearText cX7_clearText 2 (some .int) :: ([.fieldLink RX7 94 "DeadTimeLoopModel" "length" "I"] ++ wsX70)
def wsX7_charAt : List Cond := .code yX7_charAt cX7_charAt 2 (some .int) :: ([.fieldLink RX7 94 "DeadTimeLoopModel" "length" "I", .fieldLink RX7 38 "DeadTimeLoopModel" "text" "[I"] ++ wsX70)
def wsX7_named : List Cond := .code yX7_named cX7_named 5 (some .int) :: ([.fieldLink RX7 98 "DeadTimeLoopModel" "spot" "I", .fieldLink RX7 35 "DeadTimeLoopModel" "names" "[I", .constant RX7 82 (-2000000004), .methodLink RX7 78 yX7_longOf, .instanceMethod yX7_longOf, .selects RX7 yX7_longOf yX7_longOf, .initialized RX7, .code yX7_longOf cX7_longOf 3 (some .int), .methodLink RX7 101 yX7_charAt, .instanceMethod yX7_charAt, .selects RX7 yX7_charAt yX7_charAt, .code yX7_charAt cX7_charAt 2 (some .int), .fieldLink RX7 94 "DeadTimeLoopModel" "length" "I", .fieldLink RX7 38 "DeadTimeLoopModel" "text" "[I"] ++ wsX70)
def wsX7_isAssignment_r1 : List Cond := [Cond.fieldLink RX7 108 "DeadTimeLoopModel" "which" "I", Cond.fieldLink RX7 98 "DeadTimeLoopModel" "spot" "I", Cond.fieldLink RX7 111 "DeadTimeLoopModel" "number" "I", Cond.constantLong RX7 114 (48), Cond.constantLong RX7 116 (57), Cond.constantLong RX7 118 (7), Cond.fieldLink RX7 29 "DeadTimeLoopModel" "low" "[I", Cond.fieldLink RX7 32 "DeadTimeLoopModel" "high" "[I", Cond.methodLink RX7 104 yX7_named, Cond.instanceMethod yX7_named, Cond.selects RX7 yX7_named yX7_named, Cond.initialized RX7, Cond.code yX7_named cX7_named 5 (some .int), Cond.fieldLink RX7 35 "DeadTimeLoopModel" "names" "[I", Cond.constant RX7 82 (-2000000004), Cond.methodLink RX7 78 yX7_longOf, Cond.instanceMethod yX7_longOf, Cond.selects RX7 yX7_longOf yX7_longOf, Cond.code yX7_longOf cX7_longOf 3 (some .int), Cond.methodLink RX7 101 yX7_charAt, Cond.instanceMethod yX7_charAt, Cond.selects RX7 yX7_charAt yX7_charAt, Cond.code yX7_charAt cX7_charAt 2 (some .int), Cond.fieldLink RX7 94 "DeadTimeLoopModel" "length" "I"]
def wsX7_isAssignment_r2 : List Cond := [Cond.fieldLink RX7 38 "DeadTimeLoopModel" "text" "[I", Cond.methodLink RX7 66 yX7_in, Cond.static yX7_in, Cond.code yX7_in cX7_in 6 (some .boolean)]
def wsX7_isAssignment : List Cond := .code yX7_isAssignment cX7_isAssignment 3 (some .boolean) :: ((wsX7_isAssignment_r1 ++ wsX7_isAssignment_r2) ++ wsX70)
def wsX7_faultOf_r1 : List Cond := [Cond.fieldLink RX7 98 "DeadTimeLoopModel" "spot" "I", Cond.fieldLink RX7 94 "DeadTimeLoopModel" "length" "I", Cond.constant RX7 82 (-2000000004), Cond.methodLink RX7 120 yX7_isAssignment, Cond.instanceMethod yX7_isAssignment, Cond.selects RX7 yX7_isAssignment yX7_isAssignment, Cond.initialized RX7, Cond.code yX7_isAssignment cX7_isAssignment 3 (some .boolean), Cond.fieldLink RX7 108 "DeadTimeLoopModel" "which" "I", Cond.fieldLink RX7 111 "DeadTimeLoopModel" "number" "I", Cond.constantLong RX7 114 (48), Cond.constantLong RX7 116 (57), Cond.constantLong RX7 118 (7), Cond.fieldLink RX7 29 "DeadTimeLoopModel" "low" "[I", Cond.fieldLink RX7 32 "DeadTimeLoopModel" "high" "[I", Cond.methodLink RX7 104 yX7_named, Cond.instanceMethod yX7_named, Cond.selects RX7 yX7_named yX7_named, Cond.code yX7_named cX7_named 5 (some .int), Cond.fieldLink RX7 35 "DeadTimeLoopModel" "names" "[I", Cond.methodLink RX7 78 yX7_longOf, Cond.instanceMethod yX7_longOf, Cond.selects RX7 yX7_longOf yX7_longOf, Cond.code yX7_longOf cX7_longOf 3 (some .int)]
def wsX7_faultOf_r2 : List Cond := [Cond.methodLink RX7 101 yX7_charAt, Cond.instanceMethod yX7_charAt, Cond.selects RX7 yX7_charAt yX7_charAt, Cond.code yX7_charAt cX7_charAt 2 (some .int), Cond.fieldLink RX7 38 "DeadTimeLoopModel" "text" "[I", Cond.methodLink RX7 66 yX7_in, Cond.static yX7_in, Cond.code yX7_in cX7_in 6 (some .boolean)]
def wsX7_faultOf : List Cond := .code yX7_faultOf cX7_faultOf 2 (some .int) :: ((wsX7_faultOf_r1 ++ wsX7_faultOf_r2) ++ wsX70)
def wsX7_fault_r1 : List Cond := [Cond.methodLink RX7 124 yX7_faultOf, Cond.instanceMethod yX7_faultOf, Cond.selects RX7 yX7_faultOf yX7_faultOf, Cond.initialized RX7, Cond.code yX7_faultOf cX7_faultOf 2 (some .int), Cond.fieldLink RX7 98 "DeadTimeLoopModel" "spot" "I", Cond.fieldLink RX7 94 "DeadTimeLoopModel" "length" "I", Cond.constant RX7 82 (-2000000004), Cond.methodLink RX7 120 yX7_isAssignment, Cond.instanceMethod yX7_isAssignment, Cond.selects RX7 yX7_isAssignment yX7_isAssignment, Cond.code yX7_isAssignment cX7_isAssignment 3 (some .boolean), Cond.fieldLink RX7 108 "DeadTimeLoopModel" "which" "I", Cond.fieldLink RX7 111 "DeadTimeLoopModel" "number" "I", Cond.constantLong RX7 114 (48), Cond.constantLong RX7 116 (57), Cond.constantLong RX7 118 (7), Cond.fieldLink RX7 29 "DeadTimeLoopModel" "low" "[I", Cond.fieldLink RX7 32 "DeadTimeLoopModel" "high" "[I", Cond.methodLink RX7 104 yX7_named, Cond.instanceMethod yX7_named, Cond.selects RX7 yX7_named yX7_named, Cond.code yX7_named cX7_named 5 (some .int), Cond.fieldLink RX7 35 "DeadTimeLoopModel" "names" "[I"]
def wsX7_fault_r2 : List Cond := [Cond.methodLink RX7 78 yX7_longOf, Cond.instanceMethod yX7_longOf, Cond.selects RX7 yX7_longOf yX7_longOf, Cond.code yX7_longOf cX7_longOf 3 (some .int), Cond.methodLink RX7 101 yX7_charAt, Cond.instanceMethod yX7_charAt, Cond.selects RX7 yX7_charAt yX7_charAt, Cond.code yX7_charAt cX7_charAt 2 (some .int), Cond.fieldLink RX7 38 "DeadTimeLoopModel" "text" "[I", Cond.methodLink RX7 66 yX7_in, Cond.static yX7_in, Cond.code yX7_in cX7_in 6 (some .boolean)]
def wsX7_fault : List Cond := .code yX7_fault cX7_fault 1 (some .int) :: ((wsX7_fault_r1 ++ wsX7_fault_r2) ++ wsX70)
def wsX7_apply_r1 : List Cond := [Cond.fieldLink RX7 94 "DeadTimeLoopModel" "length" "I", Cond.constant RX7 82 (-2000000004), Cond.constant RX7 83 (-2000000002), Cond.fieldLink RX7 98 "DeadTimeLoopModel" "spot" "I", Cond.fieldLink RX7 19 "DeadTimeLoopModel" "par" "[I", Cond.fieldLink RX7 108 "DeadTimeLoopModel" "which" "I", Cond.fieldLink RX7 111 "DeadTimeLoopModel" "number" "I", Cond.methodLink RX7 124 yX7_faultOf, Cond.instanceMethod yX7_faultOf, Cond.selects RX7 yX7_faultOf yX7_faultOf, Cond.initialized RX7, Cond.code yX7_faultOf cX7_faultOf 2 (some .int), Cond.methodLink RX7 120 yX7_isAssignment, Cond.instanceMethod yX7_isAssignment, Cond.selects RX7 yX7_isAssignment yX7_isAssignment, Cond.code yX7_isAssignment cX7_isAssignment 3 (some .boolean), Cond.constantLong RX7 114 (48), Cond.constantLong RX7 116 (57), Cond.constantLong RX7 118 (7), Cond.fieldLink RX7 29 "DeadTimeLoopModel" "low" "[I", Cond.fieldLink RX7 32 "DeadTimeLoopModel" "high" "[I", Cond.methodLink RX7 104 yX7_named, Cond.instanceMethod yX7_named, Cond.selects RX7 yX7_named yX7_named]
def wsX7_apply_r2 : List Cond := [Cond.code yX7_named cX7_named 5 (some .int), Cond.fieldLink RX7 35 "DeadTimeLoopModel" "names" "[I", Cond.methodLink RX7 78 yX7_longOf, Cond.instanceMethod yX7_longOf, Cond.selects RX7 yX7_longOf yX7_longOf, Cond.code yX7_longOf cX7_longOf 3 (some .int), Cond.methodLink RX7 101 yX7_charAt, Cond.instanceMethod yX7_charAt, Cond.selects RX7 yX7_charAt yX7_charAt, Cond.code yX7_charAt cX7_charAt 2 (some .int), Cond.fieldLink RX7 38 "DeadTimeLoopModel" "text" "[I", Cond.methodLink RX7 66 yX7_in, Cond.static yX7_in, Cond.code yX7_in cX7_in 6 (some .boolean), Cond.methodLink RX7 75 yX7_keeps, Cond.instanceMethod yX7_keeps, Cond.selects RX7 yX7_keeps yX7_keeps, Cond.code yX7_keeps cX7_keeps 2 none, Cond.fieldLink RX7 60 "DeadTimeLoopModel" "undoMany" "I", Cond.fieldLink RX7 26 "DeadTimeLoopModel" "before" "[I"]
def wsX7_apply : List Cond := .code yX7_apply cX7_apply 2 (some .int) :: ((wsX7_apply_r1 ++ wsX7_apply_r2) ++ wsX70)
def wsX7_assignedBy_r1 : List Cond := [Cond.fieldLink RX7 98 "DeadTimeLoopModel" "spot" "I", Cond.fieldLink RX7 94 "DeadTimeLoopModel" "length" "I", Cond.fieldLink RX7 108 "DeadTimeLoopModel" "which" "I", Cond.constant RX7 82 (-2000000004), Cond.methodLink RX7 120 yX7_isAssignment, Cond.instanceMethod yX7_isAssignment, Cond.selects RX7 yX7_isAssignment yX7_isAssignment, Cond.initialized RX7, Cond.code yX7_isAssignment cX7_isAssignment 3 (some .boolean), Cond.fieldLink RX7 111 "DeadTimeLoopModel" "number" "I", Cond.constantLong RX7 114 (48), Cond.constantLong RX7 116 (57), Cond.constantLong RX7 118 (7), Cond.fieldLink RX7 29 "DeadTimeLoopModel" "low" "[I", Cond.fieldLink RX7 32 "DeadTimeLoopModel" "high" "[I", Cond.methodLink RX7 104 yX7_named, Cond.instanceMethod yX7_named, Cond.selects RX7 yX7_named yX7_named, Cond.code yX7_named cX7_named 5 (some .int), Cond.fieldLink RX7 35 "DeadTimeLoopModel" "names" "[I", Cond.methodLink RX7 78 yX7_longOf, Cond.instanceMethod yX7_longOf, Cond.selects RX7 yX7_longOf yX7_longOf, Cond.code yX7_longOf cX7_longOf 3 (some .int)]
def wsX7_assignedBy_r2 : List Cond := [Cond.methodLink RX7 101 yX7_charAt, Cond.instanceMethod yX7_charAt, Cond.selects RX7 yX7_charAt yX7_charAt, Cond.code yX7_charAt cX7_charAt 2 (some .int), Cond.fieldLink RX7 38 "DeadTimeLoopModel" "text" "[I", Cond.methodLink RX7 66 yX7_in, Cond.static yX7_in, Cond.code yX7_in cX7_in 6 (some .boolean)]
def wsX7_assignedBy : List Cond := .code yX7_assignedBy cX7_assignedBy 4 (some .int) :: ((wsX7_assignedBy_r1 ++ wsX7_assignedBy_r2) ++ wsX70)
def wsX7_assigned_r1 : List Cond := [Cond.constant RX7 82 (-2000000004), Cond.constant RX7 83 (-2000000002), Cond.methodLink RX7 124 yX7_faultOf, Cond.instanceMethod yX7_faultOf, Cond.selects RX7 yX7_faultOf yX7_faultOf, Cond.initialized RX7, Cond.code yX7_faultOf cX7_faultOf 2 (some .int), Cond.fieldLink RX7 98 "DeadTimeLoopModel" "spot" "I", Cond.fieldLink RX7 94 "DeadTimeLoopModel" "length" "I", Cond.methodLink RX7 120 yX7_isAssignment, Cond.instanceMethod yX7_isAssignment, Cond.selects RX7 yX7_isAssignment yX7_isAssignment, Cond.code yX7_isAssignment cX7_isAssignment 3 (some .boolean), Cond.fieldLink RX7 108 "DeadTimeLoopModel" "which" "I", Cond.fieldLink RX7 111 "DeadTimeLoopModel" "number" "I", Cond.constantLong RX7 114 (48), Cond.constantLong RX7 116 (57), Cond.constantLong RX7 118 (7), Cond.fieldLink RX7 29 "DeadTimeLoopModel" "low" "[I", Cond.fieldLink RX7 32 "DeadTimeLoopModel" "high" "[I", Cond.methodLink RX7 104 yX7_named, Cond.instanceMethod yX7_named, Cond.selects RX7 yX7_named yX7_named, Cond.code yX7_named cX7_named 5 (some .int)]
def wsX7_assigned_r2 : List Cond := [Cond.fieldLink RX7 35 "DeadTimeLoopModel" "names" "[I", Cond.methodLink RX7 78 yX7_longOf, Cond.instanceMethod yX7_longOf, Cond.selects RX7 yX7_longOf yX7_longOf, Cond.code yX7_longOf cX7_longOf 3 (some .int), Cond.methodLink RX7 101 yX7_charAt, Cond.instanceMethod yX7_charAt, Cond.selects RX7 yX7_charAt yX7_charAt, Cond.code yX7_charAt cX7_charAt 2 (some .int), Cond.fieldLink RX7 38 "DeadTimeLoopModel" "text" "[I", Cond.methodLink RX7 66 yX7_in, Cond.static yX7_in, Cond.code yX7_in cX7_in 6 (some .boolean), Cond.methodLink RX7 127 yX7_assignedBy, Cond.instanceMethod yX7_assignedBy, Cond.selects RX7 yX7_assignedBy yX7_assignedBy, Cond.code yX7_assignedBy cX7_assignedBy 4 (some .int)]
def wsX7_assigned : List Cond := .code yX7_assigned cX7_assigned 1 (some .int) :: ((wsX7_assigned_r1 ++ wsX7_assigned_r2) ++ wsX70)
def wsX7_assignedAt_r1 : List Cond := [Cond.constant RX7 74 (-2000000001), Cond.constant RX7 82 (-2000000004), Cond.constant RX7 83 (-2000000002), Cond.methodLink RX7 124 yX7_faultOf, Cond.instanceMethod yX7_faultOf, Cond.selects RX7 yX7_faultOf yX7_faultOf, Cond.initialized RX7, Cond.code yX7_faultOf cX7_faultOf 2 (some .int), Cond.fieldLink RX7 98 "DeadTimeLoopModel" "spot" "I", Cond.fieldLink RX7 94 "DeadTimeLoopModel" "length" "I", Cond.methodLink RX7 120 yX7_isAssignment, Cond.instanceMethod yX7_isAssignment, Cond.selects RX7 yX7_isAssignment yX7_isAssignment, Cond.code yX7_isAssignment cX7_isAssignment 3 (some .boolean), Cond.fieldLink RX7 108 "DeadTimeLoopModel" "which" "I", Cond.fieldLink RX7 111 "DeadTimeLoopModel" "number" "I", Cond.constantLong RX7 114 (48), Cond.constantLong RX7 116 (57), Cond.constantLong RX7 118 (7), Cond.fieldLink RX7 29 "DeadTimeLoopModel" "low" "[I", Cond.fieldLink RX7 32 "DeadTimeLoopModel" "high" "[I", Cond.methodLink RX7 104 yX7_named, Cond.instanceMethod yX7_named, Cond.selects RX7 yX7_named yX7_named]
def wsX7_assignedAt_r2 : List Cond := [Cond.code yX7_named cX7_named 5 (some .int), Cond.fieldLink RX7 35 "DeadTimeLoopModel" "names" "[I", Cond.methodLink RX7 78 yX7_longOf, Cond.instanceMethod yX7_longOf, Cond.selects RX7 yX7_longOf yX7_longOf, Cond.code yX7_longOf cX7_longOf 3 (some .int), Cond.methodLink RX7 101 yX7_charAt, Cond.instanceMethod yX7_charAt, Cond.selects RX7 yX7_charAt yX7_charAt, Cond.code yX7_charAt cX7_charAt 2 (some .int), Cond.fieldLink RX7 38 "DeadTimeLoopModel" "text" "[I", Cond.methodLink RX7 66 yX7_in, Cond.static yX7_in, Cond.code yX7_in cX7_in 6 (some .boolean), Cond.methodLink RX7 127 yX7_assignedBy, Cond.instanceMethod yX7_assignedBy, Cond.selects RX7 yX7_assignedBy yX7_assignedBy, Cond.code yX7_assignedBy cX7_assignedBy 4 (some .int)]
def wsX7_assignedAt : List Cond := .code yX7_assignedAt cX7_assignedAt 2 (some .int) :: ((wsX7_assignedAt_r1 ++ wsX7_assignedAt_r2) ++ wsX70)
def wsX7_at : List Cond := .code yX7_at cX7_at 4 (some .long) :: ([.fieldLink RX7 7 "DeadTimeLoopModel" "now" "[J", .constantLong RX7 130 (64)] ++ wsX70)
def wsX7_records : List Cond := .code yX7_records cX7_records 4 none :: ([.fieldLink RX7 7 "DeadTimeLoopModel" "now" "[J", .constantLong RX7 130 (64)] ++ wsX70)
def wsX7_delayed : List Cond := .code yX7_delayed cX7_delayed 7 (some .long) :: ([.fieldLink RX7 7 "DeadTimeLoopModel" "now" "[J", .constantLong RX7 136 (10), .methodLink RX7 132 yX7_at, .instanceMethod yX7_at, .selects RX7 yX7_at yX7_at, .initialized RX7, .code yX7_at cX7_at 4 (some .long), .constantLong RX7 130 (64), .methodLink RX7 138 yX7_floor, .static yX7_floor, .code yX7_floor cX7_floor 6 (some .long)] ++ wsX70)
def wsX7_steps : List Cond := .code yX7_steps cX7_steps 6 (some .long) :: ([.constantLong RX7 142 (1000), .methodLink RX7 138 yX7_floor, .static yX7_floor, .initialized RX7, .code yX7_floor cX7_floor 6 (some .long)])
def wsX7_noise : List Cond := .code yX7_noise cX7_noise 3 (some .long) :: ([.constantLong RX7 144 (7919), .fieldLink RX7 7 "DeadTimeLoopModel" "now" "[J", .constantLong RX7 146 (6151), .constantLong RX7 148 (65521), .constantLong RX7 150 (2), .fieldLink RX7 19 "DeadTimeLoopModel" "par" "[I"] ++ wsX70)
def wsX7_judges : List Cond := .code yX7_judges cX7_judges 5 none :: ([.fieldLink RX7 19 "DeadTimeLoopModel" "par" "[I", .fieldLink RX7 7 "DeadTimeLoopModel" "now" "[J", .constantLong RX7 150 (2), .methodLink RX7 152 yX7_size, .static yX7_size, .initialized RX7, .code yX7_size cX7_size 2 (some .long)] ++ wsX70)
def wsX7_controls : List Cond := .code yX7_controls cX7_controls 17 none :: ([.fieldLink RX7 7 "DeadTimeLoopModel" "now" "[J", .fieldLink RX7 156 "DeadTimeLoopModel" "isIdeal" "Z", .fieldLink RX7 19 "DeadTimeLoopModel" "par" "[I", .constantLong RX7 142 (1000), .methodLink RX7 138 yX7_floor, .static yX7_floor, .initialized RX7, .code yX7_floor cX7_floor 6 (some .long), .methodLink RX7 152 yX7_size, .static yX7_size, .code yX7_size cX7_size 2 (some .long)] ++ wsX70)
def wsX7_measures : List Cond := .code yX7_measures cX7_measures 3 none :: ([.fieldLink RX7 7 "DeadTimeLoopModel" "now" "[J", .methodLink RX7 152 yX7_size, .static yX7_size, .initialized RX7, .code yX7_size cX7_size 2 (some .long)] ++ wsX70)
def wsX7_watches : List Cond := .code yX7_watches cX7_watches 6 none :: ([.fieldLink RX7 7 "DeadTimeLoopModel" "now" "[J", .methodLink RX7 132 yX7_at, .instanceMethod yX7_at, .selects RX7 yX7_at yX7_at, .initialized RX7, .code yX7_at cX7_at 4 (some .long), .constantLong RX7 130 (64)] ++ wsX70)
def wsX7_ticks_r1 : List Cond := [Cond.fieldLink RX7 7 "DeadTimeLoopModel" "now" "[J", Cond.fieldLink RX7 19 "DeadTimeLoopModel" "par" "[I", Cond.fieldLink RX7 156 "DeadTimeLoopModel" "isIdeal" "Z", Cond.constantLong RX7 142 (1000), Cond.methodLink RX7 160 yX7_noise, Cond.instanceMethod yX7_noise, Cond.selects RX7 yX7_noise yX7_noise, Cond.initialized RX7, Cond.code yX7_noise cX7_noise 3 (some .long), Cond.constantLong RX7 144 (7919), Cond.constantLong RX7 146 (6151), Cond.constantLong RX7 148 (65521), Cond.constantLong RX7 150 (2), Cond.methodLink RX7 164 yX7_records, Cond.instanceMethod yX7_records, Cond.selects RX7 yX7_records yX7_records, Cond.code yX7_records cX7_records 4 none, Cond.constantLong RX7 130 (64), Cond.methodLink RX7 168 yX7_delayed, Cond.instanceMethod yX7_delayed, Cond.selects RX7 yX7_delayed yX7_delayed, Cond.code yX7_delayed cX7_delayed 7 (some .long), Cond.constantLong RX7 136 (10), Cond.methodLink RX7 132 yX7_at]
def wsX7_ticks_r2 : List Cond := [Cond.instanceMethod yX7_at, Cond.selects RX7 yX7_at yX7_at, Cond.code yX7_at cX7_at 4 (some .long), Cond.methodLink RX7 138 yX7_floor, Cond.static yX7_floor, Cond.code yX7_floor cX7_floor 6 (some .long), Cond.methodLink RX7 172 yX7_steps, Cond.instanceMethod yX7_steps, Cond.selects RX7 yX7_steps yX7_steps, Cond.code yX7_steps cX7_steps 6 (some .long), Cond.methodLink RX7 176 yX7_judges, Cond.instanceMethod yX7_judges, Cond.selects RX7 yX7_judges yX7_judges, Cond.code yX7_judges cX7_judges 5 none, Cond.methodLink RX7 152 yX7_size, Cond.static yX7_size, Cond.code yX7_size cX7_size 2 (some .long), Cond.methodLink RX7 180 yX7_controls, Cond.instanceMethod yX7_controls, Cond.selects RX7 yX7_controls yX7_controls, Cond.code yX7_controls cX7_controls 17 none, Cond.methodLink RX7 183 yX7_measures, Cond.instanceMethod yX7_measures, Cond.selects RX7 yX7_measures yX7_measures]
def wsX7_ticks_r3 : List Cond := [Cond.code yX7_measures cX7_measures 3 none, Cond.methodLink RX7 186 yX7_watches, Cond.instanceMethod yX7_watches, Cond.selects RX7 yX7_watches yX7_watches, Cond.code yX7_watches cX7_watches 6 none]
def wsX7_ticks : List Cond := .code yX7_ticks cX7_ticks 5 none :: ((wsX7_ticks_r1 ++ (wsX7_ticks_r2 ++ wsX7_ticks_r3)) ++ wsX70)
def wsX7_run_r1 : List Cond := [Cond.constantLong RX7 189 (500), Cond.constant RX7 74 (-2000000001), Cond.fieldLink RX7 7 "DeadTimeLoopModel" "now" "[J", Cond.constantLong RX7 86 (100000), Cond.constant RX7 97 (-2000000003), Cond.methodLink RX7 66 yX7_in, Cond.static yX7_in, Cond.initialized RX7, Cond.code yX7_in cX7_in 6 (some .boolean), Cond.methodLink RX7 191 yX7_ticks, Cond.instanceMethod yX7_ticks, Cond.selects RX7 yX7_ticks yX7_ticks, Cond.code yX7_ticks cX7_ticks 5 none, Cond.fieldLink RX7 19 "DeadTimeLoopModel" "par" "[I", Cond.fieldLink RX7 156 "DeadTimeLoopModel" "isIdeal" "Z", Cond.constantLong RX7 142 (1000), Cond.methodLink RX7 160 yX7_noise, Cond.instanceMethod yX7_noise, Cond.selects RX7 yX7_noise yX7_noise, Cond.code yX7_noise cX7_noise 3 (some .long), Cond.constantLong RX7 144 (7919), Cond.constantLong RX7 146 (6151), Cond.constantLong RX7 148 (65521), Cond.constantLong RX7 150 (2)]
def wsX7_run_r2 : List Cond := [Cond.methodLink RX7 164 yX7_records, Cond.instanceMethod yX7_records, Cond.selects RX7 yX7_records yX7_records, Cond.code yX7_records cX7_records 4 none, Cond.constantLong RX7 130 (64), Cond.methodLink RX7 168 yX7_delayed, Cond.instanceMethod yX7_delayed, Cond.selects RX7 yX7_delayed yX7_delayed, Cond.code yX7_delayed cX7_delayed 7 (some .long), Cond.constantLong RX7 136 (10), Cond.methodLink RX7 132 yX7_at, Cond.instanceMethod yX7_at, Cond.selects RX7 yX7_at yX7_at, Cond.code yX7_at cX7_at 4 (some .long), Cond.methodLink RX7 138 yX7_floor, Cond.static yX7_floor, Cond.code yX7_floor cX7_floor 6 (some .long), Cond.methodLink RX7 172 yX7_steps, Cond.instanceMethod yX7_steps, Cond.selects RX7 yX7_steps yX7_steps, Cond.code yX7_steps cX7_steps 6 (some .long), Cond.methodLink RX7 176 yX7_judges, Cond.instanceMethod yX7_judges, Cond.selects RX7 yX7_judges yX7_judges]
def wsX7_run_r3 : List Cond := [Cond.code yX7_judges cX7_judges 5 none, Cond.methodLink RX7 152 yX7_size, Cond.static yX7_size, Cond.code yX7_size cX7_size 2 (some .long), Cond.methodLink RX7 180 yX7_controls, Cond.instanceMethod yX7_controls, Cond.selects RX7 yX7_controls yX7_controls, Cond.code yX7_controls cX7_controls 17 none, Cond.methodLink RX7 183 yX7_measures, Cond.instanceMethod yX7_measures, Cond.selects RX7 yX7_measures yX7_measures, Cond.code yX7_measures cX7_measures 3 none, Cond.methodLink RX7 186 yX7_watches, Cond.instanceMethod yX7_watches, Cond.selects RX7 yX7_watches yX7_watches, Cond.code yX7_watches cX7_watches 6 none]
def wsX7_run : List Cond := .code yX7_run cX7_run 3 (some .int) :: ((wsX7_run_r1 ++ (wsX7_run_r2 ++ wsX7_run_r3)) ++ wsX70)
def wsX7_time : List Cond := .code yX7_time cX7_time 1 (some .int) :: ([.fieldLink RX7 7 "DeadTimeLoopModel" "now" "[J"] ++ wsX70)
def wsX7_isSignal : List Cond := .code yX7_isSignal cX7_isSignal 1 (some .boolean) :: ([.constantLong RX7 194 (9), .methodLink RX7 66 yX7_in, .static yX7_in, .initialized RX7, .code yX7_in cX7_in 6 (some .boolean)])
def wsX7_present : List Cond := .code yX7_present cX7_present 2 (some .int) :: ([.fieldLink RX7 7 "DeadTimeLoopModel" "now" "[J"] ++ wsX70)
def wsX7_value : List Cond := .code yX7_value cX7_value 2 (some .int) :: ([.constant RX7 74 (-2000000001), .methodLink RX7 196 yX7_isSignal, .static yX7_isSignal, .initialized RX7, .code yX7_isSignal cX7_isSignal 1 (some .boolean), .constantLong RX7 194 (9), .methodLink RX7 66 yX7_in, .static yX7_in, .code yX7_in cX7_in 6 (some .boolean), .methodLink RX7 199 yX7_present, .instanceMethod yX7_present, .selects RX7 yX7_present yX7_present, .code yX7_present cX7_present 2 (some .int), .fieldLink RX7 7 "DeadTimeLoopModel" "now" "[J"] ++ wsX70)
def wsX7_recorded : List Cond := .code yX7_recorded cX7_recorded 3 (some .int) :: ([.constantLong RX7 202 (63), .constant RX7 74 (-2000000001), .fieldLink RX7 7 "DeadTimeLoopModel" "now" "[J", .constant RX7 82 (-2000000004), .methodLink RX7 196 yX7_isSignal, .static yX7_isSignal, .initialized RX7, .code yX7_isSignal cX7_isSignal 1 (some .boolean), .constantLong RX7 194 (9), .methodLink RX7 66 yX7_in, .static yX7_in, .code yX7_in cX7_in 6 (some .boolean), .methodLink RX7 132 yX7_at, .instanceMethod yX7_at, .selects RX7 yX7_at yX7_at, .code yX7_at cX7_at 4 (some .long), .constantLong RX7 130 (64)] ++ wsX70)
def wsX7_clears : List Cond := .code yX7_clears cX7_clears 2 none :: ([.fieldLink RX7 7 "DeadTimeLoopModel" "now" "[J"] ++ wsX70)
def wsX7_restart : List Cond := .code yX7_restart cX7_restart 2 (some .int) :: ([.fieldLink RX7 7 "DeadTimeLoopModel" "now" "[J", .fieldLink RX7 207 "DeadTimeLoopModel" "keptMany" "I", .methodLink RX7 204 yX7_clears, .instanceMethod yX7_clears, .selects RX7 yX7_clears yX7_clears, .initialized RX7, .code yX7_clears cX7_clears 2 none] ++ wsX70)
def wsX7_placeOf : List Cond := .code yX7_placeOf cX7_placeOf 3 (some .int) :: ([.fieldLink RX7 7 "DeadTimeLoopModel" "now" "[J", .constant RX7 82 (-2000000004)] ++ wsX70)
def wsX7_watch : List Cond := .code yX7_watch cX7_watch 3 (some .int) :: ([.constant RX7 74 (-2000000001), .fieldLink RX7 7 "DeadTimeLoopModel" "now" "[J", .constantLong RX7 213 (4), .constant RX7 97 (-2000000003), .methodLink RX7 196 yX7_isSignal, .static yX7_isSignal, .initialized RX7, .code yX7_isSignal cX7_isSignal 1 (some .boolean), .constantLong RX7 194 (9), .methodLink RX7 66 yX7_in, .static yX7_in, .code yX7_in cX7_in 6 (some .boolean), .methodLink RX7 210 yX7_placeOf, .instanceMethod yX7_placeOf, .selects RX7 yX7_placeOf yX7_placeOf, .code yX7_placeOf cX7_placeOf 3 (some .int), .constant RX7 82 (-2000000004)] ++ wsX70)
def wsX7_unwatch : List Cond := .code yX7_unwatch cX7_unwatch 4 (some .int) :: ([.constant RX7 74 (-2000000001), .constant RX7 82 (-2000000004), .fieldLink RX7 7 "DeadTimeLoopModel" "now" "[J", .constantLong RX7 215 (661), .constantLong RX7 217 (5), .methodLink RX7 196 yX7_isSignal, .static yX7_isSignal, .initialized RX7, .code yX7_isSignal cX7_isSignal 1 (some .boolean), .constantLong RX7 194 (9), .methodLink RX7 66 yX7_in, .static yX7_in, .code yX7_in cX7_in 6 (some .boolean), .methodLink RX7 210 yX7_placeOf, .instanceMethod yX7_placeOf, .selects RX7 yX7_placeOf yX7_placeOf, .code yX7_placeOf cX7_placeOf 3 (some .int)] ++ wsX70)
def wsX7_watchedAt : List Cond := .code yX7_watchedAt cX7_watchedAt 2 (some .int) :: ([.constant RX7 74 (-2000000001), .fieldLink RX7 7 "DeadTimeLoopModel" "now" "[J", .constant RX7 82 (-2000000004)] ++ wsX70)
def wsX7_extreme : List Cond := .code yX7_extreme cX7_extreme 4 (some .int) :: ([.constantLong RX7 150 (2), .constant RX7 74 (-2000000001), .constant RX7 83 (-2000000002), .fieldLink RX7 7 "DeadTimeLoopModel" "now" "[J", .constant RX7 82 (-2000000004), .methodLink RX7 196 yX7_isSignal, .static yX7_isSignal, .initialized RX7, .code yX7_isSignal cX7_isSignal 1 (some .boolean), .constantLong RX7 194 (9), .methodLink RX7 66 yX7_in, .static yX7_in, .code yX7_in cX7_in 6 (some .boolean), .methodLink RX7 210 yX7_placeOf, .instanceMethod yX7_placeOf, .selects RX7 yX7_placeOf yX7_placeOf, .code yX7_placeOf cX7_placeOf 3 (some .int)] ++ wsX70)
def wsX7_measure : List Cond := .code yX7_measure cX7_measure 2 (some .long) :: ([.constantLong RX7 219 (3), .fieldLink RX7 7 "DeadTimeLoopModel" "now" "[J", .constantLong RX7 221 (-2000000001), .methodLink RX7 66 yX7_in, .static yX7_in, .initialized RX7, .code yX7_in cX7_in 6 (some .boolean)] ++ wsX70)
def wsX7_settledTicks : List Cond := .code yX7_settledTicks cX7_settledTicks 3 (some .int) :: ([.constantLong RX7 86 (100000), .constant RX7 74 (-2000000001), .fieldLink RX7 7 "DeadTimeLoopModel" "now" "[J", .methodLink RX7 66 yX7_in, .static yX7_in, .initialized RX7, .code yX7_in cX7_in 6 (some .boolean), .methodLink RX7 132 yX7_at, .instanceMethod yX7_at, .selects RX7 yX7_at yX7_at, .code yX7_at cX7_at 4 (some .long), .constantLong RX7 130 (64), .methodLink RX7 152 yX7_size, .static yX7_size, .code yX7_size cX7_size 2 (some .long)] ++ wsX70)
def wsX7_store : List Cond := .code yX7_store cX7_store 2 (some .int) :: ([.fieldLink RX7 207 "DeadTimeLoopModel" "keptMany" "I", .constant RX7 97 (-2000000003), .fieldLink RX7 16 "DeadTimeLoopModel" "kept" "[J", .fieldLink RX7 7 "DeadTimeLoopModel" "now" "[J"] ++ wsX70)
def wsX7_recall : List Cond := .code yX7_recall cX7_recall 2 (some .int) :: ([.fieldLink RX7 207 "DeadTimeLoopModel" "keptMany" "I", .constant RX7 83 (-2000000002), .fieldLink RX7 7 "DeadTimeLoopModel" "now" "[J", .fieldLink RX7 16 "DeadTimeLoopModel" "kept" "[J"] ++ wsX70)
def wsX7_correlationOf : List Cond := .code yX7_correlationOf cX7_correlationOf 6 (some .long) :: ([.fieldLink RX7 7 "DeadTimeLoopModel" "now" "[J", .constantLong RX7 90 (32), .constantLong RX7 150 (2), .fieldLink RX7 19 "DeadTimeLoopModel" "par" "[I", .methodLink RX7 132 yX7_at, .instanceMethod yX7_at, .selects RX7 yX7_at yX7_at, .initialized RX7, .code yX7_at cX7_at 4 (some .long), .constantLong RX7 130 (64)] ++ wsX70)
def wsX7_correlation : List Cond := .code yX7_correlation cX7_correlation 2 (some .long) :: ([.constantLong RX7 223 (30), .constantLong RX7 221 (-2000000001), .methodLink RX7 66 yX7_in, .static yX7_in, .initialized RX7, .code yX7_in cX7_in 6 (some .boolean), .methodLink RX7 225 yX7_correlationOf, .instanceMethod yX7_correlationOf, .selects RX7 yX7_correlationOf yX7_correlationOf, .code yX7_correlationOf cX7_correlationOf 6 (some .long), .fieldLink RX7 7 "DeadTimeLoopModel" "now" "[J", .constantLong RX7 90 (32), .constantLong RX7 150 (2), .fieldLink RX7 19 "DeadTimeLoopModel" "par" "[I", .methodLink RX7 132 yX7_at, .instanceMethod yX7_at, .selects RX7 yX7_at yX7_at, .code yX7_at cX7_at 4 (some .long), .constantLong RX7 130 (64)] ++ wsX70)
def wsX7_bestLag : List Cond := .code yX7_bestLag cX7_bestLag 7 (some .int) :: ([.constant RX7 82 (-2000000004), .methodLink RX7 225 yX7_correlationOf, .instanceMethod yX7_correlationOf, .selects RX7 yX7_correlationOf yX7_correlationOf, .initialized RX7, .code yX7_correlationOf cX7_correlationOf 6 (some .long), .fieldLink RX7 7 "DeadTimeLoopModel" "now" "[J", .constantLong RX7 90 (32), .constantLong RX7 150 (2), .fieldLink RX7 19 "DeadTimeLoopModel" "par" "[I", .methodLink RX7 132 yX7_at, .instanceMethod yX7_at, .selects RX7 yX7_at yX7_at, .code yX7_at cX7_at 4 (some .long), .constantLong RX7 130 (64)] ++ wsX70)
def wsX7_estimatedLag : List Cond := .code yX7_estimatedLag cX7_estimatedLag 1 (some .int) :: ([.methodLink RX7 229 yX7_bestLag, .instanceMethod yX7_bestLag, .selects RX7 yX7_bestLag yX7_bestLag, .initialized RX7, .code yX7_bestLag cX7_bestLag 7 (some .int), .constant RX7 82 (-2000000004), .methodLink RX7 225 yX7_correlationOf, .instanceMethod yX7_correlationOf, .selects RX7 yX7_correlationOf yX7_correlationOf, .code yX7_correlationOf cX7_correlationOf 6 (some .long), .fieldLink RX7 7 "DeadTimeLoopModel" "now" "[J", .constantLong RX7 90 (32), .constantLong RX7 150 (2), .fieldLink RX7 19 "DeadTimeLoopModel" "par" "[I", .methodLink RX7 132 yX7_at, .instanceMethod yX7_at, .selects RX7 yX7_at yX7_at, .code yX7_at cX7_at 4 (some .long), .constantLong RX7 130 (64)] ++ wsX70)
def wsX7_tuneDelay_r1 : List Cond := [Cond.constantLong RX7 150 (2), Cond.constant RX7 83 (-2000000002), Cond.fieldLink RX7 19 "DeadTimeLoopModel" "par" "[I", Cond.methodLink RX7 229 yX7_bestLag, Cond.instanceMethod yX7_bestLag, Cond.selects RX7 yX7_bestLag yX7_bestLag, Cond.initialized RX7, Cond.code yX7_bestLag cX7_bestLag 7 (some .int), Cond.constant RX7 82 (-2000000004), Cond.methodLink RX7 225 yX7_correlationOf, Cond.instanceMethod yX7_correlationOf, Cond.selects RX7 yX7_correlationOf yX7_correlationOf, Cond.code yX7_correlationOf cX7_correlationOf 6 (some .long), Cond.fieldLink RX7 7 "DeadTimeLoopModel" "now" "[J", Cond.constantLong RX7 90 (32), Cond.methodLink RX7 132 yX7_at, Cond.instanceMethod yX7_at, Cond.selects RX7 yX7_at yX7_at, Cond.code yX7_at cX7_at 4 (some .long), Cond.constantLong RX7 130 (64), Cond.methodLink RX7 75 yX7_keeps, Cond.instanceMethod yX7_keeps, Cond.selects RX7 yX7_keeps yX7_keeps, Cond.code yX7_keeps cX7_keeps 2 none]
def wsX7_tuneDelay_r2 : List Cond := [Cond.fieldLink RX7 60 "DeadTimeLoopModel" "undoMany" "I", Cond.fieldLink RX7 26 "DeadTimeLoopModel" "before" "[I"]
def wsX7_tuneDelay : List Cond := .code yX7_tuneDelay cX7_tuneDelay 4 (some .int) :: ((wsX7_tuneDelay_r1 ++ wsX7_tuneDelay_r2) ++ wsX70)
def wsX7_putsAside : List Cond := .code yX7_putsAside cX7_putsAside 2 none :: ([.fieldLink RX7 13 "DeadTimeLoopModel" "aside" "[J", .fieldLink RX7 7 "DeadTimeLoopModel" "now" "[J", .fieldLink RX7 23 "DeadTimeLoopModel" "parAside" "[I", .fieldLink RX7 19 "DeadTimeLoopModel" "par" "[I"] ++ wsX70)
def wsX7_putsBack : List Cond := .code yX7_putsBack cX7_putsBack 2 none :: ([.fieldLink RX7 7 "DeadTimeLoopModel" "now" "[J", .fieldLink RX7 13 "DeadTimeLoopModel" "aside" "[J", .fieldLink RX7 19 "DeadTimeLoopModel" "par" "[I", .fieldLink RX7 23 "DeadTimeLoopModel" "parAside" "[I"] ++ wsX70)
def wsX7_ahead_r1 : List Cond := [Cond.constantLong RX7 189 (500), Cond.constant RX7 74 (-2000000001), Cond.methodLink RX7 66 yX7_in, Cond.static yX7_in, Cond.initialized RX7, Cond.code yX7_in cX7_in 6 (some .boolean), Cond.methodLink RX7 196 yX7_isSignal, Cond.static yX7_isSignal, Cond.code yX7_isSignal cX7_isSignal 1 (some .boolean), Cond.constantLong RX7 194 (9), Cond.methodLink RX7 232 yX7_putsAside, Cond.instanceMethod yX7_putsAside, Cond.selects RX7 yX7_putsAside yX7_putsAside, Cond.code yX7_putsAside cX7_putsAside 2 none, Cond.fieldLink RX7 13 "DeadTimeLoopModel" "aside" "[J", Cond.fieldLink RX7 7 "DeadTimeLoopModel" "now" "[J", Cond.fieldLink RX7 23 "DeadTimeLoopModel" "parAside" "[I", Cond.fieldLink RX7 19 "DeadTimeLoopModel" "par" "[I", Cond.methodLink RX7 191 yX7_ticks, Cond.instanceMethod yX7_ticks, Cond.selects RX7 yX7_ticks yX7_ticks, Cond.code yX7_ticks cX7_ticks 5 none, Cond.fieldLink RX7 156 "DeadTimeLoopModel" "isIdeal" "Z", Cond.constantLong RX7 142 (1000)]
def wsX7_ahead_r2 : List Cond := [Cond.methodLink RX7 160 yX7_noise, Cond.instanceMethod yX7_noise, Cond.selects RX7 yX7_noise yX7_noise, Cond.code yX7_noise cX7_noise 3 (some .long), Cond.constantLong RX7 144 (7919), Cond.constantLong RX7 146 (6151), Cond.constantLong RX7 148 (65521), Cond.constantLong RX7 150 (2), Cond.methodLink RX7 164 yX7_records, Cond.instanceMethod yX7_records, Cond.selects RX7 yX7_records yX7_records, Cond.code yX7_records cX7_records 4 none, Cond.constantLong RX7 130 (64), Cond.methodLink RX7 168 yX7_delayed, Cond.instanceMethod yX7_delayed, Cond.selects RX7 yX7_delayed yX7_delayed, Cond.code yX7_delayed cX7_delayed 7 (some .long), Cond.constantLong RX7 136 (10), Cond.methodLink RX7 132 yX7_at, Cond.instanceMethod yX7_at, Cond.selects RX7 yX7_at yX7_at, Cond.code yX7_at cX7_at 4 (some .long), Cond.methodLink RX7 138 yX7_floor, Cond.static yX7_floor]
def wsX7_ahead_r3 : List Cond := [Cond.code yX7_floor cX7_floor 6 (some .long), Cond.methodLink RX7 172 yX7_steps, Cond.instanceMethod yX7_steps, Cond.selects RX7 yX7_steps yX7_steps, Cond.code yX7_steps cX7_steps 6 (some .long), Cond.methodLink RX7 176 yX7_judges, Cond.instanceMethod yX7_judges, Cond.selects RX7 yX7_judges yX7_judges, Cond.code yX7_judges cX7_judges 5 none, Cond.methodLink RX7 152 yX7_size, Cond.static yX7_size, Cond.code yX7_size cX7_size 2 (some .long), Cond.methodLink RX7 180 yX7_controls, Cond.instanceMethod yX7_controls, Cond.selects RX7 yX7_controls yX7_controls, Cond.code yX7_controls cX7_controls 17 none, Cond.methodLink RX7 183 yX7_measures, Cond.instanceMethod yX7_measures, Cond.selects RX7 yX7_measures yX7_measures, Cond.code yX7_measures cX7_measures 3 none, Cond.methodLink RX7 186 yX7_watches, Cond.instanceMethod yX7_watches, Cond.selects RX7 yX7_watches yX7_watches, Cond.code yX7_watches cX7_watches 6 none]
def wsX7_ahead_r4 : List Cond := [Cond.methodLink RX7 199 yX7_present, Cond.instanceMethod yX7_present, Cond.selects RX7 yX7_present yX7_present, Cond.code yX7_present cX7_present 2 (some .int), Cond.methodLink RX7 235 yX7_putsBack, Cond.instanceMethod yX7_putsBack, Cond.selects RX7 yX7_putsBack yX7_putsBack, Cond.code yX7_putsBack cX7_putsBack 2 none]
def wsX7_ahead : List Cond := .code yX7_ahead cX7_ahead 4 (some .int) :: ((wsX7_ahead_r1 ++ (wsX7_ahead_r2 ++ (wsX7_ahead_r3 ++ wsX7_ahead_r4))) ++ wsX70)
def wsX7_bestGain_r1 : List Cond := [Cond.constantLong RX7 238 (100), Cond.constant RX7 74 (-2000000001), Cond.fieldLink RX7 19 "DeadTimeLoopModel" "par" "[I", Cond.fieldLink RX7 7 "DeadTimeLoopModel" "now" "[J", Cond.methodLink RX7 66 yX7_in, Cond.static yX7_in, Cond.initialized RX7, Cond.code yX7_in cX7_in 6 (some .boolean), Cond.methodLink RX7 232 yX7_putsAside, Cond.instanceMethod yX7_putsAside, Cond.selects RX7 yX7_putsAside yX7_putsAside, Cond.code yX7_putsAside cX7_putsAside 2 none, Cond.fieldLink RX7 13 "DeadTimeLoopModel" "aside" "[J", Cond.fieldLink RX7 23 "DeadTimeLoopModel" "parAside" "[I", Cond.methodLink RX7 235 yX7_putsBack, Cond.instanceMethod yX7_putsBack, Cond.selects RX7 yX7_putsBack yX7_putsBack, Cond.code yX7_putsBack cX7_putsBack 2 none, Cond.methodLink RX7 191 yX7_ticks, Cond.instanceMethod yX7_ticks, Cond.selects RX7 yX7_ticks yX7_ticks, Cond.code yX7_ticks cX7_ticks 5 none, Cond.fieldLink RX7 156 "DeadTimeLoopModel" "isIdeal" "Z", Cond.constantLong RX7 142 (1000)]
def wsX7_bestGain_r2 : List Cond := [Cond.methodLink RX7 160 yX7_noise, Cond.instanceMethod yX7_noise, Cond.selects RX7 yX7_noise yX7_noise, Cond.code yX7_noise cX7_noise 3 (some .long), Cond.constantLong RX7 144 (7919), Cond.constantLong RX7 146 (6151), Cond.constantLong RX7 148 (65521), Cond.constantLong RX7 150 (2), Cond.methodLink RX7 164 yX7_records, Cond.instanceMethod yX7_records, Cond.selects RX7 yX7_records yX7_records, Cond.code yX7_records cX7_records 4 none, Cond.constantLong RX7 130 (64), Cond.methodLink RX7 168 yX7_delayed, Cond.instanceMethod yX7_delayed, Cond.selects RX7 yX7_delayed yX7_delayed, Cond.code yX7_delayed cX7_delayed 7 (some .long), Cond.constantLong RX7 136 (10), Cond.methodLink RX7 132 yX7_at, Cond.instanceMethod yX7_at, Cond.selects RX7 yX7_at yX7_at, Cond.code yX7_at cX7_at 4 (some .long), Cond.methodLink RX7 138 yX7_floor, Cond.static yX7_floor]
def wsX7_bestGain_r3 : List Cond := [Cond.code yX7_floor cX7_floor 6 (some .long), Cond.methodLink RX7 172 yX7_steps, Cond.instanceMethod yX7_steps, Cond.selects RX7 yX7_steps yX7_steps, Cond.code yX7_steps cX7_steps 6 (some .long), Cond.methodLink RX7 176 yX7_judges, Cond.instanceMethod yX7_judges, Cond.selects RX7 yX7_judges yX7_judges, Cond.code yX7_judges cX7_judges 5 none, Cond.methodLink RX7 152 yX7_size, Cond.static yX7_size, Cond.code yX7_size cX7_size 2 (some .long), Cond.methodLink RX7 180 yX7_controls, Cond.instanceMethod yX7_controls, Cond.selects RX7 yX7_controls yX7_controls, Cond.code yX7_controls cX7_controls 17 none, Cond.methodLink RX7 183 yX7_measures, Cond.instanceMethod yX7_measures, Cond.selects RX7 yX7_measures yX7_measures, Cond.code yX7_measures cX7_measures 3 none, Cond.methodLink RX7 186 yX7_watches, Cond.instanceMethod yX7_watches, Cond.selects RX7 yX7_watches yX7_watches, Cond.code yX7_watches cX7_watches 6 none]
def wsX7_bestGain : List Cond := .code yX7_bestGain cX7_bestGain 7 (some .int) :: ((wsX7_bestGain_r1 ++ (wsX7_bestGain_r2 ++ wsX7_bestGain_r3)) ++ wsX70)
def wsX7_idealDifference_r1 : List Cond := [Cond.constantLong RX7 240 (200), Cond.constant RX7 74 (-2000000001), Cond.fieldLink RX7 19 "DeadTimeLoopModel" "par" "[I", Cond.fieldLink RX7 7 "DeadTimeLoopModel" "now" "[J", Cond.fieldLink RX7 41 "DeadTimeLoopModel" "path" "[J", Cond.fieldLink RX7 156 "DeadTimeLoopModel" "isIdeal" "Z", Cond.methodLink RX7 66 yX7_in, Cond.static yX7_in, Cond.initialized RX7, Cond.code yX7_in cX7_in 6 (some .boolean), Cond.methodLink RX7 232 yX7_putsAside, Cond.instanceMethod yX7_putsAside, Cond.selects RX7 yX7_putsAside yX7_putsAside, Cond.code yX7_putsAside cX7_putsAside 2 none, Cond.fieldLink RX7 13 "DeadTimeLoopModel" "aside" "[J", Cond.fieldLink RX7 23 "DeadTimeLoopModel" "parAside" "[I", Cond.methodLink RX7 204 yX7_clears, Cond.instanceMethod yX7_clears, Cond.selects RX7 yX7_clears yX7_clears, Cond.code yX7_clears cX7_clears 2 none, Cond.methodLink RX7 191 yX7_ticks, Cond.instanceMethod yX7_ticks, Cond.selects RX7 yX7_ticks yX7_ticks, Cond.code yX7_ticks cX7_ticks 5 none]
def wsX7_idealDifference_r2 : List Cond := [Cond.constantLong RX7 142 (1000), Cond.methodLink RX7 160 yX7_noise, Cond.instanceMethod yX7_noise, Cond.selects RX7 yX7_noise yX7_noise, Cond.code yX7_noise cX7_noise 3 (some .long), Cond.constantLong RX7 144 (7919), Cond.constantLong RX7 146 (6151), Cond.constantLong RX7 148 (65521), Cond.constantLong RX7 150 (2), Cond.methodLink RX7 164 yX7_records, Cond.instanceMethod yX7_records, Cond.selects RX7 yX7_records yX7_records, Cond.code yX7_records cX7_records 4 none, Cond.constantLong RX7 130 (64), Cond.methodLink RX7 168 yX7_delayed, Cond.instanceMethod yX7_delayed, Cond.selects RX7 yX7_delayed yX7_delayed, Cond.code yX7_delayed cX7_delayed 7 (some .long), Cond.constantLong RX7 136 (10), Cond.methodLink RX7 132 yX7_at, Cond.instanceMethod yX7_at, Cond.selects RX7 yX7_at yX7_at, Cond.code yX7_at cX7_at 4 (some .long), Cond.methodLink RX7 138 yX7_floor]
def wsX7_idealDifference_r3 : List Cond := [Cond.static yX7_floor, Cond.code yX7_floor cX7_floor 6 (some .long), Cond.methodLink RX7 172 yX7_steps, Cond.instanceMethod yX7_steps, Cond.selects RX7 yX7_steps yX7_steps, Cond.code yX7_steps cX7_steps 6 (some .long), Cond.methodLink RX7 176 yX7_judges, Cond.instanceMethod yX7_judges, Cond.selects RX7 yX7_judges yX7_judges, Cond.code yX7_judges cX7_judges 5 none, Cond.methodLink RX7 152 yX7_size, Cond.static yX7_size, Cond.code yX7_size cX7_size 2 (some .long), Cond.methodLink RX7 180 yX7_controls, Cond.instanceMethod yX7_controls, Cond.selects RX7 yX7_controls yX7_controls, Cond.code yX7_controls cX7_controls 17 none, Cond.methodLink RX7 183 yX7_measures, Cond.instanceMethod yX7_measures, Cond.selects RX7 yX7_measures yX7_measures, Cond.code yX7_measures cX7_measures 3 none, Cond.methodLink RX7 186 yX7_watches, Cond.instanceMethod yX7_watches, Cond.selects RX7 yX7_watches yX7_watches]
def wsX7_idealDifference_r4 : List Cond := [Cond.code yX7_watches cX7_watches 6 none, Cond.methodLink RX7 235 yX7_putsBack, Cond.instanceMethod yX7_putsBack, Cond.selects RX7 yX7_putsBack yX7_putsBack, Cond.code yX7_putsBack cX7_putsBack 2 none]
def wsX7_idealDifference : List Cond := .code yX7_idealDifference cX7_idealDifference 10 (some .int) :: ((wsX7_idealDifference_r1 ++ (wsX7_idealDifference_r2 ++ (wsX7_idealDifference_r3 ++ wsX7_idealDifference_r4))) ++ wsX70)
def wsJ9_abs_0f7a4 : List Cond := .code yJ9_abs_0f7a4 cJ9_abs_0f7a4 1 (some .int) :: ([])
def wsJ9_max_7cf53 : List Cond := .code yJ9_max_7cf53 cJ9_max_7cf53 2 (some .int) :: ([])
def wsJ9_max_f86c9 : List Cond := .code yJ9_max_f86c9 cJ9_max_f86c9 4 (some .long) :: ([])
def wsJ9_min_7cf53 : List Cond := .code yJ9_min_7cf53 cJ9_min_7cf53 2 (some .int) :: ([])
def wsJ9_min_f86c9 : List Cond := .code yJ9_min_f86c9 cJ9_min_f86c9 4 (some .long) :: ([])
end
section
theorem dX0_init_0 : decode cX0_init 0 = .ok (.aload_n 0, 1) := by decide +kernel
theorem dX0_init_1 : decode cX0_init 1 = .ok (.invokespecial 3, 3) := by decide +kernel
theorem dX0_init_4 : decode cX0_init 4 = .ok (.aload_n 0, 1) := by decide +kernel
theorem dX0_init_5 : decode cX0_init 5 = .ok (.bipush 6, 2) := by decide +kernel
theorem dX0_init_7 : decode cX0_init 7 = .ok (.bipush 15, 2) := by decide +kernel
theorem dX0_init_9 : decode cX0_init 9 = .ok (.multianewarray 9 2, 4) := by decide +kernel
theorem dX0_init_13 : decode cX0_init 13 = .ok (.putfield 11, 3) := by decide +kernel
theorem dX0_init_16 : decode cX0_init 16 = .ok (.aload_n 0, 1) := by decide +kernel
theorem dX0_init_17 : decode cX0_init 17 = .ok (.iconst 0, 1) := by decide +kernel
theorem dX0_init_18 : decode cX0_init 18 = .ok (.putfield 16, 3) := by decide +kernel
theorem dX0_init_21 : decode cX0_init 21 = .ok (.return_, 1) := by decide +kernel
set_option maxRecDepth 20000 in
theorem ggX0_keep_X0_forgetOldest : GoodIn wsX0_keep wsX0_forgetOldest := goodIn_r _ [11, 2, 3, 4, 5, 6, 1, 12, 13] (by decide +kernel) (by decide +kernel)
set_option maxRecDepth 20000 in
theorem gX0_keep_X0_forgetOldest : GoodIn wsX0_keep (wsV RX0 20 RX0 yX0_forgetOldest wsX0_forgetOldest) := goodIn_app (goodIn_of _ (by decide +kernel)) ggX0_keep_X0_forgetOldest
theorem dX0_keep_0 : decode cX0_keep 0 = .ok (.aload_n 0, 1) := by decide +kernel
theorem dX0_keep_1 : decode cX0_keep 1 = .ok (.getfield 16, 3) := by decide +kernel
theorem dX0_keep_4 : decode cX0_keep 4 = .ok (.bipush 6, 2) := by decide +kernel
theorem dX0_keep_6 : decode cX0_keep 6 = .ok (.if_icmp .lt 7, 3) := by decide +kernel
theorem dX0_keep_9 : decode cX0_keep 9 = .ok (.aload_n 0, 1) := by decide +kernel
theorem dX0_keep_10 : decode cX0_keep 10 = .ok (.invokevirtual 20, 3) := by decide +kernel
theorem dX0_keep_13 : decode cX0_keep 13 = .ok (.aload_n 1, 1) := by decide +kernel
theorem dX0_keep_14 : decode cX0_keep 14 = .ok (.getfield 23, 3) := by decide +kernel
theorem dX0_keep_17 : decode cX0_keep 17 = .ok (.iconst 0, 1) := by decide +kernel
theorem dX0_keep_18 : decode cX0_keep 18 = .ok (.aload_n 0, 1) := by decide +kernel
theorem dX0_keep_19 : decode cX0_keep 19 = .ok (.getfield 11, 3) := by decide +kernel
theorem dX0_keep_22 : decode cX0_keep 22 = .ok (.aload_n 0, 1) := by decide +kernel
theorem dX0_keep_23 : decode cX0_keep 23 = .ok (.getfield 16, 3) := by decide +kernel
theorem dX0_keep_26 : decode cX0_keep 26 = .ok (.aaload, 1) := by decide +kernel
theorem dX0_keep_27 : decode cX0_keep 27 = .ok (.iconst 0, 1) := by decide +kernel
theorem dX0_keep_28 : decode cX0_keep 28 = .ok (.bipush 15, 2) := by decide +kernel
theorem dX0_keep_30 : decode cX0_keep 30 = .ok (.invokestatic 29, 3) := by decide +kernel
theorem dX0_keep_33 : decode cX0_keep 33 = .ok (.aload_n 0, 1) := by decide +kernel
theorem dX0_keep_34 : decode cX0_keep 34 = .ok (.dup, 1) := by decide +kernel
theorem dX0_keep_35 : decode cX0_keep 35 = .ok (.getfield 16, 3) := by decide +kernel
theorem dX0_keep_38 : decode cX0_keep 38 = .ok (.iconst 1, 1) := by decide +kernel
theorem dX0_keep_39 : decode cX0_keep 39 = .ok (.iadd, 1) := by decide +kernel
theorem dX0_keep_40 : decode cX0_keep 40 = .ok (.putfield 16, 3) := by decide +kernel
theorem dX0_keep_43 : decode cX0_keep 43 = .ok (.return_, 1) := by decide +kernel
theorem dX0_takeBack_0 : decode cX0_takeBack 0 = .ok (.aload_n 0, 1) := by decide +kernel
theorem dX0_takeBack_1 : decode cX0_takeBack 1 = .ok (.getfield 16, 3) := by decide +kernel
theorem dX0_takeBack_4 : decode cX0_takeBack 4 = .ok (.ifCond .le 42, 3) := by decide +kernel
theorem dX0_takeBack_7 : decode cX0_takeBack 7 = .ok (.aload_n 0, 1) := by decide +kernel
theorem dX0_takeBack_8 : decode cX0_takeBack 8 = .ok (.getfield 16, 3) := by decide +kernel
theorem dX0_takeBack_11 : decode cX0_takeBack 11 = .ok (.bipush 6, 2) := by decide +kernel
theorem dX0_takeBack_13 : decode cX0_takeBack 13 = .ok (.if_icmp .gt 33, 3) := by decide +kernel
theorem dX0_takeBack_16 : decode cX0_takeBack 16 = .ok (.aload_n 0, 1) := by decide +kernel
theorem dX0_takeBack_17 : decode cX0_takeBack 17 = .ok (.dup, 1) := by decide +kernel
theorem dX0_takeBack_18 : decode cX0_takeBack 18 = .ok (.getfield 16, 3) := by decide +kernel
theorem dX0_takeBack_21 : decode cX0_takeBack 21 = .ok (.iconst 1, 1) := by decide +kernel
theorem dX0_takeBack_22 : decode cX0_takeBack 22 = .ok (.isub, 1) := by decide +kernel
theorem dX0_takeBack_23 : decode cX0_takeBack 23 = .ok (.putfield 16, 3) := by decide +kernel
theorem dX0_takeBack_26 : decode cX0_takeBack 26 = .ok (.aload_n 0, 1) := by decide +kernel
theorem dX0_takeBack_27 : decode cX0_takeBack 27 = .ok (.getfield 11, 3) := by decide +kernel
theorem dX0_takeBack_30 : decode cX0_takeBack 30 = .ok (.aload_n 0, 1) := by decide +kernel
theorem dX0_takeBack_31 : decode cX0_takeBack 31 = .ok (.getfield 16, 3) := by decide +kernel
theorem dX0_takeBack_34 : decode cX0_takeBack 34 = .ok (.aaload, 1) := by decide +kernel
theorem dX0_takeBack_35 : decode cX0_takeBack 35 = .ok (.iconst 0, 1) := by decide +kernel
theorem dX0_takeBack_36 : decode cX0_takeBack 36 = .ok (.aload_n 1, 1) := by decide +kernel
theorem dX0_takeBack_37 : decode cX0_takeBack 37 = .ok (.getfield 23, 3) := by decide +kernel
theorem dX0_takeBack_40 : decode cX0_takeBack 40 = .ok (.iconst 0, 1) := by decide +kernel
theorem dX0_takeBack_41 : decode cX0_takeBack 41 = .ok (.bipush 15, 2) := by decide +kernel
theorem dX0_takeBack_43 : decode cX0_takeBack 43 = .ok (.invokestatic 29, 3) := by decide +kernel
theorem dX0_takeBack_46 : decode cX0_takeBack 46 = .ok (.return_, 1) := by decide +kernel
theorem dX0_forgetOldest_0 : decode cX0_forgetOldest 0 = .ok (.iconst 1, 1) := by decide +kernel
theorem dX0_forgetOldest_1 : decode cX0_forgetOldest 1 = .ok (.istore_n 1, 1) := by decide +kernel
theorem dX0_forgetOldest_2 : decode cX0_forgetOldest 2 = .ok (.iload_n 1, 1) := by decide +kernel
theorem dX0_forgetOldest_3 : decode cX0_forgetOldest 3 = .ok (.bipush 6, 2) := by decide +kernel
theorem dX0_forgetOldest_5 : decode cX0_forgetOldest 5 = .ok (.if_icmp .ge 30, 3) := by decide +kernel
theorem dX0_forgetOldest_8 : decode cX0_forgetOldest 8 = .ok (.aload_n 0, 1) := by decide +kernel
theorem dX0_forgetOldest_9 : decode cX0_forgetOldest 9 = .ok (.getfield 11, 3) := by decide +kernel
theorem dX0_forgetOldest_12 : decode cX0_forgetOldest 12 = .ok (.iload_n 1, 1) := by decide +kernel
theorem dX0_forgetOldest_13 : decode cX0_forgetOldest 13 = .ok (.aaload, 1) := by decide +kernel
theorem dX0_forgetOldest_14 : decode cX0_forgetOldest 14 = .ok (.iconst 0, 1) := by decide +kernel
theorem dX0_forgetOldest_15 : decode cX0_forgetOldest 15 = .ok (.aload_n 0, 1) := by decide +kernel
theorem dX0_forgetOldest_16 : decode cX0_forgetOldest 16 = .ok (.getfield 11, 3) := by decide +kernel
theorem dX0_forgetOldest_19 : decode cX0_forgetOldest 19 = .ok (.iload_n 1, 1) := by decide +kernel
theorem dX0_forgetOldest_20 : decode cX0_forgetOldest 20 = .ok (.iconst 1, 1) := by decide +kernel
theorem dX0_forgetOldest_21 : decode cX0_forgetOldest 21 = .ok (.isub, 1) := by decide +kernel
theorem dX0_forgetOldest_22 : decode cX0_forgetOldest 22 = .ok (.aaload, 1) := by decide +kernel
theorem dX0_forgetOldest_23 : decode cX0_forgetOldest 23 = .ok (.iconst 0, 1) := by decide +kernel
theorem dX0_forgetOldest_24 : decode cX0_forgetOldest 24 = .ok (.bipush 15, 2) := by decide +kernel
theorem dX0_forgetOldest_26 : decode cX0_forgetOldest 26 = .ok (.invokestatic 29, 3) := by decide +kernel
theorem dX0_forgetOldest_29 : decode cX0_forgetOldest 29 = .ok (.iinc 1 1, 3) := by decide +kernel
theorem dX0_forgetOldest_32 : decode cX0_forgetOldest 32 = .ok (.goto (-30), 3) := by decide +kernel
theorem dX0_forgetOldest_35 : decode cX0_forgetOldest 35 = .ok (.aload_n 0, 1) := by decide +kernel
theorem dX0_forgetOldest_36 : decode cX0_forgetOldest 36 = .ok (.iconst 5, 1) := by decide +kernel
theorem dX0_forgetOldest_37 : decode cX0_forgetOldest 37 = .ok (.putfield 16, 3) := by decide +kernel
theorem dX0_forgetOldest_40 : decode cX0_forgetOldest 40 = .ok (.return_, 1) := by decide +kernel
theorem dX2_init_0 : decode cX2_init 0 = .ok (.aload_n 0, 1) := by decide +kernel
theorem dX2_init_1 : decode cX2_init 1 = .ok (.invokespecial 1, 3) := by decide +kernel
theorem dX2_init_4 : decode cX2_init 4 = .ok (.aload_n 0, 1) := by decide +kernel
theorem dX2_init_5 : decode cX2_init 5 = .ok (.lconst 0, 1) := by decide +kernel
theorem dX2_init_6 : decode cX2_init 6 = .ok (.putfield 7, 3) := by decide +kernel
theorem dX2_init_9 : decode cX2_init 9 = .ok (.aload_n 0, 1) := by decide +kernel
theorem dX2_init_10 : decode cX2_init 10 = .ok (.lconst 0, 1) := by decide +kernel
theorem dX2_init_11 : decode cX2_init 11 = .ok (.putfield 13, 3) := by decide +kernel
theorem dX2_init_14 : decode cX2_init 14 = .ok (.aload_n 0, 1) := by decide +kernel
theorem dX2_init_15 : decode cX2_init 15 = .ok (.iconst 0, 1) := by decide +kernel
theorem dX2_init_16 : decode cX2_init 16 = .ok (.putfield 16, 3) := by decide +kernel
theorem dX2_init_19 : decode cX2_init 19 = .ok (.aload_n 0, 1) := by decide +kernel
theorem dX2_init_20 : decode cX2_init 20 = .ok (.iconst 0, 1) := by decide +kernel
theorem dX2_init_21 : decode cX2_init 21 = .ok (.putfield 20, 3) := by decide +kernel
theorem dX2_init_24 : decode cX2_init 24 = .ok (.aload_n 0, 1) := by decide +kernel
theorem dX2_init_25 : decode cX2_init 25 = .ok (.iconst 1, 1) := by decide +kernel
theorem dX2_init_26 : decode cX2_init 26 = .ok (.putfield 23, 3) := by decide +kernel
theorem dX2_init_29 : decode cX2_init 29 = .ok (.return_, 1) := by decide +kernel
theorem dX2_begin_0 : decode cX2_begin 0 = .ok (.aload_n 0, 1) := by decide +kernel
theorem dX2_begin_1 : decode cX2_begin 1 = .ok (.lconst 0, 1) := by decide +kernel
theorem dX2_begin_2 : decode cX2_begin 2 = .ok (.putfield 7, 3) := by decide +kernel
theorem dX2_begin_5 : decode cX2_begin 5 = .ok (.aload_n 0, 1) := by decide +kernel
theorem dX2_begin_6 : decode cX2_begin 6 = .ok (.lconst 0, 1) := by decide +kernel
theorem dX2_begin_7 : decode cX2_begin 7 = .ok (.putfield 13, 3) := by decide +kernel
theorem dX2_begin_10 : decode cX2_begin 10 = .ok (.aload_n 0, 1) := by decide +kernel
theorem dX2_begin_11 : decode cX2_begin 11 = .ok (.iconst 0, 1) := by decide +kernel
theorem dX2_begin_12 : decode cX2_begin 12 = .ok (.putfield 16, 3) := by decide +kernel
theorem dX2_begin_15 : decode cX2_begin 15 = .ok (.aload_n 0, 1) := by decide +kernel
theorem dX2_begin_16 : decode cX2_begin 16 = .ok (.iconst 0, 1) := by decide +kernel
theorem dX2_begin_17 : decode cX2_begin 17 = .ok (.putfield 20, 3) := by decide +kernel
theorem dX2_begin_20 : decode cX2_begin 20 = .ok (.aload_n 0, 1) := by decide +kernel
theorem dX2_begin_21 : decode cX2_begin 21 = .ok (.iload_n 1, 1) := by decide +kernel
theorem dX2_begin_22 : decode cX2_begin 22 = .ok (.putfield 23, 3) := by decide +kernel
theorem dX2_begin_25 : decode cX2_begin 25 = .ok (.return_, 1) := by decide +kernel
theorem dX2_copy_0 : decode cX2_copy 0 = .ok (.aload_n 0, 1) := by decide +kernel
theorem dX2_copy_1 : decode cX2_copy 1 = .ok (.aload_n 1, 1) := by decide +kernel
theorem dX2_copy_2 : decode cX2_copy 2 = .ok (.getfield 7, 3) := by decide +kernel
theorem dX2_copy_5 : decode cX2_copy 5 = .ok (.putfield 7, 3) := by decide +kernel
theorem dX2_copy_8 : decode cX2_copy 8 = .ok (.aload_n 0, 1) := by decide +kernel
theorem dX2_copy_9 : decode cX2_copy 9 = .ok (.aload_n 1, 1) := by decide +kernel
theorem dX2_copy_10 : decode cX2_copy 10 = .ok (.getfield 13, 3) := by decide +kernel
theorem dX2_copy_13 : decode cX2_copy 13 = .ok (.putfield 13, 3) := by decide +kernel
theorem dX2_copy_16 : decode cX2_copy 16 = .ok (.aload_n 0, 1) := by decide +kernel
theorem dX2_copy_17 : decode cX2_copy 17 = .ok (.aload_n 1, 1) := by decide +kernel
theorem dX2_copy_18 : decode cX2_copy 18 = .ok (.getfield 16, 3) := by decide +kernel
theorem dX2_copy_21 : decode cX2_copy 21 = .ok (.putfield 16, 3) := by decide +kernel
theorem dX2_copy_24 : decode cX2_copy 24 = .ok (.aload_n 0, 1) := by decide +kernel
theorem dX2_copy_25 : decode cX2_copy 25 = .ok (.aload_n 1, 1) := by decide +kernel
theorem dX2_copy_26 : decode cX2_copy 26 = .ok (.getfield 20, 3) := by decide +kernel
theorem dX2_copy_29 : decode cX2_copy 29 = .ok (.putfield 20, 3) := by decide +kernel
theorem dX2_copy_32 : decode cX2_copy 32 = .ok (.aload_n 0, 1) := by decide +kernel
theorem dX2_copy_33 : decode cX2_copy 33 = .ok (.aload_n 1, 1) := by decide +kernel
theorem dX2_copy_34 : decode cX2_copy 34 = .ok (.getfield 23, 3) := by decide +kernel
theorem dX2_copy_37 : decode cX2_copy 37 = .ok (.putfield 23, 3) := by decide +kernel
theorem dX2_copy_40 : decode cX2_copy 40 = .ok (.return_, 1) := by decide +kernel
theorem dX2_see_0 : decode cX2_see 0 = .ok (.aload_n 0, 1) := by decide +kernel
theorem dX2_see_1 : decode cX2_see 1 = .ok (.dup, 1) := by decide +kernel
theorem dX2_see_2 : decode cX2_see 2 = .ok (.getfield 7, 3) := by decide +kernel
theorem dX2_see_5 : decode cX2_see 5 = .ok (.iload_n 1, 1) := by decide +kernel
theorem dX2_see_6 : decode cX2_see 6 = .ok (.iload_n 2, 1) := by decide +kernel
theorem dX2_see_7 : decode cX2_see 7 = .ok (.isub, 1) := by decide +kernel
theorem dX2_see_8 : decode cX2_see 8 = .ok (.invokestatic 27, 3) := by decide +kernel
theorem dX2_see_11 : decode cX2_see 11 = .ok (.i2l, 1) := by decide +kernel
theorem dX2_see_12 : decode cX2_see 12 = .ok (.ladd, 1) := by decide +kernel
theorem dX2_see_13 : decode cX2_see 13 = .ok (.putfield 7, 3) := by decide +kernel
theorem dX2_see_16 : decode cX2_see 16 = .ok (.aload_n 0, 1) := by decide +kernel
theorem dX2_see_17 : decode cX2_see 17 = .ok (.dup, 1) := by decide +kernel
theorem dX2_see_18 : decode cX2_see 18 = .ok (.getfield 13, 3) := by decide +kernel
theorem dX2_see_21 : decode cX2_see 21 = .ok (.iload_n 3, 1) := by decide +kernel
theorem dX2_see_22 : decode cX2_see 22 = .ok (.invokestatic 27, 3) := by decide +kernel
theorem dX2_see_25 : decode cX2_see 25 = .ok (.i2l, 1) := by decide +kernel
theorem dX2_see_26 : decode cX2_see 26 = .ok (.ladd, 1) := by decide +kernel
theorem dX2_see_27 : decode cX2_see 27 = .ok (.putfield 13, 3) := by decide +kernel
theorem dX2_see_30 : decode cX2_see 30 = .ok (.aload_n 0, 1) := by decide +kernel
theorem dX2_see_31 : decode cX2_see 31 = .ok (.aload_n 0, 1) := by decide +kernel
theorem dX2_see_32 : decode cX2_see 32 = .ok (.getfield 16, 3) := by decide +kernel
theorem dX2_see_35 : decode cX2_see 35 = .ok (.aload_n 0, 1) := by decide +kernel
theorem dX2_see_36 : decode cX2_see 36 = .ok (.getfield 23, 3) := by decide +kernel
theorem dX2_see_39 : decode cX2_see 39 = .ok (.ifCond .eq 9, 3) := by decide +kernel
theorem dX2_see_42 : decode cX2_see 42 = .ok (.iload_n 2, 1) := by decide +kernel
theorem dX2_see_43 : decode cX2_see 43 = .ok (.iload_n 1, 1) := by decide +kernel
theorem dX2_see_44 : decode cX2_see 44 = .ok (.isub, 1) := by decide +kernel
theorem dX2_see_45 : decode cX2_see 45 = .ok (.goto 6, 3) := by decide +kernel
theorem dX2_see_48 : decode cX2_see 48 = .ok (.iload_n 1, 1) := by decide +kernel
theorem dX2_see_49 : decode cX2_see 49 = .ok (.iload_n 2, 1) := by decide +kernel
theorem dX2_see_50 : decode cX2_see 50 = .ok (.isub, 1) := by decide +kernel
theorem dX2_see_51 : decode cX2_see 51 = .ok (.invokestatic 33, 3) := by decide +kernel
theorem dX2_see_54 : decode cX2_see 54 = .ok (.putfield 16, 3) := by decide +kernel
theorem dX2_see_57 : decode cX2_see 57 = .ok (.aload_n 0, 1) := by decide +kernel
theorem dX2_see_58 : decode cX2_see 58 = .ok (.dup, 1) := by decide +kernel
theorem dX2_see_59 : decode cX2_see 59 = .ok (.getfield 20, 3) := by decide +kernel
theorem dX2_see_62 : decode cX2_see 62 = .ok (.iconst 1, 1) := by decide +kernel
theorem dX2_see_63 : decode cX2_see 63 = .ok (.iadd, 1) := by decide +kernel
theorem dX2_see_64 : decode cX2_see 64 = .ok (.putfield 20, 3) := by decide +kernel
theorem dX2_see_67 : decode cX2_see 67 = .ok (.return_, 1) := by decide +kernel
theorem dX3_init_0 : decode cX3_init 0 = .ok (.aload_n 0, 1) := by decide +kernel
theorem dX3_init_1 : decode cX3_init 1 = .ok (.invokespecial 3, 3) := by decide +kernel
theorem dX3_init_4 : decode cX3_init 4 = .ok (.aload_n 0, 1) := by decide +kernel
theorem dX3_init_5 : decode cX3_init 5 = .ok (.bipush 15, 2) := by decide +kernel
theorem dX3_init_7 : decode cX3_init 7 = .ok (.newarray .int, 2) := by decide +kernel
theorem dX3_init_9 : decode cX3_init 9 = .ok (.putfield 9, 3) := by decide +kernel
theorem dX3_init_12 : decode cX3_init 12 = .ok (.getstatic 15, 3) := by decide +kernel
theorem dX3_init_15 : decode cX3_init 15 = .ok (.iconst 0, 1) := by decide +kernel
theorem dX3_init_16 : decode cX3_init 16 = .ok (.aload_n 0, 1) := by decide +kernel
theorem dX3_init_17 : decode cX3_init 17 = .ok (.getfield 9, 3) := by decide +kernel
theorem dX3_init_20 : decode cX3_init 20 = .ok (.iconst 0, 1) := by decide +kernel
theorem dX3_init_21 : decode cX3_init 21 = .ok (.bipush 15, 2) := by decide +kernel
theorem dX3_init_23 : decode cX3_init 23 = .ok (.invokestatic 18, 3) := by decide +kernel
theorem dX3_init_26 : decode cX3_init 26 = .ok (.return_, 1) := by decide +kernel
set_option maxRecDepth 20000 in
theorem ggX3_get_X6_isParameter : GoodIn wsX3_get wsX6_isParameter := goodIn_r _ [4] (by decide +kernel) (by decide +kernel)
set_option maxRecDepth 20000 in
theorem gX3_get_X6_isParameter_n24 : GoodIn wsX3_get (wsX6_isParameter) := ggX3_get_X6_isParameter
theorem dX3_get_0 : decode cX3_get 0 = .ok (.iload_n 1, 1) := by decide +kernel
theorem dX3_get_1 : decode cX3_get 1 = .ok (.invokestatic 24, 3) := by decide +kernel
theorem dX3_get_4 : decode cX3_get 4 = .ok (.ifCond .eq 12, 3) := by decide +kernel
theorem dX3_get_7 : decode cX3_get 7 = .ok (.aload_n 0, 1) := by decide +kernel
theorem dX3_get_8 : decode cX3_get 8 = .ok (.getfield 9, 3) := by decide +kernel
theorem dX3_get_11 : decode cX3_get 11 = .ok (.iload_n 1, 1) := by decide +kernel
theorem dX3_get_12 : decode cX3_get 12 = .ok (.iaload, 1) := by decide +kernel
theorem dX3_get_13 : decode cX3_get 13 = .ok (.goto 4, 3) := by decide +kernel
theorem dX3_get_16 : decode cX3_get 16 = .ok (.iconst 0, 1) := by decide +kernel
theorem dX3_get_17 : decode cX3_get 17 = .ok (.ireturn, 1) := by decide +kernel
set_option maxRecDepth 20000 in
theorem ggX3_set_X6_isParameter : GoodIn wsX3_set wsX6_isParameter := goodIn_r _ [4] (by decide +kernel) (by decide +kernel)
set_option maxRecDepth 20000 in
theorem gX3_set_X6_isParameter_n24 : GoodIn wsX3_set (wsX6_isParameter) := ggX3_set_X6_isParameter
theorem dX3_set_0 : decode cX3_set 0 = .ok (.iload_n 1, 1) := by decide +kernel
theorem dX3_set_1 : decode cX3_set 1 = .ok (.invokestatic 24, 3) := by decide +kernel
theorem dX3_set_4 : decode cX3_set 4 = .ok (.ifCond .eq 10, 3) := by decide +kernel
theorem dX3_set_7 : decode cX3_set 7 = .ok (.aload_n 0, 1) := by decide +kernel
theorem dX3_set_8 : decode cX3_set 8 = .ok (.getfield 9, 3) := by decide +kernel
theorem dX3_set_11 : decode cX3_set 11 = .ok (.iload_n 1, 1) := by decide +kernel
theorem dX3_set_12 : decode cX3_set 12 = .ok (.iload_n 2, 1) := by decide +kernel
theorem dX3_set_13 : decode cX3_set 13 = .ok (.iastore, 1) := by decide +kernel
theorem dX3_set_14 : decode cX3_set 14 = .ok (.return_, 1) := by decide +kernel
theorem dX3_copy_0 : decode cX3_copy 0 = .ok (.aload_n 1, 1) := by decide +kernel
theorem dX3_copy_1 : decode cX3_copy 1 = .ok (.getfield 9, 3) := by decide +kernel
theorem dX3_copy_4 : decode cX3_copy 4 = .ok (.iconst 0, 1) := by decide +kernel
theorem dX3_copy_5 : decode cX3_copy 5 = .ok (.aload_n 0, 1) := by decide +kernel
theorem dX3_copy_6 : decode cX3_copy 6 = .ok (.getfield 9, 3) := by decide +kernel
theorem dX3_copy_9 : decode cX3_copy 9 = .ok (.iconst 0, 1) := by decide +kernel
theorem dX3_copy_10 : decode cX3_copy 10 = .ok (.bipush 15, 2) := by decide +kernel
theorem dX3_copy_12 : decode cX3_copy 12 = .ok (.invokestatic 18, 3) := by decide +kernel
theorem dX3_copy_15 : decode cX3_copy 15 = .ok (.return_, 1) := by decide +kernel
theorem dX5_init_0 : decode cX5_init 0 = .ok (.aload_n 0, 1) := by decide +kernel
theorem dX5_init_1 : decode cX5_init 1 = .ok (.invokespecial 3, 3) := by decide +kernel
theorem dX5_init_4 : decode cX5_init 4 = .ok (.aload_n 0, 1) := by decide +kernel
theorem dX5_init_5 : decode cX5_init 5 = .ok (.iconst 4, 1) := by decide +kernel
theorem dX5_init_6 : decode cX5_init 6 = .ok (.newarray .int, 2) := by decide +kernel
theorem dX5_init_8 : decode cX5_init 8 = .ok (.putfield 9, 3) := by decide +kernel
theorem dX5_init_11 : decode cX5_init 11 = .ok (.aload_n 0, 1) := by decide +kernel
theorem dX5_init_12 : decode cX5_init 12 = .ok (.iconst 4, 1) := by decide +kernel
theorem dX5_init_13 : decode cX5_init 13 = .ok (.newarray .int, 2) := by decide +kernel
theorem dX5_init_15 : decode cX5_init 15 = .ok (.putfield 15, 3) := by decide +kernel
theorem dX5_init_18 : decode cX5_init 18 = .ok (.aload_n 0, 1) := by decide +kernel
theorem dX5_init_19 : decode cX5_init 19 = .ok (.iconst 4, 1) := by decide +kernel
theorem dX5_init_20 : decode cX5_init 20 = .ok (.newarray .int, 2) := by decide +kernel
theorem dX5_init_22 : decode cX5_init 22 = .ok (.putfield 18, 3) := by decide +kernel
theorem dX5_init_25 : decode cX5_init 25 = .ok (.aload_n 0, 1) := by decide +kernel
theorem dX5_init_26 : decode cX5_init 26 = .ok (.iconst 4, 1) := by decide +kernel
theorem dX5_init_27 : decode cX5_init 27 = .ok (.newarray .int, 2) := by decide +kernel
theorem dX5_init_29 : decode cX5_init 29 = .ok (.putfield 21, 3) := by decide +kernel
theorem dX5_init_32 : decode cX5_init 32 = .ok (.aload_n 0, 1) := by decide +kernel
theorem dX5_init_33 : decode cX5_init 33 = .ok (.iconst 0, 1) := by decide +kernel
theorem dX5_init_34 : decode cX5_init 34 = .ok (.putfield 24, 3) := by decide +kernel
theorem dX5_init_37 : decode cX5_init 37 = .ok (.return_, 1) := by decide +kernel
theorem dX5_copy_0 : decode cX5_copy 0 = .ok (.aload_n 1, 1) := by decide +kernel
theorem dX5_copy_1 : decode cX5_copy 1 = .ok (.getfield 9, 3) := by decide +kernel
theorem dX5_copy_4 : decode cX5_copy 4 = .ok (.iconst 0, 1) := by decide +kernel
theorem dX5_copy_5 : decode cX5_copy 5 = .ok (.aload_n 0, 1) := by decide +kernel
theorem dX5_copy_6 : decode cX5_copy 6 = .ok (.getfield 9, 3) := by decide +kernel
theorem dX5_copy_9 : decode cX5_copy 9 = .ok (.iconst 0, 1) := by decide +kernel
theorem dX5_copy_10 : decode cX5_copy 10 = .ok (.iconst 4, 1) := by decide +kernel
theorem dX5_copy_11 : decode cX5_copy 11 = .ok (.invokestatic 28, 3) := by decide +kernel
theorem dX5_copy_14 : decode cX5_copy 14 = .ok (.aload_n 1, 1) := by decide +kernel
theorem dX5_copy_15 : decode cX5_copy 15 = .ok (.getfield 15, 3) := by decide +kernel
theorem dX5_copy_18 : decode cX5_copy 18 = .ok (.iconst 0, 1) := by decide +kernel
theorem dX5_copy_19 : decode cX5_copy 19 = .ok (.aload_n 0, 1) := by decide +kernel
theorem dX5_copy_20 : decode cX5_copy 20 = .ok (.getfield 15, 3) := by decide +kernel
theorem dX5_copy_23 : decode cX5_copy 23 = .ok (.iconst 0, 1) := by decide +kernel
theorem dX5_copy_24 : decode cX5_copy 24 = .ok (.iconst 4, 1) := by decide +kernel
theorem dX5_copy_25 : decode cX5_copy 25 = .ok (.invokestatic 28, 3) := by decide +kernel
theorem dX5_copy_28 : decode cX5_copy 28 = .ok (.aload_n 1, 1) := by decide +kernel
theorem dX5_copy_29 : decode cX5_copy 29 = .ok (.getfield 18, 3) := by decide +kernel
theorem dX5_copy_32 : decode cX5_copy 32 = .ok (.iconst 0, 1) := by decide +kernel
theorem dX5_copy_33 : decode cX5_copy 33 = .ok (.aload_n 0, 1) := by decide +kernel
theorem dX5_copy_34 : decode cX5_copy 34 = .ok (.getfield 18, 3) := by decide +kernel
theorem dX5_copy_37 : decode cX5_copy 37 = .ok (.iconst 0, 1) := by decide +kernel
theorem dX5_copy_38 : decode cX5_copy 38 = .ok (.iconst 4, 1) := by decide +kernel
theorem dX5_copy_39 : decode cX5_copy 39 = .ok (.invokestatic 28, 3) := by decide +kernel
theorem dX5_copy_42 : decode cX5_copy 42 = .ok (.aload_n 1, 1) := by decide +kernel
theorem dX5_copy_43 : decode cX5_copy 43 = .ok (.getfield 21, 3) := by decide +kernel
theorem dX5_copy_46 : decode cX5_copy 46 = .ok (.iconst 0, 1) := by decide +kernel
theorem dX5_copy_47 : decode cX5_copy 47 = .ok (.aload_n 0, 1) := by decide +kernel
theorem dX5_copy_48 : decode cX5_copy 48 = .ok (.getfield 21, 3) := by decide +kernel
theorem dX5_copy_51 : decode cX5_copy 51 = .ok (.iconst 0, 1) := by decide +kernel
theorem dX5_copy_52 : decode cX5_copy 52 = .ok (.iconst 4, 1) := by decide +kernel
theorem dX5_copy_53 : decode cX5_copy 53 = .ok (.invokestatic 28, 3) := by decide +kernel
theorem dX5_copy_56 : decode cX5_copy 56 = .ok (.aload_n 0, 1) := by decide +kernel
theorem dX5_copy_57 : decode cX5_copy 57 = .ok (.aload_n 1, 1) := by decide +kernel
theorem dX5_copy_58 : decode cX5_copy 58 = .ok (.getfield 24, 3) := by decide +kernel
theorem dX5_copy_61 : decode cX5_copy 61 = .ok (.putfield 24, 3) := by decide +kernel
theorem dX5_copy_64 : decode cX5_copy 64 = .ok (.return_, 1) := by decide +kernel
theorem dX5_placeOf_0 : decode cX5_placeOf 0 = .ok (.iconst 0, 1) := by decide +kernel
theorem dX5_placeOf_1 : decode cX5_placeOf 1 = .ok (.istore_n 2, 1) := by decide +kernel
theorem dX5_placeOf_2 : decode cX5_placeOf 2 = .ok (.iload_n 2, 1) := by decide +kernel
theorem dX5_placeOf_3 : decode cX5_placeOf 3 = .ok (.aload_n 0, 1) := by decide +kernel
theorem dX5_placeOf_4 : decode cX5_placeOf 4 = .ok (.getfield 24, 3) := by decide +kernel
theorem dX5_placeOf_7 : decode cX5_placeOf 7 = .ok (.if_icmp .ge 26, 3) := by decide +kernel
theorem dX5_placeOf_10 : decode cX5_placeOf 10 = .ok (.iload_n 2, 1) := by decide +kernel
theorem dX5_placeOf_11 : decode cX5_placeOf 11 = .ok (.iconst 4, 1) := by decide +kernel
theorem dX5_placeOf_12 : decode cX5_placeOf 12 = .ok (.if_icmp .ge 21, 3) := by decide +kernel
theorem dX5_placeOf_15 : decode cX5_placeOf 15 = .ok (.aload_n 0, 1) := by decide +kernel
theorem dX5_placeOf_16 : decode cX5_placeOf 16 = .ok (.getfield 9, 3) := by decide +kernel
theorem dX5_placeOf_19 : decode cX5_placeOf 19 = .ok (.iload_n 2, 1) := by decide +kernel
theorem dX5_placeOf_20 : decode cX5_placeOf 20 = .ok (.iaload, 1) := by decide +kernel
theorem dX5_placeOf_21 : decode cX5_placeOf 21 = .ok (.iload_n 1, 1) := by decide +kernel
theorem dX5_placeOf_22 : decode cX5_placeOf 22 = .ok (.if_icmp .ne 5, 3) := by decide +kernel
theorem dX5_placeOf_25 : decode cX5_placeOf 25 = .ok (.iload_n 2, 1) := by decide +kernel
theorem dX5_placeOf_26 : decode cX5_placeOf 26 = .ok (.ireturn, 1) := by decide +kernel
theorem dX5_placeOf_27 : decode cX5_placeOf 27 = .ok (.iinc 2 1, 3) := by decide +kernel
theorem dX5_placeOf_30 : decode cX5_placeOf 30 = .ok (.goto (-28), 3) := by decide +kernel
theorem dX5_placeOf_33 : decode cX5_placeOf 33 = .ok (.iconst (-1), 1) := by decide +kernel
theorem dX5_placeOf_34 : decode cX5_placeOf 34 = .ok (.ireturn, 1) := by decide +kernel
set_option maxRecDepth 20000 in
theorem ggX5_add_X5_placeOf : GoodIn wsX5_add wsX5_placeOf := goodIn_r _ [8, 1, 2, 9, 10, 11, 12, 13] (by decide +kernel) (by decide +kernel)
set_option maxRecDepth 20000 in
theorem gX5_add_X5_placeOf : GoodIn wsX5_add (wsV RX5 34 RX5 yX5_placeOf wsX5_placeOf) := goodIn_app (goodIn_of _ (by decide +kernel)) ggX5_add_X5_placeOf
theorem dX5_add_0 : decode cX5_add 0 = .ok (.aload_n 0, 1) := by decide +kernel
theorem dX5_add_1 : decode cX5_add 1 = .ok (.iload_n 1, 1) := by decide +kernel
theorem dX5_add_2 : decode cX5_add 2 = .ok (.invokevirtual 34, 3) := by decide +kernel
theorem dX5_add_5 : decode cX5_add 5 = .ok (.istore_n 2, 1) := by decide +kernel
theorem dX5_add_6 : decode cX5_add 6 = .ok (.iload_n 2, 1) := by decide +kernel
theorem dX5_add_7 : decode cX5_add 7 = .ok (.iconst (-1), 1) := by decide +kernel
theorem dX5_add_8 : decode cX5_add 8 = .ok (.if_icmp .ne 28, 3) := by decide +kernel
theorem dX5_add_11 : decode cX5_add 11 = .ok (.aload_n 0, 1) := by decide +kernel
theorem dX5_add_12 : decode cX5_add 12 = .ok (.getfield 24, 3) := by decide +kernel
theorem dX5_add_15 : decode cX5_add 15 = .ok (.iconst 4, 1) := by decide +kernel
theorem dX5_add_16 : decode cX5_add 16 = .ok (.if_icmp .lt 5, 3) := by decide +kernel
theorem dX5_add_19 : decode cX5_add 19 = .ok (.iconst 0, 1) := by decide +kernel
theorem dX5_add_20 : decode cX5_add 20 = .ok (.ireturn, 1) := by decide +kernel
theorem dX5_add_21 : decode cX5_add 21 = .ok (.aload_n 0, 1) := by decide +kernel
theorem dX5_add_22 : decode cX5_add 22 = .ok (.getfield 24, 3) := by decide +kernel
theorem dX5_add_25 : decode cX5_add 25 = .ok (.istore_n 2, 1) := by decide +kernel
theorem dX5_add_26 : decode cX5_add 26 = .ok (.aload_n 0, 1) := by decide +kernel
theorem dX5_add_27 : decode cX5_add 27 = .ok (.dup, 1) := by decide +kernel
theorem dX5_add_28 : decode cX5_add 28 = .ok (.getfield 24, 3) := by decide +kernel
theorem dX5_add_31 : decode cX5_add 31 = .ok (.iconst 1, 1) := by decide +kernel
theorem dX5_add_32 : decode cX5_add 32 = .ok (.iadd, 1) := by decide +kernel
theorem dX5_add_33 : decode cX5_add 33 = .ok (.putfield 24, 3) := by decide +kernel
theorem dX5_add_36 : decode cX5_add 36 = .ok (.aload_n 0, 1) := by decide +kernel
theorem dX5_add_37 : decode cX5_add 37 = .ok (.getfield 9, 3) := by decide +kernel
theorem dX5_add_40 : decode cX5_add 40 = .ok (.iload_n 2, 1) := by decide +kernel
theorem dX5_add_41 : decode cX5_add 41 = .ok (.iload_n 1, 1) := by decide +kernel
theorem dX5_add_42 : decode cX5_add 42 = .ok (.iastore, 1) := by decide +kernel
theorem dX5_add_43 : decode cX5_add 43 = .ok (.aload_n 0, 1) := by decide +kernel
theorem dX5_add_44 : decode cX5_add 44 = .ok (.getfield 21, 3) := by decide +kernel
theorem dX5_add_47 : decode cX5_add 47 = .ok (.iload_n 2, 1) := by decide +kernel
theorem dX5_add_48 : decode cX5_add 48 = .ok (.iconst (-1), 1) := by decide +kernel
theorem dX5_add_49 : decode cX5_add 49 = .ok (.iastore, 1) := by decide +kernel
theorem dX5_add_50 : decode cX5_add 50 = .ok (.iconst 1, 1) := by decide +kernel
theorem dX5_add_51 : decode cX5_add 51 = .ok (.ireturn, 1) := by decide +kernel
set_option maxRecDepth 20000 in
theorem ggX5_remove_X5_placeOf : GoodIn wsX5_remove wsX5_placeOf := goodIn_r _ [10, 1, 2, 11, 12, 13, 14, 15] (by decide +kernel) (by decide +kernel)
set_option maxRecDepth 20000 in
theorem gX5_remove_X5_placeOf : GoodIn wsX5_remove (wsV RX5 34 RX5 yX5_placeOf wsX5_placeOf) := goodIn_app (goodIn_of _ (by decide +kernel)) ggX5_remove_X5_placeOf
theorem dX5_remove_0 : decode cX5_remove 0 = .ok (.aload_n 0, 1) := by decide +kernel
theorem dX5_remove_1 : decode cX5_remove 1 = .ok (.iload_n 1, 1) := by decide +kernel
theorem dX5_remove_2 : decode cX5_remove 2 = .ok (.invokevirtual 34, 3) := by decide +kernel
theorem dX5_remove_5 : decode cX5_remove 5 = .ok (.istore_n 2, 1) := by decide +kernel
theorem dX5_remove_6 : decode cX5_remove 6 = .ok (.iload_n 2, 1) := by decide +kernel
theorem dX5_remove_7 : decode cX5_remove 7 = .ok (.iconst (-1), 1) := by decide +kernel
theorem dX5_remove_8 : decode cX5_remove 8 = .ok (.if_icmp .ne 5, 3) := by decide +kernel
theorem dX5_remove_11 : decode cX5_remove 11 = .ok (.iconst 0, 1) := by decide +kernel
theorem dX5_remove_12 : decode cX5_remove 12 = .ok (.ireturn, 1) := by decide +kernel
theorem dX5_remove_13 : decode cX5_remove 13 = .ok (.iload_n 2, 1) := by decide +kernel
theorem dX5_remove_14 : decode cX5_remove 14 = .ok (.iconst 1, 1) := by decide +kernel
theorem dX5_remove_15 : decode cX5_remove 15 = .ok (.iadd, 1) := by decide +kernel
theorem dX5_remove_16 : decode cX5_remove 16 = .ok (.istore_n 3, 1) := by decide +kernel
theorem dX5_remove_17 : decode cX5_remove 17 = .ok (.iload_n 3, 1) := by decide +kernel
theorem dX5_remove_18 : decode cX5_remove 18 = .ok (.aload_n 0, 1) := by decide +kernel
theorem dX5_remove_19 : decode cX5_remove 19 = .ok (.getfield 24, 3) := by decide +kernel
theorem dX5_remove_22 : decode cX5_remove 22 = .ok (.if_icmp .ge 70, 3) := by decide +kernel
theorem dX5_remove_25 : decode cX5_remove 25 = .ok (.iload_n 3, 1) := by decide +kernel
theorem dX5_remove_26 : decode cX5_remove 26 = .ok (.iconst 4, 1) := by decide +kernel
theorem dX5_remove_27 : decode cX5_remove 27 = .ok (.if_icmp .ge 65, 3) := by decide +kernel
theorem dX5_remove_30 : decode cX5_remove 30 = .ok (.aload_n 0, 1) := by decide +kernel
theorem dX5_remove_31 : decode cX5_remove 31 = .ok (.getfield 9, 3) := by decide +kernel
theorem dX5_remove_34 : decode cX5_remove 34 = .ok (.iload_n 3, 1) := by decide +kernel
theorem dX5_remove_35 : decode cX5_remove 35 = .ok (.iconst 1, 1) := by decide +kernel
theorem dX5_remove_36 : decode cX5_remove 36 = .ok (.isub, 1) := by decide +kernel
theorem dX5_remove_37 : decode cX5_remove 37 = .ok (.aload_n 0, 1) := by decide +kernel
theorem dX5_remove_38 : decode cX5_remove 38 = .ok (.getfield 9, 3) := by decide +kernel
theorem dX5_remove_41 : decode cX5_remove 41 = .ok (.iload_n 3, 1) := by decide +kernel
theorem dX5_remove_42 : decode cX5_remove 42 = .ok (.iaload, 1) := by decide +kernel
theorem dX5_remove_43 : decode cX5_remove 43 = .ok (.iastore, 1) := by decide +kernel
theorem dX5_remove_44 : decode cX5_remove 44 = .ok (.aload_n 0, 1) := by decide +kernel
theorem dX5_remove_45 : decode cX5_remove 45 = .ok (.getfield 15, 3) := by decide +kernel
theorem dX5_remove_48 : decode cX5_remove 48 = .ok (.iload_n 3, 1) := by decide +kernel
theorem dX5_remove_49 : decode cX5_remove 49 = .ok (.iconst 1, 1) := by decide +kernel
theorem dX5_remove_50 : decode cX5_remove 50 = .ok (.isub, 1) := by decide +kernel
theorem dX5_remove_51 : decode cX5_remove 51 = .ok (.aload_n 0, 1) := by decide +kernel
theorem dX5_remove_52 : decode cX5_remove 52 = .ok (.getfield 15, 3) := by decide +kernel
theorem dX5_remove_55 : decode cX5_remove 55 = .ok (.iload_n 3, 1) := by decide +kernel
theorem dX5_remove_56 : decode cX5_remove 56 = .ok (.iaload, 1) := by decide +kernel
theorem dX5_remove_57 : decode cX5_remove 57 = .ok (.iastore, 1) := by decide +kernel
theorem dX5_remove_58 : decode cX5_remove 58 = .ok (.aload_n 0, 1) := by decide +kernel
theorem dX5_remove_59 : decode cX5_remove 59 = .ok (.getfield 18, 3) := by decide +kernel
theorem dX5_remove_62 : decode cX5_remove 62 = .ok (.iload_n 3, 1) := by decide +kernel
theorem dX5_remove_63 : decode cX5_remove 63 = .ok (.iconst 1, 1) := by decide +kernel
theorem dX5_remove_64 : decode cX5_remove 64 = .ok (.isub, 1) := by decide +kernel
theorem dX5_remove_65 : decode cX5_remove 65 = .ok (.aload_n 0, 1) := by decide +kernel
theorem dX5_remove_66 : decode cX5_remove 66 = .ok (.getfield 18, 3) := by decide +kernel
theorem dX5_remove_69 : decode cX5_remove 69 = .ok (.iload_n 3, 1) := by decide +kernel
theorem dX5_remove_70 : decode cX5_remove 70 = .ok (.iaload, 1) := by decide +kernel
theorem dX5_remove_71 : decode cX5_remove 71 = .ok (.iastore, 1) := by decide +kernel
theorem dX5_remove_72 : decode cX5_remove 72 = .ok (.aload_n 0, 1) := by decide +kernel
theorem dX5_remove_73 : decode cX5_remove 73 = .ok (.getfield 21, 3) := by decide +kernel
theorem dX5_remove_76 : decode cX5_remove 76 = .ok (.iload_n 3, 1) := by decide +kernel
theorem dX5_remove_77 : decode cX5_remove 77 = .ok (.iconst 1, 1) := by decide +kernel
theorem dX5_remove_78 : decode cX5_remove 78 = .ok (.isub, 1) := by decide +kernel
theorem dX5_remove_79 : decode cX5_remove 79 = .ok (.aload_n 0, 1) := by decide +kernel
theorem dX5_remove_80 : decode cX5_remove 80 = .ok (.getfield 21, 3) := by decide +kernel
theorem dX5_remove_83 : decode cX5_remove 83 = .ok (.iload_n 3, 1) := by decide +kernel
theorem dX5_remove_84 : decode cX5_remove 84 = .ok (.iaload, 1) := by decide +kernel
theorem dX5_remove_85 : decode cX5_remove 85 = .ok (.iastore, 1) := by decide +kernel
theorem dX5_remove_86 : decode cX5_remove 86 = .ok (.iinc 3 1, 3) := by decide +kernel
theorem dX5_remove_89 : decode cX5_remove 89 = .ok (.goto (-72), 3) := by decide +kernel
theorem dX5_remove_92 : decode cX5_remove 92 = .ok (.aload_n 0, 1) := by decide +kernel
theorem dX5_remove_93 : decode cX5_remove 93 = .ok (.dup, 1) := by decide +kernel
theorem dX5_remove_94 : decode cX5_remove 94 = .ok (.getfield 24, 3) := by decide +kernel
theorem dX5_remove_97 : decode cX5_remove 97 = .ok (.iconst 1, 1) := by decide +kernel
theorem dX5_remove_98 : decode cX5_remove 98 = .ok (.isub, 1) := by decide +kernel
theorem dX5_remove_99 : decode cX5_remove 99 = .ok (.putfield 24, 3) := by decide +kernel
theorem dX5_remove_102 : decode cX5_remove 102 = .ok (.iconst 1, 1) := by decide +kernel
theorem dX5_remove_103 : decode cX5_remove 103 = .ok (.ireturn, 1) := by decide +kernel
theorem dX5_hasSeen_0 : decode cX5_hasSeen 0 = .ok (.iload_n 1, 1) := by decide +kernel
theorem dX5_hasSeen_1 : decode cX5_hasSeen 1 = .ok (.ifCond .lt 22, 3) := by decide +kernel
theorem dX5_hasSeen_4 : decode cX5_hasSeen 4 = .ok (.iload_n 1, 1) := by decide +kernel
theorem dX5_hasSeen_5 : decode cX5_hasSeen 5 = .ok (.iconst 4, 1) := by decide +kernel
theorem dX5_hasSeen_6 : decode cX5_hasSeen 6 = .ok (.if_icmp .ge 17, 3) := by decide +kernel
theorem dX5_hasSeen_9 : decode cX5_hasSeen 9 = .ok (.aload_n 0, 1) := by decide +kernel
theorem dX5_hasSeen_10 : decode cX5_hasSeen 10 = .ok (.getfield 21, 3) := by decide +kernel
theorem dX5_hasSeen_13 : decode cX5_hasSeen 13 = .ok (.iload_n 1, 1) := by decide +kernel
theorem dX5_hasSeen_14 : decode cX5_hasSeen 14 = .ok (.iaload, 1) := by decide +kernel
theorem dX5_hasSeen_15 : decode cX5_hasSeen 15 = .ok (.iconst (-1), 1) := by decide +kernel
theorem dX5_hasSeen_16 : decode cX5_hasSeen 16 = .ok (.if_icmp .eq 7, 3) := by decide +kernel
theorem dX5_hasSeen_19 : decode cX5_hasSeen 19 = .ok (.iconst 1, 1) := by decide +kernel
theorem dX5_hasSeen_20 : decode cX5_hasSeen 20 = .ok (.goto 4, 3) := by decide +kernel
theorem dX5_hasSeen_23 : decode cX5_hasSeen 23 = .ok (.iconst 0, 1) := by decide +kernel
theorem dX5_hasSeen_24 : decode cX5_hasSeen 24 = .ok (.ireturn, 1) := by decide +kernel
theorem dX5_get_0 : decode cX5_get 0 = .ok (.iload_n 1, 1) := by decide +kernel
theorem dX5_get_1 : decode cX5_get 1 = .ok (.ifCond .lt 8, 3) := by decide +kernel
theorem dX5_get_4 : decode cX5_get 4 = .ok (.iload_n 1, 1) := by decide +kernel
theorem dX5_get_5 : decode cX5_get 5 = .ok (.iconst 4, 1) := by decide +kernel
theorem dX5_get_6 : decode cX5_get 6 = .ok (.if_icmp .lt 6, 3) := by decide +kernel
theorem dX5_get_9 : decode cX5_get 9 = .ok (.ldc 38, 2) := by decide +kernel
theorem dX5_get_11 : decode cX5_get 11 = .ok (.ireturn, 1) := by decide +kernel
theorem dX5_get_12 : decode cX5_get 12 = .ok (.iload_n 2, 1) := by decide +kernel
theorem dX5_get_13 : decode cX5_get 13 = .ok (.ifCond .ne 10, 3) := by decide +kernel
theorem dX5_get_16 : decode cX5_get 16 = .ok (.aload_n 0, 1) := by decide +kernel
theorem dX5_get_17 : decode cX5_get 17 = .ok (.getfield 15, 3) := by decide +kernel
theorem dX5_get_20 : decode cX5_get 20 = .ok (.iload_n 1, 1) := by decide +kernel
theorem dX5_get_21 : decode cX5_get 21 = .ok (.iaload, 1) := by decide +kernel
theorem dX5_get_22 : decode cX5_get 22 = .ok (.ireturn, 1) := by decide +kernel
theorem dX5_get_23 : decode cX5_get 23 = .ok (.iload_n 2, 1) := by decide +kernel
theorem dX5_get_24 : decode cX5_get 24 = .ok (.iconst 1, 1) := by decide +kernel
theorem dX5_get_25 : decode cX5_get 25 = .ok (.if_icmp .ne 12, 3) := by decide +kernel
theorem dX5_get_28 : decode cX5_get 28 = .ok (.aload_n 0, 1) := by decide +kernel
theorem dX5_get_29 : decode cX5_get 29 = .ok (.getfield 18, 3) := by decide +kernel
theorem dX5_get_32 : decode cX5_get 32 = .ok (.iload_n 1, 1) := by decide +kernel
theorem dX5_get_33 : decode cX5_get 33 = .ok (.iaload, 1) := by decide +kernel
theorem dX5_get_34 : decode cX5_get 34 = .ok (.goto 9, 3) := by decide +kernel
theorem dX5_get_37 : decode cX5_get 37 = .ok (.aload_n 0, 1) := by decide +kernel
theorem dX5_get_38 : decode cX5_get 38 = .ok (.getfield 21, 3) := by decide +kernel
theorem dX5_get_41 : decode cX5_get 41 = .ok (.iload_n 1, 1) := by decide +kernel
theorem dX5_get_42 : decode cX5_get 42 = .ok (.iaload, 1) := by decide +kernel
theorem dX5_get_43 : decode cX5_get 43 = .ok (.ireturn, 1) := by decide +kernel
set_option maxRecDepth 20000 in
theorem ggX5_see_X5_seeOne : GoodIn wsX5_see wsX5_seeOne := goodIn_r _ [7, 8, 9, 10, 11, 12, 13, 6, 14, 15, 16, 17, 18, 19] (by decide +kernel) (by decide +kernel)
set_option maxRecDepth 20000 in
theorem gX5_see_X5_seeOne : GoodIn wsX5_see (wsV RX5 39 RX5 yX5_seeOne wsX5_seeOne) := goodIn_app (goodIn_of _ (by decide +kernel)) ggX5_see_X5_seeOne
theorem dX5_see_0 : decode cX5_see 0 = .ok (.iconst 0, 1) := by decide +kernel
theorem dX5_see_1 : decode cX5_see 1 = .ok (.istore_n 3, 1) := by decide +kernel
theorem dX5_see_2 : decode cX5_see 2 = .ok (.iload_n 3, 1) := by decide +kernel
theorem dX5_see_3 : decode cX5_see 3 = .ok (.aload_n 0, 1) := by decide +kernel
theorem dX5_see_4 : decode cX5_see 4 = .ok (.getfield 24, 3) := by decide +kernel
theorem dX5_see_7 : decode cX5_see 7 = .ok (.if_icmp .ge 44, 3) := by decide +kernel
theorem dX5_see_10 : decode cX5_see 10 = .ok (.iload_n 3, 1) := by decide +kernel
theorem dX5_see_11 : decode cX5_see 11 = .ok (.iconst 4, 1) := by decide +kernel
theorem dX5_see_12 : decode cX5_see 12 = .ok (.if_icmp .ge 39, 3) := by decide +kernel
theorem dX5_see_15 : decode cX5_see 15 = .ok (.aload_n 0, 1) := by decide +kernel
theorem dX5_see_16 : decode cX5_see 16 = .ok (.getfield 9, 3) := by decide +kernel
theorem dX5_see_19 : decode cX5_see 19 = .ok (.iload_n 3, 1) := by decide +kernel
theorem dX5_see_20 : decode cX5_see 20 = .ok (.iaload, 1) := by decide +kernel
theorem dX5_see_21 : decode cX5_see 21 = .ok (.istore 4, 2) := by decide +kernel
theorem dX5_see_23 : decode cX5_see 23 = .ok (.iload 4, 2) := by decide +kernel
theorem dX5_see_25 : decode cX5_see 25 = .ok (.ifCond .lt 20, 3) := by decide +kernel
theorem dX5_see_28 : decode cX5_see 28 = .ok (.iload 4, 2) := by decide +kernel
theorem dX5_see_30 : decode cX5_see 30 = .ok (.aload_n 1, 1) := by decide +kernel
theorem dX5_see_31 : decode cX5_see 31 = .ok (.arraylength, 1) := by decide +kernel
theorem dX5_see_32 : decode cX5_see 32 = .ok (.if_icmp .ge 13, 3) := by decide +kernel
theorem dX5_see_35 : decode cX5_see 35 = .ok (.aload_n 0, 1) := by decide +kernel
theorem dX5_see_36 : decode cX5_see 36 = .ok (.iload_n 3, 1) := by decide +kernel
theorem dX5_see_37 : decode cX5_see 37 = .ok (.aload_n 1, 1) := by decide +kernel
theorem dX5_see_38 : decode cX5_see 38 = .ok (.iload 4, 2) := by decide +kernel
theorem dX5_see_40 : decode cX5_see 40 = .ok (.iaload, 1) := by decide +kernel
theorem dX5_see_41 : decode cX5_see 41 = .ok (.iload_n 2, 1) := by decide +kernel
theorem dX5_see_42 : decode cX5_see 42 = .ok (.invokevirtual 39, 3) := by decide +kernel
theorem dX5_see_45 : decode cX5_see 45 = .ok (.iinc 3 1, 3) := by decide +kernel
theorem dX5_see_48 : decode cX5_see 48 = .ok (.goto (-46), 3) := by decide +kernel
theorem dX5_see_51 : decode cX5_see 51 = .ok (.return_, 1) := by decide +kernel
set_option maxRecDepth 20000 in
theorem ggX5_seeOne_X5_hasSeen : GoodIn wsX5_seeOne wsX5_hasSeen := goodIn_r _ [8, 3, 9, 10, 11, 12, 13] (by decide +kernel) (by decide +kernel)
set_option maxRecDepth 20000 in
theorem gX5_seeOne_X5_hasSeen : GoodIn wsX5_seeOne (wsV RX5 43 RX5 yX5_hasSeen wsX5_hasSeen) := goodIn_app (goodIn_of _ (by decide +kernel)) ggX5_seeOne_X5_hasSeen
theorem dX5_seeOne_0 : decode cX5_seeOne 0 = .ok (.aload_n 0, 1) := by decide +kernel
theorem dX5_seeOne_1 : decode cX5_seeOne 1 = .ok (.iload_n 1, 1) := by decide +kernel
theorem dX5_seeOne_2 : decode cX5_seeOne 2 = .ok (.invokevirtual 43, 3) := by decide +kernel
theorem dX5_seeOne_5 : decode cX5_seeOne 5 = .ok (.ifCond .ne 7, 3) := by decide +kernel
theorem dX5_seeOne_8 : decode cX5_seeOne 8 = .ok (.iconst 1, 1) := by decide +kernel
theorem dX5_seeOne_9 : decode cX5_seeOne 9 = .ok (.goto 4, 3) := by decide +kernel
theorem dX5_seeOne_12 : decode cX5_seeOne 12 = .ok (.iconst 0, 1) := by decide +kernel
theorem dX5_seeOne_13 : decode cX5_seeOne 13 = .ok (.istore 4, 2) := by decide +kernel
theorem dX5_seeOne_15 : decode cX5_seeOne 15 = .ok (.iload 4, 2) := by decide +kernel
theorem dX5_seeOne_17 : decode cX5_seeOne 17 = .ok (.ifCond .ne 13, 3) := by decide +kernel
theorem dX5_seeOne_20 : decode cX5_seeOne 20 = .ok (.iload_n 2, 1) := by decide +kernel
theorem dX5_seeOne_21 : decode cX5_seeOne 21 = .ok (.aload_n 0, 1) := by decide +kernel
theorem dX5_seeOne_22 : decode cX5_seeOne 22 = .ok (.getfield 15, 3) := by decide +kernel
theorem dX5_seeOne_25 : decode cX5_seeOne 25 = .ok (.iload_n 1, 1) := by decide +kernel
theorem dX5_seeOne_26 : decode cX5_seeOne 26 = .ok (.iaload, 1) := by decide +kernel
theorem dX5_seeOne_27 : decode cX5_seeOne 27 = .ok (.if_icmp .ge 10, 3) := by decide +kernel
theorem dX5_seeOne_30 : decode cX5_seeOne 30 = .ok (.aload_n 0, 1) := by decide +kernel
theorem dX5_seeOne_31 : decode cX5_seeOne 31 = .ok (.getfield 15, 3) := by decide +kernel
theorem dX5_seeOne_34 : decode cX5_seeOne 34 = .ok (.iload_n 1, 1) := by decide +kernel
theorem dX5_seeOne_35 : decode cX5_seeOne 35 = .ok (.iload_n 2, 1) := by decide +kernel
theorem dX5_seeOne_36 : decode cX5_seeOne 36 = .ok (.iastore, 1) := by decide +kernel
theorem dX5_seeOne_37 : decode cX5_seeOne 37 = .ok (.iload 4, 2) := by decide +kernel
theorem dX5_seeOne_39 : decode cX5_seeOne 39 = .ok (.ifCond .ne 13, 3) := by decide +kernel
theorem dX5_seeOne_42 : decode cX5_seeOne 42 = .ok (.iload_n 2, 1) := by decide +kernel
theorem dX5_seeOne_43 : decode cX5_seeOne 43 = .ok (.aload_n 0, 1) := by decide +kernel
theorem dX5_seeOne_44 : decode cX5_seeOne 44 = .ok (.getfield 18, 3) := by decide +kernel
theorem dX5_seeOne_47 : decode cX5_seeOne 47 = .ok (.iload_n 1, 1) := by decide +kernel
theorem dX5_seeOne_48 : decode cX5_seeOne 48 = .ok (.iaload, 1) := by decide +kernel
theorem dX5_seeOne_49 : decode cX5_seeOne 49 = .ok (.if_icmp .le 17, 3) := by decide +kernel
theorem dX5_seeOne_52 : decode cX5_seeOne 52 = .ok (.aload_n 0, 1) := by decide +kernel
theorem dX5_seeOne_53 : decode cX5_seeOne 53 = .ok (.getfield 18, 3) := by decide +kernel
theorem dX5_seeOne_56 : decode cX5_seeOne 56 = .ok (.iload_n 1, 1) := by decide +kernel
theorem dX5_seeOne_57 : decode cX5_seeOne 57 = .ok (.iload_n 2, 1) := by decide +kernel
theorem dX5_seeOne_58 : decode cX5_seeOne 58 = .ok (.iastore, 1) := by decide +kernel
theorem dX5_seeOne_59 : decode cX5_seeOne 59 = .ok (.aload_n 0, 1) := by decide +kernel
theorem dX5_seeOne_60 : decode cX5_seeOne 60 = .ok (.getfield 21, 3) := by decide +kernel
theorem dX5_seeOne_63 : decode cX5_seeOne 63 = .ok (.iload_n 1, 1) := by decide +kernel
theorem dX5_seeOne_64 : decode cX5_seeOne 64 = .ok (.iload_n 3, 1) := by decide +kernel
theorem dX5_seeOne_65 : decode cX5_seeOne 65 = .ok (.iastore, 1) := by decide +kernel
theorem dX5_seeOne_66 : decode cX5_seeOne 66 = .ok (.return_, 1) := by decide +kernel
theorem dJ9_floorDiv_f86c9_0 : decode cJ9_floorDiv_f86c9 0 = .ok (.lload_n 0, 1) := by decide +kernel
theorem dJ9_floorDiv_f86c9_1 : decode cJ9_floorDiv_f86c9 1 = .ok (.lload_n 2, 1) := by decide +kernel
theorem dJ9_floorDiv_f86c9_2 : decode cJ9_floorDiv_f86c9 2 = .ok (.ldiv, 1) := by decide +kernel
theorem dJ9_floorDiv_f86c9_3 : decode cJ9_floorDiv_f86c9 3 = .ok (.lstore 4, 2) := by decide +kernel
theorem dJ9_floorDiv_f86c9_5 : decode cJ9_floorDiv_f86c9 5 = .ok (.lload_n 0, 1) := by decide +kernel
theorem dJ9_floorDiv_f86c9_6 : decode cJ9_floorDiv_f86c9 6 = .ok (.lload_n 2, 1) := by decide +kernel
theorem dJ9_floorDiv_f86c9_7 : decode cJ9_floorDiv_f86c9 7 = .ok (.lxor, 1) := by decide +kernel
theorem dJ9_floorDiv_f86c9_8 : decode cJ9_floorDiv_f86c9 8 = .ok (.lconst 0, 1) := by decide +kernel
theorem dJ9_floorDiv_f86c9_9 : decode cJ9_floorDiv_f86c9 9 = .ok (.lcmp, 1) := by decide +kernel
theorem dJ9_floorDiv_f86c9_10 : decode cJ9_floorDiv_f86c9 10 = .ok (.ifCond .ge 17, 3) := by decide +kernel
theorem dJ9_floorDiv_f86c9_13 : decode cJ9_floorDiv_f86c9 13 = .ok (.lload 4, 2) := by decide +kernel
theorem dJ9_floorDiv_f86c9_15 : decode cJ9_floorDiv_f86c9 15 = .ok (.lload_n 2, 1) := by decide +kernel
theorem dJ9_floorDiv_f86c9_16 : decode cJ9_floorDiv_f86c9 16 = .ok (.lmul, 1) := by decide +kernel
theorem dJ9_floorDiv_f86c9_17 : decode cJ9_floorDiv_f86c9 17 = .ok (.lload_n 0, 1) := by decide +kernel
theorem dJ9_floorDiv_f86c9_18 : decode cJ9_floorDiv_f86c9 18 = .ok (.lcmp, 1) := by decide +kernel
theorem dJ9_floorDiv_f86c9_19 : decode cJ9_floorDiv_f86c9 19 = .ok (.ifCond .eq 8, 3) := by decide +kernel
theorem dJ9_floorDiv_f86c9_22 : decode cJ9_floorDiv_f86c9 22 = .ok (.lload 4, 2) := by decide +kernel
theorem dJ9_floorDiv_f86c9_24 : decode cJ9_floorDiv_f86c9 24 = .ok (.lconst 1, 1) := by decide +kernel
theorem dJ9_floorDiv_f86c9_25 : decode cJ9_floorDiv_f86c9 25 = .ok (.lsub, 1) := by decide +kernel
theorem dJ9_floorDiv_f86c9_26 : decode cJ9_floorDiv_f86c9 26 = .ok (.lreturn, 1) := by decide +kernel
theorem dJ9_floorDiv_f86c9_27 : decode cJ9_floorDiv_f86c9 27 = .ok (.lload 4, 2) := by decide +kernel
theorem dJ9_floorDiv_f86c9_29 : decode cJ9_floorDiv_f86c9 29 = .ok (.lreturn, 1) := by decide +kernel
theorem dJ9_floorMod_7cf53_0 : decode cJ9_floorMod_7cf53 0 = .ok (.iload_n 0, 1) := by decide +kernel
theorem dJ9_floorMod_7cf53_1 : decode cJ9_floorMod_7cf53 1 = .ok (.iload_n 1, 1) := by decide +kernel
theorem dJ9_floorMod_7cf53_2 : decode cJ9_floorMod_7cf53 2 = .ok (.irem, 1) := by decide +kernel
theorem dJ9_floorMod_7cf53_3 : decode cJ9_floorMod_7cf53 3 = .ok (.istore_n 2, 1) := by decide +kernel
theorem dJ9_floorMod_7cf53_4 : decode cJ9_floorMod_7cf53 4 = .ok (.iload_n 0, 1) := by decide +kernel
theorem dJ9_floorMod_7cf53_5 : decode cJ9_floorMod_7cf53 5 = .ok (.iload_n 1, 1) := by decide +kernel
theorem dJ9_floorMod_7cf53_6 : decode cJ9_floorMod_7cf53 6 = .ok (.ixor, 1) := by decide +kernel
theorem dJ9_floorMod_7cf53_7 : decode cJ9_floorMod_7cf53 7 = .ok (.ifCond .ge 11, 3) := by decide +kernel
theorem dJ9_floorMod_7cf53_10 : decode cJ9_floorMod_7cf53 10 = .ok (.iload_n 2, 1) := by decide +kernel
theorem dJ9_floorMod_7cf53_11 : decode cJ9_floorMod_7cf53 11 = .ok (.ifCond .eq 7, 3) := by decide +kernel
theorem dJ9_floorMod_7cf53_14 : decode cJ9_floorMod_7cf53 14 = .ok (.iload_n 2, 1) := by decide +kernel
theorem dJ9_floorMod_7cf53_15 : decode cJ9_floorMod_7cf53 15 = .ok (.iload_n 1, 1) := by decide +kernel
theorem dJ9_floorMod_7cf53_16 : decode cJ9_floorMod_7cf53 16 = .ok (.iadd, 1) := by decide +kernel
theorem dJ9_floorMod_7cf53_17 : decode cJ9_floorMod_7cf53 17 = .ok (.ireturn, 1) := by decide +kernel
theorem dJ9_floorMod_7cf53_18 : decode cJ9_floorMod_7cf53 18 = .ok (.iload_n 2, 1) := by decide +kernel
theorem dJ9_floorMod_7cf53_19 : decode cJ9_floorMod_7cf53 19 = .ok (.ireturn, 1) := by decide +kernel
theorem dJ9_abs_0f7a4_0 : decode cJ9_abs_0f7a4 0 = .ok (.iload_n 0, 1) := by decide +kernel
theorem dJ9_abs_0f7a4_1 : decode cJ9_abs_0f7a4 1 = .ok (.ifCond .ge 8, 3) := by decide +kernel
theorem dJ9_abs_0f7a4_4 : decode cJ9_abs_0f7a4 4 = .ok (.iload_n 0, 1) := by decide +kernel
theorem dJ9_abs_0f7a4_5 : decode cJ9_abs_0f7a4 5 = .ok (.ineg, 1) := by decide +kernel
theorem dJ9_abs_0f7a4_6 : decode cJ9_abs_0f7a4 6 = .ok (.goto 4, 3) := by decide +kernel
theorem dJ9_abs_0f7a4_9 : decode cJ9_abs_0f7a4 9 = .ok (.iload_n 0, 1) := by decide +kernel
theorem dJ9_abs_0f7a4_10 : decode cJ9_abs_0f7a4 10 = .ok (.ireturn, 1) := by decide +kernel
theorem dJ9_max_7cf53_0 : decode cJ9_max_7cf53 0 = .ok (.iload_n 0, 1) := by decide +kernel
theorem dJ9_max_7cf53_1 : decode cJ9_max_7cf53 1 = .ok (.iload_n 1, 1) := by decide +kernel
theorem dJ9_max_7cf53_2 : decode cJ9_max_7cf53 2 = .ok (.if_icmp .lt 7, 3) := by decide +kernel
theorem dJ9_max_7cf53_5 : decode cJ9_max_7cf53 5 = .ok (.iload_n 0, 1) := by decide +kernel
theorem dJ9_max_7cf53_6 : decode cJ9_max_7cf53 6 = .ok (.goto 4, 3) := by decide +kernel
theorem dJ9_max_7cf53_9 : decode cJ9_max_7cf53 9 = .ok (.iload_n 1, 1) := by decide +kernel
theorem dJ9_max_7cf53_10 : decode cJ9_max_7cf53 10 = .ok (.ireturn, 1) := by decide +kernel
theorem dJ9_max_f86c9_0 : decode cJ9_max_f86c9 0 = .ok (.lload_n 0, 1) := by decide +kernel
theorem dJ9_max_f86c9_1 : decode cJ9_max_f86c9 1 = .ok (.lload_n 2, 1) := by decide +kernel
theorem dJ9_max_f86c9_2 : decode cJ9_max_f86c9 2 = .ok (.lcmp, 1) := by decide +kernel
theorem dJ9_max_f86c9_3 : decode cJ9_max_f86c9 3 = .ok (.ifCond .lt 7, 3) := by decide +kernel
theorem dJ9_max_f86c9_6 : decode cJ9_max_f86c9 6 = .ok (.lload_n 0, 1) := by decide +kernel
theorem dJ9_max_f86c9_7 : decode cJ9_max_f86c9 7 = .ok (.goto 4, 3) := by decide +kernel
theorem dJ9_max_f86c9_10 : decode cJ9_max_f86c9 10 = .ok (.lload_n 2, 1) := by decide +kernel
theorem dJ9_max_f86c9_11 : decode cJ9_max_f86c9 11 = .ok (.lreturn, 1) := by decide +kernel
theorem dJ9_min_7cf53_0 : decode cJ9_min_7cf53 0 = .ok (.iload_n 0, 1) := by decide +kernel
theorem dJ9_min_7cf53_1 : decode cJ9_min_7cf53 1 = .ok (.iload_n 1, 1) := by decide +kernel
theorem dJ9_min_7cf53_2 : decode cJ9_min_7cf53 2 = .ok (.if_icmp .gt 7, 3) := by decide +kernel
theorem dJ9_min_7cf53_5 : decode cJ9_min_7cf53 5 = .ok (.iload_n 0, 1) := by decide +kernel
theorem dJ9_min_7cf53_6 : decode cJ9_min_7cf53 6 = .ok (.goto 4, 3) := by decide +kernel
theorem dJ9_min_7cf53_9 : decode cJ9_min_7cf53 9 = .ok (.iload_n 1, 1) := by decide +kernel
theorem dJ9_min_7cf53_10 : decode cJ9_min_7cf53 10 = .ok (.ireturn, 1) := by decide +kernel
theorem dJ9_min_f86c9_0 : decode cJ9_min_f86c9 0 = .ok (.lload_n 0, 1) := by decide +kernel
theorem dJ9_min_f86c9_1 : decode cJ9_min_f86c9 1 = .ok (.lload_n 2, 1) := by decide +kernel
theorem dJ9_min_f86c9_2 : decode cJ9_min_f86c9 2 = .ok (.lcmp, 1) := by decide +kernel
theorem dJ9_min_f86c9_3 : decode cJ9_min_f86c9 3 = .ok (.ifCond .gt 7, 3) := by decide +kernel
theorem dJ9_min_f86c9_6 : decode cJ9_min_f86c9 6 = .ok (.lload_n 0, 1) := by decide +kernel
theorem dJ9_min_f86c9_7 : decode cJ9_min_f86c9 7 = .ok (.goto 4, 3) := by decide +kernel
theorem dJ9_min_f86c9_10 : decode cJ9_min_f86c9 10 = .ok (.lload_n 2, 1) := by decide +kernel
theorem dJ9_min_f86c9_11 : decode cJ9_min_f86c9 11 = .ok (.lreturn, 1) := by decide +kernel
end
section
set_option maxRecDepth 20000 in
theorem ggX1_init_X2_init : GoodIn wsX1_init wsX2_init := goodIn_r _ [22, 23, 2, 3, 24, 25, 26, 27, 28, 47, 48, 49, 50, 51] (by decide +kernel) (by decide +kernel)
set_option maxRecDepth 20000 in
theorem gX1_init_X2_init : GoodIn wsX1_init (wsX2_init) := ggX1_init_X2_init
set_option maxRecDepth 20000 in
theorem ggX1_init_X5_init : GoodIn wsX1_init wsX5_init := goodIn_r _ [31, 32, 2, 3, 9, 33, 34, 35, 36, 37, 52, 53, 54, 55, 56] (by decide +kernel) (by decide +kernel)
set_option maxRecDepth 20000 in
theorem gX1_init_X5_init : GoodIn wsX1_init (wsX5_init) := ggX1_init_X5_init
theorem dX1_init_0 : decode cX1_init 0 = .ok (.aload_n 0, 1) := by decide +kernel
theorem dX1_init_1 : decode cX1_init 1 = .ok (.invokespecial 3, 3) := by decide +kernel
theorem dX1_init_4 : decode cX1_init 4 = .ok (.aload_n 0, 1) := by decide +kernel
theorem dX1_init_5 : decode cX1_init 5 = .ok (.iconst 0, 1) := by decide +kernel
theorem dX1_init_6 : decode cX1_init 6 = .ok (.putfield 9, 3) := by decide +kernel
theorem dX1_init_9 : decode cX1_init 9 = .ok (.aload_n 0, 1) := by decide +kernel
theorem dX1_init_10 : decode cX1_init 10 = .ok (.iconst 0, 1) := by decide +kernel
theorem dX1_init_11 : decode cX1_init 11 = .ok (.putfield 15, 3) := by decide +kernel
theorem dX1_init_14 : decode cX1_init 14 = .ok (.aload_n 0, 1) := by decide +kernel
theorem dX1_init_15 : decode cX1_init 15 = .ok (.iconst 0, 1) := by decide +kernel
theorem dX1_init_16 : decode cX1_init 16 = .ok (.putfield 18, 3) := by decide +kernel
theorem dX1_init_19 : decode cX1_init 19 = .ok (.aload_n 0, 1) := by decide +kernel
theorem dX1_init_20 : decode cX1_init 20 = .ok (.iconst 0, 1) := by decide +kernel
theorem dX1_init_21 : decode cX1_init 21 = .ok (.putfield 21, 3) := by decide +kernel
theorem dX1_init_24 : decode cX1_init 24 = .ok (.aload_n 0, 1) := by decide +kernel
theorem dX1_init_25 : decode cX1_init 25 = .ok (.iconst 0, 1) := by decide +kernel
theorem dX1_init_26 : decode cX1_init 26 = .ok (.putfield 24, 3) := by decide +kernel
theorem dX1_init_29 : decode cX1_init 29 = .ok (.aload_n 0, 1) := by decide +kernel
theorem dX1_init_30 : decode cX1_init 30 = .ok (.bipush 10, 2) := by decide +kernel
theorem dX1_init_32 : decode cX1_init 32 = .ok (.newarray .int, 2) := by decide +kernel
theorem dX1_init_34 : decode cX1_init 34 = .ok (.putfield 27, 3) := by decide +kernel
theorem dX1_init_37 : decode cX1_init 37 = .ok (.aload_n 0, 1) := by decide +kernel
theorem dX1_init_38 : decode cX1_init 38 = .ok (.sipush 640, 3) := by decide +kernel
theorem dX1_init_41 : decode cX1_init 41 = .ok (.newarray .int, 2) := by decide +kernel
theorem dX1_init_43 : decode cX1_init 43 = .ok (.putfield 31, 3) := by decide +kernel
theorem dX1_init_46 : decode cX1_init 46 = .ok (.aload_n 0, 1) := by decide +kernel
theorem dX1_init_47 : decode cX1_init 47 = .ok (.new 34, 3) := by decide +kernel
theorem dX1_init_50 : decode cX1_init 50 = .ok (.dup, 1) := by decide +kernel
theorem dX1_init_51 : decode cX1_init 51 = .ok (.invokespecial 36, 3) := by decide +kernel
theorem dX1_init_54 : decode cX1_init 54 = .ok (.putfield 37, 3) := by decide +kernel
theorem dX1_init_57 : decode cX1_init 57 = .ok (.aload_n 0, 1) := by decide +kernel
theorem dX1_init_58 : decode cX1_init 58 = .ok (.new 41, 3) := by decide +kernel
theorem dX1_init_61 : decode cX1_init 61 = .ok (.dup, 1) := by decide +kernel
theorem dX1_init_62 : decode cX1_init 62 = .ok (.invokespecial 43, 3) := by decide +kernel
theorem dX1_init_65 : decode cX1_init 65 = .ok (.putfield 44, 3) := by decide +kernel
theorem dX1_init_68 : decode cX1_init 68 = .ok (.return_, 1) := by decide +kernel
set_option maxRecDepth 20000 in
theorem ggX1_begin_X2_begin : GoodIn wsX1_begin wsX2_begin := goodIn_r _ [14, 15, 16, 17, 18, 19, 34, 35, 36, 37, 38] (by decide +kernel) (by decide +kernel)
set_option maxRecDepth 20000 in
theorem gX1_begin_X2_begin : GoodIn wsX1_begin (wsV RX1 48 RX2 yX2_begin wsX2_begin) := goodIn_app (goodIn_of _ (by decide +kernel)) ggX1_begin_X2_begin
theorem dX1_begin_0 : decode cX1_begin 0 = .ok (.aload_n 0, 1) := by decide +kernel
theorem dX1_begin_1 : decode cX1_begin 1 = .ok (.iconst 0, 1) := by decide +kernel
theorem dX1_begin_2 : decode cX1_begin 2 = .ok (.putfield 9, 3) := by decide +kernel
theorem dX1_begin_5 : decode cX1_begin 5 = .ok (.aload_n 0, 1) := by decide +kernel
theorem dX1_begin_6 : decode cX1_begin 6 = .ok (.iconst 0, 1) := by decide +kernel
theorem dX1_begin_7 : decode cX1_begin 7 = .ok (.putfield 15, 3) := by decide +kernel
theorem dX1_begin_10 : decode cX1_begin 10 = .ok (.aload_n 0, 1) := by decide +kernel
theorem dX1_begin_11 : decode cX1_begin 11 = .ok (.iconst 0, 1) := by decide +kernel
theorem dX1_begin_12 : decode cX1_begin 12 = .ok (.putfield 18, 3) := by decide +kernel
theorem dX1_begin_15 : decode cX1_begin 15 = .ok (.aload_n 0, 1) := by decide +kernel
theorem dX1_begin_16 : decode cX1_begin 16 = .ok (.iconst 0, 1) := by decide +kernel
theorem dX1_begin_17 : decode cX1_begin 17 = .ok (.putfield 21, 3) := by decide +kernel
theorem dX1_begin_20 : decode cX1_begin 20 = .ok (.aload_n 0, 1) := by decide +kernel
theorem dX1_begin_21 : decode cX1_begin 21 = .ok (.iconst 0, 1) := by decide +kernel
theorem dX1_begin_22 : decode cX1_begin 22 = .ok (.putfield 24, 3) := by decide +kernel
theorem dX1_begin_25 : decode cX1_begin 25 = .ok (.iconst 0, 1) := by decide +kernel
theorem dX1_begin_26 : decode cX1_begin 26 = .ok (.istore_n 1, 1) := by decide +kernel
theorem dX1_begin_27 : decode cX1_begin 27 = .ok (.iload_n 1, 1) := by decide +kernel
theorem dX1_begin_28 : decode cX1_begin 28 = .ok (.bipush 10, 2) := by decide +kernel
theorem dX1_begin_30 : decode cX1_begin 30 = .ok (.if_icmp .ge 16, 3) := by decide +kernel
theorem dX1_begin_33 : decode cX1_begin 33 = .ok (.aload_n 0, 1) := by decide +kernel
theorem dX1_begin_34 : decode cX1_begin 34 = .ok (.getfield 27, 3) := by decide +kernel
theorem dX1_begin_37 : decode cX1_begin 37 = .ok (.iload_n 1, 1) := by decide +kernel
theorem dX1_begin_38 : decode cX1_begin 38 = .ok (.iconst 0, 1) := by decide +kernel
theorem dX1_begin_39 : decode cX1_begin 39 = .ok (.iastore, 1) := by decide +kernel
theorem dX1_begin_40 : decode cX1_begin 40 = .ok (.iinc 1 1, 3) := by decide +kernel
theorem dX1_begin_43 : decode cX1_begin 43 = .ok (.goto (-16), 3) := by decide +kernel
theorem dX1_begin_46 : decode cX1_begin 46 = .ok (.aload_n 0, 1) := by decide +kernel
theorem dX1_begin_47 : decode cX1_begin 47 = .ok (.getfield 37, 3) := by decide +kernel
theorem dX1_begin_50 : decode cX1_begin 50 = .ok (.iconst 1, 1) := by decide +kernel
theorem dX1_begin_51 : decode cX1_begin 51 = .ok (.invokevirtual 48, 3) := by decide +kernel
theorem dX1_begin_54 : decode cX1_begin 54 = .ok (.aload_n 0, 1) := by decide +kernel
theorem dX1_begin_55 : decode cX1_begin 55 = .ok (.getfield 44, 3) := by decide +kernel
theorem dX1_begin_58 : decode cX1_begin 58 = .ok (.iconst 0, 1) := by decide +kernel
theorem dX1_begin_59 : decode cX1_begin 59 = .ok (.putfield 52, 3) := by decide +kernel
theorem dX1_begin_62 : decode cX1_begin 62 = .ok (.return_, 1) := by decide +kernel
set_option maxRecDepth 20000 in
theorem ggX1_copy_X2_copy : GoodIn wsX1_copy wsX2_copy := goodIn_r _ [18, 19, 20, 21, 22, 23, 44, 45, 46, 47, 48] (by decide +kernel) (by decide +kernel)
set_option maxRecDepth 20000 in
theorem gX1_copy_X2_copy : GoodIn wsX1_copy (wsV RX1 61 RX2 yX2_copy wsX2_copy) := goodIn_app (goodIn_of _ (by decide +kernel)) ggX1_copy_X2_copy
set_option maxRecDepth 20000 in
theorem ggX1_copy_X5_copy : GoodIn wsX1_copy wsX5_copy := goodIn_r _ [28, 29, 30, 8, 9, 10, 31, 32, 33, 34, 49, 50, 51, 52, 53] (by decide +kernel) (by decide +kernel)
set_option maxRecDepth 20000 in
theorem gX1_copy_X5_copy : GoodIn wsX1_copy (wsV RX1 65 RX5 yX5_copy wsX5_copy) := goodIn_app (goodIn_of _ (by decide +kernel)) ggX1_copy_X5_copy
theorem dX1_copy_0 : decode cX1_copy 0 = .ok (.aload_n 0, 1) := by decide +kernel
theorem dX1_copy_1 : decode cX1_copy 1 = .ok (.aload_n 1, 1) := by decide +kernel
theorem dX1_copy_2 : decode cX1_copy 2 = .ok (.getfield 9, 3) := by decide +kernel
theorem dX1_copy_5 : decode cX1_copy 5 = .ok (.putfield 9, 3) := by decide +kernel
theorem dX1_copy_8 : decode cX1_copy 8 = .ok (.aload_n 0, 1) := by decide +kernel
theorem dX1_copy_9 : decode cX1_copy 9 = .ok (.aload_n 1, 1) := by decide +kernel
theorem dX1_copy_10 : decode cX1_copy 10 = .ok (.getfield 15, 3) := by decide +kernel
theorem dX1_copy_13 : decode cX1_copy 13 = .ok (.putfield 15, 3) := by decide +kernel
theorem dX1_copy_16 : decode cX1_copy 16 = .ok (.aload_n 0, 1) := by decide +kernel
theorem dX1_copy_17 : decode cX1_copy 17 = .ok (.aload_n 1, 1) := by decide +kernel
theorem dX1_copy_18 : decode cX1_copy 18 = .ok (.getfield 18, 3) := by decide +kernel
theorem dX1_copy_21 : decode cX1_copy 21 = .ok (.putfield 18, 3) := by decide +kernel
theorem dX1_copy_24 : decode cX1_copy 24 = .ok (.aload_n 0, 1) := by decide +kernel
theorem dX1_copy_25 : decode cX1_copy 25 = .ok (.aload_n 1, 1) := by decide +kernel
theorem dX1_copy_26 : decode cX1_copy 26 = .ok (.getfield 21, 3) := by decide +kernel
theorem dX1_copy_29 : decode cX1_copy 29 = .ok (.putfield 21, 3) := by decide +kernel
theorem dX1_copy_32 : decode cX1_copy 32 = .ok (.aload_n 0, 1) := by decide +kernel
theorem dX1_copy_33 : decode cX1_copy 33 = .ok (.aload_n 1, 1) := by decide +kernel
theorem dX1_copy_34 : decode cX1_copy 34 = .ok (.getfield 24, 3) := by decide +kernel
theorem dX1_copy_37 : decode cX1_copy 37 = .ok (.putfield 24, 3) := by decide +kernel
theorem dX1_copy_40 : decode cX1_copy 40 = .ok (.aload_n 1, 1) := by decide +kernel
theorem dX1_copy_41 : decode cX1_copy 41 = .ok (.getfield 27, 3) := by decide +kernel
theorem dX1_copy_44 : decode cX1_copy 44 = .ok (.iconst 0, 1) := by decide +kernel
theorem dX1_copy_45 : decode cX1_copy 45 = .ok (.aload_n 0, 1) := by decide +kernel
theorem dX1_copy_46 : decode cX1_copy 46 = .ok (.getfield 27, 3) := by decide +kernel
theorem dX1_copy_49 : decode cX1_copy 49 = .ok (.iconst 0, 1) := by decide +kernel
theorem dX1_copy_50 : decode cX1_copy 50 = .ok (.bipush 10, 2) := by decide +kernel
theorem dX1_copy_52 : decode cX1_copy 52 = .ok (.invokestatic 55, 3) := by decide +kernel
theorem dX1_copy_55 : decode cX1_copy 55 = .ok (.aload_n 1, 1) := by decide +kernel
theorem dX1_copy_56 : decode cX1_copy 56 = .ok (.getfield 31, 3) := by decide +kernel
theorem dX1_copy_59 : decode cX1_copy 59 = .ok (.iconst 0, 1) := by decide +kernel
theorem dX1_copy_60 : decode cX1_copy 60 = .ok (.aload_n 0, 1) := by decide +kernel
theorem dX1_copy_61 : decode cX1_copy 61 = .ok (.getfield 31, 3) := by decide +kernel
theorem dX1_copy_64 : decode cX1_copy 64 = .ok (.iconst 0, 1) := by decide +kernel
theorem dX1_copy_65 : decode cX1_copy 65 = .ok (.sipush 640, 3) := by decide +kernel
theorem dX1_copy_68 : decode cX1_copy 68 = .ok (.invokestatic 55, 3) := by decide +kernel
theorem dX1_copy_71 : decode cX1_copy 71 = .ok (.aload_n 0, 1) := by decide +kernel
theorem dX1_copy_72 : decode cX1_copy 72 = .ok (.getfield 37, 3) := by decide +kernel
theorem dX1_copy_75 : decode cX1_copy 75 = .ok (.aload_n 1, 1) := by decide +kernel
theorem dX1_copy_76 : decode cX1_copy 76 = .ok (.getfield 37, 3) := by decide +kernel
theorem dX1_copy_79 : decode cX1_copy 79 = .ok (.invokevirtual 61, 3) := by decide +kernel
theorem dX1_copy_82 : decode cX1_copy 82 = .ok (.aload_n 0, 1) := by decide +kernel
theorem dX1_copy_83 : decode cX1_copy 83 = .ok (.getfield 44, 3) := by decide +kernel
theorem dX1_copy_86 : decode cX1_copy 86 = .ok (.aload_n 1, 1) := by decide +kernel
theorem dX1_copy_87 : decode cX1_copy 87 = .ok (.getfield 44, 3) := by decide +kernel
theorem dX1_copy_90 : decode cX1_copy 90 = .ok (.invokevirtual 65, 3) := by decide +kernel
theorem dX1_copy_93 : decode cX1_copy 93 = .ok (.return_, 1) := by decide +kernel
set_option maxRecDepth 20000 in
theorem ggX1_changeSetpoint_X2_begin : GoodIn wsX1_changeSetpoint wsX2_begin := goodIn_r _ [7, 8, 9, 10, 11, 12, 22, 23, 24, 25, 26] (by decide +kernel) (by decide +kernel)
set_option maxRecDepth 20000 in
theorem gX1_changeSetpoint_X2_begin : GoodIn wsX1_changeSetpoint (wsV RX1 48 RX2 yX2_begin wsX2_begin) := goodIn_app (goodIn_of _ (by decide +kernel)) ggX1_changeSetpoint_X2_begin
theorem dX1_changeSetpoint_0 : decode cX1_changeSetpoint 0 = .ok (.aload_n 0, 1) := by decide +kernel
theorem dX1_changeSetpoint_1 : decode cX1_changeSetpoint 1 = .ok (.getfield 27, 3) := by decide +kernel
theorem dX1_changeSetpoint_4 : decode cX1_changeSetpoint 4 = .ok (.iconst 0, 1) := by decide +kernel
theorem dX1_changeSetpoint_5 : decode cX1_changeSetpoint 5 = .ok (.iaload, 1) := by decide +kernel
theorem dX1_changeSetpoint_6 : decode cX1_changeSetpoint 6 = .ok (.istore_n 2, 1) := by decide +kernel
theorem dX1_changeSetpoint_7 : decode cX1_changeSetpoint 7 = .ok (.aload_n 0, 1) := by decide +kernel
theorem dX1_changeSetpoint_8 : decode cX1_changeSetpoint 8 = .ok (.getfield 27, 3) := by decide +kernel
theorem dX1_changeSetpoint_11 : decode cX1_changeSetpoint 11 = .ok (.iconst 0, 1) := by decide +kernel
theorem dX1_changeSetpoint_12 : decode cX1_changeSetpoint 12 = .ok (.iload_n 1, 1) := by decide +kernel
theorem dX1_changeSetpoint_13 : decode cX1_changeSetpoint 13 = .ok (.iastore, 1) := by decide +kernel
theorem dX1_changeSetpoint_14 : decode cX1_changeSetpoint 14 = .ok (.aload_n 0, 1) := by decide +kernel
theorem dX1_changeSetpoint_15 : decode cX1_changeSetpoint 15 = .ok (.getfield 37, 3) := by decide +kernel
theorem dX1_changeSetpoint_18 : decode cX1_changeSetpoint 18 = .ok (.iload_n 1, 1) := by decide +kernel
theorem dX1_changeSetpoint_19 : decode cX1_changeSetpoint 19 = .ok (.iload_n 2, 1) := by decide +kernel
theorem dX1_changeSetpoint_20 : decode cX1_changeSetpoint 20 = .ok (.if_icmp .lt 7, 3) := by decide +kernel
theorem dX1_changeSetpoint_23 : decode cX1_changeSetpoint 23 = .ok (.iconst 1, 1) := by decide +kernel
theorem dX1_changeSetpoint_24 : decode cX1_changeSetpoint 24 = .ok (.goto 4, 3) := by decide +kernel
theorem dX1_changeSetpoint_27 : decode cX1_changeSetpoint 27 = .ok (.iconst 0, 1) := by decide +kernel
theorem dX1_changeSetpoint_28 : decode cX1_changeSetpoint 28 = .ok (.invokevirtual 48, 3) := by decide +kernel
theorem dX1_changeSetpoint_31 : decode cX1_changeSetpoint 31 = .ok (.iload_n 2, 1) := by decide +kernel
theorem dX1_changeSetpoint_32 : decode cX1_changeSetpoint 32 = .ok (.ireturn, 1) := by decide +kernel
set_option maxRecDepth 20000 in
theorem ggX1_recordOf_X6_isSignal : GoodIn wsX1_recordOf wsX6_isSignal := goodIn_r _ [5] (by decide +kernel) (by decide +kernel)
set_option maxRecDepth 20000 in
theorem gX1_recordOf_X6_isSignal_n68 : GoodIn wsX1_recordOf (wsX6_isSignal) := ggX1_recordOf_X6_isSignal
set_option maxRecDepth 20000 in
theorem ggX1_recordOf_J9_floorMod_7cf53 : GoodIn wsX1_recordOf wsJ9_floorMod_7cf53 := goodIn_r _ [9] (by decide +kernel) (by decide +kernel)
set_option maxRecDepth 20000 in
theorem gX1_recordOf_J9_floorMod_7cf53 : GoodIn wsX1_recordOf (va_wsS RX1 72 yJ9_floorMod_7cf53 wsJ9_floorMod_7cf53) := goodIn_app (goodIn_of _ (by decide +kernel)) ggX1_recordOf_J9_floorMod_7cf53
theorem dX1_recordOf_0 : decode cX1_recordOf 0 = .ok (.iload_n 1, 1) := by decide +kernel
theorem dX1_recordOf_1 : decode cX1_recordOf 1 = .ok (.invokestatic 68, 3) := by decide +kernel
theorem dX1_recordOf_4 : decode cX1_recordOf 4 = .ok (.ifCond .eq 26, 3) := by decide +kernel
theorem dX1_recordOf_7 : decode cX1_recordOf 7 = .ok (.iload_n 2, 1) := by decide +kernel
theorem dX1_recordOf_8 : decode cX1_recordOf 8 = .ok (.ifCond .lt 22, 3) := by decide +kernel
theorem dX1_recordOf_11 : decode cX1_recordOf 11 = .ok (.iload_n 2, 1) := by decide +kernel
theorem dX1_recordOf_12 : decode cX1_recordOf 12 = .ok (.aload_n 0, 1) := by decide +kernel
theorem dX1_recordOf_13 : decode cX1_recordOf 13 = .ok (.getfield 9, 3) := by decide +kernel
theorem dX1_recordOf_16 : decode cX1_recordOf 16 = .ok (.if_icmp .ge 14, 3) := by decide +kernel
theorem dX1_recordOf_19 : decode cX1_recordOf 19 = .ok (.iload_n 2, 1) := by decide +kernel
theorem dX1_recordOf_20 : decode cX1_recordOf 20 = .ok (.aload_n 0, 1) := by decide +kernel
theorem dX1_recordOf_21 : decode cX1_recordOf 21 = .ok (.getfield 9, 3) := by decide +kernel
theorem dX1_recordOf_24 : decode cX1_recordOf 24 = .ok (.bipush 64, 2) := by decide +kernel
theorem dX1_recordOf_26 : decode cX1_recordOf 26 = .ok (.isub, 1) := by decide +kernel
theorem dX1_recordOf_27 : decode cX1_recordOf 27 = .ok (.if_icmp .ge 5, 3) := by decide +kernel
theorem dX1_recordOf_30 : decode cX1_recordOf 30 = .ok (.iconst 0, 1) := by decide +kernel
theorem dX1_recordOf_31 : decode cX1_recordOf 31 = .ok (.ireturn, 1) := by decide +kernel
theorem dX1_recordOf_32 : decode cX1_recordOf 32 = .ok (.aload_n 0, 1) := by decide +kernel
theorem dX1_recordOf_33 : decode cX1_recordOf 33 = .ok (.getfield 31, 3) := by decide +kernel
theorem dX1_recordOf_36 : decode cX1_recordOf 36 = .ok (.iload_n 1, 1) := by decide +kernel
theorem dX1_recordOf_37 : decode cX1_recordOf 37 = .ok (.bipush 64, 2) := by decide +kernel
theorem dX1_recordOf_39 : decode cX1_recordOf 39 = .ok (.imul, 1) := by decide +kernel
theorem dX1_recordOf_40 : decode cX1_recordOf 40 = .ok (.iload_n 2, 1) := by decide +kernel
theorem dX1_recordOf_41 : decode cX1_recordOf 41 = .ok (.bipush 64, 2) := by decide +kernel
theorem dX1_recordOf_43 : decode cX1_recordOf 43 = .ok (.invokestatic 72, 3) := by decide +kernel
theorem dX1_recordOf_46 : decode cX1_recordOf 46 = .ok (.iadd, 1) := by decide +kernel
theorem dX1_recordOf_47 : decode cX1_recordOf 47 = .ok (.iaload, 1) := by decide +kernel
theorem dX1_recordOf_48 : decode cX1_recordOf 48 = .ok (.ireturn, 1) := by decide +kernel
set_option maxRecDepth 20000 in
theorem ggX1_agreement_X1_recordOf : GoodIn wsX1_agreement wsX1_recordOf := goodIn_r _ [10, 1, 11, 12, 13, 14, 15, 16, 17, 18, 19, 20, 21, 22, 23, 24, 25, 26, 27] (by decide +kernel) (by decide +kernel)
set_option maxRecDepth 20000 in
theorem gX1_agreement_X1_recordOf : GoodIn wsX1_agreement (wsV RX1 81 RX1 yX1_recordOf wsX1_recordOf) := goodIn_app (goodIn_of _ (by decide +kernel)) ggX1_agreement_X1_recordOf
theorem dX1_agreement_0 : decode cX1_agreement 0 = .ok (.lconst 0, 1) := by decide +kernel
theorem dX1_agreement_1 : decode cX1_agreement 1 = .ok (.lstore_n 2, 1) := by decide +kernel
theorem dX1_agreement_2 : decode cX1_agreement 2 = .ok (.iconst 0, 1) := by decide +kernel
theorem dX1_agreement_3 : decode cX1_agreement 3 = .ok (.aload_n 0, 1) := by decide +kernel
theorem dX1_agreement_4 : decode cX1_agreement 4 = .ok (.getfield 9, 3) := by decide +kernel
theorem dX1_agreement_7 : decode cX1_agreement 7 = .ok (.bipush 32, 2) := by decide +kernel
theorem dX1_agreement_9 : decode cX1_agreement 9 = .ok (.isub, 1) := by decide +kernel
theorem dX1_agreement_10 : decode cX1_agreement 10 = .ok (.invokestatic 78, 3) := by decide +kernel
theorem dX1_agreement_13 : decode cX1_agreement 13 = .ok (.istore 4, 2) := by decide +kernel
theorem dX1_agreement_15 : decode cX1_agreement 15 = .ok (.iload 4, 2) := by decide +kernel
theorem dX1_agreement_17 : decode cX1_agreement 17 = .ok (.aload_n 0, 1) := by decide +kernel
theorem dX1_agreement_18 : decode cX1_agreement 18 = .ok (.getfield 9, 3) := by decide +kernel
theorem dX1_agreement_21 : decode cX1_agreement 21 = .ok (.if_icmp .ge 65, 3) := by decide +kernel
theorem dX1_agreement_24 : decode cX1_agreement 24 = .ok (.iload 4, 2) := by decide +kernel
theorem dX1_agreement_26 : decode cX1_agreement 26 = .ok (.iconst 1, 1) := by decide +kernel
theorem dX1_agreement_27 : decode cX1_agreement 27 = .ok (.isub, 1) := by decide +kernel
theorem dX1_agreement_28 : decode cX1_agreement 28 = .ok (.iload_n 1, 1) := by decide +kernel
theorem dX1_agreement_29 : decode cX1_agreement 29 = .ok (.isub, 1) := by decide +kernel
theorem dX1_agreement_30 : decode cX1_agreement 30 = .ok (.istore 5, 2) := by decide +kernel
theorem dX1_agreement_32 : decode cX1_agreement 32 = .ok (.aload_n 0, 1) := by decide +kernel
theorem dX1_agreement_33 : decode cX1_agreement 33 = .ok (.iconst 2, 1) := by decide +kernel
theorem dX1_agreement_34 : decode cX1_agreement 34 = .ok (.iload 5, 2) := by decide +kernel
theorem dX1_agreement_36 : decode cX1_agreement 36 = .ok (.invokevirtual 81, 3) := by decide +kernel
theorem dX1_agreement_39 : decode cX1_agreement 39 = .ok (.aload_n 0, 1) := by decide +kernel
theorem dX1_agreement_40 : decode cX1_agreement 40 = .ok (.iconst 2, 1) := by decide +kernel
theorem dX1_agreement_41 : decode cX1_agreement 41 = .ok (.iload 5, 2) := by decide +kernel
theorem dX1_agreement_43 : decode cX1_agreement 43 = .ok (.iconst 1, 1) := by decide +kernel
theorem dX1_agreement_44 : decode cX1_agreement 44 = .ok (.isub, 1) := by decide +kernel
theorem dX1_agreement_45 : decode cX1_agreement 45 = .ok (.invokevirtual 81, 3) := by decide +kernel
theorem dX1_agreement_48 : decode cX1_agreement 48 = .ok (.isub, 1) := by decide +kernel
theorem dX1_agreement_49 : decode cX1_agreement 49 = .ok (.i2l, 1) := by decide +kernel
theorem dX1_agreement_50 : decode cX1_agreement 50 = .ok (.lstore 6, 2) := by decide +kernel
theorem dX1_agreement_52 : decode cX1_agreement 52 = .ok (.aload_n 0, 1) := by decide +kernel
theorem dX1_agreement_53 : decode cX1_agreement 53 = .ok (.iconst 1, 1) := by decide +kernel
theorem dX1_agreement_54 : decode cX1_agreement 54 = .ok (.iload 4, 2) := by decide +kernel
theorem dX1_agreement_56 : decode cX1_agreement 56 = .ok (.invokevirtual 81, 3) := by decide +kernel
theorem dX1_agreement_59 : decode cX1_agreement 59 = .ok (.aload_n 0, 1) := by decide +kernel
theorem dX1_agreement_60 : decode cX1_agreement 60 = .ok (.iconst 1, 1) := by decide +kernel
theorem dX1_agreement_61 : decode cX1_agreement 61 = .ok (.iload 4, 2) := by decide +kernel
theorem dX1_agreement_63 : decode cX1_agreement 63 = .ok (.iconst 1, 1) := by decide +kernel
theorem dX1_agreement_64 : decode cX1_agreement 64 = .ok (.isub, 1) := by decide +kernel
theorem dX1_agreement_65 : decode cX1_agreement 65 = .ok (.invokevirtual 81, 3) := by decide +kernel
theorem dX1_agreement_68 : decode cX1_agreement 68 = .ok (.isub, 1) := by decide +kernel
theorem dX1_agreement_69 : decode cX1_agreement 69 = .ok (.i2l, 1) := by decide +kernel
theorem dX1_agreement_70 : decode cX1_agreement 70 = .ok (.lstore 8, 2) := by decide +kernel
theorem dX1_agreement_72 : decode cX1_agreement 72 = .ok (.lload_n 2, 1) := by decide +kernel
theorem dX1_agreement_73 : decode cX1_agreement 73 = .ok (.lload 6, 2) := by decide +kernel
theorem dX1_agreement_75 : decode cX1_agreement 75 = .ok (.lload 8, 2) := by decide +kernel
theorem dX1_agreement_77 : decode cX1_agreement 77 = .ok (.lmul, 1) := by decide +kernel
theorem dX1_agreement_78 : decode cX1_agreement 78 = .ok (.ladd, 1) := by decide +kernel
theorem dX1_agreement_79 : decode cX1_agreement 79 = .ok (.lstore_n 2, 1) := by decide +kernel
theorem dX1_agreement_80 : decode cX1_agreement 80 = .ok (.iinc 4 1, 3) := by decide +kernel
theorem dX1_agreement_83 : decode cX1_agreement 83 = .ok (.goto (-68), 3) := by decide +kernel
theorem dX1_agreement_86 : decode cX1_agreement 86 = .ok (.lload_n 2, 1) := by decide +kernel
theorem dX1_agreement_87 : decode cX1_agreement 87 = .ok (.lreturn, 1) := by decide +kernel
set_option maxRecDepth 20000 in
theorem ggX1_tick_X3_get : GoodIn wsX1_tick wsX3_get := goodIn_r _ [13, 14, 15, 16, 17, 126] (by decide +kernel) (by decide +kernel)
set_option maxRecDepth 20000 in
theorem gX1_tick_X3_get : GoodIn wsX1_tick (wsV RX1 84 RX3 yX3_get wsX3_get) := goodIn_app (goodIn_of _ (by decide +kernel)) ggX1_tick_X3_get
set_option maxRecDepth 20000 in
theorem ggX1_tick_X1_noise : GoodIn wsX1_tick wsX1_noise := goodIn_r _ [22, 23, 8, 24, 25, 26, 27, 117, 118, 119, 120, 121, 122, 123, 124, 125] (by decide +kernel) (by decide +kernel)
set_option maxRecDepth 20000 in
theorem gX1_tick_X1_noise : GoodIn wsX1_tick (wsV RX1 90 RX1 yX1_noise wsX1_noise) := goodIn_app (goodIn_of _ (by decide +kernel)) ggX1_tick_X1_noise
set_option maxRecDepth 20000 in
theorem ggX1_tick_X1_delayed : GoodIn wsX1_tick wsX1_delayed := goodIn_r _ [31, 8, 32, 33, 34, 35, 21, 36, 37, 38, 16, 39, 40, 41, 42, 43, 44, 45, 46, 117, 118, 119, 120, 121, 122, 123, 124, 125] (by decide +kernel) (by decide +kernel)
set_option maxRecDepth 20000 in
theorem gX1_tick_X1_delayed : GoodIn wsX1_tick (wsV RX1 93 RX1 yX1_delayed wsX1_delayed) := goodIn_app (goodIn_of _ (by decide +kernel)) ggX1_tick_X1_delayed
set_option maxRecDepth 20000 in
theorem ggX1_tick_X6_stepped : GoodIn wsX1_tick wsX6_stepped := goodIn_r _ [48, 49, 50, 16, 51, 52, 53, 45, 42, 46] (by decide +kernel) (by decide +kernel)
set_option maxRecDepth 20000 in
theorem gX1_tick_X6_stepped_n97 : GoodIn wsX1_tick (wsX6_stepped) := ggX1_tick_X6_stepped
set_option maxRecDepth 20000 in
theorem ggX1_tick_X1_judge : GoodIn wsX1_tick wsX1_judge := goodIn_r _ [57, 58, 59, 1, 117, 118, 119, 120, 121, 122, 123, 124, 125] (by decide +kernel) (by decide +kernel)
set_option maxRecDepth 20000 in
theorem gX1_tick_X1_judge : GoodIn wsX1_tick (wsV RX1 104 RX1 yX1_judge wsX1_judge) := goodIn_app (goodIn_of _ (by decide +kernel)) ggX1_tick_X1_judge
set_option maxRecDepth 20000 in
theorem ggX1_tick_X1_control : GoodIn wsX1_tick wsX1_control := goodIn_r _ [63, 1, 9, 10, 11, 12, 13, 14, 15, 16, 17, 50, 51, 52, 53, 45, 42, 46, 64, 65, 66, 21, 67, 68, 69, 70, 71, 4, 72, 73, 74, 75, 117, 118, 119, 120, 121, 122, 123, 124, 125, 126] (by decide +kernel) (by decide +kernel)
set_option maxRecDepth 20000 in
theorem gX1_tick_X1_control : GoodIn wsX1_tick (wsV RX1 108 RX1 yX1_control wsX1_control) := goodIn_app (goodIn_of _ (by decide +kernel)) ggX1_tick_X1_control
set_option maxRecDepth 20000 in
theorem ggX1_tick_X1_keepRecords : GoodIn wsX1_tick wsX1_keepRecords := goodIn_r _ [79, 37, 8, 1, 40, 41, 42, 43, 117, 118, 119, 120, 121, 122, 123, 124, 125] (by decide +kernel) (by decide +kernel)
set_option maxRecDepth 20000 in
theorem gX1_tick_X1_keepRecords : GoodIn wsX1_tick (wsV RX1 112 RX1 yX1_keepRecords wsX1_keepRecords) := goodIn_app (goodIn_of _ (by decide +kernel)) ggX1_tick_X1_keepRecords
set_option maxRecDepth 20000 in
theorem ggX1_tick_X2_see : GoodIn wsX1_tick wsX2_see := goodIn_r _ [84, 85, 86, 3, 4, 5, 87, 88, 89, 90, 91, 92, 93, 127, 128, 129, 130, 131] (by decide +kernel) (by decide +kernel)
set_option maxRecDepth 20000 in
theorem gX1_tick_X2_see : GoodIn wsX1_tick (wsV RX1 115 RX2 yX2_see wsX2_see) := goodIn_app (goodIn_of _ (by decide +kernel)) ggX1_tick_X2_see
set_option maxRecDepth 20000 in
theorem ggX1_tick_X5_see : GoodIn wsX1_tick wsX5_see := goodIn_r _ [98, 99, 100, 101, 102, 103, 97, 104, 105, 106, 107, 108, 109, 110, 111, 132, 133, 134, 135, 136] (by decide +kernel) (by decide +kernel)
set_option maxRecDepth 20000 in
theorem gX1_tick_X5_see : GoodIn wsX1_tick (wsV RX1 119 RX5 yX5_see wsX5_see) := goodIn_app (goodIn_of _ (by decide +kernel)) ggX1_tick_X5_see
set_option maxRecDepth 20000 in
theorem ggX1_tick_X1_moveOn : GoodIn wsX1_tick wsX1_moveOn := goodIn_r _ [115, 1, 116, 8, 9, 10, 11, 12, 13, 14, 15, 16, 17, 28, 29, 30, 21, 31, 32, 33, 34, 35, 36, 37, 38, 39, 40, 41, 42, 43, 44, 45, 46, 50, 51, 52, 53, 47, 48, 49, 117, 118, 119, 120, 121, 122, 123, 124, 125, 126] (by decide +kernel) (by decide +kernel)
set_option maxRecDepth 20000 in
theorem gX1_tick_X1_moveOn : GoodIn wsX1_tick (wsV RX1 122 RX1 yX1_moveOn wsX1_moveOn) := goodIn_app (goodIn_of _ (by decide +kernel)) ggX1_tick_X1_moveOn
theorem dX1_tick_0 : decode cX1_tick 0 = .ok (.aload_n 0, 1) := by decide +kernel
theorem dX1_tick_1 : decode cX1_tick 1 = .ok (.getfield 27, 3) := by decide +kernel
theorem dX1_tick_4 : decode cX1_tick 4 = .ok (.iconst 2, 1) := by decide +kernel
theorem dX1_tick_5 : decode cX1_tick 5 = .ok (.iaload, 1) := by decide +kernel
theorem dX1_tick_6 : decode cX1_tick 6 = .ok (.istore_n 3, 1) := by decide +kernel
theorem dX1_tick_7 : decode cX1_tick 7 = .ok (.aload_n 0, 1) := by decide +kernel
theorem dX1_tick_8 : decode cX1_tick 8 = .ok (.getfield 27, 3) := by decide +kernel
theorem dX1_tick_11 : decode cX1_tick 11 = .ok (.iconst 1, 1) := by decide +kernel
theorem dX1_tick_12 : decode cX1_tick 12 = .ok (.aload_n 0, 1) := by decide +kernel
theorem dX1_tick_13 : decode cX1_tick 13 = .ok (.getfield 27, 3) := by decide +kernel
theorem dX1_tick_16 : decode cX1_tick 16 = .ok (.bipush 8, 2) := by decide +kernel
theorem dX1_tick_18 : decode cX1_tick 18 = .ok (.iaload, 1) := by decide +kernel
theorem dX1_tick_19 : decode cX1_tick 19 = .ok (.aload_n 0, 1) := by decide +kernel
theorem dX1_tick_20 : decode cX1_tick 20 = .ok (.aload_n 1, 1) := by decide +kernel
theorem dX1_tick_21 : decode cX1_tick 21 = .ok (.bipush 14, 2) := by decide +kernel
theorem dX1_tick_23 : decode cX1_tick 23 = .ok (.invokevirtual 84, 3) := by decide +kernel
theorem dX1_tick_26 : decode cX1_tick 26 = .ok (.invokevirtual 90, 3) := by decide +kernel
theorem dX1_tick_29 : decode cX1_tick 29 = .ok (.iadd, 1) := by decide +kernel
theorem dX1_tick_30 : decode cX1_tick 30 = .ok (.iastore, 1) := by decide +kernel
theorem dX1_tick_31 : decode cX1_tick 31 = .ok (.aload_n 0, 1) := by decide +kernel
theorem dX1_tick_32 : decode cX1_tick 32 = .ok (.getfield 27, 3) := by decide +kernel
theorem dX1_tick_35 : decode cX1_tick 35 = .ok (.iconst 4, 1) := by decide +kernel
theorem dX1_tick_36 : decode cX1_tick 36 = .ok (.aload_n 0, 1) := by decide +kernel
theorem dX1_tick_37 : decode cX1_tick 37 = .ok (.iconst 3, 1) := by decide +kernel
theorem dX1_tick_38 : decode cX1_tick 38 = .ok (.aload_n 0, 1) := by decide +kernel
theorem dX1_tick_39 : decode cX1_tick 39 = .ok (.getfield 27, 3) := by decide +kernel
theorem dX1_tick_42 : decode cX1_tick 42 = .ok (.iconst 3, 1) := by decide +kernel
theorem dX1_tick_43 : decode cX1_tick 43 = .ok (.iaload, 1) := by decide +kernel
theorem dX1_tick_44 : decode cX1_tick 44 = .ok (.aload_n 1, 1) := by decide +kernel
theorem dX1_tick_45 : decode cX1_tick 45 = .ok (.bipush 7, 2) := by decide +kernel
theorem dX1_tick_47 : decode cX1_tick 47 = .ok (.invokevirtual 84, 3) := by decide +kernel
theorem dX1_tick_50 : decode cX1_tick 50 = .ok (.invokevirtual 93, 3) := by decide +kernel
theorem dX1_tick_53 : decode cX1_tick 53 = .ok (.iastore, 1) := by decide +kernel
theorem dX1_tick_54 : decode cX1_tick 54 = .ok (.aload_n 0, 1) := by decide +kernel
theorem dX1_tick_55 : decode cX1_tick 55 = .ok (.getfield 27, 3) := by decide +kernel
theorem dX1_tick_58 : decode cX1_tick 58 = .ok (.iconst 1, 1) := by decide +kernel
theorem dX1_tick_59 : decode cX1_tick 59 = .ok (.iaload, 1) := by decide +kernel
theorem dX1_tick_60 : decode cX1_tick 60 = .ok (.aload_n 0, 1) := by decide +kernel
theorem dX1_tick_61 : decode cX1_tick 61 = .ok (.getfield 27, 3) := by decide +kernel
theorem dX1_tick_64 : decode cX1_tick 64 = .ok (.iconst 4, 1) := by decide +kernel
theorem dX1_tick_65 : decode cX1_tick 65 = .ok (.iaload, 1) := by decide +kernel
theorem dX1_tick_66 : decode cX1_tick 66 = .ok (.isub, 1) := by decide +kernel
theorem dX1_tick_67 : decode cX1_tick 67 = .ok (.istore 4, 2) := by decide +kernel
theorem dX1_tick_69 : decode cX1_tick 69 = .ok (.aload_n 0, 1) := by decide +kernel
theorem dX1_tick_70 : decode cX1_tick 70 = .ok (.getfield 27, 3) := by decide +kernel
theorem dX1_tick_73 : decode cX1_tick 73 = .ok (.iconst 5, 1) := by decide +kernel
theorem dX1_tick_74 : decode cX1_tick 74 = .ok (.aload_n 0, 1) := by decide +kernel
theorem dX1_tick_75 : decode cX1_tick 75 = .ok (.getfield 27, 3) := by decide +kernel
theorem dX1_tick_78 : decode cX1_tick 78 = .ok (.iconst 5, 1) := by decide +kernel
theorem dX1_tick_79 : decode cX1_tick 79 = .ok (.iaload, 1) := by decide +kernel
theorem dX1_tick_80 : decode cX1_tick 80 = .ok (.i2l, 1) := by decide +kernel
theorem dX1_tick_81 : decode cX1_tick 81 = .ok (.iload 4, 2) := by decide +kernel
theorem dX1_tick_83 : decode cX1_tick 83 = .ok (.i2l, 1) := by decide +kernel
theorem dX1_tick_84 : decode cX1_tick 84 = .ok (.sipush 1000, 3) := by decide +kernel
theorem dX1_tick_87 : decode cX1_tick 87 = .ok (.aload_n 1, 1) := by decide +kernel
theorem dX1_tick_88 : decode cX1_tick 88 = .ok (.bipush 8, 2) := by decide +kernel
theorem dX1_tick_90 : decode cX1_tick 90 = .ok (.invokevirtual 84, 3) := by decide +kernel
theorem dX1_tick_93 : decode cX1_tick 93 = .ok (.isub, 1) := by decide +kernel
theorem dX1_tick_94 : decode cX1_tick 94 = .ok (.i2l, 1) := by decide +kernel
theorem dX1_tick_95 : decode cX1_tick 95 = .ok (.invokestatic 97, 3) := by decide +kernel
theorem dX1_tick_98 : decode cX1_tick 98 = .ok (.iastore, 1) := by decide +kernel
theorem dX1_tick_99 : decode cX1_tick 99 = .ok (.aload_n 0, 1) := by decide +kernel
theorem dX1_tick_100 : decode cX1_tick 100 = .ok (.iload 4, 2) := by decide +kernel
theorem dX1_tick_102 : decode cX1_tick 102 = .ok (.invokestatic 101, 3) := by decide +kernel
theorem dX1_tick_105 : decode cX1_tick 105 = .ok (.aload_n 1, 1) := by decide +kernel
theorem dX1_tick_106 : decode cX1_tick 106 = .ok (.bipush 12, 2) := by decide +kernel
theorem dX1_tick_108 : decode cX1_tick 108 = .ok (.invokevirtual 84, 3) := by decide +kernel
theorem dX1_tick_111 : decode cX1_tick 111 = .ok (.if_icmp .le 7, 3) := by decide +kernel
theorem dX1_tick_114 : decode cX1_tick 114 = .ok (.iconst 1, 1) := by decide +kernel
theorem dX1_tick_115 : decode cX1_tick 115 = .ok (.goto 4, 3) := by decide +kernel
theorem dX1_tick_118 : decode cX1_tick 118 = .ok (.iconst 0, 1) := by decide +kernel
theorem dX1_tick_119 : decode cX1_tick 119 = .ok (.aload_n 1, 1) := by decide +kernel
theorem dX1_tick_120 : decode cX1_tick 120 = .ok (.bipush 13, 2) := by decide +kernel
theorem dX1_tick_122 : decode cX1_tick 122 = .ok (.invokevirtual 84, 3) := by decide +kernel
theorem dX1_tick_125 : decode cX1_tick 125 = .ok (.invokevirtual 104, 3) := by decide +kernel
theorem dX1_tick_128 : decode cX1_tick 128 = .ok (.aload_n 0, 1) := by decide +kernel
theorem dX1_tick_129 : decode cX1_tick 129 = .ok (.aload_n 1, 1) := by decide +kernel
theorem dX1_tick_130 : decode cX1_tick 130 = .ok (.iload_n 2, 1) := by decide +kernel
theorem dX1_tick_131 : decode cX1_tick 131 = .ok (.invokevirtual 108, 3) := by decide +kernel
theorem dX1_tick_134 : decode cX1_tick 134 = .ok (.aload_n 0, 1) := by decide +kernel
theorem dX1_tick_135 : decode cX1_tick 135 = .ok (.invokevirtual 112, 3) := by decide +kernel
theorem dX1_tick_138 : decode cX1_tick 138 = .ok (.aload_n 0, 1) := by decide +kernel
theorem dX1_tick_139 : decode cX1_tick 139 = .ok (.getfield 37, 3) := by decide +kernel
theorem dX1_tick_142 : decode cX1_tick 142 = .ok (.aload_n 0, 1) := by decide +kernel
theorem dX1_tick_143 : decode cX1_tick 143 = .ok (.getfield 27, 3) := by decide +kernel
theorem dX1_tick_146 : decode cX1_tick 146 = .ok (.iconst 0, 1) := by decide +kernel
theorem dX1_tick_147 : decode cX1_tick 147 = .ok (.iaload, 1) := by decide +kernel
theorem dX1_tick_148 : decode cX1_tick 148 = .ok (.aload_n 0, 1) := by decide +kernel
theorem dX1_tick_149 : decode cX1_tick 149 = .ok (.getfield 27, 3) := by decide +kernel
theorem dX1_tick_152 : decode cX1_tick 152 = .ok (.iconst 1, 1) := by decide +kernel
theorem dX1_tick_153 : decode cX1_tick 153 = .ok (.iaload, 1) := by decide +kernel
theorem dX1_tick_154 : decode cX1_tick 154 = .ok (.aload_n 0, 1) := by decide +kernel
theorem dX1_tick_155 : decode cX1_tick 155 = .ok (.getfield 27, 3) := by decide +kernel
theorem dX1_tick_158 : decode cX1_tick 158 = .ok (.iconst 2, 1) := by decide +kernel
theorem dX1_tick_159 : decode cX1_tick 159 = .ok (.iaload, 1) := by decide +kernel
theorem dX1_tick_160 : decode cX1_tick 160 = .ok (.iload_n 3, 1) := by decide +kernel
theorem dX1_tick_161 : decode cX1_tick 161 = .ok (.isub, 1) := by decide +kernel
theorem dX1_tick_162 : decode cX1_tick 162 = .ok (.invokevirtual 115, 3) := by decide +kernel
theorem dX1_tick_165 : decode cX1_tick 165 = .ok (.aload_n 0, 1) := by decide +kernel
theorem dX1_tick_166 : decode cX1_tick 166 = .ok (.getfield 44, 3) := by decide +kernel
theorem dX1_tick_169 : decode cX1_tick 169 = .ok (.aload_n 0, 1) := by decide +kernel
theorem dX1_tick_170 : decode cX1_tick 170 = .ok (.getfield 27, 3) := by decide +kernel
theorem dX1_tick_173 : decode cX1_tick 173 = .ok (.aload_n 0, 1) := by decide +kernel
theorem dX1_tick_174 : decode cX1_tick 174 = .ok (.getfield 9, 3) := by decide +kernel
theorem dX1_tick_177 : decode cX1_tick 177 = .ok (.invokevirtual 119, 3) := by decide +kernel
theorem dX1_tick_180 : decode cX1_tick 180 = .ok (.aload_n 0, 1) := by decide +kernel
theorem dX1_tick_181 : decode cX1_tick 181 = .ok (.aload_n 1, 1) := by decide +kernel
theorem dX1_tick_182 : decode cX1_tick 182 = .ok (.invokevirtual 122, 3) := by decide +kernel
theorem dX1_tick_185 : decode cX1_tick 185 = .ok (.return_, 1) := by decide +kernel
theorem dX1_noise_0 : decode cX1_noise 0 = .ok (.ldc2_w 126, 3) := by decide +kernel
theorem dX1_noise_3 : decode cX1_noise 3 = .ok (.aload_n 0, 1) := by decide +kernel
theorem dX1_noise_4 : decode cX1_noise 4 = .ok (.getfield 9, 3) := by decide +kernel
theorem dX1_noise_7 : decode cX1_noise 7 = .ok (.i2l, 1) := by decide +kernel
theorem dX1_noise_8 : decode cX1_noise 8 = .ok (.lmul, 1) := by decide +kernel
theorem dX1_noise_9 : decode cX1_noise 9 = .ok (.ldc2_w 128, 3) := by decide +kernel
theorem dX1_noise_12 : decode cX1_noise 12 = .ok (.aload_n 0, 1) := by decide +kernel
theorem dX1_noise_13 : decode cX1_noise 13 = .ok (.getfield 18, 3) := by decide +kernel
theorem dX1_noise_16 : decode cX1_noise 16 = .ok (.i2l, 1) := by decide +kernel
theorem dX1_noise_17 : decode cX1_noise 17 = .ok (.lmul, 1) := by decide +kernel
theorem dX1_noise_18 : decode cX1_noise 18 = .ok (.ladd, 1) := by decide +kernel
theorem dX1_noise_19 : decode cX1_noise 19 = .ok (.lconst 1, 1) := by decide +kernel
theorem dX1_noise_20 : decode cX1_noise 20 = .ok (.ladd, 1) := by decide +kernel
theorem dX1_noise_21 : decode cX1_noise 21 = .ok (.lstore_n 2, 1) := by decide +kernel
theorem dX1_noise_22 : decode cX1_noise 22 = .ok (.ldc2_w 130, 3) := by decide +kernel
theorem dX1_noise_25 : decode cX1_noise 25 = .ok (.iload_n 1, 1) := by decide +kernel
theorem dX1_noise_26 : decode cX1_noise 26 = .ok (.i2l, 1) := by decide +kernel
theorem dX1_noise_27 : decode cX1_noise 27 = .ok (.lmul, 1) := by decide +kernel
theorem dX1_noise_28 : decode cX1_noise 28 = .ok (.lconst 1, 1) := by decide +kernel
theorem dX1_noise_29 : decode cX1_noise 29 = .ok (.ladd, 1) := by decide +kernel
theorem dX1_noise_30 : decode cX1_noise 30 = .ok (.lstore 4, 2) := by decide +kernel
theorem dX1_noise_32 : decode cX1_noise 32 = .ok (.lload 4, 2) := by decide +kernel
theorem dX1_noise_34 : decode cX1_noise 34 = .ok (.lconst 1, 1) := by decide +kernel
theorem dX1_noise_35 : decode cX1_noise 35 = .ok (.lcmp, 1) := by decide +kernel
theorem dX1_noise_36 : decode cX1_noise 36 = .ok (.ifCond .ge 7, 3) := by decide +kernel
theorem dX1_noise_39 : decode cX1_noise 39 = .ok (.iconst 0, 1) := by decide +kernel
theorem dX1_noise_40 : decode cX1_noise 40 = .ok (.goto 17, 3) := by decide +kernel
theorem dX1_noise_43 : decode cX1_noise 43 = .ok (.lload_n 2, 1) := by decide +kernel
theorem dX1_noise_44 : decode cX1_noise 44 = .ok (.lload_n 2, 1) := by decide +kernel
theorem dX1_noise_45 : decode cX1_noise 45 = .ok (.lmul, 1) := by decide +kernel
theorem dX1_noise_46 : decode cX1_noise 46 = .ok (.ldc2_w 132, 3) := by decide +kernel
theorem dX1_noise_49 : decode cX1_noise 49 = .ok (.lrem, 1) := by decide +kernel
theorem dX1_noise_50 : decode cX1_noise 50 = .ok (.lload 4, 2) := by decide +kernel
theorem dX1_noise_52 : decode cX1_noise 52 = .ok (.lrem, 1) := by decide +kernel
theorem dX1_noise_53 : decode cX1_noise 53 = .ok (.iload_n 1, 1) := by decide +kernel
theorem dX1_noise_54 : decode cX1_noise 54 = .ok (.i2l, 1) := by decide +kernel
theorem dX1_noise_55 : decode cX1_noise 55 = .ok (.lsub, 1) := by decide +kernel
theorem dX1_noise_56 : decode cX1_noise 56 = .ok (.l2i, 1) := by decide +kernel
theorem dX1_noise_57 : decode cX1_noise 57 = .ok (.ireturn, 1) := by decide +kernel
set_option maxRecDepth 20000 in
theorem ggX1_delayed_X1_recordOf : GoodIn wsX1_delayed wsX1_recordOf := goodIn_r _ [7, 1, 8, 9, 10, 11, 12, 13, 14, 15, 19, 20, 21, 22, 23, 24, 25, 26, 27] (by decide +kernel) (by decide +kernel)
set_option maxRecDepth 20000 in
theorem gX1_delayed_X1_recordOf : GoodIn wsX1_delayed (wsV RX1 81 RX1 yX1_recordOf wsX1_recordOf) := goodIn_app (goodIn_of _ (by decide +kernel)) ggX1_delayed_X1_recordOf
set_option maxRecDepth 20000 in
theorem ggX1_delayed_J9_floorDiv_f86c9 : GoodIn wsX1_delayed wsJ9_floorDiv_f86c9 := goodIn_r _ [18] (by decide +kernel) (by decide +kernel)
set_option maxRecDepth 20000 in
theorem gX1_delayed_J9_floorDiv_f86c9 : GoodIn wsX1_delayed (va_wsS RX1 136 yJ9_floorDiv_f86c9 wsJ9_floorDiv_f86c9) := goodIn_app (goodIn_of _ (by decide +kernel)) ggX1_delayed_J9_floorDiv_f86c9
theorem dX1_delayed_0 : decode cX1_delayed 0 = .ok (.iload_n 3, 1) := by decide +kernel
theorem dX1_delayed_1 : decode cX1_delayed 1 = .ok (.bipush 10, 2) := by decide +kernel
theorem dX1_delayed_3 : decode cX1_delayed 3 = .ok (.idiv, 1) := by decide +kernel
theorem dX1_delayed_4 : decode cX1_delayed 4 = .ok (.istore 4, 2) := by decide +kernel
theorem dX1_delayed_6 : decode cX1_delayed 6 = .ok (.iload_n 3, 1) := by decide +kernel
theorem dX1_delayed_7 : decode cX1_delayed 7 = .ok (.bipush 10, 2) := by decide +kernel
theorem dX1_delayed_9 : decode cX1_delayed 9 = .ok (.irem, 1) := by decide +kernel
theorem dX1_delayed_10 : decode cX1_delayed 10 = .ok (.istore 5, 2) := by decide +kernel
theorem dX1_delayed_12 : decode cX1_delayed 12 = .ok (.iload 4, 2) := by decide +kernel
theorem dX1_delayed_14 : decode cX1_delayed 14 = .ok (.ifCond .ne 8, 3) := by decide +kernel
theorem dX1_delayed_17 : decode cX1_delayed 17 = .ok (.iload_n 2, 1) := by decide +kernel
theorem dX1_delayed_18 : decode cX1_delayed 18 = .ok (.i2l, 1) := by decide +kernel
theorem dX1_delayed_19 : decode cX1_delayed 19 = .ok (.goto 16, 3) := by decide +kernel
theorem dX1_delayed_22 : decode cX1_delayed 22 = .ok (.aload_n 0, 1) := by decide +kernel
theorem dX1_delayed_23 : decode cX1_delayed 23 = .ok (.iload_n 1, 1) := by decide +kernel
theorem dX1_delayed_24 : decode cX1_delayed 24 = .ok (.aload_n 0, 1) := by decide +kernel
theorem dX1_delayed_25 : decode cX1_delayed 25 = .ok (.getfield 9, 3) := by decide +kernel
theorem dX1_delayed_28 : decode cX1_delayed 28 = .ok (.iload 4, 2) := by decide +kernel
theorem dX1_delayed_30 : decode cX1_delayed 30 = .ok (.isub, 1) := by decide +kernel
theorem dX1_delayed_31 : decode cX1_delayed 31 = .ok (.invokevirtual 81, 3) := by decide +kernel
theorem dX1_delayed_34 : decode cX1_delayed 34 = .ok (.i2l, 1) := by decide +kernel
theorem dX1_delayed_35 : decode cX1_delayed 35 = .ok (.lstore 6, 2) := by decide +kernel
theorem dX1_delayed_37 : decode cX1_delayed 37 = .ok (.aload_n 0, 1) := by decide +kernel
theorem dX1_delayed_38 : decode cX1_delayed 38 = .ok (.iload_n 1, 1) := by decide +kernel
theorem dX1_delayed_39 : decode cX1_delayed 39 = .ok (.aload_n 0, 1) := by decide +kernel
theorem dX1_delayed_40 : decode cX1_delayed 40 = .ok (.getfield 9, 3) := by decide +kernel
theorem dX1_delayed_43 : decode cX1_delayed 43 = .ok (.iload 4, 2) := by decide +kernel
theorem dX1_delayed_45 : decode cX1_delayed 45 = .ok (.isub, 1) := by decide +kernel
theorem dX1_delayed_46 : decode cX1_delayed 46 = .ok (.iconst 1, 1) := by decide +kernel
theorem dX1_delayed_47 : decode cX1_delayed 47 = .ok (.isub, 1) := by decide +kernel
theorem dX1_delayed_48 : decode cX1_delayed 48 = .ok (.invokevirtual 81, 3) := by decide +kernel
theorem dX1_delayed_51 : decode cX1_delayed 51 = .ok (.i2l, 1) := by decide +kernel
theorem dX1_delayed_52 : decode cX1_delayed 52 = .ok (.lstore 8, 2) := by decide +kernel
theorem dX1_delayed_54 : decode cX1_delayed 54 = .ok (.lload 6, 2) := by decide +kernel
theorem dX1_delayed_56 : decode cX1_delayed 56 = .ok (.bipush 10, 2) := by decide +kernel
theorem dX1_delayed_58 : decode cX1_delayed 58 = .ok (.iload 5, 2) := by decide +kernel
theorem dX1_delayed_60 : decode cX1_delayed 60 = .ok (.isub, 1) := by decide +kernel
theorem dX1_delayed_61 : decode cX1_delayed 61 = .ok (.i2l, 1) := by decide +kernel
theorem dX1_delayed_62 : decode cX1_delayed 62 = .ok (.lmul, 1) := by decide +kernel
theorem dX1_delayed_63 : decode cX1_delayed 63 = .ok (.lload 8, 2) := by decide +kernel
theorem dX1_delayed_65 : decode cX1_delayed 65 = .ok (.iload 5, 2) := by decide +kernel
theorem dX1_delayed_67 : decode cX1_delayed 67 = .ok (.i2l, 1) := by decide +kernel
theorem dX1_delayed_68 : decode cX1_delayed 68 = .ok (.lmul, 1) := by decide +kernel
theorem dX1_delayed_69 : decode cX1_delayed 69 = .ok (.ladd, 1) := by decide +kernel
theorem dX1_delayed_70 : decode cX1_delayed 70 = .ok (.ldc2_w 134, 3) := by decide +kernel
theorem dX1_delayed_73 : decode cX1_delayed 73 = .ok (.invokestatic 136, 3) := by decide +kernel
theorem dX1_delayed_76 : decode cX1_delayed 76 = .ok (.l2i, 1) := by decide +kernel
theorem dX1_delayed_77 : decode cX1_delayed 77 = .ok (.ireturn, 1) := by decide +kernel
theorem dX1_judge_0 : decode cX1_judge 0 = .ok (.aload_n 0, 1) := by decide +kernel
theorem dX1_judge_1 : decode cX1_judge 1 = .ok (.iload_n 1, 1) := by decide +kernel
theorem dX1_judge_2 : decode cX1_judge 2 = .ok (.ifCond .eq 12, 3) := by decide +kernel
theorem dX1_judge_5 : decode cX1_judge 5 = .ok (.aload_n 0, 1) := by decide +kernel
theorem dX1_judge_6 : decode cX1_judge 6 = .ok (.getfield 21, 3) := by decide +kernel
theorem dX1_judge_9 : decode cX1_judge 9 = .ok (.iconst 1, 1) := by decide +kernel
theorem dX1_judge_10 : decode cX1_judge 10 = .ok (.iadd, 1) := by decide +kernel
theorem dX1_judge_11 : decode cX1_judge 11 = .ok (.goto 4, 3) := by decide +kernel
theorem dX1_judge_14 : decode cX1_judge 14 = .ok (.iconst 0, 1) := by decide +kernel
theorem dX1_judge_15 : decode cX1_judge 15 = .ok (.putfield 21, 3) := by decide +kernel
theorem dX1_judge_18 : decode cX1_judge 18 = .ok (.aload_n 0, 1) := by decide +kernel
theorem dX1_judge_19 : decode cX1_judge 19 = .ok (.iload_n 1, 1) := by decide +kernel
theorem dX1_judge_20 : decode cX1_judge 20 = .ok (.ifCond .eq 7, 3) := by decide +kernel
theorem dX1_judge_23 : decode cX1_judge 23 = .ok (.iconst 0, 1) := by decide +kernel
theorem dX1_judge_24 : decode cX1_judge 24 = .ok (.goto 9, 3) := by decide +kernel
theorem dX1_judge_27 : decode cX1_judge 27 = .ok (.aload_n 0, 1) := by decide +kernel
theorem dX1_judge_28 : decode cX1_judge 28 = .ok (.getfield 24, 3) := by decide +kernel
theorem dX1_judge_31 : decode cX1_judge 31 = .ok (.iconst 1, 1) := by decide +kernel
theorem dX1_judge_32 : decode cX1_judge 32 = .ok (.iadd, 1) := by decide +kernel
theorem dX1_judge_33 : decode cX1_judge 33 = .ok (.putfield 24, 3) := by decide +kernel
theorem dX1_judge_36 : decode cX1_judge 36 = .ok (.aload_n 0, 1) := by decide +kernel
theorem dX1_judge_37 : decode cX1_judge 37 = .ok (.getfield 27, 3) := by decide +kernel
theorem dX1_judge_40 : decode cX1_judge 40 = .ok (.bipush 9, 2) := by decide +kernel
theorem dX1_judge_42 : decode cX1_judge 42 = .ok (.iaload, 1) := by decide +kernel
theorem dX1_judge_43 : decode cX1_judge 43 = .ok (.ifCond .ne 15, 3) := by decide +kernel
theorem dX1_judge_46 : decode cX1_judge 46 = .ok (.aload_n 0, 1) := by decide +kernel
theorem dX1_judge_47 : decode cX1_judge 47 = .ok (.getfield 21, 3) := by decide +kernel
theorem dX1_judge_50 : decode cX1_judge 50 = .ok (.iload_n 2, 1) := by decide +kernel
theorem dX1_judge_51 : decode cX1_judge 51 = .ok (.if_icmp .lt 7, 3) := by decide +kernel
theorem dX1_judge_54 : decode cX1_judge 54 = .ok (.iconst 1, 1) := by decide +kernel
theorem dX1_judge_55 : decode cX1_judge 55 = .ok (.goto 4, 3) := by decide +kernel
theorem dX1_judge_58 : decode cX1_judge 58 = .ok (.iconst 0, 1) := by decide +kernel
theorem dX1_judge_59 : decode cX1_judge 59 = .ok (.istore_n 3, 1) := by decide +kernel
theorem dX1_judge_60 : decode cX1_judge 60 = .ok (.aload_n 0, 1) := by decide +kernel
theorem dX1_judge_61 : decode cX1_judge 61 = .ok (.getfield 27, 3) := by decide +kernel
theorem dX1_judge_64 : decode cX1_judge 64 = .ok (.bipush 9, 2) := by decide +kernel
theorem dX1_judge_66 : decode cX1_judge 66 = .ok (.iaload, 1) := by decide +kernel
theorem dX1_judge_67 : decode cX1_judge 67 = .ok (.iconst 1, 1) := by decide +kernel
theorem dX1_judge_68 : decode cX1_judge 68 = .ok (.if_icmp .ne 17, 3) := by decide +kernel
theorem dX1_judge_71 : decode cX1_judge 71 = .ok (.aload_n 0, 1) := by decide +kernel
theorem dX1_judge_72 : decode cX1_judge 72 = .ok (.getfield 24, 3) := by decide +kernel
theorem dX1_judge_75 : decode cX1_judge 75 = .ok (.iconst 2, 1) := by decide +kernel
theorem dX1_judge_76 : decode cX1_judge 76 = .ok (.iload_n 2, 1) := by decide +kernel
theorem dX1_judge_77 : decode cX1_judge 77 = .ok (.imul, 1) := by decide +kernel
theorem dX1_judge_78 : decode cX1_judge 78 = .ok (.if_icmp .lt 7, 3) := by decide +kernel
theorem dX1_judge_81 : decode cX1_judge 81 = .ok (.iconst 1, 1) := by decide +kernel
theorem dX1_judge_82 : decode cX1_judge 82 = .ok (.goto 4, 3) := by decide +kernel
theorem dX1_judge_85 : decode cX1_judge 85 = .ok (.iconst 0, 1) := by decide +kernel
theorem dX1_judge_86 : decode cX1_judge 86 = .ok (.istore 4, 2) := by decide +kernel
theorem dX1_judge_88 : decode cX1_judge 88 = .ok (.iload_n 3, 1) := by decide +kernel
theorem dX1_judge_89 : decode cX1_judge 89 = .ok (.ifCond .ne 8, 3) := by decide +kernel
theorem dX1_judge_92 : decode cX1_judge 92 = .ok (.iload 4, 2) := by decide +kernel
theorem dX1_judge_94 : decode cX1_judge 94 = .ok (.ifCond .eq 29, 3) := by decide +kernel
theorem dX1_judge_97 : decode cX1_judge 97 = .ok (.aload_n 0, 1) := by decide +kernel
theorem dX1_judge_98 : decode cX1_judge 98 = .ok (.getfield 27, 3) := by decide +kernel
theorem dX1_judge_101 : decode cX1_judge 101 = .ok (.bipush 9, 2) := by decide +kernel
theorem dX1_judge_103 : decode cX1_judge 103 = .ok (.iload_n 3, 1) := by decide +kernel
theorem dX1_judge_104 : decode cX1_judge 104 = .ok (.ifCond .eq 7, 3) := by decide +kernel
theorem dX1_judge_107 : decode cX1_judge 107 = .ok (.iconst 1, 1) := by decide +kernel
theorem dX1_judge_108 : decode cX1_judge 108 = .ok (.goto 4, 3) := by decide +kernel
theorem dX1_judge_111 : decode cX1_judge 111 = .ok (.iconst 0, 1) := by decide +kernel
theorem dX1_judge_112 : decode cX1_judge 112 = .ok (.iastore, 1) := by decide +kernel
theorem dX1_judge_113 : decode cX1_judge 113 = .ok (.aload_n 0, 1) := by decide +kernel
theorem dX1_judge_114 : decode cX1_judge 114 = .ok (.iconst 0, 1) := by decide +kernel
theorem dX1_judge_115 : decode cX1_judge 115 = .ok (.putfield 21, 3) := by decide +kernel
theorem dX1_judge_118 : decode cX1_judge 118 = .ok (.aload_n 0, 1) := by decide +kernel
theorem dX1_judge_119 : decode cX1_judge 119 = .ok (.iconst 0, 1) := by decide +kernel
theorem dX1_judge_120 : decode cX1_judge 120 = .ok (.putfield 24, 3) := by decide +kernel
theorem dX1_judge_123 : decode cX1_judge 123 = .ok (.return_, 1) := by decide +kernel
set_option maxRecDepth 20000 in
theorem ggX1_control_X3_get : GoodIn wsX1_control wsX3_get := goodIn_r _ [6, 7, 8, 9, 10, 41] (by decide +kernel) (by decide +kernel)
set_option maxRecDepth 20000 in
theorem gX1_control_X3_get : GoodIn wsX1_control (wsV RX1 84 RX3 yX3_get wsX3_get) := goodIn_app (goodIn_of _ (by decide +kernel)) ggX1_control_X3_get
set_option maxRecDepth 20000 in
theorem ggX1_control_X6_thousandth : GoodIn wsX1_control wsX6_thousandth := goodIn_r _ [12, 13, 14, 15, 16, 17] (by decide +kernel) (by decide +kernel)
set_option maxRecDepth 20000 in
theorem gX1_control_X6_thousandth_n140 : GoodIn wsX1_control (wsX6_thousandth) := ggX1_control_X6_thousandth
set_option maxRecDepth 20000 in
theorem ggX1_control_X1_outputFor : GoodIn wsX1_control wsX1_outputFor := goodIn_r _ [22, 1, 2, 3, 4, 5, 6, 7, 8, 9, 10, 23, 24, 25, 26, 27, 28, 29, 30, 31, 32, 33, 34, 35, 36, 37, 38, 39, 40, 41] (by decide +kernel) (by decide +kernel)
set_option maxRecDepth 20000 in
theorem gX1_control_X1_outputFor : GoodIn wsX1_control (wsV RX1 144 RX1 yX1_outputFor wsX1_outputFor) := goodIn_app (goodIn_of _ (by decide +kernel)) ggX1_control_X1_outputFor
theorem dX1_control_0 : decode cX1_control 0 = .ok (.aload_n 0, 1) := by decide +kernel
theorem dX1_control_1 : decode cX1_control 1 = .ok (.getfield 27, 3) := by decide +kernel
theorem dX1_control_4 : decode cX1_control 4 = .ok (.bipush 9, 2) := by decide +kernel
theorem dX1_control_6 : decode cX1_control 6 = .ok (.iaload, 1) := by decide +kernel
theorem dX1_control_7 : decode cX1_control 7 = .ok (.iconst 1, 1) := by decide +kernel
theorem dX1_control_8 : decode cX1_control 8 = .ok (.if_icmp .ne 11, 3) := by decide +kernel
theorem dX1_control_11 : decode cX1_control 11 = .ok (.iload_n 2, 1) := by decide +kernel
theorem dX1_control_12 : decode cX1_control 12 = .ok (.ifCond .ne 7, 3) := by decide +kernel
theorem dX1_control_15 : decode cX1_control 15 = .ok (.iconst 1, 1) := by decide +kernel
theorem dX1_control_16 : decode cX1_control 16 = .ok (.goto 4, 3) := by decide +kernel
theorem dX1_control_19 : decode cX1_control 19 = .ok (.iconst 0, 1) := by decide +kernel
theorem dX1_control_20 : decode cX1_control 20 = .ok (.istore_n 3, 1) := by decide +kernel
theorem dX1_control_21 : decode cX1_control 21 = .ok (.iload_n 3, 1) := by decide +kernel
theorem dX1_control_22 : decode cX1_control 22 = .ok (.ifCond .ne 7, 3) := by decide +kernel
theorem dX1_control_25 : decode cX1_control 25 = .ok (.iload_n 2, 1) := by decide +kernel
theorem dX1_control_26 : decode cX1_control 26 = .ok (.ifCond .eq 12, 3) := by decide +kernel
theorem dX1_control_29 : decode cX1_control 29 = .ok (.aload_n 0, 1) := by decide +kernel
theorem dX1_control_30 : decode cX1_control 30 = .ok (.getfield 27, 3) := by decide +kernel
theorem dX1_control_33 : decode cX1_control 33 = .ok (.iconst 1, 1) := by decide +kernel
theorem dX1_control_34 : decode cX1_control 34 = .ok (.iaload, 1) := by decide +kernel
theorem dX1_control_35 : decode cX1_control 35 = .ok (.goto 16, 3) := by decide +kernel
theorem dX1_control_38 : decode cX1_control 38 = .ok (.aload_n 0, 1) := by decide +kernel
theorem dX1_control_39 : decode cX1_control 39 = .ok (.getfield 27, 3) := by decide +kernel
theorem dX1_control_42 : decode cX1_control 42 = .ok (.iconst 3, 1) := by decide +kernel
theorem dX1_control_43 : decode cX1_control 43 = .ok (.iaload, 1) := by decide +kernel
theorem dX1_control_44 : decode cX1_control 44 = .ok (.aload_n 0, 1) := by decide +kernel
theorem dX1_control_45 : decode cX1_control 45 = .ok (.getfield 27, 3) := by decide +kernel
theorem dX1_control_48 : decode cX1_control 48 = .ok (.iconst 5, 1) := by decide +kernel
theorem dX1_control_49 : decode cX1_control 49 = .ok (.iaload, 1) := by decide +kernel
theorem dX1_control_50 : decode cX1_control 50 = .ok (.iadd, 1) := by decide +kernel
theorem dX1_control_51 : decode cX1_control 51 = .ok (.istore 4, 2) := by decide +kernel
theorem dX1_control_53 : decode cX1_control 53 = .ok (.iload_n 3, 1) := by decide +kernel
theorem dX1_control_54 : decode cX1_control 54 = .ok (.ifCond .eq 14, 3) := by decide +kernel
theorem dX1_control_57 : decode cX1_control 57 = .ok (.aload_n 1, 1) := by decide +kernel
theorem dX1_control_58 : decode cX1_control 58 = .ok (.iconst 0, 1) := by decide +kernel
theorem dX1_control_59 : decode cX1_control 59 = .ok (.invokevirtual 84, 3) := by decide +kernel
theorem dX1_control_62 : decode cX1_control 62 = .ok (.iconst 2, 1) := by decide +kernel
theorem dX1_control_63 : decode cX1_control 63 = .ok (.idiv, 1) := by decide +kernel
theorem dX1_control_64 : decode cX1_control 64 = .ok (.i2l, 1) := by decide +kernel
theorem dX1_control_65 : decode cX1_control 65 = .ok (.goto 9, 3) := by decide +kernel
theorem dX1_control_68 : decode cX1_control 68 = .ok (.aload_n 1, 1) := by decide +kernel
theorem dX1_control_69 : decode cX1_control 69 = .ok (.iconst 0, 1) := by decide +kernel
theorem dX1_control_70 : decode cX1_control 70 = .ok (.invokevirtual 84, 3) := by decide +kernel
theorem dX1_control_73 : decode cX1_control 73 = .ok (.i2l, 1) := by decide +kernel
theorem dX1_control_74 : decode cX1_control 74 = .ok (.lstore 5, 2) := by decide +kernel
theorem dX1_control_76 : decode cX1_control 76 = .ok (.iload_n 3, 1) := by decide +kernel
theorem dX1_control_77 : decode cX1_control 77 = .ok (.ifCond .eq 14, 3) := by decide +kernel
theorem dX1_control_80 : decode cX1_control 80 = .ok (.aload_n 1, 1) := by decide +kernel
theorem dX1_control_81 : decode cX1_control 81 = .ok (.iconst 1, 1) := by decide +kernel
theorem dX1_control_82 : decode cX1_control 82 = .ok (.invokevirtual 84, 3) := by decide +kernel
theorem dX1_control_85 : decode cX1_control 85 = .ok (.iconst 4, 1) := by decide +kernel
theorem dX1_control_86 : decode cX1_control 86 = .ok (.idiv, 1) := by decide +kernel
theorem dX1_control_87 : decode cX1_control 87 = .ok (.i2l, 1) := by decide +kernel
theorem dX1_control_88 : decode cX1_control 88 = .ok (.goto 9, 3) := by decide +kernel
theorem dX1_control_91 : decode cX1_control 91 = .ok (.aload_n 1, 1) := by decide +kernel
theorem dX1_control_92 : decode cX1_control 92 = .ok (.iconst 1, 1) := by decide +kernel
theorem dX1_control_93 : decode cX1_control 93 = .ok (.invokevirtual 84, 3) := by decide +kernel
theorem dX1_control_96 : decode cX1_control 96 = .ok (.i2l, 1) := by decide +kernel
theorem dX1_control_97 : decode cX1_control 97 = .ok (.lstore 7, 2) := by decide +kernel
theorem dX1_control_99 : decode cX1_control 99 = .ok (.aload_n 0, 1) := by decide +kernel
theorem dX1_control_100 : decode cX1_control 100 = .ok (.getfield 27, 3) := by decide +kernel
theorem dX1_control_103 : decode cX1_control 103 = .ok (.bipush 6, 2) := by decide +kernel
theorem dX1_control_105 : decode cX1_control 105 = .ok (.aload_n 0, 1) := by decide +kernel
theorem dX1_control_106 : decode cX1_control 106 = .ok (.getfield 27, 3) := by decide +kernel
theorem dX1_control_109 : decode cX1_control 109 = .ok (.iconst 0, 1) := by decide +kernel
theorem dX1_control_110 : decode cX1_control 110 = .ok (.iaload, 1) := by decide +kernel
theorem dX1_control_111 : decode cX1_control 111 = .ok (.iload 4, 2) := by decide +kernel
theorem dX1_control_113 : decode cX1_control 113 = .ok (.isub, 1) := by decide +kernel
theorem dX1_control_114 : decode cX1_control 114 = .ok (.iastore, 1) := by decide +kernel
theorem dX1_control_115 : decode cX1_control 115 = .ok (.lload 5, 2) := by decide +kernel
theorem dX1_control_117 : decode cX1_control 117 = .ok (.aload_n 0, 1) := by decide +kernel
theorem dX1_control_118 : decode cX1_control 118 = .ok (.getfield 27, 3) := by decide +kernel
theorem dX1_control_121 : decode cX1_control 121 = .ok (.bipush 6, 2) := by decide +kernel
theorem dX1_control_123 : decode cX1_control 123 = .ok (.iaload, 1) := by decide +kernel
theorem dX1_control_124 : decode cX1_control 124 = .ok (.i2l, 1) := by decide +kernel
theorem dX1_control_125 : decode cX1_control 125 = .ok (.lmul, 1) := by decide +kernel
theorem dX1_control_126 : decode cX1_control 126 = .ok (.invokestatic 140, 3) := by decide +kernel
theorem dX1_control_129 : decode cX1_control 129 = .ok (.lstore 9, 2) := by decide +kernel
theorem dX1_control_131 : decode cX1_control 131 = .ok (.aload_n 0, 1) := by decide +kernel
theorem dX1_control_132 : decode cX1_control 132 = .ok (.getfield 27, 3) := by decide +kernel
theorem dX1_control_135 : decode cX1_control 135 = .ok (.bipush 7, 2) := by decide +kernel
theorem dX1_control_137 : decode cX1_control 137 = .ok (.iaload, 1) := by decide +kernel
theorem dX1_control_138 : decode cX1_control 138 = .ok (.i2l, 1) := by decide +kernel
theorem dX1_control_139 : decode cX1_control 139 = .ok (.lload 7, 2) := by decide +kernel
theorem dX1_control_141 : decode cX1_control 141 = .ok (.aload_n 0, 1) := by decide +kernel
theorem dX1_control_142 : decode cX1_control 142 = .ok (.getfield 27, 3) := by decide +kernel
theorem dX1_control_145 : decode cX1_control 145 = .ok (.bipush 6, 2) := by decide +kernel
theorem dX1_control_147 : decode cX1_control 147 = .ok (.iaload, 1) := by decide +kernel
theorem dX1_control_148 : decode cX1_control 148 = .ok (.i2l, 1) := by decide +kernel
theorem dX1_control_149 : decode cX1_control 149 = .ok (.lmul, 1) := by decide +kernel
theorem dX1_control_150 : decode cX1_control 150 = .ok (.invokestatic 140, 3) := by decide +kernel
theorem dX1_control_153 : decode cX1_control 153 = .ok (.ladd, 1) := by decide +kernel
theorem dX1_control_154 : decode cX1_control 154 = .ok (.lstore 11, 2) := by decide +kernel
theorem dX1_control_156 : decode cX1_control 156 = .ok (.lload 9, 2) := by decide +kernel
theorem dX1_control_158 : decode cX1_control 158 = .ok (.lload 11, 2) := by decide +kernel
theorem dX1_control_160 : decode cX1_control 160 = .ok (.ladd, 1) := by decide +kernel
theorem dX1_control_161 : decode cX1_control 161 = .ok (.lstore 13, 2) := by decide +kernel
theorem dX1_control_163 : decode cX1_control 163 = .ok (.aload_n 0, 1) := by decide +kernel
theorem dX1_control_164 : decode cX1_control 164 = .ok (.lload 13, 2) := by decide +kernel
theorem dX1_control_166 : decode cX1_control 166 = .ok (.aload_n 1, 1) := by decide +kernel
theorem dX1_control_167 : decode cX1_control 167 = .ok (.invokevirtual 144, 3) := by decide +kernel
theorem dX1_control_170 : decode cX1_control 170 = .ok (.lstore 15, 2) := by decide +kernel
theorem dX1_control_172 : decode cX1_control 172 = .ok (.aload_n 0, 1) := by decide +kernel
theorem dX1_control_173 : decode cX1_control 173 = .ok (.getfield 27, 3) := by decide +kernel
theorem dX1_control_176 : decode cX1_control 176 = .ok (.iconst 2, 1) := by decide +kernel
theorem dX1_control_177 : decode cX1_control 177 = .ok (.lload 15, 2) := by decide +kernel
theorem dX1_control_179 : decode cX1_control 179 = .ok (.l2i, 1) := by decide +kernel
theorem dX1_control_180 : decode cX1_control 180 = .ok (.iastore, 1) := by decide +kernel
theorem dX1_control_181 : decode cX1_control 181 = .ok (.lload 15, 2) := by decide +kernel
theorem dX1_control_183 : decode cX1_control 183 = .ok (.lload 13, 2) := by decide +kernel
theorem dX1_control_185 : decode cX1_control 185 = .ok (.lcmp, 1) := by decide +kernel
theorem dX1_control_186 : decode cX1_control 186 = .ok (.ifCond .ge 13, 3) := by decide +kernel
theorem dX1_control_189 : decode cX1_control 189 = .ok (.aload_n 0, 1) := by decide +kernel
theorem dX1_control_190 : decode cX1_control 190 = .ok (.getfield 27, 3) := by decide +kernel
theorem dX1_control_193 : decode cX1_control 193 = .ok (.bipush 6, 2) := by decide +kernel
theorem dX1_control_195 : decode cX1_control 195 = .ok (.iaload, 1) := by decide +kernel
theorem dX1_control_196 : decode cX1_control 196 = .ok (.ifCond .gt 21, 3) := by decide +kernel
theorem dX1_control_199 : decode cX1_control 199 = .ok (.lload 15, 2) := by decide +kernel
theorem dX1_control_201 : decode cX1_control 201 = .ok (.lload 13, 2) := by decide +kernel
theorem dX1_control_203 : decode cX1_control 203 = .ok (.lcmp, 1) := by decide +kernel
theorem dX1_control_204 : decode cX1_control 204 = .ok (.ifCond .le 17, 3) := by decide +kernel
theorem dX1_control_207 : decode cX1_control 207 = .ok (.aload_n 0, 1) := by decide +kernel
theorem dX1_control_208 : decode cX1_control 208 = .ok (.getfield 27, 3) := by decide +kernel
theorem dX1_control_211 : decode cX1_control 211 = .ok (.bipush 6, 2) := by decide +kernel
theorem dX1_control_213 : decode cX1_control 213 = .ok (.iaload, 1) := by decide +kernel
theorem dX1_control_214 : decode cX1_control 214 = .ok (.ifCond .ge 7, 3) := by decide +kernel
theorem dX1_control_217 : decode cX1_control 217 = .ok (.iconst 1, 1) := by decide +kernel
theorem dX1_control_218 : decode cX1_control 218 = .ok (.goto 4, 3) := by decide +kernel
theorem dX1_control_221 : decode cX1_control 221 = .ok (.iconst 0, 1) := by decide +kernel
theorem dX1_control_222 : decode cX1_control 222 = .ok (.istore 17, 2) := by decide +kernel
theorem dX1_control_224 : decode cX1_control 224 = .ok (.iload 17, 2) := by decide +kernel
theorem dX1_control_226 : decode cX1_control 226 = .ok (.ifCond .ne 13, 3) := by decide +kernel
theorem dX1_control_229 : decode cX1_control 229 = .ok (.aload_n 0, 1) := by decide +kernel
theorem dX1_control_230 : decode cX1_control 230 = .ok (.getfield 27, 3) := by decide +kernel
theorem dX1_control_233 : decode cX1_control 233 = .ok (.bipush 7, 2) := by decide +kernel
theorem dX1_control_235 : decode cX1_control 235 = .ok (.lload 11, 2) := by decide +kernel
theorem dX1_control_237 : decode cX1_control 237 = .ok (.l2i, 1) := by decide +kernel
theorem dX1_control_238 : decode cX1_control 238 = .ok (.iastore, 1) := by decide +kernel
theorem dX1_control_239 : decode cX1_control 239 = .ok (.return_, 1) := by decide +kernel
set_option maxRecDepth 20000 in
theorem ggX1_outputFor_X3_get : GoodIn wsX1_outputFor wsX3_get := goodIn_r _ [6, 7, 8, 9, 10, 29] (by decide +kernel) (by decide +kernel)
set_option maxRecDepth 20000 in
theorem gX1_outputFor_X3_get : GoodIn wsX1_outputFor (wsV RX1 84 RX3 yX3_get wsX3_get) := goodIn_app (goodIn_of _ (by decide +kernel)) ggX1_outputFor_X3_get
set_option maxRecDepth 20000 in
theorem ggX1_outputFor_X6_limited : GoodIn wsX1_outputFor wsX6_limited := goodIn_r _ [12, 13, 14, 15, 16, 17, 18, 19] (by decide +kernel) (by decide +kernel)
set_option maxRecDepth 20000 in
theorem gX1_outputFor_X6_limited_n148 : GoodIn wsX1_outputFor (wsX6_limited) := ggX1_outputFor_X6_limited
theorem dX1_outputFor_0 : decode cX1_outputFor 0 = .ok (.lload_n 1, 1) := by decide +kernel
theorem dX1_outputFor_1 : decode cX1_outputFor 1 = .ok (.aload_n 3, 1) := by decide +kernel
theorem dX1_outputFor_2 : decode cX1_outputFor 2 = .ok (.bipush 9, 2) := by decide +kernel
theorem dX1_outputFor_4 : decode cX1_outputFor 4 = .ok (.invokevirtual 84, 3) := by decide +kernel
theorem dX1_outputFor_7 : decode cX1_outputFor 7 = .ok (.i2l, 1) := by decide +kernel
theorem dX1_outputFor_8 : decode cX1_outputFor 8 = .ok (.aload_n 3, 1) := by decide +kernel
theorem dX1_outputFor_9 : decode cX1_outputFor 9 = .ok (.bipush 10, 2) := by decide +kernel
theorem dX1_outputFor_11 : decode cX1_outputFor 11 = .ok (.invokevirtual 84, 3) := by decide +kernel
theorem dX1_outputFor_14 : decode cX1_outputFor 14 = .ok (.i2l, 1) := by decide +kernel
theorem dX1_outputFor_15 : decode cX1_outputFor 15 = .ok (.invokestatic 148, 3) := by decide +kernel
theorem dX1_outputFor_18 : decode cX1_outputFor 18 = .ok (.lstore 4, 2) := by decide +kernel
theorem dX1_outputFor_20 : decode cX1_outputFor 20 = .ok (.aload_n 3, 1) := by decide +kernel
theorem dX1_outputFor_21 : decode cX1_outputFor 21 = .ok (.bipush 11, 2) := by decide +kernel
theorem dX1_outputFor_23 : decode cX1_outputFor 23 = .ok (.invokevirtual 84, 3) := by decide +kernel
theorem dX1_outputFor_26 : decode cX1_outputFor 26 = .ok (.i2l, 1) := by decide +kernel
theorem dX1_outputFor_27 : decode cX1_outputFor 27 = .ok (.lstore 6, 2) := by decide +kernel
theorem dX1_outputFor_29 : decode cX1_outputFor 29 = .ok (.lload 4, 2) := by decide +kernel
theorem dX1_outputFor_31 : decode cX1_outputFor 31 = .ok (.aload_n 0, 1) := by decide +kernel
theorem dX1_outputFor_32 : decode cX1_outputFor 32 = .ok (.getfield 27, 3) := by decide +kernel
theorem dX1_outputFor_35 : decode cX1_outputFor 35 = .ok (.iconst 2, 1) := by decide +kernel
theorem dX1_outputFor_36 : decode cX1_outputFor 36 = .ok (.iaload, 1) := by decide +kernel
theorem dX1_outputFor_37 : decode cX1_outputFor 37 = .ok (.i2l, 1) := by decide +kernel
theorem dX1_outputFor_38 : decode cX1_outputFor 38 = .ok (.lload 6, 2) := by decide +kernel
theorem dX1_outputFor_40 : decode cX1_outputFor 40 = .ok (.lsub, 1) := by decide +kernel
theorem dX1_outputFor_41 : decode cX1_outputFor 41 = .ok (.aload_n 0, 1) := by decide +kernel
theorem dX1_outputFor_42 : decode cX1_outputFor 42 = .ok (.getfield 27, 3) := by decide +kernel
theorem dX1_outputFor_45 : decode cX1_outputFor 45 = .ok (.iconst 2, 1) := by decide +kernel
theorem dX1_outputFor_46 : decode cX1_outputFor 46 = .ok (.iaload, 1) := by decide +kernel
theorem dX1_outputFor_47 : decode cX1_outputFor 47 = .ok (.i2l, 1) := by decide +kernel
theorem dX1_outputFor_48 : decode cX1_outputFor 48 = .ok (.lload 6, 2) := by decide +kernel
theorem dX1_outputFor_50 : decode cX1_outputFor 50 = .ok (.ladd, 1) := by decide +kernel
theorem dX1_outputFor_51 : decode cX1_outputFor 51 = .ok (.invokestatic 148, 3) := by decide +kernel
theorem dX1_outputFor_54 : decode cX1_outputFor 54 = .ok (.lreturn, 1) := by decide +kernel
set_option maxRecDepth 20000 in
theorem ggX1_keepRecords_J9_floorMod_7cf53 : GoodIn wsX1_keepRecords wsJ9_floorMod_7cf53 := goodIn_r _ [7] (by decide +kernel) (by decide +kernel)
set_option maxRecDepth 20000 in
theorem gX1_keepRecords_J9_floorMod_7cf53 : GoodIn wsX1_keepRecords (va_wsS RX1 72 yJ9_floorMod_7cf53 wsJ9_floorMod_7cf53) := goodIn_app (goodIn_of _ (by decide +kernel)) ggX1_keepRecords_J9_floorMod_7cf53
theorem dX1_keepRecords_0 : decode cX1_keepRecords 0 = .ok (.iconst 0, 1) := by decide +kernel
theorem dX1_keepRecords_1 : decode cX1_keepRecords 1 = .ok (.istore_n 1, 1) := by decide +kernel
theorem dX1_keepRecords_2 : decode cX1_keepRecords 2 = .ok (.iload_n 1, 1) := by decide +kernel
theorem dX1_keepRecords_3 : decode cX1_keepRecords 3 = .ok (.bipush 10, 2) := by decide +kernel
theorem dX1_keepRecords_5 : decode cX1_keepRecords 5 = .ok (.if_icmp .ge 34, 3) := by decide +kernel
theorem dX1_keepRecords_8 : decode cX1_keepRecords 8 = .ok (.aload_n 0, 1) := by decide +kernel
theorem dX1_keepRecords_9 : decode cX1_keepRecords 9 = .ok (.getfield 31, 3) := by decide +kernel
theorem dX1_keepRecords_12 : decode cX1_keepRecords 12 = .ok (.iload_n 1, 1) := by decide +kernel
theorem dX1_keepRecords_13 : decode cX1_keepRecords 13 = .ok (.bipush 64, 2) := by decide +kernel
theorem dX1_keepRecords_15 : decode cX1_keepRecords 15 = .ok (.imul, 1) := by decide +kernel
theorem dX1_keepRecords_16 : decode cX1_keepRecords 16 = .ok (.aload_n 0, 1) := by decide +kernel
theorem dX1_keepRecords_17 : decode cX1_keepRecords 17 = .ok (.getfield 9, 3) := by decide +kernel
theorem dX1_keepRecords_20 : decode cX1_keepRecords 20 = .ok (.bipush 64, 2) := by decide +kernel
theorem dX1_keepRecords_22 : decode cX1_keepRecords 22 = .ok (.invokestatic 72, 3) := by decide +kernel
theorem dX1_keepRecords_25 : decode cX1_keepRecords 25 = .ok (.iadd, 1) := by decide +kernel
theorem dX1_keepRecords_26 : decode cX1_keepRecords 26 = .ok (.aload_n 0, 1) := by decide +kernel
theorem dX1_keepRecords_27 : decode cX1_keepRecords 27 = .ok (.getfield 27, 3) := by decide +kernel
theorem dX1_keepRecords_30 : decode cX1_keepRecords 30 = .ok (.iload_n 1, 1) := by decide +kernel
theorem dX1_keepRecords_31 : decode cX1_keepRecords 31 = .ok (.iaload, 1) := by decide +kernel
theorem dX1_keepRecords_32 : decode cX1_keepRecords 32 = .ok (.iastore, 1) := by decide +kernel
theorem dX1_keepRecords_33 : decode cX1_keepRecords 33 = .ok (.iinc 1 1, 3) := by decide +kernel
theorem dX1_keepRecords_36 : decode cX1_keepRecords 36 = .ok (.goto (-34), 3) := by decide +kernel
theorem dX1_keepRecords_39 : decode cX1_keepRecords 39 = .ok (.return_, 1) := by decide +kernel
set_option maxRecDepth 20000 in
theorem ggX1_moveOn_X3_get : GoodIn wsX1_moveOn wsX3_get := goodIn_r _ [8, 9, 10, 11, 12, 49] (by decide +kernel) (by decide +kernel)
set_option maxRecDepth 20000 in
theorem gX1_moveOn_X3_get : GoodIn wsX1_moveOn (wsV RX1 84 RX3 yX3_get wsX3_get) := goodIn_app (goodIn_of _ (by decide +kernel)) ggX1_moveOn_X3_get
set_option maxRecDepth 20000 in
theorem ggX1_moveOn_X1_delayed : GoodIn wsX1_moveOn wsX1_delayed := goodIn_r _ [17, 3, 18, 19, 20, 21, 16, 22, 23, 24, 11, 25, 26, 27, 28, 29, 30, 31, 32, 40, 41, 42, 43, 44, 45, 46, 47, 48] (by decide +kernel) (by decide +kernel)
set_option maxRecDepth 20000 in
theorem gX1_moveOn_X1_delayed : GoodIn wsX1_moveOn (wsV RX1 93 RX1 yX1_delayed wsX1_delayed) := goodIn_app (goodIn_of _ (by decide +kernel)) ggX1_moveOn_X1_delayed
set_option maxRecDepth 20000 in
theorem ggX1_moveOn_X6_thousandth : GoodIn wsX1_moveOn wsX6_thousandth := goodIn_r _ [34, 35, 36, 31, 28, 32] (by decide +kernel) (by decide +kernel)
set_option maxRecDepth 20000 in
theorem gX1_moveOn_X6_thousandth_n140 : GoodIn wsX1_moveOn (wsX6_thousandth) := ggX1_moveOn_X6_thousandth
set_option maxRecDepth 20000 in
theorem ggX1_moveOn_X6_stepped : GoodIn wsX1_moveOn wsX6_stepped := goodIn_r _ [38, 39, 33, 11, 34, 35, 36, 31, 28, 32] (by decide +kernel) (by decide +kernel)
set_option maxRecDepth 20000 in
theorem gX1_moveOn_X6_stepped_n97 : GoodIn wsX1_moveOn (wsX6_stepped) := ggX1_moveOn_X6_stepped
theorem dX1_moveOn_0 : decode cX1_moveOn 0 = .ok (.aload_n 0, 1) := by decide +kernel
theorem dX1_moveOn_1 : decode cX1_moveOn 1 = .ok (.iconst 2, 1) := by decide +kernel
theorem dX1_moveOn_2 : decode cX1_moveOn 2 = .ok (.aload_n 0, 1) := by decide +kernel
theorem dX1_moveOn_3 : decode cX1_moveOn 3 = .ok (.getfield 27, 3) := by decide +kernel
theorem dX1_moveOn_6 : decode cX1_moveOn 6 = .ok (.iconst 2, 1) := by decide +kernel
theorem dX1_moveOn_7 : decode cX1_moveOn 7 = .ok (.iaload, 1) := by decide +kernel
theorem dX1_moveOn_8 : decode cX1_moveOn 8 = .ok (.aload_n 1, 1) := by decide +kernel
theorem dX1_moveOn_9 : decode cX1_moveOn 9 = .ok (.iconst 4, 1) := by decide +kernel
theorem dX1_moveOn_10 : decode cX1_moveOn 10 = .ok (.invokevirtual 84, 3) := by decide +kernel
theorem dX1_moveOn_13 : decode cX1_moveOn 13 = .ok (.invokevirtual 93, 3) := by decide +kernel
theorem dX1_moveOn_16 : decode cX1_moveOn 16 = .ok (.aload_n 0, 1) := by decide +kernel
theorem dX1_moveOn_17 : decode cX1_moveOn 17 = .ok (.getfield 15, 3) := by decide +kernel
theorem dX1_moveOn_20 : decode cX1_moveOn 20 = .ok (.iadd, 1) := by decide +kernel
theorem dX1_moveOn_21 : decode cX1_moveOn 21 = .ok (.i2l, 1) := by decide +kernel
theorem dX1_moveOn_22 : decode cX1_moveOn 22 = .ok (.lstore_n 2, 1) := by decide +kernel
theorem dX1_moveOn_23 : decode cX1_moveOn 23 = .ok (.aload_n 1, 1) := by decide +kernel
theorem dX1_moveOn_24 : decode cX1_moveOn 24 = .ok (.iconst 2, 1) := by decide +kernel
theorem dX1_moveOn_25 : decode cX1_moveOn 25 = .ok (.invokevirtual 84, 3) := by decide +kernel
theorem dX1_moveOn_28 : decode cX1_moveOn 28 = .ok (.i2l, 1) := by decide +kernel
theorem dX1_moveOn_29 : decode cX1_moveOn 29 = .ok (.lload_n 2, 1) := by decide +kernel
theorem dX1_moveOn_30 : decode cX1_moveOn 30 = .ok (.lmul, 1) := by decide +kernel
theorem dX1_moveOn_31 : decode cX1_moveOn 31 = .ok (.invokestatic 140, 3) := by decide +kernel
theorem dX1_moveOn_34 : decode cX1_moveOn 34 = .ok (.lstore 4, 2) := by decide +kernel
theorem dX1_moveOn_36 : decode cX1_moveOn 36 = .ok (.aload_n 1, 1) := by decide +kernel
theorem dX1_moveOn_37 : decode cX1_moveOn 37 = .ok (.iconst 5, 1) := by decide +kernel
theorem dX1_moveOn_38 : decode cX1_moveOn 38 = .ok (.invokevirtual 84, 3) := by decide +kernel
theorem dX1_moveOn_41 : decode cX1_moveOn 41 = .ok (.i2l, 1) := by decide +kernel
theorem dX1_moveOn_42 : decode cX1_moveOn 42 = .ok (.aload_n 0, 1) := by decide +kernel
theorem dX1_moveOn_43 : decode cX1_moveOn 43 = .ok (.getfield 27, 3) := by decide +kernel
theorem dX1_moveOn_46 : decode cX1_moveOn 46 = .ok (.iconst 2, 1) := by decide +kernel
theorem dX1_moveOn_47 : decode cX1_moveOn 47 = .ok (.iaload, 1) := by decide +kernel
theorem dX1_moveOn_48 : decode cX1_moveOn 48 = .ok (.i2l, 1) := by decide +kernel
theorem dX1_moveOn_49 : decode cX1_moveOn 49 = .ok (.lmul, 1) := by decide +kernel
theorem dX1_moveOn_50 : decode cX1_moveOn 50 = .ok (.invokestatic 140, 3) := by decide +kernel
theorem dX1_moveOn_53 : decode cX1_moveOn 53 = .ok (.lstore 6, 2) := by decide +kernel
theorem dX1_moveOn_55 : decode cX1_moveOn 55 = .ok (.aload_n 0, 1) := by decide +kernel
theorem dX1_moveOn_56 : decode cX1_moveOn 56 = .ok (.getfield 27, 3) := by decide +kernel
theorem dX1_moveOn_59 : decode cX1_moveOn 59 = .ok (.bipush 8, 2) := by decide +kernel
theorem dX1_moveOn_61 : decode cX1_moveOn 61 = .ok (.aload_n 0, 1) := by decide +kernel
theorem dX1_moveOn_62 : decode cX1_moveOn 62 = .ok (.getfield 27, 3) := by decide +kernel
theorem dX1_moveOn_65 : decode cX1_moveOn 65 = .ok (.bipush 8, 2) := by decide +kernel
theorem dX1_moveOn_67 : decode cX1_moveOn 67 = .ok (.iaload, 1) := by decide +kernel
theorem dX1_moveOn_68 : decode cX1_moveOn 68 = .ok (.i2l, 1) := by decide +kernel
theorem dX1_moveOn_69 : decode cX1_moveOn 69 = .ok (.lload 4, 2) := by decide +kernel
theorem dX1_moveOn_71 : decode cX1_moveOn 71 = .ok (.sipush 1000, 3) := by decide +kernel
theorem dX1_moveOn_74 : decode cX1_moveOn 74 = .ok (.aload_n 1, 1) := by decide +kernel
theorem dX1_moveOn_75 : decode cX1_moveOn 75 = .ok (.iconst 3, 1) := by decide +kernel
theorem dX1_moveOn_76 : decode cX1_moveOn 76 = .ok (.invokevirtual 84, 3) := by decide +kernel
theorem dX1_moveOn_79 : decode cX1_moveOn 79 = .ok (.isub, 1) := by decide +kernel
theorem dX1_moveOn_80 : decode cX1_moveOn 80 = .ok (.i2l, 1) := by decide +kernel
theorem dX1_moveOn_81 : decode cX1_moveOn 81 = .ok (.invokestatic 97, 3) := by decide +kernel
theorem dX1_moveOn_84 : decode cX1_moveOn 84 = .ok (.iastore, 1) := by decide +kernel
theorem dX1_moveOn_85 : decode cX1_moveOn 85 = .ok (.aload_n 0, 1) := by decide +kernel
theorem dX1_moveOn_86 : decode cX1_moveOn 86 = .ok (.getfield 27, 3) := by decide +kernel
theorem dX1_moveOn_89 : decode cX1_moveOn 89 = .ok (.iconst 3, 1) := by decide +kernel
theorem dX1_moveOn_90 : decode cX1_moveOn 90 = .ok (.aload_n 0, 1) := by decide +kernel
theorem dX1_moveOn_91 : decode cX1_moveOn 91 = .ok (.getfield 27, 3) := by decide +kernel
theorem dX1_moveOn_94 : decode cX1_moveOn 94 = .ok (.iconst 3, 1) := by decide +kernel
theorem dX1_moveOn_95 : decode cX1_moveOn 95 = .ok (.iaload, 1) := by decide +kernel
theorem dX1_moveOn_96 : decode cX1_moveOn 96 = .ok (.i2l, 1) := by decide +kernel
theorem dX1_moveOn_97 : decode cX1_moveOn 97 = .ok (.lload 6, 2) := by decide +kernel
theorem dX1_moveOn_99 : decode cX1_moveOn 99 = .ok (.sipush 1000, 3) := by decide +kernel
theorem dX1_moveOn_102 : decode cX1_moveOn 102 = .ok (.aload_n 1, 1) := by decide +kernel
theorem dX1_moveOn_103 : decode cX1_moveOn 103 = .ok (.bipush 6, 2) := by decide +kernel
theorem dX1_moveOn_105 : decode cX1_moveOn 105 = .ok (.invokevirtual 84, 3) := by decide +kernel
theorem dX1_moveOn_108 : decode cX1_moveOn 108 = .ok (.isub, 1) := by decide +kernel
theorem dX1_moveOn_109 : decode cX1_moveOn 109 = .ok (.i2l, 1) := by decide +kernel
theorem dX1_moveOn_110 : decode cX1_moveOn 110 = .ok (.invokestatic 97, 3) := by decide +kernel
theorem dX1_moveOn_113 : decode cX1_moveOn 113 = .ok (.iastore, 1) := by decide +kernel
theorem dX1_moveOn_114 : decode cX1_moveOn 114 = .ok (.aload_n 0, 1) := by decide +kernel
theorem dX1_moveOn_115 : decode cX1_moveOn 115 = .ok (.dup, 1) := by decide +kernel
theorem dX1_moveOn_116 : decode cX1_moveOn 116 = .ok (.getfield 9, 3) := by decide +kernel
theorem dX1_moveOn_119 : decode cX1_moveOn 119 = .ok (.iconst 1, 1) := by decide +kernel
theorem dX1_moveOn_120 : decode cX1_moveOn 120 = .ok (.iadd, 1) := by decide +kernel
theorem dX1_moveOn_121 : decode cX1_moveOn 121 = .ok (.putfield 9, 3) := by decide +kernel
theorem dX1_moveOn_124 : decode cX1_moveOn 124 = .ok (.return_, 1) := by decide +kernel
end
section
theorem dX4_init_0 : decode cX4_init 0 = .ok (.aload_n 0, 1) := by decide +kernel
theorem dX4_init_1 : decode cX4_init 1 = .ok (.invokespecial 3, 3) := by decide +kernel
theorem dX4_init_4 : decode cX4_init 4 = .ok (.aload_n 0, 1) := by decide +kernel
theorem dX4_init_5 : decode cX4_init 5 = .ok (.bipush 80, 2) := by decide +kernel
theorem dX4_init_7 : decode cX4_init 7 = .ok (.newarray .char, 2) := by decide +kernel
theorem dX4_init_9 : decode cX4_init 9 = .ok (.putfield 9, 3) := by decide +kernel
theorem dX4_init_12 : decode cX4_init 12 = .ok (.aload_n 0, 1) := by decide +kernel
theorem dX4_init_13 : decode cX4_init 13 = .ok (.bipush 16, 2) := by decide +kernel
theorem dX4_init_15 : decode cX4_init 15 = .ok (.newarray .int, 2) := by decide +kernel
theorem dX4_init_17 : decode cX4_init 17 = .ok (.putfield 15, 3) := by decide +kernel
theorem dX4_init_20 : decode cX4_init 20 = .ok (.aload_n 0, 1) := by decide +kernel
theorem dX4_init_21 : decode cX4_init 21 = .ok (.bipush 16, 2) := by decide +kernel
theorem dX4_init_23 : decode cX4_init 23 = .ok (.newarray .int, 2) := by decide +kernel
theorem dX4_init_25 : decode cX4_init 25 = .ok (.putfield 19, 3) := by decide +kernel
theorem dX4_init_28 : decode cX4_init 28 = .ok (.aload_n 0, 1) := by decide +kernel
theorem dX4_init_29 : decode cX4_init 29 = .ok (.iconst 0, 1) := by decide +kernel
theorem dX4_init_30 : decode cX4_init 30 = .ok (.putfield 22, 3) := by decide +kernel
theorem dX4_init_33 : decode cX4_init 33 = .ok (.aload_n 0, 1) := by decide +kernel
theorem dX4_init_34 : decode cX4_init 34 = .ok (.iconst 0, 1) := by decide +kernel
theorem dX4_init_35 : decode cX4_init 35 = .ok (.putfield 26, 3) := by decide +kernel
theorem dX4_init_38 : decode cX4_init 38 = .ok (.return_, 1) := by decide +kernel
theorem dX4_append_0 : decode cX4_append 0 = .ok (.aload_n 0, 1) := by decide +kernel
theorem dX4_append_1 : decode cX4_append 1 = .ok (.getfield 22, 3) := by decide +kernel
theorem dX4_append_4 : decode cX4_append 4 = .ok (.bipush 80, 2) := by decide +kernel
theorem dX4_append_6 : decode cX4_append 6 = .ok (.if_icmp .lt 5, 3) := by decide +kernel
theorem dX4_append_9 : decode cX4_append 9 = .ok (.iconst 0, 1) := by decide +kernel
theorem dX4_append_10 : decode cX4_append 10 = .ok (.ireturn, 1) := by decide +kernel
theorem dX4_append_11 : decode cX4_append 11 = .ok (.aload_n 0, 1) := by decide +kernel
theorem dX4_append_12 : decode cX4_append 12 = .ok (.getfield 9, 3) := by decide +kernel
theorem dX4_append_15 : decode cX4_append 15 = .ok (.aload_n 0, 1) := by decide +kernel
theorem dX4_append_16 : decode cX4_append 16 = .ok (.getfield 22, 3) := by decide +kernel
theorem dX4_append_19 : decode cX4_append 19 = .ok (.iload_n 1, 1) := by decide +kernel
theorem dX4_append_20 : decode cX4_append 20 = .ok (.castore, 1) := by decide +kernel
theorem dX4_append_21 : decode cX4_append 21 = .ok (.aload_n 0, 1) := by decide +kernel
theorem dX4_append_22 : decode cX4_append 22 = .ok (.dup, 1) := by decide +kernel
theorem dX4_append_23 : decode cX4_append 23 = .ok (.getfield 22, 3) := by decide +kernel
theorem dX4_append_26 : decode cX4_append 26 = .ok (.iconst 1, 1) := by decide +kernel
theorem dX4_append_27 : decode cX4_append 27 = .ok (.iadd, 1) := by decide +kernel
theorem dX4_append_28 : decode cX4_append 28 = .ok (.putfield 22, 3) := by decide +kernel
theorem dX4_append_31 : decode cX4_append 31 = .ok (.iconst 1, 1) := by decide +kernel
theorem dX4_append_32 : decode cX4_append 32 = .ok (.ireturn, 1) := by decide +kernel
set_option maxRecDepth 20000 in
theorem ggX4_read_X4_readAssignment : GoodIn wsX4_read wsX4_readAssignment := goodIn_r _ [7, 8, 9, 10, 6, 11, 12, 13, 14, 15, 16, 17, 18, 19, 20, 21, 22, 23, 24, 25, 26, 27, 28, 29, 30, 31, 32, 33, 34, 2, 35, 36, 37, 38, 39, 40, 41, 42, 43, 44, 45, 46, 47, 48, 49, 50, 51, 52, 53, 54, 55, 56, 57, 58, 59, 60, 61, 62, 63, 64, 65, 66, 67, 68, 69, 70, 71, 72, 73, 74, 75, 76, 77, 78, 79, 80, 1, 81, 82, 83, 84, 85, 86, 87, 88, 89, 90, 91, 92, 93, 94] (by decide +kernel) (by decide +kernel)
set_option maxRecDepth 20000 in
theorem gX4_read_X4_readAssignment : GoodIn wsX4_read (wsV RX4 29 RX4 yX4_readAssignment wsX4_readAssignment) := goodIn_app (goodIn_of _ (by decide +kernel)) ggX4_read_X4_readAssignment
theorem dX4_read_0 : decode cX4_read 0 = .ok (.iconst 0, 1) := by decide +kernel
theorem dX4_read_1 : decode cX4_read 1 = .ok (.istore_n 1, 1) := by decide +kernel
theorem dX4_read_2 : decode cX4_read 2 = .ok (.aload_n 0, 1) := by decide +kernel
theorem dX4_read_3 : decode cX4_read 3 = .ok (.iconst 0, 1) := by decide +kernel
theorem dX4_read_4 : decode cX4_read 4 = .ok (.putfield 26, 3) := by decide +kernel
theorem dX4_read_7 : decode cX4_read 7 = .ok (.iload_n 1, 1) := by decide +kernel
theorem dX4_read_8 : decode cX4_read 8 = .ok (.aload_n 0, 1) := by decide +kernel
theorem dX4_read_9 : decode cX4_read 9 = .ok (.getfield 22, 3) := by decide +kernel
theorem dX4_read_12 : decode cX4_read 12 = .ok (.if_icmp .ge 21, 3) := by decide +kernel
theorem dX4_read_15 : decode cX4_read 15 = .ok (.aload_n 0, 1) := by decide +kernel
theorem dX4_read_16 : decode cX4_read 16 = .ok (.iload_n 1, 1) := by decide +kernel
theorem dX4_read_17 : decode cX4_read 17 = .ok (.invokevirtual 29, 3) := by decide +kernel
theorem dX4_read_20 : decode cX4_read 20 = .ok (.istore_n 2, 1) := by decide +kernel
theorem dX4_read_21 : decode cX4_read 21 = .ok (.iload_n 2, 1) := by decide +kernel
theorem dX4_read_22 : decode cX4_read 22 = .ok (.iload_n 1, 1) := by decide +kernel
theorem dX4_read_23 : decode cX4_read 23 = .ok (.if_icmp .gt 5, 3) := by decide +kernel
theorem dX4_read_26 : decode cX4_read 26 = .ok (.iload_n 1, 1) := by decide +kernel
theorem dX4_read_27 : decode cX4_read 27 = .ok (.ireturn, 1) := by decide +kernel
theorem dX4_read_28 : decode cX4_read 28 = .ok (.iload_n 2, 1) := by decide +kernel
theorem dX4_read_29 : decode cX4_read 29 = .ok (.istore_n 1, 1) := by decide +kernel
theorem dX4_read_30 : decode cX4_read 30 = .ok (.goto (-23), 3) := by decide +kernel
theorem dX4_read_33 : decode cX4_read 33 = .ok (.iconst (-1), 1) := by decide +kernel
theorem dX4_read_34 : decode cX4_read 34 = .ok (.ireturn, 1) := by decide +kernel
set_option maxRecDepth 20000 in
theorem ggX4_assignTo_X3_set : GoodIn wsX4_assignTo wsX3_set := goodIn_r _ [8, 9, 10, 11, 12, 18] (by decide +kernel) (by decide +kernel)
set_option maxRecDepth 20000 in
theorem gX4_assignTo_X3_set : GoodIn wsX4_assignTo (wsV RX4 33 RX3 yX3_set wsX3_set) := goodIn_app (goodIn_of _ (by decide +kernel)) ggX4_assignTo_X3_set
theorem dX4_assignTo_0 : decode cX4_assignTo 0 = .ok (.iconst 0, 1) := by decide +kernel
theorem dX4_assignTo_1 : decode cX4_assignTo 1 = .ok (.istore_n 2, 1) := by decide +kernel
theorem dX4_assignTo_2 : decode cX4_assignTo 2 = .ok (.iload_n 2, 1) := by decide +kernel
theorem dX4_assignTo_3 : decode cX4_assignTo 3 = .ok (.aload_n 0, 1) := by decide +kernel
theorem dX4_assignTo_4 : decode cX4_assignTo 4 = .ok (.getfield 26, 3) := by decide +kernel
theorem dX4_assignTo_7 : decode cX4_assignTo 7 = .ok (.if_icmp .ge 31, 3) := by decide +kernel
theorem dX4_assignTo_10 : decode cX4_assignTo 10 = .ok (.iload_n 2, 1) := by decide +kernel
theorem dX4_assignTo_11 : decode cX4_assignTo 11 = .ok (.bipush 16, 2) := by decide +kernel
theorem dX4_assignTo_13 : decode cX4_assignTo 13 = .ok (.if_icmp .ge 25, 3) := by decide +kernel
theorem dX4_assignTo_16 : decode cX4_assignTo 16 = .ok (.aload_n 1, 1) := by decide +kernel
theorem dX4_assignTo_17 : decode cX4_assignTo 17 = .ok (.aload_n 0, 1) := by decide +kernel
theorem dX4_assignTo_18 : decode cX4_assignTo 18 = .ok (.getfield 15, 3) := by decide +kernel
theorem dX4_assignTo_21 : decode cX4_assignTo 21 = .ok (.iload_n 2, 1) := by decide +kernel
theorem dX4_assignTo_22 : decode cX4_assignTo 22 = .ok (.iaload, 1) := by decide +kernel
theorem dX4_assignTo_23 : decode cX4_assignTo 23 = .ok (.aload_n 0, 1) := by decide +kernel
theorem dX4_assignTo_24 : decode cX4_assignTo 24 = .ok (.getfield 19, 3) := by decide +kernel
theorem dX4_assignTo_27 : decode cX4_assignTo 27 = .ok (.iload_n 2, 1) := by decide +kernel
theorem dX4_assignTo_28 : decode cX4_assignTo 28 = .ok (.iaload, 1) := by decide +kernel
theorem dX4_assignTo_29 : decode cX4_assignTo 29 = .ok (.invokevirtual 33, 3) := by decide +kernel
theorem dX4_assignTo_32 : decode cX4_assignTo 32 = .ok (.iinc 2 1, 3) := by decide +kernel
theorem dX4_assignTo_35 : decode cX4_assignTo 35 = .ok (.goto (-33), 3) := by decide +kernel
theorem dX4_assignTo_38 : decode cX4_assignTo 38 = .ok (.return_, 1) := by decide +kernel
set_option maxRecDepth 20000 in
theorem ggX4_different_X4_isFirst : GoodIn wsX4_different wsX4_isFirst := goodIn_r _ [6, 7, 8, 9, 10, 11, 12] (by decide +kernel) (by decide +kernel)
set_option maxRecDepth 20000 in
theorem gX4_different_X4_isFirst : GoodIn wsX4_different (wsV RX4 39 RX4 yX4_isFirst wsX4_isFirst) := goodIn_app (goodIn_of _ (by decide +kernel)) ggX4_different_X4_isFirst
theorem dX4_different_0 : decode cX4_different 0 = .ok (.iconst 0, 1) := by decide +kernel
theorem dX4_different_1 : decode cX4_different 1 = .ok (.istore_n 1, 1) := by decide +kernel
theorem dX4_different_2 : decode cX4_different 2 = .ok (.iconst 0, 1) := by decide +kernel
theorem dX4_different_3 : decode cX4_different 3 = .ok (.istore_n 2, 1) := by decide +kernel
theorem dX4_different_4 : decode cX4_different 4 = .ok (.iload_n 2, 1) := by decide +kernel
theorem dX4_different_5 : decode cX4_different 5 = .ok (.aload_n 0, 1) := by decide +kernel
theorem dX4_different_6 : decode cX4_different 6 = .ok (.getfield 26, 3) := by decide +kernel
theorem dX4_different_9 : decode cX4_different 9 = .ok (.if_icmp .ge 20, 3) := by decide +kernel
theorem dX4_different_12 : decode cX4_different 12 = .ok (.aload_n 0, 1) := by decide +kernel
theorem dX4_different_13 : decode cX4_different 13 = .ok (.iload_n 2, 1) := by decide +kernel
theorem dX4_different_14 : decode cX4_different 14 = .ok (.invokevirtual 39, 3) := by decide +kernel
theorem dX4_different_17 : decode cX4_different 17 = .ok (.ifCond .eq 6, 3) := by decide +kernel
theorem dX4_different_20 : decode cX4_different 20 = .ok (.iinc 1 1, 3) := by decide +kernel
theorem dX4_different_23 : decode cX4_different 23 = .ok (.iinc 2 1, 3) := by decide +kernel
theorem dX4_different_26 : decode cX4_different 26 = .ok (.goto (-22), 3) := by decide +kernel
theorem dX4_different_29 : decode cX4_different 29 = .ok (.iload_n 1, 1) := by decide +kernel
theorem dX4_different_30 : decode cX4_different 30 = .ok (.ireturn, 1) := by decide +kernel
set_option maxRecDepth 20000 in
theorem ggX4_differentAt_X4_isFirst : GoodIn wsX4_differentAt wsX4_isFirst := goodIn_r _ [7, 2, 8, 9, 10, 11, 12] (by decide +kernel) (by decide +kernel)
set_option maxRecDepth 20000 in
theorem gX4_differentAt_X4_isFirst : GoodIn wsX4_differentAt (wsV RX4 39 RX4 yX4_isFirst wsX4_isFirst) := goodIn_app (goodIn_of _ (by decide +kernel)) ggX4_differentAt_X4_isFirst
theorem dX4_differentAt_0 : decode cX4_differentAt 0 = .ok (.iconst 0, 1) := by decide +kernel
theorem dX4_differentAt_1 : decode cX4_differentAt 1 = .ok (.istore_n 2, 1) := by decide +kernel
theorem dX4_differentAt_2 : decode cX4_differentAt 2 = .ok (.iconst 0, 1) := by decide +kernel
theorem dX4_differentAt_3 : decode cX4_differentAt 3 = .ok (.istore_n 3, 1) := by decide +kernel
theorem dX4_differentAt_4 : decode cX4_differentAt 4 = .ok (.iload_n 3, 1) := by decide +kernel
theorem dX4_differentAt_5 : decode cX4_differentAt 5 = .ok (.aload_n 0, 1) := by decide +kernel
theorem dX4_differentAt_6 : decode cX4_differentAt 6 = .ok (.getfield 26, 3) := by decide +kernel
theorem dX4_differentAt_9 : decode cX4_differentAt 9 = .ok (.if_icmp .ge 38, 3) := by decide +kernel
theorem dX4_differentAt_12 : decode cX4_differentAt 12 = .ok (.iload_n 3, 1) := by decide +kernel
theorem dX4_differentAt_13 : decode cX4_differentAt 13 = .ok (.bipush 16, 2) := by decide +kernel
theorem dX4_differentAt_15 : decode cX4_differentAt 15 = .ok (.if_icmp .ge 32, 3) := by decide +kernel
theorem dX4_differentAt_18 : decode cX4_differentAt 18 = .ok (.aload_n 0, 1) := by decide +kernel
theorem dX4_differentAt_19 : decode cX4_differentAt 19 = .ok (.iload_n 3, 1) := by decide +kernel
theorem dX4_differentAt_20 : decode cX4_differentAt 20 = .ok (.invokevirtual 39, 3) := by decide +kernel
theorem dX4_differentAt_23 : decode cX4_differentAt 23 = .ok (.ifCond .eq 18, 3) := by decide +kernel
theorem dX4_differentAt_26 : decode cX4_differentAt 26 = .ok (.iload_n 2, 1) := by decide +kernel
theorem dX4_differentAt_27 : decode cX4_differentAt 27 = .ok (.iload_n 1, 1) := by decide +kernel
theorem dX4_differentAt_28 : decode cX4_differentAt 28 = .ok (.if_icmp .ne 10, 3) := by decide +kernel
theorem dX4_differentAt_31 : decode cX4_differentAt 31 = .ok (.aload_n 0, 1) := by decide +kernel
theorem dX4_differentAt_32 : decode cX4_differentAt 32 = .ok (.getfield 15, 3) := by decide +kernel
theorem dX4_differentAt_35 : decode cX4_differentAt 35 = .ok (.iload_n 3, 1) := by decide +kernel
theorem dX4_differentAt_36 : decode cX4_differentAt 36 = .ok (.iaload, 1) := by decide +kernel
theorem dX4_differentAt_37 : decode cX4_differentAt 37 = .ok (.ireturn, 1) := by decide +kernel
theorem dX4_differentAt_38 : decode cX4_differentAt 38 = .ok (.iinc 2 1, 3) := by decide +kernel
theorem dX4_differentAt_41 : decode cX4_differentAt 41 = .ok (.iinc 3 1, 3) := by decide +kernel
theorem dX4_differentAt_44 : decode cX4_differentAt 44 = .ok (.goto (-40), 3) := by decide +kernel
theorem dX4_differentAt_47 : decode cX4_differentAt 47 = .ok (.iconst (-1), 1) := by decide +kernel
theorem dX4_differentAt_48 : decode cX4_differentAt 48 = .ok (.ireturn, 1) := by decide +kernel
theorem dX4_isFirst_0 : decode cX4_isFirst 0 = .ok (.iconst 0, 1) := by decide +kernel
theorem dX4_isFirst_1 : decode cX4_isFirst 1 = .ok (.istore_n 2, 1) := by decide +kernel
theorem dX4_isFirst_2 : decode cX4_isFirst 2 = .ok (.iload_n 2, 1) := by decide +kernel
theorem dX4_isFirst_3 : decode cX4_isFirst 3 = .ok (.iload_n 1, 1) := by decide +kernel
theorem dX4_isFirst_4 : decode cX4_isFirst 4 = .ok (.if_icmp .ge 32, 3) := by decide +kernel
theorem dX4_isFirst_7 : decode cX4_isFirst 7 = .ok (.iload_n 1, 1) := by decide +kernel
theorem dX4_isFirst_8 : decode cX4_isFirst 8 = .ok (.bipush 16, 2) := by decide +kernel
theorem dX4_isFirst_10 : decode cX4_isFirst 10 = .ok (.if_icmp .ge 26, 3) := by decide +kernel
theorem dX4_isFirst_13 : decode cX4_isFirst 13 = .ok (.aload_n 0, 1) := by decide +kernel
theorem dX4_isFirst_14 : decode cX4_isFirst 14 = .ok (.getfield 15, 3) := by decide +kernel
theorem dX4_isFirst_17 : decode cX4_isFirst 17 = .ok (.iload_n 2, 1) := by decide +kernel
theorem dX4_isFirst_18 : decode cX4_isFirst 18 = .ok (.iaload, 1) := by decide +kernel
theorem dX4_isFirst_19 : decode cX4_isFirst 19 = .ok (.aload_n 0, 1) := by decide +kernel
theorem dX4_isFirst_20 : decode cX4_isFirst 20 = .ok (.getfield 15, 3) := by decide +kernel
theorem dX4_isFirst_23 : decode cX4_isFirst 23 = .ok (.iload_n 1, 1) := by decide +kernel
theorem dX4_isFirst_24 : decode cX4_isFirst 24 = .ok (.iaload, 1) := by decide +kernel
theorem dX4_isFirst_25 : decode cX4_isFirst 25 = .ok (.if_icmp .ne 5, 3) := by decide +kernel
theorem dX4_isFirst_28 : decode cX4_isFirst 28 = .ok (.iconst 0, 1) := by decide +kernel
theorem dX4_isFirst_29 : decode cX4_isFirst 29 = .ok (.ireturn, 1) := by decide +kernel
theorem dX4_isFirst_30 : decode cX4_isFirst 30 = .ok (.iinc 2 1, 3) := by decide +kernel
theorem dX4_isFirst_33 : decode cX4_isFirst 33 = .ok (.goto (-31), 3) := by decide +kernel
theorem dX4_isFirst_36 : decode cX4_isFirst 36 = .ok (.iconst 1, 1) := by decide +kernel
theorem dX4_isFirst_37 : decode cX4_isFirst 37 = .ok (.ireturn, 1) := by decide +kernel
theorem dX4_characterAt_0 : decode cX4_characterAt 0 = .ok (.iload_n 1, 1) := by decide +kernel
theorem dX4_characterAt_1 : decode cX4_characterAt 1 = .ok (.ifCond .lt 26, 3) := by decide +kernel
theorem dX4_characterAt_4 : decode cX4_characterAt 4 = .ok (.iload_n 1, 1) := by decide +kernel
theorem dX4_characterAt_5 : decode cX4_characterAt 5 = .ok (.aload_n 0, 1) := by decide +kernel
theorem dX4_characterAt_6 : decode cX4_characterAt 6 = .ok (.getfield 22, 3) := by decide +kernel
theorem dX4_characterAt_9 : decode cX4_characterAt 9 = .ok (.if_icmp .ge 18, 3) := by decide +kernel
theorem dX4_characterAt_12 : decode cX4_characterAt 12 = .ok (.iload_n 1, 1) := by decide +kernel
theorem dX4_characterAt_13 : decode cX4_characterAt 13 = .ok (.bipush 80, 2) := by decide +kernel
theorem dX4_characterAt_15 : decode cX4_characterAt 15 = .ok (.if_icmp .ge 12, 3) := by decide +kernel
theorem dX4_characterAt_18 : decode cX4_characterAt 18 = .ok (.aload_n 0, 1) := by decide +kernel
theorem dX4_characterAt_19 : decode cX4_characterAt 19 = .ok (.getfield 9, 3) := by decide +kernel
theorem dX4_characterAt_22 : decode cX4_characterAt 22 = .ok (.iload_n 1, 1) := by decide +kernel
theorem dX4_characterAt_23 : decode cX4_characterAt 23 = .ok (.caload, 1) := by decide +kernel
theorem dX4_characterAt_24 : decode cX4_characterAt 24 = .ok (.goto 4, 3) := by decide +kernel
theorem dX4_characterAt_27 : decode cX4_characterAt 27 = .ok (.iconst 0, 1) := by decide +kernel
theorem dX4_characterAt_28 : decode cX4_characterAt 28 = .ok (.ireturn, 1) := by decide +kernel
set_option maxRecDepth 20000 in
theorem ggX4_isDigitAt_X4_characterAt : GoodIn wsX4_isDigitAt wsX4_characterAt := goodIn_r _ [5, 6, 7, 8, 9, 10, 11, 12] (by decide +kernel) (by decide +kernel)
set_option maxRecDepth 20000 in
theorem gX4_isDigitAt_X4_characterAt : GoodIn wsX4_isDigitAt (wsV RX4 43 RX4 yX4_characterAt wsX4_characterAt) := goodIn_app (goodIn_of _ (by decide +kernel)) ggX4_isDigitAt_X4_characterAt
theorem dX4_isDigitAt_0 : decode cX4_isDigitAt 0 = .ok (.aload_n 0, 1) := by decide +kernel
theorem dX4_isDigitAt_1 : decode cX4_isDigitAt 1 = .ok (.iload_n 1, 1) := by decide +kernel
theorem dX4_isDigitAt_2 : decode cX4_isDigitAt 2 = .ok (.invokevirtual 43, 3) := by decide +kernel
theorem dX4_isDigitAt_5 : decode cX4_isDigitAt 5 = .ok (.istore_n 2, 1) := by decide +kernel
theorem dX4_isDigitAt_6 : decode cX4_isDigitAt 6 = .ok (.iload_n 2, 1) := by decide +kernel
theorem dX4_isDigitAt_7 : decode cX4_isDigitAt 7 = .ok (.bipush 48, 2) := by decide +kernel
theorem dX4_isDigitAt_9 : decode cX4_isDigitAt 9 = .ok (.if_icmp .lt 13, 3) := by decide +kernel
theorem dX4_isDigitAt_12 : decode cX4_isDigitAt 12 = .ok (.iload_n 2, 1) := by decide +kernel
theorem dX4_isDigitAt_13 : decode cX4_isDigitAt 13 = .ok (.bipush 57, 2) := by decide +kernel
theorem dX4_isDigitAt_15 : decode cX4_isDigitAt 15 = .ok (.if_icmp .gt 7, 3) := by decide +kernel
theorem dX4_isDigitAt_18 : decode cX4_isDigitAt 18 = .ok (.iconst 1, 1) := by decide +kernel
theorem dX4_isDigitAt_19 : decode cX4_isDigitAt 19 = .ok (.goto 4, 3) := by decide +kernel
theorem dX4_isDigitAt_22 : decode cX4_isDigitAt 22 = .ok (.iconst 0, 1) := by decide +kernel
theorem dX4_isDigitAt_23 : decode cX4_isDigitAt 23 = .ok (.ireturn, 1) := by decide +kernel
set_option maxRecDepth 20000 in
theorem ggX4_readAssignment_X4_targetAt : GoodIn wsX4_readAssignment wsX4_targetAt := goodIn_r _ [5, 6, 7, 8, 9, 10, 11, 4, 12, 13, 14, 15, 16, 17, 18, 19, 20, 21, 22, 23, 24, 25, 26, 27, 28, 29, 30, 31, 32, 33, 34, 35, 36, 37, 38, 39, 40, 41, 42, 43, 44, 45, 46, 47, 48, 49, 50, 51, 52, 53, 54, 55, 56, 57, 58, 59, 60, 61, 62, 63, 64, 65, 66, 67, 86, 87, 88, 89, 90] (by decide +kernel) (by decide +kernel)
set_option maxRecDepth 20000 in
theorem gX4_readAssignment_X4_targetAt : GoodIn wsX4_readAssignment (wsV RX4 46 RX4 yX4_targetAt wsX4_targetAt) := goodIn_app (goodIn_of _ (by decide +kernel)) ggX4_readAssignment_X4_targetAt
set_option maxRecDepth 20000 in
theorem ggX4_readAssignment_X6_nameOf : GoodIn wsX4_readAssignment wsX6_nameOf := goodIn_r _ [8] (by decide +kernel) (by decide +kernel)
set_option maxRecDepth 20000 in
theorem gX4_readAssignment_X6_nameOf_n49 : GoodIn wsX4_readAssignment (wsX6_nameOf) := ggX4_readAssignment_X6_nameOf
set_option maxRecDepth 20000 in
theorem ggX4_readAssignment_J0_length_8abf5 : GoodIn wsX4_readAssignment wsJ0_length_8abf5 := goodIn_r _ [17, 18, 19, 20, 21, 16, 22, 23, 24] (by decide +kernel) (by decide +kernel)
set_option maxRecDepth 20000 in
theorem gX4_readAssignment_J0_length_8abf5 : GoodIn wsX4_readAssignment (wsV RX4 53 RJ0 yJ0_length_8abf5 wsJ0_length_8abf5) := goodIn_app (goodIn_of _ (by decide +kernel)) ggX4_readAssignment_J0_length_8abf5
set_option maxRecDepth 20000 in
theorem ggX4_readAssignment_X4_characterAt : GoodIn wsX4_readAssignment wsX4_characterAt := goodIn_r _ [28, 29, 30, 86, 87, 88, 89, 90] (by decide +kernel) (by decide +kernel)
set_option maxRecDepth 20000 in
theorem gX4_readAssignment_X4_characterAt : GoodIn wsX4_readAssignment (wsV RX4 43 RX4 yX4_characterAt wsX4_characterAt) := goodIn_app (goodIn_of _ (by decide +kernel)) ggX4_readAssignment_X4_characterAt
set_option maxRecDepth 20000 in
theorem ggX4_readAssignment_X4_isDigitAt : GoodIn wsX4_readAssignment wsX4_isDigitAt := goodIn_r _ [71, 25, 26, 27, 4, 28, 29, 30, 86, 87, 88, 89, 90] (by decide +kernel) (by decide +kernel)
set_option maxRecDepth 20000 in
theorem gX4_readAssignment_X4_isDigitAt : GoodIn wsX4_readAssignment (wsV RX4 58 RX4 yX4_isDigitAt wsX4_isDigitAt) := goodIn_app (goodIn_of _ (by decide +kernel)) ggX4_readAssignment_X4_isDigitAt
set_option maxRecDepth 20000 in
theorem ggX4_readAssignment_X4_keep : GoodIn wsX4_readAssignment wsX4_keep := goodIn_r _ [75, 76, 77, 78, 79, 7, 80, 81, 82, 83, 84, 85, 86, 87, 88, 89, 90] (by decide +kernel) (by decide +kernel)
set_option maxRecDepth 20000 in
theorem gX4_readAssignment_X4_keep : GoodIn wsX4_readAssignment (wsV RX4 61 RX4 yX4_keep wsX4_keep) := goodIn_app (goodIn_of _ (by decide +kernel)) ggX4_readAssignment_X4_keep
theorem dX4_readAssignment_0 : decode cX4_readAssignment 0 = .ok (.aload_n 0, 1) := by decide +kernel
theorem dX4_readAssignment_1 : decode cX4_readAssignment 1 = .ok (.iload_n 1, 1) := by decide +kernel
theorem dX4_readAssignment_2 : decode cX4_readAssignment 2 = .ok (.invokevirtual 46, 3) := by decide +kernel
theorem dX4_readAssignment_5 : decode cX4_readAssignment 5 = .ok (.istore_n 2, 1) := by decide +kernel
theorem dX4_readAssignment_6 : decode cX4_readAssignment 6 = .ok (.iload_n 2, 1) := by decide +kernel
theorem dX4_readAssignment_7 : decode cX4_readAssignment 7 = .ok (.iconst (-1), 1) := by decide +kernel
theorem dX4_readAssignment_8 : decode cX4_readAssignment 8 = .ok (.if_icmp .ne 5, 3) := by decide +kernel
theorem dX4_readAssignment_11 : decode cX4_readAssignment 11 = .ok (.iconst (-1), 1) := by decide +kernel
theorem dX4_readAssignment_12 : decode cX4_readAssignment 12 = .ok (.ireturn, 1) := by decide +kernel
theorem dX4_readAssignment_13 : decode cX4_readAssignment 13 = .ok (.iload_n 1, 1) := by decide +kernel
theorem dX4_readAssignment_14 : decode cX4_readAssignment 14 = .ok (.iload_n 2, 1) := by decide +kernel
theorem dX4_readAssignment_15 : decode cX4_readAssignment 15 = .ok (.invokestatic 49, 3) := by decide +kernel
theorem dX4_readAssignment_18 : decode cX4_readAssignment 18 = .ok (.invokevirtual 53, 3) := by decide +kernel
theorem dX4_readAssignment_21 : decode cX4_readAssignment 21 = .ok (.iadd, 1) := by decide +kernel
theorem dX4_readAssignment_22 : decode cX4_readAssignment 22 = .ok (.iconst 1, 1) := by decide +kernel
theorem dX4_readAssignment_23 : decode cX4_readAssignment 23 = .ok (.iadd, 1) := by decide +kernel
theorem dX4_readAssignment_24 : decode cX4_readAssignment 24 = .ok (.istore_n 3, 1) := by decide +kernel
theorem dX4_readAssignment_25 : decode cX4_readAssignment 25 = .ok (.aload_n 0, 1) := by decide +kernel
theorem dX4_readAssignment_26 : decode cX4_readAssignment 26 = .ok (.iload_n 3, 1) := by decide +kernel
theorem dX4_readAssignment_27 : decode cX4_readAssignment 27 = .ok (.invokevirtual 43, 3) := by decide +kernel
theorem dX4_readAssignment_30 : decode cX4_readAssignment 30 = .ok (.bipush 45, 2) := by decide +kernel
theorem dX4_readAssignment_32 : decode cX4_readAssignment 32 = .ok (.if_icmp .ne 7, 3) := by decide +kernel
theorem dX4_readAssignment_35 : decode cX4_readAssignment 35 = .ok (.iconst 1, 1) := by decide +kernel
theorem dX4_readAssignment_36 : decode cX4_readAssignment 36 = .ok (.goto 4, 3) := by decide +kernel
theorem dX4_readAssignment_39 : decode cX4_readAssignment 39 = .ok (.iconst 0, 1) := by decide +kernel
theorem dX4_readAssignment_40 : decode cX4_readAssignment 40 = .ok (.istore 4, 2) := by decide +kernel
theorem dX4_readAssignment_42 : decode cX4_readAssignment 42 = .ok (.iload 4, 2) := by decide +kernel
theorem dX4_readAssignment_44 : decode cX4_readAssignment 44 = .ok (.ifCond .eq 6, 3) := by decide +kernel
theorem dX4_readAssignment_47 : decode cX4_readAssignment 47 = .ok (.iinc 3 1, 3) := by decide +kernel
theorem dX4_readAssignment_50 : decode cX4_readAssignment 50 = .ok (.iconst 0, 1) := by decide +kernel
theorem dX4_readAssignment_51 : decode cX4_readAssignment 51 = .ok (.istore 5, 2) := by decide +kernel
theorem dX4_readAssignment_53 : decode cX4_readAssignment 53 = .ok (.iconst 0, 1) := by decide +kernel
theorem dX4_readAssignment_54 : decode cX4_readAssignment 54 = .ok (.istore 6, 2) := by decide +kernel
theorem dX4_readAssignment_56 : decode cX4_readAssignment 56 = .ok (.iload 5, 2) := by decide +kernel
theorem dX4_readAssignment_58 : decode cX4_readAssignment 58 = .ok (.bipush 7, 2) := by decide +kernel
theorem dX4_readAssignment_60 : decode cX4_readAssignment 60 = .ok (.if_icmp .ge 36, 3) := by decide +kernel
theorem dX4_readAssignment_63 : decode cX4_readAssignment 63 = .ok (.aload_n 0, 1) := by decide +kernel
theorem dX4_readAssignment_64 : decode cX4_readAssignment 64 = .ok (.iload_n 3, 1) := by decide +kernel
theorem dX4_readAssignment_65 : decode cX4_readAssignment 65 = .ok (.invokevirtual 58, 3) := by decide +kernel
theorem dX4_readAssignment_68 : decode cX4_readAssignment 68 = .ok (.ifCond .eq 28, 3) := by decide +kernel
theorem dX4_readAssignment_71 : decode cX4_readAssignment 71 = .ok (.bipush 10, 2) := by decide +kernel
theorem dX4_readAssignment_73 : decode cX4_readAssignment 73 = .ok (.iload 6, 2) := by decide +kernel
theorem dX4_readAssignment_75 : decode cX4_readAssignment 75 = .ok (.imul, 1) := by decide +kernel
theorem dX4_readAssignment_76 : decode cX4_readAssignment 76 = .ok (.aload_n 0, 1) := by decide +kernel
theorem dX4_readAssignment_77 : decode cX4_readAssignment 77 = .ok (.iload_n 3, 1) := by decide +kernel
theorem dX4_readAssignment_78 : decode cX4_readAssignment 78 = .ok (.invokevirtual 43, 3) := by decide +kernel
theorem dX4_readAssignment_81 : decode cX4_readAssignment 81 = .ok (.iadd, 1) := by decide +kernel
theorem dX4_readAssignment_82 : decode cX4_readAssignment 82 = .ok (.bipush 48, 2) := by decide +kernel
theorem dX4_readAssignment_84 : decode cX4_readAssignment 84 = .ok (.isub, 1) := by decide +kernel
theorem dX4_readAssignment_85 : decode cX4_readAssignment 85 = .ok (.istore 6, 2) := by decide +kernel
theorem dX4_readAssignment_87 : decode cX4_readAssignment 87 = .ok (.iinc 5 1, 3) := by decide +kernel
theorem dX4_readAssignment_90 : decode cX4_readAssignment 90 = .ok (.iinc 3 1, 3) := by decide +kernel
theorem dX4_readAssignment_93 : decode cX4_readAssignment 93 = .ok (.goto (-37), 3) := by decide +kernel
theorem dX4_readAssignment_96 : decode cX4_readAssignment 96 = .ok (.iload 5, 2) := by decide +kernel
theorem dX4_readAssignment_98 : decode cX4_readAssignment 98 = .ok (.ifCond .eq 13, 3) := by decide +kernel
theorem dX4_readAssignment_101 : decode cX4_readAssignment 101 = .ok (.aload_n 0, 1) := by decide +kernel
theorem dX4_readAssignment_102 : decode cX4_readAssignment 102 = .ok (.iload_n 3, 1) := by decide +kernel
theorem dX4_readAssignment_103 : decode cX4_readAssignment 103 = .ok (.invokevirtual 43, 3) := by decide +kernel
theorem dX4_readAssignment_106 : decode cX4_readAssignment 106 = .ok (.bipush 59, 2) := by decide +kernel
theorem dX4_readAssignment_108 : decode cX4_readAssignment 108 = .ok (.if_icmp .eq 5, 3) := by decide +kernel
theorem dX4_readAssignment_111 : decode cX4_readAssignment 111 = .ok (.iconst (-1), 1) := by decide +kernel
theorem dX4_readAssignment_112 : decode cX4_readAssignment 112 = .ok (.ireturn, 1) := by decide +kernel
theorem dX4_readAssignment_113 : decode cX4_readAssignment 113 = .ok (.aload_n 0, 1) := by decide +kernel
theorem dX4_readAssignment_114 : decode cX4_readAssignment 114 = .ok (.iload_n 2, 1) := by decide +kernel
theorem dX4_readAssignment_115 : decode cX4_readAssignment 115 = .ok (.iload 4, 2) := by decide +kernel
theorem dX4_readAssignment_117 : decode cX4_readAssignment 117 = .ok (.ifCond .eq 9, 3) := by decide +kernel
theorem dX4_readAssignment_120 : decode cX4_readAssignment 120 = .ok (.iload 6, 2) := by decide +kernel
theorem dX4_readAssignment_122 : decode cX4_readAssignment 122 = .ok (.ineg, 1) := by decide +kernel
theorem dX4_readAssignment_123 : decode cX4_readAssignment 123 = .ok (.goto 5, 3) := by decide +kernel
theorem dX4_readAssignment_126 : decode cX4_readAssignment 126 = .ok (.iload 6, 2) := by decide +kernel
theorem dX4_readAssignment_128 : decode cX4_readAssignment 128 = .ok (.invokevirtual 61, 3) := by decide +kernel
theorem dX4_readAssignment_131 : decode cX4_readAssignment 131 = .ok (.ifCond .eq 9, 3) := by decide +kernel
theorem dX4_readAssignment_134 : decode cX4_readAssignment 134 = .ok (.iload_n 3, 1) := by decide +kernel
theorem dX4_readAssignment_135 : decode cX4_readAssignment 135 = .ok (.iconst 1, 1) := by decide +kernel
theorem dX4_readAssignment_136 : decode cX4_readAssignment 136 = .ok (.iadd, 1) := by decide +kernel
theorem dX4_readAssignment_137 : decode cX4_readAssignment 137 = .ok (.goto 4, 3) := by decide +kernel
theorem dX4_readAssignment_140 : decode cX4_readAssignment 140 = .ok (.iconst (-1), 1) := by decide +kernel
theorem dX4_readAssignment_141 : decode cX4_readAssignment 141 = .ok (.ireturn, 1) := by decide +kernel
set_option maxRecDepth 20000 in
theorem ggX4_keep_X6_allows : GoodIn wsX4_keep wsX6_allows := goodIn_r _ [6, 7, 8, 9, 10, 5, 11] (by decide +kernel) (by decide +kernel)
set_option maxRecDepth 20000 in
theorem gX4_keep_X6_allows_n65 : GoodIn wsX4_keep (wsX6_allows) := ggX4_keep_X6_allows
theorem dX4_keep_0 : decode cX4_keep 0 = .ok (.iload_n 1, 1) := by decide +kernel
theorem dX4_keep_1 : decode cX4_keep 1 = .ok (.iload_n 2, 1) := by decide +kernel
theorem dX4_keep_2 : decode cX4_keep 2 = .ok (.invokestatic 65, 3) := by decide +kernel
theorem dX4_keep_5 : decode cX4_keep 5 = .ok (.ifCond .eq 12, 3) := by decide +kernel
theorem dX4_keep_8 : decode cX4_keep 8 = .ok (.aload_n 0, 1) := by decide +kernel
theorem dX4_keep_9 : decode cX4_keep 9 = .ok (.getfield 26, 3) := by decide +kernel
theorem dX4_keep_12 : decode cX4_keep 12 = .ok (.bipush 16, 2) := by decide +kernel
theorem dX4_keep_14 : decode cX4_keep 14 = .ok (.if_icmp .lt 5, 3) := by decide +kernel
theorem dX4_keep_17 : decode cX4_keep 17 = .ok (.iconst 0, 1) := by decide +kernel
theorem dX4_keep_18 : decode cX4_keep 18 = .ok (.ireturn, 1) := by decide +kernel
theorem dX4_keep_19 : decode cX4_keep 19 = .ok (.aload_n 0, 1) := by decide +kernel
theorem dX4_keep_20 : decode cX4_keep 20 = .ok (.getfield 15, 3) := by decide +kernel
theorem dX4_keep_23 : decode cX4_keep 23 = .ok (.aload_n 0, 1) := by decide +kernel
theorem dX4_keep_24 : decode cX4_keep 24 = .ok (.getfield 26, 3) := by decide +kernel
theorem dX4_keep_27 : decode cX4_keep 27 = .ok (.iload_n 1, 1) := by decide +kernel
theorem dX4_keep_28 : decode cX4_keep 28 = .ok (.iastore, 1) := by decide +kernel
theorem dX4_keep_29 : decode cX4_keep 29 = .ok (.aload_n 0, 1) := by decide +kernel
theorem dX4_keep_30 : decode cX4_keep 30 = .ok (.getfield 19, 3) := by decide +kernel
theorem dX4_keep_33 : decode cX4_keep 33 = .ok (.aload_n 0, 1) := by decide +kernel
theorem dX4_keep_34 : decode cX4_keep 34 = .ok (.getfield 26, 3) := by decide +kernel
theorem dX4_keep_37 : decode cX4_keep 37 = .ok (.iload_n 2, 1) := by decide +kernel
theorem dX4_keep_38 : decode cX4_keep 38 = .ok (.iastore, 1) := by decide +kernel
theorem dX4_keep_39 : decode cX4_keep 39 = .ok (.aload_n 0, 1) := by decide +kernel
theorem dX4_keep_40 : decode cX4_keep 40 = .ok (.dup, 1) := by decide +kernel
theorem dX4_keep_41 : decode cX4_keep 41 = .ok (.getfield 26, 3) := by decide +kernel
theorem dX4_keep_44 : decode cX4_keep 44 = .ok (.iconst 1, 1) := by decide +kernel
theorem dX4_keep_45 : decode cX4_keep 45 = .ok (.iadd, 1) := by decide +kernel
theorem dX4_keep_46 : decode cX4_keep 46 = .ok (.putfield 26, 3) := by decide +kernel
theorem dX4_keep_49 : decode cX4_keep 49 = .ok (.iconst 1, 1) := by decide +kernel
theorem dX4_keep_50 : decode cX4_keep 50 = .ok (.ireturn, 1) := by decide +kernel
set_option maxRecDepth 20000 in
theorem ggX4_targetAt_X6_nameOf : GoodIn wsX4_targetAt wsX6_nameOf := goodIn_r _ [3] (by decide +kernel) (by decide +kernel)
set_option maxRecDepth 20000 in
theorem gX4_targetAt_X6_nameOf_n49 : GoodIn wsX4_targetAt (wsX6_nameOf) := ggX4_targetAt_X6_nameOf
set_option maxRecDepth 20000 in
theorem ggX4_targetAt_X4_standsAt : GoodIn wsX4_targetAt wsX4_standsAt := goodIn_r _ [8, 9, 10, 11, 12, 13, 14, 15, 16, 17, 18, 19, 20, 21, 22, 23, 7, 24, 25, 26, 27, 28, 29, 30, 31, 32, 33, 34, 35, 36, 37, 38, 39, 40, 41, 42, 43, 44, 45, 46, 47, 48, 49, 50, 51, 52, 53, 54, 55, 56, 57, 58, 59, 60, 61, 62, 63, 64, 65, 66, 67, 68] (by decide +kernel) (by decide +kernel)
set_option maxRecDepth 20000 in
theorem gX4_targetAt_X4_standsAt : GoodIn wsX4_targetAt (wsV RX4 68 RX4 yX4_standsAt wsX4_standsAt) := goodIn_app (goodIn_of _ (by decide +kernel)) ggX4_targetAt_X4_standsAt
set_option maxRecDepth 20000 in
theorem ggX4_targetAt_J0_length_8abf5 : GoodIn wsX4_targetAt wsJ0_length_8abf5 := goodIn_r _ [13, 14, 15, 16, 17, 12, 18, 19, 20] (by decide +kernel) (by decide +kernel)
set_option maxRecDepth 20000 in
theorem gX4_targetAt_J0_length_8abf5 : GoodIn wsX4_targetAt (wsV RX4 53 RJ0 yJ0_length_8abf5 wsJ0_length_8abf5) := goodIn_app (goodIn_of _ (by decide +kernel)) ggX4_targetAt_J0_length_8abf5
set_option maxRecDepth 20000 in
theorem ggX4_targetAt_X4_characterAt : GoodIn wsX4_targetAt wsX4_characterAt := goodIn_r _ [24, 25, 26, 64, 65, 66, 67, 68] (by decide +kernel) (by decide +kernel)
set_option maxRecDepth 20000 in
theorem gX4_targetAt_X4_characterAt : GoodIn wsX4_targetAt (wsV RX4 43 RX4 yX4_characterAt wsX4_characterAt) := goodIn_app (goodIn_of _ (by decide +kernel)) ggX4_targetAt_X4_characterAt
theorem dX4_targetAt_0 : decode cX4_targetAt 0 = .ok (.iconst 0, 1) := by decide +kernel
theorem dX4_targetAt_1 : decode cX4_targetAt 1 = .ok (.istore_n 2, 1) := by decide +kernel
theorem dX4_targetAt_2 : decode cX4_targetAt 2 = .ok (.iload_n 2, 1) := by decide +kernel
theorem dX4_targetAt_3 : decode cX4_targetAt 3 = .ok (.bipush 15, 2) := by decide +kernel
theorem dX4_targetAt_5 : decode cX4_targetAt 5 = .ok (.if_icmp .ge 40, 3) := by decide +kernel
theorem dX4_targetAt_8 : decode cX4_targetAt 8 = .ok (.iload_n 2, 1) := by decide +kernel
theorem dX4_targetAt_9 : decode cX4_targetAt 9 = .ok (.invokestatic 49, 3) := by decide +kernel
theorem dX4_targetAt_12 : decode cX4_targetAt 12 = .ok (.astore_n 3, 1) := by decide +kernel
theorem dX4_targetAt_13 : decode cX4_targetAt 13 = .ok (.aload_n 0, 1) := by decide +kernel
theorem dX4_targetAt_14 : decode cX4_targetAt 14 = .ok (.aload_n 3, 1) := by decide +kernel
theorem dX4_targetAt_15 : decode cX4_targetAt 15 = .ok (.iload_n 1, 1) := by decide +kernel
theorem dX4_targetAt_16 : decode cX4_targetAt 16 = .ok (.invokevirtual 68, 3) := by decide +kernel
theorem dX4_targetAt_19 : decode cX4_targetAt 19 = .ok (.ifCond .eq 20, 3) := by decide +kernel
theorem dX4_targetAt_22 : decode cX4_targetAt 22 = .ok (.aload_n 0, 1) := by decide +kernel
theorem dX4_targetAt_23 : decode cX4_targetAt 23 = .ok (.iload_n 1, 1) := by decide +kernel
theorem dX4_targetAt_24 : decode cX4_targetAt 24 = .ok (.aload_n 3, 1) := by decide +kernel
theorem dX4_targetAt_25 : decode cX4_targetAt 25 = .ok (.invokevirtual 53, 3) := by decide +kernel
theorem dX4_targetAt_28 : decode cX4_targetAt 28 = .ok (.iadd, 1) := by decide +kernel
theorem dX4_targetAt_29 : decode cX4_targetAt 29 = .ok (.invokevirtual 43, 3) := by decide +kernel
theorem dX4_targetAt_32 : decode cX4_targetAt 32 = .ok (.bipush 61, 2) := by decide +kernel
theorem dX4_targetAt_34 : decode cX4_targetAt 34 = .ok (.if_icmp .ne 5, 3) := by decide +kernel
theorem dX4_targetAt_37 : decode cX4_targetAt 37 = .ok (.iload_n 2, 1) := by decide +kernel
theorem dX4_targetAt_38 : decode cX4_targetAt 38 = .ok (.ireturn, 1) := by decide +kernel
theorem dX4_targetAt_39 : decode cX4_targetAt 39 = .ok (.iinc 2 1, 3) := by decide +kernel
theorem dX4_targetAt_42 : decode cX4_targetAt 42 = .ok (.goto (-40), 3) := by decide +kernel
theorem dX4_targetAt_45 : decode cX4_targetAt 45 = .ok (.iconst (-1), 1) := by decide +kernel
theorem dX4_targetAt_46 : decode cX4_targetAt 46 = .ok (.ireturn, 1) := by decide +kernel
set_option maxRecDepth 20000 in
theorem ggX4_standsAt_J0_length_8abf5 : GoodIn wsX4_standsAt wsJ0_length_8abf5 := goodIn_r _ [5, 6, 7, 8, 9, 4, 10, 11, 12] (by decide +kernel) (by decide +kernel)
set_option maxRecDepth 20000 in
theorem gX4_standsAt_J0_length_8abf5 : GoodIn wsX4_standsAt (wsV RX4 53 RJ0 yJ0_length_8abf5 wsJ0_length_8abf5) := goodIn_app (goodIn_of _ (by decide +kernel)) ggX4_standsAt_J0_length_8abf5
set_option maxRecDepth 20000 in
theorem ggX4_standsAt_X4_characterAt : GoodIn wsX4_standsAt wsX4_characterAt := goodIn_r _ [17, 18, 19, 57, 58, 59, 60, 61] (by decide +kernel) (by decide +kernel)
set_option maxRecDepth 20000 in
theorem gX4_standsAt_X4_characterAt : GoodIn wsX4_standsAt (wsV RX4 43 RX4 yX4_characterAt wsX4_characterAt) := goodIn_app (goodIn_of _ (by decide +kernel)) ggX4_standsAt_X4_characterAt
set_option maxRecDepth 20000 in
theorem ggX4_standsAt_J0_charAt_5068e : GoodIn wsX4_standsAt wsJ0_charAt_5068e := goodIn_r _ [23, 6, 24, 25, 26, 4, 27, 11, 12, 28, 29, 30, 31, 32, 33, 34, 35, 36, 37, 38, 39, 40, 41, 42, 43, 44, 45, 46, 47, 48, 49, 50, 51, 52, 53, 54, 55, 56] (by decide +kernel) (by decide +kernel)
set_option maxRecDepth 20000 in
theorem gX4_standsAt_J0_charAt_5068e : GoodIn wsX4_standsAt (wsV RX4 72 RJ0 yJ0_charAt_5068e wsJ0_charAt_5068e) := goodIn_app (goodIn_of _ (by decide +kernel)) ggX4_standsAt_J0_charAt_5068e
theorem dX4_standsAt_0 : decode cX4_standsAt 0 = .ok (.iconst 0, 1) := by decide +kernel
theorem dX4_standsAt_1 : decode cX4_standsAt 1 = .ok (.istore_n 3, 1) := by decide +kernel
theorem dX4_standsAt_2 : decode cX4_standsAt 2 = .ok (.iload_n 3, 1) := by decide +kernel
theorem dX4_standsAt_3 : decode cX4_standsAt 3 = .ok (.aload_n 1, 1) := by decide +kernel
theorem dX4_standsAt_4 : decode cX4_standsAt 4 = .ok (.invokevirtual 53, 3) := by decide +kernel
theorem dX4_standsAt_7 : decode cX4_standsAt 7 = .ok (.if_icmp .ge 26, 3) := by decide +kernel
theorem dX4_standsAt_10 : decode cX4_standsAt 10 = .ok (.aload_n 0, 1) := by decide +kernel
theorem dX4_standsAt_11 : decode cX4_standsAt 11 = .ok (.iload_n 2, 1) := by decide +kernel
theorem dX4_standsAt_12 : decode cX4_standsAt 12 = .ok (.iload_n 3, 1) := by decide +kernel
theorem dX4_standsAt_13 : decode cX4_standsAt 13 = .ok (.iadd, 1) := by decide +kernel
theorem dX4_standsAt_14 : decode cX4_standsAt 14 = .ok (.invokevirtual 43, 3) := by decide +kernel
theorem dX4_standsAt_17 : decode cX4_standsAt 17 = .ok (.aload_n 1, 1) := by decide +kernel
theorem dX4_standsAt_18 : decode cX4_standsAt 18 = .ok (.iload_n 3, 1) := by decide +kernel
theorem dX4_standsAt_19 : decode cX4_standsAt 19 = .ok (.invokevirtual 72, 3) := by decide +kernel
theorem dX4_standsAt_22 : decode cX4_standsAt 22 = .ok (.if_icmp .eq 5, 3) := by decide +kernel
theorem dX4_standsAt_25 : decode cX4_standsAt 25 = .ok (.iconst 0, 1) := by decide +kernel
theorem dX4_standsAt_26 : decode cX4_standsAt 26 = .ok (.ireturn, 1) := by decide +kernel
theorem dX4_standsAt_27 : decode cX4_standsAt 27 = .ok (.iinc 3 1, 3) := by decide +kernel
theorem dX4_standsAt_30 : decode cX4_standsAt 30 = .ok (.goto (-28), 3) := by decide +kernel
theorem dX4_standsAt_33 : decode cX4_standsAt 33 = .ok (.iconst 1, 1) := by decide +kernel
theorem dX4_standsAt_34 : decode cX4_standsAt 34 = .ok (.ireturn, 1) := by decide +kernel
set_option maxRecDepth 20000 in
theorem ggJ0_length_8abf5_J0_coder_7d493 : GoodIn wsJ0_length_8abf5 wsJ0_coder_7d493 := goodIn_r _ [6, 7, 8] (by decide +kernel) (by decide +kernel)
set_option maxRecDepth 20000 in
theorem gJ0_length_8abf5_J0_coder_7d493 : GoodIn wsJ0_length_8abf5 (wsV RJ0 335 RJ0 yJ0_coder_7d493 wsJ0_coder_7d493) := goodIn_app (goodIn_of _ (by decide +kernel)) ggJ0_length_8abf5_J0_coder_7d493
theorem dJ0_length_8abf5_0 : decode cJ0_length_8abf5 0 = .ok (.aload_n 0, 1) := by decide +kernel
theorem dJ0_length_8abf5_1 : decode cJ0_length_8abf5 1 = .ok (.getfield 9, 3) := by decide +kernel
theorem dJ0_length_8abf5_4 : decode cJ0_length_8abf5 4 = .ok (.arraylength, 1) := by decide +kernel
theorem dJ0_length_8abf5_5 : decode cJ0_length_8abf5 5 = .ok (.aload_n 0, 1) := by decide +kernel
theorem dJ0_length_8abf5_6 : decode cJ0_length_8abf5 6 = .ok (.invokevirtual 335, 3) := by decide +kernel
theorem dJ0_length_8abf5_9 : decode cJ0_length_8abf5 9 = .ok (.ishr, 1) := by decide +kernel
theorem dJ0_length_8abf5_10 : decode cJ0_length_8abf5 10 = .ok (.ireturn, 1) := by decide +kernel
set_option maxRecDepth 20000 in
theorem ggJ0_charAt_5068e_J0_isLatin1_aae02 : GoodIn wsJ0_charAt_5068e wsJ0_isLatin1_aae02 := goodIn_r _ [6, 7, 8] (by decide +kernel) (by decide +kernel)
set_option maxRecDepth 20000 in
theorem gJ0_charAt_5068e_J0_isLatin1_aae02 : GoodIn wsJ0_charAt_5068e (wsV RJ0 492 RJ0 yJ0_isLatin1_aae02 wsJ0_isLatin1_aae02) := goodIn_app (goodIn_of _ (by decide +kernel)) ggJ0_charAt_5068e_J0_isLatin1_aae02
set_option maxRecDepth 20000 in
theorem ggJ0_charAt_5068e_J1_charAt_3b067 : GoodIn wsJ0_charAt_5068e wsJ1_charAt_3b067 := goodIn_r _ [12, 13, 14, 5, 15, 16, 17, 18, 19, 20] (by decide +kernel) (by decide +kernel)
set_option maxRecDepth 20000 in
theorem gJ0_charAt_5068e_J1_charAt_3b067 : GoodIn wsJ0_charAt_5068e (va_wsS RJ0 495 yJ1_charAt_3b067 wsJ1_charAt_3b067) := goodIn_app (goodIn_of _ (by decide +kernel)) ggJ0_charAt_5068e_J1_charAt_3b067
set_option maxRecDepth 20000 in
theorem ggJ0_charAt_5068e_J2_charAt_3b067 : GoodIn wsJ0_charAt_5068e wsJ2_charAt_3b067 := goodIn_r _ [24, 25, 26, 23, 27, 28, 29, 30, 31, 14, 5, 15, 16, 17, 18, 19, 20, 32, 33, 34, 35, 36, 37] (by decide +kernel) (by decide +kernel)
set_option maxRecDepth 20000 in
theorem gJ0_charAt_5068e_J2_charAt_3b067 : GoodIn wsJ0_charAt_5068e (va_wsS RJ0 498 yJ2_charAt_3b067 wsJ2_charAt_3b067) := goodIn_app (goodIn_of _ (by decide +kernel)) ggJ0_charAt_5068e_J2_charAt_3b067
theorem dJ0_charAt_5068e_0 : decode cJ0_charAt_5068e 0 = .ok (.aload_n 0, 1) := by decide +kernel
theorem dJ0_charAt_5068e_1 : decode cJ0_charAt_5068e 1 = .ok (.invokevirtual 492, 3) := by decide +kernel
theorem dJ0_charAt_5068e_4 : decode cJ0_charAt_5068e 4 = .ok (.ifCond .eq 12, 3) := by decide +kernel
theorem dJ0_charAt_5068e_7 : decode cJ0_charAt_5068e 7 = .ok (.aload_n 0, 1) := by decide +kernel
theorem dJ0_charAt_5068e_8 : decode cJ0_charAt_5068e 8 = .ok (.getfield 9, 3) := by decide +kernel
theorem dJ0_charAt_5068e_11 : decode cJ0_charAt_5068e 11 = .ok (.iload_n 1, 1) := by decide +kernel
theorem dJ0_charAt_5068e_12 : decode cJ0_charAt_5068e 12 = .ok (.invokestatic 495, 3) := by decide +kernel
theorem dJ0_charAt_5068e_15 : decode cJ0_charAt_5068e 15 = .ok (.ireturn, 1) := by decide +kernel
theorem dJ0_charAt_5068e_16 : decode cJ0_charAt_5068e 16 = .ok (.aload_n 0, 1) := by decide +kernel
theorem dJ0_charAt_5068e_17 : decode cJ0_charAt_5068e 17 = .ok (.getfield 9, 3) := by decide +kernel
theorem dJ0_charAt_5068e_20 : decode cJ0_charAt_5068e 20 = .ok (.iload_n 1, 1) := by decide +kernel
theorem dJ0_charAt_5068e_21 : decode cJ0_charAt_5068e 21 = .ok (.invokestatic 498, 3) := by decide +kernel
theorem dJ0_charAt_5068e_24 : decode cJ0_charAt_5068e 24 = .ok (.ireturn, 1) := by decide +kernel
theorem dJ0_coder_7d493_0 : decode cJ0_coder_7d493 0 = .ok (.getstatic 38, 3) := by decide +kernel
theorem dJ0_coder_7d493_3 : decode cJ0_coder_7d493 3 = .ok (.ifCond .eq 10, 3) := by decide +kernel
theorem dJ0_coder_7d493_6 : decode cJ0_coder_7d493 6 = .ok (.aload_n 0, 1) := by decide +kernel
theorem dJ0_coder_7d493_7 : decode cJ0_coder_7d493 7 = .ok (.getfield 15, 3) := by decide +kernel
theorem dJ0_coder_7d493_10 : decode cJ0_coder_7d493 10 = .ok (.goto 4, 3) := by decide +kernel
theorem dJ0_coder_7d493_13 : decode cJ0_coder_7d493 13 = .ok (.iconst 1, 1) := by decide +kernel
theorem dJ0_coder_7d493_14 : decode cJ0_coder_7d493 14 = .ok (.ireturn, 1) := by decide +kernel
theorem dJ0_isLatin1_aae02_0 : decode cJ0_isLatin1_aae02 0 = .ok (.getstatic 38, 3) := by decide +kernel
theorem dJ0_isLatin1_aae02_3 : decode cJ0_isLatin1_aae02 3 = .ok (.ifCond .eq 14, 3) := by decide +kernel
theorem dJ0_isLatin1_aae02_6 : decode cJ0_isLatin1_aae02 6 = .ok (.aload_n 0, 1) := by decide +kernel
theorem dJ0_isLatin1_aae02_7 : decode cJ0_isLatin1_aae02 7 = .ok (.getfield 15, 3) := by decide +kernel
theorem dJ0_isLatin1_aae02_10 : decode cJ0_isLatin1_aae02 10 = .ok (.ifCond .ne 7, 3) := by decide +kernel
theorem dJ0_isLatin1_aae02_13 : decode cJ0_isLatin1_aae02 13 = .ok (.iconst 1, 1) := by decide +kernel
theorem dJ0_isLatin1_aae02_14 : decode cJ0_isLatin1_aae02 14 = .ok (.goto 4, 3) := by decide +kernel
theorem dJ0_isLatin1_aae02_17 : decode cJ0_isLatin1_aae02 17 = .ok (.iconst 0, 1) := by decide +kernel
theorem dJ0_isLatin1_aae02_18 : decode cJ0_isLatin1_aae02 18 = .ok (.ireturn, 1) := by decide +kernel
set_option maxRecDepth 20000 in
theorem ggJ0_checkIndex_df160_J3_checkIndex_8e157 : GoodIn wsJ0_checkIndex_df160 wsJ3_checkIndex_8e157 := goodIn_r _ [5] (by decide +kernel) (by decide +kernel)
set_option maxRecDepth 20000 in
theorem gJ0_checkIndex_df160_J3_checkIndex_8e157 : GoodIn wsJ0_checkIndex_df160 (va_wsS RJ0 1059 yJ3_checkIndex_8e157 wsJ3_checkIndex_8e157) := goodIn_app (goodIn_of _ (by decide +kernel)) ggJ0_checkIndex_df160_J3_checkIndex_8e157
theorem dJ0_checkIndex_df160_0 : decode cJ0_checkIndex_df160 0 = .ok (.iload_n 0, 1) := by decide +kernel
theorem dJ0_checkIndex_df160_1 : decode cJ0_checkIndex_df160 1 = .ok (.iload_n 1, 1) := by decide +kernel
theorem dJ0_checkIndex_df160_2 : decode cJ0_checkIndex_df160 2 = .ok (.getstatic 1053, 3) := by decide +kernel
theorem dJ0_checkIndex_df160_5 : decode cJ0_checkIndex_df160 5 = .ok (.invokestatic 1059, 3) := by decide +kernel
theorem dJ0_checkIndex_df160_8 : decode cJ0_checkIndex_df160 8 = .ok (.pop, 1) := by decide +kernel
theorem dJ0_checkIndex_df160_9 : decode cJ0_checkIndex_df160 9 = .ok (.return_, 1) := by decide +kernel
set_option maxRecDepth 20000 in
theorem ggJ1_charAt_3b067_J0_checkIndex_df160 : GoodIn wsJ1_charAt_3b067 wsJ0_checkIndex_df160 := goodIn_r _ [4, 5, 6, 7, 8, 9] (by decide +kernel) (by decide +kernel)
set_option maxRecDepth 20000 in
theorem gJ1_charAt_3b067_J0_checkIndex_df160 : GoodIn wsJ1_charAt_3b067 (va_wsS RJ1 9 yJ0_checkIndex_df160 wsJ0_checkIndex_df160) := goodIn_app (goodIn_of _ (by decide +kernel)) ggJ1_charAt_3b067_J0_checkIndex_df160
theorem dJ1_charAt_3b067_0 : decode cJ1_charAt_3b067 0 = .ok (.iload_n 1, 1) := by decide +kernel
theorem dJ1_charAt_3b067_1 : decode cJ1_charAt_3b067 1 = .ok (.aload_n 0, 1) := by decide +kernel
theorem dJ1_charAt_3b067_2 : decode cJ1_charAt_3b067 2 = .ok (.arraylength, 1) := by decide +kernel
theorem dJ1_charAt_3b067_3 : decode cJ1_charAt_3b067 3 = .ok (.invokestatic 9, 3) := by decide +kernel
theorem dJ1_charAt_3b067_6 : decode cJ1_charAt_3b067 6 = .ok (.aload_n 0, 1) := by decide +kernel
theorem dJ1_charAt_3b067_7 : decode cJ1_charAt_3b067 7 = .ok (.iload_n 1, 1) := by decide +kernel
theorem dJ1_charAt_3b067_8 : decode cJ1_charAt_3b067 8 = .ok (.baload, 1) := by decide +kernel
theorem dJ1_charAt_3b067_9 : decode cJ1_charAt_3b067 9 = .ok (.sipush 255, 3) := by decide +kernel
theorem dJ1_charAt_3b067_12 : decode cJ1_charAt_3b067 12 = .ok (.iand, 1) := by decide +kernel
theorem dJ1_charAt_3b067_13 : decode cJ1_charAt_3b067 13 = .ok (.i2c, 1) := by decide +kernel
theorem dJ1_charAt_3b067_14 : decode cJ1_charAt_3b067 14 = .ok (.ireturn, 1) := by decide +kernel
set_option maxRecDepth 20000 in
theorem ggJ2_getChar_3b067_J2_length_9d52b : GoodIn wsJ2_getChar_3b067 wsJ2_length_9d52b := goodIn_r _ [7] (by decide +kernel) (by decide +kernel)
set_option maxRecDepth 20000 in
theorem gJ2_getChar_3b067_J2_length_9d52b : GoodIn wsJ2_getChar_3b067 (va_wsS RJ2 48 yJ2_length_9d52b wsJ2_length_9d52b) := goodIn_app (goodIn_of _ (by decide +kernel)) ggJ2_getChar_3b067_J2_length_9d52b
theorem dJ2_getChar_3b067_0 : decode cJ2_getChar_3b067 0 = .ok (.getstatic 44, 3) := by decide +kernel
theorem dJ2_getChar_3b067_3 : decode cJ2_getChar_3b067 3 = .ok (.ifCond .ne 25, 3) := by decide +kernel
theorem dJ2_getChar_3b067_6 : decode cJ2_getChar_3b067 6 = .ok (.iload_n 1, 1) := by decide +kernel
theorem dJ2_getChar_3b067_7 : decode cJ2_getChar_3b067 7 = .ok (.ifCond .lt 11, 3) := by decide +kernel
theorem dJ2_getChar_3b067_10 : decode cJ2_getChar_3b067 10 = .ok (.iload_n 1, 1) := by decide +kernel
theorem dJ2_getChar_3b067_11 : decode cJ2_getChar_3b067 11 = .ok (.aload_n 0, 1) := by decide +kernel
theorem dJ2_getChar_3b067_12 : decode cJ2_getChar_3b067 12 = .ok (.invokestatic 48, 3) := by decide +kernel
theorem dJ2_getChar_3b067_15 : decode cJ2_getChar_3b067 15 = .ok (.if_icmp .lt 13, 3) := by decide +kernel
theorem dJ2_getChar_3b067_18 : decode cJ2_getChar_3b067 18 = .ok (.new 52, 3) := by decide +kernel
theorem dJ2_getChar_3b067_21 : decode cJ2_getChar_3b067 21 = .ok (.dup, 1) := by decide +kernel
theorem dJ2_getChar_3b067_22 : decode cJ2_getChar_3b067 22 = .ok (.ldc 54, 2) := by decide +kernel
theorem dJ2_getChar_3b067_24 : decode cJ2_getChar_3b067 24 = .ok (.invokespecial 56, 3) := by decide +kernel
theorem dJ2_getChar_3b067_27 : decode cJ2_getChar_3b067 27 = .ok (.athrow, 1) := by decide +kernel
theorem dJ2_getChar_3b067_28 : decode cJ2_getChar_3b067 28 = .ok (.iload_n 1, 1) := by decide +kernel
theorem dJ2_getChar_3b067_29 : decode cJ2_getChar_3b067 29 = .ok (.iconst 1, 1) := by decide +kernel
theorem dJ2_getChar_3b067_30 : decode cJ2_getChar_3b067 30 = .ok (.ishl, 1) := by decide +kernel
theorem dJ2_getChar_3b067_31 : decode cJ2_getChar_3b067 31 = .ok (.istore_n 1, 1) := by decide +kernel
theorem dJ2_getChar_3b067_32 : decode cJ2_getChar_3b067 32 = .ok (.aload_n 0, 1) := by decide +kernel
theorem dJ2_getChar_3b067_33 : decode cJ2_getChar_3b067 33 = .ok (.iload_n 1, 1) := by decide +kernel
theorem dJ2_getChar_3b067_34 : decode cJ2_getChar_3b067 34 = .ok (.iinc 1 1, 3) := by decide +kernel
theorem dJ2_getChar_3b067_37 : decode cJ2_getChar_3b067 37 = .ok (.baload, 1) := by decide +kernel
theorem dJ2_getChar_3b067_38 : decode cJ2_getChar_3b067 38 = .ok (.sipush 255, 3) := by decide +kernel
theorem dJ2_getChar_3b067_41 : decode cJ2_getChar_3b067 41 = .ok (.iand, 1) := by decide +kernel
theorem dJ2_getChar_3b067_42 : decode cJ2_getChar_3b067 42 = .ok (.getstatic 59, 3) := by decide +kernel
theorem dJ2_getChar_3b067_45 : decode cJ2_getChar_3b067 45 = .ok (.ishl, 1) := by decide +kernel
theorem dJ2_getChar_3b067_46 : decode cJ2_getChar_3b067 46 = .ok (.aload_n 0, 1) := by decide +kernel
theorem dJ2_getChar_3b067_47 : decode cJ2_getChar_3b067 47 = .ok (.iload_n 1, 1) := by decide +kernel
theorem dJ2_getChar_3b067_48 : decode cJ2_getChar_3b067 48 = .ok (.baload, 1) := by decide +kernel
theorem dJ2_getChar_3b067_49 : decode cJ2_getChar_3b067 49 = .ok (.sipush 255, 3) := by decide +kernel
theorem dJ2_getChar_3b067_52 : decode cJ2_getChar_3b067 52 = .ok (.iand, 1) := by decide +kernel
theorem dJ2_getChar_3b067_53 : decode cJ2_getChar_3b067 53 = .ok (.getstatic 63, 3) := by decide +kernel
theorem dJ2_getChar_3b067_56 : decode cJ2_getChar_3b067 56 = .ok (.ishl, 1) := by decide +kernel
theorem dJ2_getChar_3b067_57 : decode cJ2_getChar_3b067 57 = .ok (.ior, 1) := by decide +kernel
theorem dJ2_getChar_3b067_58 : decode cJ2_getChar_3b067 58 = .ok (.i2c, 1) := by decide +kernel
theorem dJ2_getChar_3b067_59 : decode cJ2_getChar_3b067 59 = .ok (.ireturn, 1) := by decide +kernel
theorem dJ2_length_9d52b_0 : decode cJ2_length_9d52b 0 = .ok (.aload_n 0, 1) := by decide +kernel
theorem dJ2_length_9d52b_1 : decode cJ2_length_9d52b 1 = .ok (.arraylength, 1) := by decide +kernel
theorem dJ2_length_9d52b_2 : decode cJ2_length_9d52b 2 = .ok (.iconst 1, 1) := by decide +kernel
theorem dJ2_length_9d52b_3 : decode cJ2_length_9d52b 3 = .ok (.ishr, 1) := by decide +kernel
theorem dJ2_length_9d52b_4 : decode cJ2_length_9d52b 4 = .ok (.ireturn, 1) := by decide +kernel
set_option maxRecDepth 20000 in
theorem ggJ2_charAt_3b067_J2_checkIndex_2214a : GoodIn wsJ2_charAt_3b067 wsJ2_checkIndex_2214a := goodIn_r _ [4, 5, 6, 3, 7, 8, 9, 10, 11, 12, 13, 14, 15, 16] (by decide +kernel) (by decide +kernel)
set_option maxRecDepth 20000 in
theorem gJ2_charAt_3b067_J2_checkIndex_2214a : GoodIn wsJ2_charAt_3b067 (va_wsS RJ2 67 yJ2_checkIndex_2214a wsJ2_checkIndex_2214a) := goodIn_app (goodIn_of _ (by decide +kernel)) ggJ2_charAt_3b067_J2_checkIndex_2214a
set_option maxRecDepth 20000 in
theorem ggJ2_charAt_3b067_J2_getChar_3b067 : GoodIn wsJ2_charAt_3b067 wsJ2_getChar_3b067 := goodIn_r _ [19, 20, 21, 22, 5, 6, 3, 7] (by decide +kernel) (by decide +kernel)
set_option maxRecDepth 20000 in
theorem gJ2_charAt_3b067_J2_getChar_3b067 : GoodIn wsJ2_charAt_3b067 (va_wsS RJ2 71 yJ2_getChar_3b067 wsJ2_getChar_3b067) := goodIn_app (goodIn_of _ (by decide +kernel)) ggJ2_charAt_3b067_J2_getChar_3b067
theorem dJ2_charAt_3b067_0 : decode cJ2_charAt_3b067 0 = .ok (.iload_n 1, 1) := by decide +kernel
theorem dJ2_charAt_3b067_1 : decode cJ2_charAt_3b067 1 = .ok (.aload_n 0, 1) := by decide +kernel
theorem dJ2_charAt_3b067_2 : decode cJ2_charAt_3b067 2 = .ok (.invokestatic 67, 3) := by decide +kernel
theorem dJ2_charAt_3b067_5 : decode cJ2_charAt_3b067 5 = .ok (.aload_n 0, 1) := by decide +kernel
theorem dJ2_charAt_3b067_6 : decode cJ2_charAt_3b067 6 = .ok (.iload_n 1, 1) := by decide +kernel
theorem dJ2_charAt_3b067_7 : decode cJ2_charAt_3b067 7 = .ok (.invokestatic 71, 3) := by decide +kernel
theorem dJ2_charAt_3b067_10 : decode cJ2_charAt_3b067 10 = .ok (.ireturn, 1) := by decide +kernel
set_option maxRecDepth 20000 in
theorem ggJ2_checkIndex_2214a_J2_length_9d52b : GoodIn wsJ2_checkIndex_2214a wsJ2_length_9d52b := goodIn_r _ [4] (by decide +kernel) (by decide +kernel)
set_option maxRecDepth 20000 in
theorem gJ2_checkIndex_2214a_J2_length_9d52b : GoodIn wsJ2_checkIndex_2214a (va_wsS RJ2 48 yJ2_length_9d52b wsJ2_length_9d52b) := goodIn_app (goodIn_of _ (by decide +kernel)) ggJ2_checkIndex_2214a_J2_length_9d52b
set_option maxRecDepth 20000 in
theorem ggJ2_checkIndex_2214a_J0_checkIndex_df160 : GoodIn wsJ2_checkIndex_2214a wsJ0_checkIndex_df160 := goodIn_r _ [8, 9, 10, 11, 12, 13] (by decide +kernel) (by decide +kernel)
set_option maxRecDepth 20000 in
theorem gJ2_checkIndex_2214a_J0_checkIndex_df160 : GoodIn wsJ2_checkIndex_2214a (va_wsS RJ2 414 yJ0_checkIndex_df160 wsJ0_checkIndex_df160) := goodIn_app (goodIn_of _ (by decide +kernel)) ggJ2_checkIndex_2214a_J0_checkIndex_df160
theorem dJ2_checkIndex_2214a_0 : decode cJ2_checkIndex_2214a 0 = .ok (.iload_n 0, 1) := by decide +kernel
theorem dJ2_checkIndex_2214a_1 : decode cJ2_checkIndex_2214a 1 = .ok (.aload_n 1, 1) := by decide +kernel
theorem dJ2_checkIndex_2214a_2 : decode cJ2_checkIndex_2214a 2 = .ok (.invokestatic 48, 3) := by decide +kernel
theorem dJ2_checkIndex_2214a_5 : decode cJ2_checkIndex_2214a 5 = .ok (.invokestatic 414, 3) := by decide +kernel
theorem dJ2_checkIndex_2214a_8 : decode cJ2_checkIndex_2214a 8 = .ok (.return_, 1) := by decide +kernel
theorem dJ3_checkIndex_8e157_0 : decode cJ3_checkIndex_8e157 0 = .ok (.iload_n 0, 1) := by decide +kernel
theorem dJ3_checkIndex_8e157_1 : decode cJ3_checkIndex_8e157 1 = .ok (.ifCond .lt 8, 3) := by decide +kernel
theorem dJ3_checkIndex_8e157_4 : decode cJ3_checkIndex_8e157 4 = .ok (.iload_n 0, 1) := by decide +kernel
theorem dJ3_checkIndex_8e157_5 : decode cJ3_checkIndex_8e157 5 = .ok (.iload_n 1, 1) := by decide +kernel
theorem dJ3_checkIndex_8e157_6 : decode cJ3_checkIndex_8e157 6 = .ok (.if_icmp .lt 10, 3) := by decide +kernel
theorem dJ3_checkIndex_8e157_9 : decode cJ3_checkIndex_8e157 9 = .ok (.aload_n 2, 1) := by decide +kernel
theorem dJ3_checkIndex_8e157_10 : decode cJ3_checkIndex_8e157 10 = .ok (.iload_n 0, 1) := by decide +kernel
theorem dJ3_checkIndex_8e157_11 : decode cJ3_checkIndex_8e157 11 = .ok (.iload_n 1, 1) := by decide +kernel
theorem dJ3_checkIndex_8e157_12 : decode cJ3_checkIndex_8e157 12 = .ok (.invokestatic 95, 3) := by decide +kernel
theorem dJ3_checkIndex_8e157_15 : decode cJ3_checkIndex_8e157 15 = .ok (.athrow, 1) := by decide +kernel
theorem dJ3_checkIndex_8e157_16 : decode cJ3_checkIndex_8e157 16 = .ok (.iload_n 0, 1) := by decide +kernel
theorem dJ3_checkIndex_8e157_17 : decode cJ3_checkIndex_8e157 17 = .ok (.ireturn, 1) := by decide +kernel
end
section
set_option maxRecDepth 20000 in
theorem ggX6_init_X3_init : GoodIn wsX6_init wsX3_init := goodIn_r _ [29, 30, 2, 3, 31, 32, 33, 34, 35, 36, 91] (by decide +kernel) (by decide +kernel)
set_option maxRecDepth 20000 in
theorem gX6_init_X3_init : GoodIn wsX6_init (wsX3_init) := ggX6_init_X3_init
set_option maxRecDepth 20000 in
theorem ggX6_init_X0_init : GoodIn wsX6_init wsX0_init := goodIn_r _ [39, 40, 2, 3, 41, 31, 42, 43, 103, 104] (by decide +kernel) (by decide +kernel)
set_option maxRecDepth 20000 in
theorem gX6_init_X0_init : GoodIn wsX6_init (wsX0_init) := ggX6_init_X0_init
set_option maxRecDepth 20000 in
theorem ggX6_init_X4_init : GoodIn wsX6_init wsX4_init := goodIn_r _ [46, 47, 2, 3, 48, 49, 31, 50, 51, 52, 53, 105, 106, 107, 108, 109] (by decide +kernel) (by decide +kernel)
set_option maxRecDepth 20000 in
theorem gX6_init_X4_init : GoodIn wsX6_init (wsX4_init) := ggX6_init_X4_init
set_option maxRecDepth 20000 in
theorem ggX6_init_X1_init : GoodIn wsX6_init wsX1_init := goodIn_r _ [56, 57, 2, 3, 58, 59, 60, 61, 62, 31, 63, 64, 65, 66, 67, 68, 69, 70, 71, 72, 73, 74, 75, 76, 77, 78, 79, 80, 81, 82, 83, 84, 85, 86, 87, 88, 89, 90, 110, 111, 112, 113, 114, 115, 116, 117, 118, 119, 120, 121, 122, 123, 124, 125, 126, 127, 128] (by decide +kernel) (by decide +kernel)
set_option maxRecDepth 20000 in
theorem gX6_init_X1_init : GoodIn wsX6_init (wsX1_init) := ggX6_init_X1_init
theorem dX6_init_0 : decode cX6_init 0 = .ok (.aload_n 0, 1) := by decide +kernel
theorem dX6_init_1 : decode cX6_init 1 = .ok (.invokespecial 3, 3) := by decide +kernel
theorem dX6_init_4 : decode cX6_init 4 = .ok (.aload_n 0, 1) := by decide +kernel
theorem dX6_init_5 : decode cX6_init 5 = .ok (.new 9, 3) := by decide +kernel
theorem dX6_init_8 : decode cX6_init 8 = .ok (.dup, 1) := by decide +kernel
theorem dX6_init_9 : decode cX6_init 9 = .ok (.invokespecial 11, 3) := by decide +kernel
theorem dX6_init_12 : decode cX6_init 12 = .ok (.putfield 12, 3) := by decide +kernel
theorem dX6_init_15 : decode cX6_init 15 = .ok (.aload_n 0, 1) := by decide +kernel
theorem dX6_init_16 : decode cX6_init 16 = .ok (.new 16, 3) := by decide +kernel
theorem dX6_init_19 : decode cX6_init 19 = .ok (.dup, 1) := by decide +kernel
theorem dX6_init_20 : decode cX6_init 20 = .ok (.invokespecial 18, 3) := by decide +kernel
theorem dX6_init_23 : decode cX6_init 23 = .ok (.putfield 19, 3) := by decide +kernel
theorem dX6_init_26 : decode cX6_init 26 = .ok (.aload_n 0, 1) := by decide +kernel
theorem dX6_init_27 : decode cX6_init 27 = .ok (.new 23, 3) := by decide +kernel
theorem dX6_init_30 : decode cX6_init 30 = .ok (.dup, 1) := by decide +kernel
theorem dX6_init_31 : decode cX6_init 31 = .ok (.invokespecial 25, 3) := by decide +kernel
theorem dX6_init_34 : decode cX6_init 34 = .ok (.putfield 26, 3) := by decide +kernel
theorem dX6_init_37 : decode cX6_init 37 = .ok (.aload_n 0, 1) := by decide +kernel
theorem dX6_init_38 : decode cX6_init 38 = .ok (.new 30, 3) := by decide +kernel
theorem dX6_init_41 : decode cX6_init 41 = .ok (.dup, 1) := by decide +kernel
theorem dX6_init_42 : decode cX6_init 42 = .ok (.invokespecial 32, 3) := by decide +kernel
theorem dX6_init_45 : decode cX6_init 45 = .ok (.putfield 33, 3) := by decide +kernel
theorem dX6_init_48 : decode cX6_init 48 = .ok (.aload_n 0, 1) := by decide +kernel
theorem dX6_init_49 : decode cX6_init 49 = .ok (.new 30, 3) := by decide +kernel
theorem dX6_init_52 : decode cX6_init 52 = .ok (.dup, 1) := by decide +kernel
theorem dX6_init_53 : decode cX6_init 53 = .ok (.invokespecial 32, 3) := by decide +kernel
theorem dX6_init_56 : decode cX6_init 56 = .ok (.putfield 37, 3) := by decide +kernel
theorem dX6_init_59 : decode cX6_init 59 = .ok (.aload_n 0, 1) := by decide +kernel
theorem dX6_init_60 : decode cX6_init 60 = .ok (.new 30, 3) := by decide +kernel
theorem dX6_init_63 : decode cX6_init 63 = .ok (.dup, 1) := by decide +kernel
theorem dX6_init_64 : decode cX6_init 64 = .ok (.invokespecial 32, 3) := by decide +kernel
theorem dX6_init_67 : decode cX6_init 67 = .ok (.putfield 40, 3) := by decide +kernel
theorem dX6_init_70 : decode cX6_init 70 = .ok (.aload_n 0, 1) := by decide +kernel
theorem dX6_init_71 : decode cX6_init 71 = .ok (.iconst 0, 1) := by decide +kernel
theorem dX6_init_72 : decode cX6_init 72 = .ok (.putfield 43, 3) := by decide +kernel
theorem dX6_init_75 : decode cX6_init 75 = .ok (.aload_n 0, 1) := by decide +kernel
theorem dX6_init_76 : decode cX6_init 76 = .ok (.new 9, 3) := by decide +kernel
theorem dX6_init_79 : decode cX6_init 79 = .ok (.dup, 1) := by decide +kernel
theorem dX6_init_80 : decode cX6_init 80 = .ok (.invokespecial 11, 3) := by decide +kernel
theorem dX6_init_83 : decode cX6_init 83 = .ok (.putfield 47, 3) := by decide +kernel
theorem dX6_init_86 : decode cX6_init 86 = .ok (.aload_n 0, 1) := by decide +kernel
theorem dX6_init_87 : decode cX6_init 87 = .ok (.new 9, 3) := by decide +kernel
theorem dX6_init_90 : decode cX6_init 90 = .ok (.dup, 1) := by decide +kernel
theorem dX6_init_91 : decode cX6_init 91 = .ok (.invokespecial 11, 3) := by decide +kernel
theorem dX6_init_94 : decode cX6_init 94 = .ok (.putfield 50, 3) := by decide +kernel
theorem dX6_init_97 : decode cX6_init 97 = .ok (.aload_n 0, 1) := by decide +kernel
theorem dX6_init_98 : decode cX6_init 98 = .ok (.new 30, 3) := by decide +kernel
theorem dX6_init_101 : decode cX6_init 101 = .ok (.dup, 1) := by decide +kernel
theorem dX6_init_102 : decode cX6_init 102 = .ok (.invokespecial 32, 3) := by decide +kernel
theorem dX6_init_105 : decode cX6_init 105 = .ok (.putfield 53, 3) := by decide +kernel
theorem dX6_init_108 : decode cX6_init 108 = .ok (.aload_n 0, 1) := by decide +kernel
theorem dX6_init_109 : decode cX6_init 109 = .ok (.new 30, 3) := by decide +kernel
theorem dX6_init_112 : decode cX6_init 112 = .ok (.dup, 1) := by decide +kernel
theorem dX6_init_113 : decode cX6_init 113 = .ok (.invokespecial 32, 3) := by decide +kernel
theorem dX6_init_116 : decode cX6_init 116 = .ok (.putfield 56, 3) := by decide +kernel
theorem dX6_init_119 : decode cX6_init 119 = .ok (.return_, 1) := by decide +kernel
set_option maxRecDepth 20000 in
theorem ggX6_setParameter_X6_allows : GoodIn wsX6_setParameter wsX6_allows := goodIn_r _ [7, 8, 9, 10, 11, 6, 12] (by decide +kernel) (by decide +kernel)
set_option maxRecDepth 20000 in
theorem gX6_setParameter_X6_allows : GoodIn wsX6_setParameter (va_wsS RX6 59 yX6_allows wsX6_allows) := goodIn_app (goodIn_of _ (by decide +kernel)) ggX6_setParameter_X6_allows
set_option maxRecDepth 20000 in
theorem ggX6_setParameter_X3_get : GoodIn wsX6_setParameter wsX3_get := goodIn_r _ [17, 18, 11, 6, 12, 49] (by decide +kernel) (by decide +kernel)
set_option maxRecDepth 20000 in
theorem gX6_setParameter_X3_get : GoodIn wsX6_setParameter (wsV RX6 64 RX3 yX3_get wsX3_get) := goodIn_app (goodIn_of _ (by decide +kernel)) ggX6_setParameter_X3_get
set_option maxRecDepth 20000 in
theorem ggX6_setParameter_X0_keep : GoodIn wsX6_setParameter wsX0_keep := goodIn_r _ [23, 24, 25, 26, 27, 28, 29, 30, 31, 32, 22, 33, 50, 51, 49] (by decide +kernel) (by decide +kernel)
set_option maxRecDepth 20000 in
theorem gX6_setParameter_X0_keep : GoodIn wsX6_setParameter (wsV RX6 68 RX0 yX0_keep wsX0_keep) := goodIn_app (goodIn_of _ (by decide +kernel)) ggX6_setParameter_X0_keep
set_option maxRecDepth 20000 in
theorem ggX6_setParameter_X3_set : GoodIn wsX6_setParameter wsX3_set := goodIn_r _ [37, 18, 11, 6, 12, 49] (by decide +kernel) (by decide +kernel)
set_option maxRecDepth 20000 in
theorem gX6_setParameter_X3_set : GoodIn wsX6_setParameter (wsV RX6 72 RX3 yX3_set wsX3_set) := goodIn_app (goodIn_of _ (by decide +kernel)) ggX6_setParameter_X3_set
theorem dX6_setParameter_0 : decode cX6_setParameter 0 = .ok (.iload_n 1, 1) := by decide +kernel
theorem dX6_setParameter_1 : decode cX6_setParameter 1 = .ok (.iload_n 2, 1) := by decide +kernel
theorem dX6_setParameter_2 : decode cX6_setParameter 2 = .ok (.invokestatic 59, 3) := by decide +kernel
theorem dX6_setParameter_5 : decode cX6_setParameter 5 = .ok (.ifCond .ne 6, 3) := by decide +kernel
theorem dX6_setParameter_8 : decode cX6_setParameter 8 = .ok (.ldc 63, 2) := by decide +kernel
theorem dX6_setParameter_10 : decode cX6_setParameter 10 = .ok (.ireturn, 1) := by decide +kernel
theorem dX6_setParameter_11 : decode cX6_setParameter 11 = .ok (.aload_n 0, 1) := by decide +kernel
theorem dX6_setParameter_12 : decode cX6_setParameter 12 = .ok (.getfield 12, 3) := by decide +kernel
theorem dX6_setParameter_15 : decode cX6_setParameter 15 = .ok (.iload_n 1, 1) := by decide +kernel
theorem dX6_setParameter_16 : decode cX6_setParameter 16 = .ok (.invokevirtual 64, 3) := by decide +kernel
theorem dX6_setParameter_19 : decode cX6_setParameter 19 = .ok (.istore_n 3, 1) := by decide +kernel
theorem dX6_setParameter_20 : decode cX6_setParameter 20 = .ok (.aload_n 0, 1) := by decide +kernel
theorem dX6_setParameter_21 : decode cX6_setParameter 21 = .ok (.getfield 19, 3) := by decide +kernel
theorem dX6_setParameter_24 : decode cX6_setParameter 24 = .ok (.aload_n 0, 1) := by decide +kernel
theorem dX6_setParameter_25 : decode cX6_setParameter 25 = .ok (.getfield 12, 3) := by decide +kernel
theorem dX6_setParameter_28 : decode cX6_setParameter 28 = .ok (.invokevirtual 68, 3) := by decide +kernel
theorem dX6_setParameter_31 : decode cX6_setParameter 31 = .ok (.aload_n 0, 1) := by decide +kernel
theorem dX6_setParameter_32 : decode cX6_setParameter 32 = .ok (.getfield 12, 3) := by decide +kernel
theorem dX6_setParameter_35 : decode cX6_setParameter 35 = .ok (.iload_n 1, 1) := by decide +kernel
theorem dX6_setParameter_36 : decode cX6_setParameter 36 = .ok (.iload_n 2, 1) := by decide +kernel
theorem dX6_setParameter_37 : decode cX6_setParameter 37 = .ok (.invokevirtual 72, 3) := by decide +kernel
theorem dX6_setParameter_40 : decode cX6_setParameter 40 = .ok (.iload_n 3, 1) := by decide +kernel
theorem dX6_setParameter_41 : decode cX6_setParameter 41 = .ok (.ireturn, 1) := by decide +kernel
set_option maxRecDepth 20000 in
theorem ggX6_parameter_X6_isParameter : GoodIn wsX6_parameter wsX6_isParameter := goodIn_r _ [6] (by decide +kernel) (by decide +kernel)
set_option maxRecDepth 20000 in
theorem gX6_parameter_X6_isParameter : GoodIn wsX6_parameter (va_wsS RX6 76 yX6_isParameter wsX6_isParameter) := goodIn_app (goodIn_of _ (by decide +kernel)) ggX6_parameter_X6_isParameter
set_option maxRecDepth 20000 in
theorem ggX6_parameter_X3_get : GoodIn wsX6_parameter wsX3_get := goodIn_r _ [11, 12, 4, 5, 6, 24] (by decide +kernel) (by decide +kernel)
set_option maxRecDepth 20000 in
theorem gX6_parameter_X3_get : GoodIn wsX6_parameter (wsV RX6 64 RX3 yX3_get wsX3_get) := goodIn_app (goodIn_of _ (by decide +kernel)) ggX6_parameter_X3_get
theorem dX6_parameter_0 : decode cX6_parameter 0 = .ok (.iload_n 1, 1) := by decide +kernel
theorem dX6_parameter_1 : decode cX6_parameter 1 = .ok (.invokestatic 76, 3) := by decide +kernel
theorem dX6_parameter_4 : decode cX6_parameter 4 = .ok (.ifCond .eq 14, 3) := by decide +kernel
theorem dX6_parameter_7 : decode cX6_parameter 7 = .ok (.aload_n 0, 1) := by decide +kernel
theorem dX6_parameter_8 : decode cX6_parameter 8 = .ok (.getfield 12, 3) := by decide +kernel
theorem dX6_parameter_11 : decode cX6_parameter 11 = .ok (.iload_n 1, 1) := by decide +kernel
theorem dX6_parameter_12 : decode cX6_parameter 12 = .ok (.invokevirtual 64, 3) := by decide +kernel
theorem dX6_parameter_15 : decode cX6_parameter 15 = .ok (.goto 5, 3) := by decide +kernel
theorem dX6_parameter_18 : decode cX6_parameter 18 = .ok (.ldc 63, 2) := by decide +kernel
theorem dX6_parameter_20 : decode cX6_parameter 20 = .ok (.ireturn, 1) := by decide +kernel
set_option maxRecDepth 20000 in
theorem ggX6_nameAt_X6_isParameter : GoodIn wsX6_nameAt wsX6_isParameter := goodIn_r _ [6] (by decide +kernel) (by decide +kernel)
set_option maxRecDepth 20000 in
theorem gX6_nameAt_X6_isParameter : GoodIn wsX6_nameAt (va_wsS RX6 76 yX6_isParameter wsX6_isParameter) := goodIn_app (goodIn_of _ (by decide +kernel)) ggX6_nameAt_X6_isParameter
set_option maxRecDepth 20000 in
theorem ggX6_nameAt_X6_nameOf : GoodIn wsX6_nameAt wsX6_nameOf := goodIn_r _ [9] (by decide +kernel) (by decide +kernel)
set_option maxRecDepth 20000 in
theorem gX6_nameAt_X6_nameOf : GoodIn wsX6_nameAt (va_wsS RX6 80 yX6_nameOf wsX6_nameOf) := goodIn_app (goodIn_of _ (by decide +kernel)) ggX6_nameAt_X6_nameOf
set_option maxRecDepth 20000 in
theorem ggX6_nameAt_J0_length_8abf5 : GoodIn wsX6_nameAt wsJ0_length_8abf5 := goodIn_r _ [14, 15, 16, 17, 18, 13, 19, 20, 21] (by decide +kernel) (by decide +kernel)
set_option maxRecDepth 20000 in
theorem gX6_nameAt_J0_length_8abf5 : GoodIn wsX6_nameAt (wsV RX6 84 RJ0 yJ0_length_8abf5 wsJ0_length_8abf5) := goodIn_app (goodIn_of _ (by decide +kernel)) ggX6_nameAt_J0_length_8abf5
set_option maxRecDepth 20000 in
theorem ggX6_nameAt_J0_charAt_5068e : GoodIn wsX6_nameAt wsJ0_charAt_5068e := goodIn_r _ [25, 15, 26, 27, 28, 13, 29, 20, 21, 30, 31, 32, 33, 34, 35, 36, 37, 38, 39, 40, 41, 42, 43, 44, 45, 46, 47, 48, 49, 50, 51, 52, 53, 54, 55, 56, 57, 58] (by decide +kernel) (by decide +kernel)
set_option maxRecDepth 20000 in
theorem gX6_nameAt_J0_charAt_5068e : GoodIn wsX6_nameAt (wsV RX6 90 RJ0 yJ0_charAt_5068e wsJ0_charAt_5068e) := goodIn_app (goodIn_of _ (by decide +kernel)) ggX6_nameAt_J0_charAt_5068e
theorem dX6_nameAt_0 : decode cX6_nameAt 0 = .ok (.iload_n 1, 1) := by decide +kernel
theorem dX6_nameAt_1 : decode cX6_nameAt 1 = .ok (.invokestatic 76, 3) := by decide +kernel
theorem dX6_nameAt_4 : decode cX6_nameAt 4 = .ok (.ifCond .eq 7, 3) := by decide +kernel
theorem dX6_nameAt_7 : decode cX6_nameAt 7 = .ok (.iload_n 2, 1) := by decide +kernel
theorem dX6_nameAt_8 : decode cX6_nameAt 8 = .ok (.ifCond .ge 6, 3) := by decide +kernel
theorem dX6_nameAt_11 : decode cX6_nameAt 11 = .ok (.ldc 63, 2) := by decide +kernel
theorem dX6_nameAt_13 : decode cX6_nameAt 13 = .ok (.ireturn, 1) := by decide +kernel
theorem dX6_nameAt_14 : decode cX6_nameAt 14 = .ok (.iload_n 1, 1) := by decide +kernel
theorem dX6_nameAt_15 : decode cX6_nameAt 15 = .ok (.invokestatic 80, 3) := by decide +kernel
theorem dX6_nameAt_18 : decode cX6_nameAt 18 = .ok (.astore_n 3, 1) := by decide +kernel
theorem dX6_nameAt_19 : decode cX6_nameAt 19 = .ok (.iload_n 2, 1) := by decide +kernel
theorem dX6_nameAt_20 : decode cX6_nameAt 20 = .ok (.aload_n 3, 1) := by decide +kernel
theorem dX6_nameAt_21 : decode cX6_nameAt 21 = .ok (.invokevirtual 84, 3) := by decide +kernel
theorem dX6_nameAt_24 : decode cX6_nameAt 24 = .ok (.if_icmp .ge 11, 3) := by decide +kernel
theorem dX6_nameAt_27 : decode cX6_nameAt 27 = .ok (.aload_n 3, 1) := by decide +kernel
theorem dX6_nameAt_28 : decode cX6_nameAt 28 = .ok (.iload_n 2, 1) := by decide +kernel
theorem dX6_nameAt_29 : decode cX6_nameAt 29 = .ok (.invokevirtual 90, 3) := by decide +kernel
theorem dX6_nameAt_32 : decode cX6_nameAt 32 = .ok (.goto 5, 3) := by decide +kernel
theorem dX6_nameAt_35 : decode cX6_nameAt 35 = .ok (.ldc 94, 2) := by decide +kernel
theorem dX6_nameAt_37 : decode cX6_nameAt 37 = .ok (.ireturn, 1) := by decide +kernel
set_option maxRecDepth 20000 in
theorem ggX6_undo_X0_takeBack : GoodIn wsX6_undo wsX0_takeBack := goodIn_r _ [9, 10, 11, 12, 13, 14, 15, 27, 28, 29] (by decide +kernel) (by decide +kernel)
set_option maxRecDepth 20000 in
theorem gX6_undo_X0_takeBack : GoodIn wsX6_undo (wsV RX6 99 RX0 yX0_takeBack wsX0_takeBack) := goodIn_app (goodIn_of _ (by decide +kernel)) ggX6_undo_X0_takeBack
theorem dX6_undo_0 : decode cX6_undo 0 = .ok (.aload_n 0, 1) := by decide +kernel
theorem dX6_undo_1 : decode cX6_undo 1 = .ok (.getfield 19, 3) := by decide +kernel
theorem dX6_undo_4 : decode cX6_undo 4 = .ok (.getfield 95, 3) := by decide +kernel
theorem dX6_undo_7 : decode cX6_undo 7 = .ok (.ifCond .ne 6, 3) := by decide +kernel
theorem dX6_undo_10 : decode cX6_undo 10 = .ok (.ldc 98, 2) := by decide +kernel
theorem dX6_undo_12 : decode cX6_undo 12 = .ok (.ireturn, 1) := by decide +kernel
theorem dX6_undo_13 : decode cX6_undo 13 = .ok (.aload_n 0, 1) := by decide +kernel
theorem dX6_undo_14 : decode cX6_undo 14 = .ok (.getfield 19, 3) := by decide +kernel
theorem dX6_undo_17 : decode cX6_undo 17 = .ok (.aload_n 0, 1) := by decide +kernel
theorem dX6_undo_18 : decode cX6_undo 18 = .ok (.getfield 12, 3) := by decide +kernel
theorem dX6_undo_21 : decode cX6_undo 21 = .ok (.invokevirtual 99, 3) := by decide +kernel
theorem dX6_undo_24 : decode cX6_undo 24 = .ok (.aload_n 0, 1) := by decide +kernel
theorem dX6_undo_25 : decode cX6_undo 25 = .ok (.getfield 19, 3) := by decide +kernel
theorem dX6_undo_28 : decode cX6_undo 28 = .ok (.getfield 95, 3) := by decide +kernel
theorem dX6_undo_31 : decode cX6_undo 31 = .ok (.ireturn, 1) := by decide +kernel
set_option maxRecDepth 20000 in
theorem ggX6_setSetpoint_X6_isLevel : GoodIn wsX6_setSetpoint wsX6_isLevel := goodIn_r _ [6, 7, 8] (by decide +kernel) (by decide +kernel)
set_option maxRecDepth 20000 in
theorem gX6_setSetpoint_X6_isLevel : GoodIn wsX6_setSetpoint (va_wsS RX6 102 yX6_isLevel wsX6_isLevel) := goodIn_app (goodIn_of _ (by decide +kernel)) ggX6_setSetpoint_X6_isLevel
set_option maxRecDepth 20000 in
theorem ggX6_setSetpoint_X1_changeSetpoint : GoodIn wsX6_setSetpoint wsX1_changeSetpoint := goodIn_r _ [13, 14, 15, 16, 17, 18, 19, 20, 21, 22, 23, 24, 25, 37, 38, 39, 40, 41, 42, 43, 44, 45, 46, 47, 48, 49, 50] (by decide +kernel) (by decide +kernel)
set_option maxRecDepth 20000 in
theorem gX6_setSetpoint_X1_changeSetpoint : GoodIn wsX6_setSetpoint (wsV RX6 105 RX1 yX1_changeSetpoint wsX1_changeSetpoint) := goodIn_app (goodIn_of _ (by decide +kernel)) ggX6_setSetpoint_X1_changeSetpoint
theorem dX6_setSetpoint_0 : decode cX6_setSetpoint 0 = .ok (.iload_n 1, 1) := by decide +kernel
theorem dX6_setSetpoint_1 : decode cX6_setSetpoint 1 = .ok (.invokestatic 102, 3) := by decide +kernel
theorem dX6_setSetpoint_4 : decode cX6_setSetpoint 4 = .ok (.ifCond .eq 14, 3) := by decide +kernel
theorem dX6_setSetpoint_7 : decode cX6_setSetpoint 7 = .ok (.aload_n 0, 1) := by decide +kernel
theorem dX6_setSetpoint_8 : decode cX6_setSetpoint 8 = .ok (.getfield 33, 3) := by decide +kernel
theorem dX6_setSetpoint_11 : decode cX6_setSetpoint 11 = .ok (.iload_n 1, 1) := by decide +kernel
theorem dX6_setSetpoint_12 : decode cX6_setSetpoint 12 = .ok (.invokevirtual 105, 3) := by decide +kernel
theorem dX6_setSetpoint_15 : decode cX6_setSetpoint 15 = .ok (.goto 5, 3) := by decide +kernel
theorem dX6_setSetpoint_18 : decode cX6_setSetpoint 18 = .ok (.ldc 63, 2) := by decide +kernel
theorem dX6_setSetpoint_20 : decode cX6_setSetpoint 20 = .ok (.ireturn, 1) := by decide +kernel
set_option maxRecDepth 20000 in
theorem ggX6_setLoad_X6_isLevel : GoodIn wsX6_setLoad wsX6_isLevel := goodIn_r _ [7, 8, 9] (by decide +kernel) (by decide +kernel)
set_option maxRecDepth 20000 in
theorem gX6_setLoad_X6_isLevel : GoodIn wsX6_setLoad (va_wsS RX6 102 yX6_isLevel wsX6_isLevel) := goodIn_app (goodIn_of _ (by decide +kernel)) ggX6_setLoad_X6_isLevel
theorem dX6_setLoad_0 : decode cX6_setLoad 0 = .ok (.iload_n 1, 1) := by decide +kernel
theorem dX6_setLoad_1 : decode cX6_setLoad 1 = .ok (.invokestatic 102, 3) := by decide +kernel
theorem dX6_setLoad_4 : decode cX6_setLoad 4 = .ok (.ifCond .ne 6, 3) := by decide +kernel
theorem dX6_setLoad_7 : decode cX6_setLoad 7 = .ok (.ldc 63, 2) := by decide +kernel
theorem dX6_setLoad_9 : decode cX6_setLoad 9 = .ok (.ireturn, 1) := by decide +kernel
theorem dX6_setLoad_10 : decode cX6_setLoad 10 = .ok (.aload_n 0, 1) := by decide +kernel
theorem dX6_setLoad_11 : decode cX6_setLoad 11 = .ok (.getfield 33, 3) := by decide +kernel
theorem dX6_setLoad_14 : decode cX6_setLoad 14 = .ok (.getfield 108, 3) := by decide +kernel
theorem dX6_setLoad_17 : decode cX6_setLoad 17 = .ok (.istore_n 2, 1) := by decide +kernel
theorem dX6_setLoad_18 : decode cX6_setLoad 18 = .ok (.aload_n 0, 1) := by decide +kernel
theorem dX6_setLoad_19 : decode cX6_setLoad 19 = .ok (.getfield 33, 3) := by decide +kernel
theorem dX6_setLoad_22 : decode cX6_setLoad 22 = .ok (.iload_n 1, 1) := by decide +kernel
theorem dX6_setLoad_23 : decode cX6_setLoad 23 = .ok (.putfield 108, 3) := by decide +kernel
theorem dX6_setLoad_26 : decode cX6_setLoad 26 = .ok (.iload_n 2, 1) := by decide +kernel
theorem dX6_setLoad_27 : decode cX6_setLoad 27 = .ok (.ireturn, 1) := by decide +kernel
theorem dX6_setSeed_0 : decode cX6_setSeed 0 = .ok (.iload_n 1, 1) := by decide +kernel
theorem dX6_setSeed_1 : decode cX6_setSeed 1 = .ok (.ifCond .lt 10, 3) := by decide +kernel
theorem dX6_setSeed_4 : decode cX6_setSeed 4 = .ok (.iload_n 1, 1) := by decide +kernel
theorem dX6_setSeed_5 : decode cX6_setSeed 5 = .ok (.sipush 9999, 3) := by decide +kernel
theorem dX6_setSeed_8 : decode cX6_setSeed 8 = .ok (.if_icmp .le 6, 3) := by decide +kernel
theorem dX6_setSeed_11 : decode cX6_setSeed 11 = .ok (.ldc 63, 2) := by decide +kernel
theorem dX6_setSeed_13 : decode cX6_setSeed 13 = .ok (.ireturn, 1) := by decide +kernel
theorem dX6_setSeed_14 : decode cX6_setSeed 14 = .ok (.aload_n 0, 1) := by decide +kernel
theorem dX6_setSeed_15 : decode cX6_setSeed 15 = .ok (.getfield 33, 3) := by decide +kernel
theorem dX6_setSeed_18 : decode cX6_setSeed 18 = .ok (.getfield 111, 3) := by decide +kernel
theorem dX6_setSeed_21 : decode cX6_setSeed 21 = .ok (.istore_n 2, 1) := by decide +kernel
theorem dX6_setSeed_22 : decode cX6_setSeed 22 = .ok (.aload_n 0, 1) := by decide +kernel
theorem dX6_setSeed_23 : decode cX6_setSeed 23 = .ok (.getfield 33, 3) := by decide +kernel
theorem dX6_setSeed_26 : decode cX6_setSeed 26 = .ok (.iload_n 1, 1) := by decide +kernel
theorem dX6_setSeed_27 : decode cX6_setSeed 27 = .ok (.putfield 111, 3) := by decide +kernel
theorem dX6_setSeed_30 : decode cX6_setSeed 30 = .ok (.iload_n 2, 1) := by decide +kernel
theorem dX6_setSeed_31 : decode cX6_setSeed 31 = .ok (.ireturn, 1) := by decide +kernel
set_option maxRecDepth 20000 in
theorem ggX6_type_X4_append : GoodIn wsX6_type wsX4_append := goodIn_r _ [9, 10, 11, 23, 24, 25, 26, 27] (by decide +kernel) (by decide +kernel)
set_option maxRecDepth 20000 in
theorem gX6_type_X4_append : GoodIn wsX6_type (wsV RX6 114 RX4 yX4_append wsX4_append) := goodIn_app (goodIn_of _ (by decide +kernel)) ggX6_type_X4_append
theorem dX6_type_0 : decode cX6_type 0 = .ok (.iload_n 1, 1) := by decide +kernel
theorem dX6_type_1 : decode cX6_type 1 = .ok (.bipush 32, 2) := by decide +kernel
theorem dX6_type_3 : decode cX6_type 3 = .ok (.if_icmp .lt 9, 3) := by decide +kernel
theorem dX6_type_6 : decode cX6_type 6 = .ok (.iload_n 1, 1) := by decide +kernel
theorem dX6_type_7 : decode cX6_type 7 = .ok (.bipush 126, 2) := by decide +kernel
theorem dX6_type_9 : decode cX6_type 9 = .ok (.if_icmp .le 6, 3) := by decide +kernel
theorem dX6_type_12 : decode cX6_type 12 = .ok (.ldc 63, 2) := by decide +kernel
theorem dX6_type_14 : decode cX6_type 14 = .ok (.ireturn, 1) := by decide +kernel
theorem dX6_type_15 : decode cX6_type 15 = .ok (.aload_n 0, 1) := by decide +kernel
theorem dX6_type_16 : decode cX6_type 16 = .ok (.getfield 26, 3) := by decide +kernel
theorem dX6_type_19 : decode cX6_type 19 = .ok (.iload_n 1, 1) := by decide +kernel
theorem dX6_type_20 : decode cX6_type 20 = .ok (.i2c, 1) := by decide +kernel
theorem dX6_type_21 : decode cX6_type 21 = .ok (.invokevirtual 114, 3) := by decide +kernel
theorem dX6_type_24 : decode cX6_type 24 = .ok (.ifCond .eq 13, 3) := by decide +kernel
theorem dX6_type_27 : decode cX6_type 27 = .ok (.aload_n 0, 1) := by decide +kernel
theorem dX6_type_28 : decode cX6_type 28 = .ok (.getfield 26, 3) := by decide +kernel
theorem dX6_type_31 : decode cX6_type 31 = .ok (.getfield 118, 3) := by decide +kernel
theorem dX6_type_34 : decode cX6_type 34 = .ok (.goto 5, 3) := by decide +kernel
theorem dX6_type_37 : decode cX6_type 37 = .ok (.ldc 120, 2) := by decide +kernel
theorem dX6_type_39 : decode cX6_type 39 = .ok (.ireturn, 1) := by decide +kernel
theorem dX6_clearText_0 : decode cX6_clearText 0 = .ok (.aload_n 0, 1) := by decide +kernel
theorem dX6_clearText_1 : decode cX6_clearText 1 = .ok (.getfield 26, 3) := by decide +kernel
theorem dX6_clearText_4 : decode cX6_clearText 4 = .ok (.getfield 118, 3) := by decide +kernel
theorem dX6_clearText_7 : decode cX6_clearText 7 = .ok (.istore_n 1, 1) := by decide +kernel
theorem dX6_clearText_8 : decode cX6_clearText 8 = .ok (.aload_n 0, 1) := by decide +kernel
theorem dX6_clearText_9 : decode cX6_clearText 9 = .ok (.getfield 26, 3) := by decide +kernel
theorem dX6_clearText_12 : decode cX6_clearText 12 = .ok (.iconst 0, 1) := by decide +kernel
theorem dX6_clearText_13 : decode cX6_clearText 13 = .ok (.putfield 118, 3) := by decide +kernel
theorem dX6_clearText_16 : decode cX6_clearText 16 = .ok (.iload_n 1, 1) := by decide +kernel
theorem dX6_clearText_17 : decode cX6_clearText 17 = .ok (.ireturn, 1) := by decide +kernel
set_option maxRecDepth 20000 in
theorem ggX6_fault_X4_read : GoodIn wsX6_fault wsX4_read := goodIn_r _ [7, 8, 9, 10, 11, 12, 6, 13, 14, 15, 16, 17, 18, 19, 20, 21, 22, 23, 24, 25, 26, 27, 28, 29, 30, 31, 32, 33, 34, 35, 36, 37, 38, 39, 40, 41, 42, 43, 44, 45, 46, 47, 48, 49, 50, 51, 52, 53, 54, 55, 56, 57, 58, 59, 60, 61, 62, 63, 64, 65, 66, 67, 68, 69, 70, 71, 72, 73, 74, 75, 76, 77, 78, 79, 80, 81, 82, 83, 84, 85, 86, 87, 88, 89, 90, 91, 92, 93, 94, 95, 107, 108, 109, 110, 111] (by decide +kernel) (by decide +kernel)
set_option maxRecDepth 20000 in
theorem gX6_fault_X4_read : GoodIn wsX6_fault (wsV RX6 121 RX4 yX4_read wsX4_read) := goodIn_app (goodIn_of _ (by decide +kernel)) ggX6_fault_X4_read
theorem dX6_fault_0 : decode cX6_fault 0 = .ok (.aload_n 0, 1) := by decide +kernel
theorem dX6_fault_1 : decode cX6_fault 1 = .ok (.getfield 26, 3) := by decide +kernel
theorem dX6_fault_4 : decode cX6_fault 4 = .ok (.invokevirtual 121, 3) := by decide +kernel
theorem dX6_fault_7 : decode cX6_fault 7 = .ok (.istore_n 1, 1) := by decide +kernel
theorem dX6_fault_8 : decode cX6_fault 8 = .ok (.iload_n 1, 1) := by decide +kernel
theorem dX6_fault_9 : decode cX6_fault 9 = .ok (.iconst (-1), 1) := by decide +kernel
theorem dX6_fault_10 : decode cX6_fault 10 = .ok (.if_icmp .ne 8, 3) := by decide +kernel
theorem dX6_fault_13 : decode cX6_fault 13 = .ok (.ldc 94, 2) := by decide +kernel
theorem dX6_fault_15 : decode cX6_fault 15 = .ok (.goto 4, 3) := by decide +kernel
theorem dX6_fault_18 : decode cX6_fault 18 = .ok (.iload_n 1, 1) := by decide +kernel
theorem dX6_fault_19 : decode cX6_fault 19 = .ok (.ireturn, 1) := by decide +kernel
set_option maxRecDepth 20000 in
theorem ggX6_apply_X4_read : GoodIn wsX6_apply wsX4_read := goodIn_r _ [10, 11, 12, 13, 14, 15, 9, 16, 17, 18, 19, 20, 21, 22, 23, 24, 25, 26, 27, 28, 29, 30, 31, 32, 33, 34, 35, 36, 37, 38, 39, 40, 41, 42, 43, 44, 45, 46, 47, 48, 49, 50, 51, 52, 53, 54, 55, 56, 57, 58, 59, 60, 61, 62, 63, 64, 65, 66, 67, 68, 69, 70, 71, 72, 73, 74, 75, 76, 77, 78, 79, 80, 81, 82, 83, 84, 85, 86, 87, 88, 89, 90, 91, 92, 93, 94, 95, 96, 97, 98, 135, 136, 137, 138, 139] (by decide +kernel) (by decide +kernel)
set_option maxRecDepth 20000 in
theorem gX6_apply_X4_read : GoodIn wsX6_apply (wsV RX6 121 RX4 yX4_read wsX4_read) := goodIn_app (goodIn_of _ (by decide +kernel)) ggX6_apply_X4_read
set_option maxRecDepth 20000 in
theorem ggX6_apply_X0_keep : GoodIn wsX6_apply wsX0_keep := goodIn_r _ [103, 104, 105, 106, 107, 108, 109, 110, 111, 112, 102, 113, 140, 141, 142] (by decide +kernel) (by decide +kernel)
set_option maxRecDepth 20000 in
theorem gX6_apply_X0_keep : GoodIn wsX6_apply (wsV RX6 68 RX0 yX0_keep wsX0_keep) := goodIn_app (goodIn_of _ (by decide +kernel)) ggX6_apply_X0_keep
set_option maxRecDepth 20000 in
theorem ggX6_apply_X4_assignTo : GoodIn wsX6_apply wsX4_assignTo := goodIn_r _ [117, 11, 90, 91, 118, 119, 120, 121, 122, 123, 97, 22, 98, 135, 136, 137, 138, 139, 142] (by decide +kernel) (by decide +kernel)
set_option maxRecDepth 20000 in
theorem gX6_apply_X4_assignTo : GoodIn wsX6_apply (wsV RX6 125 RX4 yX4_assignTo wsX4_assignTo) := goodIn_app (goodIn_of _ (by decide +kernel)) ggX6_apply_X4_assignTo
theorem dX6_apply_0 : decode cX6_apply 0 = .ok (.aload_n 0, 1) := by decide +kernel
theorem dX6_apply_1 : decode cX6_apply 1 = .ok (.getfield 26, 3) := by decide +kernel
theorem dX6_apply_4 : decode cX6_apply 4 = .ok (.invokevirtual 121, 3) := by decide +kernel
theorem dX6_apply_7 : decode cX6_apply 7 = .ok (.iconst (-1), 1) := by decide +kernel
theorem dX6_apply_8 : decode cX6_apply 8 = .ok (.if_icmp .ne 13, 3) := by decide +kernel
theorem dX6_apply_11 : decode cX6_apply 11 = .ok (.aload_n 0, 1) := by decide +kernel
theorem dX6_apply_12 : decode cX6_apply 12 = .ok (.getfield 26, 3) := by decide +kernel
theorem dX6_apply_15 : decode cX6_apply 15 = .ok (.getfield 124, 3) := by decide +kernel
theorem dX6_apply_18 : decode cX6_apply 18 = .ok (.ifCond .ne 6, 3) := by decide +kernel
theorem dX6_apply_21 : decode cX6_apply 21 = .ok (.ldc 98, 2) := by decide +kernel
theorem dX6_apply_23 : decode cX6_apply 23 = .ok (.ireturn, 1) := by decide +kernel
theorem dX6_apply_24 : decode cX6_apply 24 = .ok (.aload_n 0, 1) := by decide +kernel
theorem dX6_apply_25 : decode cX6_apply 25 = .ok (.getfield 19, 3) := by decide +kernel
theorem dX6_apply_28 : decode cX6_apply 28 = .ok (.aload_n 0, 1) := by decide +kernel
theorem dX6_apply_29 : decode cX6_apply 29 = .ok (.getfield 12, 3) := by decide +kernel
theorem dX6_apply_32 : decode cX6_apply 32 = .ok (.invokevirtual 68, 3) := by decide +kernel
theorem dX6_apply_35 : decode cX6_apply 35 = .ok (.aload_n 0, 1) := by decide +kernel
theorem dX6_apply_36 : decode cX6_apply 36 = .ok (.getfield 26, 3) := by decide +kernel
theorem dX6_apply_39 : decode cX6_apply 39 = .ok (.aload_n 0, 1) := by decide +kernel
theorem dX6_apply_40 : decode cX6_apply 40 = .ok (.getfield 12, 3) := by decide +kernel
theorem dX6_apply_43 : decode cX6_apply 43 = .ok (.invokevirtual 125, 3) := by decide +kernel
theorem dX6_apply_46 : decode cX6_apply 46 = .ok (.aload_n 0, 1) := by decide +kernel
theorem dX6_apply_47 : decode cX6_apply 47 = .ok (.getfield 26, 3) := by decide +kernel
theorem dX6_apply_50 : decode cX6_apply 50 = .ok (.getfield 124, 3) := by decide +kernel
theorem dX6_apply_53 : decode cX6_apply 53 = .ok (.ireturn, 1) := by decide +kernel
set_option maxRecDepth 20000 in
theorem ggX6_assigned_X4_read : GoodIn wsX6_assigned wsX4_read := goodIn_r _ [7, 8, 9, 10, 11, 12, 6, 13, 14, 15, 16, 17, 18, 19, 20, 21, 22, 23, 24, 25, 26, 27, 28, 29, 30, 31, 32, 33, 34, 35, 36, 37, 38, 39, 40, 41, 42, 43, 44, 45, 46, 47, 48, 49, 50, 51, 52, 53, 54, 55, 56, 57, 58, 59, 60, 61, 62, 63, 64, 65, 66, 67, 68, 69, 70, 71, 72, 73, 74, 75, 76, 77, 78, 79, 80, 81, 82, 83, 84, 85, 86, 87, 88, 89, 90, 91, 92, 93, 94, 95, 115, 116, 117, 118, 119] (by decide +kernel) (by decide +kernel)
set_option maxRecDepth 20000 in
theorem gX6_assigned_X4_read : GoodIn wsX6_assigned (wsV RX6 121 RX4 yX4_read wsX4_read) := goodIn_app (goodIn_of _ (by decide +kernel)) ggX6_assigned_X4_read
set_option maxRecDepth 20000 in
theorem ggX6_assigned_X4_different : GoodIn wsX6_assigned wsX4_different := goodIn_r _ [99, 8, 100, 101, 102, 6, 103, 87, 115, 116, 117, 118, 119] (by decide +kernel) (by decide +kernel)
set_option maxRecDepth 20000 in
theorem gX6_assigned_X4_different : GoodIn wsX6_assigned (wsV RX6 128 RX4 yX4_different wsX4_different) := goodIn_app (goodIn_of _ (by decide +kernel)) ggX6_assigned_X4_different
theorem dX6_assigned_0 : decode cX6_assigned 0 = .ok (.aload_n 0, 1) := by decide +kernel
theorem dX6_assigned_1 : decode cX6_assigned 1 = .ok (.getfield 26, 3) := by decide +kernel
theorem dX6_assigned_4 : decode cX6_assigned 4 = .ok (.invokevirtual 121, 3) := by decide +kernel
theorem dX6_assigned_7 : decode cX6_assigned 7 = .ok (.iconst (-1), 1) := by decide +kernel
theorem dX6_assigned_8 : decode cX6_assigned 8 = .ok (.if_icmp .ne 13, 3) := by decide +kernel
theorem dX6_assigned_11 : decode cX6_assigned 11 = .ok (.aload_n 0, 1) := by decide +kernel
theorem dX6_assigned_12 : decode cX6_assigned 12 = .ok (.getfield 26, 3) := by decide +kernel
theorem dX6_assigned_15 : decode cX6_assigned 15 = .ok (.invokevirtual 128, 3) := by decide +kernel
theorem dX6_assigned_18 : decode cX6_assigned 18 = .ok (.goto 5, 3) := by decide +kernel
theorem dX6_assigned_21 : decode cX6_assigned 21 = .ok (.ldc 98, 2) := by decide +kernel
theorem dX6_assigned_23 : decode cX6_assigned 23 = .ok (.ireturn, 1) := by decide +kernel
set_option maxRecDepth 20000 in
theorem ggX6_assignedAt_X4_read : GoodIn wsX6_assignedAt wsX4_read := goodIn_r _ [9, 10, 11, 12, 13, 14, 8, 15, 16, 17, 18, 19, 20, 21, 22, 23, 24, 25, 26, 27, 28, 29, 30, 31, 32, 33, 34, 35, 36, 37, 38, 39, 40, 41, 42, 43, 44, 45, 46, 47, 48, 49, 50, 51, 52, 53, 54, 55, 56, 57, 58, 59, 60, 61, 62, 63, 64, 65, 66, 67, 68, 69, 70, 71, 72, 73, 74, 75, 76, 77, 78, 79, 80, 81, 82, 83, 84, 85, 86, 87, 88, 89, 90, 91, 92, 93, 94, 95, 96, 97, 117, 118, 119, 120, 121] (by decide +kernel) (by decide +kernel)
set_option maxRecDepth 20000 in
theorem gX6_assignedAt_X4_read : GoodIn wsX6_assignedAt (wsV RX6 121 RX4 yX4_read wsX4_read) := goodIn_app (goodIn_of _ (by decide +kernel)) ggX6_assignedAt_X4_read
set_option maxRecDepth 20000 in
theorem ggX6_assignedAt_X4_differentAt : GoodIn wsX6_assignedAt wsX4_differentAt := goodIn_r _ [101, 10, 89, 102, 103, 104, 8, 105, 117, 118, 119, 120, 121] (by decide +kernel) (by decide +kernel)
set_option maxRecDepth 20000 in
theorem gX6_assignedAt_X4_differentAt : GoodIn wsX6_assignedAt (wsV RX6 131 RX4 yX4_differentAt wsX4_differentAt) := goodIn_app (goodIn_of _ (by decide +kernel)) ggX6_assignedAt_X4_differentAt
theorem dX6_assignedAt_0 : decode cX6_assignedAt 0 = .ok (.iload_n 1, 1) := by decide +kernel
theorem dX6_assignedAt_1 : decode cX6_assignedAt 1 = .ok (.ifCond .ge 6, 3) := by decide +kernel
theorem dX6_assignedAt_4 : decode cX6_assignedAt 4 = .ok (.ldc 63, 2) := by decide +kernel
theorem dX6_assignedAt_6 : decode cX6_assignedAt 6 = .ok (.ireturn, 1) := by decide +kernel
theorem dX6_assignedAt_7 : decode cX6_assignedAt 7 = .ok (.aload_n 0, 1) := by decide +kernel
theorem dX6_assignedAt_8 : decode cX6_assignedAt 8 = .ok (.getfield 26, 3) := by decide +kernel
theorem dX6_assignedAt_11 : decode cX6_assignedAt 11 = .ok (.invokevirtual 121, 3) := by decide +kernel
theorem dX6_assignedAt_14 : decode cX6_assignedAt 14 = .ok (.iconst (-1), 1) := by decide +kernel
theorem dX6_assignedAt_15 : decode cX6_assignedAt 15 = .ok (.if_icmp .eq 6, 3) := by decide +kernel
theorem dX6_assignedAt_18 : decode cX6_assignedAt 18 = .ok (.ldc 98, 2) := by decide +kernel
theorem dX6_assignedAt_20 : decode cX6_assignedAt 20 = .ok (.ireturn, 1) := by decide +kernel
theorem dX6_assignedAt_21 : decode cX6_assignedAt 21 = .ok (.aload_n 0, 1) := by decide +kernel
theorem dX6_assignedAt_22 : decode cX6_assignedAt 22 = .ok (.getfield 26, 3) := by decide +kernel
theorem dX6_assignedAt_25 : decode cX6_assignedAt 25 = .ok (.iload_n 1, 1) := by decide +kernel
theorem dX6_assignedAt_26 : decode cX6_assignedAt 26 = .ok (.invokevirtual 131, 3) := by decide +kernel
theorem dX6_assignedAt_29 : decode cX6_assignedAt 29 = .ok (.istore_n 2, 1) := by decide +kernel
theorem dX6_assignedAt_30 : decode cX6_assignedAt 30 = .ok (.iload_n 2, 1) := by decide +kernel
theorem dX6_assignedAt_31 : decode cX6_assignedAt 31 = .ok (.iconst (-1), 1) := by decide +kernel
theorem dX6_assignedAt_32 : decode cX6_assignedAt 32 = .ok (.if_icmp .ne 8, 3) := by decide +kernel
theorem dX6_assignedAt_35 : decode cX6_assignedAt 35 = .ok (.ldc 94, 2) := by decide +kernel
theorem dX6_assignedAt_37 : decode cX6_assignedAt 37 = .ok (.goto 4, 3) := by decide +kernel
theorem dX6_assignedAt_40 : decode cX6_assignedAt 40 = .ok (.iload_n 2, 1) := by decide +kernel
theorem dX6_assignedAt_41 : decode cX6_assignedAt 41 = .ok (.ireturn, 1) := by decide +kernel
set_option maxRecDepth 20000 in
theorem ggX6_run_X6_advance : GoodIn wsX6_run wsX6_advance := goodIn_r _ [10, 11, 12, 13, 14, 15, 16, 17, 18, 19, 20, 21, 22, 23, 24, 25, 26, 27, 28, 29, 30, 31, 9, 32, 33, 34, 35, 36, 37, 38, 39, 40, 41, 42, 43, 44, 45, 46, 47, 48, 49, 50, 51, 52, 53, 54, 55, 56, 57, 58, 59, 60, 61, 62, 63, 64, 65, 66, 67, 68, 69, 70, 71, 72, 73, 74, 75, 76, 77, 78, 79, 80, 81, 82, 83, 84, 85, 86, 87, 88, 89, 90, 91, 92, 93, 94, 95, 96, 97, 98, 99, 100, 101, 102, 103, 104, 105, 106, 107, 108, 109, 110, 111, 112, 113, 114, 115, 116, 117, 118, 119, 120, 121, 122, 123, 124, 125, 126, 127, 128, 129, 130, 131, 132, 133, 134, 135, 136, 137, 138, 139, 140, 141, 142, 143, 144, 145, 146, 147, 148, 149, 150, 151, 152, 153, 154, 155, 156, 157, 158, 159, 160, 161] (by decide +kernel) (by decide +kernel)
set_option maxRecDepth 20000 in
theorem gX6_run_X6_advance : GoodIn wsX6_run (wsV RX6 138 RX6 yX6_advance wsX6_advance) := goodIn_app (goodIn_of _ (by decide +kernel)) ggX6_run_X6_advance
theorem dX6_run_0 : decode cX6_run 0 = .ok (.iload_n 1, 1) := by decide +kernel
theorem dX6_run_1 : decode cX6_run 1 = .ok (.iconst 1, 1) := by decide +kernel
theorem dX6_run_2 : decode cX6_run 2 = .ok (.if_icmp .lt 10, 3) := by decide +kernel
theorem dX6_run_5 : decode cX6_run 5 = .ok (.iload_n 1, 1) := by decide +kernel
theorem dX6_run_6 : decode cX6_run 6 = .ok (.sipush 500, 3) := by decide +kernel
theorem dX6_run_9 : decode cX6_run 9 = .ok (.if_icmp .le 6, 3) := by decide +kernel
theorem dX6_run_12 : decode cX6_run 12 = .ok (.ldc 63, 2) := by decide +kernel
theorem dX6_run_14 : decode cX6_run 14 = .ok (.ireturn, 1) := by decide +kernel
theorem dX6_run_15 : decode cX6_run 15 = .ok (.iload_n 1, 1) := by decide +kernel
theorem dX6_run_16 : decode cX6_run 16 = .ok (.ldc 134, 2) := by decide +kernel
theorem dX6_run_18 : decode cX6_run 18 = .ok (.aload_n 0, 1) := by decide +kernel
theorem dX6_run_19 : decode cX6_run 19 = .ok (.getfield 33, 3) := by decide +kernel
theorem dX6_run_22 : decode cX6_run 22 = .ok (.getfield 135, 3) := by decide +kernel
theorem dX6_run_25 : decode cX6_run 25 = .ok (.isub, 1) := by decide +kernel
theorem dX6_run_26 : decode cX6_run 26 = .ok (.if_icmp .le 6, 3) := by decide +kernel
theorem dX6_run_29 : decode cX6_run 29 = .ok (.ldc 120, 2) := by decide +kernel
theorem dX6_run_31 : decode cX6_run 31 = .ok (.ireturn, 1) := by decide +kernel
theorem dX6_run_32 : decode cX6_run 32 = .ok (.aload_n 0, 1) := by decide +kernel
theorem dX6_run_33 : decode cX6_run 33 = .ok (.aload_n 0, 1) := by decide +kernel
theorem dX6_run_34 : decode cX6_run 34 = .ok (.getfield 33, 3) := by decide +kernel
theorem dX6_run_37 : decode cX6_run 37 = .ok (.iload_n 1, 1) := by decide +kernel
theorem dX6_run_38 : decode cX6_run 38 = .ok (.invokevirtual 138, 3) := by decide +kernel
theorem dX6_run_41 : decode cX6_run 41 = .ok (.aload_n 0, 1) := by decide +kernel
theorem dX6_run_42 : decode cX6_run 42 = .ok (.getfield 33, 3) := by decide +kernel
theorem dX6_run_45 : decode cX6_run 45 = .ok (.getfield 135, 3) := by decide +kernel
theorem dX6_run_48 : decode cX6_run 48 = .ok (.ireturn, 1) := by decide +kernel
theorem dX6_time_0 : decode cX6_time 0 = .ok (.aload_n 0, 1) := by decide +kernel
theorem dX6_time_1 : decode cX6_time 1 = .ok (.getfield 33, 3) := by decide +kernel
theorem dX6_time_4 : decode cX6_time 4 = .ok (.getfield 135, 3) := by decide +kernel
theorem dX6_time_7 : decode cX6_time 7 = .ok (.ireturn, 1) := by decide +kernel
set_option maxRecDepth 20000 in
theorem ggX6_value_X6_isSignal : GoodIn wsX6_value wsX6_isSignal := goodIn_r _ [7] (by decide +kernel) (by decide +kernel)
set_option maxRecDepth 20000 in
theorem gX6_value_X6_isSignal : GoodIn wsX6_value (va_wsS RX6 142 yX6_isSignal wsX6_isSignal) := goodIn_app (goodIn_of _ (by decide +kernel)) ggX6_value_X6_isSignal
theorem dX6_value_0 : decode cX6_value 0 = .ok (.iload_n 1, 1) := by decide +kernel
theorem dX6_value_1 : decode cX6_value 1 = .ok (.invokestatic 142, 3) := by decide +kernel
theorem dX6_value_4 : decode cX6_value 4 = .ok (.ifCond .eq 15, 3) := by decide +kernel
theorem dX6_value_7 : decode cX6_value 7 = .ok (.aload_n 0, 1) := by decide +kernel
theorem dX6_value_8 : decode cX6_value 8 = .ok (.getfield 33, 3) := by decide +kernel
theorem dX6_value_11 : decode cX6_value 11 = .ok (.getfield 145, 3) := by decide +kernel
theorem dX6_value_14 : decode cX6_value 14 = .ok (.iload_n 1, 1) := by decide +kernel
theorem dX6_value_15 : decode cX6_value 15 = .ok (.iaload, 1) := by decide +kernel
theorem dX6_value_16 : decode cX6_value 16 = .ok (.goto 5, 3) := by decide +kernel
theorem dX6_value_19 : decode cX6_value 19 = .ok (.ldc 63, 2) := by decide +kernel
theorem dX6_value_21 : decode cX6_value 21 = .ok (.ireturn, 1) := by decide +kernel
set_option maxRecDepth 20000 in
theorem ggX6_recorded_X6_isSignal : GoodIn wsX6_recorded wsX6_isSignal := goodIn_r _ [8] (by decide +kernel) (by decide +kernel)
set_option maxRecDepth 20000 in
theorem gX6_recorded_X6_isSignal : GoodIn wsX6_recorded (va_wsS RX6 142 yX6_isSignal wsX6_isSignal) := goodIn_app (goodIn_of _ (by decide +kernel)) ggX6_recorded_X6_isSignal
set_option maxRecDepth 20000 in
theorem ggX6_recorded_X1_recordOf : GoodIn wsX6_recorded wsX1_recordOf := goodIn_r _ [13, 14, 15, 6, 7, 8, 16, 17, 18, 19, 31, 32, 33, 34, 35, 36, 37, 38, 39] (by decide +kernel) (by decide +kernel)
set_option maxRecDepth 20000 in
theorem gX6_recorded_X1_recordOf : GoodIn wsX6_recorded (wsV RX6 149 RX1 yX1_recordOf wsX1_recordOf) := goodIn_app (goodIn_of _ (by decide +kernel)) ggX6_recorded_X1_recordOf
theorem dX6_recorded_0 : decode cX6_recorded 0 = .ok (.iload_n 1, 1) := by decide +kernel
theorem dX6_recorded_1 : decode cX6_recorded 1 = .ok (.invokestatic 142, 3) := by decide +kernel
theorem dX6_recorded_4 : decode cX6_recorded 4 = .ok (.ifCond .eq 13, 3) := by decide +kernel
theorem dX6_recorded_7 : decode cX6_recorded 7 = .ok (.iload_n 2, 1) := by decide +kernel
theorem dX6_recorded_8 : decode cX6_recorded 8 = .ok (.ifCond .lt 9, 3) := by decide +kernel
theorem dX6_recorded_11 : decode cX6_recorded 11 = .ok (.iload_n 2, 1) := by decide +kernel
theorem dX6_recorded_12 : decode cX6_recorded 12 = .ok (.bipush 64, 2) := by decide +kernel
theorem dX6_recorded_14 : decode cX6_recorded 14 = .ok (.if_icmp .lt 6, 3) := by decide +kernel
theorem dX6_recorded_17 : decode cX6_recorded 17 = .ok (.ldc 63, 2) := by decide +kernel
theorem dX6_recorded_19 : decode cX6_recorded 19 = .ok (.ireturn, 1) := by decide +kernel
theorem dX6_recorded_20 : decode cX6_recorded 20 = .ok (.iload_n 2, 1) := by decide +kernel
theorem dX6_recorded_21 : decode cX6_recorded 21 = .ok (.aload_n 0, 1) := by decide +kernel
theorem dX6_recorded_22 : decode cX6_recorded 22 = .ok (.getfield 33, 3) := by decide +kernel
theorem dX6_recorded_25 : decode cX6_recorded 25 = .ok (.getfield 135, 3) := by decide +kernel
theorem dX6_recorded_28 : decode cX6_recorded 28 = .ok (.if_icmp .ge 25, 3) := by decide +kernel
theorem dX6_recorded_31 : decode cX6_recorded 31 = .ok (.aload_n 0, 1) := by decide +kernel
theorem dX6_recorded_32 : decode cX6_recorded 32 = .ok (.getfield 33, 3) := by decide +kernel
theorem dX6_recorded_35 : decode cX6_recorded 35 = .ok (.iload_n 1, 1) := by decide +kernel
theorem dX6_recorded_36 : decode cX6_recorded 36 = .ok (.aload_n 0, 1) := by decide +kernel
theorem dX6_recorded_37 : decode cX6_recorded 37 = .ok (.getfield 33, 3) := by decide +kernel
theorem dX6_recorded_40 : decode cX6_recorded 40 = .ok (.getfield 135, 3) := by decide +kernel
theorem dX6_recorded_43 : decode cX6_recorded 43 = .ok (.iconst 1, 1) := by decide +kernel
theorem dX6_recorded_44 : decode cX6_recorded 44 = .ok (.isub, 1) := by decide +kernel
theorem dX6_recorded_45 : decode cX6_recorded 45 = .ok (.iload_n 2, 1) := by decide +kernel
theorem dX6_recorded_46 : decode cX6_recorded 46 = .ok (.isub, 1) := by decide +kernel
theorem dX6_recorded_47 : decode cX6_recorded 47 = .ok (.invokevirtual 149, 3) := by decide +kernel
theorem dX6_recorded_50 : decode cX6_recorded 50 = .ok (.goto 5, 3) := by decide +kernel
theorem dX6_recorded_53 : decode cX6_recorded 53 = .ok (.ldc 94, 2) := by decide +kernel
theorem dX6_recorded_55 : decode cX6_recorded 55 = .ok (.ireturn, 1) := by decide +kernel
set_option maxRecDepth 20000 in
theorem ggX6_restart_X1_begin : GoodIn wsX6_restart wsX1_begin := goodIn_r _ [8, 9, 10, 11, 12, 13, 14, 15, 16, 17, 18, 19, 20, 21, 22, 23, 24, 25, 26, 27, 39, 40, 41, 42, 43, 44, 45, 46, 47, 48, 49, 50, 51, 52, 53, 54, 55, 56, 57] (by decide +kernel) (by decide +kernel)
set_option maxRecDepth 20000 in
theorem gX6_restart_X1_begin : GoodIn wsX6_restart (wsV RX6 153 RX1 yX1_begin wsX1_begin) := goodIn_app (goodIn_of _ (by decide +kernel)) ggX6_restart_X1_begin
theorem dX6_restart_0 : decode cX6_restart 0 = .ok (.aload_n 0, 1) := by decide +kernel
theorem dX6_restart_1 : decode cX6_restart 1 = .ok (.getfield 33, 3) := by decide +kernel
theorem dX6_restart_4 : decode cX6_restart 4 = .ok (.getfield 135, 3) := by decide +kernel
theorem dX6_restart_7 : decode cX6_restart 7 = .ok (.istore_n 1, 1) := by decide +kernel
theorem dX6_restart_8 : decode cX6_restart 8 = .ok (.aload_n 0, 1) := by decide +kernel
theorem dX6_restart_9 : decode cX6_restart 9 = .ok (.getfield 33, 3) := by decide +kernel
theorem dX6_restart_12 : decode cX6_restart 12 = .ok (.invokevirtual 153, 3) := by decide +kernel
theorem dX6_restart_15 : decode cX6_restart 15 = .ok (.aload_n 0, 1) := by decide +kernel
theorem dX6_restart_16 : decode cX6_restart 16 = .ok (.iconst 0, 1) := by decide +kernel
theorem dX6_restart_17 : decode cX6_restart 17 = .ok (.putfield 43, 3) := by decide +kernel
theorem dX6_restart_20 : decode cX6_restart 20 = .ok (.iload_n 1, 1) := by decide +kernel
theorem dX6_restart_21 : decode cX6_restart 21 = .ok (.ireturn, 1) := by decide +kernel
set_option maxRecDepth 20000 in
theorem ggX6_watch_X6_isSignal : GoodIn wsX6_watch wsX6_isSignal := goodIn_r _ [9] (by decide +kernel) (by decide +kernel)
set_option maxRecDepth 20000 in
theorem gX6_watch_X6_isSignal : GoodIn wsX6_watch (va_wsS RX6 142 yX6_isSignal wsX6_isSignal) := goodIn_app (goodIn_of _ (by decide +kernel)) ggX6_watch_X6_isSignal
set_option maxRecDepth 20000 in
theorem ggX6_watch_X5_add : GoodIn wsX6_watch wsX5_add := goodIn_r _ [14, 15, 16, 17, 18, 19, 20, 13, 21, 42, 43, 44, 45, 46] (by decide +kernel) (by decide +kernel)
set_option maxRecDepth 20000 in
theorem gX6_watch_X5_add : GoodIn wsX6_watch (wsV RX6 160 RX5 yX5_add wsX5_add) := goodIn_app (goodIn_of _ (by decide +kernel)) ggX6_watch_X5_add
theorem dX6_watch_0 : decode cX6_watch 0 = .ok (.iload_n 1, 1) := by decide +kernel
theorem dX6_watch_1 : decode cX6_watch 1 = .ok (.invokestatic 142, 3) := by decide +kernel
theorem dX6_watch_4 : decode cX6_watch 4 = .ok (.ifCond .ne 6, 3) := by decide +kernel
theorem dX6_watch_7 : decode cX6_watch 7 = .ok (.ldc 63, 2) := by decide +kernel
theorem dX6_watch_9 : decode cX6_watch 9 = .ok (.ireturn, 1) := by decide +kernel
theorem dX6_watch_10 : decode cX6_watch 10 = .ok (.aload_n 0, 1) := by decide +kernel
theorem dX6_watch_11 : decode cX6_watch 11 = .ok (.getfield 33, 3) := by decide +kernel
theorem dX6_watch_14 : decode cX6_watch 14 = .ok (.getfield 156, 3) := by decide +kernel
theorem dX6_watch_17 : decode cX6_watch 17 = .ok (.iload_n 1, 1) := by decide +kernel
theorem dX6_watch_18 : decode cX6_watch 18 = .ok (.invokevirtual 160, 3) := by decide +kernel
theorem dX6_watch_21 : decode cX6_watch 21 = .ok (.ifCond .eq 16, 3) := by decide +kernel
theorem dX6_watch_24 : decode cX6_watch 24 = .ok (.aload_n 0, 1) := by decide +kernel
theorem dX6_watch_25 : decode cX6_watch 25 = .ok (.getfield 33, 3) := by decide +kernel
theorem dX6_watch_28 : decode cX6_watch 28 = .ok (.getfield 156, 3) := by decide +kernel
theorem dX6_watch_31 : decode cX6_watch 31 = .ok (.getfield 165, 3) := by decide +kernel
theorem dX6_watch_34 : decode cX6_watch 34 = .ok (.goto 5, 3) := by decide +kernel
theorem dX6_watch_37 : decode cX6_watch 37 = .ok (.ldc 120, 2) := by decide +kernel
theorem dX6_watch_39 : decode cX6_watch 39 = .ok (.ireturn, 1) := by decide +kernel
set_option maxRecDepth 20000 in
theorem ggX6_unwatch_X6_isSignal : GoodIn wsX6_unwatch wsX6_isSignal := goodIn_r _ [9] (by decide +kernel) (by decide +kernel)
set_option maxRecDepth 20000 in
theorem gX6_unwatch_X6_isSignal : GoodIn wsX6_unwatch (va_wsS RX6 142 yX6_isSignal wsX6_isSignal) := goodIn_app (goodIn_of _ (by decide +kernel)) ggX6_unwatch_X6_isSignal
set_option maxRecDepth 20000 in
theorem ggX6_unwatch_X5_remove : GoodIn wsX6_unwatch wsX5_remove := goodIn_r _ [14, 15, 16, 17, 18, 19, 20, 21, 22, 13, 23, 44, 45, 46, 47, 48] (by decide +kernel) (by decide +kernel)
set_option maxRecDepth 20000 in
theorem gX6_unwatch_X5_remove : GoodIn wsX6_unwatch (wsV RX6 166 RX5 yX5_remove wsX5_remove) := goodIn_app (goodIn_of _ (by decide +kernel)) ggX6_unwatch_X5_remove
theorem dX6_unwatch_0 : decode cX6_unwatch 0 = .ok (.iload_n 1, 1) := by decide +kernel
theorem dX6_unwatch_1 : decode cX6_unwatch 1 = .ok (.invokestatic 142, 3) := by decide +kernel
theorem dX6_unwatch_4 : decode cX6_unwatch 4 = .ok (.ifCond .ne 6, 3) := by decide +kernel
theorem dX6_unwatch_7 : decode cX6_unwatch 7 = .ok (.ldc 63, 2) := by decide +kernel
theorem dX6_unwatch_9 : decode cX6_unwatch 9 = .ok (.ireturn, 1) := by decide +kernel
theorem dX6_unwatch_10 : decode cX6_unwatch 10 = .ok (.aload_n 0, 1) := by decide +kernel
theorem dX6_unwatch_11 : decode cX6_unwatch 11 = .ok (.getfield 33, 3) := by decide +kernel
theorem dX6_unwatch_14 : decode cX6_unwatch 14 = .ok (.getfield 156, 3) := by decide +kernel
theorem dX6_unwatch_17 : decode cX6_unwatch 17 = .ok (.iload_n 1, 1) := by decide +kernel
theorem dX6_unwatch_18 : decode cX6_unwatch 18 = .ok (.invokevirtual 166, 3) := by decide +kernel
theorem dX6_unwatch_21 : decode cX6_unwatch 21 = .ok (.ifCond .eq 16, 3) := by decide +kernel
theorem dX6_unwatch_24 : decode cX6_unwatch 24 = .ok (.aload_n 0, 1) := by decide +kernel
theorem dX6_unwatch_25 : decode cX6_unwatch 25 = .ok (.getfield 33, 3) := by decide +kernel
theorem dX6_unwatch_28 : decode cX6_unwatch 28 = .ok (.getfield 156, 3) := by decide +kernel
theorem dX6_unwatch_31 : decode cX6_unwatch 31 = .ok (.getfield 165, 3) := by decide +kernel
theorem dX6_unwatch_34 : decode cX6_unwatch 34 = .ok (.goto 5, 3) := by decide +kernel
theorem dX6_unwatch_37 : decode cX6_unwatch 37 = .ok (.ldc 94, 2) := by decide +kernel
theorem dX6_unwatch_39 : decode cX6_unwatch 39 = .ok (.ireturn, 1) := by decide +kernel
theorem dX6_watchedAt_0 : decode cX6_watchedAt 0 = .ok (.iload_n 1, 1) := by decide +kernel
theorem dX6_watchedAt_1 : decode cX6_watchedAt 1 = .ok (.ifCond .ge 6, 3) := by decide +kernel
theorem dX6_watchedAt_4 : decode cX6_watchedAt 4 = .ok (.ldc 63, 2) := by decide +kernel
theorem dX6_watchedAt_6 : decode cX6_watchedAt 6 = .ok (.ireturn, 1) := by decide +kernel
theorem dX6_watchedAt_7 : decode cX6_watchedAt 7 = .ok (.iload_n 1, 1) := by decide +kernel
theorem dX6_watchedAt_8 : decode cX6_watchedAt 8 = .ok (.aload_n 0, 1) := by decide +kernel
theorem dX6_watchedAt_9 : decode cX6_watchedAt 9 = .ok (.getfield 33, 3) := by decide +kernel
theorem dX6_watchedAt_12 : decode cX6_watchedAt 12 = .ok (.getfield 156, 3) := by decide +kernel
theorem dX6_watchedAt_15 : decode cX6_watchedAt 15 = .ok (.getfield 165, 3) := by decide +kernel
theorem dX6_watchedAt_18 : decode cX6_watchedAt 18 = .ok (.if_icmp .ge 23, 3) := by decide +kernel
theorem dX6_watchedAt_21 : decode cX6_watchedAt 21 = .ok (.iload_n 1, 1) := by decide +kernel
theorem dX6_watchedAt_22 : decode cX6_watchedAt 22 = .ok (.iconst 4, 1) := by decide +kernel
theorem dX6_watchedAt_23 : decode cX6_watchedAt 23 = .ok (.if_icmp .ge 18, 3) := by decide +kernel
theorem dX6_watchedAt_26 : decode cX6_watchedAt 26 = .ok (.aload_n 0, 1) := by decide +kernel
theorem dX6_watchedAt_27 : decode cX6_watchedAt 27 = .ok (.getfield 33, 3) := by decide +kernel
theorem dX6_watchedAt_30 : decode cX6_watchedAt 30 = .ok (.getfield 156, 3) := by decide +kernel
theorem dX6_watchedAt_33 : decode cX6_watchedAt 33 = .ok (.getfield 169, 3) := by decide +kernel
theorem dX6_watchedAt_36 : decode cX6_watchedAt 36 = .ok (.iload_n 1, 1) := by decide +kernel
theorem dX6_watchedAt_37 : decode cX6_watchedAt 37 = .ok (.iaload, 1) := by decide +kernel
theorem dX6_watchedAt_38 : decode cX6_watchedAt 38 = .ok (.goto 5, 3) := by decide +kernel
theorem dX6_watchedAt_41 : decode cX6_watchedAt 41 = .ok (.ldc 94, 2) := by decide +kernel
theorem dX6_watchedAt_43 : decode cX6_watchedAt 43 = .ok (.ireturn, 1) := by decide +kernel
set_option maxRecDepth 20000 in
theorem ggX6_extreme_X6_isSignal : GoodIn wsX6_extreme wsX6_isSignal := goodIn_r _ [9] (by decide +kernel) (by decide +kernel)
set_option maxRecDepth 20000 in
theorem gX6_extreme_X6_isSignal : GoodIn wsX6_extreme (va_wsS RX6 142 yX6_isSignal wsX6_isSignal) := goodIn_app (goodIn_of _ (by decide +kernel)) ggX6_extreme_X6_isSignal
set_option maxRecDepth 20000 in
theorem ggX6_extreme_X5_placeOf : GoodIn wsX6_extreme wsX5_placeOf := goodIn_r _ [14, 15, 16, 49, 50, 51, 52, 53] (by decide +kernel) (by decide +kernel)
set_option maxRecDepth 20000 in
theorem gX6_extreme_X5_placeOf : GoodIn wsX6_extreme (wsV RX6 172 RX5 yX5_placeOf wsX5_placeOf) := goodIn_app (goodIn_of _ (by decide +kernel)) ggX6_extreme_X5_placeOf
set_option maxRecDepth 20000 in
theorem ggX6_extreme_X5_hasSeen : GoodIn wsX6_extreme wsX5_hasSeen := goodIn_r _ [20, 21, 49, 50, 51, 52, 53] (by decide +kernel) (by decide +kernel)
set_option maxRecDepth 20000 in
theorem gX6_extreme_X5_hasSeen : GoodIn wsX6_extreme (wsV RX6 175 RX5 yX5_hasSeen wsX5_hasSeen) := goodIn_app (goodIn_of _ (by decide +kernel)) ggX6_extreme_X5_hasSeen
set_option maxRecDepth 20000 in
theorem ggX6_extreme_X5_get : GoodIn wsX6_extreme wsX5_get := goodIn_r _ [25, 26, 27, 28, 21, 49, 50, 51, 52, 53] (by decide +kernel) (by decide +kernel)
set_option maxRecDepth 20000 in
theorem gX6_extreme_X5_get : GoodIn wsX6_extreme (wsV RX6 178 RX5 yX5_get wsX5_get) := goodIn_app (goodIn_of _ (by decide +kernel)) ggX6_extreme_X5_get
theorem dX6_extreme_0 : decode cX6_extreme 0 = .ok (.iload_n 1, 1) := by decide +kernel
theorem dX6_extreme_1 : decode cX6_extreme 1 = .ok (.invokestatic 142, 3) := by decide +kernel
theorem dX6_extreme_4 : decode cX6_extreme 4 = .ok (.ifCond .eq 12, 3) := by decide +kernel
theorem dX6_extreme_7 : decode cX6_extreme 7 = .ok (.iload_n 2, 1) := by decide +kernel
theorem dX6_extreme_8 : decode cX6_extreme 8 = .ok (.ifCond .lt 8, 3) := by decide +kernel
theorem dX6_extreme_11 : decode cX6_extreme 11 = .ok (.iload_n 2, 1) := by decide +kernel
theorem dX6_extreme_12 : decode cX6_extreme 12 = .ok (.iconst 2, 1) := by decide +kernel
theorem dX6_extreme_13 : decode cX6_extreme 13 = .ok (.if_icmp .le 6, 3) := by decide +kernel
theorem dX6_extreme_16 : decode cX6_extreme 16 = .ok (.ldc 63, 2) := by decide +kernel
theorem dX6_extreme_18 : decode cX6_extreme 18 = .ok (.ireturn, 1) := by decide +kernel
theorem dX6_extreme_19 : decode cX6_extreme 19 = .ok (.aload_n 0, 1) := by decide +kernel
theorem dX6_extreme_20 : decode cX6_extreme 20 = .ok (.getfield 33, 3) := by decide +kernel
theorem dX6_extreme_23 : decode cX6_extreme 23 = .ok (.getfield 156, 3) := by decide +kernel
theorem dX6_extreme_26 : decode cX6_extreme 26 = .ok (.iload_n 1, 1) := by decide +kernel
theorem dX6_extreme_27 : decode cX6_extreme 27 = .ok (.invokevirtual 172, 3) := by decide +kernel
theorem dX6_extreme_30 : decode cX6_extreme 30 = .ok (.istore_n 3, 1) := by decide +kernel
theorem dX6_extreme_31 : decode cX6_extreme 31 = .ok (.iload_n 3, 1) := by decide +kernel
theorem dX6_extreme_32 : decode cX6_extreme 32 = .ok (.iconst (-1), 1) := by decide +kernel
theorem dX6_extreme_33 : decode cX6_extreme 33 = .ok (.if_icmp .ne 6, 3) := by decide +kernel
theorem dX6_extreme_36 : decode cX6_extreme 36 = .ok (.ldc 98, 2) := by decide +kernel
theorem dX6_extreme_38 : decode cX6_extreme 38 = .ok (.ireturn, 1) := by decide +kernel
theorem dX6_extreme_39 : decode cX6_extreme 39 = .ok (.aload_n 0, 1) := by decide +kernel
theorem dX6_extreme_40 : decode cX6_extreme 40 = .ok (.getfield 33, 3) := by decide +kernel
theorem dX6_extreme_43 : decode cX6_extreme 43 = .ok (.getfield 156, 3) := by decide +kernel
theorem dX6_extreme_46 : decode cX6_extreme 46 = .ok (.iload_n 3, 1) := by decide +kernel
theorem dX6_extreme_47 : decode cX6_extreme 47 = .ok (.invokevirtual 175, 3) := by decide +kernel
theorem dX6_extreme_50 : decode cX6_extreme 50 = .ok (.ifCond .eq 18, 3) := by decide +kernel
theorem dX6_extreme_53 : decode cX6_extreme 53 = .ok (.aload_n 0, 1) := by decide +kernel
theorem dX6_extreme_54 : decode cX6_extreme 54 = .ok (.getfield 33, 3) := by decide +kernel
theorem dX6_extreme_57 : decode cX6_extreme 57 = .ok (.getfield 156, 3) := by decide +kernel
theorem dX6_extreme_60 : decode cX6_extreme 60 = .ok (.iload_n 3, 1) := by decide +kernel
theorem dX6_extreme_61 : decode cX6_extreme 61 = .ok (.iload_n 2, 1) := by decide +kernel
theorem dX6_extreme_62 : decode cX6_extreme 62 = .ok (.invokevirtual 178, 3) := by decide +kernel
theorem dX6_extreme_65 : decode cX6_extreme 65 = .ok (.goto 5, 3) := by decide +kernel
theorem dX6_extreme_68 : decode cX6_extreme 68 = .ok (.ldc 94, 2) := by decide +kernel
theorem dX6_extreme_70 : decode cX6_extreme 70 = .ok (.ireturn, 1) := by decide +kernel
theorem dX6_measure_0 : decode cX6_measure 0 = .ok (.iload_n 1, 1) := by decide +kernel
theorem dX6_measure_1 : decode cX6_measure 1 = .ok (.tableswitch 77 0 3 #[31, 42, 53, 65], 31) := by decide +kernel
theorem dX6_measure_32 : decode cX6_measure 32 = .ok (.aload_n 0, 1) := by decide +kernel
theorem dX6_measure_33 : decode cX6_measure 33 = .ok (.getfield 33, 3) := by decide +kernel
theorem dX6_measure_36 : decode cX6_measure 36 = .ok (.getfield 180, 3) := by decide +kernel
theorem dX6_measure_39 : decode cX6_measure 39 = .ok (.getfield 184, 3) := by decide +kernel
theorem dX6_measure_42 : decode cX6_measure 42 = .ok (.lreturn, 1) := by decide +kernel
theorem dX6_measure_43 : decode cX6_measure 43 = .ok (.aload_n 0, 1) := by decide +kernel
theorem dX6_measure_44 : decode cX6_measure 44 = .ok (.getfield 33, 3) := by decide +kernel
theorem dX6_measure_47 : decode cX6_measure 47 = .ok (.getfield 180, 3) := by decide +kernel
theorem dX6_measure_50 : decode cX6_measure 50 = .ok (.getfield 190, 3) := by decide +kernel
theorem dX6_measure_53 : decode cX6_measure 53 = .ok (.lreturn, 1) := by decide +kernel
theorem dX6_measure_54 : decode cX6_measure 54 = .ok (.aload_n 0, 1) := by decide +kernel
theorem dX6_measure_55 : decode cX6_measure 55 = .ok (.getfield 33, 3) := by decide +kernel
theorem dX6_measure_58 : decode cX6_measure 58 = .ok (.getfield 180, 3) := by decide +kernel
theorem dX6_measure_61 : decode cX6_measure 61 = .ok (.getfield 193, 3) := by decide +kernel
theorem dX6_measure_64 : decode cX6_measure 64 = .ok (.i2l, 1) := by decide +kernel
theorem dX6_measure_65 : decode cX6_measure 65 = .ok (.lreturn, 1) := by decide +kernel
theorem dX6_measure_66 : decode cX6_measure 66 = .ok (.aload_n 0, 1) := by decide +kernel
theorem dX6_measure_67 : decode cX6_measure 67 = .ok (.getfield 33, 3) := by decide +kernel
theorem dX6_measure_70 : decode cX6_measure 70 = .ok (.getfield 180, 3) := by decide +kernel
theorem dX6_measure_73 : decode cX6_measure 73 = .ok (.getfield 196, 3) := by decide +kernel
theorem dX6_measure_76 : decode cX6_measure 76 = .ok (.i2l, 1) := by decide +kernel
theorem dX6_measure_77 : decode cX6_measure 77 = .ok (.lreturn, 1) := by decide +kernel
theorem dX6_measure_78 : decode cX6_measure 78 = .ok (.ldc2_w 199, 3) := by decide +kernel
theorem dX6_measure_81 : decode cX6_measure 81 = .ok (.lreturn, 1) := by decide +kernel
set_option maxRecDepth 20000 in
theorem ggX6_settledTicks_X1_recordOf : GoodIn wsX6_settledTicks wsX1_recordOf := goodIn_r _ [18, 19, 20, 21, 22, 23, 24, 25, 26, 27, 39, 40, 41, 42, 43, 44, 45, 46, 47] (by decide +kernel) (by decide +kernel)
set_option maxRecDepth 20000 in
theorem gX6_settledTicks_X1_recordOf : GoodIn wsX6_settledTicks (wsV RX6 149 RX1 yX1_recordOf wsX1_recordOf) := goodIn_app (goodIn_of _ (by decide +kernel)) ggX6_settledTicks_X1_recordOf
theorem dX6_settledTicks_0 : decode cX6_settledTicks 0 = .ok (.iload_n 1, 1) := by decide +kernel
theorem dX6_settledTicks_1 : decode cX6_settledTicks 1 = .ok (.ifCond .lt 9, 3) := by decide +kernel
theorem dX6_settledTicks_4 : decode cX6_settledTicks 4 = .ok (.iload_n 1, 1) := by decide +kernel
theorem dX6_settledTicks_5 : decode cX6_settledTicks 5 = .ok (.ldc 134, 2) := by decide +kernel
theorem dX6_settledTicks_7 : decode cX6_settledTicks 7 = .ok (.if_icmp .le 6, 3) := by decide +kernel
theorem dX6_settledTicks_10 : decode cX6_settledTicks 10 = .ok (.ldc 63, 2) := by decide +kernel
theorem dX6_settledTicks_12 : decode cX6_settledTicks 12 = .ok (.ireturn, 1) := by decide +kernel
theorem dX6_settledTicks_13 : decode cX6_settledTicks 13 = .ok (.bipush 64, 2) := by decide +kernel
theorem dX6_settledTicks_15 : decode cX6_settledTicks 15 = .ok (.aload_n 0, 1) := by decide +kernel
theorem dX6_settledTicks_16 : decode cX6_settledTicks 16 = .ok (.getfield 33, 3) := by decide +kernel
theorem dX6_settledTicks_19 : decode cX6_settledTicks 19 = .ok (.getfield 180, 3) := by decide +kernel
theorem dX6_settledTicks_22 : decode cX6_settledTicks 22 = .ok (.getfield 196, 3) := by decide +kernel
theorem dX6_settledTicks_25 : decode cX6_settledTicks 25 = .ok (.invokestatic 201, 3) := by decide +kernel
theorem dX6_settledTicks_28 : decode cX6_settledTicks 28 = .ok (.istore_n 2, 1) := by decide +kernel
theorem dX6_settledTicks_29 : decode cX6_settledTicks 29 = .ok (.iconst 0, 1) := by decide +kernel
theorem dX6_settledTicks_30 : decode cX6_settledTicks 30 = .ok (.istore_n 3, 1) := by decide +kernel
theorem dX6_settledTicks_31 : decode cX6_settledTicks 31 = .ok (.iload_n 3, 1) := by decide +kernel
theorem dX6_settledTicks_32 : decode cX6_settledTicks 32 = .ok (.iload_n 2, 1) := by decide +kernel
theorem dX6_settledTicks_33 : decode cX6_settledTicks 33 = .ok (.if_icmp .ge 52, 3) := by decide +kernel
theorem dX6_settledTicks_36 : decode cX6_settledTicks 36 = .ok (.aload_n 0, 1) := by decide +kernel
theorem dX6_settledTicks_37 : decode cX6_settledTicks 37 = .ok (.getfield 33, 3) := by decide +kernel
theorem dX6_settledTicks_40 : decode cX6_settledTicks 40 = .ok (.getfield 135, 3) := by decide +kernel
theorem dX6_settledTicks_43 : decode cX6_settledTicks 43 = .ok (.iconst 1, 1) := by decide +kernel
theorem dX6_settledTicks_44 : decode cX6_settledTicks 44 = .ok (.isub, 1) := by decide +kernel
theorem dX6_settledTicks_45 : decode cX6_settledTicks 45 = .ok (.iload_n 3, 1) := by decide +kernel
theorem dX6_settledTicks_46 : decode cX6_settledTicks 46 = .ok (.isub, 1) := by decide +kernel
theorem dX6_settledTicks_47 : decode cX6_settledTicks 47 = .ok (.istore 4, 2) := by decide +kernel
theorem dX6_settledTicks_49 : decode cX6_settledTicks 49 = .ok (.aload_n 0, 1) := by decide +kernel
theorem dX6_settledTicks_50 : decode cX6_settledTicks 50 = .ok (.getfield 33, 3) := by decide +kernel
theorem dX6_settledTicks_53 : decode cX6_settledTicks 53 = .ok (.iconst 0, 1) := by decide +kernel
theorem dX6_settledTicks_54 : decode cX6_settledTicks 54 = .ok (.iload 4, 2) := by decide +kernel
theorem dX6_settledTicks_56 : decode cX6_settledTicks 56 = .ok (.invokevirtual 149, 3) := by decide +kernel
theorem dX6_settledTicks_59 : decode cX6_settledTicks 59 = .ok (.aload_n 0, 1) := by decide +kernel
theorem dX6_settledTicks_60 : decode cX6_settledTicks 60 = .ok (.getfield 33, 3) := by decide +kernel
theorem dX6_settledTicks_63 : decode cX6_settledTicks 63 = .ok (.iconst 1, 1) := by decide +kernel
theorem dX6_settledTicks_64 : decode cX6_settledTicks 64 = .ok (.iload 4, 2) := by decide +kernel
theorem dX6_settledTicks_66 : decode cX6_settledTicks 66 = .ok (.invokevirtual 149, 3) := by decide +kernel
theorem dX6_settledTicks_69 : decode cX6_settledTicks 69 = .ok (.isub, 1) := by decide +kernel
theorem dX6_settledTicks_70 : decode cX6_settledTicks 70 = .ok (.invokestatic 206, 3) := by decide +kernel
theorem dX6_settledTicks_73 : decode cX6_settledTicks 73 = .ok (.iload_n 1, 1) := by decide +kernel
theorem dX6_settledTicks_74 : decode cX6_settledTicks 74 = .ok (.if_icmp .le 5, 3) := by decide +kernel
theorem dX6_settledTicks_77 : decode cX6_settledTicks 77 = .ok (.iload_n 3, 1) := by decide +kernel
theorem dX6_settledTicks_78 : decode cX6_settledTicks 78 = .ok (.ireturn, 1) := by decide +kernel
theorem dX6_settledTicks_79 : decode cX6_settledTicks 79 = .ok (.iinc 3 1, 3) := by decide +kernel
theorem dX6_settledTicks_82 : decode cX6_settledTicks 82 = .ok (.goto (-51), 3) := by decide +kernel
theorem dX6_settledTicks_85 : decode cX6_settledTicks 85 = .ok (.iload_n 2, 1) := by decide +kernel
theorem dX6_settledTicks_86 : decode cX6_settledTicks 86 = .ok (.ireturn, 1) := by decide +kernel
set_option maxRecDepth 20000 in
theorem ggX6_store_X6_storedAt : GoodIn wsX6_store wsX6_storedAt := goodIn_r _ [8, 9, 10, 50, 51, 52, 53, 54, 55, 56, 57, 58, 59, 60] (by decide +kernel) (by decide +kernel)
set_option maxRecDepth 20000 in
theorem gX6_store_X6_storedAt : GoodIn wsX6_store (wsV RX6 209 RX6 yX6_storedAt wsX6_storedAt) := goodIn_app (goodIn_of _ (by decide +kernel)) ggX6_store_X6_storedAt
set_option maxRecDepth 20000 in
theorem ggX6_store_X1_copy : GoodIn wsX6_store wsX1_copy := goodIn_r _ [15, 16, 17, 18, 19, 20, 21, 22, 23, 24, 25, 26, 27, 28, 29, 30, 31, 32, 33, 34, 35, 36, 37, 38, 39, 40, 41, 42, 43, 44, 45, 46, 47, 48, 49, 61, 62, 63, 64, 65, 66, 67, 68, 69, 70, 71, 72, 73, 74, 75, 76, 77, 78, 79] (by decide +kernel) (by decide +kernel)
set_option maxRecDepth 20000 in
theorem gX6_store_X1_copy : GoodIn wsX6_store (wsV RX6 213 RX1 yX1_copy wsX1_copy) := goodIn_app (goodIn_of _ (by decide +kernel)) ggX6_store_X1_copy
theorem dX6_store_0 : decode cX6_store 0 = .ok (.aload_n 0, 1) := by decide +kernel
theorem dX6_store_1 : decode cX6_store 1 = .ok (.getfield 43, 3) := by decide +kernel
theorem dX6_store_4 : decode cX6_store 4 = .ok (.iconst 2, 1) := by decide +kernel
theorem dX6_store_5 : decode cX6_store 5 = .ok (.if_icmp .lt 6, 3) := by decide +kernel
theorem dX6_store_8 : decode cX6_store 8 = .ok (.ldc 120, 2) := by decide +kernel
theorem dX6_store_10 : decode cX6_store 10 = .ok (.ireturn, 1) := by decide +kernel
theorem dX6_store_11 : decode cX6_store 11 = .ok (.aload_n 0, 1) := by decide +kernel
theorem dX6_store_12 : decode cX6_store 12 = .ok (.aload_n 0, 1) := by decide +kernel
theorem dX6_store_13 : decode cX6_store 13 = .ok (.getfield 43, 3) := by decide +kernel
theorem dX6_store_16 : decode cX6_store 16 = .ok (.invokevirtual 209, 3) := by decide +kernel
theorem dX6_store_19 : decode cX6_store 19 = .ok (.aload_n 0, 1) := by decide +kernel
theorem dX6_store_20 : decode cX6_store 20 = .ok (.getfield 33, 3) := by decide +kernel
theorem dX6_store_23 : decode cX6_store 23 = .ok (.invokevirtual 213, 3) := by decide +kernel
theorem dX6_store_26 : decode cX6_store 26 = .ok (.aload_n 0, 1) := by decide +kernel
theorem dX6_store_27 : decode cX6_store 27 = .ok (.dup, 1) := by decide +kernel
theorem dX6_store_28 : decode cX6_store 28 = .ok (.getfield 43, 3) := by decide +kernel
theorem dX6_store_31 : decode cX6_store 31 = .ok (.iconst 1, 1) := by decide +kernel
theorem dX6_store_32 : decode cX6_store 32 = .ok (.iadd, 1) := by decide +kernel
theorem dX6_store_33 : decode cX6_store 33 = .ok (.putfield 43, 3) := by decide +kernel
theorem dX6_store_36 : decode cX6_store 36 = .ok (.aload_n 0, 1) := by decide +kernel
theorem dX6_store_37 : decode cX6_store 37 = .ok (.getfield 43, 3) := by decide +kernel
theorem dX6_store_40 : decode cX6_store 40 = .ok (.ireturn, 1) := by decide +kernel
set_option maxRecDepth 20000 in
theorem ggX6_recall_X6_storedAt : GoodIn wsX6_recall wsX6_storedAt := goodIn_r _ [8, 9, 10, 50, 51, 52, 53, 54, 55, 56, 57, 58, 59, 60] (by decide +kernel) (by decide +kernel)
set_option maxRecDepth 20000 in
theorem gX6_recall_X6_storedAt : GoodIn wsX6_recall (wsV RX6 209 RX6 yX6_storedAt wsX6_storedAt) := goodIn_app (goodIn_of _ (by decide +kernel)) ggX6_recall_X6_storedAt
set_option maxRecDepth 20000 in
theorem ggX6_recall_X1_copy : GoodIn wsX6_recall wsX1_copy := goodIn_r _ [15, 16, 17, 18, 19, 20, 21, 22, 23, 24, 25, 26, 27, 28, 29, 30, 31, 32, 33, 34, 35, 36, 37, 38, 39, 40, 41, 42, 43, 44, 45, 46, 47, 48, 49, 61, 62, 63, 64, 65, 66, 67, 68, 69, 70, 71, 72, 73, 74, 75, 76, 77, 78, 79] (by decide +kernel) (by decide +kernel)
set_option maxRecDepth 20000 in
theorem gX6_recall_X1_copy : GoodIn wsX6_recall (wsV RX6 213 RX1 yX1_copy wsX1_copy) := goodIn_app (goodIn_of _ (by decide +kernel)) ggX6_recall_X1_copy
theorem dX6_recall_0 : decode cX6_recall 0 = .ok (.aload_n 0, 1) := by decide +kernel
theorem dX6_recall_1 : decode cX6_recall 1 = .ok (.getfield 43, 3) := by decide +kernel
theorem dX6_recall_4 : decode cX6_recall 4 = .ok (.ifCond .ne 6, 3) := by decide +kernel
theorem dX6_recall_7 : decode cX6_recall 7 = .ok (.ldc 98, 2) := by decide +kernel
theorem dX6_recall_9 : decode cX6_recall 9 = .ok (.ireturn, 1) := by decide +kernel
theorem dX6_recall_10 : decode cX6_recall 10 = .ok (.aload_n 0, 1) := by decide +kernel
theorem dX6_recall_11 : decode cX6_recall 11 = .ok (.dup, 1) := by decide +kernel
theorem dX6_recall_12 : decode cX6_recall 12 = .ok (.getfield 43, 3) := by decide +kernel
theorem dX6_recall_15 : decode cX6_recall 15 = .ok (.iconst 1, 1) := by decide +kernel
theorem dX6_recall_16 : decode cX6_recall 16 = .ok (.isub, 1) := by decide +kernel
theorem dX6_recall_17 : decode cX6_recall 17 = .ok (.putfield 43, 3) := by decide +kernel
theorem dX6_recall_20 : decode cX6_recall 20 = .ok (.aload_n 0, 1) := by decide +kernel
theorem dX6_recall_21 : decode cX6_recall 21 = .ok (.getfield 33, 3) := by decide +kernel
theorem dX6_recall_24 : decode cX6_recall 24 = .ok (.aload_n 0, 1) := by decide +kernel
theorem dX6_recall_25 : decode cX6_recall 25 = .ok (.aload_n 0, 1) := by decide +kernel
theorem dX6_recall_26 : decode cX6_recall 26 = .ok (.getfield 43, 3) := by decide +kernel
theorem dX6_recall_29 : decode cX6_recall 29 = .ok (.invokevirtual 209, 3) := by decide +kernel
theorem dX6_recall_32 : decode cX6_recall 32 = .ok (.invokevirtual 213, 3) := by decide +kernel
theorem dX6_recall_35 : decode cX6_recall 35 = .ok (.aload_n 0, 1) := by decide +kernel
theorem dX6_recall_36 : decode cX6_recall 36 = .ok (.getfield 43, 3) := by decide +kernel
theorem dX6_recall_39 : decode cX6_recall 39 = .ok (.ireturn, 1) := by decide +kernel
set_option maxRecDepth 20000 in
theorem ggX6_correlation_X6_correlationFor : GoodIn wsX6_correlation wsX6_correlationFor := goodIn_r _ [6, 7, 8, 9, 10, 11, 12, 13, 14, 15, 16, 17, 18, 19, 20, 21, 22, 23, 24, 5, 25, 26, 27, 28, 29, 30, 31, 32, 33, 34, 35, 36, 37, 38, 39, 40, 41, 42, 43, 44, 45, 46, 47, 48, 49, 50, 51, 52, 53, 54, 55, 56, 57, 58] (by decide +kernel) (by decide +kernel)
set_option maxRecDepth 20000 in
theorem gX6_correlation_X6_correlationFor : GoodIn wsX6_correlation (wsV RX6 217 RX6 yX6_correlationFor wsX6_correlationFor) := goodIn_app (goodIn_of _ (by decide +kernel)) ggX6_correlation_X6_correlationFor
theorem dX6_correlation_0 : decode cX6_correlation 0 = .ok (.iload_n 1, 1) := by decide +kernel
theorem dX6_correlation_1 : decode cX6_correlation 1 = .ok (.ifCond .lt 9, 3) := by decide +kernel
theorem dX6_correlation_4 : decode cX6_correlation 4 = .ok (.iload_n 1, 1) := by decide +kernel
theorem dX6_correlation_5 : decode cX6_correlation 5 = .ok (.bipush 30, 2) := by decide +kernel
theorem dX6_correlation_7 : decode cX6_correlation 7 = .ok (.if_icmp .le 9, 3) := by decide +kernel
theorem dX6_correlation_10 : decode cX6_correlation 10 = .ok (.ldc2_w 199, 3) := by decide +kernel
theorem dX6_correlation_13 : decode cX6_correlation 13 = .ok (.goto 8, 3) := by decide +kernel
theorem dX6_correlation_16 : decode cX6_correlation 16 = .ok (.aload_n 0, 1) := by decide +kernel
theorem dX6_correlation_17 : decode cX6_correlation 17 = .ok (.iload_n 1, 1) := by decide +kernel
theorem dX6_correlation_18 : decode cX6_correlation 18 = .ok (.invokevirtual 217, 3) := by decide +kernel
theorem dX6_correlation_21 : decode cX6_correlation 21 = .ok (.lreturn, 1) := by decide +kernel
set_option maxRecDepth 20000 in
theorem ggX6_estimatedLag_X6_strongestLag : GoodIn wsX6_estimatedLag wsX6_strongestLag := goodIn_r _ [6, 7, 8, 9, 5, 10, 11, 12, 13, 14, 15, 16, 17, 18, 19, 20, 21, 22, 23, 24, 25, 26, 27, 28, 29, 30, 31, 32, 33, 34, 35, 36, 37, 38, 39, 40, 41, 42, 43, 44, 45, 46, 47, 48, 49, 50, 51, 52, 53, 54, 55, 56, 57, 58, 59, 60, 61, 62] (by decide +kernel) (by decide +kernel)
set_option maxRecDepth 20000 in
theorem gX6_estimatedLag_X6_strongestLag : GoodIn wsX6_estimatedLag (wsV RX6 221 RX6 yX6_strongestLag wsX6_strongestLag) := goodIn_app (goodIn_of _ (by decide +kernel)) ggX6_estimatedLag_X6_strongestLag
set_option maxRecDepth 20000 in
theorem ggX6_estimatedLag_X6_correlationFor : GoodIn wsX6_estimatedLag wsX6_correlationFor := goodIn_r _ [10, 11, 12, 13, 14, 15, 16, 17, 18, 19, 20, 21, 22, 23, 24, 25, 26, 27, 28, 5, 29, 30, 31, 32, 33, 34, 35, 36, 37, 38, 39, 40, 41, 42, 43, 44, 45, 46, 47, 48, 49, 50, 51, 52, 53, 54, 55, 56, 57, 58, 59, 60, 61, 62] (by decide +kernel) (by decide +kernel)
set_option maxRecDepth 20000 in
theorem gX6_estimatedLag_X6_correlationFor : GoodIn wsX6_estimatedLag (wsV RX6 217 RX6 yX6_correlationFor wsX6_correlationFor) := goodIn_app (goodIn_of _ (by decide +kernel)) ggX6_estimatedLag_X6_correlationFor
theorem dX6_estimatedLag_0 : decode cX6_estimatedLag 0 = .ok (.aload_n 0, 1) := by decide +kernel
theorem dX6_estimatedLag_1 : decode cX6_estimatedLag 1 = .ok (.iconst (-1), 1) := by decide +kernel
theorem dX6_estimatedLag_2 : decode cX6_estimatedLag 2 = .ok (.invokevirtual 221, 3) := by decide +kernel
theorem dX6_estimatedLag_5 : decode cX6_estimatedLag 5 = .ok (.istore_n 1, 1) := by decide +kernel
theorem dX6_estimatedLag_6 : decode cX6_estimatedLag 6 = .ok (.aload_n 0, 1) := by decide +kernel
theorem dX6_estimatedLag_7 : decode cX6_estimatedLag 7 = .ok (.iload_n 1, 1) := by decide +kernel
theorem dX6_estimatedLag_8 : decode cX6_estimatedLag 8 = .ok (.invokevirtual 217, 3) := by decide +kernel
theorem dX6_estimatedLag_11 : decode cX6_estimatedLag 11 = .ok (.lconst 0, 1) := by decide +kernel
theorem dX6_estimatedLag_12 : decode cX6_estimatedLag 12 = .ok (.lcmp, 1) := by decide +kernel
theorem dX6_estimatedLag_13 : decode cX6_estimatedLag 13 = .ok (.ifCond .le 7, 3) := by decide +kernel
theorem dX6_estimatedLag_16 : decode cX6_estimatedLag 16 = .ok (.iload_n 1, 1) := by decide +kernel
theorem dX6_estimatedLag_17 : decode cX6_estimatedLag 17 = .ok (.goto 5, 3) := by decide +kernel
theorem dX6_estimatedLag_20 : decode cX6_estimatedLag 20 = .ok (.ldc 94, 2) := by decide +kernel
theorem dX6_estimatedLag_22 : decode cX6_estimatedLag 22 = .ok (.ireturn, 1) := by decide +kernel
set_option maxRecDepth 20000 in
theorem ggX6_tuneDelay_X6_strongestLag : GoodIn wsX6_tuneDelay wsX6_strongestLag := goodIn_r _ [9, 10, 11, 12, 8, 13, 14, 4, 15, 16, 17, 18, 19, 20, 21, 22, 23, 24, 25, 26, 27, 28, 29, 30, 31, 32, 33, 34, 35, 36, 37, 38, 39, 40, 41, 42, 43, 63, 64, 65, 66, 67, 68, 69, 70, 71, 72, 73, 74, 75, 76, 77, 78, 79, 80, 81, 82, 83] (by decide +kernel) (by decide +kernel)
set_option maxRecDepth 20000 in
theorem gX6_tuneDelay_X6_strongestLag : GoodIn wsX6_tuneDelay (wsV RX6 221 RX6 yX6_strongestLag wsX6_strongestLag) := goodIn_app (goodIn_of _ (by decide +kernel)) ggX6_tuneDelay_X6_strongestLag
set_option maxRecDepth 20000 in
theorem ggX6_tuneDelay_X6_correlationFor : GoodIn wsX6_tuneDelay wsX6_correlationFor := goodIn_r _ [13, 14, 4, 15, 16, 17, 18, 19, 20, 21, 22, 23, 24, 25, 26, 27, 28, 29, 30, 8, 31, 32, 33, 34, 35, 36, 37, 38, 39, 40, 41, 42, 43, 63, 64, 65, 66, 67, 68, 69, 70, 71, 72, 73, 74, 75, 76, 77, 78, 79, 80, 81, 82, 83] (by decide +kernel) (by decide +kernel)
set_option maxRecDepth 20000 in
theorem gX6_tuneDelay_X6_correlationFor : GoodIn wsX6_tuneDelay (wsV RX6 217 RX6 yX6_correlationFor wsX6_correlationFor) := goodIn_app (goodIn_of _ (by decide +kernel)) ggX6_tuneDelay_X6_correlationFor
set_option maxRecDepth 20000 in
theorem ggX6_tuneDelay_X0_keep : GoodIn wsX6_tuneDelay wsX0_keep := goodIn_r _ [48, 49, 50, 51, 52, 53, 54, 55, 56, 57, 47, 58, 84, 85, 83] (by decide +kernel) (by decide +kernel)
set_option maxRecDepth 20000 in
theorem gX6_tuneDelay_X0_keep : GoodIn wsX6_tuneDelay (wsV RX6 68 RX0 yX0_keep wsX0_keep) := goodIn_app (goodIn_of _ (by decide +kernel)) ggX6_tuneDelay_X0_keep
set_option maxRecDepth 20000 in
theorem ggX6_tuneDelay_X3_set : GoodIn wsX6_tuneDelay wsX3_set := goodIn_r _ [62, 41, 42, 8, 43, 83] (by decide +kernel) (by decide +kernel)
set_option maxRecDepth 20000 in
theorem gX6_tuneDelay_X3_set : GoodIn wsX6_tuneDelay (wsV RX6 72 RX3 yX3_set wsX3_set) := goodIn_app (goodIn_of _ (by decide +kernel)) ggX6_tuneDelay_X3_set
theorem dX6_tuneDelay_0 : decode cX6_tuneDelay 0 = .ok (.aload_n 0, 1) := by decide +kernel
theorem dX6_tuneDelay_1 : decode cX6_tuneDelay 1 = .ok (.iconst (-1), 1) := by decide +kernel
theorem dX6_tuneDelay_2 : decode cX6_tuneDelay 2 = .ok (.invokevirtual 221, 3) := by decide +kernel
theorem dX6_tuneDelay_5 : decode cX6_tuneDelay 5 = .ok (.istore_n 1, 1) := by decide +kernel
theorem dX6_tuneDelay_6 : decode cX6_tuneDelay 6 = .ok (.aload_n 0, 1) := by decide +kernel
theorem dX6_tuneDelay_7 : decode cX6_tuneDelay 7 = .ok (.iload_n 1, 1) := by decide +kernel
theorem dX6_tuneDelay_8 : decode cX6_tuneDelay 8 = .ok (.invokevirtual 217, 3) := by decide +kernel
theorem dX6_tuneDelay_11 : decode cX6_tuneDelay 11 = .ok (.lstore_n 2, 1) := by decide +kernel
theorem dX6_tuneDelay_12 : decode cX6_tuneDelay 12 = .ok (.aload_n 0, 1) := by decide +kernel
theorem dX6_tuneDelay_13 : decode cX6_tuneDelay 13 = .ok (.aload_n 0, 1) := by decide +kernel
theorem dX6_tuneDelay_14 : decode cX6_tuneDelay 14 = .ok (.iload_n 1, 1) := by decide +kernel
theorem dX6_tuneDelay_15 : decode cX6_tuneDelay 15 = .ok (.invokevirtual 221, 3) := by decide +kernel
theorem dX6_tuneDelay_18 : decode cX6_tuneDelay 18 = .ok (.invokevirtual 217, 3) := by decide +kernel
theorem dX6_tuneDelay_21 : decode cX6_tuneDelay 21 = .ok (.lstore 4, 2) := by decide +kernel
theorem dX6_tuneDelay_23 : decode cX6_tuneDelay 23 = .ok (.lload_n 2, 1) := by decide +kernel
theorem dX6_tuneDelay_24 : decode cX6_tuneDelay 24 = .ok (.lconst 0, 1) := by decide +kernel
theorem dX6_tuneDelay_25 : decode cX6_tuneDelay 25 = .ok (.lcmp, 1) := by decide +kernel
theorem dX6_tuneDelay_26 : decode cX6_tuneDelay 26 = .ok (.ifCond .le 14, 3) := by decide +kernel
theorem dX6_tuneDelay_29 : decode cX6_tuneDelay 29 = .ok (.lload_n 2, 1) := by decide +kernel
theorem dX6_tuneDelay_30 : decode cX6_tuneDelay 30 = .ok (.ldc2_w 224, 3) := by decide +kernel
theorem dX6_tuneDelay_33 : decode cX6_tuneDelay 33 = .ok (.lload 4, 2) := by decide +kernel
theorem dX6_tuneDelay_35 : decode cX6_tuneDelay 35 = .ok (.lmul, 1) := by decide +kernel
theorem dX6_tuneDelay_36 : decode cX6_tuneDelay 36 = .ok (.lcmp, 1) := by decide +kernel
theorem dX6_tuneDelay_37 : decode cX6_tuneDelay 37 = .ok (.ifCond .ge 6, 3) := by decide +kernel
theorem dX6_tuneDelay_40 : decode cX6_tuneDelay 40 = .ok (.ldc 98, 2) := by decide +kernel
theorem dX6_tuneDelay_42 : decode cX6_tuneDelay 42 = .ok (.ireturn, 1) := by decide +kernel
theorem dX6_tuneDelay_43 : decode cX6_tuneDelay 43 = .ok (.aload_n 0, 1) := by decide +kernel
theorem dX6_tuneDelay_44 : decode cX6_tuneDelay 44 = .ok (.getfield 19, 3) := by decide +kernel
theorem dX6_tuneDelay_47 : decode cX6_tuneDelay 47 = .ok (.aload_n 0, 1) := by decide +kernel
theorem dX6_tuneDelay_48 : decode cX6_tuneDelay 48 = .ok (.getfield 12, 3) := by decide +kernel
theorem dX6_tuneDelay_51 : decode cX6_tuneDelay 51 = .ok (.invokevirtual 68, 3) := by decide +kernel
theorem dX6_tuneDelay_54 : decode cX6_tuneDelay 54 = .ok (.aload_n 0, 1) := by decide +kernel
theorem dX6_tuneDelay_55 : decode cX6_tuneDelay 55 = .ok (.getfield 12, 3) := by decide +kernel
theorem dX6_tuneDelay_58 : decode cX6_tuneDelay 58 = .ok (.bipush 7, 2) := by decide +kernel
theorem dX6_tuneDelay_60 : decode cX6_tuneDelay 60 = .ok (.bipush 10, 2) := by decide +kernel
theorem dX6_tuneDelay_62 : decode cX6_tuneDelay 62 = .ok (.iload_n 1, 1) := by decide +kernel
theorem dX6_tuneDelay_63 : decode cX6_tuneDelay 63 = .ok (.imul, 1) := by decide +kernel
theorem dX6_tuneDelay_64 : decode cX6_tuneDelay 64 = .ok (.invokevirtual 72, 3) := by decide +kernel
theorem dX6_tuneDelay_67 : decode cX6_tuneDelay 67 = .ok (.bipush 10, 2) := by decide +kernel
theorem dX6_tuneDelay_69 : decode cX6_tuneDelay 69 = .ok (.iload_n 1, 1) := by decide +kernel
theorem dX6_tuneDelay_70 : decode cX6_tuneDelay 70 = .ok (.imul, 1) := by decide +kernel
theorem dX6_tuneDelay_71 : decode cX6_tuneDelay 71 = .ok (.ireturn, 1) := by decide +kernel
set_option maxRecDepth 20000 in
theorem ggX6_ahead_X6_isSignal : GoodIn wsX6_ahead wsX6_isSignal := goodIn_r _ [8] (by decide +kernel) (by decide +kernel)
set_option maxRecDepth 20000 in
theorem gX6_ahead_X6_isSignal : GoodIn wsX6_ahead (va_wsS RX6 142 yX6_isSignal wsX6_isSignal) := goodIn_app (goodIn_of _ (by decide +kernel)) ggX6_ahead_X6_isSignal
set_option maxRecDepth 20000 in
theorem ggX6_ahead_X1_copy : GoodIn wsX6_ahead wsX1_copy := goodIn_r _ [13, 14, 15, 16, 17, 18, 19, 20, 21, 22, 23, 24, 25, 26, 27, 28, 29, 30, 31, 32, 33, 34, 35, 36, 37, 38, 39, 40, 41, 42, 43, 44, 45, 46, 47, 159, 160, 161, 162, 163, 164, 165, 166, 167, 168, 169, 170, 171, 172, 173, 174, 175, 176, 177] (by decide +kernel) (by decide +kernel)
set_option maxRecDepth 20000 in
theorem gX6_ahead_X1_copy : GoodIn wsX6_ahead (wsV RX6 213 RX1 yX1_copy wsX1_copy) := goodIn_app (goodIn_of _ (by decide +kernel)) ggX6_ahead_X1_copy
set_option maxRecDepth 20000 in
theorem ggX6_ahead_X6_advance : GoodIn wsX6_ahead wsX6_advance := goodIn_r _ [51, 52, 53, 54, 55, 12, 56, 19, 57, 58, 59, 60, 25, 26, 14, 61, 62, 63, 64, 65, 66, 67, 7, 68, 69, 70, 71, 72, 73, 74, 16, 75, 76, 77, 78, 79, 80, 81, 82, 83, 84, 85, 24, 6, 8, 86, 87, 88, 89, 90, 91, 92, 93, 94, 95, 96, 97, 98, 99, 100, 101, 102, 103, 17, 18, 104, 105, 106, 107, 108, 109, 110, 111, 112, 113, 114, 115, 116, 117, 118, 119, 120, 121, 122, 123, 124, 125, 126, 30, 127, 32, 128, 33, 34, 36, 129, 130, 131, 35, 132, 133, 134, 40, 135, 47, 42, 136, 137, 138, 139, 44, 45, 46, 140, 141, 142, 143, 144, 145, 146, 147, 15, 148, 149, 150, 151, 152, 153, 154, 155, 156, 157, 158, 159, 160, 161, 162, 163, 164, 165, 166, 167, 178, 168, 169, 170, 171, 172, 173, 174, 175, 176, 177] (by decide +kernel) (by decide +kernel)
set_option maxRecDepth 20000 in
theorem gX6_ahead_X6_advance : GoodIn wsX6_ahead (wsV RX6 138 RX6 yX6_advance wsX6_advance) := goodIn_app (goodIn_of _ (by decide +kernel)) ggX6_ahead_X6_advance
theorem dX6_ahead_0 : decode cX6_ahead 0 = .ok (.iload_n 1, 1) := by decide +kernel
theorem dX6_ahead_1 : decode cX6_ahead 1 = .ok (.iconst 1, 1) := by decide +kernel
theorem dX6_ahead_2 : decode cX6_ahead 2 = .ok (.if_icmp .lt 17, 3) := by decide +kernel
theorem dX6_ahead_5 : decode cX6_ahead 5 = .ok (.iload_n 1, 1) := by decide +kernel
theorem dX6_ahead_6 : decode cX6_ahead 6 = .ok (.sipush 500, 3) := by decide +kernel
theorem dX6_ahead_9 : decode cX6_ahead 9 = .ok (.if_icmp .gt 10, 3) := by decide +kernel
theorem dX6_ahead_12 : decode cX6_ahead 12 = .ok (.iload_n 2, 1) := by decide +kernel
theorem dX6_ahead_13 : decode cX6_ahead 13 = .ok (.invokestatic 142, 3) := by decide +kernel
theorem dX6_ahead_16 : decode cX6_ahead 16 = .ok (.ifCond .ne 6, 3) := by decide +kernel
theorem dX6_ahead_19 : decode cX6_ahead 19 = .ok (.ldc 63, 2) := by decide +kernel
theorem dX6_ahead_21 : decode cX6_ahead 21 = .ok (.ireturn, 1) := by decide +kernel
theorem dX6_ahead_22 : decode cX6_ahead 22 = .ok (.aload_n 0, 1) := by decide +kernel
theorem dX6_ahead_23 : decode cX6_ahead 23 = .ok (.getfield 53, 3) := by decide +kernel
theorem dX6_ahead_26 : decode cX6_ahead 26 = .ok (.aload_n 0, 1) := by decide +kernel
theorem dX6_ahead_27 : decode cX6_ahead 27 = .ok (.getfield 33, 3) := by decide +kernel
theorem dX6_ahead_30 : decode cX6_ahead 30 = .ok (.invokevirtual 213, 3) := by decide +kernel
theorem dX6_ahead_33 : decode cX6_ahead 33 = .ok (.aload_n 0, 1) := by decide +kernel
theorem dX6_ahead_34 : decode cX6_ahead 34 = .ok (.aload_n 0, 1) := by decide +kernel
theorem dX6_ahead_35 : decode cX6_ahead 35 = .ok (.getfield 53, 3) := by decide +kernel
theorem dX6_ahead_38 : decode cX6_ahead 38 = .ok (.iload_n 1, 1) := by decide +kernel
theorem dX6_ahead_39 : decode cX6_ahead 39 = .ok (.invokevirtual 138, 3) := by decide +kernel
theorem dX6_ahead_42 : decode cX6_ahead 42 = .ok (.aload_n 0, 1) := by decide +kernel
theorem dX6_ahead_43 : decode cX6_ahead 43 = .ok (.getfield 53, 3) := by decide +kernel
theorem dX6_ahead_46 : decode cX6_ahead 46 = .ok (.getfield 145, 3) := by decide +kernel
theorem dX6_ahead_49 : decode cX6_ahead 49 = .ok (.iload_n 2, 1) := by decide +kernel
theorem dX6_ahead_50 : decode cX6_ahead 50 = .ok (.iaload, 1) := by decide +kernel
theorem dX6_ahead_51 : decode cX6_ahead 51 = .ok (.ireturn, 1) := by decide +kernel
set_option maxRecDepth 20000 in
theorem ggX6_bestGain_X6_errorsWith : GoodIn wsX6_bestGain wsX6_errorsWith := goodIn_r _ [6, 7, 8, 9, 10, 11, 12, 13, 14, 15, 16, 17, 18, 19, 20, 21, 22, 23, 24, 25, 26, 27, 28, 29, 30, 5, 31, 32, 33, 34, 35, 36, 37, 38, 39, 40, 41, 42, 43, 44, 45, 46, 47, 48, 49, 50, 51, 52, 53, 54, 55, 56, 57, 58, 59, 60, 61, 62, 63, 64, 65, 66, 67, 68, 69, 70, 71, 72, 73, 74, 75, 76, 77, 78, 79, 80, 81, 82, 83, 84, 85, 86, 87, 88, 89, 90, 91, 92, 93, 94, 95, 96, 97, 98, 99, 100, 101, 102, 103, 104, 105, 106, 107, 108, 109, 110, 111, 112, 113, 114, 115, 116, 117, 118, 119, 120, 121, 122, 123, 124, 125, 126, 127, 128, 129, 130, 131, 132, 133, 134, 135, 136, 137, 138, 139, 140, 141, 142, 143, 144, 145, 146, 147, 148, 149, 150, 151, 152, 153, 154, 155, 156, 157, 158, 159, 160, 161, 162, 163, 164, 165, 166, 167, 168, 169, 170, 171, 172, 173, 174, 175, 176, 177, 178, 179, 180, 181, 182, 183, 184, 185, 186, 187, 188] (by decide +kernel) (by decide +kernel)
set_option maxRecDepth 20000 in
theorem gX6_bestGain_X6_errorsWith : GoodIn wsX6_bestGain (wsV RX6 226 RX6 yX6_errorsWith wsX6_errorsWith) := goodIn_app (goodIn_of _ (by decide +kernel)) ggX6_bestGain_X6_errorsWith
theorem dX6_bestGain_0 : decode cX6_bestGain 0 = .ok (.iload_n 1, 1) := by decide +kernel
theorem dX6_bestGain_1 : decode cX6_bestGain 1 = .ok (.iconst 1, 1) := by decide +kernel
theorem dX6_bestGain_2 : decode cX6_bestGain 2 = .ok (.if_icmp .lt 9, 3) := by decide +kernel
theorem dX6_bestGain_5 : decode cX6_bestGain 5 = .ok (.iload_n 1, 1) := by decide +kernel
theorem dX6_bestGain_6 : decode cX6_bestGain 6 = .ok (.bipush 100, 2) := by decide +kernel
theorem dX6_bestGain_8 : decode cX6_bestGain 8 = .ok (.if_icmp .le 6, 3) := by decide +kernel
theorem dX6_bestGain_11 : decode cX6_bestGain 11 = .ok (.ldc 63, 2) := by decide +kernel
theorem dX6_bestGain_13 : decode cX6_bestGain 13 = .ok (.ireturn, 1) := by decide +kernel
theorem dX6_bestGain_14 : decode cX6_bestGain 14 = .ok (.iconst 0, 1) := by decide +kernel
theorem dX6_bestGain_15 : decode cX6_bestGain 15 = .ok (.istore_n 2, 1) := by decide +kernel
theorem dX6_bestGain_16 : decode cX6_bestGain 16 = .ok (.aload_n 0, 1) := by decide +kernel
theorem dX6_bestGain_17 : decode cX6_bestGain 17 = .ok (.iconst 0, 1) := by decide +kernel
theorem dX6_bestGain_18 : decode cX6_bestGain 18 = .ok (.iload_n 1, 1) := by decide +kernel
theorem dX6_bestGain_19 : decode cX6_bestGain 19 = .ok (.invokevirtual 226, 3) := by decide +kernel
theorem dX6_bestGain_22 : decode cX6_bestGain 22 = .ok (.lstore_n 3, 1) := by decide +kernel
theorem dX6_bestGain_23 : decode cX6_bestGain 23 = .ok (.sipush 250, 3) := by decide +kernel
theorem dX6_bestGain_26 : decode cX6_bestGain 26 = .ok (.istore 5, 2) := by decide +kernel
theorem dX6_bestGain_28 : decode cX6_bestGain 28 = .ok (.iload 5, 2) := by decide +kernel
theorem dX6_bestGain_30 : decode cX6_bestGain 30 = .ok (.sipush 5000, 3) := by decide +kernel
theorem dX6_bestGain_33 : decode cX6_bestGain 33 = .ok (.if_icmp .gt 34, 3) := by decide +kernel
theorem dX6_bestGain_36 : decode cX6_bestGain 36 = .ok (.aload_n 0, 1) := by decide +kernel
theorem dX6_bestGain_37 : decode cX6_bestGain 37 = .ok (.iload 5, 2) := by decide +kernel
theorem dX6_bestGain_39 : decode cX6_bestGain 39 = .ok (.iload_n 1, 1) := by decide +kernel
theorem dX6_bestGain_40 : decode cX6_bestGain 40 = .ok (.invokevirtual 226, 3) := by decide +kernel
theorem dX6_bestGain_43 : decode cX6_bestGain 43 = .ok (.lstore 6, 2) := by decide +kernel
theorem dX6_bestGain_45 : decode cX6_bestGain 45 = .ok (.lload 6, 2) := by decide +kernel
theorem dX6_bestGain_47 : decode cX6_bestGain 47 = .ok (.lload_n 3, 1) := by decide +kernel
theorem dX6_bestGain_48 : decode cX6_bestGain 48 = .ok (.lcmp, 1) := by decide +kernel
theorem dX6_bestGain_49 : decode cX6_bestGain 49 = .ok (.ifCond .ge 9, 3) := by decide +kernel
theorem dX6_bestGain_52 : decode cX6_bestGain 52 = .ok (.lload 6, 2) := by decide +kernel
theorem dX6_bestGain_54 : decode cX6_bestGain 54 = .ok (.lstore_n 3, 1) := by decide +kernel
theorem dX6_bestGain_55 : decode cX6_bestGain 55 = .ok (.iload 5, 2) := by decide +kernel
theorem dX6_bestGain_57 : decode cX6_bestGain 57 = .ok (.istore_n 2, 1) := by decide +kernel
theorem dX6_bestGain_58 : decode cX6_bestGain 58 = .ok (.iinc 5 250, 6) := by decide +kernel
theorem dX6_bestGain_64 : decode cX6_bestGain 64 = .ok (.goto (-36), 3) := by decide +kernel
theorem dX6_bestGain_67 : decode cX6_bestGain 67 = .ok (.iload_n 2, 1) := by decide +kernel
theorem dX6_bestGain_68 : decode cX6_bestGain 68 = .ok (.ireturn, 1) := by decide +kernel
set_option maxRecDepth 20000 in
theorem ggX6_idealDifference_X6_prepareIdeal : GoodIn wsX6_idealDifference wsX6_prepareIdeal := goodIn_r _ [15, 4, 2, 6, 3, 16, 17, 5, 18, 19, 20, 21, 22, 23, 24, 25, 26, 27, 28, 29, 30, 31, 32, 14, 33, 34, 35, 36, 37, 38, 39, 40, 41, 42, 43, 44, 45, 46, 47, 48, 49, 50, 51, 52, 53, 54, 55, 56, 57, 58, 59, 60, 61, 165, 166, 167, 168, 169, 170, 171, 172, 173, 174, 175, 176, 177, 178, 179, 180, 181, 182, 183, 184, 185, 186, 187, 188, 189, 190, 191, 192, 193, 194, 195] (by decide +kernel) (by decide +kernel)
set_option maxRecDepth 20000 in
theorem gX6_idealDifference_X6_prepareIdeal : GoodIn wsX6_idealDifference (wsV RX6 230 RX6 yX6_prepareIdeal wsX6_prepareIdeal) := goodIn_app (goodIn_of _ (by decide +kernel)) ggX6_idealDifference_X6_prepareIdeal
set_option maxRecDepth 20000 in
theorem ggX6_idealDifference_X3_get : GoodIn wsX6_idealDifference wsX3_get := goodIn_r _ [65, 23, 32, 14, 33, 185] (by decide +kernel) (by decide +kernel)
set_option maxRecDepth 20000 in
theorem gX6_idealDifference_X3_get : GoodIn wsX6_idealDifference (wsV RX6 64 RX3 yX3_get wsX3_get) := goodIn_app (goodIn_of _ (by decide +kernel)) ggX6_idealDifference_X3_get
set_option maxRecDepth 20000 in
theorem ggX6_idealDifference_X1_tick : GoodIn wsX6_idealDifference wsX1_tick := goodIn_r _ [69, 44, 70, 71, 9, 72, 45, 46, 39, 73, 63, 64, 21, 65, 23, 32, 14, 33, 74, 75, 76, 37, 77, 78, 79, 41, 80, 81, 82, 83, 84, 85, 86, 87, 88, 89, 90, 91, 92, 93, 94, 95, 96, 97, 98, 99, 100, 101, 102, 103, 104, 105, 106, 107, 108, 109, 110, 111, 42, 43, 112, 113, 114, 115, 116, 117, 118, 119, 120, 121, 122, 123, 124, 125, 126, 127, 128, 129, 130, 131, 132, 133, 134, 51, 135, 53, 136, 54, 55, 57, 137, 8, 10, 56, 138, 139, 140, 141, 142, 143, 144, 145, 146, 147, 148, 149, 150, 151, 152, 153, 154, 155, 156, 157, 158, 159, 40, 176, 177, 178, 179, 180, 181, 182, 183, 184, 185, 191, 192, 193, 194, 195, 186, 187, 188, 189, 190] (by decide +kernel) (by decide +kernel)
set_option maxRecDepth 20000 in
theorem gX6_idealDifference_X1_tick : GoodIn wsX6_idealDifference (wsV RX6 233 RX1 yX1_tick wsX1_tick) := goodIn_app (goodIn_of _ (by decide +kernel)) ggX6_idealDifference_X1_tick
set_option maxRecDepth 20000 in
theorem ggX6_idealDifference_X6_difference : GoodIn wsX6_idealDifference wsX6_difference := goodIn_r _ [163, 3, 17, 5, 164, 71, 9, 72, 165, 166, 167, 168, 169, 170, 171, 172, 173, 174, 175, 176, 177, 178, 179, 180, 181, 182, 183, 184] (by decide +kernel) (by decide +kernel)
set_option maxRecDepth 20000 in
theorem gX6_idealDifference_X6_difference : GoodIn wsX6_idealDifference (wsV RX6 237 RX6 yX6_difference wsX6_difference) := goodIn_app (goodIn_of _ (by decide +kernel)) ggX6_idealDifference_X6_difference
theorem dX6_idealDifference_0 : decode cX6_idealDifference 0 = .ok (.iload_n 1, 1) := by decide +kernel
theorem dX6_idealDifference_1 : decode cX6_idealDifference 1 = .ok (.iconst 1, 1) := by decide +kernel
theorem dX6_idealDifference_2 : decode cX6_idealDifference 2 = .ok (.if_icmp .lt 10, 3) := by decide +kernel
theorem dX6_idealDifference_5 : decode cX6_idealDifference 5 = .ok (.iload_n 1, 1) := by decide +kernel
theorem dX6_idealDifference_6 : decode cX6_idealDifference 6 = .ok (.sipush 200, 3) := by decide +kernel
theorem dX6_idealDifference_9 : decode cX6_idealDifference 9 = .ok (.if_icmp .le 6, 3) := by decide +kernel
theorem dX6_idealDifference_12 : decode cX6_idealDifference 12 = .ok (.ldc 63, 2) := by decide +kernel
theorem dX6_idealDifference_14 : decode cX6_idealDifference 14 = .ok (.ireturn, 1) := by decide +kernel
theorem dX6_idealDifference_15 : decode cX6_idealDifference 15 = .ok (.aload_n 0, 1) := by decide +kernel
theorem dX6_idealDifference_16 : decode cX6_idealDifference 16 = .ok (.invokevirtual 230, 3) := by decide +kernel
theorem dX6_idealDifference_19 : decode cX6_idealDifference 19 = .ok (.iconst 0, 1) := by decide +kernel
theorem dX6_idealDifference_20 : decode cX6_idealDifference 20 = .ok (.istore_n 2, 1) := by decide +kernel
theorem dX6_idealDifference_21 : decode cX6_idealDifference 21 = .ok (.iload_n 2, 1) := by decide +kernel
theorem dX6_idealDifference_22 : decode cX6_idealDifference 22 = .ok (.aload_n 0, 1) := by decide +kernel
theorem dX6_idealDifference_23 : decode cX6_idealDifference 23 = .ok (.getfield 12, 3) := by decide +kernel
theorem dX6_idealDifference_26 : decode cX6_idealDifference 26 = .ok (.iconst 4, 1) := by decide +kernel
theorem dX6_idealDifference_27 : decode cX6_idealDifference 27 = .ok (.invokevirtual 64, 3) := by decide +kernel
theorem dX6_idealDifference_30 : decode cX6_idealDifference 30 = .ok (.bipush 10, 2) := by decide +kernel
theorem dX6_idealDifference_32 : decode cX6_idealDifference 32 = .ok (.idiv, 1) := by decide +kernel
theorem dX6_idealDifference_33 : decode cX6_idealDifference 33 = .ok (.if_icmp .ge 21, 3) := by decide +kernel
theorem dX6_idealDifference_36 : decode cX6_idealDifference 36 = .ok (.aload_n 0, 1) := by decide +kernel
theorem dX6_idealDifference_37 : decode cX6_idealDifference 37 = .ok (.getfield 53, 3) := by decide +kernel
theorem dX6_idealDifference_40 : decode cX6_idealDifference 40 = .ok (.aload_n 0, 1) := by decide +kernel
theorem dX6_idealDifference_41 : decode cX6_idealDifference 41 = .ok (.getfield 47, 3) := by decide +kernel
theorem dX6_idealDifference_44 : decode cX6_idealDifference 44 = .ok (.iconst 0, 1) := by decide +kernel
theorem dX6_idealDifference_45 : decode cX6_idealDifference 45 = .ok (.invokevirtual 233, 3) := by decide +kernel
theorem dX6_idealDifference_48 : decode cX6_idealDifference 48 = .ok (.iinc 2 1, 3) := by decide +kernel
theorem dX6_idealDifference_51 : decode cX6_idealDifference 51 = .ok (.goto (-30), 3) := by decide +kernel
theorem dX6_idealDifference_54 : decode cX6_idealDifference 54 = .ok (.aload_n 0, 1) := by decide +kernel
theorem dX6_idealDifference_55 : decode cX6_idealDifference 55 = .ok (.invokevirtual 237, 3) := by decide +kernel
theorem dX6_idealDifference_58 : decode cX6_idealDifference 58 = .ok (.istore_n 2, 1) := by decide +kernel
theorem dX6_idealDifference_59 : decode cX6_idealDifference 59 = .ok (.iconst 0, 1) := by decide +kernel
theorem dX6_idealDifference_60 : decode cX6_idealDifference 60 = .ok (.istore_n 3, 1) := by decide +kernel
theorem dX6_idealDifference_61 : decode cX6_idealDifference 61 = .ok (.iload_n 3, 1) := by decide +kernel
theorem dX6_idealDifference_62 : decode cX6_idealDifference 62 = .ok (.iload_n 1, 1) := by decide +kernel
theorem dX6_idealDifference_63 : decode cX6_idealDifference 63 = .ok (.if_icmp .ge 42, 3) := by decide +kernel
theorem dX6_idealDifference_66 : decode cX6_idealDifference 66 = .ok (.aload_n 0, 1) := by decide +kernel
theorem dX6_idealDifference_67 : decode cX6_idealDifference 67 = .ok (.getfield 53, 3) := by decide +kernel
theorem dX6_idealDifference_70 : decode cX6_idealDifference 70 = .ok (.aload_n 0, 1) := by decide +kernel
theorem dX6_idealDifference_71 : decode cX6_idealDifference 71 = .ok (.getfield 47, 3) := by decide +kernel
theorem dX6_idealDifference_74 : decode cX6_idealDifference 74 = .ok (.iconst 0, 1) := by decide +kernel
theorem dX6_idealDifference_75 : decode cX6_idealDifference 75 = .ok (.invokevirtual 233, 3) := by decide +kernel
theorem dX6_idealDifference_78 : decode cX6_idealDifference 78 = .ok (.aload_n 0, 1) := by decide +kernel
theorem dX6_idealDifference_79 : decode cX6_idealDifference 79 = .ok (.getfield 56, 3) := by decide +kernel
theorem dX6_idealDifference_82 : decode cX6_idealDifference 82 = .ok (.aload_n 0, 1) := by decide +kernel
theorem dX6_idealDifference_83 : decode cX6_idealDifference 83 = .ok (.getfield 50, 3) := by decide +kernel
theorem dX6_idealDifference_86 : decode cX6_idealDifference 86 = .ok (.iconst 1, 1) := by decide +kernel
theorem dX6_idealDifference_87 : decode cX6_idealDifference 87 = .ok (.invokevirtual 233, 3) := by decide +kernel
theorem dX6_idealDifference_90 : decode cX6_idealDifference 90 = .ok (.iload_n 2, 1) := by decide +kernel
theorem dX6_idealDifference_91 : decode cX6_idealDifference 91 = .ok (.aload_n 0, 1) := by decide +kernel
theorem dX6_idealDifference_92 : decode cX6_idealDifference 92 = .ok (.invokevirtual 237, 3) := by decide +kernel
theorem dX6_idealDifference_95 : decode cX6_idealDifference 95 = .ok (.invokestatic 240, 3) := by decide +kernel
theorem dX6_idealDifference_98 : decode cX6_idealDifference 98 = .ok (.istore_n 2, 1) := by decide +kernel
theorem dX6_idealDifference_99 : decode cX6_idealDifference 99 = .ok (.iinc 3 1, 3) := by decide +kernel
theorem dX6_idealDifference_102 : decode cX6_idealDifference 102 = .ok (.goto (-41), 3) := by decide +kernel
theorem dX6_idealDifference_105 : decode cX6_idealDifference 105 = .ok (.iload_n 2, 1) := by decide +kernel
theorem dX6_idealDifference_106 : decode cX6_idealDifference 106 = .ok (.ireturn, 1) := by decide +kernel
theorem dX6_isParameter_0 : decode cX6_isParameter 0 = .ok (.iload_n 0, 1) := by decide +kernel
theorem dX6_isParameter_1 : decode cX6_isParameter 1 = .ok (.ifCond .lt 13, 3) := by decide +kernel
theorem dX6_isParameter_4 : decode cX6_isParameter 4 = .ok (.iload_n 0, 1) := by decide +kernel
theorem dX6_isParameter_5 : decode cX6_isParameter 5 = .ok (.bipush 15, 2) := by decide +kernel
theorem dX6_isParameter_7 : decode cX6_isParameter 7 = .ok (.if_icmp .ge 7, 3) := by decide +kernel
theorem dX6_isParameter_10 : decode cX6_isParameter 10 = .ok (.iconst 1, 1) := by decide +kernel
theorem dX6_isParameter_11 : decode cX6_isParameter 11 = .ok (.goto 4, 3) := by decide +kernel
theorem dX6_isParameter_14 : decode cX6_isParameter 14 = .ok (.iconst 0, 1) := by decide +kernel
theorem dX6_isParameter_15 : decode cX6_isParameter 15 = .ok (.ireturn, 1) := by decide +kernel
theorem dX6_isSignal_0 : decode cX6_isSignal 0 = .ok (.iload_n 0, 1) := by decide +kernel
theorem dX6_isSignal_1 : decode cX6_isSignal 1 = .ok (.ifCond .lt 13, 3) := by decide +kernel
theorem dX6_isSignal_4 : decode cX6_isSignal 4 = .ok (.iload_n 0, 1) := by decide +kernel
theorem dX6_isSignal_5 : decode cX6_isSignal 5 = .ok (.bipush 10, 2) := by decide +kernel
theorem dX6_isSignal_7 : decode cX6_isSignal 7 = .ok (.if_icmp .ge 7, 3) := by decide +kernel
theorem dX6_isSignal_10 : decode cX6_isSignal 10 = .ok (.iconst 1, 1) := by decide +kernel
theorem dX6_isSignal_11 : decode cX6_isSignal 11 = .ok (.goto 4, 3) := by decide +kernel
theorem dX6_isSignal_14 : decode cX6_isSignal 14 = .ok (.iconst 0, 1) := by decide +kernel
theorem dX6_isSignal_15 : decode cX6_isSignal 15 = .ok (.ireturn, 1) := by decide +kernel
theorem dX6_isLevel_0 : decode cX6_isLevel 0 = .ok (.iload_n 0, 1) := by decide +kernel
theorem dX6_isLevel_1 : decode cX6_isLevel 1 = .ok (.ldc 243, 2) := by decide +kernel
theorem dX6_isLevel_3 : decode cX6_isLevel 3 = .ok (.if_icmp .lt 13, 3) := by decide +kernel
theorem dX6_isLevel_6 : decode cX6_isLevel 6 = .ok (.iload_n 0, 1) := by decide +kernel
theorem dX6_isLevel_7 : decode cX6_isLevel 7 = .ok (.ldc 134, 2) := by decide +kernel
theorem dX6_isLevel_9 : decode cX6_isLevel 9 = .ok (.if_icmp .gt 7, 3) := by decide +kernel
theorem dX6_isLevel_12 : decode cX6_isLevel 12 = .ok (.iconst 1, 1) := by decide +kernel
theorem dX6_isLevel_13 : decode cX6_isLevel 13 = .ok (.goto 4, 3) := by decide +kernel
theorem dX6_isLevel_16 : decode cX6_isLevel 16 = .ok (.iconst 0, 1) := by decide +kernel
theorem dX6_isLevel_17 : decode cX6_isLevel 17 = .ok (.ireturn, 1) := by decide +kernel
set_option maxRecDepth 20000 in
theorem ggX6_allows_X6_isParameter : GoodIn wsX6_allows wsX6_isParameter := goodIn_r _ [6] (by decide +kernel) (by decide +kernel)
set_option maxRecDepth 20000 in
theorem gX6_allows_X6_isParameter : GoodIn wsX6_allows (va_wsS RX6 76 yX6_isParameter wsX6_isParameter) := goodIn_app (goodIn_of _ (by decide +kernel)) ggX6_allows_X6_isParameter
theorem dX6_allows_0 : decode cX6_allows 0 = .ok (.iload_n 0, 1) := by decide +kernel
theorem dX6_allows_1 : decode cX6_allows 1 = .ok (.invokestatic 76, 3) := by decide +kernel
theorem dX6_allows_4 : decode cX6_allows 4 = .ok (.ifCond .eq 25, 3) := by decide +kernel
theorem dX6_allows_7 : decode cX6_allows 7 = .ok (.iload_n 1, 1) := by decide +kernel
theorem dX6_allows_8 : decode cX6_allows 8 = .ok (.getstatic 244, 3) := by decide +kernel
theorem dX6_allows_11 : decode cX6_allows 11 = .ok (.iload_n 0, 1) := by decide +kernel
theorem dX6_allows_12 : decode cX6_allows 12 = .ok (.iaload, 1) := by decide +kernel
theorem dX6_allows_13 : decode cX6_allows 13 = .ok (.if_icmp .lt 16, 3) := by decide +kernel
theorem dX6_allows_16 : decode cX6_allows 16 = .ok (.iload_n 1, 1) := by decide +kernel
theorem dX6_allows_17 : decode cX6_allows 17 = .ok (.getstatic 247, 3) := by decide +kernel
theorem dX6_allows_20 : decode cX6_allows 20 = .ok (.iload_n 0, 1) := by decide +kernel
theorem dX6_allows_21 : decode cX6_allows 21 = .ok (.iaload, 1) := by decide +kernel
theorem dX6_allows_22 : decode cX6_allows 22 = .ok (.if_icmp .gt 7, 3) := by decide +kernel
theorem dX6_allows_25 : decode cX6_allows 25 = .ok (.iconst 1, 1) := by decide +kernel
theorem dX6_allows_26 : decode cX6_allows 26 = .ok (.goto 4, 3) := by decide +kernel
theorem dX6_allows_29 : decode cX6_allows 29 = .ok (.iconst 0, 1) := by decide +kernel
theorem dX6_allows_30 : decode cX6_allows 30 = .ok (.ireturn, 1) := by decide +kernel
theorem dX6_nameOf_0 : decode cX6_nameOf 0 = .ok (.iload_n 0, 1) := by decide +kernel
theorem dX6_nameOf_1 : decode cX6_nameOf 1 = .ok (.tableswitch 124 0 13 #[71, 74, 77, 80, 84, 88, 92, 96, 100, 104, 108, 112, 116, 120], 71) := by decide +kernel
theorem dX6_nameOf_72 : decode cX6_nameOf 72 = .ok (.ldc 250, 2) := by decide +kernel
theorem dX6_nameOf_74 : decode cX6_nameOf 74 = .ok (.areturn, 1) := by decide +kernel
theorem dX6_nameOf_75 : decode cX6_nameOf 75 = .ok (.ldc 252, 2) := by decide +kernel
theorem dX6_nameOf_77 : decode cX6_nameOf 77 = .ok (.areturn, 1) := by decide +kernel
theorem dX6_nameOf_78 : decode cX6_nameOf 78 = .ok (.ldc 254, 2) := by decide +kernel
theorem dX6_nameOf_80 : decode cX6_nameOf 80 = .ok (.areturn, 1) := by decide +kernel
theorem dX6_nameOf_81 : decode cX6_nameOf 81 = .ok (.ldc_w 256, 3) := by decide +kernel
theorem dX6_nameOf_84 : decode cX6_nameOf 84 = .ok (.areturn, 1) := by decide +kernel
theorem dX6_nameOf_85 : decode cX6_nameOf 85 = .ok (.ldc_w 258, 3) := by decide +kernel
theorem dX6_nameOf_88 : decode cX6_nameOf 88 = .ok (.areturn, 1) := by decide +kernel
theorem dX6_nameOf_89 : decode cX6_nameOf 89 = .ok (.ldc_w 260, 3) := by decide +kernel
theorem dX6_nameOf_92 : decode cX6_nameOf 92 = .ok (.areturn, 1) := by decide +kernel
theorem dX6_nameOf_93 : decode cX6_nameOf 93 = .ok (.ldc_w 262, 3) := by decide +kernel
theorem dX6_nameOf_96 : decode cX6_nameOf 96 = .ok (.areturn, 1) := by decide +kernel
theorem dX6_nameOf_97 : decode cX6_nameOf 97 = .ok (.ldc_w 264, 3) := by decide +kernel
theorem dX6_nameOf_100 : decode cX6_nameOf 100 = .ok (.areturn, 1) := by decide +kernel
theorem dX6_nameOf_101 : decode cX6_nameOf 101 = .ok (.ldc_w 266, 3) := by decide +kernel
theorem dX6_nameOf_104 : decode cX6_nameOf 104 = .ok (.areturn, 1) := by decide +kernel
theorem dX6_nameOf_105 : decode cX6_nameOf 105 = .ok (.ldc_w 268, 3) := by decide +kernel
theorem dX6_nameOf_108 : decode cX6_nameOf 108 = .ok (.areturn, 1) := by decide +kernel
theorem dX6_nameOf_109 : decode cX6_nameOf 109 = .ok (.ldc_w 270, 3) := by decide +kernel
theorem dX6_nameOf_112 : decode cX6_nameOf 112 = .ok (.areturn, 1) := by decide +kernel
theorem dX6_nameOf_113 : decode cX6_nameOf 113 = .ok (.ldc_w 272, 3) := by decide +kernel
theorem dX6_nameOf_116 : decode cX6_nameOf 116 = .ok (.areturn, 1) := by decide +kernel
theorem dX6_nameOf_117 : decode cX6_nameOf 117 = .ok (.ldc_w 274, 3) := by decide +kernel
theorem dX6_nameOf_120 : decode cX6_nameOf 120 = .ok (.areturn, 1) := by decide +kernel
theorem dX6_nameOf_121 : decode cX6_nameOf 121 = .ok (.ldc_w 276, 3) := by decide +kernel
theorem dX6_nameOf_124 : decode cX6_nameOf 124 = .ok (.areturn, 1) := by decide +kernel
theorem dX6_nameOf_125 : decode cX6_nameOf 125 = .ok (.ldc_w 278, 3) := by decide +kernel
theorem dX6_nameOf_128 : decode cX6_nameOf 128 = .ok (.areturn, 1) := by decide +kernel
set_option maxRecDepth 20000 in
theorem ggX6_thousandth_J9_floorDiv_f86c9 : GoodIn wsX6_thousandth wsJ9_floorDiv_f86c9 := goodIn_r _ [5] (by decide +kernel) (by decide +kernel)
set_option maxRecDepth 20000 in
theorem gX6_thousandth_J9_floorDiv_f86c9 : GoodIn wsX6_thousandth (va_wsS RX6 282 yJ9_floorDiv_f86c9 wsJ9_floorDiv_f86c9) := goodIn_app (goodIn_of _ (by decide +kernel)) ggX6_thousandth_J9_floorDiv_f86c9
theorem dX6_thousandth_0 : decode cX6_thousandth 0 = .ok (.lload_n 0, 1) := by decide +kernel
theorem dX6_thousandth_1 : decode cX6_thousandth 1 = .ok (.ldc2_w 280, 3) := by decide +kernel
theorem dX6_thousandth_4 : decode cX6_thousandth 4 = .ok (.invokestatic 282, 3) := by decide +kernel
theorem dX6_thousandth_7 : decode cX6_thousandth 7 = .ok (.lreturn, 1) := by decide +kernel
set_option maxRecDepth 20000 in
theorem ggX6_stepped_X6_thousandth : GoodIn wsX6_stepped wsX6_thousandth := goodIn_r _ [4, 5, 6, 7, 8, 9] (by decide +kernel) (by decide +kernel)
set_option maxRecDepth 20000 in
theorem gX6_stepped_X6_thousandth : GoodIn wsX6_stepped (va_wsS RX6 286 yX6_thousandth wsX6_thousandth) := goodIn_app (goodIn_of _ (by decide +kernel)) ggX6_stepped_X6_thousandth
theorem dX6_stepped_0 : decode cX6_stepped 0 = .ok (.lload_n 0, 1) := by decide +kernel
theorem dX6_stepped_1 : decode cX6_stepped 1 = .ok (.lload 4, 2) := by decide +kernel
theorem dX6_stepped_3 : decode cX6_stepped 3 = .ok (.lload_n 2, 1) := by decide +kernel
theorem dX6_stepped_4 : decode cX6_stepped 4 = .ok (.lload_n 0, 1) := by decide +kernel
theorem dX6_stepped_5 : decode cX6_stepped 5 = .ok (.lsub, 1) := by decide +kernel
theorem dX6_stepped_6 : decode cX6_stepped 6 = .ok (.lmul, 1) := by decide +kernel
theorem dX6_stepped_7 : decode cX6_stepped 7 = .ok (.invokestatic 286, 3) := by decide +kernel
theorem dX6_stepped_10 : decode cX6_stepped 10 = .ok (.ladd, 1) := by decide +kernel
theorem dX6_stepped_11 : decode cX6_stepped 11 = .ok (.l2i, 1) := by decide +kernel
theorem dX6_stepped_12 : decode cX6_stepped 12 = .ok (.ireturn, 1) := by decide +kernel
theorem dX6_limited_0 : decode cX6_limited 0 = .ok (.lload_n 0, 1) := by decide +kernel
theorem dX6_limited_1 : decode cX6_limited 1 = .ok (.lload_n 2, 1) := by decide +kernel
theorem dX6_limited_2 : decode cX6_limited 2 = .ok (.invokestatic 290, 3) := by decide +kernel
theorem dX6_limited_5 : decode cX6_limited 5 = .ok (.lload 4, 2) := by decide +kernel
theorem dX6_limited_7 : decode cX6_limited 7 = .ok (.invokestatic 292, 3) := by decide +kernel
theorem dX6_limited_10 : decode cX6_limited 10 = .ok (.lreturn, 1) := by decide +kernel
theorem dX6_storedAt_0 : decode cX6_storedAt 0 = .ok (.iload_n 1, 1) := by decide +kernel
theorem dX6_storedAt_1 : decode cX6_storedAt 1 = .ok (.ifCond .ne 10, 3) := by decide +kernel
theorem dX6_storedAt_4 : decode cX6_storedAt 4 = .ok (.aload_n 0, 1) := by decide +kernel
theorem dX6_storedAt_5 : decode cX6_storedAt 5 = .ok (.getfield 37, 3) := by decide +kernel
theorem dX6_storedAt_8 : decode cX6_storedAt 8 = .ok (.goto 7, 3) := by decide +kernel
theorem dX6_storedAt_11 : decode cX6_storedAt 11 = .ok (.aload_n 0, 1) := by decide +kernel
theorem dX6_storedAt_12 : decode cX6_storedAt 12 = .ok (.getfield 40, 3) := by decide +kernel
theorem dX6_storedAt_15 : decode cX6_storedAt 15 = .ok (.areturn, 1) := by decide +kernel
set_option maxRecDepth 20000 in
theorem ggX6_advance_X1_tick : GoodIn wsX6_advance wsX1_tick := goodIn_r _ [6, 7, 8, 9, 10, 11, 12, 13, 14, 15, 16, 17, 18, 19, 20, 21, 22, 23, 24, 25, 26, 5, 27, 28, 29, 30, 31, 32, 33, 34, 35, 36, 37, 38, 39, 40, 41, 42, 43, 44, 45, 46, 47, 48, 49, 50, 51, 52, 53, 54, 55, 56, 57, 58, 59, 60, 61, 62, 63, 64, 65, 66, 67, 68, 69, 70, 71, 72, 73, 74, 75, 76, 77, 78, 79, 80, 81, 82, 83, 84, 85, 86, 87, 88, 89, 90, 91, 92, 93, 94, 95, 96, 97, 98, 99, 100, 101, 102, 103, 104, 105, 106, 107, 108, 109, 110, 111, 112, 113, 114, 115, 116, 117, 118, 119, 120, 121, 133, 134, 135, 136, 137, 138, 139, 140, 141, 142, 143, 144, 145, 146, 147, 148, 149, 150, 151, 152] (by decide +kernel) (by decide +kernel)
set_option maxRecDepth 20000 in
theorem gX6_advance_X1_tick : GoodIn wsX6_advance (wsV RX6 233 RX1 yX1_tick wsX1_tick) := goodIn_app (goodIn_of _ (by decide +kernel)) ggX6_advance_X1_tick
theorem dX6_advance_0 : decode cX6_advance 0 = .ok (.iconst 0, 1) := by decide +kernel
theorem dX6_advance_1 : decode cX6_advance 1 = .ok (.istore_n 3, 1) := by decide +kernel
theorem dX6_advance_2 : decode cX6_advance 2 = .ok (.iload_n 3, 1) := by decide +kernel
theorem dX6_advance_3 : decode cX6_advance 3 = .ok (.iload_n 2, 1) := by decide +kernel
theorem dX6_advance_4 : decode cX6_advance 4 = .ok (.if_icmp .ge 18, 3) := by decide +kernel
theorem dX6_advance_7 : decode cX6_advance 7 = .ok (.aload_n 1, 1) := by decide +kernel
theorem dX6_advance_8 : decode cX6_advance 8 = .ok (.aload_n 0, 1) := by decide +kernel
theorem dX6_advance_9 : decode cX6_advance 9 = .ok (.getfield 12, 3) := by decide +kernel
theorem dX6_advance_12 : decode cX6_advance 12 = .ok (.iconst 0, 1) := by decide +kernel
theorem dX6_advance_13 : decode cX6_advance 13 = .ok (.invokevirtual 233, 3) := by decide +kernel
theorem dX6_advance_16 : decode cX6_advance 16 = .ok (.iinc 3 1, 3) := by decide +kernel
theorem dX6_advance_19 : decode cX6_advance 19 = .ok (.goto (-17), 3) := by decide +kernel
theorem dX6_advance_22 : decode cX6_advance 22 = .ok (.return_, 1) := by decide +kernel
set_option maxRecDepth 20000 in
theorem ggX6_correlationFor_X1_agreement : GoodIn wsX6_correlationFor wsX1_agreement := goodIn_r _ [7, 8, 9, 10, 11, 12, 13, 14, 15, 6, 16, 17, 18, 19, 20, 21, 22, 23, 24, 44, 45, 46, 47, 48, 49, 50, 51, 52] (by decide +kernel) (by decide +kernel)
set_option maxRecDepth 20000 in
theorem gX6_correlationFor_X1_agreement : GoodIn wsX6_correlationFor (wsV RX6 294 RX1 yX1_agreement wsX1_agreement) := goodIn_app (goodIn_of _ (by decide +kernel)) ggX6_correlationFor_X1_agreement
set_option maxRecDepth 20000 in
theorem ggX6_correlationFor_X3_get : GoodIn wsX6_correlationFor wsX3_get := goodIn_r _ [29, 30, 31, 19, 32, 53] (by decide +kernel) (by decide +kernel)
set_option maxRecDepth 20000 in
theorem gX6_correlationFor_X3_get : GoodIn wsX6_correlationFor (wsV RX6 64 RX3 yX3_get wsX3_get) := goodIn_app (goodIn_of _ (by decide +kernel)) ggX6_correlationFor_X3_get
theorem dX6_correlationFor_0 : decode cX6_correlationFor 0 = .ok (.aload_n 0, 1) := by decide +kernel
theorem dX6_correlationFor_1 : decode cX6_correlationFor 1 = .ok (.getfield 33, 3) := by decide +kernel
theorem dX6_correlationFor_4 : decode cX6_correlationFor 4 = .ok (.iload_n 1, 1) := by decide +kernel
theorem dX6_correlationFor_5 : decode cX6_correlationFor 5 = .ok (.invokevirtual 294, 3) := by decide +kernel
theorem dX6_correlationFor_8 : decode cX6_correlationFor 8 = .ok (.lstore_n 2, 1) := by decide +kernel
theorem dX6_correlationFor_9 : decode cX6_correlationFor 9 = .ok (.aload_n 0, 1) := by decide +kernel
theorem dX6_correlationFor_10 : decode cX6_correlationFor 10 = .ok (.getfield 12, 3) := by decide +kernel
theorem dX6_correlationFor_13 : decode cX6_correlationFor 13 = .ok (.iconst 5, 1) := by decide +kernel
theorem dX6_correlationFor_14 : decode cX6_correlationFor 14 = .ok (.invokevirtual 64, 3) := by decide +kernel
theorem dX6_correlationFor_17 : decode cX6_correlationFor 17 = .ok (.ifCond .ge 8, 3) := by decide +kernel
theorem dX6_correlationFor_20 : decode cX6_correlationFor 20 = .ok (.lload_n 2, 1) := by decide +kernel
theorem dX6_correlationFor_21 : decode cX6_correlationFor 21 = .ok (.lneg, 1) := by decide +kernel
theorem dX6_correlationFor_22 : decode cX6_correlationFor 22 = .ok (.goto 4, 3) := by decide +kernel
theorem dX6_correlationFor_25 : decode cX6_correlationFor 25 = .ok (.lload_n 2, 1) := by decide +kernel
theorem dX6_correlationFor_26 : decode cX6_correlationFor 26 = .ok (.lreturn, 1) := by decide +kernel
set_option maxRecDepth 20000 in
theorem ggX6_strongestLag_X6_correlationFor : GoodIn wsX6_strongestLag wsX6_correlationFor := goodIn_r _ [5, 6, 7, 8, 9, 10, 11, 12, 13, 14, 15, 16, 17, 18, 19, 20, 21, 22, 23, 4, 24, 25, 26, 27, 28, 29, 30, 31, 32, 33, 34, 35, 36, 37, 38, 39, 40, 41, 42, 43, 44, 45, 46, 47, 48, 49, 50, 51, 52, 53, 54, 55, 56, 57] (by decide +kernel) (by decide +kernel)
set_option maxRecDepth 20000 in
theorem gX6_strongestLag_X6_correlationFor : GoodIn wsX6_strongestLag (wsV RX6 217 RX6 yX6_correlationFor wsX6_correlationFor) := goodIn_app (goodIn_of _ (by decide +kernel)) ggX6_strongestLag_X6_correlationFor
theorem dX6_strongestLag_0 : decode cX6_strongestLag 0 = .ok (.iconst (-1), 1) := by decide +kernel
theorem dX6_strongestLag_1 : decode cX6_strongestLag 1 = .ok (.istore_n 2, 1) := by decide +kernel
theorem dX6_strongestLag_2 : decode cX6_strongestLag 2 = .ok (.lconst 0, 1) := by decide +kernel
theorem dX6_strongestLag_3 : decode cX6_strongestLag 3 = .ok (.lstore_n 3, 1) := by decide +kernel
theorem dX6_strongestLag_4 : decode cX6_strongestLag 4 = .ok (.iconst 0, 1) := by decide +kernel
theorem dX6_strongestLag_5 : decode cX6_strongestLag 5 = .ok (.istore 5, 2) := by decide +kernel
theorem dX6_strongestLag_7 : decode cX6_strongestLag 7 = .ok (.iload 5, 2) := by decide +kernel
theorem dX6_strongestLag_9 : decode cX6_strongestLag 9 = .ok (.bipush 30, 2) := by decide +kernel
theorem dX6_strongestLag_11 : decode cX6_strongestLag 11 = .ok (.if_icmp .gt 44, 3) := by decide +kernel
theorem dX6_strongestLag_14 : decode cX6_strongestLag 14 = .ok (.iload 5, 2) := by decide +kernel
theorem dX6_strongestLag_16 : decode cX6_strongestLag 16 = .ok (.iload_n 1, 1) := by decide +kernel
theorem dX6_strongestLag_17 : decode cX6_strongestLag 17 = .ok (.if_icmp .ne 6, 3) := by decide +kernel
theorem dX6_strongestLag_20 : decode cX6_strongestLag 20 = .ok (.goto 29, 3) := by decide +kernel
theorem dX6_strongestLag_23 : decode cX6_strongestLag 23 = .ok (.aload_n 0, 1) := by decide +kernel
theorem dX6_strongestLag_24 : decode cX6_strongestLag 24 = .ok (.iload 5, 2) := by decide +kernel
theorem dX6_strongestLag_26 : decode cX6_strongestLag 26 = .ok (.invokevirtual 217, 3) := by decide +kernel
theorem dX6_strongestLag_29 : decode cX6_strongestLag 29 = .ok (.lstore 6, 2) := by decide +kernel
theorem dX6_strongestLag_31 : decode cX6_strongestLag 31 = .ok (.iload_n 2, 1) := by decide +kernel
theorem dX6_strongestLag_32 : decode cX6_strongestLag 32 = .ok (.iconst (-1), 1) := by decide +kernel
theorem dX6_strongestLag_33 : decode cX6_strongestLag 33 = .ok (.if_icmp .eq 10, 3) := by decide +kernel
theorem dX6_strongestLag_36 : decode cX6_strongestLag 36 = .ok (.lload 6, 2) := by decide +kernel
theorem dX6_strongestLag_38 : decode cX6_strongestLag 38 = .ok (.lload_n 3, 1) := by decide +kernel
theorem dX6_strongestLag_39 : decode cX6_strongestLag 39 = .ok (.lcmp, 1) := by decide +kernel
theorem dX6_strongestLag_40 : decode cX6_strongestLag 40 = .ok (.ifCond .le 9, 3) := by decide +kernel
theorem dX6_strongestLag_43 : decode cX6_strongestLag 43 = .ok (.iload 5, 2) := by decide +kernel
theorem dX6_strongestLag_45 : decode cX6_strongestLag 45 = .ok (.istore_n 2, 1) := by decide +kernel
theorem dX6_strongestLag_46 : decode cX6_strongestLag 46 = .ok (.lload 6, 2) := by decide +kernel
theorem dX6_strongestLag_48 : decode cX6_strongestLag 48 = .ok (.lstore_n 3, 1) := by decide +kernel
theorem dX6_strongestLag_49 : decode cX6_strongestLag 49 = .ok (.iinc 5 1, 3) := by decide +kernel
theorem dX6_strongestLag_52 : decode cX6_strongestLag 52 = .ok (.goto (-45), 3) := by decide +kernel
theorem dX6_strongestLag_55 : decode cX6_strongestLag 55 = .ok (.iload_n 2, 1) := by decide +kernel
theorem dX6_strongestLag_56 : decode cX6_strongestLag 56 = .ok (.ireturn, 1) := by decide +kernel
set_option maxRecDepth 20000 in
theorem ggX6_errorsWith_X3_copy : GoodIn wsX6_errorsWith wsX3_copy := goodIn_r _ [14, 15, 16, 17, 18, 19, 173] (by decide +kernel) (by decide +kernel)
set_option maxRecDepth 20000 in
theorem gX6_errorsWith_X3_copy : GoodIn wsX6_errorsWith (wsV RX6 297 RX3 yX3_copy wsX3_copy) := goodIn_app (goodIn_of _ (by decide +kernel)) ggX6_errorsWith_X3_copy
set_option maxRecDepth 20000 in
theorem ggX6_errorsWith_X3_set : GoodIn wsX6_errorsWith wsX3_set := goodIn_r _ [23, 15, 24, 25, 26, 173] (by decide +kernel) (by decide +kernel)
set_option maxRecDepth 20000 in
theorem gX6_errorsWith_X3_set : GoodIn wsX6_errorsWith (wsV RX6 72 RX3 yX3_set wsX3_set) := goodIn_app (goodIn_of _ (by decide +kernel)) ggX6_errorsWith_X3_set
set_option maxRecDepth 20000 in
theorem ggX6_errorsWith_X1_copy : GoodIn wsX6_errorsWith wsX1_copy := goodIn_r _ [31, 32, 33, 34, 35, 36, 37, 38, 17, 18, 19, 39, 40, 41, 42, 43, 44, 45, 46, 47, 48, 49, 50, 51, 52, 53, 54, 55, 56, 57, 58, 59, 60, 61, 62, 164, 165, 166, 167, 168, 169, 170, 171, 172, 174, 175, 176, 177, 178, 179, 180, 181, 182, 183] (by decide +kernel) (by decide +kernel)
set_option maxRecDepth 20000 in
theorem gX6_errorsWith_X1_copy : GoodIn wsX6_errorsWith (wsV RX6 213 RX1 yX1_copy wsX1_copy) := goodIn_app (goodIn_of _ (by decide +kernel)) ggX6_errorsWith_X1_copy
set_option maxRecDepth 20000 in
theorem ggX6_errorsWith_X1_tick : GoodIn wsX6_errorsWith wsX1_tick := goodIn_r _ [66, 37, 67, 7, 8, 9, 40, 41, 32, 68, 69, 70, 13, 71, 15, 24, 25, 26, 72, 73, 74, 30, 75, 76, 77, 34, 78, 79, 80, 81, 82, 83, 84, 85, 86, 87, 88, 39, 89, 90, 91, 92, 93, 94, 95, 96, 97, 98, 99, 100, 101, 102, 103, 104, 105, 106, 107, 108, 35, 36, 109, 110, 111, 112, 113, 114, 115, 116, 117, 118, 119, 120, 121, 122, 123, 124, 125, 126, 127, 128, 129, 130, 131, 45, 132, 47, 133, 48, 49, 51, 134, 135, 136, 50, 137, 138, 139, 55, 140, 62, 57, 141, 142, 143, 144, 59, 60, 61, 145, 146, 147, 148, 149, 150, 151, 152, 33, 164, 165, 166, 167, 168, 169, 170, 171, 172, 173, 174, 175, 176, 177, 178, 179, 180, 181, 182, 183] (by decide +kernel) (by decide +kernel)
set_option maxRecDepth 20000 in
theorem gX6_errorsWith_X1_tick : GoodIn wsX6_errorsWith (wsV RX6 233 RX1 yX1_tick wsX1_tick) := goodIn_app (goodIn_of _ (by decide +kernel)) ggX6_errorsWith_X1_tick
theorem dX6_errorsWith_0 : decode cX6_errorsWith 0 = .ok (.aload_n 0, 1) := by decide +kernel
theorem dX6_errorsWith_1 : decode cX6_errorsWith 1 = .ok (.getfield 47, 3) := by decide +kernel
theorem dX6_errorsWith_4 : decode cX6_errorsWith 4 = .ok (.aload_n 0, 1) := by decide +kernel
theorem dX6_errorsWith_5 : decode cX6_errorsWith 5 = .ok (.getfield 12, 3) := by decide +kernel
theorem dX6_errorsWith_8 : decode cX6_errorsWith 8 = .ok (.invokevirtual 297, 3) := by decide +kernel
theorem dX6_errorsWith_11 : decode cX6_errorsWith 11 = .ok (.aload_n 0, 1) := by decide +kernel
theorem dX6_errorsWith_12 : decode cX6_errorsWith 12 = .ok (.getfield 47, 3) := by decide +kernel
theorem dX6_errorsWith_15 : decode cX6_errorsWith 15 = .ok (.iconst 0, 1) := by decide +kernel
theorem dX6_errorsWith_16 : decode cX6_errorsWith 16 = .ok (.iload_n 1, 1) := by decide +kernel
theorem dX6_errorsWith_17 : decode cX6_errorsWith 17 = .ok (.invokevirtual 72, 3) := by decide +kernel
theorem dX6_errorsWith_20 : decode cX6_errorsWith 20 = .ok (.aload_n 0, 1) := by decide +kernel
theorem dX6_errorsWith_21 : decode cX6_errorsWith 21 = .ok (.getfield 53, 3) := by decide +kernel
theorem dX6_errorsWith_24 : decode cX6_errorsWith 24 = .ok (.aload_n 0, 1) := by decide +kernel
theorem dX6_errorsWith_25 : decode cX6_errorsWith 25 = .ok (.getfield 33, 3) := by decide +kernel
theorem dX6_errorsWith_28 : decode cX6_errorsWith 28 = .ok (.invokevirtual 213, 3) := by decide +kernel
theorem dX6_errorsWith_31 : decode cX6_errorsWith 31 = .ok (.lconst 0, 1) := by decide +kernel
theorem dX6_errorsWith_32 : decode cX6_errorsWith 32 = .ok (.lstore_n 3, 1) := by decide +kernel
theorem dX6_errorsWith_33 : decode cX6_errorsWith 33 = .ok (.iconst 0, 1) := by decide +kernel
theorem dX6_errorsWith_34 : decode cX6_errorsWith 34 = .ok (.istore 5, 2) := by decide +kernel
theorem dX6_errorsWith_36 : decode cX6_errorsWith 36 = .ok (.iload 5, 2) := by decide +kernel
theorem dX6_errorsWith_38 : decode cX6_errorsWith 38 = .ok (.iload_n 2, 1) := by decide +kernel
theorem dX6_errorsWith_39 : decode cX6_errorsWith 39 = .ok (.if_icmp .ge 47, 3) := by decide +kernel
theorem dX6_errorsWith_42 : decode cX6_errorsWith 42 = .ok (.aload_n 0, 1) := by decide +kernel
theorem dX6_errorsWith_43 : decode cX6_errorsWith 43 = .ok (.getfield 53, 3) := by decide +kernel
theorem dX6_errorsWith_46 : decode cX6_errorsWith 46 = .ok (.aload_n 0, 1) := by decide +kernel
theorem dX6_errorsWith_47 : decode cX6_errorsWith 47 = .ok (.getfield 47, 3) := by decide +kernel
theorem dX6_errorsWith_50 : decode cX6_errorsWith 50 = .ok (.iconst 0, 1) := by decide +kernel
theorem dX6_errorsWith_51 : decode cX6_errorsWith 51 = .ok (.invokevirtual 233, 3) := by decide +kernel
theorem dX6_errorsWith_54 : decode cX6_errorsWith 54 = .ok (.lload_n 3, 1) := by decide +kernel
theorem dX6_errorsWith_55 : decode cX6_errorsWith 55 = .ok (.aload_n 0, 1) := by decide +kernel
theorem dX6_errorsWith_56 : decode cX6_errorsWith 56 = .ok (.getfield 53, 3) := by decide +kernel
theorem dX6_errorsWith_59 : decode cX6_errorsWith 59 = .ok (.getfield 145, 3) := by decide +kernel
theorem dX6_errorsWith_62 : decode cX6_errorsWith 62 = .ok (.iconst 0, 1) := by decide +kernel
theorem dX6_errorsWith_63 : decode cX6_errorsWith 63 = .ok (.iaload, 1) := by decide +kernel
theorem dX6_errorsWith_64 : decode cX6_errorsWith 64 = .ok (.aload_n 0, 1) := by decide +kernel
theorem dX6_errorsWith_65 : decode cX6_errorsWith 65 = .ok (.getfield 53, 3) := by decide +kernel
theorem dX6_errorsWith_68 : decode cX6_errorsWith 68 = .ok (.getfield 145, 3) := by decide +kernel
theorem dX6_errorsWith_71 : decode cX6_errorsWith 71 = .ok (.iconst 1, 1) := by decide +kernel
theorem dX6_errorsWith_72 : decode cX6_errorsWith 72 = .ok (.iaload, 1) := by decide +kernel
theorem dX6_errorsWith_73 : decode cX6_errorsWith 73 = .ok (.isub, 1) := by decide +kernel
theorem dX6_errorsWith_74 : decode cX6_errorsWith 74 = .ok (.invokestatic 206, 3) := by decide +kernel
theorem dX6_errorsWith_77 : decode cX6_errorsWith 77 = .ok (.i2l, 1) := by decide +kernel
theorem dX6_errorsWith_78 : decode cX6_errorsWith 78 = .ok (.ladd, 1) := by decide +kernel
theorem dX6_errorsWith_79 : decode cX6_errorsWith 79 = .ok (.lstore_n 3, 1) := by decide +kernel
theorem dX6_errorsWith_80 : decode cX6_errorsWith 80 = .ok (.iinc 5 1, 3) := by decide +kernel
theorem dX6_errorsWith_83 : decode cX6_errorsWith 83 = .ok (.goto (-47), 3) := by decide +kernel
theorem dX6_errorsWith_86 : decode cX6_errorsWith 86 = .ok (.lload_n 3, 1) := by decide +kernel
theorem dX6_errorsWith_87 : decode cX6_errorsWith 87 = .ok (.lreturn, 1) := by decide +kernel
set_option maxRecDepth 20000 in
theorem ggX6_prepareIdeal_X3_copy : GoodIn wsX6_prepareIdeal wsX3_copy := goodIn_r _ [12, 13, 14, 15, 16, 17, 73] (by decide +kernel) (by decide +kernel)
set_option maxRecDepth 20000 in
theorem gX6_prepareIdeal_X3_copy : GoodIn wsX6_prepareIdeal (wsV RX6 297 RX3 yX3_copy wsX3_copy) := goodIn_app (goodIn_of _ (by decide +kernel)) ggX6_prepareIdeal_X3_copy
set_option maxRecDepth 20000 in
theorem ggX6_prepareIdeal_X3_set : GoodIn wsX6_prepareIdeal wsX3_set := goodIn_r _ [21, 13, 22, 23, 24, 73] (by decide +kernel) (by decide +kernel)
set_option maxRecDepth 20000 in
theorem gX6_prepareIdeal_X3_set : GoodIn wsX6_prepareIdeal (wsV RX6 72 RX3 yX3_set wsX3_set) := goodIn_app (goodIn_of _ (by decide +kernel)) ggX6_prepareIdeal_X3_set
set_option maxRecDepth 20000 in
theorem ggX6_prepareIdeal_X1_begin : GoodIn wsX6_prepareIdeal wsX1_begin := goodIn_r _ [29, 30, 31, 32, 33, 34, 35, 36, 37, 38, 39, 40, 41, 42, 43, 44, 45, 46, 47, 48, 64, 65, 66, 67, 68, 69, 70, 71, 72, 74, 75, 76, 77, 78, 79, 80, 81, 82, 83] (by decide +kernel) (by decide +kernel)
set_option maxRecDepth 20000 in
theorem gX6_prepareIdeal_X1_begin : GoodIn wsX6_prepareIdeal (wsV RX6 153 RX1 yX1_begin wsX1_begin) := goodIn_app (goodIn_of _ (by decide +kernel)) ggX6_prepareIdeal_X1_begin
set_option maxRecDepth 20000 in
theorem ggX6_prepareIdeal_X1_changeSetpoint : GoodIn wsX6_prepareIdeal wsX1_changeSetpoint := goodIn_r _ [52, 35, 36, 39, 40, 41, 42, 43, 44, 45, 46, 47, 48, 64, 65, 66, 67, 68, 69, 70, 71, 72, 79, 80, 81, 82, 83] (by decide +kernel) (by decide +kernel)
set_option maxRecDepth 20000 in
theorem gX6_prepareIdeal_X1_changeSetpoint : GoodIn wsX6_prepareIdeal (wsV RX6 105 RX1 yX1_changeSetpoint wsX1_changeSetpoint) := goodIn_app (goodIn_of _ (by decide +kernel)) ggX6_prepareIdeal_X1_changeSetpoint
theorem dX6_prepareIdeal_0 : decode cX6_prepareIdeal 0 = .ok (.aload_n 0, 1) := by decide +kernel
theorem dX6_prepareIdeal_1 : decode cX6_prepareIdeal 1 = .ok (.getfield 47, 3) := by decide +kernel
theorem dX6_prepareIdeal_4 : decode cX6_prepareIdeal 4 = .ok (.aload_n 0, 1) := by decide +kernel
theorem dX6_prepareIdeal_5 : decode cX6_prepareIdeal 5 = .ok (.getfield 12, 3) := by decide +kernel
theorem dX6_prepareIdeal_8 : decode cX6_prepareIdeal 8 = .ok (.invokevirtual 297, 3) := by decide +kernel
theorem dX6_prepareIdeal_11 : decode cX6_prepareIdeal 11 = .ok (.aload_n 0, 1) := by decide +kernel
theorem dX6_prepareIdeal_12 : decode cX6_prepareIdeal 12 = .ok (.getfield 47, 3) := by decide +kernel
theorem dX6_prepareIdeal_15 : decode cX6_prepareIdeal 15 = .ok (.bipush 14, 2) := by decide +kernel
theorem dX6_prepareIdeal_17 : decode cX6_prepareIdeal 17 = .ok (.iconst 0, 1) := by decide +kernel
theorem dX6_prepareIdeal_18 : decode cX6_prepareIdeal 18 = .ok (.invokevirtual 72, 3) := by decide +kernel
theorem dX6_prepareIdeal_21 : decode cX6_prepareIdeal 21 = .ok (.aload_n 0, 1) := by decide +kernel
theorem dX6_prepareIdeal_22 : decode cX6_prepareIdeal 22 = .ok (.getfield 50, 3) := by decide +kernel
theorem dX6_prepareIdeal_25 : decode cX6_prepareIdeal 25 = .ok (.aload_n 0, 1) := by decide +kernel
theorem dX6_prepareIdeal_26 : decode cX6_prepareIdeal 26 = .ok (.getfield 47, 3) := by decide +kernel
theorem dX6_prepareIdeal_29 : decode cX6_prepareIdeal 29 = .ok (.invokevirtual 297, 3) := by decide +kernel
theorem dX6_prepareIdeal_32 : decode cX6_prepareIdeal 32 = .ok (.aload_n 0, 1) := by decide +kernel
theorem dX6_prepareIdeal_33 : decode cX6_prepareIdeal 33 = .ok (.getfield 50, 3) := by decide +kernel
theorem dX6_prepareIdeal_36 : decode cX6_prepareIdeal 36 = .ok (.iconst 4, 1) := by decide +kernel
theorem dX6_prepareIdeal_37 : decode cX6_prepareIdeal 37 = .ok (.iconst 0, 1) := by decide +kernel
theorem dX6_prepareIdeal_38 : decode cX6_prepareIdeal 38 = .ok (.invokevirtual 72, 3) := by decide +kernel
theorem dX6_prepareIdeal_41 : decode cX6_prepareIdeal 41 = .ok (.aload_n 0, 1) := by decide +kernel
theorem dX6_prepareIdeal_42 : decode cX6_prepareIdeal 42 = .ok (.getfield 53, 3) := by decide +kernel
theorem dX6_prepareIdeal_45 : decode cX6_prepareIdeal 45 = .ok (.invokevirtual 153, 3) := by decide +kernel
theorem dX6_prepareIdeal_48 : decode cX6_prepareIdeal 48 = .ok (.aload_n 0, 1) := by decide +kernel
theorem dX6_prepareIdeal_49 : decode cX6_prepareIdeal 49 = .ok (.getfield 53, 3) := by decide +kernel
theorem dX6_prepareIdeal_52 : decode cX6_prepareIdeal 52 = .ok (.aload_n 0, 1) := by decide +kernel
theorem dX6_prepareIdeal_53 : decode cX6_prepareIdeal 53 = .ok (.getfield 33, 3) := by decide +kernel
theorem dX6_prepareIdeal_56 : decode cX6_prepareIdeal 56 = .ok (.getfield 145, 3) := by decide +kernel
theorem dX6_prepareIdeal_59 : decode cX6_prepareIdeal 59 = .ok (.iconst 0, 1) := by decide +kernel
theorem dX6_prepareIdeal_60 : decode cX6_prepareIdeal 60 = .ok (.iaload, 1) := by decide +kernel
theorem dX6_prepareIdeal_61 : decode cX6_prepareIdeal 61 = .ok (.invokevirtual 105, 3) := by decide +kernel
theorem dX6_prepareIdeal_64 : decode cX6_prepareIdeal 64 = .ok (.pop, 1) := by decide +kernel
theorem dX6_prepareIdeal_65 : decode cX6_prepareIdeal 65 = .ok (.aload_n 0, 1) := by decide +kernel
theorem dX6_prepareIdeal_66 : decode cX6_prepareIdeal 66 = .ok (.getfield 56, 3) := by decide +kernel
theorem dX6_prepareIdeal_69 : decode cX6_prepareIdeal 69 = .ok (.invokevirtual 153, 3) := by decide +kernel
theorem dX6_prepareIdeal_72 : decode cX6_prepareIdeal 72 = .ok (.aload_n 0, 1) := by decide +kernel
theorem dX6_prepareIdeal_73 : decode cX6_prepareIdeal 73 = .ok (.getfield 56, 3) := by decide +kernel
theorem dX6_prepareIdeal_76 : decode cX6_prepareIdeal 76 = .ok (.aload_n 0, 1) := by decide +kernel
theorem dX6_prepareIdeal_77 : decode cX6_prepareIdeal 77 = .ok (.getfield 33, 3) := by decide +kernel
theorem dX6_prepareIdeal_80 : decode cX6_prepareIdeal 80 = .ok (.getfield 145, 3) := by decide +kernel
theorem dX6_prepareIdeal_83 : decode cX6_prepareIdeal 83 = .ok (.iconst 0, 1) := by decide +kernel
theorem dX6_prepareIdeal_84 : decode cX6_prepareIdeal 84 = .ok (.iaload, 1) := by decide +kernel
theorem dX6_prepareIdeal_85 : decode cX6_prepareIdeal 85 = .ok (.invokevirtual 105, 3) := by decide +kernel
theorem dX6_prepareIdeal_88 : decode cX6_prepareIdeal 88 = .ok (.pop, 1) := by decide +kernel
theorem dX6_prepareIdeal_89 : decode cX6_prepareIdeal 89 = .ok (.return_, 1) := by decide +kernel
theorem dX6_difference_0 : decode cX6_difference 0 = .ok (.aload_n 0, 1) := by decide +kernel
theorem dX6_difference_1 : decode cX6_difference 1 = .ok (.getfield 53, 3) := by decide +kernel
theorem dX6_difference_4 : decode cX6_difference 4 = .ok (.getfield 145, 3) := by decide +kernel
theorem dX6_difference_7 : decode cX6_difference 7 = .ok (.bipush 8, 2) := by decide +kernel
theorem dX6_difference_9 : decode cX6_difference 9 = .ok (.iaload, 1) := by decide +kernel
theorem dX6_difference_10 : decode cX6_difference 10 = .ok (.aload_n 0, 1) := by decide +kernel
theorem dX6_difference_11 : decode cX6_difference 11 = .ok (.getfield 56, 3) := by decide +kernel
theorem dX6_difference_14 : decode cX6_difference 14 = .ok (.getfield 145, 3) := by decide +kernel
theorem dX6_difference_17 : decode cX6_difference 17 = .ok (.bipush 8, 2) := by decide +kernel
theorem dX6_difference_19 : decode cX6_difference 19 = .ok (.iaload, 1) := by decide +kernel
theorem dX6_difference_20 : decode cX6_difference 20 = .ok (.isub, 1) := by decide +kernel
theorem dX6_difference_21 : decode cX6_difference 21 = .ok (.invokestatic 206, 3) := by decide +kernel
theorem dX6_difference_24 : decode cX6_difference 24 = .ok (.ireturn, 1) := by decide +kernel
end
section
/-! the claim's own kit: the facts that stay (tables, constants, nest mates), contracts whose world behind is a function of the world ahead, calls in place -/
abbrev vwCl : List vw_C := [(RX0, TX0, 2), (RX1, TX1, 9), (RX2, TX2, 5), (RX3, TX3, 1), (RX4, TX4, 5), (RX5, TX5, 5), (RX6, TX6, 11), (RX7, TX7, 18)]
/-- what a run fixes: the classes' numbers, the array classes' numbers, the addresses of the tables, of the names and of their bytes -/
abbrev gT : Type := va_G × (Nat → ClassId) × (Nat → Nat) × (Nat → Nat) × (Nat → Nat)
abbrev gD (Γ : gT) : va_G := Γ.1
abbrev cI (Γ : gT) : ClassId := Γ.2.1 0
abbrev cL (Γ : gT) : ClassId := Γ.2.1 1
abbrev cC (Γ : gT) : ClassId := Γ.2.1 2
abbrev cR (Γ : gT) : ClassId := Γ.2.1 3
abbrev gTy (Γ : gT) : List (ClassId × FieldType) := [(cI Γ, .int), (cL Γ, .long), (cC Γ, .char), (cR Γ, .array .int)]
abbrev gLeast (Γ : gT) : Nat := Γ.2.2.1 0
abbrev gGreatest (Γ : gT) : Nat := Γ.2.2.1 1
abbrev gInitial (Γ : gT) : Nat := Γ.2.2.1 2
abbrev gSt (Γ : gT) : Nat → Nat := Γ.2.2.2.1
abbrev gBy (Γ : gT) : Nat → Nat := Γ.2.2.2.2
def vLeast : List Int32 := [0, 0, -5000, 0, 0, -5000, 0, 0, 0, -100000, 0, 1, 0, 1, 0]
def vGreatest : List Int32 := [20000, 20000, 5000, 999, 300, 5000, 999, 300, 999, 0, 100000, 200000, 100000, 50, 1000]
def vInitial : List Int32 := [1000, 100, 1000, 800, 50, 1000, 800, 50, 0, -50000, 50000, 200000, 5000, 5, 0]
def pLeast (k : Nat) : Int32 := vLeast.getD k 0
def pGreatest (k : Nat) : Int32 := vGreatest.getD k 0
def pInitial (k : Nat) : Int32 := vInitial.getD k 0
/-- the names' letters, by number -/
def vNames : List (List Int32) := [[107, 112], [107, 105], [103, 97, 105, 110], [108, 97, 103], [100, 101, 97, 100], [109, 103, 97, 105, 110], [109, 108, 97, 103], [109, 100, 101, 97, 100], [102, 105, 108, 116, 101, 114], [117, 109, 105, 110], [117, 109, 97, 120], [114, 97, 116, 101], [108, 105, 109, 105, 116], [112, 97, 116, 105, 101, 110, 99, 101], [110, 111, 105, 115, 101]]
def vLens : List Nat := [2, 2, 4, 3, 4, 5, 4, 5, 6, 4, 4, 4, 5, 8, 5]
def vTexts : List (Nat × String) := [(250, "kp"), (252, "ki"), (254, "gain"), (256, "lag"), (258, "dead"), (260, "mgain"), (262, "mlag"), (264, "mdead"), (266, "filter"), (268, "umin"), (270, "umax"), (272, "rate"), (274, "limit"), (276, "patience"), (278, "noise")]
/-- the private members that nest mates use -/
def gNw (U : State) : Prop := va_Nw (.fieldLinkNest RX3 15 RX6 "INITIAL" "[I" RX6) U ∧ va_Nw (.fieldLinkNest RX0 23 RX3 "values" "[I" RX6) U ∧ va_Nw (.methodLinkNest RX3 24 yX6_isParameter RX6) U ∧ va_Nw (.methodLinkNest RX4 49 yX6_nameOf RX6) U ∧ va_Nw (.methodLinkNest RX4 65 yX6_allows RX6) U ∧ va_Nw (.methodLinkNest RX1 68 yX6_isSignal RX6) U ∧ va_Nw (.methodLinkNest RX1 97 yX6_stepped RX6) U ∧ va_Nw (.methodLinkNest RX1 140 yX6_thousandth RX6) U ∧ va_Nw (.methodLinkNest RX1 148 yX6_limited RX6) U
theorem gNw.warm {s U : State} (hW : s.WarmedH U.vm) (h : gNw s) : gNw U := by
  obtain ⟨h1, h2, h3, h4, h5, h6, h7, h8, h9⟩ := h
  exact ⟨h1.warmF hW, h2.warmF hW, h3.warmM hW, h4.warmM hW, h5.warmM hW, h6.warmM hW, h7.warmM hW, h8.warmM hW, h9.warmM hW⟩
theorem gNw.same {s U : State} (hv : s.vm = U.vm) (h : gNw s) : gNw U := by
  obtain ⟨h1, h2, h3, h4, h5, h6, h7, h8, h9⟩ := h
  exact ⟨h1.same rfl hv, h2.same rfl hv, h3.same rfl hv, h4.same rfl hv, h5.same rfl hv, h6.same rfl hv, h7.same rfl hv, h8.same rfl hv, h9.same rfl hv⟩
/-- the statics and constants -/
def gZ (Γ : gT) (A : Nat → Prop) (U : State) (H : Heap) : Prop :=
  (va_Z RX6 "LEAST" "[I" (.ref (gLeast Γ)) A U H ∧ va_T .int (gLeast Γ) 15 (fun j => .int (pLeast j)) A U H) ∧
  (va_Z RX6 "GREATEST" "[I" (.ref (gGreatest Γ)) A U H ∧ va_T .int (gGreatest Γ) 15 (fun j => .int (pGreatest j)) A U H) ∧
  (va_Z RX6 "INITIAL" "[I" (.ref (gInitial Γ)) A U H ∧ va_T .int (gInitial Γ) 15 (fun j => .int (pInitial j)) A U H) ∧
  va_Z "java/lang/String" "COMPACT_STRINGS" "Z" (.int 1) A U H ∧ va_Zq "jdk/internal/util/Preconditions" "SIOOBE_FORMATTER" "Ljava/util/function/BiFunction;" A U H ∧
  vk_S 15 vLens vNames (gSt Γ) (gBy Γ) A U H
theorem gZ.moved {Γ : gT} {A : Nat → Prop} {u U : State} {H : Heap} (hvm : u.vm.Alike U.vm) (h : gZ Γ A u H) : gZ Γ A U H := by
  obtain ⟨⟨h1, h2⟩, ⟨h3, h4⟩, ⟨h5, h6⟩, h7, h8, h9⟩ := h
  exact ⟨⟨h1.moved hvm, h2.moved hvm⟩, ⟨h3.moved hvm, h4.moved hvm⟩, ⟨h5.moved hvm, h6.moved hvm⟩, h7.moved hvm, h8.moved hvm, h9.moved hvm⟩
theorem gZ.kept {Γ : gT} {A : Nat → Prop} {U : State} {H H1 : Heap} (h : gZ Γ A U H) (hq : ∀ a : Nat, a < H.size → ¬ A a → H1[a]? = H[a]?) : gZ Γ A U H1 := by
  obtain ⟨⟨h1, h2⟩, ⟨h3, h4⟩, ⟨h5, h6⟩, h7, h8, h9⟩ := h
  exact ⟨⟨h1.kept hq, h2.kept hq⟩, ⟨h3.kept hq, h4.kept hq⟩, ⟨h5.kept hq, h6.kept hq⟩, h7.kept hq, h8.kept hq, h9.kept hq⟩
theorem gZ.narrow {Γ : gT} {A B : Nat → Prop} {U : State} {H : Heap} (h : gZ Γ A U H) (hAB : ∀ q, B q → A q) : gZ Γ B U H := by
  obtain ⟨⟨h1, h2⟩, ⟨h3, h4⟩, ⟨h5, h6⟩, h7, h8, h9⟩ := h
  exact ⟨⟨h1.narrow hAB, h2.narrow hAB⟩, ⟨h3.narrow hAB, h4.narrow hAB⟩, ⟨h5.narrow hAB, h6.narrow hAB⟩, h7.narrow hAB, h8.narrow hAB, h9.narrow hAB⟩
def gR (Γ : gT) (U : State) : Prop := ∀ i : Nat, i < 15 → vk_R RX6 (vTexts.getD i (0, "")).1 (vTexts.getD i (0, "")).2 (gSt Γ i) U
/-- all that stays -/
def gG (Γ : gT) (A : Nat → Prop) (U : State) (H : Heap) : Prop := gNw U ∧ gR Γ U ∧ gZ Γ A U H
theorem gG.call {Γ : gT} {A B : Nat → Prop} {s U : State} {H : Heap} {locs : List Loc} (h : gG Γ A s s.heap) (hS : va_S A s.heap H locs) (hB : ∀ q, B q → A q) (hU : U.heap = H) (hW : s.WarmedH U.vm) : gG Γ B U U.heap := by
  refine ⟨h.1.warm hW, fun i hi => (h.2.1 i hi).warm hW, ?_⟩
  rw [hU]
  exact ((h.2.2.kept hS.2.1).narrow hB).moved hW.alike
theorem gG.blind {Γ : gT} {A : Nat → Prop} {U U2 : State} (hv : U.vm = U2.vm) (hh : U.heap = U2.heap) (h : gG Γ A U U.heap) : gG Γ A U2 U2.heap := by
  refine ⟨h.1.same hv, fun i hi => (h.2.1 i hi).same hv.symm, ?_⟩
  rw [← hh]
  exact h.2.2.moved (by rw [hv]; exact Vm.Alike.refl U2.vm)
/-- a contract's start -/
def PC (Γ : gT) (av : List Value) (w : va_W) (sz : Nat) : Array Value → State → Prop := va_Pc av (fun U => U.heap.size = sz ∧ va_P (gD Γ) vwCl w U.heap ∧ va_K (gD Γ) vwCl (gTy Γ) U ∧ va_D (fun _ => True) w ∧ gG Γ (va_A w sz) U U.heap)
theorem PC.blind {Γ : gT} {av : List Value} {w : va_W} {sz : Nat} : FrameBlind (PC Γ av w sz) := by
  intro a U g mk q
  obtain ⟨q0, q1, qP, qK, qD, qG⟩ := q
  exact ⟨q0, q1, qP, va_K.moved (u := U) (U := U.calling g mk a) (Vm.Alike.refl U.vm) qK, qD, qG.blind (U2 := U.calling g mk a) rfl rfl⟩
/-- contracts: the answer is r, the world behind is w1 -/
def Ci (Γ : gT) (l : Launch) (y : MethodName) (ws : List Cond) (rm : Room) (av : List Value) (w0 : va_W) (r : Int32) (w1 : va_W) : Prop := ∀ sz : Nat, Met l y ws rm (PC Γ av w0 sz) (va_Qi (fun (x : Int32) (_ : Unit) => x = r) (fun _ t => va_P (gD Γ) vwCl w1 t.heap) (va_A w0 sz)) 0 0 (va_A w0 sz)
def Cl (Γ : gT) (l : Launch) (y : MethodName) (ws : List Cond) (rm : Room) (av : List Value) (w0 : va_W) (r : Int64) (w1 : va_W) : Prop := ∀ sz : Nat, Met l y ws rm (PC Γ av w0 sz) (va_Ql (fun (x : Int64) (_ : Unit) => x = r) (fun _ t => va_P (gD Γ) vwCl w1 t.heap) (va_A w0 sz)) 0 0 (va_A w0 sz)
def Cv (Γ : gT) (l : Launch) (y : MethodName) (ws : List Cond) (rm : Room) (av : List Value) (w0 : va_W) (w1 : va_W) : Prop := ∀ sz : Nat, Met l y ws rm (PC Γ av w0 sz) (va_Qv (fun (_ : Unit) => True) (fun _ t => va_P (gD Γ) vwCl w1 t.heap) (va_A w0 sz)) 0 0 (va_A w0 sz)
def Cr (Γ : gT) (l : Launch) (y : MethodName) (ws : List Cond) (rm : Room) (av : List Value) (w0 : va_W) (r : Nat) (w1 : va_W) : Prop := ∀ sz : Nat, Met l y ws rm (PC Γ av w0 sz) (va_Qr (fun (_ : Unit) => True) (fun _ a t => a = r ∧ va_P (gD Γ) vwCl w1 t.heap) (va_A w0 sz)) 0 0 (va_A w0 sz)
/-- a walk's start: what a body may use -/
def Bd (Γ : gT) (l : Launch) (ws : List Cond) (cc : ByteArray) (own : String) (nL : Nat) (ret : Option FieldType) (av : List Value) (w0 : va_W) (rm : Room) (Qc : Array Value → State → Outcome → State → Prop) (free : State → Addr → Prop) : Prop :=
  ∀ (p : Program) (e : Env) (s : State) (m : MethodId) (args : Array Value) (below : List Frame) (meth : Method) (c : Code) (A : Nat → Prop) (Q : State → Prop) (H : Heap) (locs : List Loc) (ls : Array Slot), args = av.toArray → A = va_A w0 s.heap.size → Q = MQ below Qc av.toArray s 0 0 (free s) → p.tables.exec = Jvm.exec → c.code = cc → c.maxLocals = nL → meth.sig.returnType = ret → (∀ w ∈ ws, w.before args s = true) → s.vm.findClass own = some m.cls → meth.locks = false →
    va_P (gD Γ) vwCl w0 H → va_K (gD Γ) vwCl (gTy Γ) s → va_D A w0 → va_S A s.heap H locs → (∀ q : Nat, s.heap.size ≤ q → A q) → gG Γ A s s.heap → lv_has ls nL (lv_args 0 av) → W p l e rm s m args below meth c H locs 0 0 Q (F0 m 0 ls [])
theorem Bd.met {Γ : gT} {l : Launch} {y : MethodName} {ws ws' : List Cond} {cc : ByteArray} {own : String} {nL : Nat} {ret : Option FieldType} {av : List Value} {w0 : va_W} {rm : Room} {Qc : Array Value → State → Outcome → State → Prop} {sz : Nat} (hy : plainFor y = true) (hw : ws = Cond.code y cc nL ret :: ws') (ho : y.cls = own) (hn : (lg_sl av).length ≤ nL)
    (body : Bd Γ l ws cc own nL ret av w0 rm Qc (fun s => va_A w0 s.heap.size)) : Met l y ws rm (PC Γ av w0 sz) Qc 0 0 (va_A w0 sz) := by
  refine va_MetF (cc := cc) (maxL := nL) (ret := ret) hy hw ?_
  intro p e s m args below meth c s₁ B hml hv
  obtain ⟨rfl, hsz, hP, hK, hD0, hG⟩ := hv
  subst hsz
  have hl := lv_entry av (n := nL) hn
  rw [lg_entry_eq]
  exact body p e s m _ below meth c _ _ _ _ _ rfl rfl rfl B.exec B.bytes hml B.returns (atoms_spec (ws := ws) B.pre) (ho ▸ findClass_of_methodNamed B.named) B.notSynchronized hP hK hD0.self va_S.rf (fun q h => Or.inr h) hG hl
theorem Ci.of {Γ : gT} {l : Launch} {y : MethodName} {ws ws' : List Cond} {cc : ByteArray} {own : String} {nL : Nat} {ret : Option FieldType} {av : List Value} {w0 w1 : va_W} {rm : Room} {r : Int32} (hy : plainFor y = true) (hw : ws = Cond.code y cc nL ret :: ws') (ho : y.cls = own) (hn : (lg_sl av).length ≤ nL)
    (body : Bd Γ l ws cc own nL ret av w0 rm (fun _ s o t => o = .returned (some (.int r)) ∧ va_P (gD Γ) vwCl w1 t.heap ∧ va_F (va_A w0 s.heap.size) s t) (fun s => va_A w0 s.heap.size)) : Ci Γ l y ws rm av w0 r w1 := by
  intro sz
  refine va_MetF (cc := cc) (maxL := nL) (ret := ret) hy hw ?_
  intro p e s m args below meth c s₁ B hml hv
  obtain ⟨rfl, hsz, hP, hK, hD0, hG⟩ := hv
  subst hsz
  have hl := lv_entry av (n := nL) hn
  rw [lg_entry_eq]
  have h := body p e s m _ below meth c _ _ _ _ _ rfl rfl rfl B.exec B.bytes hml B.returns (atoms_spec (ws := ws) B.pre) (ho ▸ findClass_of_methodNamed B.named) B.notSynchronized hP hK hD0.self va_S.rf (fun q h => Or.inr h) hG hl
  intro T hT X
  obtain ⟨t, a1, o, b1, b2, ⟨b3, b4, b5⟩, b6⟩ := h T hT X
  exact ⟨t, a1, o, b1, b2, ⟨⟨r, (), b3, rfl, b4⟩, b5⟩, b6⟩
theorem Cl.of {Γ : gT} {l : Launch} {y : MethodName} {ws ws' : List Cond} {cc : ByteArray} {own : String} {nL : Nat} {ret : Option FieldType} {av : List Value} {w0 w1 : va_W} {rm : Room} {r : Int64} (hy : plainFor y = true) (hw : ws = Cond.code y cc nL ret :: ws') (ho : y.cls = own) (hn : (lg_sl av).length ≤ nL)
    (body : Bd Γ l ws cc own nL ret av w0 rm (fun _ s o t => o = .returned (some (.long r)) ∧ va_P (gD Γ) vwCl w1 t.heap ∧ va_F (va_A w0 s.heap.size) s t) (fun s => va_A w0 s.heap.size)) : Cl Γ l y ws rm av w0 r w1 := by
  intro sz
  refine va_MetF (cc := cc) (maxL := nL) (ret := ret) hy hw ?_
  intro p e s m args below meth c s₁ B hml hv
  obtain ⟨rfl, hsz, hP, hK, hD0, hG⟩ := hv
  subst hsz
  have hl := lv_entry av (n := nL) hn
  rw [lg_entry_eq]
  have h := body p e s m _ below meth c _ _ _ _ _ rfl rfl rfl B.exec B.bytes hml B.returns (atoms_spec (ws := ws) B.pre) (ho ▸ findClass_of_methodNamed B.named) B.notSynchronized hP hK hD0.self va_S.rf (fun q h => Or.inr h) hG hl
  intro T hT X
  obtain ⟨t, a1, o, b1, b2, ⟨b3, b4, b5⟩, b6⟩ := h T hT X
  exact ⟨t, a1, o, b1, b2, ⟨⟨r, (), b3, rfl, b4⟩, b5⟩, b6⟩
theorem Cv.of {Γ : gT} {l : Launch} {y : MethodName} {ws ws' : List Cond} {cc : ByteArray} {own : String} {nL : Nat} {ret : Option FieldType} {av : List Value} {w0 w1 : va_W} {rm : Room} (hy : plainFor y = true) (hw : ws = Cond.code y cc nL ret :: ws') (ho : y.cls = own) (hn : (lg_sl av).length ≤ nL)
    (body : Bd Γ l ws cc own nL ret av w0 rm (fun _ s o t => o = .returned none ∧ va_P (gD Γ) vwCl w1 t.heap ∧ va_F (va_A w0 s.heap.size) s t) (fun s => va_A w0 s.heap.size)) : Cv Γ l y ws rm av w0 w1 := by
  intro sz
  refine va_MetF (cc := cc) (maxL := nL) (ret := ret) hy hw ?_
  intro p e s m args below meth c s₁ B hml hv
  obtain ⟨rfl, hsz, hP, hK, hD0, hG⟩ := hv
  subst hsz
  have hl := lv_entry av (n := nL) hn
  rw [lg_entry_eq]
  have h := body p e s m _ below meth c _ _ _ _ _ rfl rfl rfl B.exec B.bytes hml B.returns (atoms_spec (ws := ws) B.pre) (ho ▸ findClass_of_methodNamed B.named) B.notSynchronized hP hK hD0.self va_S.rf (fun q h => Or.inr h) hG hl
  intro T hT X
  obtain ⟨t, a1, o, b1, b2, ⟨b3, b4, b5⟩, b6⟩ := h T hT X
  exact ⟨t, a1, o, b1, b2, ⟨⟨(), b3, trivial, b4⟩, b5⟩, b6⟩
theorem Cr.of {Γ : gT} {l : Launch} {y : MethodName} {ws ws' : List Cond} {cc : ByteArray} {own : String} {nL : Nat} {ret : Option FieldType} {av : List Value} {w0 w1 : va_W} {rm : Room} {r : Nat} (hy : plainFor y = true) (hw : ws = Cond.code y cc nL ret :: ws') (ho : y.cls = own) (hn : (lg_sl av).length ≤ nL)
    (body : Bd Γ l ws cc own nL ret av w0 rm (fun _ s o t => o = .returned (some (.ref r)) ∧ va_P (gD Γ) vwCl w1 t.heap ∧ va_F (va_A w0 s.heap.size) s t) (fun s => va_A w0 s.heap.size)) : Cr Γ l y ws rm av w0 r w1 := by
  intro sz
  refine va_MetF (cc := cc) (maxL := nL) (ret := ret) hy hw ?_
  intro p e s m args below meth c s₁ B hml hv
  obtain ⟨rfl, hsz, hP, hK, hD0, hG⟩ := hv
  subst hsz
  have hl := lv_entry av (n := nL) hn
  rw [lg_entry_eq]
  have h := body p e s m _ below meth c _ _ _ _ _ rfl rfl rfl B.exec B.bytes hml B.returns (atoms_spec (ws := ws) B.pre) (ho ▸ findClass_of_methodNamed B.named) B.notSynchronized hP hK hD0.self va_S.rf (fun q h => Or.inr h) hG hl
  intro T hT X
  obtain ⟨t, a1, o, b1, b2, ⟨b3, b4, b5⟩, b6⟩ := h T hT X
  exact ⟨t, a1, o, b1, b2, ⟨⟨(), r, b3, trivial, rfl, b4⟩, b5⟩, b6⟩
/-! in place: cells at the places is become cs -/
def va_upd : va_W → List Nat → va_W → va_W
  | ws, i :: is, c :: cs => va_upd (ws.set i c) is cs
  | ws, _, _ => ws
theorem va_upd_get : ∀ (is : List Nat) (cs ws : va_W) (k : Nat) (q : Nat × va_E), (va_upd ws is cs)[k]? = some q → (∃ j : Nat, is[j]? = some k ∧ cs[j]? = some q) ∨ ((∀ j : Nat, j < cs.length → is[j]? ≠ some k) ∧ ws[k]? = some q)
  | [], cs, ws, k, q, h => by
    have h' : ws[k]? = some q := by cases cs <;> exact h
    exact Or.inr ⟨fun j _ e => (by simp at e), h'⟩
  | i :: is, [], ws, k, q, h => Or.inr ⟨fun j hj => absurd hj (Nat.not_lt_zero j), h⟩
  | i :: is, c :: cs, ws, k, q, h => by
    rcases va_upd_get is cs (ws.set i c) k q h with ⟨j, h1, h2⟩ | ⟨h1, h2⟩
    · exact Or.inl ⟨j + 1, by simpa using h1, by simpa using h2⟩
    · by_cases hk : k = i
      · subst hk
        have hl : k < ws.length := by
          have := (List.getElem?_eq_some_iff.mp h2).1
          simpa using this
        rw [List.getElem?_set_self hl] at h2
        exact Or.inl ⟨0, rfl, by simpa using h2⟩
      · rw [List.getElem?_set_ne (Ne.symm hk)] at h2
        refine Or.inr ⟨fun j hj => ?_, h2⟩
        cases j with
        | zero => intro e; simp at e; exact hk e.symm
        | succ j => intro e; exact h1 j (by simp at hj; exact hj) (by simpa using e)
theorem va_D.addr {A : Nat → Prop} {ws wf : va_W} (h : va_D A ws) (he : wf.map (fun q => q.1) = ws.map (fun q => q.1)) : va_D A wf := by
  have at' : ∀ (k : Nat) (q : Nat × va_E), wf[k]? = some q → ∃ p : Nat × va_E, ws[k]? = some p ∧ p.1 = q.1 := by
    intro k q hq
    have h1 : (wf.map (fun q => q.1))[k]? = some q.1 := by rw [List.getElem?_map, hq]; rfl
    rw [he, List.getElem?_map] at h1
    cases hw : ws[k]? with
    | none => rw [hw] at h1; cases h1
    | some p => rw [hw] at h1; exact ⟨p, rfl, Option.some.inj h1⟩
  refine ⟨fun i j x y hi hj hxy => ?_, fun k q hk => ?_⟩
  · obtain ⟨x0, h1, h2⟩ := at' i x hi
    obtain ⟨y0, h3, h4⟩ := at' j y hj
    exact h.1 i j x0 y0 h1 h3 (h2.trans (hxy.trans h4.symm))
  · obtain ⟨q0, h1, h2⟩ := at' k q hk
    rw [← h2]
    exact h.2 k q0 h1
theorem va_cut {A0 : Nat → Prop} {D : va_G} {cl : List vw_C} {ws wc w1 wf : va_W} {H H1 : Heap} (hP : va_P D cl ws H) (hD : va_D A0 ws) (is : List Nat) (hC : is.map (fun i => ws[i]?) = wc.map some) (hl : w1.length = wc.length) (hf : va_upd ws is w1 = wf)
    (hk : ∀ q : Nat, q < H.size → ¬ va_A wc H.size q → H1[q]? = H[q]?) (hP1 : va_P D cl w1 H1) : va_P D cl wf H1 := by
  subst hf
  have hil : is.length = wc.length := by simpa using congrArg List.length hC
  intro k q hq
  rcases va_upd_get is w1 ws k q hq with ⟨j, h1, h2⟩ | ⟨h1, h2⟩
  · exact hP1 j q h2
  · refine (hP k q h2).kept (hk q.1 (hP k q h2).lt ?_)
    intro h
    rcases h with ⟨j, e, hj⟩ | h
    · have h3 : (is.map (fun i => ws[i]?))[j]? = some (some (q.1, e)) := by rw [hC, List.getElem?_map, hj]; rfl
      rw [List.getElem?_map] at h3
      cases hi : is[j]? with
      | none => rw [hi] at h3; cases h3
      | some i =>
        rw [hi] at h3
        have h4 : ws[i]? = some (q.1, e) := Option.some.inj h3
        have h5 : i = k := hD.1 i k (q.1, e) q h4 h2 rfl
        subst h5
        exact h1 j (by rw [hl, ← hil]; exact (List.getElem?_eq_some_iff.mp hi).1) hi
    · exact absurd (hP k q h2).lt (Nat.not_lt.mpr h)
theorem va_Dsub {A : Nat → Prop} {ws wc : va_W} (hD : va_D A ws) (is : List Nat) (hn : va_nd is = true) (hC : is.map (fun i => ws[i]?) = wc.map some) : va_D (fun _ => True) wc := by
  exact (hD.sub is hn hC).weaken (fun _ _ _ _ => trivial)
theorem va_Psub {D : va_G} {cl : List vw_C} {ws wc : va_W} {H : Heap} (hP : va_P D cl ws H) (is : List Nat) (hC : is.map (fun i => ws[i]?) = wc.map some) : va_P D cl wc H := by
  have hs : is.filterMap (fun i => ws[i]?) = wc := by
    have h := congrArg (List.filterMap id) hC
    simpa [List.filterMap_map, Function.comp_def] using h
  exact hP.sub is hs
section CALLS
variable {p : Program} {l : Launch} {e : Env} {R : Room} {s : State} {m : MethodId} {args : Array Value} {below : List Frame} {meth : Method} {c : Code} {H : Heap} {locs : List Loc} {cells slots : Nat} {Q : State → Prop}
variable {cc bytes : ByteArray} {pc : Nat} {ls : Array Slot} {st rest As : List Value} {Γ : gT} {A : Nat → Prop} {ws wc w1 wf : va_W} {Ts wsy : List Cond} {own C : String} {nL maxL index n : Nat} {y : MethodName} {ret : Option FieldType} {rmy : Room} {b : Nat}
/-- what a caller has -/
def Hd (Γ : gT) (p : Program) (s : State) (m : MethodId) (args : Array Value) (c : Code) (cc : ByteArray) (own : String) (nL : Nat) (Ts : List Cond) (A : Nat → Prop) : Prop :=
  (p.tables.exec = Jvm.exec ∧ c.code = cc ∧ c.maxLocals = nL ∧ s.vm.findClass own = some m.cls ∧ ∀ w ∈ Ts, w.before args s = true) ∧ va_K (gD Γ) vwCl (gTy Γ) s ∧ (∀ q : Nat, s.heap.size ≤ q → A q) ∧ gG Γ A s s.heap
theorem Hd.preS (h : Hd Γ p s m args c cc own nL Ts A) (hP : va_P (gD Γ) vwCl ws H) (hD : va_D A ws) (hS : va_S A s.heap H locs) (is : List Nat) (hn : va_nd is = true) (hC : is.map (fun i => ws[i]?) = wc.map some) {av : List Value} : ∀ U : State, U.heap = H → s.WarmedH U.vm → PC Γ av wc H.size av.toArray U := by
  obtain ⟨-, hK, hA, hG⟩ := h
  intro U hU hW
  refine ⟨rfl, by rw [hU], by rw [hU]; exact va_Psub hP is hC, va_K.moved hW.alike hK, va_Dsub hD is hn hC, hG.call hS (va_free hD hS hA is hC) hU hW⟩
theorem ca_Vi {r : Int32} (h : Hd Γ p s m args c cc own nL Ts A) (hsz : ls.size = nL) (hM : Ci Γ l y wsy rmy (.ref b :: As) wc r w1) (cw : CallW R s args own C index y bytes maxL ret wsy rmy 0 0 n) (hn : As.length = n) (hdg : decode cc pc = .ok (.invokevirtual index, 3)) (hst : st = As.reverse ++ .ref b :: rest) (hW : (rest.map fun v => v.category).sum ≤ 8)
    (hP : va_P (gD Γ) vwCl ws H) (hD : va_D A ws) (hS : va_S A s.heap H locs) (is : List Nat) (hnd : va_nd is = true) (hC : is.map (fun i => ws[i]?) = wc.map some) {q0 ci : Nat} {fs : List Value} {qc : vw_C} (hq : ws[q0]? = some (b, .inr (ci, fs))) (hcl : vwCl[ci]? = some qc) (hqc : qc.1 = C) (hlen : w1.length = wc.length) (hf : va_upd ws is w1 = wf) (had : wf.map (fun q => q.1) = ws.map (fun q => q.1)) (hcs : cells ≤ R.cells ∧ slots ≤ R.slots)
    (kk : ∀ (H1 : Heap) (locs1 : List Loc), va_P (gD Γ) vwCl wf H1 → va_D A wf → va_S A s.heap H1 locs1 → W p l e R s m args below meth c H1 locs1 cells slots Q (F0 m (pc + 3) ls (.int r :: rest))) : W p l e R s m args below meth c H locs cells slots Q (F0 m pc ls st) := by
  subst hst
  have hF := va_free (wc := wc) hD hS h.2.2.1 is hC
  refine va_calli (va_runV (As := As) (rest := rest) h.1 (hM H.size) cw ⟨PC.blind, by rw [← hqc]; exact va_recv h.2.1 hP hcl hq, h.preS hP hD hS is hnd hC⟩ rfl hn hsz rfl (by show 2 * 0 + _ ≤ 8; omega) hdg (by simpa using hcs)) hS (fun q _ h => hF q h) hF (fun r' u t H1 locs1 ht hvm hw hB hz1 hk1 hS1 => ?_)
  subst hw
  rw [ht] at hB
  exact kk H1 locs1 (va_cut hP hD is hC hlen hf hk1 hB) (hD.addr had) hS1
theorem ca_Vl {r : Int64} (h : Hd Γ p s m args c cc own nL Ts A) (hsz : ls.size = nL) (hM : Cl Γ l y wsy rmy (.ref b :: As) wc r w1) (cw : CallW R s args own C index y bytes maxL ret wsy rmy 0 0 n) (hn : As.length = n) (hdg : decode cc pc = .ok (.invokevirtual index, 3)) (hst : st = As.reverse ++ .ref b :: rest) (hW : (rest.map fun v => v.category).sum ≤ 8)
    (hP : va_P (gD Γ) vwCl ws H) (hD : va_D A ws) (hS : va_S A s.heap H locs) (is : List Nat) (hnd : va_nd is = true) (hC : is.map (fun i => ws[i]?) = wc.map some) {q0 ci : Nat} {fs : List Value} {qc : vw_C} (hq : ws[q0]? = some (b, .inr (ci, fs))) (hcl : vwCl[ci]? = some qc) (hqc : qc.1 = C) (hlen : w1.length = wc.length) (hf : va_upd ws is w1 = wf) (had : wf.map (fun q => q.1) = ws.map (fun q => q.1)) (hcs : cells ≤ R.cells ∧ slots ≤ R.slots)
    (kk : ∀ (H1 : Heap) (locs1 : List Loc), va_P (gD Γ) vwCl wf H1 → va_D A wf → va_S A s.heap H1 locs1 → W p l e R s m args below meth c H1 locs1 cells slots Q (F0 m (pc + 3) ls (.long r :: rest))) : W p l e R s m args below meth c H locs cells slots Q (F0 m pc ls st) := by
  subst hst
  have hF := va_free (wc := wc) hD hS h.2.2.1 is hC
  refine va_calll (va_runV (As := As) (rest := rest) h.1 (hM H.size) cw ⟨PC.blind, by rw [← hqc]; exact va_recv h.2.1 hP hcl hq, h.preS hP hD hS is hnd hC⟩ rfl hn hsz rfl (by show 2 * 0 + _ ≤ 8; omega) hdg (by simpa using hcs)) hS (fun q _ h => hF q h) hF (fun r' u t H1 locs1 ht hvm hw hB hz1 hk1 hS1 => ?_)
  subst hw
  rw [ht] at hB
  exact kk H1 locs1 (va_cut hP hD is hC hlen hf hk1 hB) (hD.addr had) hS1
theorem ca_Vv (h : Hd Γ p s m args c cc own nL Ts A) (hsz : ls.size = nL) (hM : Cv Γ l y wsy rmy (.ref b :: As) wc w1) (cw : CallW R s args own C index y bytes maxL ret wsy rmy 0 0 n) (hn : As.length = n) (hdg : decode cc pc = .ok (.invokevirtual index, 3)) (hst : st = As.reverse ++ .ref b :: rest) (hW : (rest.map fun v => v.category).sum ≤ 8)
    (hP : va_P (gD Γ) vwCl ws H) (hD : va_D A ws) (hS : va_S A s.heap H locs) (is : List Nat) (hnd : va_nd is = true) (hC : is.map (fun i => ws[i]?) = wc.map some) {q0 ci : Nat} {fs : List Value} {qc : vw_C} (hq : ws[q0]? = some (b, .inr (ci, fs))) (hcl : vwCl[ci]? = some qc) (hqc : qc.1 = C) (hlen : w1.length = wc.length) (hf : va_upd ws is w1 = wf) (had : wf.map (fun q => q.1) = ws.map (fun q => q.1)) (hcs : cells ≤ R.cells ∧ slots ≤ R.slots)
    (kk : ∀ (H1 : Heap) (locs1 : List Loc), va_P (gD Γ) vwCl wf H1 → va_D A wf → va_S A s.heap H1 locs1 → W p l e R s m args below meth c H1 locs1 cells slots Q (F0 m (pc + 3) ls rest)) : W p l e R s m args below meth c H locs cells slots Q (F0 m pc ls st) := by
  subst hst
  have hF := va_free (wc := wc) hD hS h.2.2.1 is hC
  refine va_callv (va_runV (As := As) (rest := rest) h.1 (hM H.size) cw ⟨PC.blind, by rw [← hqc]; exact va_recv h.2.1 hP hcl hq, h.preS hP hD hS is hnd hC⟩ rfl hn hsz rfl (by show 2 * 0 + _ ≤ 8; omega) hdg (by simpa using hcs)) hS (fun q _ h => hF q h) hF (fun u t H1 locs1 ht hvm hw hB hz1 hk1 hS1 => ?_)
  rw [ht] at hB
  exact kk H1 locs1 (va_cut hP hD is hC hlen hf hk1 hB) (hD.addr had) hS1
theorem ca_Vr {r : Nat} (h : Hd Γ p s m args c cc own nL Ts A) (hsz : ls.size = nL) (hM : Cr Γ l y wsy rmy (.ref b :: As) wc r w1) (cw : CallW R s args own C index y bytes maxL ret wsy rmy 0 0 n) (hn : As.length = n) (hdg : decode cc pc = .ok (.invokevirtual index, 3)) (hst : st = As.reverse ++ .ref b :: rest) (hW : (rest.map fun v => v.category).sum ≤ 8)
    (hP : va_P (gD Γ) vwCl ws H) (hD : va_D A ws) (hS : va_S A s.heap H locs) (is : List Nat) (hnd : va_nd is = true) (hC : is.map (fun i => ws[i]?) = wc.map some) {q0 ci : Nat} {fs : List Value} {qc : vw_C} (hq : ws[q0]? = some (b, .inr (ci, fs))) (hcl : vwCl[ci]? = some qc) (hqc : qc.1 = C) (hlen : w1.length = wc.length) (hf : va_upd ws is w1 = wf) (had : wf.map (fun q => q.1) = ws.map (fun q => q.1)) (hcs : cells ≤ R.cells ∧ slots ≤ R.slots)
    (kk : ∀ (H1 : Heap) (locs1 : List Loc), va_P (gD Γ) vwCl wf H1 → va_D A wf → va_S A s.heap H1 locs1 → W p l e R s m args below meth c H1 locs1 cells slots Q (F0 m (pc + 3) ls (.ref r :: rest))) : W p l e R s m args below meth c H locs cells slots Q (F0 m pc ls st) := by
  subst hst
  have hF := va_free (wc := wc) hD hS h.2.2.1 is hC
  refine va_callr (va_runV (As := As) (rest := rest) h.1 (hM H.size) cw ⟨PC.blind, by rw [← hqc]; exact va_recv h.2.1 hP hcl hq, h.preS hP hD hS is hnd hC⟩ rfl hn hsz rfl (by show 2 * 0 + _ ≤ 8; omega) hdg (by simpa using hcs)) hS (fun q _ h => hF q h) hF (fun u ra t H1 locs1 ht hvm hw hB hz1 hk1 hS1 => ?_)
  obtain ⟨rfl, hB⟩ := hB
  rw [ht] at hB
  exact kk H1 locs1 (va_cut hP hD is hC hlen hf hk1 hB) (hD.addr had) hS1
theorem va_keep0 {H1 : Heap} (hP : va_P (gD Γ) vwCl ws H) (hk : ∀ q : Nat, q < H.size → ¬ va_A [] H.size q → H1[q]? = H[q]?) : va_P (gD Γ) vwCl ws H1 :=
  hP.kept fun k q hq => hk q.1 (hP k q hq).lt (fun h => by
    rcases h with ⟨j, e, hj⟩ | h
    · simp at hj
    · exact absurd (hP k q hq).lt (Nat.not_lt.mpr h))
/-- static calls without a world -/
theorem ca_Si {r : Int32} (h : Hd Γ p s m args c cc own nL Ts A) (hsz : ls.size = nL) (hM : Ci Γ l y wsy rmy As [] r []) (cw : CallB R s args own index y bytes maxL ret wsy rmy 0 0 n ∧ (Cond.static y).before args s = true) (hn : As.length = n) (hdg : decode cc pc = .ok (.invokestatic index, 3)) (hst : st = As.reverse ++ rest) (hW : (rest.map fun v => v.category).sum ≤ 8)
    (hP : va_P (gD Γ) vwCl ws H) (hD : va_D A ws) (hS : va_S A s.heap H locs) (hcs : cells ≤ R.cells ∧ slots ≤ R.slots)
    (kk : ∀ (H1 : Heap) (locs1 : List Loc), va_P (gD Γ) vwCl ws H1 → va_S A s.heap H1 locs1 → W p l e R s m args below meth c H1 locs1 cells slots Q (F0 m (pc + 3) ls (.int r :: rest))) : W p l e R s m args below meth c H locs cells slots Q (F0 m pc ls st) := by
  subst hst
  have hF := va_free (wc := []) hD hS h.2.2.1 [] rfl
  refine va_calli (va_runS (As := As) (rest := rest) h.1 (hM H.size) cw ⟨PC.blind, h.preS hP hD hS [] rfl rfl⟩ rfl hn hsz rfl (by show 2 * 0 + _ ≤ 8; omega) hdg (by simpa using hcs)) hS (fun q _ h => hF q h) hF (fun r' u t H1 locs1 ht hvm hw hB hz1 hk1 hS1 => ?_)
  subst hw
  exact kk H1 locs1 (va_keep0 hP hk1) hS1
theorem ca_Sl {r : Int64} (h : Hd Γ p s m args c cc own nL Ts A) (hsz : ls.size = nL) (hM : Cl Γ l y wsy rmy As [] r []) (cw : CallB R s args own index y bytes maxL ret wsy rmy 0 0 n ∧ (Cond.static y).before args s = true) (hn : As.length = n) (hdg : decode cc pc = .ok (.invokestatic index, 3)) (hst : st = As.reverse ++ rest) (hW : (rest.map fun v => v.category).sum ≤ 8)
    (hP : va_P (gD Γ) vwCl ws H) (hD : va_D A ws) (hS : va_S A s.heap H locs) (hcs : cells ≤ R.cells ∧ slots ≤ R.slots)
    (kk : ∀ (H1 : Heap) (locs1 : List Loc), va_P (gD Γ) vwCl ws H1 → va_S A s.heap H1 locs1 → W p l e R s m args below meth c H1 locs1 cells slots Q (F0 m (pc + 3) ls (.long r :: rest))) : W p l e R s m args below meth c H locs cells slots Q (F0 m pc ls st) := by
  subst hst
  have hF := va_free (wc := []) hD hS h.2.2.1 [] rfl
  refine va_calll (va_runS (As := As) (rest := rest) h.1 (hM H.size) cw ⟨PC.blind, h.preS hP hD hS [] rfl rfl⟩ rfl hn hsz rfl (by show 2 * 0 + _ ≤ 8; omega) hdg (by simpa using hcs)) hS (fun q _ h => hF q h) hF (fun r' u t H1 locs1 ht hvm hw hB hz1 hk1 hS1 => ?_)
  subst hw
  exact kk H1 locs1 (va_keep0 hP hk1) hS1
theorem ca_Sr {r : Nat} (h : Hd Γ p s m args c cc own nL Ts A) (hsz : ls.size = nL) (hM : Cr Γ l y wsy rmy As [] r []) (cw : CallB R s args own index y bytes maxL ret wsy rmy 0 0 n ∧ (Cond.static y).before args s = true) (hn : As.length = n) (hdg : decode cc pc = .ok (.invokestatic index, 3)) (hst : st = As.reverse ++ rest) (hW : (rest.map fun v => v.category).sum ≤ 8)
    (hP : va_P (gD Γ) vwCl ws H) (hD : va_D A ws) (hS : va_S A s.heap H locs) (hcs : cells ≤ R.cells ∧ slots ≤ R.slots)
    (kk : ∀ (H1 : Heap) (locs1 : List Loc), va_P (gD Γ) vwCl ws H1 → va_S A s.heap H1 locs1 → W p l e R s m args below meth c H1 locs1 cells slots Q (F0 m (pc + 3) ls (.ref r :: rest))) : W p l e R s m args below meth c H locs cells slots Q (F0 m pc ls st) := by
  subst hst
  have hF := va_free (wc := []) hD hS h.2.2.1 [] rfl
  refine va_callr (va_runS (As := As) (rest := rest) h.1 (hM H.size) cw ⟨PC.blind, h.preS hP hD hS [] rfl rfl⟩ rfl hn hsz rfl (by show 2 * 0 + _ ≤ 8; omega) hdg (by simpa using hcs)) hS (fun q _ h => hF q h) hF (fun u ra t H1 locs1 ht hvm hw hB hz1 hk1 hS1 => ?_)
  obtain ⟨rfl, hB⟩ := hB
  exact kk H1 locs1 (va_keep0 hP hk1) hS1
/-- static calls of a nest mate's private method, without a world -/
theorem ca_Ni {r : Int32} {host : String} (h : Hd Γ p s m args c cc own nL Ts A) (hsz : ls.size = nL) (hM : Ci Γ l y wsy rmy As [] r []) (cw : va_CN R s args own index y host bytes maxL ret wsy rmy 0 0 n ∧ (Cond.static y).before args s = true ∧ True) (hn : As.length = n) (hdg : decode cc pc = .ok (.invokestatic index, 3)) (hst : st = As.reverse ++ rest) (hW : (rest.map fun v => v.category).sum ≤ 8)
    (hP : va_P (gD Γ) vwCl ws H) (hD : va_D A ws) (hS : va_S A s.heap H locs) (hcs : cells ≤ R.cells ∧ slots ≤ R.slots)
    (kk : ∀ (H1 : Heap) (locs1 : List Loc), va_P (gD Γ) vwCl ws H1 → va_S A s.heap H1 locs1 → W p l e R s m args below meth c H1 locs1 cells slots Q (F0 m (pc + 3) ls (.int r :: rest))) : W p l e R s m args below meth c H locs cells slots Q (F0 m pc ls st) := by
  subst hst
  have hF := va_free (wc := []) hD hS h.2.2.1 [] rfl
  refine va_calli (va_runSN (As := As) (rest := rest) h.1 (hM H.size) cw ⟨PC.blind, h.preS hP hD hS [] rfl rfl⟩ rfl hn hsz rfl (by show 2 * 0 + _ ≤ 8; omega) hdg (by simpa using hcs)) hS (fun q _ h => hF q h) hF (fun r' u t H1 locs1 ht hvm hw hB hz1 hk1 hS1 => ?_)
  subst hw
  exact kk H1 locs1 (va_keep0 hP hk1) hS1
theorem ca_Nl {r : Int64} {host : String} (h : Hd Γ p s m args c cc own nL Ts A) (hsz : ls.size = nL) (hM : Cl Γ l y wsy rmy As [] r []) (cw : va_CN R s args own index y host bytes maxL ret wsy rmy 0 0 n ∧ (Cond.static y).before args s = true ∧ True) (hn : As.length = n) (hdg : decode cc pc = .ok (.invokestatic index, 3)) (hst : st = As.reverse ++ rest) (hW : (rest.map fun v => v.category).sum ≤ 8)
    (hP : va_P (gD Γ) vwCl ws H) (hD : va_D A ws) (hS : va_S A s.heap H locs) (hcs : cells ≤ R.cells ∧ slots ≤ R.slots)
    (kk : ∀ (H1 : Heap) (locs1 : List Loc), va_P (gD Γ) vwCl ws H1 → va_S A s.heap H1 locs1 → W p l e R s m args below meth c H1 locs1 cells slots Q (F0 m (pc + 3) ls (.long r :: rest))) : W p l e R s m args below meth c H locs cells slots Q (F0 m pc ls st) := by
  subst hst
  have hF := va_free (wc := []) hD hS h.2.2.1 [] rfl
  refine va_calll (va_runSN (As := As) (rest := rest) h.1 (hM H.size) cw ⟨PC.blind, h.preS hP hD hS [] rfl rfl⟩ rfl hn hsz rfl (by show 2 * 0 + _ ≤ 8; omega) hdg (by simpa using hcs)) hS (fun q _ h => hF q h) hF (fun r' u t H1 locs1 ht hvm hw hB hz1 hk1 hS1 => ?_)
  subst hw
  exact kk H1 locs1 (va_keep0 hP hk1) hS1
theorem ca_Nr {r : Nat} {host : String} (h : Hd Γ p s m args c cc own nL Ts A) (hsz : ls.size = nL) (hM : Cr Γ l y wsy rmy As [] r []) (cw : va_CN R s args own index y host bytes maxL ret wsy rmy 0 0 n ∧ (Cond.static y).before args s = true ∧ True) (hn : As.length = n) (hdg : decode cc pc = .ok (.invokestatic index, 3)) (hst : st = As.reverse ++ rest) (hW : (rest.map fun v => v.category).sum ≤ 8)
    (hP : va_P (gD Γ) vwCl ws H) (hD : va_D A ws) (hS : va_S A s.heap H locs) (hcs : cells ≤ R.cells ∧ slots ≤ R.slots)
    (kk : ∀ (H1 : Heap) (locs1 : List Loc), va_P (gD Γ) vwCl ws H1 → va_S A s.heap H1 locs1 → W p l e R s m args below meth c H1 locs1 cells slots Q (F0 m (pc + 3) ls (.ref r :: rest))) : W p l e R s m args below meth c H locs cells slots Q (F0 m pc ls st) := by
  subst hst
  have hF := va_free (wc := []) hD hS h.2.2.1 [] rfl
  refine va_callr (va_runSN (As := As) (rest := rest) h.1 (hM H.size) cw ⟨PC.blind, h.preS hP hD hS [] rfl rfl⟩ rfl hn hsz rfl (by show 2 * 0 + _ ≤ 8; omega) hdg (by simpa using hcs)) hS (fun q _ h => hF q h) hF (fun u ra t H1 locs1 ht hvm hw hB hz1 hk1 hS1 => ?_)
  obtain ⟨rfl, hB⟩ := hB
  exact kk H1 locs1 (va_keep0 hP hk1) hS1
/-- the ends -/
theorem re_i {v r : Int32} {w0 wx : va_W} {av : List Value} (hQ : Q = MQ below (fun _ s o t => o = .returned (some (.int r)) ∧ va_P (gD Γ) vwCl wx t.heap ∧ va_F (va_A w0 s.heap.size) s t) av.toArray s 0 0 (va_A w0 s.heap.size)) (ha : args = av.toArray) (hx : p.tables.exec = Jvm.exec) (hb : c.code = cc) (hr : meth.sig.returnType = some .int) (hlocks : meth.locks = false) (hAe : A = va_A w0 s.heap.size) (hP : va_P (gD Γ) vwCl ws H) (hS : va_S A s.heap H locs) (hdg : decode cc pc = .ok (.ireturn, 1)) (ev : v = r) (ew : ws = wx) :
    W p l e R s m args below meth c H locs 0 0 Q (F0 m pc ls [.int v]) := by
  subst hQ; subst ha; subst hAe; subst ev; subst ew
  exact W.iret hx hb hr (fun t ht hW => ⟨rfl, by rw [ht]; exact hP, hS.F ht⟩) hS.2.2 hdg
theorem re_z {v r : Int32} {ty : FieldType} {w0 wx : va_W} {av : List Value} (hQ : Q = MQ below (fun _ s o t => o = .returned (some (.int r)) ∧ va_P (gD Γ) vwCl wx t.heap ∧ va_F (va_A w0 s.heap.size) s t) av.toArray s 0 0 (va_A w0 s.heap.size)) (ha : args = av.toArray) (hx : p.tables.exec = Jvm.exec) (hb : c.code = cc) (hr : meth.sig.returnType = some ty) (hlocks : meth.locks = false) (hAe : A = va_A w0 s.heap.size) (hP : va_P (gD Γ) vwCl ws H) (hS : va_S A s.heap H locs) (hdg : decode cc pc = .ok (.ireturn, 1)) (hnar : narrow ty (.int v) = .int v) (ev : v = r) (ew : ws = wx) :
    W p l e R s m args below meth c H locs 0 0 Q (F0 m pc ls [.int v]) := by
  subst hQ; subst ha; subst hAe; subst ev; subst ew
  exact W.zret hx hb hr hnar (fun t ht hW => ⟨rfl, by rw [ht]; exact hP, hS.F ht⟩) hS.2.2 hdg
theorem re_l {v r : Int64} {w0 wx : va_W} {av : List Value} (hQ : Q = MQ below (fun _ s o t => o = .returned (some (.long r)) ∧ va_P (gD Γ) vwCl wx t.heap ∧ va_F (va_A w0 s.heap.size) s t) av.toArray s 0 0 (va_A w0 s.heap.size)) (ha : args = av.toArray) (hx : p.tables.exec = Jvm.exec) (hb : c.code = cc) (hr : meth.sig.returnType = some .long) (hlocks : meth.locks = false) (hAe : A = va_A w0 s.heap.size) (hP : va_P (gD Γ) vwCl ws H) (hS : va_S A s.heap H locs) (hdg : decode cc pc = .ok (.lreturn, 1)) (ev : v = r) (ew : ws = wx) :
    W p l e R s m args below meth c H locs 0 0 Q (F0 m pc ls [.long v]) := by
  subst hQ; subst ha; subst hAe; subst ev; subst ew
  exact W.lret hx hb hr (fun t ht hW => ⟨rfl, by rw [ht]; exact hP, hS.F ht⟩) hS.2.2 hdg
theorem re_v {w0 wx : va_W} {av : List Value} (hQ : Q = MQ below (fun _ s o t => o = .returned none ∧ va_P (gD Γ) vwCl wx t.heap ∧ va_F (va_A w0 s.heap.size) s t) av.toArray s 0 0 (va_A w0 s.heap.size)) (ha : args = av.toArray) (hx : p.tables.exec = Jvm.exec) (hb : c.code = cc) (hr : meth.sig.returnType = none) (hlocks : meth.locks = false) (hAe : A = va_A w0 s.heap.size) (hP : va_P (gD Γ) vwCl ws H) (hS : va_S A s.heap H locs) (hdg : decode cc pc = .ok (.return_, 1)) (ew : ws = wx) :
    W p l e R s m args below meth c H locs 0 0 Q (F0 m pc ls []) := by
  subst hQ; subst ha; subst hAe; subst ew
  exact W.vret hx hb hr (fun t ht hW => ⟨rfl, by rw [ht]; exact hP, hS.F ht⟩) hS.2.2 hdg
theorem re_a {v r : Nat} {rt : FieldType} {w0 wx : va_W} {av : List Value} (hQ : Q = MQ below (fun _ s o t => o = .returned (some (.ref r)) ∧ va_P (gD Γ) vwCl wx t.heap ∧ va_F (va_A w0 s.heap.size) s t) av.toArray s 0 0 (va_A w0 s.heap.size)) (ha : args = av.toArray) (hx : p.tables.exec = Jvm.exec) (hb : c.code = cc) (hr : meth.sig.returnType = some rt) (hlocks : meth.locks = false) (hAe : A = va_A w0 s.heap.size) (hP : va_P (gD Γ) vwCl ws H) (hS : va_S A s.heap H locs) (hdg : decode cc pc = .ok (.areturn, 1)) (hrt : (∃ n, rt = .object n) ∨ ∃ t, rt = .array t) (ev : v = r) (ew : ws = wx) :
    W p l e R s m args below meth c H locs 0 0 Q (F0 m pc ls [.ref v]) := by
  subst hQ; subst ha; subst hAe; subst ev; subst ew
  exact W.aret hx hb hr hrt (Or.inr ⟨v, rfl⟩) (fun t ht hW => ⟨rfl, by rw [ht]; exact hP, hS.F ht⟩) hS.2.2 hdg
end CALLS

/-! arrays by natural places -/
section ARR
variable {p : Program} {l : Launch} {e : Env} {R : Room} {s : State} {m : MethodId} {args : Array Value} {below : List Frame} {meth : Method} {c : Code} {H : Heap} {locs : List Loc} {cells slots : Nat} {Q : State → Prop}
variable {cc : ByteArray} {pc : Nat} {ls : Array Slot} {rest : List Value} {D : va_G} {cl : List vw_C} {A : Nat → Prop} {a : Nat} {tys : List (ClassId × FieldType)} {ws : va_W} {H0 : Heap}
theorem nI_of_in {i : Int32} {n : Nat} (h : vp_in i n) (hn : n < 2 ^ 31) : i = nI i.toNatClampNeg := by
  obtain ⟨j, hj, rfl⟩ := vp_in_of h hn
  rw [nI_clamp (by omega)]
theorem in_lt {i : Int32} {n : Nat} (h : vp_in i n) : i.toNatClampNeg < n := Nat.not_le.mp fun q => h (Or.inr q)
theorem ka_iald (hexec : p.tables.exec = Jvm.exec) (hb : c.code = cc) (hK : va_K D cl tys s) (hP : va_P D cl ws H) (q0 t0 : Nat) {cA : ClassId} {n : Nat} {f : Nat → Int32} (ha : ws[q0]? = some (a, .inl (cA, n, .inl f))) (ht : tys[t0]? = some (cA, .int)) {i : Int32} (k : Nat) (hi : i = nI k) (hk : k < n) (hn : n < 2 ^ 31) {v : Int32} (hv : f k = v) (hdg : decode cc pc = .ok (.iaload, 1))
    (kk : W p l e R s m args below meth c H locs cells slots Q (F0 m (pc + 1) ls (.int v :: rest))) : W p l e R s m args below meth c H locs cells slots Q (F0 m pc ls (.int i :: .ref a :: rest)) := by
  subst hi; subst hv
  exact va_iald hexec hb hK hP q0 t0 ha ht (vp_in_nI hk hn) hdg (by rw [nI_clamp (by omega)]; exact kk)
theorem ka_cald (hexec : p.tables.exec = Jvm.exec) (hb : c.code = cc) (hK : va_K D cl tys s) (hP : va_P D cl ws H) (q0 t0 : Nat) {cA : ClassId} {n : Nat} {f : Nat → Int32} (ha : ws[q0]? = some (a, .inl (cA, n, .inl f))) (ht : tys[t0]? = some (cA, .char)) {i : Int32} (k : Nat) (hi : i = nI k) (hk : k < n) (hn : n < 2 ^ 31) {v : Int32} (hv : f k = v) (hdg : decode cc pc = .ok (.caload, 1))
    (kk : W p l e R s m args below meth c H locs cells slots Q (F0 m (pc + 1) ls (.int v :: rest))) : W p l e R s m args below meth c H locs cells slots Q (F0 m pc ls (.int i :: .ref a :: rest)) := by
  subst hi; subst hv
  exact va_cald hexec hb hK hP q0 t0 ha ht (vp_in_nI hk hn) hdg (by rw [nI_clamp (by omega)]; exact kk)
theorem ka_lald (hexec : p.tables.exec = Jvm.exec) (hb : c.code = cc) (hK : va_K D cl tys s) (hP : va_P D cl ws H) (q0 t0 : Nat) {cA : ClassId} {n : Nat} {f : Nat → Int64} (ha : ws[q0]? = some (a, .inl (cA, n, .inr (.inl f)))) (ht : tys[t0]? = some (cA, .long)) {i : Int32} (k : Nat) (hi : i = nI k) (hk : k < n) (hn : n < 2 ^ 31) {v : Int64} (hv : f k = v) (hdg : decode cc pc = .ok (.laload, 1))
    (kk : W p l e R s m args below meth c H locs cells slots Q (F0 m (pc + 1) ls (.long v :: rest))) : W p l e R s m args below meth c H locs cells slots Q (F0 m pc ls (.int i :: .ref a :: rest)) := by
  subst hi; subst hv
  exact va_lald hexec hb hK hP q0 t0 ha ht (vp_in_nI hk hn) hdg (by rw [nI_clamp (by omega)]; exact kk)
theorem ka_iast (hexec : p.tables.exec = Jvm.exec) (hb : c.code = cc) (hK : va_K D cl tys s) (hP : va_P D cl ws H) (hD : va_D A ws) (hS : va_S A H0 H locs) (q0 t0 : Nat) {cA : ClassId} {n : Nat} {f : Nat → Int32} (ha : ws[q0]? = some (a, .inl (cA, n, .inl f))) (ht : tys[t0]? = some (cA, .int)) {i : Int32} {x : Int32} (k : Nat) (hi : i = nI k) (hk : k < n) (hn : n < 2 ^ 31) {wf : va_W} (hw : ws.set q0 (a, .inl (cA, n, .inl (upd f k x))) = wf) (hdg : decode cc pc = .ok (.iastore, 1))
    (kk : ∀ (H1 : Heap) (locs1 : List Loc), va_P D cl wf H1 → va_D A wf → va_S A H0 H1 locs1 → W p l e R s m args below meth c H1 locs1 cells slots Q (F0 m (pc + 1) ls rest)) : W p l e R s m args below meth c H locs cells slots Q (F0 m pc ls (.int x :: .int i :: .ref a :: rest)) := by
  subst hi; subst hw
  refine va_iast hexec hb hK hP hD hS q0 t0 ha ht (vp_in_nI hk hn) hdg (fun H1 locs1 h1 h2 h3 => ?_)
  rw [nI_clamp (by omega)] at h1 h2
  exact kk H1 locs1 h1 h2 h3
theorem ka_last (hexec : p.tables.exec = Jvm.exec) (hb : c.code = cc) (hK : va_K D cl tys s) (hP : va_P D cl ws H) (hD : va_D A ws) (hS : va_S A H0 H locs) (q0 t0 : Nat) {cA : ClassId} {n : Nat} {f : Nat → Int64} (ha : ws[q0]? = some (a, .inl (cA, n, .inr (.inl f)))) (ht : tys[t0]? = some (cA, .long)) {i : Int32} {x : Int64} (k : Nat) (hi : i = nI k) (hk : k < n) (hn : n < 2 ^ 31) {wf : va_W} (hw : ws.set q0 (a, .inl (cA, n, .inr (.inl (vp_updL f k x)))) = wf) (hdg : decode cc pc = .ok (.lastore, 1))
    (kk : ∀ (H1 : Heap) (locs1 : List Loc), va_P D cl wf H1 → va_D A wf → va_S A H0 H1 locs1 → W p l e R s m args below meth c H1 locs1 cells slots Q (F0 m (pc + 1) ls rest)) : W p l e R s m args below meth c H locs cells slots Q (F0 m pc ls (.long x :: .int i :: .ref a :: rest)) := by
  subst hi; subst hw
  refine va_last hexec hb hK hP hD hS q0 t0 ha ht (vp_in_nI hk hn) hdg (fun H1 locs1 h1 h2 h3 => ?_)
  rw [nI_clamp (by omega)] at h1 h2
  exact kk H1 locs1 h1 h2 h3
theorem ka_cast (hexec : p.tables.exec = Jvm.exec) (hb : c.code = cc) (hK : va_K D cl tys s) (hP : va_P D cl ws H) (hD : va_D A ws) (hS : va_S A H0 H locs) (q0 t0 : Nat) {cA : ClassId} {n : Nat} {f : Nat → Int32} (ha : ws[q0]? = some (a, .inl (cA, n, .inl f))) (ht : tys[t0]? = some (cA, .char)) {i : Int32} {x : Int32} (k : Nat) (hi : i = nI k) (hk : k < n) (hn : n < 2 ^ 31) (hx : vp_nar .char x = x) {wf : va_W} (hw : ws.set q0 (a, .inl (cA, n, .inl (upd f k x))) = wf) (hdg : decode cc pc = .ok (.castore, 1))
    (kk : ∀ (H1 : Heap) (locs1 : List Loc), va_P D cl wf H1 → va_D A wf → va_S A H0 H1 locs1 → W p l e R s m args below meth c H1 locs1 cells slots Q (F0 m (pc + 1) ls rest)) : W p l e R s m args below meth c H locs cells slots Q (F0 m pc ls (.int x :: .int i :: .ref a :: rest)) := by
  subst hi; subst hw
  refine va_cast hexec hb hK hP hD hS q0 t0 ha ht (vp_in_nI hk hn) hdg (fun H1 locs1 h1 h2 h3 => ?_)
  rw [nI_clamp (by omega), hx] at h1 h2
  exact kk H1 locs1 h1 h2 h3
/-- a row of an array of arrays -/
theorem ka_aald (hexec : p.tables.exec = Jvm.exec) (hb : c.code = cc) (hK : va_K D cl tys s) (hP : va_P D cl ws H) (q0 t0 : Nat) {cA : ClassId} {n : Nat} {f : Nat → Option Nat} (ha : ws[q0]? = some (a, .inl (cA, n, .inr (.inr (.inr (.inr f)))))) (ht : tys[t0]? = some (cA, .array .int)) {i : Int32} (k : Nat) (hi : i = nI k) (hk : k < n) (hn : n < 2 ^ 31) {v : Nat} (hv : f k = some v) (hdg : decode cc pc = .ok (.aaload, 1))
    (kk : W p l e R s m args below meth c H locs cells slots Q (F0 m (pc + 1) ls (.ref v :: rest))) : W p l e R s m args below meth c H locs cells slots Q (F0 m pc ls (.int i :: .ref a :: rest)) := by
  subst hi
  have hc : (nI k).toNatClampNeg = k := nI_clamp (by omega)
  have hin : vp_in (nI k) n := vp_in_nI hk hn
  have hlt : (nI k).toNatClampNeg < n := by rw [hc]; exact hk
  exact W.aald (v := .ref v) (ty := .array .int) hexec hb (hP q0 _ ha) ((hK.2 t0 _ ht).1 n (fun j => va_rf (f j))) rfl (fun q => by cases q) (by show ¬ (nI k < 0 ∨ (arrV _ _ _).slots.size ≤ _); rw [arrV_size]; exact hin) (by show (arrV _ _ _).slots[_]? = _; rw [arrV_read _ _ hlt, hc, hv]; rfl) rfl rfl hdg kk
end ARR
end
section
/-! the bundles: what the objects hold, and the worlds that hold them -/
abbrev Sett : Type := Nat → Int32
abbrev Sec : Type := Int64 × Int64 × Int32 × Int32 × Int32
abbrev sErr (x : Sec) : Int64 := x.1
abbrev sEff (x : Sec) : Int64 := x.2.1
abbrev sOver (x : Sec) : Int32 := x.2.2.1
abbrev sTicks (x : Sec) : Int32 := x.2.2.2.1
abbrev sUp (x : Sec) : Int32 := x.2.2.2.2
abbrev Wat : Type := (Nat → Int32) × (Nat → Int32) × (Nat → Int32) × (Nat → Int32) × Int32
abbrev wSig (x : Wat) : (Nat → Int32) := x.1
abbrev wLeast (x : Wat) : (Nat → Int32) := x.2.1
abbrev wGreat (x : Wat) : (Nat → Int32) := x.2.2.1
abbrev wGtick (x : Wat) : (Nat → Int32) := x.2.2.2.1
abbrev wCnt (x : Wat) : Int32 := x.2.2.2.2
abbrev Lop : Type := Int32 × Int32 × Int32 × Int32 × Int32 × (Nat → Int32) × (Nat → Int32) × Sec × Wat
abbrev lNow (x : Lop) : Int32 := x.1
abbrev lLoad (x : Lop) : Int32 := x.2.1
abbrev lSeed (x : Lop) : Int32 := x.2.2.1
abbrev lBad (x : Lop) : Int32 := x.2.2.2.1
abbrev lGood (x : Lop) : Int32 := x.2.2.2.2.1
abbrev lPres (x : Lop) : (Nat → Int32) := x.2.2.2.2.2.1
abbrev lRecs (x : Lop) : (Nat → Int32) := x.2.2.2.2.2.2.1
abbrev lSec (x : Lop) : Sec := x.2.2.2.2.2.2.2.1
abbrev lWat (x : Lop) : Wat := x.2.2.2.2.2.2.2.2
abbrev Chg : Type := (Nat → Nat → Int32) × Int32
abbrev cRows (x : Chg) : (Nat → Nat → Int32) := x.1
abbrev cCnt (x : Chg) : Int32 := x.2
abbrev Txt : Type := (Nat → Int32) × (Nat → Int32) × (Nat → Int32) × Int32 × Int32
abbrev tChars (x : Txt) : (Nat → Int32) := x.1
abbrev tTarg (x : Txt) : (Nat → Int32) := x.2.1
abbrev tWant (x : Txt) : (Nat → Int32) := x.2.2.1
abbrev tLen (x : Txt) : Int32 := x.2.2.2.1
abbrev tCnt (x : Txt) : Int32 := x.2.2.2.2
abbrev Xst : Type := Sett × Chg × Txt × Lop × Lop × Lop × Int32 × Sett × Sett × Lop × Lop
abbrev xSet (x : Xst) : Sett := x.1
abbrev xChg (x : Xst) : Chg := x.2.1
abbrev xTxt (x : Xst) : Txt := x.2.2.1
abbrev xLoop (x : Xst) : Lop := x.2.2.2.1
abbrev xFst (x : Xst) : Lop := x.2.2.2.2.1
abbrev xSnd (x : Xst) : Lop := x.2.2.2.2.2.1
abbrev xCnt (x : Xst) : Int32 := x.2.2.2.2.2.2.1
abbrev xTs (x : Xst) : Sett := x.2.2.2.2.2.2.2.1
abbrev xIs (x : Xst) : Sett := x.2.2.2.2.2.2.2.2.1
abbrev xTrial (x : Xst) : Lop := x.2.2.2.2.2.2.2.2.2.1
abbrev xIdeal (x : Xst) : Lop := x.2.2.2.2.2.2.2.2.2.2
abbrev Mst : Type := (Nat → Int64) × (Nat → Int64) × (Nat → Int64) × Int32 × (Nat → Int32) × (Nat → Int32) × (Nat → Int32) × Int32 × (Nat → Int32) × (Nat → Int32) × (Nat → Int32) × Int32 × (Nat → Int32) × (Nat → Int64) × Int32 × Int32 × Int32 × Int32
abbrev mNow (x : Mst) : (Nat → Int64) := x.1
abbrev mAside (x : Mst) : (Nat → Int64) := x.2.1
abbrev mKept (x : Mst) : (Nat → Int64) := x.2.2.1
abbrev mKm (x : Mst) : Int32 := x.2.2.2.1
abbrev mPar (x : Mst) : (Nat → Int32) := x.2.2.2.2.1
abbrev mParA (x : Mst) : (Nat → Int32) := x.2.2.2.2.2.1
abbrev mBef (x : Mst) : (Nat → Int32) := x.2.2.2.2.2.2.1
abbrev mUm (x : Mst) : Int32 := x.2.2.2.2.2.2.2.1
abbrev mLow (x : Mst) : (Nat → Int32) := x.2.2.2.2.2.2.2.2.1
abbrev mHigh (x : Mst) : (Nat → Int32) := x.2.2.2.2.2.2.2.2.2.1
abbrev mNames (x : Mst) : (Nat → Int32) := x.2.2.2.2.2.2.2.2.2.2.1
abbrev mLen (x : Mst) : Int32 := x.2.2.2.2.2.2.2.2.2.2.2.1
abbrev mText (x : Mst) : (Nat → Int32) := x.2.2.2.2.2.2.2.2.2.2.2.2.1
abbrev mPath (x : Mst) : (Nat → Int64) := x.2.2.2.2.2.2.2.2.2.2.2.2.2.1
abbrev mIdeal (x : Mst) : Int32 := x.2.2.2.2.2.2.2.2.2.2.2.2.2.2.1
abbrev mSpot (x : Mst) : Int32 := x.2.2.2.2.2.2.2.2.2.2.2.2.2.2.2.1
abbrev mWhich (x : Mst) : Int32 := x.2.2.2.2.2.2.2.2.2.2.2.2.2.2.2.2.1
abbrev mNum (x : Mst) : Int32 := x.2.2.2.2.2.2.2.2.2.2.2.2.2.2.2.2.2
def setW (Γ : gT) (a : Nat → Nat) (b : Nat) (x : Sett) : va_W := [((a b), .inr (3, [.ref (a (b + 1))])), ((a (b + 1)), .inl (cI Γ, 15, .inl x))]
def secW (Γ : gT) (a : Nat → Nat) (b : Nat) (x : Sec) : va_W := [((a b), .inr (2, [.long (sErr x), .long (sEff x), .int (sOver x), .int (sTicks x), .int (sUp x)]))]
def watW (Γ : gT) (a : Nat → Nat) (b : Nat) (x : Wat) : va_W := [((a b), .inr (5, [.ref (a (b + 1)), .ref (a (b + 2)), .ref (a (b + 3)), .ref (a (b + 4)), .int (wCnt x)])), ((a (b + 1)), .inl (cI Γ, 4, .inl (wSig x))), ((a (b + 2)), .inl (cI Γ, 4, .inl (wLeast x))), ((a (b + 3)), .inl (cI Γ, 4, .inl (wGreat x))), ((a (b + 4)), .inl (cI Γ, 4, .inl (wGtick x)))]
def chgW (Γ : gT) (a : Nat → Nat) (b : Nat) (x : Chg) : va_W := [((a b), .inr (0, [.ref (a (b + 1)), .int (cCnt x)])), ((a (b + 1)), .inl (cR Γ, 6, .inr (.inr (.inr (.inr (fun i => if i < 6 then some (a (b + 2 + i)) else none)))))), ((a (b + 2)), .inl (cI Γ, 15, .inl ((cRows x) 0))), ((a (b + 3)), .inl (cI Γ, 15, .inl ((cRows x) 1))), ((a (b + 4)), .inl (cI Γ, 15, .inl ((cRows x) 2))), ((a (b + 5)), .inl (cI Γ, 15, .inl ((cRows x) 3))), ((a (b + 6)), .inl (cI Γ, 15, .inl ((cRows x) 4))), ((a (b + 7)), .inl (cI Γ, 15, .inl ((cRows x) 5)))]
def txtW (Γ : gT) (a : Nat → Nat) (b : Nat) (x : Txt) : va_W := [((a b), .inr (4, [.ref (a (b + 1)), .ref (a (b + 2)), .ref (a (b + 3)), .int (tLen x), .int (tCnt x)])), ((a (b + 1)), .inl (cC Γ, 80, .inl (tChars x))), ((a (b + 2)), .inl (cI Γ, 16, .inl (tTarg x))), ((a (b + 3)), .inl (cI Γ, 16, .inl (tWant x)))]
def modW (Γ : gT) (a : Nat → Nat) (b : Nat) (x : Mst) : va_W := [((a b), .inr (7, [.ref (a (b + 1)), .ref (a (b + 2)), .ref (a (b + 3)), .int (mKm x), .ref (a (b + 4)), .ref (a (b + 5)), .ref (a (b + 6)), .int (mUm x), .ref (a (b + 7)), .ref (a (b + 8)), .ref (a (b + 9)), .int (mLen x), .ref (a (b + 10)), .ref (a (b + 11)), .int (mIdeal x), .int (mSpot x), .int (mWhich x), .int (mNum x)])), ((a (b + 1)), .inl (cL Γ, 681, .inr (.inl (mNow x)))), ((a (b + 2)), .inl (cL Γ, 681, .inr (.inl (mAside x)))), ((a (b + 3)), .inl (cL Γ, 1362, .inr (.inl (mKept x)))), ((a (b + 4)), .inl (cI Γ, 15, .inl (mPar x))), ((a (b + 5)), .inl (cI Γ, 15, .inl (mParA x))), ((a (b + 6)), .inl (cI Γ, 90, .inl (mBef x))), ((a (b + 7)), .inl (cI Γ, 15, .inl (mLow x))), ((a (b + 8)), .inl (cI Γ, 15, .inl (mHigh x))), ((a (b + 9)), .inl (cI Γ, 135, .inl (mNames x))), ((a (b + 10)), .inl (cI Γ, 80, .inl (mText x))), ((a (b + 11)), .inl (cL Γ, 232, .inr (.inl (mPath x))))]
def arrP (Γ : gT) (a : Nat → Nat) (b : Nat) (x : (Nat → Int32)) : va_W := [((a b), .inl (cI Γ, 10, .inl x))]
def lopW (Γ : gT) (a : Nat → Nat) (b : Nat) (x : Lop) : va_W := ((a b), .inr (1, [.int (lNow x), .int (lLoad x), .int (lSeed x), .int (lBad x), .int (lGood x), .ref (a (b + 1)), .ref (a (b + 2)), .ref (a (b + 3)), .ref (a (b + 4))])) :: ((a (b + 1)), .inl (cI Γ, 10, .inl (lPres x))) :: ((a (b + 2)), .inl (cI Γ, 640, .inl (lRecs x))) :: (secW Γ a (b + 3) (lSec x) ++ watW Γ a (b + 4) (lWat x))
def xW (Γ : gT) (a : Nat → Nat) (x : Xst) : va_W := ((a 0), .inr (6, [.ref (a 1), .ref (a 3), .ref (a 11), .ref (a 15), .ref (a 24), .ref (a 33), .int (xCnt x), .ref (a 42), .ref (a 44), .ref (a 46), .ref (a 55)])) :: (setW Γ a 1 (xSet x) ++ (chgW Γ a 3 (xChg x) ++ (txtW Γ a 11 (xTxt x) ++ (lopW Γ a 15 (xLoop x) ++ (lopW Γ a 24 (xFst x) ++ (lopW Γ a 33 (xSnd x) ++ (setW Γ a 42 (xTs x) ++ (setW Γ a 44 (xIs x) ++ (lopW Γ a 46 (xTrial x) ++ lopW Γ a 55 (xIdeal x))))))))))
/-! the library's functions -/
abbrev iRem (x y : Int32) : Int32 := x - x / y * y
abbrev lRem (x y : Int64) : Int64 := x - x / y * y
def kMax (x y : Int32) : Int32 := if x < y then y else x
def kMin (x y : Int32) : Int32 := if y < x then y else x
def kAbs (x : Int32) : Int32 := if 0 ≤ x then x else 0 - x
def kMaxL (x y : Int64) : Int64 := if y < x then x else y
def kMinL (x y : Int64) : Int64 := if y < x then y else x
/-- a switch's last road -/
theorem tbl_out (x : Int32) (lo hi : Int) (h1 : -2147483648 ≤ lo) (h2 : hi ≤ 2147483647) (h : ¬ (lo ≤ x.toInt ∧ x.toInt ≤ hi)) : x.toInt < lo ∨ hi < x.toInt := by omega
end
section
/-! what the class's methods answer and make of the bundles, close to the Java -/
def kFdiv (x y : Int64) : Int64 := if 0 ≤ x ^^^ y then x / y else if (x / y) * y = x then x / y else x / y - 1
def kFmod (x y : Int32) : Int32 := if 0 ≤ x ^^^ y then x - x / y * y else if x - x / y * y = 0 then x - x / y * y else (x - x / y * y) + y
def fPar (k : Int32) : Int32 := if k < 0 then 0 else if 15 ≤ k then 0 else 1
def fSig (k : Int32) : Int32 := if k < 0 then 0 else if 10 ≤ k then 0 else 1
def fLev (v : Int32) : Int32 := if v < -100000 then 0 else if 100000 < v then 0 else 1
def fThou (x : Int64) : Int64 := kFdiv x 1000
def fStep (s g w : Int64) : Int32 := (s + fThou (w * (g - s))).toInt32
def fLim (v lo hi : Int64) : Int64 := kMinL (kMaxL v lo) hi
def fGet (v : Sett) (k : Int32) : Int32 := if fPar k = 0 then 0 else v k.toNatClampNeg
def fSet (v : Sett) (k x : Int32) : Sett := if fPar k = 0 then v else upd v k.toNatClampNeg x
def fRec (now : Int32) (recs : Nat → Int32) (sg tk : Int32) : Int32 := if fSig sg = 0 then 0 else if tk < 0 then 0 else if now ≤ tk then 0 else if now - 64 ≤ tk then recs ((sg * 64) + kFmod tk 64).toNatClampNeg else 0
def fSecBegin (up : Int32) : Sec := (0, 0, 0, 0, up)
def fSetR (σ : Lop) (v : Int32) : Lop := (lNow σ, lLoad σ, lSeed σ, lBad σ, lGood σ, upd (lPres σ) 0 v, lRecs σ, fSecBegin (if v < lPres σ 0 then 0 else 1), lWat σ)
/-- agreement: the sum from tick t on, n ticks at most -/
def fAgr (now : Int32) (recs : Nat → Int32) (lag : Int32) : Nat → Int32 → Int64 → Int64
  | 0, _, sum => sum
  | n + 1, t, sum => if now ≤ t then sum else fAgr now recs lag n (t + 1) (sum + (fRec now recs 2 ((t - 1) - lag) - fRec now recs 2 (((t - 1) - lag) - 1)).toInt64 * (fRec now recs 1 t - fRec now recs 1 (t - 1)).toInt64)
def fAgree (now : Int32) (recs : Nat → Int32) (lag : Int32) : Int64 := fAgr now recs lag 33 (kMax 0 (now - 32)) 0
def fNoise (now seed amp : Int32) : Int32 := if 1 ≤ 2 * amp.toInt64 + 1 then (lRem (lRem (((7919 * now.toInt64 + 6151 * seed.toInt64) + 1) * ((7919 * now.toInt64 + 6151 * seed.toInt64) + 1)) 65521) (2 * amp.toInt64 + 1) - amp.toInt64).toInt32 else 0
def fDelNew (now : Int32) (recs : Nat → Int32) (sg value tk : Int32) : Int64 := if tk = 0 then value.toInt64 else (fRec now recs sg (now - tk)).toInt64
def fDel2 (newer older : Int64) (part : Int32) : Int32 := (kFdiv (newer * (10 - part).toInt64 + older * part.toInt64) 10).toInt32
def fDelay (now : Int32) (recs : Nat → Int32) (sg value tenths : Int32) : Int32 := fDel2 (fDelNew now recs sg value (tenths / 10)) (fRec now recs sg ((now - tenths / 10) - 1)).toInt64 (iRem tenths 10)
def lSetP (σ : Lop) (p : Nat → Int32) : Lop := (lNow σ, lLoad σ, lSeed σ, lBad σ, lGood σ, p, lRecs σ, lSec σ, lWat σ)
def fBad (isBad bad : Int32) : Int32 := if isBad = 0 then 0 else bad + 1
def fGood (isBad good : Int32) : Int32 := if isBad = 0 then good + 1 else 0
def fRej (mode bad pat : Int32) : Int32 := if mode = 0 then (if bad < pat then 0 else 1) else 0
def fTru (mode good pat : Int32) : Int32 := if mode = 1 then (if good < 2 * pat then 0 else 1) else 0
def fJudge2 (σ : Lop) (bad good rej tru : Int32) : Lop := if rej = 0 then (if tru = 0 then (lNow σ, lLoad σ, lSeed σ, bad, good, lPres σ, lRecs σ, lSec σ, lWat σ) else (lNow σ, lLoad σ, lSeed σ, 0, 0, upd (lPres σ) 9 0, lRecs σ, lSec σ, lWat σ)) else (lNow σ, lLoad σ, lSeed σ, 0, 0, upd (lPres σ) 9 1, lRecs σ, lSec σ, lWat σ)
def fJudge (σ : Lop) (isBad pat : Int32) : Lop := fJudge2 σ (fBad isBad (lBad σ)) (fGood isBad (lGood σ)) (fRej (lPres σ 9) (fBad isBad (lBad σ)) pat) (fTru (lPres σ 9) (fGood isBad (lGood σ)) pat)
def fLess (mode ideal : Int32) : Int32 := if mode = 1 then (if ideal = 0 then 1 else 0) else 0
def fFeed (less ideal m x f : Int32) : Int32 := if less = 0 then (if ideal = 0 then x + f else m) else m
def fProp (less kp : Int32) : Int64 := if less = 0 then kp.toInt64 else (kp / 2).toInt64
def fInte (less ki : Int32) : Int64 := if less = 0 then ki.toInt64 else (ki / 4).toInt64
def fOut (u : Int32) (wanted : Int64) (v : Sett) : Int64 := fLim (fLim wanted (fGet v 9).toInt64 (fGet v 10).toInt64) (u.toInt64 - (fGet v 11).toInt64) (u.toInt64 + (fGet v 11).toInt64)
/-- whether i is held back -/
def fHeld (output wanted : Int64) (e : Int32) : Bool := decide (output < wanted) && decide (0 < e) || decide (wanted < output) && decide (e < 0)
def fCtl2 (p : Nat → Int32) (e : Int32) (sum wanted output : Int64) : Nat → Int32 := if fHeld output wanted e then upd (upd p 6 e) 2 output.toInt32 else upd (upd (upd p 6 e) 2 output.toInt32) 7 sum.toInt32
def fCtl1 (p : Nat → Int32) (v : Sett) (e : Int32) (sum wanted : Int64) : Nat → Int32 := fCtl2 p e sum wanted (fOut (p 2) wanted v)
def fCtl0 (p : Nat → Int32) (v : Sett) (prop inte : Int64) (e : Int32) : Nat → Int32 := fCtl1 p v e ((p 7).toInt64 + fThou (inte * e.toInt64)) (fThou (prop * e.toInt64) + ((p 7).toInt64 + fThou (inte * e.toInt64)))
def fCtl (p : Nat → Int32) (v : Sett) (ideal : Int32) : Nat → Int32 := fCtl0 p v (fProp (fLess (p 9) ideal) (fGet v 0)) (fInte (fLess (p 9) ideal) (fGet v 1)) (p 0 - fFeed (fLess (p 9) ideal) ideal (p 1) (p 3) (p 5))
/-- the records behind the first k signals -/
def fKeepN (now : Int32) (pres recs : Nat → Int32) : Nat → Nat → Int32
  | 0 => recs
  | k + 1 => upd (fKeepN now pres recs k) ((nI k * 64) + kFmod now 64).toNatClampNeg (pres k)
def fKeep (now : Int32) (pres recs : Nat → Int32) : Nat → Int32 := fKeepN now pres recs 10
def fOver (up m r over : Int32) : Int32 := kMax over (if up = 0 then r - m else m - r)
def fSecSee (x : Sec) (r m d : Int32) : Sec := (sErr x + (kAbs (r - m)).toInt64, sEff x + (kAbs d).toInt64, fOver (sUp x) m r (sOver x), sTicks x + 1, sUp x)
def fPlaceN (cnt : Int32) (sig : Nat → Int32) (s : Int32) : Nat → Nat → Int32
  | 0, _ => -1
  | n + 1, i => if cnt ≤ nI i then -1 else if 4 ≤ nI i then -1 else if sig i = s then nI i else fPlaceN cnt sig s n (i + 1)
def fPlace (cnt : Int32) (sig : Nat → Int32) (s : Int32) : Int32 := fPlaceN cnt sig s 5 0
def wAddAt (w : Wat) (k : Nat) (s cnt : Int32) : Wat := (upd (wSig w) k s, wLeast w, wGreat w, upd (wGtick w) k (-1), cnt)
def fAdd1 (w : Wat) (s pl : Int32) : Wat := if pl = -1 then (if wCnt w < 4 then wAddAt w (wCnt w).toNatClampNeg s (wCnt w + 1) else w) else wAddAt w pl.toNatClampNeg s (wCnt w)
def fAdd (w : Wat) (s : Int32) : Wat := fAdd1 w s (fPlace (wCnt w) (wSig w) s)
def fAddR (cnt pl : Int32) : Int32 := if pl = -1 then (if cnt < 4 then 1 else 0) else 1
/-- the cells behind place j move up by one, from place i on -/
def fShift1 (w : Wat) (i : Nat) : Wat := (upd (wSig w) (i - 1) (wSig w i), upd (wLeast w) (i - 1) (wLeast w i), upd (wGreat w) (i - 1) (wGreat w i), upd (wGtick w) (i - 1) (wGtick w i), wCnt w)
def fShiftN : Nat → Nat → Wat → Wat
  | 0, _, w => w
  | n + 1, i, w => if wCnt w ≤ nI i then w else if 4 ≤ nI i then w else fShiftN n (i + 1) (fShift1 w i)
theorem fShiftN_s (n i : Nat) (w : Wat) : fShiftN (n + 1) i w = if wCnt w ≤ nI i then w else if 4 ≤ nI i then w else fShiftN n (i + 1) (fShift1 w i) := rfl
def wDec (w : Wat) : Wat := (wSig w, wLeast w, wGreat w, wGtick w, wCnt w - 1)
def fRemove1 (w : Wat) (pl : Int32) : Wat := if pl = -1 then w else wDec (fShiftN 5 (pl.toNatClampNeg + 1) w)
def fRemove (w : Wat) (s : Int32) : Wat := fRemove1 w (fPlace (wCnt w) (wSig w) s)
def fRemR (pl : Int32) : Int32 := if pl = -1 then 0 else 1
def fSeen (gt : Nat → Int32) (k : Int32) : Int32 := if k < 0 then 0 else if 4 ≤ k then 0 else if gt k.toNatClampNeg = -1 then 0 else 1
def fWget (w : Wat) (k what : Int32) : Int32 := if k < 0 then -2000000004 else if k < 4 then (if what = 0 then wLeast w k.toNatClampNeg else if what = 1 then wGreat w k.toNatClampNeg else wGtick w k.toNatClampNeg) else -2000000004
def fFirst (gt : Nat → Int32) (k : Int32) : Int32 := if fSeen gt k = 0 then 1 else 0
def fSeeLo (first v : Int32) (lo : Nat → Int32) (k : Nat) : Nat → Int32 := if first = 0 then (if lo k ≤ v then lo else upd lo k v) else upd lo k v
def fSeeHi (first v : Int32) (hi : Nat → Int32) (k : Nat) : Nat → Int32 := if first = 0 then (if v ≤ hi k then hi else upd hi k v) else upd hi k v
def fSeeGt (first v tick : Int32) (hi gt : Nat → Int32) (k : Nat) : Nat → Int32 := if first = 0 then (if v ≤ hi k then gt else upd gt k tick) else upd gt k tick
def fSeeOne1 (w : Wat) (first : Int32) (k : Nat) (v tick : Int32) : Wat := (wSig w, fSeeLo first v (wLeast w) k, fSeeHi first v (wGreat w) k, fSeeGt first v tick (wGreat w) (wGtick w) k, wCnt w)
def fSeeOne (w : Wat) (k v tick : Int32) : Wat := fSeeOne1 w (fFirst (wGtick w) k) k.toNatClampNeg v tick
def fWsee1 (w : Wat) (p : Nat → Int32) (i : Nat) (tick : Int32) : Wat := if wSig w i < 0 then w else if 10 ≤ wSig w i then w else fSeeOne w (nI i) (p (wSig w i).toNatClampNeg) tick
def fWseeN (p : Nat → Int32) (tick : Int32) : Nat → Nat → Wat → Wat
  | 0, _, w => w
  | n + 1, i, w => if wCnt w ≤ nI i then w else if 4 ≤ nI i then w else fWseeN p tick n (i + 1) (fWsee1 w p i tick)
def fWsee (w : Wat) (p : Nat → Int32) (tick : Int32) : Wat := fWseeN p tick 5 0 w
def fYx (p : Nat → Int32) (v : Sett) (input : Int64) : Nat → Int32 := upd (upd p 8 (fStep (p 8).toInt64 (fThou ((fGet v 2).toInt64 * input)) (1000 - fGet v 3).toInt64)) 3 (fStep (p 3).toInt64 (fThou ((fGet v 5).toInt64 * (p 2).toInt64)) (1000 - fGet v 6).toInt64)
def fMove (σ : Lop) (v : Sett) : Lop := (lNow σ + 1, lLoad σ, lSeed σ, lBad σ, lGood σ, fYx (lPres σ) v (fDelay (lNow σ) (lRecs σ) 2 (lPres σ 2) (fGet v 4) + lLoad σ).toInt64, lRecs σ, lSec σ, lWat σ)
def fLoud (mis lim : Int32) : Int32 := if mis ≤ lim then 0 else 1
def fTick1 (σ : Lop) (v : Sett) (m p : Int32) : Lop := fJudge (lSetP σ (upd (upd (upd (lPres σ) 1 m) 4 p) 5 (fStep (lPres σ 5).toInt64 (m - p).toInt64 (1000 - fGet v 8).toInt64))) (fLoud (kAbs (m - p)) (fGet v 12)) (fGet v 13)
def fTick2 (σ : Lop) (v : Sett) (ideal : Int32) : Lop := lSetP σ (fCtl (lPres σ) v ideal)
def fTick3 (σ : Lop) : Lop := (lNow σ, lLoad σ, lSeed σ, lBad σ, lGood σ, lPres σ, fKeep (lNow σ) (lPres σ) (lRecs σ), lSec σ, lWat σ)
def fTick4 (σ : Lop) (u0 : Int32) : Lop := (lNow σ, lLoad σ, lSeed σ, lBad σ, lGood σ, lPres σ, lRecs σ, fSecSee (lSec σ) (lPres σ 0) (lPres σ 1) (lPres σ 2 - u0), fWsee (lWat σ) (lPres σ) (lNow σ))
def fTick (σ : Lop) (v : Sett) (ideal : Int32) : Lop := fMove (fTick4 (fTick3 (fTick2 (fTick1 σ v (lPres σ 8 + fNoise (lNow σ) (lSeed σ) (fGet v 14)) (fDelay (lNow σ) (lRecs σ) 3 (lPres σ 3) (fGet v 7))) v ideal)) (lPres σ 2)) v
def fLoopCopy (σ τ : Lop) : Lop := (lNow τ, lLoad τ, lSeed τ, lBad τ, lGood τ, va_cpy (lPres τ) (lPres σ) 0 0 10, va_cpy (lRecs τ) (lRecs σ) 0 0 640, lSec τ, (va_cpy (wSig (lWat τ)) (wSig (lWat σ)) 0 0 4, va_cpy (wLeast (lWat τ)) (wLeast (lWat σ)) 0 0 4, va_cpy (wGreat (lWat τ)) (wGreat (lWat σ)) 0 0 4, va_cpy (wGtick (lWat τ)) (wGtick (lWat σ)) 0 0 4, wCnt (lWat τ)))
def fZeroN (p : Nat → Int32) : Nat → Nat → Int32
  | 0 => p
  | k + 1 => upd (fZeroN p k) k 0
def fBegin (σ : Lop) : Lop := (0, 0, 0, 0, 0, fZeroN (lPres σ) 10, lRecs σ, fSecBegin 1, (wSig (lWat σ), wLeast (lWat σ), wGreat (lWat σ), wGtick (lWat σ), 0))
theorem fSig_bit (k : Int32) : narrow .boolean (.int (fSig k)) = .int (fSig k) := by unfold fSig; split; rfl; split <;> rfl
theorem fPar_in {k : Int32} (h : ¬ fPar k = 0) : vp_in k 15 := by
  unfold fPar at h
  by_cases h1 : k < 0
  · simp [h1] at h
  · by_cases h2 : (15 : Int32) ≤ k
    · simp [h1, h2] at h
    · rw [vp_in_iff]
      have a := Int32.not_lt.mp h1
      have b := Int32.not_le.mp h2
      rw [Int32.le_iff_toInt_le] at a
      rw [Int32.lt_iff_toInt_lt] at b
      exact ⟨by simpa using a, by simpa using b⟩
theorem fSig_in {k : Int32} (h : ¬ fSig k = 0) : vp_in k 10 := by
  unfold fSig at h
  by_cases h1 : k < 0
  · simp [h1] at h
  · by_cases h2 : (10 : Int32) ≤ k
    · simp [h1, h2] at h
    · rw [vp_in_iff]
      have a := Int32.not_lt.mp h1
      have b := Int32.not_le.mp h2
      rw [Int32.le_iff_toInt_le] at a
      rw [Int32.lt_iff_toInt_lt] at b
      exact ⟨by simpa using a, by simpa using b⟩
theorem kFmod64 (j : Nat) (hj : j < 2 ^ 31) : kFmod (nI j) 64 = nI (j % 64) := by
  have h := pk_rem (a := j) (d := 64) hj (by decide) (by decide)
  have e : (64 : Int32) = nI 64 := rfl
  have hn : ¬ nI (j % 64) < 0 := nI_pos (by omega)
  unfold kFmod
  rw [e, h]
  split
  · rfl
  · rename_i h1
    exfalso
    apply h1
    rw [Int32.le_iff_toInt_le]
    have h2 : (nI j ^^^ nI 64).toBitVec = (nI (j ^^^ 64)).toBitVec := by
      rw [Int32.toBitVec_xor]
      show BitVec.ofNat 32 j ^^^ BitVec.ofNat 32 64 = BitVec.ofNat 32 (j ^^^ 64)
      apply BitVec.eq_of_toNat_eq
      simp [BitVec.toNat_xor, Nat.mod_eq_of_lt (show j < 2 ^ 32 by omega), Nat.mod_eq_of_lt (show j ^^^ 64 < 2 ^ 32 from Nat.xor_lt_two_pow (by omega) (by decide))]
    have h3 : nI j ^^^ nI 64 = nI (j ^^^ 64) := Int32.toBitVec_inj.mp h2
    rw [h3, nI_toInt (Nat.xor_lt_two_pow hj (by decide))]
    simp
theorem rec_in {sg tk : Int32} (h : ¬ fSig sg = 0) (h2 : ¬ tk < 0) : vp_in ((sg * 64) + kFmod tk 64) 640 := by
  obtain ⟨j, hj, rfl⟩ := vp_in_of (fSig_in h) (by decide)
  obtain ⟨t, ht, rfl⟩ := nI_of h2
  rw [kFmod64 t ht, show (64 : Int32) = nI 64 from rfl, pk_mul, nI_add]
  exact vp_in_nI (by omega) (by decide)
theorem isB_nar {v : Int32} (h : v = 0 ∨ v = 1) : narrow .boolean (.int v) = .int v := by rcases h with rfl | rfl <;> rfl
theorem isB_fit {v : Int32} (h : v = 0 ∨ v = 1) : fits .boolean (.int v) = true := by rcases h with rfl | rfl <;> rfl
theorem ne_of_1le {x : Int64} (h : 1 ≤ x) : ¬ x = 0 := by rintro rfl; exact absurd h (by decide)
theorem nI_of_place {x : Int32} {i : Nat} (h : x = nI i) (hi : i < 2 ^ 31) : x.toNatClampNeg = i := by rw [h]; exact nI_clamp hi
theorem lt_of_nle {i k : Nat} (h : ¬ nI k ≤ nI i) (hi : i < 2 ^ 31) (hk : k < 2 ^ 31) : i < k := by
  rcases Nat.lt_or_ge i k with q | q
  · exact q
  · exact absurd (nI_le q hi) h
theorem keep_in {now : Int32} {k : Nat} (hk : k < 10) (h2 : ¬ now < 0) : vp_in ((nI k * 64) + kFmod now 64) 640 := by
  obtain ⟨t, ht, rfl⟩ := nI_of h2
  rw [kFmod64 t ht, show (64 : Int32) = nI 64 from rfl, pk_mul, nI_add]
  exact vp_in_nI (by omega) (by decide)
theorem in_rng {x : Int32} {n : Nat} (hn : n < 2 ^ 31) (h1 : ¬ x < 0) (h2 : ¬ nI n ≤ x) : vp_in x n := by
  obtain ⟨j, hj, rfl⟩ := nI_of h1
  exact vp_in_nI (lt_of_nle h2 hj hn) hn
theorem in_lt4 {x : Int32} (h1 : ¬ x < 0) (h2 : x < 4) : vp_in x 4 := in_rng (n := 4) (by decide) h1 (Int32.not_le.mpr h2)
theorem nI_pm {i : Nat} (h : 1 ≤ i) : nI i - 1 = nI (i - 1) := by
  rw [show (1 : Int32) = nI 1 from rfl, pk_sub h]
theorem placeN_in (cnt : Int32) (sig : Nat → Int32) (s : Int32) : ∀ n i : Nat, i + n ≤ 5 → ¬ fPlaceN cnt sig s n i = -1 → vp_in (fPlaceN cnt sig s n i) 4
  | 0, i, h, hne => absurd rfl hne
  | n + 1, i, h, hne => by
    unfold fPlaceN at hne ⊢
    by_cases h1 : cnt ≤ nI i
    · simp [h1] at hne
    · by_cases h2 : (4 : Int32) ≤ nI i
      · simp [h1, h2] at hne
      · by_cases h3 : sig i = s
        · simp only [h1, h2, h3, if_true, if_false]
          exact vp_in_nI (lt_of_nle (k := 4) h2 (by omega) (by decide)) (by decide)
        · simp only [h1, h2, h3, if_false] at hne ⊢
          exact placeN_in cnt sig s n (i + 1) (by omega) hne
theorem place_in {cnt : Int32} {sig : Nat → Int32} {s : Int32} (h : ¬ fPlace cnt sig s = -1) : vp_in (fPlace cnt sig s) 4 := placeN_in cnt sig s 5 0 (by omega) h
end
section
def rm_J9_floorDiv_f86c9 : Room := { frames := 0, cells := 0, slots := 0, locals := 0 }
set_option maxHeartbeats 4000000 in
set_option maxRecDepth 100000 in
theorem c_J9_floorDiv_f86c9 (Γ : gT) (l : Launch) (x : Int64) (y : Int64) (hy : ¬ y = 0) : Cl Γ l yJ9_floorDiv_f86c9 wsJ9_floorDiv_f86c9 rm_J9_floorDiv_f86c9 [.long x, .long y] ([]) (kFdiv x y) ([]) := by
  refine Cl.of (cc := cJ9_floorDiv_f86c9) (own := RJ9) (nL := 6) (ret := (some .long)) (by decide +kernel) rfl rfl (Nat.le_of_ble_eq_true rfl) ?_
  intro p e s m args below meth c A Q H locs ls ha hAe hQ hx hb hml hr hts hown hlk hP hK hD hS hA hG hl
  have hh : Hd Γ p s m args c cJ9_floorDiv_f86c9 RJ9 6 wsJ9_floorDiv_f86c9 A := ⟨⟨hx, hb, hml, hown, hts⟩, hK, hA, hG⟩
  have hl : lv_has ls 6 [(0, .long x), (2, .long y)] := hl
  refine lv_lload_n hx hb dJ9_floorDiv_f86c9_0 rfl (lv_at hl 0 rfl) ?_
  refine lv_lload_n hx hb dJ9_floorDiv_f86c9_1 rfl (lv_at hl 1 rfl) ?_
  refine lv_ldiv hx hb dJ9_floorDiv_f86c9_2 hy ?_
  refine lv_lstore (lv' := [(4, .long (x / y)), (0, .long x), (2, .long y)]) hx hb dJ9_floorDiv_f86c9_3 hl (by decide) rfl (fun ls hl => ?_)
  refine lv_lload_n hx hb dJ9_floorDiv_f86c9_5 rfl (lv_at hl 1 rfl) ?_
  refine lv_lload_n hx hb dJ9_floorDiv_f86c9_6 rfl (lv_at hl 2 rfl) ?_
  refine lv_lxor hx hb dJ9_floorDiv_f86c9_7 ?_
  refine lv_lconst (v := 0) hx hb dJ9_floorDiv_f86c9_8 (by decide) ?_
  refine W.lcmp hx hb dJ9_floorDiv_f86c9_9 ?_
  refine lv_if_ge (tgt := 27) hx hb dJ9_floorDiv_f86c9_10 (by decide) (fun c_10 => ?_) (fun c_10 => ?_)
  · -- yes
    have c_10 := (lg_cmp_ge _ _).mp c_10
    refine lv_lload hx hb dJ9_floorDiv_f86c9_27 (lv_at hl 0 rfl) ?_
    exact re_l hQ ha hx hb hr hlk hAe hP hS dJ9_floorDiv_f86c9_29 (by skip; first | rfl | simp [kFdiv, c_10]) (by skip; first | rfl | simp [kFdiv, c_10])
  · -- no
    have c_10 := mt (lg_cmp_ge _ _).mpr c_10
    refine lv_lload hx hb dJ9_floorDiv_f86c9_13 (lv_at hl 0 rfl) ?_
    refine lv_lload_n hx hb dJ9_floorDiv_f86c9_15 rfl (lv_at hl 2 rfl) ?_
    refine lv_lmul hx hb dJ9_floorDiv_f86c9_16 ?_
    refine lv_lload_n hx hb dJ9_floorDiv_f86c9_17 rfl (lv_at hl 1 rfl) ?_
    refine W.lcmp hx hb dJ9_floorDiv_f86c9_18 ?_
    refine lv_if_eq (tgt := 27) hx hb dJ9_floorDiv_f86c9_19 (by decide) (fun c_19 => ?_) (fun c_19 => ?_)
    · -- yes
      have c_19 := (lg_cmp_eq _ _).mp c_19
      refine lv_lload hx hb dJ9_floorDiv_f86c9_27 (lv_at hl 0 rfl) ?_
      exact re_l hQ ha hx hb hr hlk hAe hP hS dJ9_floorDiv_f86c9_29 (by skip; first | rfl | simp [kFdiv, c_10, c_19]) (by skip; first | rfl | simp [kFdiv, c_10, c_19])
    · -- no
      have c_19 := mt (lg_cmp_eq _ _).mpr c_19
      refine lv_lload hx hb dJ9_floorDiv_f86c9_22 (lv_at hl 0 rfl) ?_
      refine lv_lconst (v := 1) hx hb dJ9_floorDiv_f86c9_24 (by decide) ?_
      refine lv_lsub hx hb dJ9_floorDiv_f86c9_25 ?_
      exact re_l hQ ha hx hb hr hlk hAe hP hS dJ9_floorDiv_f86c9_26 (by skip; first | rfl | simp [kFdiv, c_10, c_19]) (by skip; first | rfl | simp [kFdiv, c_10, c_19])
def rm_J9_floorMod_7cf53 : Room := { frames := 0, cells := 0, slots := 0, locals := 0 }
set_option maxHeartbeats 4000000 in
set_option maxRecDepth 100000 in
theorem c_J9_floorMod_7cf53 (Γ : gT) (l : Launch) (x : Int32) (y : Int32) (hy : ¬ y = 0) : Ci Γ l yJ9_floorMod_7cf53 wsJ9_floorMod_7cf53 rm_J9_floorMod_7cf53 [.int x, .int y] ([]) (kFmod x y) ([]) := by
  refine Ci.of (cc := cJ9_floorMod_7cf53) (own := RJ9) (nL := 3) (ret := (some .int)) (by decide +kernel) rfl rfl (Nat.le_of_ble_eq_true rfl) ?_
  intro p e s m args below meth c A Q H locs ls ha hAe hQ hx hb hml hr hts hown hlk hP hK hD hS hA hG hl
  have hh : Hd Γ p s m args c cJ9_floorMod_7cf53 RJ9 3 wsJ9_floorMod_7cf53 A := ⟨⟨hx, hb, hml, hown, hts⟩, hK, hA, hG⟩
  have hl : lv_has ls 3 [(0, .int x), (1, .int y)] := hl
  refine lv_iload_n hx hb dJ9_floorMod_7cf53_0 rfl (lv_at hl 0 rfl) ?_
  refine lv_iload_n hx hb dJ9_floorMod_7cf53_1 rfl (lv_at hl 1 rfl) ?_
  refine lv_irem hx hb dJ9_floorMod_7cf53_2 hy ?_
  refine lv_istore_n (lv' := [(2, .int (iRem x y)), (0, .int x), (1, .int y)]) hx hb dJ9_floorMod_7cf53_3 rfl hl (by decide) rfl (fun ls hl => ?_)
  refine lv_iload_n hx hb dJ9_floorMod_7cf53_4 rfl (lv_at hl 1 rfl) ?_
  refine lv_iload_n hx hb dJ9_floorMod_7cf53_5 rfl (lv_at hl 2 rfl) ?_
  refine lv_ixor hx hb dJ9_floorMod_7cf53_6 ?_
  refine lv_if_ge (tgt := 18) hx hb dJ9_floorMod_7cf53_7 (by decide) (fun c_7 => ?_) (fun c_7 => ?_)
  · -- yes
    refine lv_iload_n hx hb dJ9_floorMod_7cf53_18 rfl (lv_at hl 0 rfl) ?_
    exact re_i hQ ha hx hb hr hlk hAe hP hS dJ9_floorMod_7cf53_19 (by skip; first | rfl | simp [kFmod, c_7]) (by skip; first | rfl | simp [kFmod, c_7])
  · -- no
    refine lv_iload_n hx hb dJ9_floorMod_7cf53_10 rfl (lv_at hl 0 rfl) ?_
    refine lv_if_eq (tgt := 18) hx hb dJ9_floorMod_7cf53_11 (by decide) (fun c_11 => ?_) (fun c_11 => ?_)
    · -- yes
      refine lv_iload_n hx hb dJ9_floorMod_7cf53_18 rfl (lv_at hl 0 rfl) ?_
      exact re_i hQ ha hx hb hr hlk hAe hP hS dJ9_floorMod_7cf53_19 (by skip; first | rfl | simp [kFmod, c_7, c_11]) (by skip; first | rfl | simp [kFmod, c_7, c_11])
    · -- no
      refine lv_iload_n hx hb dJ9_floorMod_7cf53_14 rfl (lv_at hl 0 rfl) ?_
      refine lv_iload_n hx hb dJ9_floorMod_7cf53_15 rfl (lv_at hl 2 rfl) ?_
      refine lv_iadd hx hb dJ9_floorMod_7cf53_16 ?_
      exact re_i hQ ha hx hb hr hlk hAe hP hS dJ9_floorMod_7cf53_17 (by skip; first | rfl | simp [kFmod, c_7, c_11]) (by skip; first | rfl | simp [kFmod, c_7, c_11])
def rm_X6_isParameter : Room := { frames := 0, cells := 0, slots := 0, locals := 0 }
set_option maxHeartbeats 4000000 in
set_option maxRecDepth 100000 in
theorem c_X6_isParameter (Γ : gT) (l : Launch) (k : Int32)  : Ci Γ l yX6_isParameter wsX6_isParameter rm_X6_isParameter [.int k] ([]) (fPar k) ([]) := by
  refine Ci.of (cc := cX6_isParameter) (own := RX6) (nL := 1) (ret := (some .boolean)) (by decide +kernel) rfl rfl (Nat.le_of_ble_eq_true rfl) ?_
  intro p e s m args below meth c A Q H locs ls ha hAe hQ hx hb hml hr hts hown hlk hP hK hD hS hA hG hl
  have hh : Hd Γ p s m args c cX6_isParameter RX6 1 wsX6_isParameter A := ⟨⟨hx, hb, hml, hown, hts⟩, hK, hA, hG⟩
  have hl : lv_has ls 1 [(0, .int k)] := hl
  refine lv_iload_n hx hb dX6_isParameter_0 rfl (lv_at hl 0 rfl) ?_
  refine lv_if_lt (tgt := 14) hx hb dX6_isParameter_1 (by decide) (fun c_1 => ?_) (fun c_1 => ?_)
  · -- yes
    refine lv_iconst (v := 0) hx hb dX6_isParameter_14 (by decide) ?_
    exact re_z hQ ha hx hb hr hlk hAe hP hS dX6_isParameter_15 rfl (by skip; first | rfl | simp [fPar, c_1]) (by skip; first | rfl | simp [fPar, c_1])
  · -- no
    refine lv_iload_n hx hb dX6_isParameter_4 rfl (lv_at hl 0 rfl) ?_
    refine lv_bipush (v := 15) hx hb dX6_isParameter_5 (by decide) ?_
    refine lv_icmp_ge (tgt := 14) hx hb dX6_isParameter_7 (by decide) (fun c_7 => ?_) (fun c_7 => ?_)
    · -- yes
      refine lv_iconst (v := 0) hx hb dX6_isParameter_14 (by decide) ?_
      exact re_z hQ ha hx hb hr hlk hAe hP hS dX6_isParameter_15 rfl (by skip; first | rfl | simp [fPar, c_1, c_7]) (by skip; first | rfl | simp [fPar, c_1, c_7])
    · -- no
      refine lv_iconst (v := 1) hx hb dX6_isParameter_10 (by decide) ?_
      refine lv_goto (tgt := 15) hx hb dX6_isParameter_11 (by decide) ?_
      exact re_z hQ ha hx hb hr hlk hAe hP hS dX6_isParameter_15 rfl (by skip; first | rfl | simp [fPar, c_1, c_7]) (by skip; first | rfl | simp [fPar, c_1, c_7])
def rm_X6_isSignal : Room := { frames := 0, cells := 0, slots := 0, locals := 0 }
set_option maxHeartbeats 4000000 in
set_option maxRecDepth 100000 in
theorem c_X6_isSignal (Γ : gT) (l : Launch) (k : Int32)  : Ci Γ l yX6_isSignal wsX6_isSignal rm_X6_isSignal [.int k] ([]) (fSig k) ([]) := by
  refine Ci.of (cc := cX6_isSignal) (own := RX6) (nL := 1) (ret := (some .boolean)) (by decide +kernel) rfl rfl (Nat.le_of_ble_eq_true rfl) ?_
  intro p e s m args below meth c A Q H locs ls ha hAe hQ hx hb hml hr hts hown hlk hP hK hD hS hA hG hl
  have hh : Hd Γ p s m args c cX6_isSignal RX6 1 wsX6_isSignal A := ⟨⟨hx, hb, hml, hown, hts⟩, hK, hA, hG⟩
  have hl : lv_has ls 1 [(0, .int k)] := hl
  refine lv_iload_n hx hb dX6_isSignal_0 rfl (lv_at hl 0 rfl) ?_
  refine lv_if_lt (tgt := 14) hx hb dX6_isSignal_1 (by decide) (fun c_1 => ?_) (fun c_1 => ?_)
  · -- yes
    refine lv_iconst (v := 0) hx hb dX6_isSignal_14 (by decide) ?_
    exact re_z hQ ha hx hb hr hlk hAe hP hS dX6_isSignal_15 rfl (by skip; first | rfl | simp [fSig, c_1]) (by skip; first | rfl | simp [fSig, c_1])
  · -- no
    refine lv_iload_n hx hb dX6_isSignal_4 rfl (lv_at hl 0 rfl) ?_
    refine lv_bipush (v := 10) hx hb dX6_isSignal_5 (by decide) ?_
    refine lv_icmp_ge (tgt := 14) hx hb dX6_isSignal_7 (by decide) (fun c_7 => ?_) (fun c_7 => ?_)
    · -- yes
      refine lv_iconst (v := 0) hx hb dX6_isSignal_14 (by decide) ?_
      exact re_z hQ ha hx hb hr hlk hAe hP hS dX6_isSignal_15 rfl (by skip; first | rfl | simp [fSig, c_1, c_7]) (by skip; first | rfl | simp [fSig, c_1, c_7])
    · -- no
      refine lv_iconst (v := 1) hx hb dX6_isSignal_10 (by decide) ?_
      refine lv_goto (tgt := 15) hx hb dX6_isSignal_11 (by decide) ?_
      exact re_z hQ ha hx hb hr hlk hAe hP hS dX6_isSignal_15 rfl (by skip; first | rfl | simp [fSig, c_1, c_7]) (by skip; first | rfl | simp [fSig, c_1, c_7])
def rm_X6_isLevel : Room := { frames := 0, cells := 0, slots := 0, locals := 0 }
set_option maxHeartbeats 4000000 in
set_option maxRecDepth 100000 in
theorem c_X6_isLevel (Γ : gT) (l : Launch) (v : Int32)  : Ci Γ l yX6_isLevel wsX6_isLevel rm_X6_isLevel [.int v] ([]) (fLev v) ([]) := by
  refine Ci.of (cc := cX6_isLevel) (own := RX6) (nL := 1) (ret := (some .boolean)) (by decide +kernel) rfl rfl (Nat.le_of_ble_eq_true rfl) ?_
  intro p e s m args below meth c A Q H locs ls ha hAe hQ hx hb hml hr hts hown hlk hP hK hD hS hA hG hl
  have hh : Hd Γ p s m args c cX6_isLevel RX6 1 wsX6_isLevel A := ⟨⟨hx, hb, hml, hown, hts⟩, hK, hA, hG⟩
  have hl : lv_has ls 1 [(0, .int v)] := hl
  refine lv_iload_n hx hb dX6_isLevel_0 rfl (lv_at hl 0 rfl) ?_
  refine lv_ldc hx hb hown (hts (.constant RX6 243 (-100000)) (List.mem_of_getElem? (i := 1) rfl)) dX6_isLevel_1 ?_
  refine lv_icmp_lt (tgt := 16) hx hb dX6_isLevel_3 (by decide) (fun c_3 => ?_) (fun c_3 => ?_)
  · -- yes
    refine lv_iconst (v := 0) hx hb dX6_isLevel_16 (by decide) ?_
    exact re_z hQ ha hx hb hr hlk hAe hP hS dX6_isLevel_17 rfl (by skip; first | rfl | simp [fLev, c_3]) (by skip; first | rfl | simp [fLev, c_3])
  · -- no
    refine lv_iload_n hx hb dX6_isLevel_6 rfl (lv_at hl 0 rfl) ?_
    refine lv_ldc hx hb hown (hts (.constant RX6 134 (100000)) (List.mem_of_getElem? (i := 2) rfl)) dX6_isLevel_7 ?_
    refine lv_icmp_gt (tgt := 16) hx hb dX6_isLevel_9 (by decide) (fun c_9 => ?_) (fun c_9 => ?_)
    · -- yes
      refine lv_iconst (v := 0) hx hb dX6_isLevel_16 (by decide) ?_
      exact re_z hQ ha hx hb hr hlk hAe hP hS dX6_isLevel_17 rfl (by skip; first | rfl | simp [fLev, c_3, c_9]) (by skip; first | rfl | simp [fLev, c_3, c_9])
    · -- no
      refine lv_iconst (v := 1) hx hb dX6_isLevel_12 (by decide) ?_
      refine lv_goto (tgt := 17) hx hb dX6_isLevel_13 (by decide) ?_
      exact re_z hQ ha hx hb hr hlk hAe hP hS dX6_isLevel_17 rfl (by skip; first | rfl | simp [fLev, c_3, c_9]) (by skip; first | rfl | simp [fLev, c_3, c_9])
def rm_X6_thousandth : Room := { frames := 1, cells := 0, slots := 0, locals := 25 }
set_option maxHeartbeats 4000000 in
set_option maxRecDepth 100000 in
theorem c_X6_thousandth (Γ : gT) (l : Launch) (x : Int64)  : Cl Γ l yX6_thousandth wsX6_thousandth rm_X6_thousandth [.long x] ([]) (fThou x) ([]) := by
  refine Cl.of (cc := cX6_thousandth) (own := RX6) (nL := 2) (ret := (some .long)) (by decide +kernel) rfl rfl (Nat.le_of_ble_eq_true rfl) ?_
  intro p e s m args below meth c A Q H locs ls ha hAe hQ hx hb hml hr hts hown hlk hP hK hD hS hA hG hl
  have hh : Hd Γ p s m args c cX6_thousandth RX6 2 wsX6_thousandth A := ⟨⟨hx, hb, hml, hown, hts⟩, hK, hA, hG⟩
  have hl : lv_has ls 2 [(0, .long x)] := hl
  refine lv_lload_n hx hb dX6_thousandth_0 rfl (lv_at hl 0 rfl) ?_
  refine lv_ldc2 hx hb hown (hts (.constantLong RX6 280 (1000)) (List.mem_of_getElem? (i := 1) rfl)) dX6_thousandth_1 ?_
  refine ca_Sl hh hl.1 (c_J9_floorDiv_f86c9 Γ l x 1000 (by first | assumption | omega | decide)) (va_cwS 2 hts gX6_thousandth_J9_floorDiv_f86c9 rfl rfl rfl (by decide +kernel) ⟨(Nat.le_of_ble_eq_true rfl), (Nat.le_of_ble_eq_true rfl)⟩) (As := [.long x, .long 1000]) (rest := []) rfl dX6_thousandth_4 rfl (Nat.le_of_ble_eq_true rfl) hP hD hS ⟨Nat.zero_le _, Nat.zero_le _⟩ (fun H locs hP hS => ?_)
  exact re_l hQ ha hx hb hr hlk hAe hP hS dX6_thousandth_7 (by skip; first | rfl | simp [fThou]) (by skip; first | rfl | simp [fThou])
def rm_X6_stepped : Room := { frames := 2, cells := 0, slots := 0, locals := 46 }
set_option maxHeartbeats 4000000 in
set_option maxRecDepth 100000 in
theorem c_X6_stepped (Γ : gT) (l : Launch) (s1 : Int64) (g : Int64) (w : Int64)  : Ci Γ l yX6_stepped wsX6_stepped rm_X6_stepped [.long s1, .long g, .long w] ([]) (fStep s1 g w) ([]) := by
  refine Ci.of (cc := cX6_stepped) (own := RX6) (nL := 6) (ret := (some .int)) (by decide +kernel) rfl rfl (Nat.le_of_ble_eq_true rfl) ?_
  intro p e s m args below meth c A Q H locs ls ha hAe hQ hx hb hml hr hts hown hlk hP hK hD hS hA hG hl
  have hh : Hd Γ p s m args c cX6_stepped RX6 6 wsX6_stepped A := ⟨⟨hx, hb, hml, hown, hts⟩, hK, hA, hG⟩
  have hl : lv_has ls 6 [(0, .long s1), (2, .long g), (4, .long w)] := hl
  refine lv_lload_n hx hb dX6_stepped_0 rfl (lv_at hl 0 rfl) ?_
  refine lv_lload hx hb dX6_stepped_1 (lv_at hl 2 rfl) ?_
  refine lv_lload_n hx hb dX6_stepped_3 rfl (lv_at hl 1 rfl) ?_
  refine lv_lload_n hx hb dX6_stepped_4 rfl (lv_at hl 0 rfl) ?_
  refine lv_lsub hx hb dX6_stepped_5 ?_
  refine lv_lmul hx hb dX6_stepped_6 ?_
  refine ca_Sl hh hl.1 (c_X6_thousandth Γ l (w * (g - s1))) (va_cwS 1 hts gX6_stepped_X6_thousandth rfl rfl rfl (by decide +kernel) ⟨(Nat.le_of_ble_eq_true rfl), (Nat.le_of_ble_eq_true rfl)⟩) (As := [.long (w * (g - s1))]) (rest := [.long s1]) rfl dX6_stepped_7 rfl (Nat.le_of_ble_eq_true rfl) hP hD hS ⟨Nat.zero_le _, Nat.zero_le _⟩ (fun H locs hP hS => ?_)
  refine lv_ladd hx hb dX6_stepped_10 ?_
  refine lv_l2i (v := (s1 + (fThou (w * (g - s1)))).toInt32) hx hb dX6_stepped_11 rfl ?_
  exact re_i hQ ha hx hb hr hlk hAe hP hS dX6_stepped_12 (by skip; first | rfl | simp [fStep]) (by skip; first | rfl | simp [fStep])
def rm_X6_limited : Room := { frames := 1, cells := 0, slots := 0, locals := 24 }
set_option maxHeartbeats 4000000 in
set_option maxRecDepth 100000 in
theorem c_X6_limited (Γ : gT) (l : Launch) (v : Int64) (lo : Int64) (hi : Int64)  : Cl Γ l yX6_limited wsX6_limited rm_X6_limited [.long v, .long lo, .long hi] ([]) (fLim v lo hi) ([]) := by
  refine Cl.of (cc := cX6_limited) (own := RX6) (nL := 6) (ret := (some .long)) (by decide +kernel) rfl rfl (Nat.le_of_ble_eq_true rfl) ?_
  intro p e s m args below meth c A Q H locs ls ha hAe hQ hx hb hml hr hts hown hlk hP hK hD hS hA hG hl
  have hh : Hd Γ p s m args c cX6_limited RX6 6 wsX6_limited A := ⟨⟨hx, hb, hml, hown, hts⟩, hK, hA, hG⟩
  have hl : lv_has ls 6 [(0, .long v), (2, .long lo), (4, .long hi)] := hl
  refine lv_lload_n hx hb dX6_limited_0 rfl (lv_at hl 0 rfl) ?_
  refine lv_lload_n hx hb dX6_limited_1 rfl (lv_at hl 1 rfl) ?_
  refine va_mmax_long hx hb (hml.trans hl.1.symm) hown (hts (.methodLink RX6 290 Lib.MathLoose.max_long.x) (List.mem_of_getElem? (i := 1) rfl)) (hts (.static Lib.MathLoose.max_long.x) (List.mem_of_getElem? (i := 2) rfl)) (hts (.initialized "java/lang/Math") (List.mem_of_getElem? (i := 3) rfl)) (hts (.code Lib.MathLoose.max_long.x Lib.MathLoose.max_long.code 4 (some .long)) (List.mem_of_getElem? (i := 4) rfl)) (Nat.le_of_ble_eq_true rfl) (Nat.le_of_ble_eq_true rfl) (Nat.le_of_ble_eq_true rfl) (Nat.le_of_ble_eq_true rfl) dX6_limited_2 ?_
  refine lv_lload hx hb dX6_limited_5 (lv_at hl 2 rfl) ?_
  refine va_mmin_long hx hb (hml.trans hl.1.symm) hown (hts (.methodLink RX6 292 Lib.MathLoose.min_long.x) (List.mem_of_getElem? (i := 5) rfl)) (hts (.static Lib.MathLoose.min_long.x) (List.mem_of_getElem? (i := 6) rfl)) (hts (.initialized "java/lang/Math") (List.mem_of_getElem? (i := 3) rfl)) (hts (.code Lib.MathLoose.min_long.x Lib.MathLoose.min_long.code 4 (some .long)) (List.mem_of_getElem? (i := 7) rfl)) (Nat.le_of_ble_eq_true rfl) (Nat.le_of_ble_eq_true rfl) (Nat.le_of_ble_eq_true rfl) (Nat.le_of_ble_eq_true rfl) dX6_limited_7 ?_
  exact re_l hQ ha hx hb hr hlk hAe hP hS dX6_limited_10 (by skip; first | rfl | simp [fLim]) (by skip; first | rfl | simp [fLim])
def rm_X3_get : Room := { frames := 1, cells := 0, slots := 0, locals := 20 }
theorem iX3_get_3 : ∀ w ∈ u_ws RX3 TX3 1, w ∈ wsX3_get := fun w h => (List.mem_cons_of_mem _ (List.mem_append_right _ h))
set_option maxHeartbeats 4000000 in
set_option maxRecDepth 100000 in
theorem c_X3_get (Γ : gT) (l : Launch) (a : Nat → Nat) (b : Nat) (v : Sett) (k : Int32)  : Ci Γ l yX3_get wsX3_get rm_X3_get [.ref (a b), .int k] (setW Γ a b v) (fGet v k) (setW Γ a b v) := by
  refine Ci.of (cc := cX3_get) (own := RX3) (nL := 2) (ret := (some .int)) (by decide +kernel) rfl rfl (Nat.le_of_ble_eq_true rfl) ?_
  intro p e s m args below meth c A Q H locs ls ha hAe hQ hx hb hml hr hts hown hlk hP hK hD hS hA hG hl
  have hh : Hd Γ p s m args c cX3_get RX3 2 wsX3_get A := ⟨⟨hx, hb, hml, hown, hts⟩, hK, hA, hG⟩
  have hl : lv_has ls 2 [(0, .ref (a b)), (1, .int k)] := hl
  refine lv_iload_n hx hb dX3_get_0 rfl (lv_at hl 1 rfl) ?_
  refine ca_Ni hh hl.1 (c_X6_isParameter Γ l k) ⟨va_cnB (host := RX6) 1 hts gX3_get_X6_isParameter_n24 rfl rfl rfl hG.1.2.2.1 (hts (.initialized RX6) (List.mem_of_getElem? (i := 3) rfl)) (by decide +kernel) ⟨(Nat.le_of_ble_eq_true rfl), (Nat.le_of_ble_eq_true rfl)⟩, (hts (.static yX6_isParameter) (List.mem_of_getElem? (i := 2) rfl)), trivial⟩ (As := [.int k]) (rest := []) rfl dX3_get_1 rfl (Nat.le_of_ble_eq_true rfl) hP hD hS ⟨Nat.zero_le _, Nat.zero_le _⟩ (fun H locs hP hS => ?_)
  refine lv_if_eq (tgt := 16) hx hb dX3_get_4 (by decide) (fun c_4 => ?_) (fun c_4 => ?_)
  · -- yes
    refine lv_iconst (v := 0) hx hb dX3_get_16 (by decide) ?_
    exact re_i hQ ha hx hb hr hlk hAe hP hS dX3_get_17 (by skip; first | rfl | simp [fGet, c_4]) (by skip; first | rfl | simp [fGet, c_4])
  · -- no
    refine lv_aload_n hx hb dX3_get_7 rfl (lv_at hl 0 rfl) ?_
    refine va_get (D := gD Γ) (cl := vwCl) (tys := gTy Γ) (ci := 3) (v := .ref (a (b + 1))) (C := RX3) (T := TX3) (N := 1) hx hb hts iX3_get_3 hown hK hP 0 rfl rfl 0 (Nat.le_of_ble_eq_true rfl) (hts (.fieldLink RX3 9 "DeadTimeLoop$Settings" "values" "[I") (List.mem_of_getElem? (i := 1) rfl)) (fun _ h9 => h9) rfl dX3_get_8 ?_
    refine lv_iload_n hx hb dX3_get_11 rfl (lv_at hl 1 rfl) ?_
    refine ka_iald (D := gD Γ) (cl := vwCl) (tys := gTy Γ) hx hb hK hP 1 0 rfl rfl (k.toNatClampNeg) (nI_of_in (fPar_in c_4) (by decide)) (in_lt (fPar_in c_4)) (by decide) (v := (v k.toNatClampNeg)) rfl dX3_get_12 ?_
    refine lv_goto (tgt := 17) hx hb dX3_get_13 (by decide) ?_
    exact re_i hQ ha hx hb hr hlk hAe hP hS dX3_get_17 (by skip; first | rfl | simp [fGet, c_4]) (by skip; first | rfl | simp [fGet, c_4])
def rm_X3_set : Room := { frames := 1, cells := 0, slots := 0, locals := 20 }
theorem iX3_set_3 : ∀ w ∈ u_ws RX3 TX3 1, w ∈ wsX3_set := fun w h => (List.mem_cons_of_mem _ (List.mem_append_right _ h))
set_option maxHeartbeats 4000000 in
set_option maxRecDepth 100000 in
theorem c_X3_set (Γ : gT) (l : Launch) (a : Nat → Nat) (b : Nat) (v : Sett) (k : Int32) (x : Int32)  : Cv Γ l yX3_set wsX3_set rm_X3_set [.ref (a b), .int k, .int x] (setW Γ a b v) (setW Γ a b (fSet v k x)) := by
  refine Cv.of (cc := cX3_set) (own := RX3) (nL := 3) (ret := none) (by decide +kernel) rfl rfl (Nat.le_of_ble_eq_true rfl) ?_
  intro p e s m args below meth c A Q H locs ls ha hAe hQ hx hb hml hr hts hown hlk hP hK hD hS hA hG hl
  have hh : Hd Γ p s m args c cX3_set RX3 3 wsX3_set A := ⟨⟨hx, hb, hml, hown, hts⟩, hK, hA, hG⟩
  have hl : lv_has ls 3 [(0, .ref (a b)), (1, .int k), (2, .int x)] := hl
  refine lv_iload_n hx hb dX3_set_0 rfl (lv_at hl 1 rfl) ?_
  refine ca_Ni hh hl.1 (c_X6_isParameter Γ l k) ⟨va_cnB (host := RX6) 1 hts gX3_set_X6_isParameter_n24 rfl rfl rfl hG.1.2.2.1 (hts (.initialized RX6) (List.mem_of_getElem? (i := 3) rfl)) (by decide +kernel) ⟨(Nat.le_of_ble_eq_true rfl), (Nat.le_of_ble_eq_true rfl)⟩, (hts (.static yX6_isParameter) (List.mem_of_getElem? (i := 2) rfl)), trivial⟩ (As := [.int k]) (rest := []) rfl dX3_set_1 rfl (Nat.le_of_ble_eq_true rfl) hP hD hS ⟨Nat.zero_le _, Nat.zero_le _⟩ (fun H locs hP hS => ?_)
  refine lv_if_eq (tgt := 14) hx hb dX3_set_4 (by decide) (fun c_4 => ?_) (fun c_4 => ?_)
  · -- yes
    exact re_v hQ ha hx hb hr hlk hAe hP hS dX3_set_14 (by skip; first | rfl | simp [fSet, c_4])
  · -- no
    refine lv_aload_n hx hb dX3_set_7 rfl (lv_at hl 0 rfl) ?_
    refine va_get (D := gD Γ) (cl := vwCl) (tys := gTy Γ) (ci := 3) (v := .ref (a (b + 1))) (C := RX3) (T := TX3) (N := 1) hx hb hts iX3_set_3 hown hK hP 0 rfl rfl 0 (Nat.le_of_ble_eq_true rfl) (hts (.fieldLink RX3 9 "DeadTimeLoop$Settings" "values" "[I") (List.mem_of_getElem? (i := 1) rfl)) (fun _ h9 => h9) rfl dX3_set_8 ?_
    refine lv_iload_n hx hb dX3_set_11 rfl (lv_at hl 1 rfl) ?_
    refine lv_iload_n hx hb dX3_set_12 rfl (lv_at hl 2 rfl) ?_
    refine ka_iast (D := gD Γ) (cl := vwCl) (tys := gTy Γ) hx hb hK hP hD hS 1 0 rfl rfl (k.toNatClampNeg) (nI_of_in (fPar_in c_4) (by decide)) (in_lt (fPar_in c_4)) (by decide) (wf := setW Γ a b (upd v k.toNatClampNeg x)) rfl dX3_set_13 (fun H locs hP hD hS => ?_)
    exact re_v hQ ha hx hb hr hlk hAe hP hS dX3_set_14 (by skip; first | rfl | simp [fSet, c_4])
def rm_X3_copy : Room := { frames := 1, cells := 0, slots := 0, locals := 28 }
theorem iX3_copy_3 : ∀ w ∈ u_ws RX3 TX3 1, w ∈ wsX3_copy := fun w h => (List.mem_cons_of_mem _ (List.mem_append_right _ h))
set_option maxHeartbeats 4000000 in
set_option maxRecDepth 100000 in
theorem c_X3_copy (Γ : gT) (l : Launch) (a : Nat → Nat) (b : Nat) (a2 : Nat → Nat) (b2 : Nat) (v : Sett) (v2 : Sett)  : Cv Γ l yX3_copy wsX3_copy rm_X3_copy [.ref (a b), .ref (a2 b2)] (setW Γ a b v ++ setW Γ a2 b2 v2) (setW Γ a b (va_cpy v2 v 0 0 15) ++ setW Γ a2 b2 v2) := by
  refine Cv.of (cc := cX3_copy) (own := RX3) (nL := 2) (ret := none) (by decide +kernel) rfl rfl (Nat.le_of_ble_eq_true rfl) ?_
  intro p e s m args below meth c A Q H locs ls ha hAe hQ hx hb hml hr hts hown hlk hP hK hD hS hA hG hl
  have hh : Hd Γ p s m args c cX3_copy RX3 2 wsX3_copy A := ⟨⟨hx, hb, hml, hown, hts⟩, hK, hA, hG⟩
  have hl : lv_has ls 2 [(0, .ref (a b)), (1, .ref (a2 b2))] := hl
  refine lv_aload_n hx hb dX3_copy_0 rfl (lv_at hl 1 rfl) ?_
  refine va_get (D := gD Γ) (cl := vwCl) (tys := gTy Γ) (ci := 3) (v := .ref (a2 (b2 + 1))) (C := RX3) (T := TX3) (N := 1) hx hb hts iX3_copy_3 hown hK hP 2 rfl rfl 0 (Nat.le_of_ble_eq_true rfl) (hts (.fieldLink RX3 9 "DeadTimeLoop$Settings" "values" "[I") (List.mem_of_getElem? (i := 1) rfl)) (fun _ h9 => h9) rfl dX3_copy_1 ?_
  refine lv_iconst (v := 0) hx hb dX3_copy_4 (by decide) ?_
  refine lv_aload_n hx hb dX3_copy_5 rfl (lv_at hl 0 rfl) ?_
  refine va_get (D := gD Γ) (cl := vwCl) (tys := gTy Γ) (ci := 3) (v := .ref (a (b + 1))) (C := RX3) (T := TX3) (N := 1) hx hb hts iX3_copy_3 hown hK hP 0 rfl rfl 0 (Nat.le_of_ble_eq_true rfl) (hts (.fieldLink RX3 9 "DeadTimeLoop$Settings" "values" "[I") (List.mem_of_getElem? (i := 1) rfl)) (fun _ h9 => h9) rfl dX3_copy_6 ?_
  refine lv_iconst (v := 0) hx hb dX3_copy_9 (by decide) ?_
  refine lv_bipush (v := 15) hx hb dX3_copy_10 (by decide) ?_
  refine va_copyi (D := gD Γ) (cl := vwCl) (tys := gTy Γ) (f := v2) (g := v) hx hb (hml.trans hl.1.symm) hown (hts (.methodLink RX3 18 arraycopyName) (List.mem_of_getElem? (i := 2) rfl)) (hts (.native arraycopyName) (List.mem_of_getElem? (i := 3) rfl)) (hts (.static arraycopyName) (List.mem_of_getElem? (i := 4) rfl)) (hts (.initialized "java/lang/System") (List.mem_of_getElem? (i := 5) rfl)) hK hP hD hS 3 1 0 0 rfl rfl rfl rfl rfl (by decide) (by decide) (by decide) (by decide) (by decide) (fun i hi => rfl) (Nat.le_of_ble_eq_true rfl) (Nat.le_of_ble_eq_true rfl) dX3_copy_12 (fun H locs hP hD hS => ?_)
  have hP : va_P (gD Γ) vwCl (setW Γ a b (va_cpy v2 v 0 0 15) ++ setW Γ a2 b2 v2) H := hP
  have hD : va_D A (setW Γ a b (va_cpy v2 v 0 0 15) ++ setW Γ a2 b2 v2) := hD
  exact re_v hQ ha hx hb hr hlk hAe hP hS dX3_copy_15 (by skip; first | rfl | simp [])
def rm_X2_begin : Room := { frames := 0, cells := 0, slots := 0, locals := 0 }
theorem iX2_begin_2 : ∀ w ∈ u_ws RX2 TX2 5, w ∈ wsX2_begin := fun w h => (List.mem_cons_of_mem _ (List.mem_append_right _ h))
set_option maxHeartbeats 4000000 in
set_option maxRecDepth 100000 in
theorem c_X2_begin (Γ : gT) (l : Launch) (a : Nat → Nat) (b : Nat) (x : Sec) (up : Int32) (hup : up = 0 ∨ up = 1) : Cv Γ l yX2_begin wsX2_begin rm_X2_begin [.ref (a b), .int up] (secW Γ a b x) (secW Γ a b (fSecBegin up)) := by
  refine Cv.of (cc := cX2_begin) (own := RX2) (nL := 2) (ret := none) (by decide +kernel) rfl rfl (Nat.le_of_ble_eq_true rfl) ?_
  intro p e s m args below meth c A Q H locs ls ha hAe hQ hx hb hml hr hts hown hlk hP hK hD hS hA hG hl
  have hh : Hd Γ p s m args c cX2_begin RX2 2 wsX2_begin A := ⟨⟨hx, hb, hml, hown, hts⟩, hK, hA, hG⟩
  have hl : lv_has ls 2 [(0, .ref (a b)), (1, .int up)] := hl
  refine lv_aload_n hx hb dX2_begin_0 rfl (lv_at hl 0 rfl) ?_
  refine lv_lconst (v := 0) hx hb dX2_begin_1 (by decide) ?_
  refine va_put (D := gD Γ) (cl := vwCl) (tys := gTy Γ) (ci := 2) (v := .long 0) (ty := tyX2 0) (C := RX2) (T := TX2) (N := 5) hx hb hts iX2_begin_2 tyX2 tyX2_ok nmX2 hown hK hP hD hS 0 rfl rfl 0 (Nat.le_of_ble_eq_true rfl) (hts (.fieldLink RX2 7 "DeadTimeLoop$Section" "errorSum" "J") (List.mem_of_getElem? (i := 1) rfl)) (fun _ h9 => h9) rfl (tyX2_ok 0 (Nat.le_of_ble_eq_true rfl)) rfl rfl (Nat.le_of_ble_eq_true rfl) dX2_begin_2 (fun H locs hP hD hS => ?_)
  have hP : va_P (gD Γ) vwCl (secW Γ a b (0, (sEff x), (sOver x), (sTicks x), (sUp x))) H := hP
  have hD : va_D A (secW Γ a b (0, (sEff x), (sOver x), (sTicks x), (sUp x))) := hD
  refine lv_aload_n hx hb dX2_begin_5 rfl (lv_at hl 0 rfl) ?_
  refine lv_lconst (v := 0) hx hb dX2_begin_6 (by decide) ?_
  refine va_put (D := gD Γ) (cl := vwCl) (tys := gTy Γ) (ci := 2) (v := .long 0) (ty := tyX2 1) (C := RX2) (T := TX2) (N := 5) hx hb hts iX2_begin_2 tyX2 tyX2_ok nmX2 hown hK hP hD hS 0 rfl rfl 1 (Nat.le_of_ble_eq_true rfl) (hts (.fieldLink RX2 13 "DeadTimeLoop$Section" "effort" "J") (List.mem_of_getElem? (i := 2) rfl)) (fun _ h9 => h9) rfl (tyX2_ok 1 (Nat.le_of_ble_eq_true rfl)) rfl rfl (Nat.le_of_ble_eq_true rfl) dX2_begin_7 (fun H locs hP hD hS => ?_)
  have hP : va_P (gD Γ) vwCl (secW Γ a b (0, 0, (sOver x), (sTicks x), (sUp x))) H := hP
  have hD : va_D A (secW Γ a b (0, 0, (sOver x), (sTicks x), (sUp x))) := hD
  refine lv_aload_n hx hb dX2_begin_10 rfl (lv_at hl 0 rfl) ?_
  refine lv_iconst (v := 0) hx hb dX2_begin_11 (by decide) ?_
  refine va_put (D := gD Γ) (cl := vwCl) (tys := gTy Γ) (ci := 2) (v := .int 0) (ty := tyX2 2) (C := RX2) (T := TX2) (N := 5) hx hb hts iX2_begin_2 tyX2 tyX2_ok nmX2 hown hK hP hD hS 0 rfl rfl 2 (Nat.le_of_ble_eq_true rfl) (hts (.fieldLink RX2 16 "DeadTimeLoop$Section" "overshoot" "I") (List.mem_of_getElem? (i := 3) rfl)) (fun _ h9 => h9) rfl (tyX2_ok 2 (Nat.le_of_ble_eq_true rfl)) rfl rfl (Nat.le_of_ble_eq_true rfl) dX2_begin_12 (fun H locs hP hD hS => ?_)
  have hP : va_P (gD Γ) vwCl (secW Γ a b (0, 0, 0, (sTicks x), (sUp x))) H := hP
  have hD : va_D A (secW Γ a b (0, 0, 0, (sTicks x), (sUp x))) := hD
  refine lv_aload_n hx hb dX2_begin_15 rfl (lv_at hl 0 rfl) ?_
  refine lv_iconst (v := 0) hx hb dX2_begin_16 (by decide) ?_
  refine va_put (D := gD Γ) (cl := vwCl) (tys := gTy Γ) (ci := 2) (v := .int 0) (ty := tyX2 3) (C := RX2) (T := TX2) (N := 5) hx hb hts iX2_begin_2 tyX2 tyX2_ok nmX2 hown hK hP hD hS 0 rfl rfl 3 (Nat.le_of_ble_eq_true rfl) (hts (.fieldLink RX2 20 "DeadTimeLoop$Section" "ticks" "I") (List.mem_of_getElem? (i := 4) rfl)) (fun _ h9 => h9) rfl (tyX2_ok 3 (Nat.le_of_ble_eq_true rfl)) rfl rfl (Nat.le_of_ble_eq_true rfl) dX2_begin_17 (fun H locs hP hD hS => ?_)
  have hP : va_P (gD Γ) vwCl (secW Γ a b (0, 0, 0, 0, (sUp x))) H := hP
  have hD : va_D A (secW Γ a b (0, 0, 0, 0, (sUp x))) := hD
  refine lv_aload_n hx hb dX2_begin_20 rfl (lv_at hl 0 rfl) ?_
  refine lv_iload_n hx hb dX2_begin_21 rfl (lv_at hl 1 rfl) ?_
  refine va_put (D := gD Γ) (cl := vwCl) (tys := gTy Γ) (ci := 2) (v := .int up) (ty := tyX2 4) (C := RX2) (T := TX2) (N := 5) hx hb hts iX2_begin_2 tyX2 tyX2_ok nmX2 hown hK hP hD hS 0 rfl rfl 4 (Nat.le_of_ble_eq_true rfl) (hts (.fieldLink RX2 23 "DeadTimeLoop$Section" "upwards" "Z") (List.mem_of_getElem? (i := 5) rfl)) (fun _ h9 => h9) rfl (tyX2_ok 4 (Nat.le_of_ble_eq_true rfl)) (isB_nar hup) (isB_fit hup) (Nat.le_of_ble_eq_true rfl) dX2_begin_22 (fun H locs hP hD hS => ?_)
  have hP : va_P (gD Γ) vwCl (secW Γ a b (0, 0, 0, 0, up)) H := hP
  have hD : va_D A (secW Γ a b (0, 0, 0, 0, up)) := hD
  exact re_v hQ ha hx hb hr hlk hAe hP hS dX2_begin_25 (by skip; first | rfl | simp [])
def rm_X2_copy : Room := { frames := 0, cells := 0, slots := 0, locals := 0 }
theorem iX2_copy_2 : ∀ w ∈ u_ws RX2 TX2 5, w ∈ wsX2_copy := fun w h => (List.mem_cons_of_mem _ (List.mem_append_right _ h))
set_option maxHeartbeats 4000000 in
set_option maxRecDepth 100000 in
theorem c_X2_copy (Γ : gT) (l : Launch) (a : Nat → Nat) (b : Nat) (a2 : Nat → Nat) (b2 : Nat) (x : Sec) (x2 : Sec) (hup : sUp x2 = 0 ∨ sUp x2 = 1) : Cv Γ l yX2_copy wsX2_copy rm_X2_copy [.ref (a b), .ref (a2 b2)] (secW Γ a b x ++ secW Γ a2 b2 x2) (secW Γ a b (x2) ++ secW Γ a2 b2 x2) := by
  refine Cv.of (cc := cX2_copy) (own := RX2) (nL := 2) (ret := none) (by decide +kernel) rfl rfl (Nat.le_of_ble_eq_true rfl) ?_
  intro p e s m args below meth c A Q H locs ls ha hAe hQ hx hb hml hr hts hown hlk hP hK hD hS hA hG hl
  have hh : Hd Γ p s m args c cX2_copy RX2 2 wsX2_copy A := ⟨⟨hx, hb, hml, hown, hts⟩, hK, hA, hG⟩
  have hl : lv_has ls 2 [(0, .ref (a b)), (1, .ref (a2 b2))] := hl
  refine lv_aload_n hx hb dX2_copy_0 rfl (lv_at hl 0 rfl) ?_
  refine lv_aload_n hx hb dX2_copy_1 rfl (lv_at hl 1 rfl) ?_
  refine va_get (D := gD Γ) (cl := vwCl) (tys := gTy Γ) (ci := 2) (v := .long (sErr x2)) (C := RX2) (T := TX2) (N := 5) hx hb hts iX2_copy_2 hown hK hP 1 rfl rfl 0 (Nat.le_of_ble_eq_true rfl) (hts (.fieldLink RX2 7 "DeadTimeLoop$Section" "errorSum" "J") (List.mem_of_getElem? (i := 1) rfl)) (fun _ h9 => h9) rfl dX2_copy_2 ?_
  refine va_put (D := gD Γ) (cl := vwCl) (tys := gTy Γ) (ci := 2) (v := .long (sErr x2)) (ty := tyX2 0) (C := RX2) (T := TX2) (N := 5) hx hb hts iX2_copy_2 tyX2 tyX2_ok nmX2 hown hK hP hD hS 0 rfl rfl 0 (Nat.le_of_ble_eq_true rfl) (hts (.fieldLink RX2 7 "DeadTimeLoop$Section" "errorSum" "J") (List.mem_of_getElem? (i := 1) rfl)) (fun _ h9 => h9) rfl (tyX2_ok 0 (Nat.le_of_ble_eq_true rfl)) rfl rfl (Nat.le_of_ble_eq_true rfl) dX2_copy_5 (fun H locs hP hD hS => ?_)
  have hP : va_P (gD Γ) vwCl (secW Γ a b ((sErr x2), (sEff x), (sOver x), (sTicks x), (sUp x)) ++ secW Γ a2 b2 x2) H := hP
  have hD : va_D A (secW Γ a b ((sErr x2), (sEff x), (sOver x), (sTicks x), (sUp x)) ++ secW Γ a2 b2 x2) := hD
  refine lv_aload_n hx hb dX2_copy_8 rfl (lv_at hl 0 rfl) ?_
  refine lv_aload_n hx hb dX2_copy_9 rfl (lv_at hl 1 rfl) ?_
  refine va_get (D := gD Γ) (cl := vwCl) (tys := gTy Γ) (ci := 2) (v := .long (sEff x2)) (C := RX2) (T := TX2) (N := 5) hx hb hts iX2_copy_2 hown hK hP 1 rfl rfl 1 (Nat.le_of_ble_eq_true rfl) (hts (.fieldLink RX2 13 "DeadTimeLoop$Section" "effort" "J") (List.mem_of_getElem? (i := 2) rfl)) (fun _ h9 => h9) rfl dX2_copy_10 ?_
  refine va_put (D := gD Γ) (cl := vwCl) (tys := gTy Γ) (ci := 2) (v := .long (sEff x2)) (ty := tyX2 1) (C := RX2) (T := TX2) (N := 5) hx hb hts iX2_copy_2 tyX2 tyX2_ok nmX2 hown hK hP hD hS 0 rfl rfl 1 (Nat.le_of_ble_eq_true rfl) (hts (.fieldLink RX2 13 "DeadTimeLoop$Section" "effort" "J") (List.mem_of_getElem? (i := 2) rfl)) (fun _ h9 => h9) rfl (tyX2_ok 1 (Nat.le_of_ble_eq_true rfl)) rfl rfl (Nat.le_of_ble_eq_true rfl) dX2_copy_13 (fun H locs hP hD hS => ?_)
  have hP : va_P (gD Γ) vwCl (secW Γ a b ((sErr x2), (sEff x2), (sOver x), (sTicks x), (sUp x)) ++ secW Γ a2 b2 x2) H := hP
  have hD : va_D A (secW Γ a b ((sErr x2), (sEff x2), (sOver x), (sTicks x), (sUp x)) ++ secW Γ a2 b2 x2) := hD
  refine lv_aload_n hx hb dX2_copy_16 rfl (lv_at hl 0 rfl) ?_
  refine lv_aload_n hx hb dX2_copy_17 rfl (lv_at hl 1 rfl) ?_
  refine va_get (D := gD Γ) (cl := vwCl) (tys := gTy Γ) (ci := 2) (v := .int (sOver x2)) (C := RX2) (T := TX2) (N := 5) hx hb hts iX2_copy_2 hown hK hP 1 rfl rfl 2 (Nat.le_of_ble_eq_true rfl) (hts (.fieldLink RX2 16 "DeadTimeLoop$Section" "overshoot" "I") (List.mem_of_getElem? (i := 3) rfl)) (fun _ h9 => h9) rfl dX2_copy_18 ?_
  refine va_put (D := gD Γ) (cl := vwCl) (tys := gTy Γ) (ci := 2) (v := .int (sOver x2)) (ty := tyX2 2) (C := RX2) (T := TX2) (N := 5) hx hb hts iX2_copy_2 tyX2 tyX2_ok nmX2 hown hK hP hD hS 0 rfl rfl 2 (Nat.le_of_ble_eq_true rfl) (hts (.fieldLink RX2 16 "DeadTimeLoop$Section" "overshoot" "I") (List.mem_of_getElem? (i := 3) rfl)) (fun _ h9 => h9) rfl (tyX2_ok 2 (Nat.le_of_ble_eq_true rfl)) rfl rfl (Nat.le_of_ble_eq_true rfl) dX2_copy_21 (fun H locs hP hD hS => ?_)
  have hP : va_P (gD Γ) vwCl (secW Γ a b ((sErr x2), (sEff x2), (sOver x2), (sTicks x), (sUp x)) ++ secW Γ a2 b2 x2) H := hP
  have hD : va_D A (secW Γ a b ((sErr x2), (sEff x2), (sOver x2), (sTicks x), (sUp x)) ++ secW Γ a2 b2 x2) := hD
  refine lv_aload_n hx hb dX2_copy_24 rfl (lv_at hl 0 rfl) ?_
  refine lv_aload_n hx hb dX2_copy_25 rfl (lv_at hl 1 rfl) ?_
  refine va_get (D := gD Γ) (cl := vwCl) (tys := gTy Γ) (ci := 2) (v := .int (sTicks x2)) (C := RX2) (T := TX2) (N := 5) hx hb hts iX2_copy_2 hown hK hP 1 rfl rfl 3 (Nat.le_of_ble_eq_true rfl) (hts (.fieldLink RX2 20 "DeadTimeLoop$Section" "ticks" "I") (List.mem_of_getElem? (i := 4) rfl)) (fun _ h9 => h9) rfl dX2_copy_26 ?_
  refine va_put (D := gD Γ) (cl := vwCl) (tys := gTy Γ) (ci := 2) (v := .int (sTicks x2)) (ty := tyX2 3) (C := RX2) (T := TX2) (N := 5) hx hb hts iX2_copy_2 tyX2 tyX2_ok nmX2 hown hK hP hD hS 0 rfl rfl 3 (Nat.le_of_ble_eq_true rfl) (hts (.fieldLink RX2 20 "DeadTimeLoop$Section" "ticks" "I") (List.mem_of_getElem? (i := 4) rfl)) (fun _ h9 => h9) rfl (tyX2_ok 3 (Nat.le_of_ble_eq_true rfl)) rfl rfl (Nat.le_of_ble_eq_true rfl) dX2_copy_29 (fun H locs hP hD hS => ?_)
  have hP : va_P (gD Γ) vwCl (secW Γ a b ((sErr x2), (sEff x2), (sOver x2), (sTicks x2), (sUp x)) ++ secW Γ a2 b2 x2) H := hP
  have hD : va_D A (secW Γ a b ((sErr x2), (sEff x2), (sOver x2), (sTicks x2), (sUp x)) ++ secW Γ a2 b2 x2) := hD
  refine lv_aload_n hx hb dX2_copy_32 rfl (lv_at hl 0 rfl) ?_
  refine lv_aload_n hx hb dX2_copy_33 rfl (lv_at hl 1 rfl) ?_
  refine va_get (D := gD Γ) (cl := vwCl) (tys := gTy Γ) (ci := 2) (v := .int (sUp x2)) (C := RX2) (T := TX2) (N := 5) hx hb hts iX2_copy_2 hown hK hP 1 rfl rfl 4 (Nat.le_of_ble_eq_true rfl) (hts (.fieldLink RX2 23 "DeadTimeLoop$Section" "upwards" "Z") (List.mem_of_getElem? (i := 5) rfl)) (fun _ h9 => h9) rfl dX2_copy_34 ?_
  refine va_put (D := gD Γ) (cl := vwCl) (tys := gTy Γ) (ci := 2) (v := .int (sUp x2)) (ty := tyX2 4) (C := RX2) (T := TX2) (N := 5) hx hb hts iX2_copy_2 tyX2 tyX2_ok nmX2 hown hK hP hD hS 0 rfl rfl 4 (Nat.le_of_ble_eq_true rfl) (hts (.fieldLink RX2 23 "DeadTimeLoop$Section" "upwards" "Z") (List.mem_of_getElem? (i := 5) rfl)) (fun _ h9 => h9) rfl (tyX2_ok 4 (Nat.le_of_ble_eq_true rfl)) (isB_nar hup) (isB_fit hup) (Nat.le_of_ble_eq_true rfl) dX2_copy_37 (fun H locs hP hD hS => ?_)
  have hP : va_P (gD Γ) vwCl (secW Γ a b ((sErr x2), (sEff x2), (sOver x2), (sTicks x2), (sUp x2)) ++ secW Γ a2 b2 x2) H := hP
  have hD : va_D A (secW Γ a b ((sErr x2), (sEff x2), (sOver x2), (sTicks x2), (sUp x2)) ++ secW Γ a2 b2 x2) := hD
  exact re_v hQ ha hx hb hr hlk hAe hP hS dX2_copy_40 (by skip; first | rfl | simp [])
def rm_X2_see : Room := { frames := 1, cells := 0, slots := 0, locals := 24 }
theorem iX2_see_2 : ∀ w ∈ u_ws RX2 TX2 5, w ∈ wsX2_see := fun w h => (List.mem_cons_of_mem _ (List.mem_append_right _ h))
set_option maxHeartbeats 4000000 in
set_option maxRecDepth 100000 in
theorem c_X2_see (Γ : gT) (l : Launch) (a : Nat → Nat) (b : Nat) (x : Sec) (r : Int32) (m1 : Int32) (d : Int32)  : Cv Γ l yX2_see wsX2_see rm_X2_see [.ref (a b), .int r, .int m1, .int d] (secW Γ a b x) (secW Γ a b (fSecSee x r m1 d)) := by
  refine Cv.of (cc := cX2_see) (own := RX2) (nL := 4) (ret := none) (by decide +kernel) rfl rfl (Nat.le_of_ble_eq_true rfl) ?_
  intro p e s m args below meth c A Q H locs ls ha hAe hQ hx hb hml hr hts hown hlk hP hK hD hS hA hG hl
  have hh : Hd Γ p s m args c cX2_see RX2 4 wsX2_see A := ⟨⟨hx, hb, hml, hown, hts⟩, hK, hA, hG⟩
  have hl : lv_has ls 4 [(0, .ref (a b)), (1, .int r), (2, .int m1), (3, .int d)] := hl
  refine lv_aload_n hx hb dX2_see_0 rfl (lv_at hl 0 rfl) ?_
  refine lv_dup hx hb dX2_see_1 rfl ?_
  refine va_get (D := gD Γ) (cl := vwCl) (tys := gTy Γ) (ci := 2) (v := .long (sErr x)) (C := RX2) (T := TX2) (N := 5) hx hb hts iX2_see_2 hown hK hP 0 rfl rfl 0 (Nat.le_of_ble_eq_true rfl) (hts (.fieldLink RX2 7 "DeadTimeLoop$Section" "errorSum" "J") (List.mem_of_getElem? (i := 1) rfl)) (fun _ h9 => h9) rfl dX2_see_2 ?_
  refine lv_iload_n hx hb dX2_see_5 rfl (lv_at hl 1 rfl) ?_
  refine lv_iload_n hx hb dX2_see_6 rfl (lv_at hl 2 rfl) ?_
  refine lv_isub hx hb dX2_see_7 ?_
  refine va_mabs hx hb (hml.trans hl.1.symm) hown (hts (.methodLink RX2 27 Lib.Math.abs.name) (List.mem_of_getElem? (i := 2) rfl)) (hts (.static Lib.Math.abs.name) (List.mem_of_getElem? (i := 3) rfl)) (hts (.initialized "java/lang/Math") (List.mem_of_getElem? (i := 4) rfl)) (hts (.code Lib.Math.abs.name Lib.Math.abs.code 1 (some .int)) (List.mem_of_getElem? (i := 5) rfl)) (Nat.le_of_ble_eq_true rfl) (Nat.le_of_ble_eq_true rfl) (Nat.le_of_ble_eq_true rfl) (Nat.le_of_ble_eq_true rfl) dX2_see_8 ?_
  refine lv_i2l (v := (kAbs (r - m1)).toInt64) hx hb dX2_see_11 rfl ?_
  refine lv_ladd hx hb dX2_see_12 ?_
  refine va_put (D := gD Γ) (cl := vwCl) (tys := gTy Γ) (ci := 2) (v := .long ((sErr x) + ((kAbs (r - m1)).toInt64))) (ty := tyX2 0) (C := RX2) (T := TX2) (N := 5) hx hb hts iX2_see_2 tyX2 tyX2_ok nmX2 hown hK hP hD hS 0 rfl rfl 0 (Nat.le_of_ble_eq_true rfl) (hts (.fieldLink RX2 7 "DeadTimeLoop$Section" "errorSum" "J") (List.mem_of_getElem? (i := 1) rfl)) (fun _ h9 => h9) rfl (tyX2_ok 0 (Nat.le_of_ble_eq_true rfl)) rfl rfl (Nat.le_of_ble_eq_true rfl) dX2_see_13 (fun H locs hP hD hS => ?_)
  have hP : va_P (gD Γ) vwCl (secW Γ a b (((sErr x) + ((kAbs (r - m1)).toInt64)), (sEff x), (sOver x), (sTicks x), (sUp x))) H := hP
  have hD : va_D A (secW Γ a b (((sErr x) + ((kAbs (r - m1)).toInt64)), (sEff x), (sOver x), (sTicks x), (sUp x))) := hD
  refine lv_aload_n hx hb dX2_see_16 rfl (lv_at hl 0 rfl) ?_
  refine lv_dup hx hb dX2_see_17 rfl ?_
  refine va_get (D := gD Γ) (cl := vwCl) (tys := gTy Γ) (ci := 2) (v := .long (sEff x)) (C := RX2) (T := TX2) (N := 5) hx hb hts iX2_see_2 hown hK hP 0 rfl rfl 1 (Nat.le_of_ble_eq_true rfl) (hts (.fieldLink RX2 13 "DeadTimeLoop$Section" "effort" "J") (List.mem_of_getElem? (i := 6) rfl)) (fun _ h9 => h9) rfl dX2_see_18 ?_
  refine lv_iload_n hx hb dX2_see_21 rfl (lv_at hl 3 rfl) ?_
  refine va_mabs hx hb (hml.trans hl.1.symm) hown (hts (.methodLink RX2 27 Lib.Math.abs.name) (List.mem_of_getElem? (i := 2) rfl)) (hts (.static Lib.Math.abs.name) (List.mem_of_getElem? (i := 3) rfl)) (hts (.initialized "java/lang/Math") (List.mem_of_getElem? (i := 4) rfl)) (hts (.code Lib.Math.abs.name Lib.Math.abs.code 1 (some .int)) (List.mem_of_getElem? (i := 5) rfl)) (Nat.le_of_ble_eq_true rfl) (Nat.le_of_ble_eq_true rfl) (Nat.le_of_ble_eq_true rfl) (Nat.le_of_ble_eq_true rfl) dX2_see_22 ?_
  refine lv_i2l (v := (kAbs d).toInt64) hx hb dX2_see_25 rfl ?_
  refine lv_ladd hx hb dX2_see_26 ?_
  refine va_put (D := gD Γ) (cl := vwCl) (tys := gTy Γ) (ci := 2) (v := .long ((sEff x) + ((kAbs d).toInt64))) (ty := tyX2 1) (C := RX2) (T := TX2) (N := 5) hx hb hts iX2_see_2 tyX2 tyX2_ok nmX2 hown hK hP hD hS 0 rfl rfl 1 (Nat.le_of_ble_eq_true rfl) (hts (.fieldLink RX2 13 "DeadTimeLoop$Section" "effort" "J") (List.mem_of_getElem? (i := 6) rfl)) (fun _ h9 => h9) rfl (tyX2_ok 1 (Nat.le_of_ble_eq_true rfl)) rfl rfl (Nat.le_of_ble_eq_true rfl) dX2_see_27 (fun H locs hP hD hS => ?_)
  have hP : va_P (gD Γ) vwCl (secW Γ a b (((sErr x) + ((kAbs (r - m1)).toInt64)), ((sEff x) + ((kAbs d).toInt64)), (sOver x), (sTicks x), (sUp x))) H := hP
  have hD : va_D A (secW Γ a b (((sErr x) + ((kAbs (r - m1)).toInt64)), ((sEff x) + ((kAbs d).toInt64)), (sOver x), (sTicks x), (sUp x))) := hD
  refine lv_aload_n hx hb dX2_see_30 rfl (lv_at hl 0 rfl) ?_
  refine lv_aload_n hx hb dX2_see_31 rfl (lv_at hl 0 rfl) ?_
  refine va_get (D := gD Γ) (cl := vwCl) (tys := gTy Γ) (ci := 2) (v := .int (sOver x)) (C := RX2) (T := TX2) (N := 5) hx hb hts iX2_see_2 hown hK hP 0 rfl rfl 2 (Nat.le_of_ble_eq_true rfl) (hts (.fieldLink RX2 16 "DeadTimeLoop$Section" "overshoot" "I") (List.mem_of_getElem? (i := 7) rfl)) (fun _ h9 => h9) rfl dX2_see_32 ?_
  refine lv_aload_n hx hb dX2_see_35 rfl (lv_at hl 0 rfl) ?_
  refine va_get (D := gD Γ) (cl := vwCl) (tys := gTy Γ) (ci := 2) (v := .int (sUp x)) (C := RX2) (T := TX2) (N := 5) hx hb hts iX2_see_2 hown hK hP 0 rfl rfl 4 (Nat.le_of_ble_eq_true rfl) (hts (.fieldLink RX2 23 "DeadTimeLoop$Section" "upwards" "Z") (List.mem_of_getElem? (i := 8) rfl)) (fun _ h9 => h9) rfl dX2_see_36 ?_
  refine lv_if_eq (tgt := 48) hx hb dX2_see_39 (by decide) (fun c_39 => ?_) (fun c_39 => ?_)
  · -- yes
    refine lv_iload_n hx hb dX2_see_48 rfl (lv_at hl 1 rfl) ?_
    refine lv_iload_n hx hb dX2_see_49 rfl (lv_at hl 2 rfl) ?_
    refine lv_isub hx hb dX2_see_50 ?_
    refine va_mmax hx hb (hml.trans hl.1.symm) hown (hts (.methodLink RX2 33 Lib.Math.max.name) (List.mem_of_getElem? (i := 9) rfl)) (hts (.static Lib.Math.max.name) (List.mem_of_getElem? (i := 10) rfl)) (hts (.initialized "java/lang/Math") (List.mem_of_getElem? (i := 4) rfl)) (hts (.code Lib.Math.max.name Lib.Math.max.code 2 (some .int)) (List.mem_of_getElem? (i := 11) rfl)) (Nat.le_of_ble_eq_true rfl) (Nat.le_of_ble_eq_true rfl) (Nat.le_of_ble_eq_true rfl) (Nat.le_of_ble_eq_true rfl) dX2_see_51 ?_
    refine va_put (D := gD Γ) (cl := vwCl) (tys := gTy Γ) (ci := 2) (v := .int (kMax (sOver x) (r - m1))) (ty := tyX2 2) (C := RX2) (T := TX2) (N := 5) hx hb hts iX2_see_2 tyX2 tyX2_ok nmX2 hown hK hP hD hS 0 rfl rfl 2 (Nat.le_of_ble_eq_true rfl) (hts (.fieldLink RX2 16 "DeadTimeLoop$Section" "overshoot" "I") (List.mem_of_getElem? (i := 7) rfl)) (fun _ h9 => h9) rfl (tyX2_ok 2 (Nat.le_of_ble_eq_true rfl)) rfl rfl (Nat.le_of_ble_eq_true rfl) dX2_see_54 (fun H locs hP hD hS => ?_)
    have hP : va_P (gD Γ) vwCl (secW Γ a b (((sErr x) + ((kAbs (r - m1)).toInt64)), ((sEff x) + ((kAbs d).toInt64)), (kMax (sOver x) (r - m1)), (sTicks x), (sUp x))) H := hP
    have hD : va_D A (secW Γ a b (((sErr x) + ((kAbs (r - m1)).toInt64)), ((sEff x) + ((kAbs d).toInt64)), (kMax (sOver x) (r - m1)), (sTicks x), (sUp x))) := hD
    refine lv_aload_n hx hb dX2_see_57 rfl (lv_at hl 0 rfl) ?_
    refine lv_dup hx hb dX2_see_58 rfl ?_
    refine va_get (D := gD Γ) (cl := vwCl) (tys := gTy Γ) (ci := 2) (v := .int (sTicks x)) (C := RX2) (T := TX2) (N := 5) hx hb hts iX2_see_2 hown hK hP 0 rfl rfl 3 (Nat.le_of_ble_eq_true rfl) (hts (.fieldLink RX2 20 "DeadTimeLoop$Section" "ticks" "I") (List.mem_of_getElem? (i := 12) rfl)) (fun _ h9 => h9) rfl dX2_see_59 ?_
    refine lv_iconst (v := 1) hx hb dX2_see_62 (by decide) ?_
    refine lv_iadd hx hb dX2_see_63 ?_
    refine va_put (D := gD Γ) (cl := vwCl) (tys := gTy Γ) (ci := 2) (v := .int ((sTicks x) + 1)) (ty := tyX2 3) (C := RX2) (T := TX2) (N := 5) hx hb hts iX2_see_2 tyX2 tyX2_ok nmX2 hown hK hP hD hS 0 rfl rfl 3 (Nat.le_of_ble_eq_true rfl) (hts (.fieldLink RX2 20 "DeadTimeLoop$Section" "ticks" "I") (List.mem_of_getElem? (i := 12) rfl)) (fun _ h9 => h9) rfl (tyX2_ok 3 (Nat.le_of_ble_eq_true rfl)) rfl rfl (Nat.le_of_ble_eq_true rfl) dX2_see_64 (fun H locs hP hD hS => ?_)
    have hP : va_P (gD Γ) vwCl (secW Γ a b (((sErr x) + ((kAbs (r - m1)).toInt64)), ((sEff x) + ((kAbs d).toInt64)), (kMax (sOver x) (r - m1)), ((sTicks x) + 1), (sUp x))) H := hP
    have hD : va_D A (secW Γ a b (((sErr x) + ((kAbs (r - m1)).toInt64)), ((sEff x) + ((kAbs d).toInt64)), (kMax (sOver x) (r - m1)), ((sTicks x) + 1), (sUp x))) := hD
    exact re_v hQ ha hx hb hr hlk hAe hP hS dX2_see_67 (by skip; first | rfl | simp [fSecSee, fOver, c_39])
  · -- no
    refine lv_iload_n hx hb dX2_see_42 rfl (lv_at hl 2 rfl) ?_
    refine lv_iload_n hx hb dX2_see_43 rfl (lv_at hl 1 rfl) ?_
    refine lv_isub hx hb dX2_see_44 ?_
    refine lv_goto (tgt := 51) hx hb dX2_see_45 (by decide) ?_
    refine va_mmax hx hb (hml.trans hl.1.symm) hown (hts (.methodLink RX2 33 Lib.Math.max.name) (List.mem_of_getElem? (i := 9) rfl)) (hts (.static Lib.Math.max.name) (List.mem_of_getElem? (i := 10) rfl)) (hts (.initialized "java/lang/Math") (List.mem_of_getElem? (i := 4) rfl)) (hts (.code Lib.Math.max.name Lib.Math.max.code 2 (some .int)) (List.mem_of_getElem? (i := 11) rfl)) (Nat.le_of_ble_eq_true rfl) (Nat.le_of_ble_eq_true rfl) (Nat.le_of_ble_eq_true rfl) (Nat.le_of_ble_eq_true rfl) dX2_see_51 ?_
    refine va_put (D := gD Γ) (cl := vwCl) (tys := gTy Γ) (ci := 2) (v := .int (kMax (sOver x) (m1 - r))) (ty := tyX2 2) (C := RX2) (T := TX2) (N := 5) hx hb hts iX2_see_2 tyX2 tyX2_ok nmX2 hown hK hP hD hS 0 rfl rfl 2 (Nat.le_of_ble_eq_true rfl) (hts (.fieldLink RX2 16 "DeadTimeLoop$Section" "overshoot" "I") (List.mem_of_getElem? (i := 7) rfl)) (fun _ h9 => h9) rfl (tyX2_ok 2 (Nat.le_of_ble_eq_true rfl)) rfl rfl (Nat.le_of_ble_eq_true rfl) dX2_see_54 (fun H locs hP hD hS => ?_)
    have hP : va_P (gD Γ) vwCl (secW Γ a b (((sErr x) + ((kAbs (r - m1)).toInt64)), ((sEff x) + ((kAbs d).toInt64)), (kMax (sOver x) (m1 - r)), (sTicks x), (sUp x))) H := hP
    have hD : va_D A (secW Γ a b (((sErr x) + ((kAbs (r - m1)).toInt64)), ((sEff x) + ((kAbs d).toInt64)), (kMax (sOver x) (m1 - r)), (sTicks x), (sUp x))) := hD
    refine lv_aload_n hx hb dX2_see_57 rfl (lv_at hl 0 rfl) ?_
    refine lv_dup hx hb dX2_see_58 rfl ?_
    refine va_get (D := gD Γ) (cl := vwCl) (tys := gTy Γ) (ci := 2) (v := .int (sTicks x)) (C := RX2) (T := TX2) (N := 5) hx hb hts iX2_see_2 hown hK hP 0 rfl rfl 3 (Nat.le_of_ble_eq_true rfl) (hts (.fieldLink RX2 20 "DeadTimeLoop$Section" "ticks" "I") (List.mem_of_getElem? (i := 12) rfl)) (fun _ h9 => h9) rfl dX2_see_59 ?_
    refine lv_iconst (v := 1) hx hb dX2_see_62 (by decide) ?_
    refine lv_iadd hx hb dX2_see_63 ?_
    refine va_put (D := gD Γ) (cl := vwCl) (tys := gTy Γ) (ci := 2) (v := .int ((sTicks x) + 1)) (ty := tyX2 3) (C := RX2) (T := TX2) (N := 5) hx hb hts iX2_see_2 tyX2 tyX2_ok nmX2 hown hK hP hD hS 0 rfl rfl 3 (Nat.le_of_ble_eq_true rfl) (hts (.fieldLink RX2 20 "DeadTimeLoop$Section" "ticks" "I") (List.mem_of_getElem? (i := 12) rfl)) (fun _ h9 => h9) rfl (tyX2_ok 3 (Nat.le_of_ble_eq_true rfl)) rfl rfl (Nat.le_of_ble_eq_true rfl) dX2_see_64 (fun H locs hP hD hS => ?_)
    have hP : va_P (gD Γ) vwCl (secW Γ a b (((sErr x) + ((kAbs (r - m1)).toInt64)), ((sEff x) + ((kAbs d).toInt64)), (kMax (sOver x) (m1 - r)), ((sTicks x) + 1), (sUp x))) H := hP
    have hD : va_D A (secW Γ a b (((sErr x) + ((kAbs (r - m1)).toInt64)), ((sEff x) + ((kAbs d).toInt64)), (kMax (sOver x) (m1 - r)), ((sTicks x) + 1), (sUp x))) := hD
    exact re_v hQ ha hx hb hr hlk hAe hP hS dX2_see_67 (by skip; first | rfl | simp [fSecSee, fOver, c_39])
end
section
def rm_X5_copy : Room := { frames := 1, cells := 0, slots := 0, locals := 28 }
theorem iX5_copy_5 : ∀ w ∈ u_ws RX5 TX5 5, w ∈ wsX5_copy := fun w h => (List.mem_cons_of_mem _ (List.mem_append_right _ h))
set_option maxHeartbeats 4000000 in
set_option maxRecDepth 100000 in
theorem c_X5_copy (Γ : gT) (l : Launch) (a : Nat → Nat) (b : Nat) (a2 : Nat → Nat) (b2 : Nat) (w : Wat) (w2 : Wat)  : Cv Γ l yX5_copy wsX5_copy rm_X5_copy [.ref (a b), .ref (a2 b2)] (watW Γ a b w ++ watW Γ a2 b2 w2) (watW Γ a b ((va_cpy (wSig w2) (wSig w) 0 0 4, va_cpy (wLeast w2) (wLeast w) 0 0 4, va_cpy (wGreat w2) (wGreat w) 0 0 4, va_cpy (wGtick w2) (wGtick w) 0 0 4, (wCnt w2))) ++ watW Γ a2 b2 w2) := by
  refine Cv.of (cc := cX5_copy) (own := RX5) (nL := 2) (ret := none) (by decide +kernel) rfl rfl (Nat.le_of_ble_eq_true rfl) ?_
  intro p e s m args below meth c A Q H locs ls ha hAe hQ hx hb hml hr hts hown hlk hP hK hD hS hA hG hl
  have hh : Hd Γ p s m args c cX5_copy RX5 2 wsX5_copy A := ⟨⟨hx, hb, hml, hown, hts⟩, hK, hA, hG⟩
  have hl : lv_has ls 2 [(0, .ref (a b)), (1, .ref (a2 b2))] := hl
  refine lv_aload_n hx hb dX5_copy_0 rfl (lv_at hl 1 rfl) ?_
  refine va_get (D := gD Γ) (cl := vwCl) (tys := gTy Γ) (ci := 5) (v := .ref (a2 (b2 + 1))) (C := RX5) (T := TX5) (N := 5) hx hb hts iX5_copy_5 hown hK hP 5 rfl rfl 0 (Nat.le_of_ble_eq_true rfl) (hts (.fieldLink RX5 9 "DeadTimeLoop$Watches" "signals" "[I") (List.mem_of_getElem? (i := 1) rfl)) (fun _ h9 => h9) rfl dX5_copy_1 ?_
  refine lv_iconst (v := 0) hx hb dX5_copy_4 (by decide) ?_
  refine lv_aload_n hx hb dX5_copy_5 rfl (lv_at hl 0 rfl) ?_
  refine va_get (D := gD Γ) (cl := vwCl) (tys := gTy Γ) (ci := 5) (v := .ref (a (b + 1))) (C := RX5) (T := TX5) (N := 5) hx hb hts iX5_copy_5 hown hK hP 0 rfl rfl 0 (Nat.le_of_ble_eq_true rfl) (hts (.fieldLink RX5 9 "DeadTimeLoop$Watches" "signals" "[I") (List.mem_of_getElem? (i := 1) rfl)) (fun _ h9 => h9) rfl dX5_copy_6 ?_
  refine lv_iconst (v := 0) hx hb dX5_copy_9 (by decide) ?_
  refine lv_iconst (v := 4) hx hb dX5_copy_10 (by decide) ?_
  refine va_copyi (D := gD Γ) (cl := vwCl) (tys := gTy Γ) (f := (wSig w2)) (g := (wSig w)) hx hb (hml.trans hl.1.symm) hown (hts (.methodLink RX5 28 arraycopyName) (List.mem_of_getElem? (i := 2) rfl)) (hts (.native arraycopyName) (List.mem_of_getElem? (i := 3) rfl)) (hts (.static arraycopyName) (List.mem_of_getElem? (i := 4) rfl)) (hts (.initialized "java/lang/System") (List.mem_of_getElem? (i := 5) rfl)) hK hP hD hS 6 1 0 0 rfl rfl rfl rfl rfl (by decide) (by decide) (by decide) (by decide) (by decide) (fun i hi => rfl) (Nat.le_of_ble_eq_true rfl) (Nat.le_of_ble_eq_true rfl) dX5_copy_11 (fun H locs hP hD hS => ?_)
  have hP : va_P (gD Γ) vwCl (watW Γ a b ((va_cpy (wSig w2) (wSig w) 0 0 4), (wLeast w), (wGreat w), (wGtick w), (wCnt w)) ++ watW Γ a2 b2 w2) H := hP
  have hD : va_D A (watW Γ a b ((va_cpy (wSig w2) (wSig w) 0 0 4), (wLeast w), (wGreat w), (wGtick w), (wCnt w)) ++ watW Γ a2 b2 w2) := hD
  refine lv_aload_n hx hb dX5_copy_14 rfl (lv_at hl 1 rfl) ?_
  refine va_get (D := gD Γ) (cl := vwCl) (tys := gTy Γ) (ci := 5) (v := .ref (a2 (b2 + 2))) (C := RX5) (T := TX5) (N := 5) hx hb hts iX5_copy_5 hown hK hP 5 rfl rfl 1 (Nat.le_of_ble_eq_true rfl) (hts (.fieldLink RX5 15 "DeadTimeLoop$Watches" "least" "[I") (List.mem_of_getElem? (i := 6) rfl)) (fun _ h9 => h9) rfl dX5_copy_15 ?_
  refine lv_iconst (v := 0) hx hb dX5_copy_18 (by decide) ?_
  refine lv_aload_n hx hb dX5_copy_19 rfl (lv_at hl 0 rfl) ?_
  refine va_get (D := gD Γ) (cl := vwCl) (tys := gTy Γ) (ci := 5) (v := .ref (a (b + 2))) (C := RX5) (T := TX5) (N := 5) hx hb hts iX5_copy_5 hown hK hP 0 rfl rfl 1 (Nat.le_of_ble_eq_true rfl) (hts (.fieldLink RX5 15 "DeadTimeLoop$Watches" "least" "[I") (List.mem_of_getElem? (i := 6) rfl)) (fun _ h9 => h9) rfl dX5_copy_20 ?_
  refine lv_iconst (v := 0) hx hb dX5_copy_23 (by decide) ?_
  refine lv_iconst (v := 4) hx hb dX5_copy_24 (by decide) ?_
  refine va_copyi (D := gD Γ) (cl := vwCl) (tys := gTy Γ) (f := (wLeast w2)) (g := (wLeast w)) hx hb (hml.trans hl.1.symm) hown (hts (.methodLink RX5 28 arraycopyName) (List.mem_of_getElem? (i := 2) rfl)) (hts (.native arraycopyName) (List.mem_of_getElem? (i := 3) rfl)) (hts (.static arraycopyName) (List.mem_of_getElem? (i := 4) rfl)) (hts (.initialized "java/lang/System") (List.mem_of_getElem? (i := 5) rfl)) hK hP hD hS 7 2 0 0 rfl rfl rfl rfl rfl (by decide) (by decide) (by decide) (by decide) (by decide) (fun i hi => rfl) (Nat.le_of_ble_eq_true rfl) (Nat.le_of_ble_eq_true rfl) dX5_copy_25 (fun H locs hP hD hS => ?_)
  have hP : va_P (gD Γ) vwCl (watW Γ a b ((va_cpy (wSig w2) (wSig w) 0 0 4), (va_cpy (wLeast w2) (wLeast w) 0 0 4), (wGreat w), (wGtick w), (wCnt w)) ++ watW Γ a2 b2 w2) H := hP
  have hD : va_D A (watW Γ a b ((va_cpy (wSig w2) (wSig w) 0 0 4), (va_cpy (wLeast w2) (wLeast w) 0 0 4), (wGreat w), (wGtick w), (wCnt w)) ++ watW Γ a2 b2 w2) := hD
  refine lv_aload_n hx hb dX5_copy_28 rfl (lv_at hl 1 rfl) ?_
  refine va_get (D := gD Γ) (cl := vwCl) (tys := gTy Γ) (ci := 5) (v := .ref (a2 (b2 + 3))) (C := RX5) (T := TX5) (N := 5) hx hb hts iX5_copy_5 hown hK hP 5 rfl rfl 2 (Nat.le_of_ble_eq_true rfl) (hts (.fieldLink RX5 18 "DeadTimeLoop$Watches" "greatest" "[I") (List.mem_of_getElem? (i := 7) rfl)) (fun _ h9 => h9) rfl dX5_copy_29 ?_
  refine lv_iconst (v := 0) hx hb dX5_copy_32 (by decide) ?_
  refine lv_aload_n hx hb dX5_copy_33 rfl (lv_at hl 0 rfl) ?_
  refine va_get (D := gD Γ) (cl := vwCl) (tys := gTy Γ) (ci := 5) (v := .ref (a (b + 3))) (C := RX5) (T := TX5) (N := 5) hx hb hts iX5_copy_5 hown hK hP 0 rfl rfl 2 (Nat.le_of_ble_eq_true rfl) (hts (.fieldLink RX5 18 "DeadTimeLoop$Watches" "greatest" "[I") (List.mem_of_getElem? (i := 7) rfl)) (fun _ h9 => h9) rfl dX5_copy_34 ?_
  refine lv_iconst (v := 0) hx hb dX5_copy_37 (by decide) ?_
  refine lv_iconst (v := 4) hx hb dX5_copy_38 (by decide) ?_
  refine va_copyi (D := gD Γ) (cl := vwCl) (tys := gTy Γ) (f := (wGreat w2)) (g := (wGreat w)) hx hb (hml.trans hl.1.symm) hown (hts (.methodLink RX5 28 arraycopyName) (List.mem_of_getElem? (i := 2) rfl)) (hts (.native arraycopyName) (List.mem_of_getElem? (i := 3) rfl)) (hts (.static arraycopyName) (List.mem_of_getElem? (i := 4) rfl)) (hts (.initialized "java/lang/System") (List.mem_of_getElem? (i := 5) rfl)) hK hP hD hS 8 3 0 0 rfl rfl rfl rfl rfl (by decide) (by decide) (by decide) (by decide) (by decide) (fun i hi => rfl) (Nat.le_of_ble_eq_true rfl) (Nat.le_of_ble_eq_true rfl) dX5_copy_39 (fun H locs hP hD hS => ?_)
  have hP : va_P (gD Γ) vwCl (watW Γ a b ((va_cpy (wSig w2) (wSig w) 0 0 4), (va_cpy (wLeast w2) (wLeast w) 0 0 4), (va_cpy (wGreat w2) (wGreat w) 0 0 4), (wGtick w), (wCnt w)) ++ watW Γ a2 b2 w2) H := hP
  have hD : va_D A (watW Γ a b ((va_cpy (wSig w2) (wSig w) 0 0 4), (va_cpy (wLeast w2) (wLeast w) 0 0 4), (va_cpy (wGreat w2) (wGreat w) 0 0 4), (wGtick w), (wCnt w)) ++ watW Γ a2 b2 w2) := hD
  refine lv_aload_n hx hb dX5_copy_42 rfl (lv_at hl 1 rfl) ?_
  refine va_get (D := gD Γ) (cl := vwCl) (tys := gTy Γ) (ci := 5) (v := .ref (a2 (b2 + 4))) (C := RX5) (T := TX5) (N := 5) hx hb hts iX5_copy_5 hown hK hP 5 rfl rfl 3 (Nat.le_of_ble_eq_true rfl) (hts (.fieldLink RX5 21 "DeadTimeLoop$Watches" "greatestTick" "[I") (List.mem_of_getElem? (i := 8) rfl)) (fun _ h9 => h9) rfl dX5_copy_43 ?_
  refine lv_iconst (v := 0) hx hb dX5_copy_46 (by decide) ?_
  refine lv_aload_n hx hb dX5_copy_47 rfl (lv_at hl 0 rfl) ?_
  refine va_get (D := gD Γ) (cl := vwCl) (tys := gTy Γ) (ci := 5) (v := .ref (a (b + 4))) (C := RX5) (T := TX5) (N := 5) hx hb hts iX5_copy_5 hown hK hP 0 rfl rfl 3 (Nat.le_of_ble_eq_true rfl) (hts (.fieldLink RX5 21 "DeadTimeLoop$Watches" "greatestTick" "[I") (List.mem_of_getElem? (i := 8) rfl)) (fun _ h9 => h9) rfl dX5_copy_48 ?_
  refine lv_iconst (v := 0) hx hb dX5_copy_51 (by decide) ?_
  refine lv_iconst (v := 4) hx hb dX5_copy_52 (by decide) ?_
  refine va_copyi (D := gD Γ) (cl := vwCl) (tys := gTy Γ) (f := (wGtick w2)) (g := (wGtick w)) hx hb (hml.trans hl.1.symm) hown (hts (.methodLink RX5 28 arraycopyName) (List.mem_of_getElem? (i := 2) rfl)) (hts (.native arraycopyName) (List.mem_of_getElem? (i := 3) rfl)) (hts (.static arraycopyName) (List.mem_of_getElem? (i := 4) rfl)) (hts (.initialized "java/lang/System") (List.mem_of_getElem? (i := 5) rfl)) hK hP hD hS 9 4 0 0 rfl rfl rfl rfl rfl (by decide) (by decide) (by decide) (by decide) (by decide) (fun i hi => rfl) (Nat.le_of_ble_eq_true rfl) (Nat.le_of_ble_eq_true rfl) dX5_copy_53 (fun H locs hP hD hS => ?_)
  have hP : va_P (gD Γ) vwCl (watW Γ a b ((va_cpy (wSig w2) (wSig w) 0 0 4), (va_cpy (wLeast w2) (wLeast w) 0 0 4), (va_cpy (wGreat w2) (wGreat w) 0 0 4), (va_cpy (wGtick w2) (wGtick w) 0 0 4), (wCnt w)) ++ watW Γ a2 b2 w2) H := hP
  have hD : va_D A (watW Γ a b ((va_cpy (wSig w2) (wSig w) 0 0 4), (va_cpy (wLeast w2) (wLeast w) 0 0 4), (va_cpy (wGreat w2) (wGreat w) 0 0 4), (va_cpy (wGtick w2) (wGtick w) 0 0 4), (wCnt w)) ++ watW Γ a2 b2 w2) := hD
  refine lv_aload_n hx hb dX5_copy_56 rfl (lv_at hl 0 rfl) ?_
  refine lv_aload_n hx hb dX5_copy_57 rfl (lv_at hl 1 rfl) ?_
  refine va_get (D := gD Γ) (cl := vwCl) (tys := gTy Γ) (ci := 5) (v := .int (wCnt w2)) (C := RX5) (T := TX5) (N := 5) hx hb hts iX5_copy_5 hown hK hP 5 rfl rfl 4 (Nat.le_of_ble_eq_true rfl) (hts (.fieldLink RX5 24 "DeadTimeLoop$Watches" "count" "I") (List.mem_of_getElem? (i := 9) rfl)) (fun _ h9 => h9) rfl dX5_copy_58 ?_
  refine va_put (D := gD Γ) (cl := vwCl) (tys := gTy Γ) (ci := 5) (v := .int (wCnt w2)) (ty := tyX5 4) (C := RX5) (T := TX5) (N := 5) hx hb hts iX5_copy_5 tyX5 tyX5_ok nmX5 hown hK hP hD hS 0 rfl rfl 4 (Nat.le_of_ble_eq_true rfl) (hts (.fieldLink RX5 24 "DeadTimeLoop$Watches" "count" "I") (List.mem_of_getElem? (i := 9) rfl)) (fun _ h9 => h9) rfl (tyX5_ok 4 (Nat.le_of_ble_eq_true rfl)) rfl rfl (Nat.le_of_ble_eq_true rfl) dX5_copy_61 (fun H locs hP hD hS => ?_)
  have hP : va_P (gD Γ) vwCl (watW Γ a b ((va_cpy (wSig w2) (wSig w) 0 0 4), (va_cpy (wLeast w2) (wLeast w) 0 0 4), (va_cpy (wGreat w2) (wGreat w) 0 0 4), (va_cpy (wGtick w2) (wGtick w) 0 0 4), (wCnt w2)) ++ watW Γ a2 b2 w2) H := hP
  have hD : va_D A (watW Γ a b ((va_cpy (wSig w2) (wSig w) 0 0 4), (va_cpy (wLeast w2) (wLeast w) 0 0 4), (va_cpy (wGreat w2) (wGreat w) 0 0 4), (va_cpy (wGtick w2) (wGtick w) 0 0 4), (wCnt w2)) ++ watW Γ a2 b2 w2) := hD
  exact re_v hQ ha hx hb hr hlk hAe hP hS dX5_copy_64 (by skip; first | rfl | simp [])
def rm_X5_placeOf : Room := { frames := 0, cells := 0, slots := 0, locals := 0 }
theorem iX5_placeOf_5 : ∀ w ∈ u_ws RX5 TX5 5, w ∈ wsX5_placeOf := fun w h => (List.mem_cons_of_mem _ (List.mem_append_right _ h))
set_option maxHeartbeats 4000000 in
set_option maxRecDepth 100000 in
theorem c_X5_placeOf (Γ : gT) (l : Launch) (a : Nat → Nat) (b : Nat) (w : Wat) (sg : Int32)  : Ci Γ l yX5_placeOf wsX5_placeOf rm_X5_placeOf [.ref (a b), .int sg] (watW Γ a b w) (fPlace (wCnt w) (wSig w) sg) (watW Γ a b w) := by
  refine Ci.of (cc := cX5_placeOf) (own := RX5) (nL := 3) (ret := (some .int)) (by decide +kernel) rfl rfl (Nat.le_of_ble_eq_true rfl) ?_
  intro p e s m args below meth c A Q H locs ls ha hAe hQ hx hb hml hr hts hown hlk hP hK hD hS hA hG hl
  have hh : Hd Γ p s m args c cX5_placeOf RX5 3 wsX5_placeOf A := ⟨⟨hx, hb, hml, hown, hts⟩, hK, hA, hG⟩
  have hl : lv_has ls 3 [(0, .ref (a b)), (1, .int sg)] := hl
  refine lv_iconst (v := 0) hx hb dX5_placeOf_0 (by decide) ?_
  refine lv_istore_n (lv' := [(2, .int 0), (0, .ref (a b)), (1, .int sg)]) hx hb dX5_placeOf_1 rfl hl (by decide) rfl (fun ls hl => ?_)
  have hJ_2 : ∀ n : Nat, ∀ (i : Nat) (x : Int32), (x = nI i) → (i ≤ 4) → (5 ≤ i + n) → (fPlaceN (wCnt w) (wSig w) sg n i = fPlace (wCnt w) (wSig w) sg) → ∀ (H : Heap) (locs : List Loc) (ls : Array Slot), va_P (gD Γ) vwCl (watW Γ a b w) H → va_D A (watW Γ a b w) → va_S A s.heap H locs → lv_has ls 3 [(0, .ref (a b)), (1, .int sg), (2, .int x)] → W p l e rm_X5_placeOf s m args below meth c H locs 0 0 Q (F0 m 2 ls []) := by
    intro n
    induction n with
    | zero =>
      intro i x ex hi hn hg
      omega
    | succ n ih =>
      intro i x ex hi hn hg H locs ls hP hD hS hl
      refine lv_iload_n hx hb dX5_placeOf_2 rfl (lv_at hl 2 rfl) ?_
      refine lv_aload_n hx hb dX5_placeOf_3 rfl (lv_at hl 0 rfl) ?_
      refine va_get (D := gD Γ) (cl := vwCl) (tys := gTy Γ) (ci := 5) (v := .int (wCnt w)) (C := RX5) (T := TX5) (N := 5) hx hb hts iX5_placeOf_5 hown hK hP 0 rfl rfl 4 (Nat.le_of_ble_eq_true rfl) (hts (.fieldLink RX5 24 "DeadTimeLoop$Watches" "count" "I") (List.mem_of_getElem? (i := 1) rfl)) (fun _ h9 => h9) rfl dX5_placeOf_4 ?_
      refine lv_icmp_ge (tgt := 33) hx hb dX5_placeOf_7 (by decide) (fun c_7 => ?_) (fun c_7 => ?_)
      · -- yes
        refine lv_iconst (v := (-1)) hx hb dX5_placeOf_33 (by decide) ?_
        exact re_i hQ ha hx hb hr hlk hAe hP hS dX5_placeOf_34 (by rw [← hg]; subst ex; simp [fPlaceN, c_7]) (by skip; first | rfl | simp [c_7])
      · -- no
        refine lv_iload_n hx hb dX5_placeOf_10 rfl (lv_at hl 2 rfl) ?_
        refine lv_iconst (v := 4) hx hb dX5_placeOf_11 (by decide) ?_
        refine lv_icmp_ge (tgt := 33) hx hb dX5_placeOf_12 (by decide) (fun c_12 => ?_) (fun c_12 => ?_)
        · -- yes
          refine lv_iconst (v := (-1)) hx hb dX5_placeOf_33 (by decide) ?_
          exact re_i hQ ha hx hb hr hlk hAe hP hS dX5_placeOf_34 (by rw [← hg]; subst ex; simp [fPlaceN, c_7, c_12]) (by skip; first | rfl | simp [c_7, c_12])
        · -- no
          refine lv_aload_n hx hb dX5_placeOf_15 rfl (lv_at hl 0 rfl) ?_
          refine va_get (D := gD Γ) (cl := vwCl) (tys := gTy Γ) (ci := 5) (v := .ref (a (b + 1))) (C := RX5) (T := TX5) (N := 5) hx hb hts iX5_placeOf_5 hown hK hP 0 rfl rfl 0 (Nat.le_of_ble_eq_true rfl) (hts (.fieldLink RX5 9 "DeadTimeLoop$Watches" "signals" "[I") (List.mem_of_getElem? (i := 2) rfl)) (fun _ h9 => h9) rfl dX5_placeOf_16 ?_
          refine lv_iload_n hx hb dX5_placeOf_19 rfl (lv_at hl 2 rfl) ?_
          refine ka_iald (D := gD Γ) (cl := vwCl) (tys := gTy Γ) hx hb hK hP 1 0 rfl rfl i ex (lt_of_nle (by rw [← ex]; exact c_12) (by omega) (by decide)) (by decide) (v := ((wSig w) i)) rfl dX5_placeOf_20 ?_
          refine lv_iload_n hx hb dX5_placeOf_21 rfl (lv_at hl 1 rfl) ?_
          refine lv_icmp_ne (tgt := 27) hx hb dX5_placeOf_22 (by decide) (fun c_22 => ?_) (fun c_22 => ?_)
          · -- yes
            refine lv_iinc (v := (x + 1)) (lv' := [(2, .int (x + 1)), (0, .ref (a b)), (1, .int sg)]) hx hb dX5_placeOf_27 hl (k := 2) rfl rfl (by decide) rfl (fun ls hl => ?_)
            refine lv_goto (tgt := 2) hx hb dX5_placeOf_30 (by decide) ?_
            exact ih (i + 1) (x + 1) (by rw [ex]; exact nI_1 i) (by have := lt_of_nle (k := 4) (by rw [← ex]; exact c_12) (by omega) (by decide); omega) (by omega) (by rw [← hg]; subst ex; simp [fPlaceN, c_7, c_12, c_22]) _ _ _ hP hD hS (lv_sub hl [1, 2, 0] rfl)
          · -- no
            refine lv_iload_n hx hb dX5_placeOf_25 rfl (lv_at hl 2 rfl) ?_
            exact re_i hQ ha hx hb hr hlk hAe hP hS dX5_placeOf_26 (by rw [← hg]; subst ex; simp [fPlaceN, c_7, c_12, c_22]) (by skip; first | rfl | simp [c_7, c_12, c_22])
  exact hJ_2 5 0 0 rfl (by omega) (by omega) rfl _ _ _ hP hD hS (lv_sub hl [1, 2, 0] rfl)
def rm_X5_add : Room := { frames := 1, cells := 0, slots := 0, locals := 22 }
theorem iX5_add_5 : ∀ w ∈ u_ws RX5 TX5 5, w ∈ wsX5_add := fun w h => (List.mem_cons_of_mem _ (List.mem_append_right _ h))
set_option maxHeartbeats 4000000 in
set_option maxRecDepth 100000 in
theorem c_X5_add (Γ : gT) (l : Launch) (a : Nat → Nat) (b : Nat) (w : Wat) (sg : Int32) (hc : ¬ wCnt w < 0) : Ci Γ l yX5_add wsX5_add rm_X5_add [.ref (a b), .int sg] (watW Γ a b w) (fAddR (wCnt w) (fPlace (wCnt w) (wSig w) sg)) (watW Γ a b (fAdd w sg)) := by
  refine Ci.of (cc := cX5_add) (own := RX5) (nL := 3) (ret := (some .boolean)) (by decide +kernel) rfl rfl (Nat.le_of_ble_eq_true rfl) ?_
  intro p e s m args below meth c A Q H locs ls ha hAe hQ hx hb hml hr hts hown hlk hP hK hD hS hA hG hl
  have hh : Hd Γ p s m args c cX5_add RX5 3 wsX5_add A := ⟨⟨hx, hb, hml, hown, hts⟩, hK, hA, hG⟩
  have hl : lv_has ls 3 [(0, .ref (a b)), (1, .int sg)] := hl
  refine lv_aload_n hx hb dX5_add_0 rfl (lv_at hl 0 rfl) ?_
  refine lv_iload_n hx hb dX5_add_1 rfl (lv_at hl 1 rfl) ?_
  refine ca_Vi hh hl.1 (c_X5_placeOf Γ l a b w sg) (cwV 1 hts gX5_add_X5_placeOf rfl rfl rfl (by decide +kernel) ⟨(Nat.le_of_ble_eq_true rfl), (Nat.le_of_ble_eq_true rfl)⟩) (As := [.int sg]) (rest := []) rfl dX5_add_2 rfl (Nat.le_of_ble_eq_true rfl) hP hD hS [0, 1, 2, 3, 4] rfl rfl (q0 := 0) (ci := 5) rfl rfl rfl rfl (wf := watW Γ a b w) rfl rfl ⟨Nat.zero_le _, Nat.zero_le _⟩ (fun H locs hP hD hS => ?_)
  refine lv_istore_n (lv' := [(2, .int (fPlace (wCnt w) (wSig w) sg)), (0, .ref (a b)), (1, .int sg)]) hx hb dX5_add_5 rfl hl (by decide) rfl (fun ls hl => ?_)
  refine lv_iload_n hx hb dX5_add_6 rfl (lv_at hl 0 rfl) ?_
  refine lv_iconst (v := (-1)) hx hb dX5_add_7 (by decide) ?_
  refine lv_icmp_ne (tgt := 36) hx hb dX5_add_8 (by decide) (fun c_8 => ?_) (fun c_8 => ?_)
  · -- yes
    refine lv_aload_n hx hb dX5_add_36 rfl (lv_at hl 1 rfl) ?_
    refine va_get (D := gD Γ) (cl := vwCl) (tys := gTy Γ) (ci := 5) (v := .ref (a (b + 1))) (C := RX5) (T := TX5) (N := 5) hx hb hts iX5_add_5 hown hK hP 0 rfl rfl 0 (Nat.le_of_ble_eq_true rfl) (hts (.fieldLink RX5 9 "DeadTimeLoop$Watches" "signals" "[I") (List.mem_of_getElem? (i := 2) rfl)) (fun _ h9 => h9) rfl dX5_add_37 ?_
    refine lv_iload_n hx hb dX5_add_40 rfl (lv_at hl 0 rfl) ?_
    refine lv_iload_n hx hb dX5_add_41 rfl (lv_at hl 2 rfl) ?_
    refine ka_iast (D := gD Γ) (cl := vwCl) (tys := gTy Γ) hx hb hK hP hD hS 1 0 rfl rfl ((fPlace (wCnt w) (wSig w) sg).toNatClampNeg) (nI_of_in (place_in c_8) (by decide)) (in_lt (place_in c_8)) (by decide) (wf := watW Γ a b ((upd (wSig w) ((fPlace (wCnt w) (wSig w) sg).toNatClampNeg) sg), (wLeast w), (wGreat w), (wGtick w), (wCnt w))) rfl dX5_add_42 (fun H locs hP hD hS => ?_)
    refine lv_aload_n hx hb dX5_add_43 rfl (lv_at hl 1 rfl) ?_
    refine va_get (D := gD Γ) (cl := vwCl) (tys := gTy Γ) (ci := 5) (v := .ref (a (b + 4))) (C := RX5) (T := TX5) (N := 5) hx hb hts iX5_add_5 hown hK hP 0 rfl rfl 3 (Nat.le_of_ble_eq_true rfl) (hts (.fieldLink RX5 21 "DeadTimeLoop$Watches" "greatestTick" "[I") (List.mem_of_getElem? (i := 3) rfl)) (fun _ h9 => h9) rfl dX5_add_44 ?_
    refine lv_iload_n hx hb dX5_add_47 rfl (lv_at hl 0 rfl) ?_
    refine lv_iconst (v := (-1)) hx hb dX5_add_48 (by decide) ?_
    refine ka_iast (D := gD Γ) (cl := vwCl) (tys := gTy Γ) hx hb hK hP hD hS 4 0 rfl rfl ((fPlace (wCnt w) (wSig w) sg).toNatClampNeg) (nI_of_in (place_in c_8) (by decide)) (in_lt (place_in c_8)) (by decide) (wf := watW Γ a b ((upd (wSig w) ((fPlace (wCnt w) (wSig w) sg).toNatClampNeg) sg), (wLeast w), (wGreat w), (upd (wGtick w) ((fPlace (wCnt w) (wSig w) sg).toNatClampNeg) (-1)), (wCnt w))) rfl dX5_add_49 (fun H locs hP hD hS => ?_)
    refine lv_iconst (v := 1) hx hb dX5_add_50 (by decide) ?_
    exact re_z hQ ha hx hb hr hlk hAe hP hS dX5_add_51 rfl (by skip; first | rfl | simp [fAdd, fAdd1, fAddR, wAddAt, c_8]) (by skip; first | rfl | simp [fAdd, fAdd1, fAddR, wAddAt, c_8])
  · -- no
    refine lv_aload_n hx hb dX5_add_11 rfl (lv_at hl 1 rfl) ?_
    refine va_get (D := gD Γ) (cl := vwCl) (tys := gTy Γ) (ci := 5) (v := .int (wCnt w)) (C := RX5) (T := TX5) (N := 5) hx hb hts iX5_add_5 hown hK hP 0 rfl rfl 4 (Nat.le_of_ble_eq_true rfl) (hts (.fieldLink RX5 24 "DeadTimeLoop$Watches" "count" "I") (List.mem_of_getElem? (i := 1) rfl)) (fun _ h9 => h9) rfl dX5_add_12 ?_
    refine lv_iconst (v := 4) hx hb dX5_add_15 (by decide) ?_
    refine lv_icmp_lt (tgt := 21) hx hb dX5_add_16 (by decide) (fun c_16 => ?_) (fun c_16 => ?_)
    · -- yes
      refine lv_aload_n hx hb dX5_add_21 rfl (lv_at hl 1 rfl) ?_
      refine va_get (D := gD Γ) (cl := vwCl) (tys := gTy Γ) (ci := 5) (v := .int (wCnt w)) (C := RX5) (T := TX5) (N := 5) hx hb hts iX5_add_5 hown hK hP 0 rfl rfl 4 (Nat.le_of_ble_eq_true rfl) (hts (.fieldLink RX5 24 "DeadTimeLoop$Watches" "count" "I") (List.mem_of_getElem? (i := 1) rfl)) (fun _ h9 => h9) rfl dX5_add_22 ?_
      refine lv_istore_n (lv' := [(2, .int (wCnt w)), (0, .ref (a b)), (1, .int sg)]) hx hb dX5_add_25 rfl hl (by decide) rfl (fun ls hl => ?_)
      refine lv_aload_n hx hb dX5_add_26 rfl (lv_at hl 1 rfl) ?_
      refine lv_dup hx hb dX5_add_27 rfl ?_
      refine va_get (D := gD Γ) (cl := vwCl) (tys := gTy Γ) (ci := 5) (v := .int (wCnt w)) (C := RX5) (T := TX5) (N := 5) hx hb hts iX5_add_5 hown hK hP 0 rfl rfl 4 (Nat.le_of_ble_eq_true rfl) (hts (.fieldLink RX5 24 "DeadTimeLoop$Watches" "count" "I") (List.mem_of_getElem? (i := 1) rfl)) (fun _ h9 => h9) rfl dX5_add_28 ?_
      refine lv_iconst (v := 1) hx hb dX5_add_31 (by decide) ?_
      refine lv_iadd hx hb dX5_add_32 ?_
      refine va_put (D := gD Γ) (cl := vwCl) (tys := gTy Γ) (ci := 5) (v := .int ((wCnt w) + 1)) (ty := tyX5 4) (C := RX5) (T := TX5) (N := 5) hx hb hts iX5_add_5 tyX5 tyX5_ok nmX5 hown hK hP hD hS 0 rfl rfl 4 (Nat.le_of_ble_eq_true rfl) (hts (.fieldLink RX5 24 "DeadTimeLoop$Watches" "count" "I") (List.mem_of_getElem? (i := 1) rfl)) (fun _ h9 => h9) rfl (tyX5_ok 4 (Nat.le_of_ble_eq_true rfl)) rfl rfl (Nat.le_of_ble_eq_true rfl) dX5_add_33 (fun H locs hP hD hS => ?_)
      have hP : va_P (gD Γ) vwCl (watW Γ a b ((wSig w), (wLeast w), (wGreat w), (wGtick w), ((wCnt w) + 1))) H := hP
      have hD : va_D A (watW Γ a b ((wSig w), (wLeast w), (wGreat w), (wGtick w), ((wCnt w) + 1))) := hD
      refine lv_aload_n hx hb dX5_add_36 rfl (lv_at hl 1 rfl) ?_
      refine va_get (D := gD Γ) (cl := vwCl) (tys := gTy Γ) (ci := 5) (v := .ref (a (b + 1))) (C := RX5) (T := TX5) (N := 5) hx hb hts iX5_add_5 hown hK hP 0 rfl rfl 0 (Nat.le_of_ble_eq_true rfl) (hts (.fieldLink RX5 9 "DeadTimeLoop$Watches" "signals" "[I") (List.mem_of_getElem? (i := 2) rfl)) (fun _ h9 => h9) rfl dX5_add_37 ?_
      refine lv_iload_n hx hb dX5_add_40 rfl (lv_at hl 0 rfl) ?_
      refine lv_iload_n hx hb dX5_add_41 rfl (lv_at hl 2 rfl) ?_
      refine ka_iast (D := gD Γ) (cl := vwCl) (tys := gTy Γ) hx hb hK hP hD hS 1 0 rfl rfl ((wCnt w).toNatClampNeg) (nI_of_in (in_lt4 hc c_16) (by decide)) (in_lt (in_lt4 hc c_16)) (by decide) (wf := watW Γ a b ((upd (wSig w) ((wCnt w).toNatClampNeg) sg), (wLeast w), (wGreat w), (wGtick w), ((wCnt w) + 1))) rfl dX5_add_42 (fun H locs hP hD hS => ?_)
      refine lv_aload_n hx hb dX5_add_43 rfl (lv_at hl 1 rfl) ?_
      refine va_get (D := gD Γ) (cl := vwCl) (tys := gTy Γ) (ci := 5) (v := .ref (a (b + 4))) (C := RX5) (T := TX5) (N := 5) hx hb hts iX5_add_5 hown hK hP 0 rfl rfl 3 (Nat.le_of_ble_eq_true rfl) (hts (.fieldLink RX5 21 "DeadTimeLoop$Watches" "greatestTick" "[I") (List.mem_of_getElem? (i := 3) rfl)) (fun _ h9 => h9) rfl dX5_add_44 ?_
      refine lv_iload_n hx hb dX5_add_47 rfl (lv_at hl 0 rfl) ?_
      refine lv_iconst (v := (-1)) hx hb dX5_add_48 (by decide) ?_
      refine ka_iast (D := gD Γ) (cl := vwCl) (tys := gTy Γ) hx hb hK hP hD hS 4 0 rfl rfl ((wCnt w).toNatClampNeg) (nI_of_in (in_lt4 hc c_16) (by decide)) (in_lt (in_lt4 hc c_16)) (by decide) (wf := watW Γ a b ((upd (wSig w) ((wCnt w).toNatClampNeg) sg), (wLeast w), (wGreat w), (upd (wGtick w) ((wCnt w).toNatClampNeg) (-1)), ((wCnt w) + 1))) rfl dX5_add_49 (fun H locs hP hD hS => ?_)
      refine lv_iconst (v := 1) hx hb dX5_add_50 (by decide) ?_
      exact re_z hQ ha hx hb hr hlk hAe hP hS dX5_add_51 rfl (by skip; first | rfl | simp [fAdd, fAdd1, fAddR, wAddAt, c_8, c_16]) (by skip; first | rfl | simp [fAdd, fAdd1, fAddR, wAddAt, c_8, c_16])
    · -- no
      refine lv_iconst (v := 0) hx hb dX5_add_19 (by decide) ?_
      exact re_z hQ ha hx hb hr hlk hAe hP hS dX5_add_20 rfl (by skip; first | rfl | simp [fAdd, fAdd1, fAddR, wAddAt, c_8, c_16]) (by skip; first | rfl | simp [fAdd, fAdd1, fAddR, wAddAt, c_8, c_16])
def rm_X5_remove : Room := { frames := 1, cells := 0, slots := 0, locals := 22 }
theorem iX5_remove_5 : ∀ w ∈ u_ws RX5 TX5 5, w ∈ wsX5_remove := fun w h => (List.mem_cons_of_mem _ (List.mem_append_right _ h))
set_option maxHeartbeats 4000000 in
set_option maxRecDepth 100000 in
theorem c_X5_remove (Γ : gT) (l : Launch) (a : Nat → Nat) (b : Nat) (w : Wat) (sg : Int32)  : Ci Γ l yX5_remove wsX5_remove rm_X5_remove [.ref (a b), .int sg] (watW Γ a b w) (fRemR (fPlace (wCnt w) (wSig w) sg)) (watW Γ a b (fRemove w sg)) := by
  refine Ci.of (cc := cX5_remove) (own := RX5) (nL := 4) (ret := (some .boolean)) (by decide +kernel) rfl rfl (Nat.le_of_ble_eq_true rfl) ?_
  intro p e s m args below meth c A Q H locs ls ha hAe hQ hx hb hml hr hts hown hlk hP hK hD hS hA hG hl
  have hh : Hd Γ p s m args c cX5_remove RX5 4 wsX5_remove A := ⟨⟨hx, hb, hml, hown, hts⟩, hK, hA, hG⟩
  have hl : lv_has ls 4 [(0, .ref (a b)), (1, .int sg)] := hl
  refine lv_aload_n hx hb dX5_remove_0 rfl (lv_at hl 0 rfl) ?_
  refine lv_iload_n hx hb dX5_remove_1 rfl (lv_at hl 1 rfl) ?_
  refine ca_Vi hh hl.1 (c_X5_placeOf Γ l a b w sg) (cwV 1 hts gX5_remove_X5_placeOf rfl rfl rfl (by decide +kernel) ⟨(Nat.le_of_ble_eq_true rfl), (Nat.le_of_ble_eq_true rfl)⟩) (As := [.int sg]) (rest := []) rfl dX5_remove_2 rfl (Nat.le_of_ble_eq_true rfl) hP hD hS [0, 1, 2, 3, 4] rfl rfl (q0 := 0) (ci := 5) rfl rfl rfl rfl (wf := watW Γ a b w) rfl rfl ⟨Nat.zero_le _, Nat.zero_le _⟩ (fun H locs hP hD hS => ?_)
  refine lv_istore_n (lv' := [(2, .int (fPlace (wCnt w) (wSig w) sg)), (0, .ref (a b)), (1, .int sg)]) hx hb dX5_remove_5 rfl hl (by decide) rfl (fun ls hl => ?_)
  refine lv_iload_n hx hb dX5_remove_6 rfl (lv_at hl 0 rfl) ?_
  refine lv_iconst (v := (-1)) hx hb dX5_remove_7 (by decide) ?_
  refine lv_icmp_ne (tgt := 13) hx hb dX5_remove_8 (by decide) (fun c_8 => ?_) (fun c_8 => ?_)
  · -- yes
    refine lv_iload_n hx hb dX5_remove_13 rfl (lv_at hl 0 rfl) ?_
    refine lv_iconst (v := 1) hx hb dX5_remove_14 (by decide) ?_
    refine lv_iadd hx hb dX5_remove_15 ?_
    refine lv_istore_n (lv' := [(3, .int ((fPlace (wCnt w) (wSig w) sg) + 1)), (2, .int (fPlace (wCnt w) (wSig w) sg)), (0, .ref (a b)), (1, .int sg)]) hx hb dX5_remove_16 rfl hl (by decide) rfl (fun ls hl => ?_)
    have hJ_17 : ∀ n : Nat, ∀ (i : Nat) (x : Int32) (w1 : Wat), (x = nI i) → (1 ≤ i) → (i ≤ 4) → (5 ≤ i + n) → (fShiftN n i w1 = fShiftN 5 ((fPlace (wCnt w) (wSig w) sg).toNatClampNeg + 1) w) → ∀ (H : Heap) (locs : List Loc) (ls : Array Slot), va_P (gD Γ) vwCl (watW Γ a b w1) H → va_D A (watW Γ a b w1) → va_S A s.heap H locs → lv_has ls 4 [(0, .ref (a b)), (1, .int sg), (2, .int (fPlace (wCnt w) (wSig w) sg)), (3, .int x)] → W p l e rm_X5_remove s m args below meth c H locs 0 0 Q (F0 m 17 ls []) := by
      intro n
      induction n with
      | zero =>
        intro i x w1 ex h1 hi hn hg
        omega
      | succ n ih =>
        intro i x w1 ex h1 hi hn hg H locs ls hP hD hS hl
        refine lv_iload_n hx hb dX5_remove_17 rfl (lv_at hl 3 rfl) ?_
        refine lv_aload_n hx hb dX5_remove_18 rfl (lv_at hl 0 rfl) ?_
        refine va_get (D := gD Γ) (cl := vwCl) (tys := gTy Γ) (ci := 5) (v := .int (wCnt w1)) (C := RX5) (T := TX5) (N := 5) hx hb hts iX5_remove_5 hown hK hP 0 rfl rfl 4 (Nat.le_of_ble_eq_true rfl) (hts (.fieldLink RX5 24 "DeadTimeLoop$Watches" "count" "I") (List.mem_of_getElem? (i := 1) rfl)) (fun _ h9 => h9) rfl dX5_remove_19 ?_
        refine lv_icmp_ge (tgt := 92) hx hb dX5_remove_22 (by decide) (fun c_22 => ?_) (fun c_22 => ?_)
        · -- yes
          refine lv_aload_n hx hb dX5_remove_92 rfl (lv_at hl 0 rfl) ?_
          refine lv_dup hx hb dX5_remove_93 rfl ?_
          refine va_get (D := gD Γ) (cl := vwCl) (tys := gTy Γ) (ci := 5) (v := .int (wCnt w1)) (C := RX5) (T := TX5) (N := 5) hx hb hts iX5_remove_5 hown hK hP 0 rfl rfl 4 (Nat.le_of_ble_eq_true rfl) (hts (.fieldLink RX5 24 "DeadTimeLoop$Watches" "count" "I") (List.mem_of_getElem? (i := 1) rfl)) (fun _ h9 => h9) rfl dX5_remove_94 ?_
          refine lv_iconst (v := 1) hx hb dX5_remove_97 (by decide) ?_
          refine lv_isub hx hb dX5_remove_98 ?_
          refine va_put (D := gD Γ) (cl := vwCl) (tys := gTy Γ) (ci := 5) (v := .int ((wCnt w1) - 1)) (ty := tyX5 4) (C := RX5) (T := TX5) (N := 5) hx hb hts iX5_remove_5 tyX5 tyX5_ok nmX5 hown hK hP hD hS 0 rfl rfl 4 (Nat.le_of_ble_eq_true rfl) (hts (.fieldLink RX5 24 "DeadTimeLoop$Watches" "count" "I") (List.mem_of_getElem? (i := 1) rfl)) (fun _ h9 => h9) rfl (tyX5_ok 4 (Nat.le_of_ble_eq_true rfl)) rfl rfl (Nat.le_of_ble_eq_true rfl) dX5_remove_99 (fun H locs hP hD hS => ?_)
          have hP : va_P (gD Γ) vwCl (watW Γ a b ((wSig w1), (wLeast w1), (wGreat w1), (wGtick w1), ((wCnt w1) - 1))) H := hP
          have hD : va_D A (watW Γ a b ((wSig w1), (wLeast w1), (wGreat w1), (wGtick w1), ((wCnt w1) - 1))) := hD
          refine lv_iconst (v := 1) hx hb dX5_remove_102 (by decide) ?_
          exact re_z hQ ha hx hb hr hlk hAe hP hS dX5_remove_103 rfl (by simp [fRemR, c_8]) (by subst ex; rw [show fRemove w sg = wDec (fShiftN 5 ((fPlace (wCnt w) (wSig w) sg).toNatClampNeg + 1) w) from by simp only [fRemove, fRemove1, if_neg c_8], ← hg, fShiftN_s]; simp only [c_8, c_22, if_true, if_false]; rfl)
        · -- no
          refine lv_iload_n hx hb dX5_remove_25 rfl (lv_at hl 3 rfl) ?_
          refine lv_iconst (v := 4) hx hb dX5_remove_26 (by decide) ?_
          refine lv_icmp_ge (tgt := 92) hx hb dX5_remove_27 (by decide) (fun c_27 => ?_) (fun c_27 => ?_)
          · -- yes
            refine lv_aload_n hx hb dX5_remove_92 rfl (lv_at hl 0 rfl) ?_
            refine lv_dup hx hb dX5_remove_93 rfl ?_
            refine va_get (D := gD Γ) (cl := vwCl) (tys := gTy Γ) (ci := 5) (v := .int (wCnt w1)) (C := RX5) (T := TX5) (N := 5) hx hb hts iX5_remove_5 hown hK hP 0 rfl rfl 4 (Nat.le_of_ble_eq_true rfl) (hts (.fieldLink RX5 24 "DeadTimeLoop$Watches" "count" "I") (List.mem_of_getElem? (i := 1) rfl)) (fun _ h9 => h9) rfl dX5_remove_94 ?_
            refine lv_iconst (v := 1) hx hb dX5_remove_97 (by decide) ?_
            refine lv_isub hx hb dX5_remove_98 ?_
            refine va_put (D := gD Γ) (cl := vwCl) (tys := gTy Γ) (ci := 5) (v := .int ((wCnt w1) - 1)) (ty := tyX5 4) (C := RX5) (T := TX5) (N := 5) hx hb hts iX5_remove_5 tyX5 tyX5_ok nmX5 hown hK hP hD hS 0 rfl rfl 4 (Nat.le_of_ble_eq_true rfl) (hts (.fieldLink RX5 24 "DeadTimeLoop$Watches" "count" "I") (List.mem_of_getElem? (i := 1) rfl)) (fun _ h9 => h9) rfl (tyX5_ok 4 (Nat.le_of_ble_eq_true rfl)) rfl rfl (Nat.le_of_ble_eq_true rfl) dX5_remove_99 (fun H locs hP hD hS => ?_)
            have hP : va_P (gD Γ) vwCl (watW Γ a b ((wSig w1), (wLeast w1), (wGreat w1), (wGtick w1), ((wCnt w1) - 1))) H := hP
            have hD : va_D A (watW Γ a b ((wSig w1), (wLeast w1), (wGreat w1), (wGtick w1), ((wCnt w1) - 1))) := hD
            refine lv_iconst (v := 1) hx hb dX5_remove_102 (by decide) ?_
            exact re_z hQ ha hx hb hr hlk hAe hP hS dX5_remove_103 rfl (by simp [fRemR, c_8]) (by subst ex; rw [show fRemove w sg = wDec (fShiftN 5 ((fPlace (wCnt w) (wSig w) sg).toNatClampNeg + 1) w) from by simp only [fRemove, fRemove1, if_neg c_8], ← hg, fShiftN_s]; simp only [c_8, c_22, c_27, if_true, if_false]; rfl)
          · -- no
            refine lv_aload_n hx hb dX5_remove_30 rfl (lv_at hl 0 rfl) ?_
            refine va_get (D := gD Γ) (cl := vwCl) (tys := gTy Γ) (ci := 5) (v := .ref (a (b + 1))) (C := RX5) (T := TX5) (N := 5) hx hb hts iX5_remove_5 hown hK hP 0 rfl rfl 0 (Nat.le_of_ble_eq_true rfl) (hts (.fieldLink RX5 9 "DeadTimeLoop$Watches" "signals" "[I") (List.mem_of_getElem? (i := 2) rfl)) (fun _ h9 => h9) rfl dX5_remove_31 ?_
            refine lv_iload_n hx hb dX5_remove_34 rfl (lv_at hl 3 rfl) ?_
            refine lv_iconst (v := 1) hx hb dX5_remove_35 (by decide) ?_
            refine lv_isub hx hb dX5_remove_36 ?_
            refine lv_aload_n hx hb dX5_remove_37 rfl (lv_at hl 0 rfl) ?_
            refine va_get (D := gD Γ) (cl := vwCl) (tys := gTy Γ) (ci := 5) (v := .ref (a (b + 1))) (C := RX5) (T := TX5) (N := 5) hx hb hts iX5_remove_5 hown hK hP 0 rfl rfl 0 (Nat.le_of_ble_eq_true rfl) (hts (.fieldLink RX5 9 "DeadTimeLoop$Watches" "signals" "[I") (List.mem_of_getElem? (i := 2) rfl)) (fun _ h9 => h9) rfl dX5_remove_38 ?_
            refine lv_iload_n hx hb dX5_remove_41 rfl (lv_at hl 3 rfl) ?_
            refine ka_iald (D := gD Γ) (cl := vwCl) (tys := gTy Γ) hx hb hK hP 1 0 rfl rfl i ex (lt_of_nle (by rw [← ex]; exact c_27) (by omega) (by decide)) (by decide) (v := ((wSig w1) i)) rfl dX5_remove_42 ?_
            refine ka_iast (D := gD Γ) (cl := vwCl) (tys := gTy Γ) hx hb hK hP hD hS 1 0 rfl rfl (i - 1) (by rw [ex]; exact nI_pm h1) (by omega) (by decide) (wf := watW Γ a b ((upd (wSig w1) (i - 1) ((wSig w1) i)), (wLeast w1), (wGreat w1), (wGtick w1), (wCnt w1))) rfl dX5_remove_43 (fun H locs hP hD hS => ?_)
            refine lv_aload_n hx hb dX5_remove_44 rfl (lv_at hl 0 rfl) ?_
            refine va_get (D := gD Γ) (cl := vwCl) (tys := gTy Γ) (ci := 5) (v := .ref (a (b + 2))) (C := RX5) (T := TX5) (N := 5) hx hb hts iX5_remove_5 hown hK hP 0 rfl rfl 1 (Nat.le_of_ble_eq_true rfl) (hts (.fieldLink RX5 15 "DeadTimeLoop$Watches" "least" "[I") (List.mem_of_getElem? (i := 3) rfl)) (fun _ h9 => h9) rfl dX5_remove_45 ?_
            refine lv_iload_n hx hb dX5_remove_48 rfl (lv_at hl 3 rfl) ?_
            refine lv_iconst (v := 1) hx hb dX5_remove_49 (by decide) ?_
            refine lv_isub hx hb dX5_remove_50 ?_
            refine lv_aload_n hx hb dX5_remove_51 rfl (lv_at hl 0 rfl) ?_
            refine va_get (D := gD Γ) (cl := vwCl) (tys := gTy Γ) (ci := 5) (v := .ref (a (b + 2))) (C := RX5) (T := TX5) (N := 5) hx hb hts iX5_remove_5 hown hK hP 0 rfl rfl 1 (Nat.le_of_ble_eq_true rfl) (hts (.fieldLink RX5 15 "DeadTimeLoop$Watches" "least" "[I") (List.mem_of_getElem? (i := 3) rfl)) (fun _ h9 => h9) rfl dX5_remove_52 ?_
            refine lv_iload_n hx hb dX5_remove_55 rfl (lv_at hl 3 rfl) ?_
            refine ka_iald (D := gD Γ) (cl := vwCl) (tys := gTy Γ) hx hb hK hP 2 0 rfl rfl i ex (lt_of_nle (by rw [← ex]; exact c_27) (by omega) (by decide)) (by decide) (v := ((wLeast w1) i)) rfl dX5_remove_56 ?_
            refine ka_iast (D := gD Γ) (cl := vwCl) (tys := gTy Γ) hx hb hK hP hD hS 2 0 rfl rfl (i - 1) (by rw [ex]; exact nI_pm h1) (by omega) (by decide) (wf := watW Γ a b ((upd (wSig w1) (i - 1) ((wSig w1) i)), (upd (wLeast w1) (i - 1) ((wLeast w1) i)), (wGreat w1), (wGtick w1), (wCnt w1))) rfl dX5_remove_57 (fun H locs hP hD hS => ?_)
            refine lv_aload_n hx hb dX5_remove_58 rfl (lv_at hl 0 rfl) ?_
            refine va_get (D := gD Γ) (cl := vwCl) (tys := gTy Γ) (ci := 5) (v := .ref (a (b + 3))) (C := RX5) (T := TX5) (N := 5) hx hb hts iX5_remove_5 hown hK hP 0 rfl rfl 2 (Nat.le_of_ble_eq_true rfl) (hts (.fieldLink RX5 18 "DeadTimeLoop$Watches" "greatest" "[I") (List.mem_of_getElem? (i := 4) rfl)) (fun _ h9 => h9) rfl dX5_remove_59 ?_
            refine lv_iload_n hx hb dX5_remove_62 rfl (lv_at hl 3 rfl) ?_
            refine lv_iconst (v := 1) hx hb dX5_remove_63 (by decide) ?_
            refine lv_isub hx hb dX5_remove_64 ?_
            refine lv_aload_n hx hb dX5_remove_65 rfl (lv_at hl 0 rfl) ?_
            refine va_get (D := gD Γ) (cl := vwCl) (tys := gTy Γ) (ci := 5) (v := .ref (a (b + 3))) (C := RX5) (T := TX5) (N := 5) hx hb hts iX5_remove_5 hown hK hP 0 rfl rfl 2 (Nat.le_of_ble_eq_true rfl) (hts (.fieldLink RX5 18 "DeadTimeLoop$Watches" "greatest" "[I") (List.mem_of_getElem? (i := 4) rfl)) (fun _ h9 => h9) rfl dX5_remove_66 ?_
            refine lv_iload_n hx hb dX5_remove_69 rfl (lv_at hl 3 rfl) ?_
            refine ka_iald (D := gD Γ) (cl := vwCl) (tys := gTy Γ) hx hb hK hP 3 0 rfl rfl i ex (lt_of_nle (by rw [← ex]; exact c_27) (by omega) (by decide)) (by decide) (v := ((wGreat w1) i)) rfl dX5_remove_70 ?_
            refine ka_iast (D := gD Γ) (cl := vwCl) (tys := gTy Γ) hx hb hK hP hD hS 3 0 rfl rfl (i - 1) (by rw [ex]; exact nI_pm h1) (by omega) (by decide) (wf := watW Γ a b ((upd (wSig w1) (i - 1) ((wSig w1) i)), (upd (wLeast w1) (i - 1) ((wLeast w1) i)), (upd (wGreat w1) (i - 1) ((wGreat w1) i)), (wGtick w1), (wCnt w1))) rfl dX5_remove_71 (fun H locs hP hD hS => ?_)
            refine lv_aload_n hx hb dX5_remove_72 rfl (lv_at hl 0 rfl) ?_
            refine va_get (D := gD Γ) (cl := vwCl) (tys := gTy Γ) (ci := 5) (v := .ref (a (b + 4))) (C := RX5) (T := TX5) (N := 5) hx hb hts iX5_remove_5 hown hK hP 0 rfl rfl 3 (Nat.le_of_ble_eq_true rfl) (hts (.fieldLink RX5 21 "DeadTimeLoop$Watches" "greatestTick" "[I") (List.mem_of_getElem? (i := 5) rfl)) (fun _ h9 => h9) rfl dX5_remove_73 ?_
            refine lv_iload_n hx hb dX5_remove_76 rfl (lv_at hl 3 rfl) ?_
            refine lv_iconst (v := 1) hx hb dX5_remove_77 (by decide) ?_
            refine lv_isub hx hb dX5_remove_78 ?_
            refine lv_aload_n hx hb dX5_remove_79 rfl (lv_at hl 0 rfl) ?_
            refine va_get (D := gD Γ) (cl := vwCl) (tys := gTy Γ) (ci := 5) (v := .ref (a (b + 4))) (C := RX5) (T := TX5) (N := 5) hx hb hts iX5_remove_5 hown hK hP 0 rfl rfl 3 (Nat.le_of_ble_eq_true rfl) (hts (.fieldLink RX5 21 "DeadTimeLoop$Watches" "greatestTick" "[I") (List.mem_of_getElem? (i := 5) rfl)) (fun _ h9 => h9) rfl dX5_remove_80 ?_
            refine lv_iload_n hx hb dX5_remove_83 rfl (lv_at hl 3 rfl) ?_
            refine ka_iald (D := gD Γ) (cl := vwCl) (tys := gTy Γ) hx hb hK hP 4 0 rfl rfl i ex (lt_of_nle (by rw [← ex]; exact c_27) (by omega) (by decide)) (by decide) (v := ((wGtick w1) i)) rfl dX5_remove_84 ?_
            refine ka_iast (D := gD Γ) (cl := vwCl) (tys := gTy Γ) hx hb hK hP hD hS 4 0 rfl rfl (i - 1) (by rw [ex]; exact nI_pm h1) (by omega) (by decide) (wf := watW Γ a b ((upd (wSig w1) (i - 1) ((wSig w1) i)), (upd (wLeast w1) (i - 1) ((wLeast w1) i)), (upd (wGreat w1) (i - 1) ((wGreat w1) i)), (upd (wGtick w1) (i - 1) ((wGtick w1) i)), (wCnt w1))) rfl dX5_remove_85 (fun H locs hP hD hS => ?_)
            refine lv_iinc (v := (x + 1)) (lv' := [(3, .int (x + 1)), (0, .ref (a b)), (1, .int sg), (2, .int (fPlace (wCnt w) (wSig w) sg))]) hx hb dX5_remove_86 hl (k := 3) rfl rfl (by decide) rfl (fun ls hl => ?_)
            refine lv_goto (tgt := 17) hx hb dX5_remove_89 (by decide) ?_
            exact ih (i + 1) _ ((upd (wSig w1) (i - 1) ((wSig w1) i)), (upd (wLeast w1) (i - 1) ((wLeast w1) i)), (upd (wGreat w1) (i - 1) ((wGreat w1) i)), (upd (wGtick w1) (i - 1) ((wGtick w1) i)), (wCnt w1)) (by rw [ex]; exact nI_1 i) (by omega) (by have := lt_of_nle (k := 4) (by rw [← ex]; exact c_27) (by omega) (by decide); omega) (by omega) (by rw [← hg]; subst ex; simp [fShiftN, fShift1, c_8, c_22, c_27]) _ _ _ hP hD hS (lv_sub hl [1, 2, 3, 0] rfl)
    exact hJ_17 5 ((fPlace (wCnt w) (wSig w) sg).toNatClampNeg + 1) _ w (by have e := nI_of_in (place_in c_8) (by decide); exact (congrArg (fun z : Int32 => z + 1) e).trans (nI_1 _)) (by omega) (by have := in_lt (place_in c_8); omega) (by omega) rfl _ _ _ hP hD hS (lv_sub hl [2, 3, 1, 0] rfl)
  · -- no
    refine lv_iconst (v := 0) hx hb dX5_remove_11 (by decide) ?_
    exact re_z hQ ha hx hb hr hlk hAe hP hS dX5_remove_12 rfl (by skip; first | rfl | simp [fRemove, fRemove1, fRemR, c_8]) (by skip; first | rfl | simp [fRemove, fRemove1, fRemR, c_8])
def rm_X5_hasSeen : Room := { frames := 0, cells := 0, slots := 0, locals := 0 }
theorem iX5_hasSeen_5 : ∀ w ∈ u_ws RX5 TX5 5, w ∈ wsX5_hasSeen := fun w h => (List.mem_cons_of_mem _ (List.mem_append_right _ h))
set_option maxHeartbeats 4000000 in
set_option maxRecDepth 100000 in
theorem c_X5_hasSeen (Γ : gT) (l : Launch) (a : Nat → Nat) (b : Nat) (w : Wat) (k : Int32)  : Ci Γ l yX5_hasSeen wsX5_hasSeen rm_X5_hasSeen [.ref (a b), .int k] (watW Γ a b w) (fSeen (wGtick w) k) (watW Γ a b w) := by
  refine Ci.of (cc := cX5_hasSeen) (own := RX5) (nL := 2) (ret := (some .boolean)) (by decide +kernel) rfl rfl (Nat.le_of_ble_eq_true rfl) ?_
  intro p e s m args below meth c A Q H locs ls ha hAe hQ hx hb hml hr hts hown hlk hP hK hD hS hA hG hl
  have hh : Hd Γ p s m args c cX5_hasSeen RX5 2 wsX5_hasSeen A := ⟨⟨hx, hb, hml, hown, hts⟩, hK, hA, hG⟩
  have hl : lv_has ls 2 [(0, .ref (a b)), (1, .int k)] := hl
  refine lv_iload_n hx hb dX5_hasSeen_0 rfl (lv_at hl 1 rfl) ?_
  refine lv_if_lt (tgt := 23) hx hb dX5_hasSeen_1 (by decide) (fun c_1 => ?_) (fun c_1 => ?_)
  · -- yes
    refine lv_iconst (v := 0) hx hb dX5_hasSeen_23 (by decide) ?_
    exact re_z hQ ha hx hb hr hlk hAe hP hS dX5_hasSeen_24 rfl (by skip; first | rfl | simp [fSeen, c_1]) (by skip; first | rfl | simp [fSeen, c_1])
  · -- no
    refine lv_iload_n hx hb dX5_hasSeen_4 rfl (lv_at hl 1 rfl) ?_
    refine lv_iconst (v := 4) hx hb dX5_hasSeen_5 (by decide) ?_
    refine lv_icmp_ge (tgt := 23) hx hb dX5_hasSeen_6 (by decide) (fun c_6 => ?_) (fun c_6 => ?_)
    · -- yes
      refine lv_iconst (v := 0) hx hb dX5_hasSeen_23 (by decide) ?_
      exact re_z hQ ha hx hb hr hlk hAe hP hS dX5_hasSeen_24 rfl (by skip; first | rfl | simp [fSeen, c_1, c_6]) (by skip; first | rfl | simp [fSeen, c_1, c_6])
    · -- no
      refine lv_aload_n hx hb dX5_hasSeen_9 rfl (lv_at hl 0 rfl) ?_
      refine va_get (D := gD Γ) (cl := vwCl) (tys := gTy Γ) (ci := 5) (v := .ref (a (b + 4))) (C := RX5) (T := TX5) (N := 5) hx hb hts iX5_hasSeen_5 hown hK hP 0 rfl rfl 3 (Nat.le_of_ble_eq_true rfl) (hts (.fieldLink RX5 21 "DeadTimeLoop$Watches" "greatestTick" "[I") (List.mem_of_getElem? (i := 1) rfl)) (fun _ h9 => h9) rfl dX5_hasSeen_10 ?_
      refine lv_iload_n hx hb dX5_hasSeen_13 rfl (lv_at hl 1 rfl) ?_
      refine ka_iald (D := gD Γ) (cl := vwCl) (tys := gTy Γ) hx hb hK hP 4 0 rfl rfl (k.toNatClampNeg) (nI_of_in (in_rng (n := 4) (by decide) c_1 c_6) (by decide)) (in_lt (in_rng (n := 4) (by decide) c_1 c_6)) (by decide) (v := ((wGtick w) k.toNatClampNeg)) rfl dX5_hasSeen_14 ?_
      refine lv_iconst (v := (-1)) hx hb dX5_hasSeen_15 (by decide) ?_
      refine lv_icmp_eq (tgt := 23) hx hb dX5_hasSeen_16 (by decide) (fun c_16 => ?_) (fun c_16 => ?_)
      · -- yes
        refine lv_iconst (v := 0) hx hb dX5_hasSeen_23 (by decide) ?_
        exact re_z hQ ha hx hb hr hlk hAe hP hS dX5_hasSeen_24 rfl (by skip; first | rfl | simp [fSeen, c_1, c_6, c_16]) (by skip; first | rfl | simp [fSeen, c_1, c_6, c_16])
      · -- no
        refine lv_iconst (v := 1) hx hb dX5_hasSeen_19 (by decide) ?_
        refine lv_goto (tgt := 24) hx hb dX5_hasSeen_20 (by decide) ?_
        exact re_z hQ ha hx hb hr hlk hAe hP hS dX5_hasSeen_24 rfl (by skip; first | rfl | simp [fSeen, c_1, c_6, c_16]) (by skip; first | rfl | simp [fSeen, c_1, c_6, c_16])
def rm_X5_get : Room := { frames := 0, cells := 0, slots := 0, locals := 0 }
theorem iX5_get_5 : ∀ w ∈ u_ws RX5 TX5 5, w ∈ wsX5_get := fun w h => (List.mem_cons_of_mem _ (List.mem_append_right _ h))
set_option maxHeartbeats 4000000 in
set_option maxRecDepth 100000 in
theorem c_X5_get (Γ : gT) (l : Launch) (a : Nat → Nat) (b : Nat) (w : Wat) (k : Int32) (what : Int32)  : Ci Γ l yX5_get wsX5_get rm_X5_get [.ref (a b), .int k, .int what] (watW Γ a b w) (fWget w k what) (watW Γ a b w) := by
  refine Ci.of (cc := cX5_get) (own := RX5) (nL := 3) (ret := (some .int)) (by decide +kernel) rfl rfl (Nat.le_of_ble_eq_true rfl) ?_
  intro p e s m args below meth c A Q H locs ls ha hAe hQ hx hb hml hr hts hown hlk hP hK hD hS hA hG hl
  have hh : Hd Γ p s m args c cX5_get RX5 3 wsX5_get A := ⟨⟨hx, hb, hml, hown, hts⟩, hK, hA, hG⟩
  have hl : lv_has ls 3 [(0, .ref (a b)), (1, .int k), (2, .int what)] := hl
  refine lv_iload_n hx hb dX5_get_0 rfl (lv_at hl 1 rfl) ?_
  refine lv_if_lt (tgt := 9) hx hb dX5_get_1 (by decide) (fun c_1 => ?_) (fun c_1 => ?_)
  · -- yes
    refine lv_ldc hx hb hown (hts (.constant RX5 38 (-2000000004)) (List.mem_of_getElem? (i := 1) rfl)) dX5_get_9 ?_
    exact re_i hQ ha hx hb hr hlk hAe hP hS dX5_get_11 (by skip; first | rfl | simp [fWget, c_1]) (by skip; first | rfl | simp [fWget, c_1])
  · -- no
    refine lv_iload_n hx hb dX5_get_4 rfl (lv_at hl 1 rfl) ?_
    refine lv_iconst (v := 4) hx hb dX5_get_5 (by decide) ?_
    refine lv_icmp_lt (tgt := 12) hx hb dX5_get_6 (by decide) (fun c_6 => ?_) (fun c_6 => ?_)
    · -- yes
      refine lv_iload_n hx hb dX5_get_12 rfl (lv_at hl 2 rfl) ?_
      refine lv_if_ne (tgt := 23) hx hb dX5_get_13 (by decide) (fun c_13 => ?_) (fun c_13 => ?_)
      · -- yes
        refine lv_iload_n hx hb dX5_get_23 rfl (lv_at hl 2 rfl) ?_
        refine lv_iconst (v := 1) hx hb dX5_get_24 (by decide) ?_
        refine lv_icmp_ne (tgt := 37) hx hb dX5_get_25 (by decide) (fun c_25 => ?_) (fun c_25 => ?_)
        · -- yes
          refine lv_aload_n hx hb dX5_get_37 rfl (lv_at hl 0 rfl) ?_
          refine va_get (D := gD Γ) (cl := vwCl) (tys := gTy Γ) (ci := 5) (v := .ref (a (b + 4))) (C := RX5) (T := TX5) (N := 5) hx hb hts iX5_get_5 hown hK hP 0 rfl rfl 3 (Nat.le_of_ble_eq_true rfl) (hts (.fieldLink RX5 21 "DeadTimeLoop$Watches" "greatestTick" "[I") (List.mem_of_getElem? (i := 4) rfl)) (fun _ h9 => h9) rfl dX5_get_38 ?_
          refine lv_iload_n hx hb dX5_get_41 rfl (lv_at hl 1 rfl) ?_
          refine ka_iald (D := gD Γ) (cl := vwCl) (tys := gTy Γ) hx hb hK hP 4 0 rfl rfl (k.toNatClampNeg) (nI_of_in (in_lt4 c_1 c_6) (by decide)) (in_lt (in_lt4 c_1 c_6)) (by decide) (v := ((wGtick w) k.toNatClampNeg)) rfl dX5_get_42 ?_
          exact re_i hQ ha hx hb hr hlk hAe hP hS dX5_get_43 (by skip; first | rfl | simp [fWget, c_1, c_6, c_13, c_25]) (by skip; first | rfl | simp [fWget, c_1, c_6, c_13, c_25])
        · -- no
          refine lv_aload_n hx hb dX5_get_28 rfl (lv_at hl 0 rfl) ?_
          refine va_get (D := gD Γ) (cl := vwCl) (tys := gTy Γ) (ci := 5) (v := .ref (a (b + 3))) (C := RX5) (T := TX5) (N := 5) hx hb hts iX5_get_5 hown hK hP 0 rfl rfl 2 (Nat.le_of_ble_eq_true rfl) (hts (.fieldLink RX5 18 "DeadTimeLoop$Watches" "greatest" "[I") (List.mem_of_getElem? (i := 3) rfl)) (fun _ h9 => h9) rfl dX5_get_29 ?_
          refine lv_iload_n hx hb dX5_get_32 rfl (lv_at hl 1 rfl) ?_
          refine ka_iald (D := gD Γ) (cl := vwCl) (tys := gTy Γ) hx hb hK hP 3 0 rfl rfl (k.toNatClampNeg) (nI_of_in (in_lt4 c_1 c_6) (by decide)) (in_lt (in_lt4 c_1 c_6)) (by decide) (v := ((wGreat w) k.toNatClampNeg)) rfl dX5_get_33 ?_
          refine lv_goto (tgt := 43) hx hb dX5_get_34 (by decide) ?_
          exact re_i hQ ha hx hb hr hlk hAe hP hS dX5_get_43 (by skip; first | rfl | simp [fWget, c_1, c_6, c_13, c_25]) (by skip; first | rfl | simp [fWget, c_1, c_6, c_13, c_25])
      · -- no
        refine lv_aload_n hx hb dX5_get_16 rfl (lv_at hl 0 rfl) ?_
        refine va_get (D := gD Γ) (cl := vwCl) (tys := gTy Γ) (ci := 5) (v := .ref (a (b + 2))) (C := RX5) (T := TX5) (N := 5) hx hb hts iX5_get_5 hown hK hP 0 rfl rfl 1 (Nat.le_of_ble_eq_true rfl) (hts (.fieldLink RX5 15 "DeadTimeLoop$Watches" "least" "[I") (List.mem_of_getElem? (i := 2) rfl)) (fun _ h9 => h9) rfl dX5_get_17 ?_
        refine lv_iload_n hx hb dX5_get_20 rfl (lv_at hl 1 rfl) ?_
        refine ka_iald (D := gD Γ) (cl := vwCl) (tys := gTy Γ) hx hb hK hP 2 0 rfl rfl (k.toNatClampNeg) (nI_of_in (in_lt4 c_1 c_6) (by decide)) (in_lt (in_lt4 c_1 c_6)) (by decide) (v := ((wLeast w) k.toNatClampNeg)) rfl dX5_get_21 ?_
        exact re_i hQ ha hx hb hr hlk hAe hP hS dX5_get_22 (by skip; first | rfl | simp [fWget, c_1, c_6, c_13]) (by skip; first | rfl | simp [fWget, c_1, c_6, c_13])
    · -- no
      refine lv_ldc hx hb hown (hts (.constant RX5 38 (-2000000004)) (List.mem_of_getElem? (i := 1) rfl)) dX5_get_9 ?_
      exact re_i hQ ha hx hb hr hlk hAe hP hS dX5_get_11 (by skip; first | rfl | simp [fWget, c_1, c_6]) (by skip; first | rfl | simp [fWget, c_1, c_6])
def rm_X5_seeOne : Room := { frames := 1, cells := 0, slots := 0, locals := 21 }
theorem iX5_seeOne_5 : ∀ w ∈ u_ws RX5 TX5 5, w ∈ wsX5_seeOne := fun w h => (List.mem_cons_of_mem _ (List.mem_append_right _ h))
set_option maxHeartbeats 4000000 in
set_option maxRecDepth 100000 in
theorem c_X5_seeOne (Γ : gT) (l : Launch) (a : Nat → Nat) (b : Nat) (w : Wat) (k : Int32) (v : Int32) (tick : Int32) (hk : vp_in k 4) : Cv Γ l yX5_seeOne wsX5_seeOne rm_X5_seeOne [.ref (a b), .int k, .int v, .int tick] (watW Γ a b w) (watW Γ a b (fSeeOne w k v tick)) := by
  refine Cv.of (cc := cX5_seeOne) (own := RX5) (nL := 5) (ret := none) (by decide +kernel) rfl rfl (Nat.le_of_ble_eq_true rfl) ?_
  intro p e s m args below meth c A Q H locs ls ha hAe hQ hx hb hml hr hts hown hlk hP hK hD hS hA hG hl
  have hh : Hd Γ p s m args c cX5_seeOne RX5 5 wsX5_seeOne A := ⟨⟨hx, hb, hml, hown, hts⟩, hK, hA, hG⟩
  have hl : lv_has ls 5 [(0, .ref (a b)), (1, .int k), (2, .int v), (3, .int tick)] := hl
  refine lv_aload_n hx hb dX5_seeOne_0 rfl (lv_at hl 0 rfl) ?_
  refine lv_iload_n hx hb dX5_seeOne_1 rfl (lv_at hl 1 rfl) ?_
  refine ca_Vi hh hl.1 (c_X5_hasSeen Γ l a b w k) (cwV 1 hts gX5_seeOne_X5_hasSeen rfl rfl rfl (by decide +kernel) ⟨(Nat.le_of_ble_eq_true rfl), (Nat.le_of_ble_eq_true rfl)⟩) (As := [.int k]) (rest := []) rfl dX5_seeOne_2 rfl (Nat.le_of_ble_eq_true rfl) hP hD hS [0, 1, 2, 3, 4] rfl rfl (q0 := 0) (ci := 5) rfl rfl rfl rfl (wf := watW Γ a b w) rfl rfl ⟨Nat.zero_le _, Nat.zero_le _⟩ (fun H locs hP hD hS => ?_)
  refine lv_if_ne (tgt := 12) hx hb dX5_seeOne_5 (by decide) (fun c_5 => ?_) (fun c_5 => ?_)
  · -- yes
    refine lv_iconst (v := 0) hx hb dX5_seeOne_12 (by decide) ?_
    refine lv_istore (lv' := [(4, .int 0), (0, .ref (a b)), (1, .int k), (2, .int v), (3, .int tick)]) hx hb dX5_seeOne_13 hl (by decide) rfl (fun ls hl => ?_)
    refine lv_iload hx hb dX5_seeOne_15 (lv_at hl 0 rfl) ?_
    refine lv_if_ne (tgt := 30) hx hb dX5_seeOne_17 (by decide) (fun c => (c (by decide)).elim) (fun _ => ?_)
    refine lv_iload_n hx hb dX5_seeOne_20 rfl (lv_at hl 3 rfl) ?_
    refine lv_aload_n hx hb dX5_seeOne_21 rfl (lv_at hl 1 rfl) ?_
    refine va_get (D := gD Γ) (cl := vwCl) (tys := gTy Γ) (ci := 5) (v := .ref (a (b + 2))) (C := RX5) (T := TX5) (N := 5) hx hb hts iX5_seeOne_5 hown hK hP 0 rfl rfl 1 (Nat.le_of_ble_eq_true rfl) (hts (.fieldLink RX5 15 "DeadTimeLoop$Watches" "least" "[I") (List.mem_of_getElem? (i := 1) rfl)) (fun _ h9 => h9) rfl dX5_seeOne_22 ?_
    refine lv_iload_n hx hb dX5_seeOne_25 rfl (lv_at hl 2 rfl) ?_
    refine ka_iald (D := gD Γ) (cl := vwCl) (tys := gTy Γ) hx hb hK hP 2 0 rfl rfl (k.toNatClampNeg) (nI_of_in hk (by decide)) (in_lt hk) (by decide) (v := ((wLeast w) k.toNatClampNeg)) rfl dX5_seeOne_26 ?_
    refine lv_icmp_ge (tgt := 37) hx hb dX5_seeOne_27 (by decide) (fun c_27 => ?_) (fun c_27 => ?_)
    · -- yes
      refine lv_iload hx hb dX5_seeOne_37 (lv_at hl 0 rfl) ?_
      refine lv_if_ne (tgt := 52) hx hb dX5_seeOne_39 (by decide) (fun c => (c (by decide)).elim) (fun _ => ?_)
      refine lv_iload_n hx hb dX5_seeOne_42 rfl (lv_at hl 3 rfl) ?_
      refine lv_aload_n hx hb dX5_seeOne_43 rfl (lv_at hl 1 rfl) ?_
      refine va_get (D := gD Γ) (cl := vwCl) (tys := gTy Γ) (ci := 5) (v := .ref (a (b + 3))) (C := RX5) (T := TX5) (N := 5) hx hb hts iX5_seeOne_5 hown hK hP 0 rfl rfl 2 (Nat.le_of_ble_eq_true rfl) (hts (.fieldLink RX5 18 "DeadTimeLoop$Watches" "greatest" "[I") (List.mem_of_getElem? (i := 2) rfl)) (fun _ h9 => h9) rfl dX5_seeOne_44 ?_
      refine lv_iload_n hx hb dX5_seeOne_47 rfl (lv_at hl 2 rfl) ?_
      refine ka_iald (D := gD Γ) (cl := vwCl) (tys := gTy Γ) hx hb hK hP 3 0 rfl rfl (k.toNatClampNeg) (nI_of_in hk (by decide)) (in_lt hk) (by decide) (v := ((wGreat w) k.toNatClampNeg)) rfl dX5_seeOne_48 ?_
      refine lv_icmp_le (tgt := 66) hx hb dX5_seeOne_49 (by decide) (fun c_49 => ?_) (fun c_49 => ?_)
      · -- yes
        exact re_v hQ ha hx hb hr hlk hAe hP hS dX5_seeOne_66 (by skip; first | rfl | simp [fSeeOne, fSeeOne1, fFirst, fSeeLo, fSeeHi, fSeeGt, c_5, c_27, c_49])
      · -- no
        refine lv_aload_n hx hb dX5_seeOne_52 rfl (lv_at hl 1 rfl) ?_
        refine va_get (D := gD Γ) (cl := vwCl) (tys := gTy Γ) (ci := 5) (v := .ref (a (b + 3))) (C := RX5) (T := TX5) (N := 5) hx hb hts iX5_seeOne_5 hown hK hP 0 rfl rfl 2 (Nat.le_of_ble_eq_true rfl) (hts (.fieldLink RX5 18 "DeadTimeLoop$Watches" "greatest" "[I") (List.mem_of_getElem? (i := 2) rfl)) (fun _ h9 => h9) rfl dX5_seeOne_53 ?_
        refine lv_iload_n hx hb dX5_seeOne_56 rfl (lv_at hl 2 rfl) ?_
        refine lv_iload_n hx hb dX5_seeOne_57 rfl (lv_at hl 3 rfl) ?_
        refine ka_iast (D := gD Γ) (cl := vwCl) (tys := gTy Γ) hx hb hK hP hD hS 3 0 rfl rfl (k.toNatClampNeg) (nI_of_in hk (by decide)) (in_lt hk) (by decide) (wf := watW Γ a b ((wSig w), (wLeast w), (upd (wGreat w) k.toNatClampNeg v), (wGtick w), (wCnt w))) rfl dX5_seeOne_58 (fun H locs hP hD hS => ?_)
        refine lv_aload_n hx hb dX5_seeOne_59 rfl (lv_at hl 1 rfl) ?_
        refine va_get (D := gD Γ) (cl := vwCl) (tys := gTy Γ) (ci := 5) (v := .ref (a (b + 4))) (C := RX5) (T := TX5) (N := 5) hx hb hts iX5_seeOne_5 hown hK hP 0 rfl rfl 3 (Nat.le_of_ble_eq_true rfl) (hts (.fieldLink RX5 21 "DeadTimeLoop$Watches" "greatestTick" "[I") (List.mem_of_getElem? (i := 3) rfl)) (fun _ h9 => h9) rfl dX5_seeOne_60 ?_
        refine lv_iload_n hx hb dX5_seeOne_63 rfl (lv_at hl 2 rfl) ?_
        refine lv_iload_n hx hb dX5_seeOne_64 rfl (lv_at hl 4 rfl) ?_
        refine ka_iast (D := gD Γ) (cl := vwCl) (tys := gTy Γ) hx hb hK hP hD hS 4 0 rfl rfl (k.toNatClampNeg) (nI_of_in hk (by decide)) (in_lt hk) (by decide) (wf := watW Γ a b ((wSig w), (wLeast w), (upd (wGreat w) k.toNatClampNeg v), (upd (wGtick w) k.toNatClampNeg tick), (wCnt w))) rfl dX5_seeOne_65 (fun H locs hP hD hS => ?_)
        exact re_v hQ ha hx hb hr hlk hAe hP hS dX5_seeOne_66 (by skip; first | rfl | simp [fSeeOne, fSeeOne1, fFirst, fSeeLo, fSeeHi, fSeeGt, c_5, c_27, c_49])
    · -- no
      refine lv_aload_n hx hb dX5_seeOne_30 rfl (lv_at hl 1 rfl) ?_
      refine va_get (D := gD Γ) (cl := vwCl) (tys := gTy Γ) (ci := 5) (v := .ref (a (b + 2))) (C := RX5) (T := TX5) (N := 5) hx hb hts iX5_seeOne_5 hown hK hP 0 rfl rfl 1 (Nat.le_of_ble_eq_true rfl) (hts (.fieldLink RX5 15 "DeadTimeLoop$Watches" "least" "[I") (List.mem_of_getElem? (i := 1) rfl)) (fun _ h9 => h9) rfl dX5_seeOne_31 ?_
      refine lv_iload_n hx hb dX5_seeOne_34 rfl (lv_at hl 2 rfl) ?_
      refine lv_iload_n hx hb dX5_seeOne_35 rfl (lv_at hl 3 rfl) ?_
      refine ka_iast (D := gD Γ) (cl := vwCl) (tys := gTy Γ) hx hb hK hP hD hS 2 0 rfl rfl (k.toNatClampNeg) (nI_of_in hk (by decide)) (in_lt hk) (by decide) (wf := watW Γ a b ((wSig w), (upd (wLeast w) k.toNatClampNeg v), (wGreat w), (wGtick w), (wCnt w))) rfl dX5_seeOne_36 (fun H locs hP hD hS => ?_)
      refine lv_iload hx hb dX5_seeOne_37 (lv_at hl 0 rfl) ?_
      refine lv_if_ne (tgt := 52) hx hb dX5_seeOne_39 (by decide) (fun c => (c (by decide)).elim) (fun _ => ?_)
      refine lv_iload_n hx hb dX5_seeOne_42 rfl (lv_at hl 3 rfl) ?_
      refine lv_aload_n hx hb dX5_seeOne_43 rfl (lv_at hl 1 rfl) ?_
      refine va_get (D := gD Γ) (cl := vwCl) (tys := gTy Γ) (ci := 5) (v := .ref (a (b + 3))) (C := RX5) (T := TX5) (N := 5) hx hb hts iX5_seeOne_5 hown hK hP 0 rfl rfl 2 (Nat.le_of_ble_eq_true rfl) (hts (.fieldLink RX5 18 "DeadTimeLoop$Watches" "greatest" "[I") (List.mem_of_getElem? (i := 2) rfl)) (fun _ h9 => h9) rfl dX5_seeOne_44 ?_
      refine lv_iload_n hx hb dX5_seeOne_47 rfl (lv_at hl 2 rfl) ?_
      refine ka_iald (D := gD Γ) (cl := vwCl) (tys := gTy Γ) hx hb hK hP 3 0 rfl rfl (k.toNatClampNeg) (nI_of_in hk (by decide)) (in_lt hk) (by decide) (v := ((wGreat w) k.toNatClampNeg)) rfl dX5_seeOne_48 ?_
      refine lv_icmp_le (tgt := 66) hx hb dX5_seeOne_49 (by decide) (fun c_49b => ?_) (fun c_49b => ?_)
      · -- yes
        exact re_v hQ ha hx hb hr hlk hAe hP hS dX5_seeOne_66 (by skip; first | rfl | simp [fSeeOne, fSeeOne1, fFirst, fSeeLo, fSeeHi, fSeeGt, c_5, c_27, c_49b])
      · -- no
        refine lv_aload_n hx hb dX5_seeOne_52 rfl (lv_at hl 1 rfl) ?_
        refine va_get (D := gD Γ) (cl := vwCl) (tys := gTy Γ) (ci := 5) (v := .ref (a (b + 3))) (C := RX5) (T := TX5) (N := 5) hx hb hts iX5_seeOne_5 hown hK hP 0 rfl rfl 2 (Nat.le_of_ble_eq_true rfl) (hts (.fieldLink RX5 18 "DeadTimeLoop$Watches" "greatest" "[I") (List.mem_of_getElem? (i := 2) rfl)) (fun _ h9 => h9) rfl dX5_seeOne_53 ?_
        refine lv_iload_n hx hb dX5_seeOne_56 rfl (lv_at hl 2 rfl) ?_
        refine lv_iload_n hx hb dX5_seeOne_57 rfl (lv_at hl 3 rfl) ?_
        refine ka_iast (D := gD Γ) (cl := vwCl) (tys := gTy Γ) hx hb hK hP hD hS 3 0 rfl rfl (k.toNatClampNeg) (nI_of_in hk (by decide)) (in_lt hk) (by decide) (wf := watW Γ a b ((wSig w), (upd (wLeast w) k.toNatClampNeg v), (upd (wGreat w) k.toNatClampNeg v), (wGtick w), (wCnt w))) rfl dX5_seeOne_58 (fun H locs hP hD hS => ?_)
        refine lv_aload_n hx hb dX5_seeOne_59 rfl (lv_at hl 1 rfl) ?_
        refine va_get (D := gD Γ) (cl := vwCl) (tys := gTy Γ) (ci := 5) (v := .ref (a (b + 4))) (C := RX5) (T := TX5) (N := 5) hx hb hts iX5_seeOne_5 hown hK hP 0 rfl rfl 3 (Nat.le_of_ble_eq_true rfl) (hts (.fieldLink RX5 21 "DeadTimeLoop$Watches" "greatestTick" "[I") (List.mem_of_getElem? (i := 3) rfl)) (fun _ h9 => h9) rfl dX5_seeOne_60 ?_
        refine lv_iload_n hx hb dX5_seeOne_63 rfl (lv_at hl 2 rfl) ?_
        refine lv_iload_n hx hb dX5_seeOne_64 rfl (lv_at hl 4 rfl) ?_
        refine ka_iast (D := gD Γ) (cl := vwCl) (tys := gTy Γ) hx hb hK hP hD hS 4 0 rfl rfl (k.toNatClampNeg) (nI_of_in hk (by decide)) (in_lt hk) (by decide) (wf := watW Γ a b ((wSig w), (upd (wLeast w) k.toNatClampNeg v), (upd (wGreat w) k.toNatClampNeg v), (upd (wGtick w) k.toNatClampNeg tick), (wCnt w))) rfl dX5_seeOne_65 (fun H locs hP hD hS => ?_)
        exact re_v hQ ha hx hb hr hlk hAe hP hS dX5_seeOne_66 (by skip; first | rfl | simp [fSeeOne, fSeeOne1, fFirst, fSeeLo, fSeeHi, fSeeGt, c_5, c_27, c_49b])
  · -- no
    refine lv_iconst (v := 1) hx hb dX5_seeOne_8 (by decide) ?_
    refine lv_goto (tgt := 13) hx hb dX5_seeOne_9 (by decide) ?_
    refine lv_istore (lv' := [(4, .int 1), (0, .ref (a b)), (1, .int k), (2, .int v), (3, .int tick)]) hx hb dX5_seeOne_13 hl (by decide) rfl (fun ls hl => ?_)
    refine lv_iload hx hb dX5_seeOne_15 (lv_at hl 0 rfl) ?_
    refine lv_if_ne (tgt := 30) hx hb dX5_seeOne_17 (by decide) (fun _ => ?_) (fun c => absurd c (by decide))
    refine lv_aload_n hx hb dX5_seeOne_30 rfl (lv_at hl 1 rfl) ?_
    refine va_get (D := gD Γ) (cl := vwCl) (tys := gTy Γ) (ci := 5) (v := .ref (a (b + 2))) (C := RX5) (T := TX5) (N := 5) hx hb hts iX5_seeOne_5 hown hK hP 0 rfl rfl 1 (Nat.le_of_ble_eq_true rfl) (hts (.fieldLink RX5 15 "DeadTimeLoop$Watches" "least" "[I") (List.mem_of_getElem? (i := 1) rfl)) (fun _ h9 => h9) rfl dX5_seeOne_31 ?_
    refine lv_iload_n hx hb dX5_seeOne_34 rfl (lv_at hl 2 rfl) ?_
    refine lv_iload_n hx hb dX5_seeOne_35 rfl (lv_at hl 3 rfl) ?_
    refine ka_iast (D := gD Γ) (cl := vwCl) (tys := gTy Γ) hx hb hK hP hD hS 2 0 rfl rfl (k.toNatClampNeg) (nI_of_in hk (by decide)) (in_lt hk) (by decide) (wf := watW Γ a b ((wSig w), (upd (wLeast w) k.toNatClampNeg v), (wGreat w), (wGtick w), (wCnt w))) rfl dX5_seeOne_36 (fun H locs hP hD hS => ?_)
    refine lv_iload hx hb dX5_seeOne_37 (lv_at hl 0 rfl) ?_
    refine lv_if_ne (tgt := 52) hx hb dX5_seeOne_39 (by decide) (fun _ => ?_) (fun c => absurd c (by decide))
    refine lv_aload_n hx hb dX5_seeOne_52 rfl (lv_at hl 1 rfl) ?_
    refine va_get (D := gD Γ) (cl := vwCl) (tys := gTy Γ) (ci := 5) (v := .ref (a (b + 3))) (C := RX5) (T := TX5) (N := 5) hx hb hts iX5_seeOne_5 hown hK hP 0 rfl rfl 2 (Nat.le_of_ble_eq_true rfl) (hts (.fieldLink RX5 18 "DeadTimeLoop$Watches" "greatest" "[I") (List.mem_of_getElem? (i := 2) rfl)) (fun _ h9 => h9) rfl dX5_seeOne_53 ?_
    refine lv_iload_n hx hb dX5_seeOne_56 rfl (lv_at hl 2 rfl) ?_
    refine lv_iload_n hx hb dX5_seeOne_57 rfl (lv_at hl 3 rfl) ?_
    refine ka_iast (D := gD Γ) (cl := vwCl) (tys := gTy Γ) hx hb hK hP hD hS 3 0 rfl rfl (k.toNatClampNeg) (nI_of_in hk (by decide)) (in_lt hk) (by decide) (wf := watW Γ a b ((wSig w), (upd (wLeast w) k.toNatClampNeg v), (upd (wGreat w) k.toNatClampNeg v), (wGtick w), (wCnt w))) rfl dX5_seeOne_58 (fun H locs hP hD hS => ?_)
    refine lv_aload_n hx hb dX5_seeOne_59 rfl (lv_at hl 1 rfl) ?_
    refine va_get (D := gD Γ) (cl := vwCl) (tys := gTy Γ) (ci := 5) (v := .ref (a (b + 4))) (C := RX5) (T := TX5) (N := 5) hx hb hts iX5_seeOne_5 hown hK hP 0 rfl rfl 3 (Nat.le_of_ble_eq_true rfl) (hts (.fieldLink RX5 21 "DeadTimeLoop$Watches" "greatestTick" "[I") (List.mem_of_getElem? (i := 3) rfl)) (fun _ h9 => h9) rfl dX5_seeOne_60 ?_
    refine lv_iload_n hx hb dX5_seeOne_63 rfl (lv_at hl 2 rfl) ?_
    refine lv_iload_n hx hb dX5_seeOne_64 rfl (lv_at hl 4 rfl) ?_
    refine ka_iast (D := gD Γ) (cl := vwCl) (tys := gTy Γ) hx hb hK hP hD hS 4 0 rfl rfl (k.toNatClampNeg) (nI_of_in hk (by decide)) (in_lt hk) (by decide) (wf := watW Γ a b ((wSig w), (upd (wLeast w) k.toNatClampNeg v), (upd (wGreat w) k.toNatClampNeg v), (upd (wGtick w) k.toNatClampNeg tick), (wCnt w))) rfl dX5_seeOne_65 (fun H locs hP hD hS => ?_)
    exact re_v hQ ha hx hb hr hlk hAe hP hS dX5_seeOne_66 (by skip; first | rfl | simp [fSeeOne, fSeeOne1, fFirst, fSeeLo, fSeeHi, fSeeGt, c_5])
def rm_X5_see : Room := { frames := 2, cells := 0, slots := 0, locals := 45 }
theorem iX5_see_5 : ∀ w ∈ u_ws RX5 TX5 5, w ∈ wsX5_see := fun w h => (List.mem_cons_of_mem _ (List.mem_append_right _ h))
set_option maxHeartbeats 4000000 in
set_option maxRecDepth 100000 in
theorem c_X5_see (Γ : gT) (l : Launch) (a : Nat → Nat) (b : Nat) (a2 : Nat → Nat) (b2 : Nat) (w : Wat) (pv : Nat → Int32) (tick : Int32)  : Cv Γ l yX5_see wsX5_see rm_X5_see [.ref (a b), .ref (a2 b2), .int tick] (watW Γ a b w ++ arrP Γ a2 b2 pv) (watW Γ a b (fWsee w pv tick) ++ arrP Γ a2 b2 pv) := by
  refine Cv.of (cc := cX5_see) (own := RX5) (nL := 5) (ret := none) (by decide +kernel) rfl rfl (Nat.le_of_ble_eq_true rfl) ?_
  intro p e s m args below meth c A Q H locs ls ha hAe hQ hx hb hml hr hts hown hlk hP hK hD hS hA hG hl
  have hh : Hd Γ p s m args c cX5_see RX5 5 wsX5_see A := ⟨⟨hx, hb, hml, hown, hts⟩, hK, hA, hG⟩
  have hl : lv_has ls 5 [(0, .ref (a b)), (1, .ref (a2 b2)), (2, .int tick)] := hl
  refine lv_iconst (v := 0) hx hb dX5_see_0 (by decide) ?_
  refine lv_istore_n (lv' := [(3, .int 0), (0, .ref (a b)), (1, .ref (a2 b2)), (2, .int tick)]) hx hb dX5_see_1 rfl hl (by decide) rfl (fun ls hl => ?_)
  have hJ_2 : ∀ n : Nat, ∀ (i : Nat) (x : Int32) (w1 : Wat), (x = nI i) → (i ≤ 4) → (5 ≤ i + n) → (fWseeN pv tick n i w1 = fWsee w pv tick) → ∀ (H : Heap) (locs : List Loc) (ls : Array Slot), va_P (gD Γ) vwCl (watW Γ a b w1 ++ arrP Γ a2 b2 pv) H → va_D A (watW Γ a b w1 ++ arrP Γ a2 b2 pv) → va_S A s.heap H locs → lv_has ls 5 [(0, .ref (a b)), (1, .ref (a2 b2)), (2, .int tick), (3, .int x)] → W p l e rm_X5_see s m args below meth c H locs 0 0 Q (F0 m 2 ls []) := by
    intro n
    induction n with
    | zero =>
      intro i x w1 ex hi hn hg
      omega
    | succ n ih =>
      intro i x w1 ex hi hn hg H locs ls hP hD hS hl
      refine lv_iload_n hx hb dX5_see_2 rfl (lv_at hl 3 rfl) ?_
      refine lv_aload_n hx hb dX5_see_3 rfl (lv_at hl 0 rfl) ?_
      refine va_get (D := gD Γ) (cl := vwCl) (tys := gTy Γ) (ci := 5) (v := .int (wCnt w1)) (C := RX5) (T := TX5) (N := 5) hx hb hts iX5_see_5 hown hK hP 0 rfl rfl 4 (Nat.le_of_ble_eq_true rfl) (hts (.fieldLink RX5 24 "DeadTimeLoop$Watches" "count" "I") (List.mem_of_getElem? (i := 1) rfl)) (fun _ h9 => h9) rfl dX5_see_4 ?_
      refine lv_icmp_ge (tgt := 51) hx hb dX5_see_7 (by decide) (fun c_7 => ?_) (fun c_7 => ?_)
      · -- yes
        exact re_v hQ ha hx hb hr hlk hAe hP hS dX5_see_51 (by subst ex; rw [← hg]; simp [fWseeN, c_7])
      · -- no
        refine lv_iload_n hx hb dX5_see_10 rfl (lv_at hl 3 rfl) ?_
        refine lv_iconst (v := 4) hx hb dX5_see_11 (by decide) ?_
        refine lv_icmp_ge (tgt := 51) hx hb dX5_see_12 (by decide) (fun c_12 => ?_) (fun c_12 => ?_)
        · -- yes
          exact re_v hQ ha hx hb hr hlk hAe hP hS dX5_see_51 (by subst ex; rw [← hg]; simp [fWseeN, c_7, c_12])
        · -- no
          refine lv_aload_n hx hb dX5_see_15 rfl (lv_at hl 0 rfl) ?_
          refine va_get (D := gD Γ) (cl := vwCl) (tys := gTy Γ) (ci := 5) (v := .ref (a (b + 1))) (C := RX5) (T := TX5) (N := 5) hx hb hts iX5_see_5 hown hK hP 0 rfl rfl 0 (Nat.le_of_ble_eq_true rfl) (hts (.fieldLink RX5 9 "DeadTimeLoop$Watches" "signals" "[I") (List.mem_of_getElem? (i := 2) rfl)) (fun _ h9 => h9) rfl dX5_see_16 ?_
          refine lv_iload_n hx hb dX5_see_19 rfl (lv_at hl 3 rfl) ?_
          refine ka_iald (D := gD Γ) (cl := vwCl) (tys := gTy Γ) hx hb hK hP 1 0 rfl rfl i ex (lt_of_nle (by rw [← ex]; exact c_12) (by omega) (by decide)) (by decide) (v := ((wSig w1) i)) rfl dX5_see_20 ?_
          refine lv_istore (lv' := [(4, .int ((wSig w1) i)), (0, .ref (a b)), (1, .ref (a2 b2)), (2, .int tick), (3, .int x)]) hx hb dX5_see_21 hl (by decide) rfl (fun ls hl => ?_)
          refine lv_iload hx hb dX5_see_23 (lv_at hl 0 rfl) ?_
          refine lv_if_lt (tgt := 45) hx hb dX5_see_25 (by decide) (fun c_25 => ?_) (fun c_25 => ?_)
          · -- yes
            refine lv_iinc (v := (x + 1)) (lv' := [(3, .int (x + 1)), (4, .int ((wSig w1) i)), (0, .ref (a b)), (1, .ref (a2 b2)), (2, .int tick)]) hx hb dX5_see_45 hl (k := 4) rfl rfl (by decide) rfl (fun ls hl => ?_)
            refine lv_goto (tgt := 2) hx hb dX5_see_48 (by decide) ?_
            exact ih (i + 1) _ w1 (by rw [ex]; exact nI_1 i) (by have := lt_of_nle (k := 4) (by rw [← ex]; exact c_12) (by omega) (by decide); omega) (by omega) (by skip; rw [← hg]; subst ex; simp [fWseeN, fWsee1, c_7, c_12, c_25]) _ _ _ hP hD hS (lv_sub hl [2, 3, 4, 0] rfl)
          · -- no
            refine lv_iload hx hb dX5_see_28 (lv_at hl 0 rfl) ?_
            refine lv_aload_n hx hb dX5_see_30 rfl (lv_at hl 2 rfl) ?_
            refine va_alen (D := gD Γ) (cl := vwCl) (tys := gTy Γ) hx hb hK hP 5 0 rfl rfl (v := 10) rfl dX5_see_31 ?_
            refine lv_icmp_ge (tgt := 45) hx hb dX5_see_32 (by decide) (fun c_32 => ?_) (fun c_32 => ?_)
            · -- yes
              refine lv_iinc (v := (x + 1)) (lv' := [(3, .int (x + 1)), (4, .int ((wSig w1) i)), (0, .ref (a b)), (1, .ref (a2 b2)), (2, .int tick)]) hx hb dX5_see_45 hl (k := 4) rfl rfl (by decide) rfl (fun ls hl => ?_)
              refine lv_goto (tgt := 2) hx hb dX5_see_48 (by decide) ?_
              exact ih (i + 1) _ w1 (by rw [ex]; exact nI_1 i) (by have := lt_of_nle (k := 4) (by rw [← ex]; exact c_12) (by omega) (by decide); omega) (by omega) (by skip; rw [← hg]; subst ex; simp [fWseeN, fWsee1, c_7, c_12, c_25, c_32]) _ _ _ hP hD hS (lv_sub hl [2, 3, 4, 0] rfl)
            · -- no
              refine lv_aload_n hx hb dX5_see_35 rfl (lv_at hl 1 rfl) ?_
              refine lv_iload_n hx hb dX5_see_36 rfl (lv_at hl 4 rfl) ?_
              refine lv_aload_n hx hb dX5_see_37 rfl (lv_at hl 2 rfl) ?_
              refine lv_iload hx hb dX5_see_38 (lv_at hl 0 rfl) ?_
              refine ka_iald (D := gD Γ) (cl := vwCl) (tys := gTy Γ) hx hb hK hP 5 0 rfl rfl (((wSig w1) i).toNatClampNeg) (nI_of_in (in_rng (n := 10) (by decide) c_25 c_32) (by decide)) (in_lt (in_rng (n := 10) (by decide) c_25 c_32)) (by decide) (v := (pv (((wSig w1) i).toNatClampNeg))) rfl dX5_see_40 ?_
              refine lv_iload_n hx hb dX5_see_41 rfl (lv_at hl 3 rfl) ?_
              obtain ⟨u_42, eu_42⟩ : ∃ z : Wat, z = fSeeOne w1 x (pv (((wSig w1) i).toNatClampNeg)) tick := ⟨_, rfl⟩
              refine ca_Vv hh hl.1 (c_X5_seeOne Γ l a b w1 x (pv (((wSig w1) i).toNatClampNeg)) tick (by rw [ex]; exact vp_in_nI (lt_of_nle (k := 4) (by rw [← ex]; exact c_12) (by omega) (by decide)) (by decide))) (cwV 3 hts gX5_see_X5_seeOne rfl rfl rfl (by decide +kernel) ⟨(Nat.le_of_ble_eq_true rfl), (Nat.le_of_ble_eq_true rfl)⟩) (As := [.int x, .int (pv (((wSig w1) i).toNatClampNeg)), .int tick]) (rest := []) rfl dX5_see_42 rfl (Nat.le_of_ble_eq_true rfl) hP hD hS [0, 1, 2, 3, 4] rfl rfl (q0 := 0) (ci := 5) rfl rfl rfl rfl (wf := watW Γ a b u_42 ++ arrP Γ a2 b2 pv) (by rw [eu_42]; rfl) rfl ⟨Nat.zero_le _, Nat.zero_le _⟩ (fun H locs hP hD hS => ?_)
              refine lv_iinc (v := (x + 1)) (lv' := [(3, .int (x + 1)), (4, .int ((wSig w1) i)), (0, .ref (a b)), (1, .ref (a2 b2)), (2, .int tick)]) hx hb dX5_see_45 hl (k := 4) rfl rfl (by decide) rfl (fun ls hl => ?_)
              refine lv_goto (tgt := 2) hx hb dX5_see_48 (by decide) ?_
              exact ih (i + 1) _ u_42 (by rw [ex]; exact nI_1 i) (by have := lt_of_nle (k := 4) (by rw [← ex]; exact c_12) (by omega) (by decide); omega) (by omega) (by subst eu_42; rw [← hg]; subst ex; simp [fWseeN, fWsee1, c_7, c_12, c_25, c_32]) _ _ _ hP hD hS (lv_sub hl [2, 3, 4, 0] rfl)
  exact hJ_2 5 0 0 w rfl (by omega) (by omega) rfl _ _ _ hP hD hS (lv_sub hl [1, 2, 3, 0] rfl)
end
section
def rm_X1_changeSetpoint : Room := { frames := 1, cells := 0, slots := 0, locals := 21 }
theorem iX1_changeSetpoint_1 : ∀ w ∈ u_ws RX1 TX1 9, w ∈ wsX1_changeSetpoint := fun w h => (List.mem_cons_of_mem _ (List.mem_append_left _ (List.mem_append_right _ h)))
set_option maxHeartbeats 4000000 in
set_option maxRecDepth 100000 in
theorem c_X1_changeSetpoint (Γ : gT) (l : Launch) (a : Nat → Nat) (b : Nat) (σ : Lop) (v : Int32)  : Ci Γ l yX1_changeSetpoint wsX1_changeSetpoint rm_X1_changeSetpoint [.ref (a b), .int v] (lopW Γ a b σ) (((lPres σ) 0)) (lopW Γ a b (fSetR σ v)) := by
  refine Ci.of (cc := cX1_changeSetpoint) (own := RX1) (nL := 3) (ret := (some .int)) (by decide +kernel) rfl rfl (Nat.le_of_ble_eq_true rfl) ?_
  intro p e s m args below meth c A Q H locs ls ha hAe hQ hx hb hml hr hts hown hlk hP hK hD hS hA hG hl
  have hh : Hd Γ p s m args c cX1_changeSetpoint RX1 3 wsX1_changeSetpoint A := ⟨⟨hx, hb, hml, hown, hts⟩, hK, hA, hG⟩
  have hl : lv_has ls 3 [(0, .ref (a b)), (1, .int v)] := hl
  refine lv_aload_n hx hb dX1_changeSetpoint_0 rfl (lv_at hl 0 rfl) ?_
  refine va_get (D := gD Γ) (cl := vwCl) (tys := gTy Γ) (ci := 1) (v := .ref (a (b + 1))) (C := RX1) (T := TX1) (N := 9) hx hb hts iX1_changeSetpoint_1 hown hK hP 0 rfl rfl 5 (Nat.le_of_ble_eq_true rfl) (hts (.fieldLink RX1 27 "DeadTimeLoop$Loop" "present" "[I") (List.mem_of_getElem? (i := 1) rfl)) (fun _ h9 => h9) rfl dX1_changeSetpoint_1 ?_
  refine lv_iconst (v := 0) hx hb dX1_changeSetpoint_4 (by decide) ?_
  refine ka_iald (D := gD Γ) (cl := vwCl) (tys := gTy Γ) hx hb hK hP 1 0 rfl rfl 0 (by decide) (by decide) (by decide) (v := ((lPres σ) 0)) rfl dX1_changeSetpoint_5 ?_
  refine lv_istore_n (lv' := [(2, .int ((lPres σ) 0)), (0, .ref (a b)), (1, .int v)]) hx hb dX1_changeSetpoint_6 rfl hl (by decide) rfl (fun ls hl => ?_)
  refine lv_aload_n hx hb dX1_changeSetpoint_7 rfl (lv_at hl 1 rfl) ?_
  refine va_get (D := gD Γ) (cl := vwCl) (tys := gTy Γ) (ci := 1) (v := .ref (a (b + 1))) (C := RX1) (T := TX1) (N := 9) hx hb hts iX1_changeSetpoint_1 hown hK hP 0 rfl rfl 5 (Nat.le_of_ble_eq_true rfl) (hts (.fieldLink RX1 27 "DeadTimeLoop$Loop" "present" "[I") (List.mem_of_getElem? (i := 1) rfl)) (fun _ h9 => h9) rfl dX1_changeSetpoint_8 ?_
  refine lv_iconst (v := 0) hx hb dX1_changeSetpoint_11 (by decide) ?_
  refine lv_iload_n hx hb dX1_changeSetpoint_12 rfl (lv_at hl 2 rfl) ?_
  refine ka_iast (D := gD Γ) (cl := vwCl) (tys := gTy Γ) hx hb hK hP hD hS 1 0 rfl rfl 0 (by decide) (by decide) (by decide) (wf := lopW Γ a b ((lNow σ), (lLoad σ), (lSeed σ), (lBad σ), (lGood σ), (upd (lPres σ) 0 v), (lRecs σ), (lSec σ), (lWat σ))) rfl dX1_changeSetpoint_13 (fun H locs hP hD hS => ?_)
  refine lv_aload_n hx hb dX1_changeSetpoint_14 rfl (lv_at hl 1 rfl) ?_
  refine va_get (D := gD Γ) (cl := vwCl) (tys := gTy Γ) (ci := 1) (v := .ref (a (b + 3))) (C := RX1) (T := TX1) (N := 9) hx hb hts iX1_changeSetpoint_1 hown hK hP 0 rfl rfl 7 (Nat.le_of_ble_eq_true rfl) (hts (.fieldLink RX1 37 "DeadTimeLoop$Loop" "section" "LDeadTimeLoop$Section;") (List.mem_of_getElem? (i := 2) rfl)) (fun _ h9 => h9) rfl dX1_changeSetpoint_15 ?_
  refine lv_iload_n hx hb dX1_changeSetpoint_18 rfl (lv_at hl 2 rfl) ?_
  refine lv_iload_n hx hb dX1_changeSetpoint_19 rfl (lv_at hl 0 rfl) ?_
  refine lv_icmp_lt (tgt := 27) hx hb dX1_changeSetpoint_20 (by decide) (fun c_20 => ?_) (fun c_20 => ?_)
  · -- yes
    refine lv_iconst (v := 0) hx hb dX1_changeSetpoint_27 (by decide) ?_
    obtain ⟨u_28, eu_28⟩ : ∃ z : Sec, z = fSecBegin 0 := ⟨_, rfl⟩
    refine ca_Vv hh hl.1 (c_X2_begin Γ l a (b + 3) (lSec σ) 0 (by decide)) (cwV 1 hts gX1_changeSetpoint_X2_begin rfl rfl rfl (by decide +kernel) ⟨(Nat.le_of_ble_eq_true rfl), (Nat.le_of_ble_eq_true rfl)⟩) (As := [.int 0]) (rest := []) rfl dX1_changeSetpoint_28 rfl (Nat.le_of_ble_eq_true rfl) hP hD hS [3] rfl rfl (q0 := 3) (ci := 2) rfl rfl rfl rfl (wf := lopW Γ a b ((lNow σ), (lLoad σ), (lSeed σ), (lBad σ), (lGood σ), (upd (lPres σ) 0 v), (lRecs σ), u_28, (lWat σ))) (by rw [eu_28]; rfl) rfl ⟨Nat.zero_le _, Nat.zero_le _⟩ (fun H locs hP hD hS => ?_)
    refine lv_iload_n hx hb dX1_changeSetpoint_31 rfl (lv_at hl 0 rfl) ?_
    exact re_i hQ ha hx hb hr hlk hAe hP hS dX1_changeSetpoint_32 (by subst eu_28; first | rfl | simp [fSetR, c_20]) (by subst eu_28; first | rfl | simp [fSetR, c_20])
  · -- no
    refine lv_iconst (v := 1) hx hb dX1_changeSetpoint_23 (by decide) ?_
    refine lv_goto (tgt := 28) hx hb dX1_changeSetpoint_24 (by decide) ?_
    obtain ⟨u_28b, eu_28b⟩ : ∃ z : Sec, z = fSecBegin 1 := ⟨_, rfl⟩
    refine ca_Vv hh hl.1 (c_X2_begin Γ l a (b + 3) (lSec σ) 1 (by decide)) (cwV 1 hts gX1_changeSetpoint_X2_begin rfl rfl rfl (by decide +kernel) ⟨(Nat.le_of_ble_eq_true rfl), (Nat.le_of_ble_eq_true rfl)⟩) (As := [.int 1]) (rest := []) rfl dX1_changeSetpoint_28 rfl (Nat.le_of_ble_eq_true rfl) hP hD hS [3] rfl rfl (q0 := 3) (ci := 2) rfl rfl rfl rfl (wf := lopW Γ a b ((lNow σ), (lLoad σ), (lSeed σ), (lBad σ), (lGood σ), (upd (lPres σ) 0 v), (lRecs σ), u_28b, (lWat σ))) (by rw [eu_28b]; rfl) rfl ⟨Nat.zero_le _, Nat.zero_le _⟩ (fun H locs hP hD hS => ?_)
    refine lv_iload_n hx hb dX1_changeSetpoint_31 rfl (lv_at hl 0 rfl) ?_
    exact re_i hQ ha hx hb hr hlk hAe hP hS dX1_changeSetpoint_32 (by subst eu_28b; first | rfl | simp [fSetR, c_20]) (by subst eu_28b; first | rfl | simp [fSetR, c_20])
def rm_X1_recordOf : Room := { frames := 1, cells := 0, slots := 0, locals := 22 }
theorem iX1_recordOf_1 : ∀ w ∈ u_ws RX1 TX1 9, w ∈ wsX1_recordOf := fun w h => (List.mem_cons_of_mem _ (List.mem_append_right _ h))
set_option maxHeartbeats 4000000 in
set_option maxRecDepth 100000 in
theorem c_X1_recordOf (Γ : gT) (l : Launch) (a : Nat → Nat) (b : Nat) (σ : Lop) (sg : Int32) (tk : Int32)  : Ci Γ l yX1_recordOf wsX1_recordOf rm_X1_recordOf [.ref (a b), .int sg, .int tk] (lopW Γ a b σ) (fRec (lNow σ) (lRecs σ) sg tk) (lopW Γ a b σ) := by
  refine Ci.of (cc := cX1_recordOf) (own := RX1) (nL := 3) (ret := (some .int)) (by decide +kernel) rfl rfl (Nat.le_of_ble_eq_true rfl) ?_
  intro p e s m args below meth c A Q H locs ls ha hAe hQ hx hb hml hr hts hown hlk hP hK hD hS hA hG hl
  have hh : Hd Γ p s m args c cX1_recordOf RX1 3 wsX1_recordOf A := ⟨⟨hx, hb, hml, hown, hts⟩, hK, hA, hG⟩
  have hl : lv_has ls 3 [(0, .ref (a b)), (1, .int sg), (2, .int tk)] := hl
  refine lv_iload_n hx hb dX1_recordOf_0 rfl (lv_at hl 1 rfl) ?_
  refine ca_Ni hh hl.1 (c_X6_isSignal Γ l sg) ⟨va_cnB (host := RX6) 1 hts gX1_recordOf_X6_isSignal_n68 rfl rfl rfl hG.1.2.2.2.2.2.1 (hts (.initialized RX6) (List.mem_of_getElem? (i := 4) rfl)) (by decide +kernel) ⟨(Nat.le_of_ble_eq_true rfl), (Nat.le_of_ble_eq_true rfl)⟩, (hts (.static yX6_isSignal) (List.mem_of_getElem? (i := 3) rfl)), trivial⟩ (As := [.int sg]) (rest := []) rfl dX1_recordOf_1 rfl (Nat.le_of_ble_eq_true rfl) hP hD hS ⟨Nat.zero_le _, Nat.zero_le _⟩ (fun H locs hP hS => ?_)
  refine lv_if_eq (tgt := 30) hx hb dX1_recordOf_4 (by decide) (fun c_4 => ?_) (fun c_4 => ?_)
  · -- yes
    refine lv_iconst (v := 0) hx hb dX1_recordOf_30 (by decide) ?_
    exact re_i hQ ha hx hb hr hlk hAe hP hS dX1_recordOf_31 (by skip; first | rfl | simp [fRec, c_4]) (by skip; first | rfl | simp [fRec, c_4])
  · -- no
    refine lv_iload_n hx hb dX1_recordOf_7 rfl (lv_at hl 2 rfl) ?_
    refine lv_if_lt (tgt := 30) hx hb dX1_recordOf_8 (by decide) (fun c_8 => ?_) (fun c_8 => ?_)
    · -- yes
      refine lv_iconst (v := 0) hx hb dX1_recordOf_30 (by decide) ?_
      exact re_i hQ ha hx hb hr hlk hAe hP hS dX1_recordOf_31 (by skip; first | rfl | simp [fRec, c_4, c_8]) (by skip; first | rfl | simp [fRec, c_4, c_8])
    · -- no
      refine lv_iload_n hx hb dX1_recordOf_11 rfl (lv_at hl 2 rfl) ?_
      refine lv_aload_n hx hb dX1_recordOf_12 rfl (lv_at hl 0 rfl) ?_
      refine va_get (D := gD Γ) (cl := vwCl) (tys := gTy Γ) (ci := 1) (v := .int (lNow σ)) (C := RX1) (T := TX1) (N := 9) hx hb hts iX1_recordOf_1 hown hK hP 0 rfl rfl 0 (Nat.le_of_ble_eq_true rfl) (hts (.fieldLink RX1 9 "DeadTimeLoop$Loop" "now" "I") (List.mem_of_getElem? (i := 1) rfl)) (fun _ h9 => h9) rfl dX1_recordOf_13 ?_
      refine lv_icmp_ge (tgt := 30) hx hb dX1_recordOf_16 (by decide) (fun c_16 => ?_) (fun c_16 => ?_)
      · -- yes
        refine lv_iconst (v := 0) hx hb dX1_recordOf_30 (by decide) ?_
        exact re_i hQ ha hx hb hr hlk hAe hP hS dX1_recordOf_31 (by skip; first | rfl | simp [fRec, c_4, c_8, c_16]) (by skip; first | rfl | simp [fRec, c_4, c_8, c_16])
      · -- no
        refine lv_iload_n hx hb dX1_recordOf_19 rfl (lv_at hl 2 rfl) ?_
        refine lv_aload_n hx hb dX1_recordOf_20 rfl (lv_at hl 0 rfl) ?_
        refine va_get (D := gD Γ) (cl := vwCl) (tys := gTy Γ) (ci := 1) (v := .int (lNow σ)) (C := RX1) (T := TX1) (N := 9) hx hb hts iX1_recordOf_1 hown hK hP 0 rfl rfl 0 (Nat.le_of_ble_eq_true rfl) (hts (.fieldLink RX1 9 "DeadTimeLoop$Loop" "now" "I") (List.mem_of_getElem? (i := 1) rfl)) (fun _ h9 => h9) rfl dX1_recordOf_21 ?_
        refine lv_bipush (v := 64) hx hb dX1_recordOf_24 (by decide) ?_
        refine lv_isub hx hb dX1_recordOf_26 ?_
        refine lv_icmp_ge (tgt := 32) hx hb dX1_recordOf_27 (by decide) (fun c_27 => ?_) (fun c_27 => ?_)
        · -- yes
          refine lv_aload_n hx hb dX1_recordOf_32 rfl (lv_at hl 0 rfl) ?_
          refine va_get (D := gD Γ) (cl := vwCl) (tys := gTy Γ) (ci := 1) (v := .ref (a (b + 2))) (C := RX1) (T := TX1) (N := 9) hx hb hts iX1_recordOf_1 hown hK hP 0 rfl rfl 6 (Nat.le_of_ble_eq_true rfl) (hts (.fieldLink RX1 31 "DeadTimeLoop$Loop" "records" "[I") (List.mem_of_getElem? (i := 2) rfl)) (fun _ h9 => h9) rfl dX1_recordOf_33 ?_
          refine lv_iload_n hx hb dX1_recordOf_36 rfl (lv_at hl 1 rfl) ?_
          refine lv_bipush (v := 64) hx hb dX1_recordOf_37 (by decide) ?_
          refine lv_imul hx hb dX1_recordOf_39 ?_
          refine lv_iload_n hx hb dX1_recordOf_40 rfl (lv_at hl 2 rfl) ?_
          refine lv_bipush (v := 64) hx hb dX1_recordOf_41 (by decide) ?_
          refine ca_Si hh hl.1 (c_J9_floorMod_7cf53 Γ l tk 64 (by first | assumption | omega | decide)) (va_cwS 2 hts gX1_recordOf_J9_floorMod_7cf53 rfl rfl rfl (by decide +kernel) ⟨(Nat.le_of_ble_eq_true rfl), (Nat.le_of_ble_eq_true rfl)⟩) (As := [.int tk, .int 64]) (rest := [.int (sg * 64), .ref (a (b + 2))]) rfl dX1_recordOf_43 rfl (Nat.le_of_ble_eq_true rfl) hP hD hS ⟨Nat.zero_le _, Nat.zero_le _⟩ (fun H locs hP hS => ?_)
          refine lv_iadd hx hb dX1_recordOf_46 ?_
          refine ka_iald (D := gD Γ) (cl := vwCl) (tys := gTy Γ) hx hb hK hP 2 0 rfl rfl (((sg * 64) + (kFmod tk 64)).toNatClampNeg) (nI_of_in (rec_in c_4 c_8) (by decide)) (in_lt (rec_in c_4 c_8)) (by decide) (v := ((lRecs σ) (((sg * 64) + (kFmod tk 64)).toNatClampNeg))) rfl dX1_recordOf_47 ?_
          exact re_i hQ ha hx hb hr hlk hAe hP hS dX1_recordOf_48 (by skip; first | rfl | simp [fRec, c_4, c_8, c_16, c_27]) (by skip; first | rfl | simp [fRec, c_4, c_8, c_16, c_27])
        · -- no
          refine lv_iconst (v := 0) hx hb dX1_recordOf_30 (by decide) ?_
          exact re_i hQ ha hx hb hr hlk hAe hP hS dX1_recordOf_31 (by skip; first | rfl | simp [fRec, c_4, c_8, c_16, c_27]) (by skip; first | rfl | simp [fRec, c_4, c_8, c_16, c_27])
def rm_X1_copy : Room := { frames := 2, cells := 0, slots := 0, locals := 49 }
theorem iX1_copy_1 : ∀ w ∈ u_ws RX1 TX1 9, w ∈ wsX1_copy := fun w h => (List.mem_cons_of_mem _ (List.mem_append_left _ (List.mem_append_left _ (List.mem_append_right _ h))))
set_option maxHeartbeats 4000000 in
set_option maxRecDepth 100000 in
theorem c_X1_copy (Γ : gT) (l : Launch) (a : Nat → Nat) (b : Nat) (a2 : Nat → Nat) (b2 : Nat) (σ : Lop) (τ : Lop) (hup : sUp (lSec τ) = 0 ∨ sUp (lSec τ) = 1) : Cv Γ l yX1_copy wsX1_copy rm_X1_copy [.ref (a b), .ref (a2 b2)] (lopW Γ a b σ ++ lopW Γ a2 b2 τ) (lopW Γ a b (fLoopCopy σ τ) ++ lopW Γ a2 b2 τ) := by
  refine Cv.of (cc := cX1_copy) (own := RX1) (nL := 2) (ret := none) (by decide +kernel) rfl rfl (Nat.le_of_ble_eq_true rfl) ?_
  intro p e s m args below meth c A Q H locs ls ha hAe hQ hx hb hml hr hts hown hlk hP hK hD hS hA hG hl
  have hh : Hd Γ p s m args c cX1_copy RX1 2 wsX1_copy A := ⟨⟨hx, hb, hml, hown, hts⟩, hK, hA, hG⟩
  have hl : lv_has ls 2 [(0, .ref (a b)), (1, .ref (a2 b2))] := hl
  refine lv_aload_n hx hb dX1_copy_0 rfl (lv_at hl 0 rfl) ?_
  refine lv_aload_n hx hb dX1_copy_1 rfl (lv_at hl 1 rfl) ?_
  refine va_get (D := gD Γ) (cl := vwCl) (tys := gTy Γ) (ci := 1) (v := .int (lNow τ)) (C := RX1) (T := TX1) (N := 9) hx hb hts iX1_copy_1 hown hK hP 9 rfl rfl 0 (Nat.le_of_ble_eq_true rfl) (hts (.fieldLink RX1 9 "DeadTimeLoop$Loop" "now" "I") (List.mem_of_getElem? (i := 1) rfl)) (fun _ h9 => h9) rfl dX1_copy_2 ?_
  refine va_put (D := gD Γ) (cl := vwCl) (tys := gTy Γ) (ci := 1) (v := .int (lNow τ)) (ty := tyX1 0) (C := RX1) (T := TX1) (N := 9) hx hb hts iX1_copy_1 tyX1 tyX1_ok nmX1 hown hK hP hD hS 0 rfl rfl 0 (Nat.le_of_ble_eq_true rfl) (hts (.fieldLink RX1 9 "DeadTimeLoop$Loop" "now" "I") (List.mem_of_getElem? (i := 1) rfl)) (fun _ h9 => h9) rfl (tyX1_ok 0 (Nat.le_of_ble_eq_true rfl)) rfl rfl (Nat.le_of_ble_eq_true rfl) dX1_copy_5 (fun H locs hP hD hS => ?_)
  have hP : va_P (gD Γ) vwCl (lopW Γ a b ((lNow τ), (lLoad σ), (lSeed σ), (lBad σ), (lGood σ), (lPres σ), (lRecs σ), (lSec σ), (lWat σ)) ++ lopW Γ a2 b2 τ) H := hP
  have hD : va_D A (lopW Γ a b ((lNow τ), (lLoad σ), (lSeed σ), (lBad σ), (lGood σ), (lPres σ), (lRecs σ), (lSec σ), (lWat σ)) ++ lopW Γ a2 b2 τ) := hD
  refine lv_aload_n hx hb dX1_copy_8 rfl (lv_at hl 0 rfl) ?_
  refine lv_aload_n hx hb dX1_copy_9 rfl (lv_at hl 1 rfl) ?_
  refine va_get (D := gD Γ) (cl := vwCl) (tys := gTy Γ) (ci := 1) (v := .int (lLoad τ)) (C := RX1) (T := TX1) (N := 9) hx hb hts iX1_copy_1 hown hK hP 9 rfl rfl 1 (Nat.le_of_ble_eq_true rfl) (hts (.fieldLink RX1 15 "DeadTimeLoop$Loop" "load" "I") (List.mem_of_getElem? (i := 2) rfl)) (fun _ h9 => h9) rfl dX1_copy_10 ?_
  refine va_put (D := gD Γ) (cl := vwCl) (tys := gTy Γ) (ci := 1) (v := .int (lLoad τ)) (ty := tyX1 1) (C := RX1) (T := TX1) (N := 9) hx hb hts iX1_copy_1 tyX1 tyX1_ok nmX1 hown hK hP hD hS 0 rfl rfl 1 (Nat.le_of_ble_eq_true rfl) (hts (.fieldLink RX1 15 "DeadTimeLoop$Loop" "load" "I") (List.mem_of_getElem? (i := 2) rfl)) (fun _ h9 => h9) rfl (tyX1_ok 1 (Nat.le_of_ble_eq_true rfl)) rfl rfl (Nat.le_of_ble_eq_true rfl) dX1_copy_13 (fun H locs hP hD hS => ?_)
  have hP : va_P (gD Γ) vwCl (lopW Γ a b ((lNow τ), (lLoad τ), (lSeed σ), (lBad σ), (lGood σ), (lPres σ), (lRecs σ), (lSec σ), (lWat σ)) ++ lopW Γ a2 b2 τ) H := hP
  have hD : va_D A (lopW Γ a b ((lNow τ), (lLoad τ), (lSeed σ), (lBad σ), (lGood σ), (lPres σ), (lRecs σ), (lSec σ), (lWat σ)) ++ lopW Γ a2 b2 τ) := hD
  refine lv_aload_n hx hb dX1_copy_16 rfl (lv_at hl 0 rfl) ?_
  refine lv_aload_n hx hb dX1_copy_17 rfl (lv_at hl 1 rfl) ?_
  refine va_get (D := gD Γ) (cl := vwCl) (tys := gTy Γ) (ci := 1) (v := .int (lSeed τ)) (C := RX1) (T := TX1) (N := 9) hx hb hts iX1_copy_1 hown hK hP 9 rfl rfl 2 (Nat.le_of_ble_eq_true rfl) (hts (.fieldLink RX1 18 "DeadTimeLoop$Loop" "seed" "I") (List.mem_of_getElem? (i := 3) rfl)) (fun _ h9 => h9) rfl dX1_copy_18 ?_
  refine va_put (D := gD Γ) (cl := vwCl) (tys := gTy Γ) (ci := 1) (v := .int (lSeed τ)) (ty := tyX1 2) (C := RX1) (T := TX1) (N := 9) hx hb hts iX1_copy_1 tyX1 tyX1_ok nmX1 hown hK hP hD hS 0 rfl rfl 2 (Nat.le_of_ble_eq_true rfl) (hts (.fieldLink RX1 18 "DeadTimeLoop$Loop" "seed" "I") (List.mem_of_getElem? (i := 3) rfl)) (fun _ h9 => h9) rfl (tyX1_ok 2 (Nat.le_of_ble_eq_true rfl)) rfl rfl (Nat.le_of_ble_eq_true rfl) dX1_copy_21 (fun H locs hP hD hS => ?_)
  have hP : va_P (gD Γ) vwCl (lopW Γ a b ((lNow τ), (lLoad τ), (lSeed τ), (lBad σ), (lGood σ), (lPres σ), (lRecs σ), (lSec σ), (lWat σ)) ++ lopW Γ a2 b2 τ) H := hP
  have hD : va_D A (lopW Γ a b ((lNow τ), (lLoad τ), (lSeed τ), (lBad σ), (lGood σ), (lPres σ), (lRecs σ), (lSec σ), (lWat σ)) ++ lopW Γ a2 b2 τ) := hD
  refine lv_aload_n hx hb dX1_copy_24 rfl (lv_at hl 0 rfl) ?_
  refine lv_aload_n hx hb dX1_copy_25 rfl (lv_at hl 1 rfl) ?_
  refine va_get (D := gD Γ) (cl := vwCl) (tys := gTy Γ) (ci := 1) (v := .int (lBad τ)) (C := RX1) (T := TX1) (N := 9) hx hb hts iX1_copy_1 hown hK hP 9 rfl rfl 3 (Nat.le_of_ble_eq_true rfl) (hts (.fieldLink RX1 21 "DeadTimeLoop$Loop" "badTicks" "I") (List.mem_of_getElem? (i := 4) rfl)) (fun _ h9 => h9) rfl dX1_copy_26 ?_
  refine va_put (D := gD Γ) (cl := vwCl) (tys := gTy Γ) (ci := 1) (v := .int (lBad τ)) (ty := tyX1 3) (C := RX1) (T := TX1) (N := 9) hx hb hts iX1_copy_1 tyX1 tyX1_ok nmX1 hown hK hP hD hS 0 rfl rfl 3 (Nat.le_of_ble_eq_true rfl) (hts (.fieldLink RX1 21 "DeadTimeLoop$Loop" "badTicks" "I") (List.mem_of_getElem? (i := 4) rfl)) (fun _ h9 => h9) rfl (tyX1_ok 3 (Nat.le_of_ble_eq_true rfl)) rfl rfl (Nat.le_of_ble_eq_true rfl) dX1_copy_29 (fun H locs hP hD hS => ?_)
  have hP : va_P (gD Γ) vwCl (lopW Γ a b ((lNow τ), (lLoad τ), (lSeed τ), (lBad τ), (lGood σ), (lPres σ), (lRecs σ), (lSec σ), (lWat σ)) ++ lopW Γ a2 b2 τ) H := hP
  have hD : va_D A (lopW Γ a b ((lNow τ), (lLoad τ), (lSeed τ), (lBad τ), (lGood σ), (lPres σ), (lRecs σ), (lSec σ), (lWat σ)) ++ lopW Γ a2 b2 τ) := hD
  refine lv_aload_n hx hb dX1_copy_32 rfl (lv_at hl 0 rfl) ?_
  refine lv_aload_n hx hb dX1_copy_33 rfl (lv_at hl 1 rfl) ?_
  refine va_get (D := gD Γ) (cl := vwCl) (tys := gTy Γ) (ci := 1) (v := .int (lGood τ)) (C := RX1) (T := TX1) (N := 9) hx hb hts iX1_copy_1 hown hK hP 9 rfl rfl 4 (Nat.le_of_ble_eq_true rfl) (hts (.fieldLink RX1 24 "DeadTimeLoop$Loop" "goodTicks" "I") (List.mem_of_getElem? (i := 5) rfl)) (fun _ h9 => h9) rfl dX1_copy_34 ?_
  refine va_put (D := gD Γ) (cl := vwCl) (tys := gTy Γ) (ci := 1) (v := .int (lGood τ)) (ty := tyX1 4) (C := RX1) (T := TX1) (N := 9) hx hb hts iX1_copy_1 tyX1 tyX1_ok nmX1 hown hK hP hD hS 0 rfl rfl 4 (Nat.le_of_ble_eq_true rfl) (hts (.fieldLink RX1 24 "DeadTimeLoop$Loop" "goodTicks" "I") (List.mem_of_getElem? (i := 5) rfl)) (fun _ h9 => h9) rfl (tyX1_ok 4 (Nat.le_of_ble_eq_true rfl)) rfl rfl (Nat.le_of_ble_eq_true rfl) dX1_copy_37 (fun H locs hP hD hS => ?_)
  have hP : va_P (gD Γ) vwCl (lopW Γ a b ((lNow τ), (lLoad τ), (lSeed τ), (lBad τ), (lGood τ), (lPres σ), (lRecs σ), (lSec σ), (lWat σ)) ++ lopW Γ a2 b2 τ) H := hP
  have hD : va_D A (lopW Γ a b ((lNow τ), (lLoad τ), (lSeed τ), (lBad τ), (lGood τ), (lPres σ), (lRecs σ), (lSec σ), (lWat σ)) ++ lopW Γ a2 b2 τ) := hD
  refine lv_aload_n hx hb dX1_copy_40 rfl (lv_at hl 1 rfl) ?_
  refine va_get (D := gD Γ) (cl := vwCl) (tys := gTy Γ) (ci := 1) (v := .ref (a2 (b2 + 1))) (C := RX1) (T := TX1) (N := 9) hx hb hts iX1_copy_1 hown hK hP 9 rfl rfl 5 (Nat.le_of_ble_eq_true rfl) (hts (.fieldLink RX1 27 "DeadTimeLoop$Loop" "present" "[I") (List.mem_of_getElem? (i := 6) rfl)) (fun _ h9 => h9) rfl dX1_copy_41 ?_
  refine lv_iconst (v := 0) hx hb dX1_copy_44 (by decide) ?_
  refine lv_aload_n hx hb dX1_copy_45 rfl (lv_at hl 0 rfl) ?_
  refine va_get (D := gD Γ) (cl := vwCl) (tys := gTy Γ) (ci := 1) (v := .ref (a (b + 1))) (C := RX1) (T := TX1) (N := 9) hx hb hts iX1_copy_1 hown hK hP 0 rfl rfl 5 (Nat.le_of_ble_eq_true rfl) (hts (.fieldLink RX1 27 "DeadTimeLoop$Loop" "present" "[I") (List.mem_of_getElem? (i := 6) rfl)) (fun _ h9 => h9) rfl dX1_copy_46 ?_
  refine lv_iconst (v := 0) hx hb dX1_copy_49 (by decide) ?_
  refine lv_bipush (v := 10) hx hb dX1_copy_50 (by decide) ?_
  refine va_copyi (D := gD Γ) (cl := vwCl) (tys := gTy Γ) (f := (lPres τ)) (g := (lPres σ)) hx hb (hml.trans hl.1.symm) hown (hts (.methodLink RX1 55 arraycopyName) (List.mem_of_getElem? (i := 7) rfl)) (hts (.native arraycopyName) (List.mem_of_getElem? (i := 8) rfl)) (hts (.static arraycopyName) (List.mem_of_getElem? (i := 9) rfl)) (hts (.initialized "java/lang/System") (List.mem_of_getElem? (i := 10) rfl)) hK hP hD hS 10 1 0 0 rfl rfl rfl rfl rfl (by decide) (by decide) (by decide) (by decide) (by decide) (fun i hi => rfl) (Nat.le_of_ble_eq_true rfl) (Nat.le_of_ble_eq_true rfl) dX1_copy_52 (fun H locs hP hD hS => ?_)
  have hP : va_P (gD Γ) vwCl (lopW Γ a b ((lNow τ), (lLoad τ), (lSeed τ), (lBad τ), (lGood τ), (va_cpy (lPres τ) (lPres σ) 0 0 10), (lRecs σ), (lSec σ), (lWat σ)) ++ lopW Γ a2 b2 τ) H := hP
  have hD : va_D A (lopW Γ a b ((lNow τ), (lLoad τ), (lSeed τ), (lBad τ), (lGood τ), (va_cpy (lPres τ) (lPres σ) 0 0 10), (lRecs σ), (lSec σ), (lWat σ)) ++ lopW Γ a2 b2 τ) := hD
  refine lv_aload_n hx hb dX1_copy_55 rfl (lv_at hl 1 rfl) ?_
  refine va_get (D := gD Γ) (cl := vwCl) (tys := gTy Γ) (ci := 1) (v := .ref (a2 (b2 + 2))) (C := RX1) (T := TX1) (N := 9) hx hb hts iX1_copy_1 hown hK hP 9 rfl rfl 6 (Nat.le_of_ble_eq_true rfl) (hts (.fieldLink RX1 31 "DeadTimeLoop$Loop" "records" "[I") (List.mem_of_getElem? (i := 11) rfl)) (fun _ h9 => h9) rfl dX1_copy_56 ?_
  refine lv_iconst (v := 0) hx hb dX1_copy_59 (by decide) ?_
  refine lv_aload_n hx hb dX1_copy_60 rfl (lv_at hl 0 rfl) ?_
  refine va_get (D := gD Γ) (cl := vwCl) (tys := gTy Γ) (ci := 1) (v := .ref (a (b + 2))) (C := RX1) (T := TX1) (N := 9) hx hb hts iX1_copy_1 hown hK hP 0 rfl rfl 6 (Nat.le_of_ble_eq_true rfl) (hts (.fieldLink RX1 31 "DeadTimeLoop$Loop" "records" "[I") (List.mem_of_getElem? (i := 11) rfl)) (fun _ h9 => h9) rfl dX1_copy_61 ?_
  refine lv_iconst (v := 0) hx hb dX1_copy_64 (by decide) ?_
  refine lv_sipush (v := 640) hx hb dX1_copy_65 (by decide) ?_
  refine va_copyi (D := gD Γ) (cl := vwCl) (tys := gTy Γ) (f := (lRecs τ)) (g := (lRecs σ)) hx hb (hml.trans hl.1.symm) hown (hts (.methodLink RX1 55 arraycopyName) (List.mem_of_getElem? (i := 7) rfl)) (hts (.native arraycopyName) (List.mem_of_getElem? (i := 8) rfl)) (hts (.static arraycopyName) (List.mem_of_getElem? (i := 9) rfl)) (hts (.initialized "java/lang/System") (List.mem_of_getElem? (i := 10) rfl)) hK hP hD hS 11 2 0 0 rfl rfl rfl rfl rfl (by decide) (by decide) (by decide) (by decide) (by decide) (fun i hi => rfl) (Nat.le_of_ble_eq_true rfl) (Nat.le_of_ble_eq_true rfl) dX1_copy_68 (fun H locs hP hD hS => ?_)
  have hP : va_P (gD Γ) vwCl (lopW Γ a b ((lNow τ), (lLoad τ), (lSeed τ), (lBad τ), (lGood τ), (va_cpy (lPres τ) (lPres σ) 0 0 10), (va_cpy (lRecs τ) (lRecs σ) 0 0 640), (lSec σ), (lWat σ)) ++ lopW Γ a2 b2 τ) H := hP
  have hD : va_D A (lopW Γ a b ((lNow τ), (lLoad τ), (lSeed τ), (lBad τ), (lGood τ), (va_cpy (lPres τ) (lPres σ) 0 0 10), (va_cpy (lRecs τ) (lRecs σ) 0 0 640), (lSec σ), (lWat σ)) ++ lopW Γ a2 b2 τ) := hD
  refine lv_aload_n hx hb dX1_copy_71 rfl (lv_at hl 0 rfl) ?_
  refine va_get (D := gD Γ) (cl := vwCl) (tys := gTy Γ) (ci := 1) (v := .ref (a (b + 3))) (C := RX1) (T := TX1) (N := 9) hx hb hts iX1_copy_1 hown hK hP 0 rfl rfl 7 (Nat.le_of_ble_eq_true rfl) (hts (.fieldLink RX1 37 "DeadTimeLoop$Loop" "section" "LDeadTimeLoop$Section;") (List.mem_of_getElem? (i := 12) rfl)) (fun _ h9 => h9) rfl dX1_copy_72 ?_
  refine lv_aload_n hx hb dX1_copy_75 rfl (lv_at hl 1 rfl) ?_
  refine va_get (D := gD Γ) (cl := vwCl) (tys := gTy Γ) (ci := 1) (v := .ref (a2 (b2 + 3))) (C := RX1) (T := TX1) (N := 9) hx hb hts iX1_copy_1 hown hK hP 9 rfl rfl 7 (Nat.le_of_ble_eq_true rfl) (hts (.fieldLink RX1 37 "DeadTimeLoop$Loop" "section" "LDeadTimeLoop$Section;") (List.mem_of_getElem? (i := 12) rfl)) (fun _ h9 => h9) rfl dX1_copy_76 ?_
  obtain ⟨u_79, eu_79⟩ : ∃ z : Sec, z = (lSec τ) := ⟨_, rfl⟩
  refine ca_Vv hh hl.1 (c_X2_copy Γ l a (b + 3) a2 (b2 + 3) (lSec σ) (lSec τ) (by first | assumption | omega | decide)) (cwV 1 hts gX1_copy_X2_copy rfl rfl rfl (by decide +kernel) ⟨(Nat.le_of_ble_eq_true rfl), (Nat.le_of_ble_eq_true rfl)⟩) (As := [.ref (a2 (b2 + 3))]) (rest := []) rfl dX1_copy_79 rfl (Nat.le_of_ble_eq_true rfl) hP hD hS [3, 12] rfl rfl (q0 := 3) (ci := 2) rfl rfl rfl rfl (wf := lopW Γ a b ((lNow τ), (lLoad τ), (lSeed τ), (lBad τ), (lGood τ), (va_cpy (lPres τ) (lPres σ) 0 0 10), (va_cpy (lRecs τ) (lRecs σ) 0 0 640), u_79, (lWat σ)) ++ lopW Γ a2 b2 τ) (by rw [eu_79]; rfl) rfl ⟨Nat.zero_le _, Nat.zero_le _⟩ (fun H locs hP hD hS => ?_)
  refine lv_aload_n hx hb dX1_copy_82 rfl (lv_at hl 0 rfl) ?_
  refine va_get (D := gD Γ) (cl := vwCl) (tys := gTy Γ) (ci := 1) (v := .ref (a (b + 4))) (C := RX1) (T := TX1) (N := 9) hx hb hts iX1_copy_1 hown hK hP 0 rfl rfl 8 (Nat.le_of_ble_eq_true rfl) (hts (.fieldLink RX1 44 "DeadTimeLoop$Loop" "watches" "LDeadTimeLoop$Watches;") (List.mem_of_getElem? (i := 13) rfl)) (fun _ h9 => h9) rfl dX1_copy_83 ?_
  refine lv_aload_n hx hb dX1_copy_86 rfl (lv_at hl 1 rfl) ?_
  refine va_get (D := gD Γ) (cl := vwCl) (tys := gTy Γ) (ci := 1) (v := .ref (a2 (b2 + 4))) (C := RX1) (T := TX1) (N := 9) hx hb hts iX1_copy_1 hown hK hP 9 rfl rfl 8 (Nat.le_of_ble_eq_true rfl) (hts (.fieldLink RX1 44 "DeadTimeLoop$Loop" "watches" "LDeadTimeLoop$Watches;") (List.mem_of_getElem? (i := 13) rfl)) (fun _ h9 => h9) rfl dX1_copy_87 ?_
  obtain ⟨u_90, eu_90⟩ : ∃ z : Wat, z = (va_cpy (wSig (lWat τ)) (wSig (lWat σ)) 0 0 4, va_cpy (wLeast (lWat τ)) (wLeast (lWat σ)) 0 0 4, va_cpy (wGreat (lWat τ)) (wGreat (lWat σ)) 0 0 4, va_cpy (wGtick (lWat τ)) (wGtick (lWat σ)) 0 0 4, (wCnt (lWat τ))) := ⟨_, rfl⟩
  refine ca_Vv hh hl.1 (c_X5_copy Γ l a (b + 4) a2 (b2 + 4) (lWat σ) (lWat τ)) (cwV 1 hts gX1_copy_X5_copy rfl rfl rfl (by decide +kernel) ⟨(Nat.le_of_ble_eq_true rfl), (Nat.le_of_ble_eq_true rfl)⟩) (As := [.ref (a2 (b2 + 4))]) (rest := []) rfl dX1_copy_90 rfl (Nat.le_of_ble_eq_true rfl) hP hD hS [4, 5, 6, 7, 8, 13, 14, 15, 16, 17] rfl rfl (q0 := 4) (ci := 5) rfl rfl rfl rfl (wf := lopW Γ a b ((lNow τ), (lLoad τ), (lSeed τ), (lBad τ), (lGood τ), (va_cpy (lPres τ) (lPres σ) 0 0 10), (va_cpy (lRecs τ) (lRecs σ) 0 0 640), u_79, u_90) ++ lopW Γ a2 b2 τ) (by rw [eu_90]; rfl) rfl ⟨Nat.zero_le _, Nat.zero_le _⟩ (fun H locs hP hD hS => ?_)
  exact re_v hQ ha hx hb hr hlk hAe hP hS dX1_copy_93 (by subst eu_90; subst eu_79; first | rfl | simp [])
def rm_X1_noise : Room := { frames := 0, cells := 0, slots := 0, locals := 0 }
theorem iX1_noise_1 : ∀ w ∈ u_ws RX1 TX1 9, w ∈ wsX1_noise := fun w h => (List.mem_cons_of_mem _ (List.mem_append_right _ h))
set_option maxHeartbeats 4000000 in
set_option maxRecDepth 100000 in
theorem c_X1_noise (Γ : gT) (l : Launch) (a : Nat → Nat) (b : Nat) (σ : Lop) (amp : Int32)  : Ci Γ l yX1_noise wsX1_noise rm_X1_noise [.ref (a b), .int amp] (lopW Γ a b σ) (fNoise (lNow σ) (lSeed σ) amp) (lopW Γ a b σ) := by
  refine Ci.of (cc := cX1_noise) (own := RX1) (nL := 6) (ret := (some .int)) (by decide +kernel) rfl rfl (Nat.le_of_ble_eq_true rfl) ?_
  intro p e s m args below meth c A Q H locs ls ha hAe hQ hx hb hml hr hts hown hlk hP hK hD hS hA hG hl
  have hh : Hd Γ p s m args c cX1_noise RX1 6 wsX1_noise A := ⟨⟨hx, hb, hml, hown, hts⟩, hK, hA, hG⟩
  have hl : lv_has ls 6 [(0, .ref (a b)), (1, .int amp)] := hl
  refine lv_ldc2 hx hb hown (hts (.constantLong RX1 126 (7919)) (List.mem_of_getElem? (i := 1) rfl)) dX1_noise_0 ?_
  refine lv_aload_n hx hb dX1_noise_3 rfl (lv_at hl 0 rfl) ?_
  refine va_get (D := gD Γ) (cl := vwCl) (tys := gTy Γ) (ci := 1) (v := .int (lNow σ)) (C := RX1) (T := TX1) (N := 9) hx hb hts iX1_noise_1 hown hK hP 0 rfl rfl 0 (Nat.le_of_ble_eq_true rfl) (hts (.fieldLink RX1 9 "DeadTimeLoop$Loop" "now" "I") (List.mem_of_getElem? (i := 2) rfl)) (fun _ h9 => h9) rfl dX1_noise_4 ?_
  refine lv_i2l (v := (lNow σ).toInt64) hx hb dX1_noise_7 rfl ?_
  refine lv_lmul hx hb dX1_noise_8 ?_
  refine lv_ldc2 hx hb hown (hts (.constantLong RX1 128 (6151)) (List.mem_of_getElem? (i := 3) rfl)) dX1_noise_9 ?_
  refine lv_aload_n hx hb dX1_noise_12 rfl (lv_at hl 0 rfl) ?_
  refine va_get (D := gD Γ) (cl := vwCl) (tys := gTy Γ) (ci := 1) (v := .int (lSeed σ)) (C := RX1) (T := TX1) (N := 9) hx hb hts iX1_noise_1 hown hK hP 0 rfl rfl 2 (Nat.le_of_ble_eq_true rfl) (hts (.fieldLink RX1 18 "DeadTimeLoop$Loop" "seed" "I") (List.mem_of_getElem? (i := 4) rfl)) (fun _ h9 => h9) rfl dX1_noise_13 ?_
  refine lv_i2l (v := (lSeed σ).toInt64) hx hb dX1_noise_16 rfl ?_
  refine lv_lmul hx hb dX1_noise_17 ?_
  refine lv_ladd hx hb dX1_noise_18 ?_
  refine lv_lconst (v := 1) hx hb dX1_noise_19 (by decide) ?_
  refine lv_ladd hx hb dX1_noise_20 ?_
  refine lv_topl (fun r_21 er_21 => ?_)
  refine lv_lstore_n (lv' := [(2, .long r_21), (0, .ref (a b)), (1, .int amp)]) hx hb dX1_noise_21 rfl hl (by decide) rfl (fun ls hl => ?_)
  refine lv_ldc2 hx hb hown (hts (.constantLong RX1 130 (2)) (List.mem_of_getElem? (i := 5) rfl)) dX1_noise_22 ?_
  refine lv_iload_n hx hb dX1_noise_25 rfl (lv_at hl 2 rfl) ?_
  refine lv_i2l (v := amp.toInt64) hx hb dX1_noise_26 rfl ?_
  refine lv_lmul hx hb dX1_noise_27 ?_
  refine lv_lconst (v := 1) hx hb dX1_noise_28 (by decide) ?_
  refine lv_ladd hx hb dX1_noise_29 ?_
  refine lv_lstore (lv' := [(4, .long ((2 * (amp.toInt64)) + 1)), (2, .long r_21), (0, .ref (a b)), (1, .int amp)]) hx hb dX1_noise_30 hl (by decide) rfl (fun ls hl => ?_)
  refine lv_lload hx hb dX1_noise_32 (lv_at hl 0 rfl) ?_
  refine lv_lconst (v := 1) hx hb dX1_noise_34 (by decide) ?_
  refine W.lcmp hx hb dX1_noise_35 ?_
  refine lv_if_ge (tgt := 43) hx hb dX1_noise_36 (by decide) (fun c_36 => ?_) (fun c_36 => ?_)
  · -- yes
    have c_36 := (lg_cmp_ge _ _).mp c_36
    refine lv_lload_n hx hb dX1_noise_43 rfl (lv_at hl 1 rfl) ?_
    refine lv_lload_n hx hb dX1_noise_44 rfl (lv_at hl 1 rfl) ?_
    refine lv_lmul hx hb dX1_noise_45 ?_
    refine lv_ldc2 hx hb hown (hts (.constantLong RX1 132 (65521)) (List.mem_of_getElem? (i := 6) rfl)) dX1_noise_46 ?_
    refine lv_lrem hx hb dX1_noise_49 (by decide) ?_
    refine lv_lload hx hb dX1_noise_50 (lv_at hl 0 rfl) ?_
    refine lv_lrem hx hb dX1_noise_52 (ne_of_1le c_36) ?_
    refine lv_iload_n hx hb dX1_noise_53 rfl (lv_at hl 3 rfl) ?_
    refine lv_i2l (v := amp.toInt64) hx hb dX1_noise_54 rfl ?_
    refine lv_lsub hx hb dX1_noise_55 ?_
    refine lv_l2i (v := ((lRem (lRem (r_21 * r_21) 65521) ((2 * (amp.toInt64)) + 1)) - (amp.toInt64)).toInt32) hx hb dX1_noise_56 rfl ?_
    exact re_i hQ ha hx hb hr hlk hAe hP hS dX1_noise_57 (by subst er_21; first | rfl | simp [fNoise, c_36]) (by subst er_21; first | rfl | simp [fNoise, c_36])
  · -- no
    have c_36 := mt (lg_cmp_ge _ _).mpr c_36
    refine lv_iconst (v := 0) hx hb dX1_noise_39 (by decide) ?_
    refine lv_goto (tgt := 57) hx hb dX1_noise_40 (by decide) ?_
    exact re_i hQ ha hx hb hr hlk hAe hP hS dX1_noise_57 (by subst er_21; first | rfl | simp [fNoise, c_36]) (by subst er_21; first | rfl | simp [fNoise, c_36])
def rm_X1_delayed : Room := { frames := 2, cells := 0, slots := 0, locals := 44 }
theorem iX1_delayed_1 : ∀ w ∈ u_ws RX1 TX1 9, w ∈ wsX1_delayed := fun w h => (List.mem_cons_of_mem _ (List.mem_append_right _ h))
set_option maxHeartbeats 4000000 in
set_option maxRecDepth 100000 in
theorem c_X1_delayed (Γ : gT) (l : Launch) (a : Nat → Nat) (b : Nat) (σ : Lop) (sg : Int32) (val : Int32) (tenths : Int32)  : Ci Γ l yX1_delayed wsX1_delayed rm_X1_delayed [.ref (a b), .int sg, .int val, .int tenths] (lopW Γ a b σ) (fDelay (lNow σ) (lRecs σ) sg val tenths) (lopW Γ a b σ) := by
  refine Ci.of (cc := cX1_delayed) (own := RX1) (nL := 10) (ret := (some .int)) (by decide +kernel) rfl rfl (Nat.le_of_ble_eq_true rfl) ?_
  intro p e s m args below meth c A Q H locs ls ha hAe hQ hx hb hml hr hts hown hlk hP hK hD hS hA hG hl
  have hh : Hd Γ p s m args c cX1_delayed RX1 10 wsX1_delayed A := ⟨⟨hx, hb, hml, hown, hts⟩, hK, hA, hG⟩
  have hl : lv_has ls 10 [(0, .ref (a b)), (1, .int sg), (2, .int val), (3, .int tenths)] := hl
  refine lv_iload_n hx hb dX1_delayed_0 rfl (lv_at hl 3 rfl) ?_
  refine lv_bipush (v := 10) hx hb dX1_delayed_1 (by decide) ?_
  refine lv_idiv hx hb dX1_delayed_3 (by decide) ?_
  refine lv_istore (lv' := [(4, .int (tenths / 10)), (0, .ref (a b)), (1, .int sg), (2, .int val), (3, .int tenths)]) hx hb dX1_delayed_4 hl (by decide) rfl (fun ls hl => ?_)
  refine lv_iload_n hx hb dX1_delayed_6 rfl (lv_at hl 4 rfl) ?_
  refine lv_bipush (v := 10) hx hb dX1_delayed_7 (by decide) ?_
  refine lv_irem hx hb dX1_delayed_9 (by decide) ?_
  refine lv_istore (lv' := [(5, .int (iRem tenths 10)), (4, .int (tenths / 10)), (0, .ref (a b)), (1, .int sg), (2, .int val), (3, .int tenths)]) hx hb dX1_delayed_10 hl (by decide) rfl (fun ls hl => ?_)
  refine lv_iload hx hb dX1_delayed_12 (lv_at hl 1 rfl) ?_
  refine lv_if_ne (tgt := 22) hx hb dX1_delayed_14 (by decide) (fun c_14 => ?_) (fun c_14 => ?_)
  · -- yes
    refine lv_aload_n hx hb dX1_delayed_22 rfl (lv_at hl 2 rfl) ?_
    refine lv_iload_n hx hb dX1_delayed_23 rfl (lv_at hl 3 rfl) ?_
    refine lv_aload_n hx hb dX1_delayed_24 rfl (lv_at hl 2 rfl) ?_
    refine va_get (D := gD Γ) (cl := vwCl) (tys := gTy Γ) (ci := 1) (v := .int (lNow σ)) (C := RX1) (T := TX1) (N := 9) hx hb hts iX1_delayed_1 hown hK hP 0 rfl rfl 0 (Nat.le_of_ble_eq_true rfl) (hts (.fieldLink RX1 9 "DeadTimeLoop$Loop" "now" "I") (List.mem_of_getElem? (i := 1) rfl)) (fun _ h9 => h9) rfl dX1_delayed_25 ?_
    refine lv_iload hx hb dX1_delayed_28 (lv_at hl 1 rfl) ?_
    refine lv_isub hx hb dX1_delayed_30 ?_
    refine ca_Vi hh hl.1 (c_X1_recordOf Γ l a b σ sg ((lNow σ) - (tenths / 10))) (cwV 2 hts gX1_delayed_X1_recordOf rfl rfl rfl (by decide +kernel) ⟨(Nat.le_of_ble_eq_true rfl), (Nat.le_of_ble_eq_true rfl)⟩) (As := [.int sg, .int ((lNow σ) - (tenths / 10))]) (rest := []) rfl dX1_delayed_31 rfl (Nat.le_of_ble_eq_true rfl) hP hD hS [0, 1, 2, 3, 4, 5, 6, 7, 8] rfl rfl (q0 := 0) (ci := 1) rfl rfl rfl rfl (wf := lopW Γ a b σ) rfl rfl ⟨Nat.zero_le _, Nat.zero_le _⟩ (fun H locs hP hD hS => ?_)
    refine lv_i2l (v := (fRec (lNow σ) (lRecs σ) sg ((lNow σ) - (tenths / 10))).toInt64) hx hb dX1_delayed_34 rfl ?_
    refine lv_lstore (lv' := [(6, .long ((fRec (lNow σ) (lRecs σ) sg ((lNow σ) - (tenths / 10))).toInt64)), (5, .int (iRem tenths 10)), (4, .int (tenths / 10)), (0, .ref (a b)), (1, .int sg), (2, .int val), (3, .int tenths)]) hx hb dX1_delayed_35 hl (by decide) rfl (fun ls hl => ?_)
    refine lv_aload_n hx hb dX1_delayed_37 rfl (lv_at hl 3 rfl) ?_
    refine lv_iload_n hx hb dX1_delayed_38 rfl (lv_at hl 4 rfl) ?_
    refine lv_aload_n hx hb dX1_delayed_39 rfl (lv_at hl 3 rfl) ?_
    refine va_get (D := gD Γ) (cl := vwCl) (tys := gTy Γ) (ci := 1) (v := .int (lNow σ)) (C := RX1) (T := TX1) (N := 9) hx hb hts iX1_delayed_1 hown hK hP 0 rfl rfl 0 (Nat.le_of_ble_eq_true rfl) (hts (.fieldLink RX1 9 "DeadTimeLoop$Loop" "now" "I") (List.mem_of_getElem? (i := 1) rfl)) (fun _ h9 => h9) rfl dX1_delayed_40 ?_
    refine lv_iload hx hb dX1_delayed_43 (lv_at hl 2 rfl) ?_
    refine lv_isub hx hb dX1_delayed_45 ?_
    refine lv_iconst (v := 1) hx hb dX1_delayed_46 (by decide) ?_
    refine lv_isub hx hb dX1_delayed_47 ?_
    refine ca_Vi hh hl.1 (c_X1_recordOf Γ l a b σ sg (((lNow σ) - (tenths / 10)) - 1)) (cwV 2 hts gX1_delayed_X1_recordOf rfl rfl rfl (by decide +kernel) ⟨(Nat.le_of_ble_eq_true rfl), (Nat.le_of_ble_eq_true rfl)⟩) (As := [.int sg, .int (((lNow σ) - (tenths / 10)) - 1)]) (rest := []) rfl dX1_delayed_48 rfl (Nat.le_of_ble_eq_true rfl) hP hD hS [0, 1, 2, 3, 4, 5, 6, 7, 8] rfl rfl (q0 := 0) (ci := 1) rfl rfl rfl rfl (wf := lopW Γ a b σ) rfl rfl ⟨Nat.zero_le _, Nat.zero_le _⟩ (fun H locs hP hD hS => ?_)
    refine lv_i2l (v := (fRec (lNow σ) (lRecs σ) sg (((lNow σ) - (tenths / 10)) - 1)).toInt64) hx hb dX1_delayed_51 rfl ?_
    refine lv_lstore (lv' := [(8, .long ((fRec (lNow σ) (lRecs σ) sg (((lNow σ) - (tenths / 10)) - 1)).toInt64)), (6, .long ((fRec (lNow σ) (lRecs σ) sg ((lNow σ) - (tenths / 10))).toInt64)), (5, .int (iRem tenths 10)), (4, .int (tenths / 10)), (0, .ref (a b)), (1, .int sg), (2, .int val), (3, .int tenths)]) hx hb dX1_delayed_52 hl (by decide) rfl (fun ls hl => ?_)
    refine lv_lload hx hb dX1_delayed_54 (lv_at hl 1 rfl) ?_
    refine lv_bipush (v := 10) hx hb dX1_delayed_56 (by decide) ?_
    refine lv_iload hx hb dX1_delayed_58 (lv_at hl 2 rfl) ?_
    refine lv_isub hx hb dX1_delayed_60 ?_
    refine lv_i2l (v := (10 - (iRem tenths 10)).toInt64) hx hb dX1_delayed_61 rfl ?_
    refine lv_lmul hx hb dX1_delayed_62 ?_
    refine lv_lload hx hb dX1_delayed_63 (lv_at hl 0 rfl) ?_
    refine lv_iload hx hb dX1_delayed_65 (lv_at hl 2 rfl) ?_
    refine lv_i2l (v := (iRem tenths 10).toInt64) hx hb dX1_delayed_67 rfl ?_
    refine lv_lmul hx hb dX1_delayed_68 ?_
    refine lv_ladd hx hb dX1_delayed_69 ?_
    refine lv_ldc2 hx hb hown (hts (.constantLong RX1 134 (10)) (List.mem_of_getElem? (i := 2) rfl)) dX1_delayed_70 ?_
    refine ca_Sl hh hl.1 (c_J9_floorDiv_f86c9 Γ l ((((fRec (lNow σ) (lRecs σ) sg ((lNow σ) - (tenths / 10))).toInt64) * ((10 - (iRem tenths 10)).toInt64)) + (((fRec (lNow σ) (lRecs σ) sg (((lNow σ) - (tenths / 10)) - 1)).toInt64) * ((iRem tenths 10).toInt64))) 10 (by decide)) (va_cwS 2 hts gX1_delayed_J9_floorDiv_f86c9 rfl rfl rfl (by decide +kernel) ⟨(Nat.le_of_ble_eq_true rfl), (Nat.le_of_ble_eq_true rfl)⟩) (As := [.long ((((fRec (lNow σ) (lRecs σ) sg ((lNow σ) - (tenths / 10))).toInt64) * ((10 - (iRem tenths 10)).toInt64)) + (((fRec (lNow σ) (lRecs σ) sg (((lNow σ) - (tenths / 10)) - 1)).toInt64) * ((iRem tenths 10).toInt64))), .long 10]) (rest := []) rfl dX1_delayed_73 rfl (Nat.le_of_ble_eq_true rfl) hP hD hS ⟨Nat.zero_le _, Nat.zero_le _⟩ (fun H locs hP hS => ?_)
    refine lv_l2i (v := (kFdiv ((((fRec (lNow σ) (lRecs σ) sg ((lNow σ) - (tenths / 10))).toInt64) * ((10 - (iRem tenths 10)).toInt64)) + (((fRec (lNow σ) (lRecs σ) sg (((lNow σ) - (tenths / 10)) - 1)).toInt64) * ((iRem tenths 10).toInt64))) 10).toInt32) hx hb dX1_delayed_76 rfl ?_
    exact re_i hQ ha hx hb hr hlk hAe hP hS dX1_delayed_77 (by skip; first | rfl | simp [fDelay, fDelNew, fDel2, c_14]) (by skip; first | rfl | simp [fDelay, fDelNew, fDel2, c_14])
  · -- no
    refine lv_iload_n hx hb dX1_delayed_17 rfl (lv_at hl 4 rfl) ?_
    refine lv_i2l (v := val.toInt64) hx hb dX1_delayed_18 rfl ?_
    refine lv_goto (tgt := 35) hx hb dX1_delayed_19 (by decide) ?_
    refine lv_lstore (lv' := [(6, .long (val.toInt64)), (5, .int (iRem tenths 10)), (4, .int (tenths / 10)), (0, .ref (a b)), (1, .int sg), (2, .int val), (3, .int tenths)]) hx hb dX1_delayed_35 hl (by decide) rfl (fun ls hl => ?_)
    refine lv_aload_n hx hb dX1_delayed_37 rfl (lv_at hl 3 rfl) ?_
    refine lv_iload_n hx hb dX1_delayed_38 rfl (lv_at hl 4 rfl) ?_
    refine lv_aload_n hx hb dX1_delayed_39 rfl (lv_at hl 3 rfl) ?_
    refine va_get (D := gD Γ) (cl := vwCl) (tys := gTy Γ) (ci := 1) (v := .int (lNow σ)) (C := RX1) (T := TX1) (N := 9) hx hb hts iX1_delayed_1 hown hK hP 0 rfl rfl 0 (Nat.le_of_ble_eq_true rfl) (hts (.fieldLink RX1 9 "DeadTimeLoop$Loop" "now" "I") (List.mem_of_getElem? (i := 1) rfl)) (fun _ h9 => h9) rfl dX1_delayed_40 ?_
    refine lv_iload hx hb dX1_delayed_43 (lv_at hl 2 rfl) ?_
    refine lv_isub hx hb dX1_delayed_45 ?_
    refine lv_iconst (v := 1) hx hb dX1_delayed_46 (by decide) ?_
    refine lv_isub hx hb dX1_delayed_47 ?_
    refine ca_Vi hh hl.1 (c_X1_recordOf Γ l a b σ sg (((lNow σ) - (tenths / 10)) - 1)) (cwV 2 hts gX1_delayed_X1_recordOf rfl rfl rfl (by decide +kernel) ⟨(Nat.le_of_ble_eq_true rfl), (Nat.le_of_ble_eq_true rfl)⟩) (As := [.int sg, .int (((lNow σ) - (tenths / 10)) - 1)]) (rest := []) rfl dX1_delayed_48 rfl (Nat.le_of_ble_eq_true rfl) hP hD hS [0, 1, 2, 3, 4, 5, 6, 7, 8] rfl rfl (q0 := 0) (ci := 1) rfl rfl rfl rfl (wf := lopW Γ a b σ) rfl rfl ⟨Nat.zero_le _, Nat.zero_le _⟩ (fun H locs hP hD hS => ?_)
    refine lv_i2l (v := (fRec (lNow σ) (lRecs σ) sg (((lNow σ) - (tenths / 10)) - 1)).toInt64) hx hb dX1_delayed_51 rfl ?_
    refine lv_lstore (lv' := [(8, .long ((fRec (lNow σ) (lRecs σ) sg (((lNow σ) - (tenths / 10)) - 1)).toInt64)), (6, .long (val.toInt64)), (5, .int (iRem tenths 10)), (4, .int (tenths / 10)), (0, .ref (a b)), (1, .int sg), (2, .int val), (3, .int tenths)]) hx hb dX1_delayed_52 hl (by decide) rfl (fun ls hl => ?_)
    refine lv_lload hx hb dX1_delayed_54 (lv_at hl 1 rfl) ?_
    refine lv_bipush (v := 10) hx hb dX1_delayed_56 (by decide) ?_
    refine lv_iload hx hb dX1_delayed_58 (lv_at hl 2 rfl) ?_
    refine lv_isub hx hb dX1_delayed_60 ?_
    refine lv_i2l (v := (10 - (iRem tenths 10)).toInt64) hx hb dX1_delayed_61 rfl ?_
    refine lv_lmul hx hb dX1_delayed_62 ?_
    refine lv_lload hx hb dX1_delayed_63 (lv_at hl 0 rfl) ?_
    refine lv_iload hx hb dX1_delayed_65 (lv_at hl 2 rfl) ?_
    refine lv_i2l (v := (iRem tenths 10).toInt64) hx hb dX1_delayed_67 rfl ?_
    refine lv_lmul hx hb dX1_delayed_68 ?_
    refine lv_ladd hx hb dX1_delayed_69 ?_
    refine lv_ldc2 hx hb hown (hts (.constantLong RX1 134 (10)) (List.mem_of_getElem? (i := 2) rfl)) dX1_delayed_70 ?_
    refine ca_Sl hh hl.1 (c_J9_floorDiv_f86c9 Γ l (((val.toInt64) * ((10 - (iRem tenths 10)).toInt64)) + (((fRec (lNow σ) (lRecs σ) sg (((lNow σ) - (tenths / 10)) - 1)).toInt64) * ((iRem tenths 10).toInt64))) 10 (by decide)) (va_cwS 2 hts gX1_delayed_J9_floorDiv_f86c9 rfl rfl rfl (by decide +kernel) ⟨(Nat.le_of_ble_eq_true rfl), (Nat.le_of_ble_eq_true rfl)⟩) (As := [.long (((val.toInt64) * ((10 - (iRem tenths 10)).toInt64)) + (((fRec (lNow σ) (lRecs σ) sg (((lNow σ) - (tenths / 10)) - 1)).toInt64) * ((iRem tenths 10).toInt64))), .long 10]) (rest := []) rfl dX1_delayed_73 rfl (Nat.le_of_ble_eq_true rfl) hP hD hS ⟨Nat.zero_le _, Nat.zero_le _⟩ (fun H locs hP hS => ?_)
    refine lv_l2i (v := (kFdiv (((val.toInt64) * ((10 - (iRem tenths 10)).toInt64)) + (((fRec (lNow σ) (lRecs σ) sg (((lNow σ) - (tenths / 10)) - 1)).toInt64) * ((iRem tenths 10).toInt64))) 10).toInt32) hx hb dX1_delayed_76 rfl ?_
    exact re_i hQ ha hx hb hr hlk hAe hP hS dX1_delayed_77 (by skip; first | rfl | simp [fDelay, fDelNew, fDel2, c_14]) (by skip; first | rfl | simp [fDelay, fDelNew, fDel2, c_14])
def rm_X1_judge : Room := { frames := 0, cells := 0, slots := 0, locals := 0 }
theorem iX1_judge_1 : ∀ w ∈ u_ws RX1 TX1 9, w ∈ wsX1_judge := fun w h => (List.mem_cons_of_mem _ (List.mem_append_right _ h))
set_option maxHeartbeats 4000000 in
set_option maxRecDepth 100000 in
theorem c_X1_judge (Γ : gT) (l : Launch) (a : Nat → Nat) (b : Nat) (σ : Lop) (isBad : Int32) (pat : Int32)  : Cv Γ l yX1_judge wsX1_judge rm_X1_judge [.ref (a b), .int isBad, .int pat] (lopW Γ a b σ) (lopW Γ a b (fJudge σ isBad pat)) := by
  refine Cv.of (cc := cX1_judge) (own := RX1) (nL := 5) (ret := none) (by decide +kernel) rfl rfl (Nat.le_of_ble_eq_true rfl) ?_
  intro p e s m args below meth c A Q H locs ls ha hAe hQ hx hb hml hr hts hown hlk hP hK hD hS hA hG hl
  have hh : Hd Γ p s m args c cX1_judge RX1 5 wsX1_judge A := ⟨⟨hx, hb, hml, hown, hts⟩, hK, hA, hG⟩
  have hl : lv_has ls 5 [(0, .ref (a b)), (1, .int isBad), (2, .int pat)] := hl
  refine lv_aload_n hx hb dX1_judge_0 rfl (lv_at hl 0 rfl) ?_
  refine lv_iload_n hx hb dX1_judge_1 rfl (lv_at hl 1 rfl) ?_
  refine lv_if_eq (tgt := 14) hx hb dX1_judge_2 (by decide) (fun c_2 => ?_) (fun c_2 => ?_)
  · -- yes
    refine lv_iconst (v := 0) hx hb dX1_judge_14 (by decide) ?_
    refine va_put (D := gD Γ) (cl := vwCl) (tys := gTy Γ) (ci := 1) (v := .int 0) (ty := tyX1 3) (C := RX1) (T := TX1) (N := 9) hx hb hts iX1_judge_1 tyX1 tyX1_ok nmX1 hown hK hP hD hS 0 rfl rfl 3 (Nat.le_of_ble_eq_true rfl) (hts (.fieldLink RX1 21 "DeadTimeLoop$Loop" "badTicks" "I") (List.mem_of_getElem? (i := 1) rfl)) (fun _ h9 => h9) rfl (tyX1_ok 3 (Nat.le_of_ble_eq_true rfl)) rfl rfl (Nat.le_of_ble_eq_true rfl) dX1_judge_15 (fun H locs hP hD hS => ?_)
    have hP : va_P (gD Γ) vwCl (lopW Γ a b ((lNow σ), (lLoad σ), (lSeed σ), 0, (lGood σ), (lPres σ), (lRecs σ), (lSec σ), (lWat σ))) H := hP
    have hD : va_D A (lopW Γ a b ((lNow σ), (lLoad σ), (lSeed σ), 0, (lGood σ), (lPres σ), (lRecs σ), (lSec σ), (lWat σ))) := hD
    refine lv_aload_n hx hb dX1_judge_18 rfl (lv_at hl 0 rfl) ?_
    refine lv_iload_n hx hb dX1_judge_19 rfl (lv_at hl 1 rfl) ?_
    refine lv_if_eq (tgt := 27) hx hb dX1_judge_20 (by decide) (fun _ => ?_) (fun c => absurd c_2 c)
    refine lv_aload_n hx hb dX1_judge_27 rfl (lv_at hl 0 rfl) ?_
    refine va_get (D := gD Γ) (cl := vwCl) (tys := gTy Γ) (ci := 1) (v := .int (lGood σ)) (C := RX1) (T := TX1) (N := 9) hx hb hts iX1_judge_1 hown hK hP 0 rfl rfl 4 (Nat.le_of_ble_eq_true rfl) (hts (.fieldLink RX1 24 "DeadTimeLoop$Loop" "goodTicks" "I") (List.mem_of_getElem? (i := 2) rfl)) (fun _ h9 => h9) rfl dX1_judge_28 ?_
    refine lv_iconst (v := 1) hx hb dX1_judge_31 (by decide) ?_
    refine lv_iadd hx hb dX1_judge_32 ?_
    refine va_put (D := gD Γ) (cl := vwCl) (tys := gTy Γ) (ci := 1) (v := .int ((lGood σ) + 1)) (ty := tyX1 4) (C := RX1) (T := TX1) (N := 9) hx hb hts iX1_judge_1 tyX1 tyX1_ok nmX1 hown hK hP hD hS 0 rfl rfl 4 (Nat.le_of_ble_eq_true rfl) (hts (.fieldLink RX1 24 "DeadTimeLoop$Loop" "goodTicks" "I") (List.mem_of_getElem? (i := 2) rfl)) (fun _ h9 => h9) rfl (tyX1_ok 4 (Nat.le_of_ble_eq_true rfl)) rfl rfl (Nat.le_of_ble_eq_true rfl) dX1_judge_33 (fun H locs hP hD hS => ?_)
    have hP : va_P (gD Γ) vwCl (lopW Γ a b ((lNow σ), (lLoad σ), (lSeed σ), 0, ((lGood σ) + 1), (lPres σ), (lRecs σ), (lSec σ), (lWat σ))) H := hP
    have hD : va_D A (lopW Γ a b ((lNow σ), (lLoad σ), (lSeed σ), 0, ((lGood σ) + 1), (lPres σ), (lRecs σ), (lSec σ), (lWat σ))) := hD
    have hJ_59 : ∀ (v3 : Int32), (v3 = fRej ((lPres σ) 9) 0 pat) → ∀ (H : Heap) (locs : List Loc) (ls : Array Slot), va_P (gD Γ) vwCl (lopW Γ a b ((lNow σ), (lLoad σ), (lSeed σ), 0, ((lGood σ) + 1), (lPres σ), (lRecs σ), (lSec σ), (lWat σ))) H → va_D A (lopW Γ a b ((lNow σ), (lLoad σ), (lSeed σ), 0, ((lGood σ) + 1), (lPres σ), (lRecs σ), (lSec σ), (lWat σ))) → va_S A s.heap H locs → lv_has ls 5 [(0, .ref (a b)), (1, .int isBad), (2, .int pat)] → W p l e rm_X1_judge s m args below meth c H locs 0 0 Q (F0 m 59 ls [.int v3]) := by
      intro v3 e3 H locs ls hP hD hS hl
      refine lv_istore_n (lv' := [(3, .int v3), (0, .ref (a b)), (1, .int isBad), (2, .int pat)]) hx hb dX1_judge_59 rfl hl (by decide) rfl (fun ls hl => ?_)
      have hJ_86 : ∀ (v4 : Int32), (v4 = fTru ((lPres σ) 9) ((lGood σ) + 1) pat) → ∀ (H : Heap) (locs : List Loc) (ls : Array Slot), va_P (gD Γ) vwCl (lopW Γ a b ((lNow σ), (lLoad σ), (lSeed σ), 0, ((lGood σ) + 1), (lPres σ), (lRecs σ), (lSec σ), (lWat σ))) H → va_D A (lopW Γ a b ((lNow σ), (lLoad σ), (lSeed σ), 0, ((lGood σ) + 1), (lPres σ), (lRecs σ), (lSec σ), (lWat σ))) → va_S A s.heap H locs → lv_has ls 5 [(0, .ref (a b)), (1, .int isBad), (2, .int pat), (3, .int v3)] → W p l e rm_X1_judge s m args below meth c H locs 0 0 Q (F0 m 86 ls [.int v4]) := by
        intro v4 e4 H locs ls hP hD hS hl
        refine lv_istore (lv' := [(4, .int v4), (0, .ref (a b)), (1, .int isBad), (2, .int pat), (3, .int v3)]) hx hb dX1_judge_86 hl (by decide) rfl (fun ls hl => ?_)
        refine lv_iload_n hx hb dX1_judge_88 rfl (lv_at hl 4 rfl) ?_
        refine lv_if_ne (tgt := 97) hx hb dX1_judge_89 (by decide) (fun c_89 => ?_) (fun c_89 => ?_)
        · -- yes
          refine lv_aload_n hx hb dX1_judge_97 rfl (lv_at hl 1 rfl) ?_
          refine va_get (D := gD Γ) (cl := vwCl) (tys := gTy Γ) (ci := 1) (v := .ref (a (b + 1))) (C := RX1) (T := TX1) (N := 9) hx hb hts iX1_judge_1 hown hK hP 0 rfl rfl 5 (Nat.le_of_ble_eq_true rfl) (hts (.fieldLink RX1 27 "DeadTimeLoop$Loop" "present" "[I") (List.mem_of_getElem? (i := 3) rfl)) (fun _ h9 => h9) rfl dX1_judge_98 ?_
          refine lv_bipush (v := 9) hx hb dX1_judge_101 (by decide) ?_
          refine lv_iload_n hx hb dX1_judge_103 rfl (lv_at hl 4 rfl) ?_
          refine lv_if_eq (tgt := 111) hx hb dX1_judge_104 (by decide) (fun c => absurd c c_89) (fun _ => ?_)
          refine lv_iconst (v := 1) hx hb dX1_judge_107 (by decide) ?_
          refine lv_goto (tgt := 112) hx hb dX1_judge_108 (by decide) ?_
          refine ka_iast (D := gD Γ) (cl := vwCl) (tys := gTy Γ) hx hb hK hP hD hS 1 0 rfl rfl 9 (by decide) (by decide) (by decide) (wf := lopW Γ a b ((lNow σ), (lLoad σ), (lSeed σ), 0, ((lGood σ) + 1), (upd (lPres σ) 9 1), (lRecs σ), (lSec σ), (lWat σ))) rfl dX1_judge_112 (fun H locs hP hD hS => ?_)
          refine lv_aload_n hx hb dX1_judge_113 rfl (lv_at hl 1 rfl) ?_
          refine lv_iconst (v := 0) hx hb dX1_judge_114 (by decide) ?_
          refine va_put (D := gD Γ) (cl := vwCl) (tys := gTy Γ) (ci := 1) (v := .int 0) (ty := tyX1 3) (C := RX1) (T := TX1) (N := 9) hx hb hts iX1_judge_1 tyX1 tyX1_ok nmX1 hown hK hP hD hS 0 rfl rfl 3 (Nat.le_of_ble_eq_true rfl) (hts (.fieldLink RX1 21 "DeadTimeLoop$Loop" "badTicks" "I") (List.mem_of_getElem? (i := 1) rfl)) (fun _ h9 => h9) rfl (tyX1_ok 3 (Nat.le_of_ble_eq_true rfl)) rfl rfl (Nat.le_of_ble_eq_true rfl) dX1_judge_115 (fun H locs hP hD hS => ?_)
          have hP : va_P (gD Γ) vwCl (lopW Γ a b ((lNow σ), (lLoad σ), (lSeed σ), 0, ((lGood σ) + 1), (upd (lPres σ) 9 1), (lRecs σ), (lSec σ), (lWat σ))) H := hP
          have hD : va_D A (lopW Γ a b ((lNow σ), (lLoad σ), (lSeed σ), 0, ((lGood σ) + 1), (upd (lPres σ) 9 1), (lRecs σ), (lSec σ), (lWat σ))) := hD
          refine lv_aload_n hx hb dX1_judge_118 rfl (lv_at hl 1 rfl) ?_
          refine lv_iconst (v := 0) hx hb dX1_judge_119 (by decide) ?_
          refine va_put (D := gD Γ) (cl := vwCl) (tys := gTy Γ) (ci := 1) (v := .int 0) (ty := tyX1 4) (C := RX1) (T := TX1) (N := 9) hx hb hts iX1_judge_1 tyX1 tyX1_ok nmX1 hown hK hP hD hS 0 rfl rfl 4 (Nat.le_of_ble_eq_true rfl) (hts (.fieldLink RX1 24 "DeadTimeLoop$Loop" "goodTicks" "I") (List.mem_of_getElem? (i := 2) rfl)) (fun _ h9 => h9) rfl (tyX1_ok 4 (Nat.le_of_ble_eq_true rfl)) rfl rfl (Nat.le_of_ble_eq_true rfl) dX1_judge_120 (fun H locs hP hD hS => ?_)
          have hP : va_P (gD Γ) vwCl (lopW Γ a b ((lNow σ), (lLoad σ), (lSeed σ), 0, 0, (upd (lPres σ) 9 1), (lRecs σ), (lSec σ), (lWat σ))) H := hP
          have hD : va_D A (lopW Γ a b ((lNow σ), (lLoad σ), (lSeed σ), 0, 0, (upd (lPres σ) 9 1), (lRecs σ), (lSec σ), (lWat σ))) := hD
          exact re_v hQ ha hx hb hr hlk hAe hP hS dX1_judge_123 (by subst e4; subst e3; first | rfl | simp [fJudge, fJudge2, fBad, fGood, c_2, c_89])
        · -- no
          refine lv_iload hx hb dX1_judge_92 (lv_at hl 0 rfl) ?_
          refine lv_if_eq (tgt := 123) hx hb dX1_judge_94 (by decide) (fun c_94 => ?_) (fun c_94 => ?_)
          · -- yes
            exact re_v hQ ha hx hb hr hlk hAe hP hS dX1_judge_123 (by subst e4; subst e3; first | rfl | simp [fJudge, fJudge2, fBad, fGood, c_2, c_89, c_94])
          · -- no
            refine lv_aload_n hx hb dX1_judge_97 rfl (lv_at hl 1 rfl) ?_
            refine va_get (D := gD Γ) (cl := vwCl) (tys := gTy Γ) (ci := 1) (v := .ref (a (b + 1))) (C := RX1) (T := TX1) (N := 9) hx hb hts iX1_judge_1 hown hK hP 0 rfl rfl 5 (Nat.le_of_ble_eq_true rfl) (hts (.fieldLink RX1 27 "DeadTimeLoop$Loop" "present" "[I") (List.mem_of_getElem? (i := 3) rfl)) (fun _ h9 => h9) rfl dX1_judge_98 ?_
            refine lv_bipush (v := 9) hx hb dX1_judge_101 (by decide) ?_
            refine lv_iload_n hx hb dX1_judge_103 rfl (lv_at hl 4 rfl) ?_
            refine lv_if_eq (tgt := 111) hx hb dX1_judge_104 (by decide) (fun _ => ?_) (fun c => absurd c_89 c)
            refine lv_iconst (v := 0) hx hb dX1_judge_111 (by decide) ?_
            refine ka_iast (D := gD Γ) (cl := vwCl) (tys := gTy Γ) hx hb hK hP hD hS 1 0 rfl rfl 9 (by decide) (by decide) (by decide) (wf := lopW Γ a b ((lNow σ), (lLoad σ), (lSeed σ), 0, ((lGood σ) + 1), (upd (lPres σ) 9 0), (lRecs σ), (lSec σ), (lWat σ))) rfl dX1_judge_112 (fun H locs hP hD hS => ?_)
            refine lv_aload_n hx hb dX1_judge_113 rfl (lv_at hl 1 rfl) ?_
            refine lv_iconst (v := 0) hx hb dX1_judge_114 (by decide) ?_
            refine va_put (D := gD Γ) (cl := vwCl) (tys := gTy Γ) (ci := 1) (v := .int 0) (ty := tyX1 3) (C := RX1) (T := TX1) (N := 9) hx hb hts iX1_judge_1 tyX1 tyX1_ok nmX1 hown hK hP hD hS 0 rfl rfl 3 (Nat.le_of_ble_eq_true rfl) (hts (.fieldLink RX1 21 "DeadTimeLoop$Loop" "badTicks" "I") (List.mem_of_getElem? (i := 1) rfl)) (fun _ h9 => h9) rfl (tyX1_ok 3 (Nat.le_of_ble_eq_true rfl)) rfl rfl (Nat.le_of_ble_eq_true rfl) dX1_judge_115 (fun H locs hP hD hS => ?_)
            have hP : va_P (gD Γ) vwCl (lopW Γ a b ((lNow σ), (lLoad σ), (lSeed σ), 0, ((lGood σ) + 1), (upd (lPres σ) 9 0), (lRecs σ), (lSec σ), (lWat σ))) H := hP
            have hD : va_D A (lopW Γ a b ((lNow σ), (lLoad σ), (lSeed σ), 0, ((lGood σ) + 1), (upd (lPres σ) 9 0), (lRecs σ), (lSec σ), (lWat σ))) := hD
            refine lv_aload_n hx hb dX1_judge_118 rfl (lv_at hl 1 rfl) ?_
            refine lv_iconst (v := 0) hx hb dX1_judge_119 (by decide) ?_
            refine va_put (D := gD Γ) (cl := vwCl) (tys := gTy Γ) (ci := 1) (v := .int 0) (ty := tyX1 4) (C := RX1) (T := TX1) (N := 9) hx hb hts iX1_judge_1 tyX1 tyX1_ok nmX1 hown hK hP hD hS 0 rfl rfl 4 (Nat.le_of_ble_eq_true rfl) (hts (.fieldLink RX1 24 "DeadTimeLoop$Loop" "goodTicks" "I") (List.mem_of_getElem? (i := 2) rfl)) (fun _ h9 => h9) rfl (tyX1_ok 4 (Nat.le_of_ble_eq_true rfl)) rfl rfl (Nat.le_of_ble_eq_true rfl) dX1_judge_120 (fun H locs hP hD hS => ?_)
            have hP : va_P (gD Γ) vwCl (lopW Γ a b ((lNow σ), (lLoad σ), (lSeed σ), 0, 0, (upd (lPres σ) 9 0), (lRecs σ), (lSec σ), (lWat σ))) H := hP
            have hD : va_D A (lopW Γ a b ((lNow σ), (lLoad σ), (lSeed σ), 0, 0, (upd (lPres σ) 9 0), (lRecs σ), (lSec σ), (lWat σ))) := hD
            exact re_v hQ ha hx hb hr hlk hAe hP hS dX1_judge_123 (by subst e4; subst e3; first | rfl | simp [fJudge, fJudge2, fBad, fGood, c_2, c_89, c_94])
      refine lv_aload_n hx hb dX1_judge_60 rfl (lv_at hl 1 rfl) ?_
      refine va_get (D := gD Γ) (cl := vwCl) (tys := gTy Γ) (ci := 1) (v := .ref (a (b + 1))) (C := RX1) (T := TX1) (N := 9) hx hb hts iX1_judge_1 hown hK hP 0 rfl rfl 5 (Nat.le_of_ble_eq_true rfl) (hts (.fieldLink RX1 27 "DeadTimeLoop$Loop" "present" "[I") (List.mem_of_getElem? (i := 3) rfl)) (fun _ h9 => h9) rfl dX1_judge_61 ?_
      refine lv_bipush (v := 9) hx hb dX1_judge_64 (by decide) ?_
      refine ka_iald (D := gD Γ) (cl := vwCl) (tys := gTy Γ) hx hb hK hP 1 0 rfl rfl 9 (by decide) (by decide) (by decide) (v := ((lPres σ) 9)) rfl dX1_judge_66 ?_
      refine lv_iconst (v := 1) hx hb dX1_judge_67 (by decide) ?_
      refine lv_icmp_ne (tgt := 85) hx hb dX1_judge_68 (by decide) (fun c_68 => ?_) (fun c_68 => ?_)
      · -- yes
        refine lv_iconst (v := 0) hx hb dX1_judge_85 (by decide) ?_
        exact hJ_86 _ (by simp [fTru, c_2, c_68]) _ _ _ hP hD hS (lv_sub hl [1, 2, 3, 0] rfl)
      · -- no
        refine lv_aload_n hx hb dX1_judge_71 rfl (lv_at hl 1 rfl) ?_
        refine va_get (D := gD Γ) (cl := vwCl) (tys := gTy Γ) (ci := 1) (v := .int ((lGood σ) + 1)) (C := RX1) (T := TX1) (N := 9) hx hb hts iX1_judge_1 hown hK hP 0 rfl rfl 4 (Nat.le_of_ble_eq_true rfl) (hts (.fieldLink RX1 24 "DeadTimeLoop$Loop" "goodTicks" "I") (List.mem_of_getElem? (i := 2) rfl)) (fun _ h9 => h9) rfl dX1_judge_72 ?_
        refine lv_iconst (v := 2) hx hb dX1_judge_75 (by decide) ?_
        refine lv_iload_n hx hb dX1_judge_76 rfl (lv_at hl 3 rfl) ?_
        refine lv_imul hx hb dX1_judge_77 ?_
        refine lv_icmp_lt (tgt := 85) hx hb dX1_judge_78 (by decide) (fun c_78 => ?_) (fun c_78 => ?_)
        · -- yes
          refine lv_iconst (v := 0) hx hb dX1_judge_85 (by decide) ?_
          exact hJ_86 _ (by simp [fTru, c_2, c_68, c_78]) _ _ _ hP hD hS (lv_sub hl [1, 2, 3, 0] rfl)
        · -- no
          refine lv_iconst (v := 1) hx hb dX1_judge_81 (by decide) ?_
          refine lv_goto (tgt := 86) hx hb dX1_judge_82 (by decide) ?_
          exact hJ_86 _ (by simp [fTru, c_2, c_68, c_78]) _ _ _ hP hD hS (lv_sub hl [1, 2, 3, 0] rfl)
    refine lv_aload_n hx hb dX1_judge_36 rfl (lv_at hl 0 rfl) ?_
    refine va_get (D := gD Γ) (cl := vwCl) (tys := gTy Γ) (ci := 1) (v := .ref (a (b + 1))) (C := RX1) (T := TX1) (N := 9) hx hb hts iX1_judge_1 hown hK hP 0 rfl rfl 5 (Nat.le_of_ble_eq_true rfl) (hts (.fieldLink RX1 27 "DeadTimeLoop$Loop" "present" "[I") (List.mem_of_getElem? (i := 3) rfl)) (fun _ h9 => h9) rfl dX1_judge_37 ?_
    refine lv_bipush (v := 9) hx hb dX1_judge_40 (by decide) ?_
    refine ka_iald (D := gD Γ) (cl := vwCl) (tys := gTy Γ) hx hb hK hP 1 0 rfl rfl 9 (by decide) (by decide) (by decide) (v := ((lPres σ) 9)) rfl dX1_judge_42 ?_
    refine lv_if_ne (tgt := 58) hx hb dX1_judge_43 (by decide) (fun c_43 => ?_) (fun c_43 => ?_)
    · -- yes
      refine lv_iconst (v := 0) hx hb dX1_judge_58 (by decide) ?_
      exact hJ_59 _ (by simp [fRej, c_2, c_43]) _ _ _ hP hD hS (lv_sub hl [0, 1, 2] rfl)
    · -- no
      refine lv_aload_n hx hb dX1_judge_46 rfl (lv_at hl 0 rfl) ?_
      refine va_get (D := gD Γ) (cl := vwCl) (tys := gTy Γ) (ci := 1) (v := .int 0) (C := RX1) (T := TX1) (N := 9) hx hb hts iX1_judge_1 hown hK hP 0 rfl rfl 3 (Nat.le_of_ble_eq_true rfl) (hts (.fieldLink RX1 21 "DeadTimeLoop$Loop" "badTicks" "I") (List.mem_of_getElem? (i := 1) rfl)) (fun _ h9 => h9) rfl dX1_judge_47 ?_
      refine lv_iload_n hx hb dX1_judge_50 rfl (lv_at hl 2 rfl) ?_
      refine lv_icmp_lt (tgt := 58) hx hb dX1_judge_51 (by decide) (fun c_51 => ?_) (fun c_51 => ?_)
      · -- yes
        refine lv_iconst (v := 0) hx hb dX1_judge_58 (by decide) ?_
        exact hJ_59 _ (by simp [fRej, c_2, c_43, c_51]) _ _ _ hP hD hS (lv_sub hl [0, 1, 2] rfl)
      · -- no
        refine lv_iconst (v := 1) hx hb dX1_judge_54 (by decide) ?_
        refine lv_goto (tgt := 59) hx hb dX1_judge_55 (by decide) ?_
        exact hJ_59 _ (by simp [fRej, c_2, c_43, c_51]) _ _ _ hP hD hS (lv_sub hl [0, 1, 2] rfl)
  · -- no
    refine lv_aload_n hx hb dX1_judge_5 rfl (lv_at hl 0 rfl) ?_
    refine va_get (D := gD Γ) (cl := vwCl) (tys := gTy Γ) (ci := 1) (v := .int (lBad σ)) (C := RX1) (T := TX1) (N := 9) hx hb hts iX1_judge_1 hown hK hP 0 rfl rfl 3 (Nat.le_of_ble_eq_true rfl) (hts (.fieldLink RX1 21 "DeadTimeLoop$Loop" "badTicks" "I") (List.mem_of_getElem? (i := 1) rfl)) (fun _ h9 => h9) rfl dX1_judge_6 ?_
    refine lv_iconst (v := 1) hx hb dX1_judge_9 (by decide) ?_
    refine lv_iadd hx hb dX1_judge_10 ?_
    refine lv_goto (tgt := 15) hx hb dX1_judge_11 (by decide) ?_
    refine va_put (D := gD Γ) (cl := vwCl) (tys := gTy Γ) (ci := 1) (v := .int ((lBad σ) + 1)) (ty := tyX1 3) (C := RX1) (T := TX1) (N := 9) hx hb hts iX1_judge_1 tyX1 tyX1_ok nmX1 hown hK hP hD hS 0 rfl rfl 3 (Nat.le_of_ble_eq_true rfl) (hts (.fieldLink RX1 21 "DeadTimeLoop$Loop" "badTicks" "I") (List.mem_of_getElem? (i := 1) rfl)) (fun _ h9 => h9) rfl (tyX1_ok 3 (Nat.le_of_ble_eq_true rfl)) rfl rfl (Nat.le_of_ble_eq_true rfl) dX1_judge_15 (fun H locs hP hD hS => ?_)
    have hP : va_P (gD Γ) vwCl (lopW Γ a b ((lNow σ), (lLoad σ), (lSeed σ), ((lBad σ) + 1), (lGood σ), (lPres σ), (lRecs σ), (lSec σ), (lWat σ))) H := hP
    have hD : va_D A (lopW Γ a b ((lNow σ), (lLoad σ), (lSeed σ), ((lBad σ) + 1), (lGood σ), (lPres σ), (lRecs σ), (lSec σ), (lWat σ))) := hD
    refine lv_aload_n hx hb dX1_judge_18 rfl (lv_at hl 0 rfl) ?_
    refine lv_iload_n hx hb dX1_judge_19 rfl (lv_at hl 1 rfl) ?_
    refine lv_if_eq (tgt := 27) hx hb dX1_judge_20 (by decide) (fun c => absurd c c_2) (fun _ => ?_)
    refine lv_iconst (v := 0) hx hb dX1_judge_23 (by decide) ?_
    refine lv_goto (tgt := 33) hx hb dX1_judge_24 (by decide) ?_
    refine va_put (D := gD Γ) (cl := vwCl) (tys := gTy Γ) (ci := 1) (v := .int 0) (ty := tyX1 4) (C := RX1) (T := TX1) (N := 9) hx hb hts iX1_judge_1 tyX1 tyX1_ok nmX1 hown hK hP hD hS 0 rfl rfl 4 (Nat.le_of_ble_eq_true rfl) (hts (.fieldLink RX1 24 "DeadTimeLoop$Loop" "goodTicks" "I") (List.mem_of_getElem? (i := 2) rfl)) (fun _ h9 => h9) rfl (tyX1_ok 4 (Nat.le_of_ble_eq_true rfl)) rfl rfl (Nat.le_of_ble_eq_true rfl) dX1_judge_33 (fun H locs hP hD hS => ?_)
    have hP : va_P (gD Γ) vwCl (lopW Γ a b ((lNow σ), (lLoad σ), (lSeed σ), ((lBad σ) + 1), 0, (lPres σ), (lRecs σ), (lSec σ), (lWat σ))) H := hP
    have hD : va_D A (lopW Γ a b ((lNow σ), (lLoad σ), (lSeed σ), ((lBad σ) + 1), 0, (lPres σ), (lRecs σ), (lSec σ), (lWat σ))) := hD
    have hJ_59 : ∀ (v3 : Int32), (v3 = fRej ((lPres σ) 9) ((lBad σ) + 1) pat) → ∀ (H : Heap) (locs : List Loc) (ls : Array Slot), va_P (gD Γ) vwCl (lopW Γ a b ((lNow σ), (lLoad σ), (lSeed σ), ((lBad σ) + 1), 0, (lPres σ), (lRecs σ), (lSec σ), (lWat σ))) H → va_D A (lopW Γ a b ((lNow σ), (lLoad σ), (lSeed σ), ((lBad σ) + 1), 0, (lPres σ), (lRecs σ), (lSec σ), (lWat σ))) → va_S A s.heap H locs → lv_has ls 5 [(0, .ref (a b)), (1, .int isBad), (2, .int pat)] → W p l e rm_X1_judge s m args below meth c H locs 0 0 Q (F0 m 59 ls [.int v3]) := by
      intro v3 e3 H locs ls hP hD hS hl
      refine lv_istore_n (lv' := [(3, .int v3), (0, .ref (a b)), (1, .int isBad), (2, .int pat)]) hx hb dX1_judge_59 rfl hl (by decide) rfl (fun ls hl => ?_)
      have hJ_86 : ∀ (v4 : Int32), (v4 = fTru ((lPres σ) 9) 0 pat) → ∀ (H : Heap) (locs : List Loc) (ls : Array Slot), va_P (gD Γ) vwCl (lopW Γ a b ((lNow σ), (lLoad σ), (lSeed σ), ((lBad σ) + 1), 0, (lPres σ), (lRecs σ), (lSec σ), (lWat σ))) H → va_D A (lopW Γ a b ((lNow σ), (lLoad σ), (lSeed σ), ((lBad σ) + 1), 0, (lPres σ), (lRecs σ), (lSec σ), (lWat σ))) → va_S A s.heap H locs → lv_has ls 5 [(0, .ref (a b)), (1, .int isBad), (2, .int pat), (3, .int v3)] → W p l e rm_X1_judge s m args below meth c H locs 0 0 Q (F0 m 86 ls [.int v4]) := by
        intro v4 e4 H locs ls hP hD hS hl
        refine lv_istore (lv' := [(4, .int v4), (0, .ref (a b)), (1, .int isBad), (2, .int pat), (3, .int v3)]) hx hb dX1_judge_86 hl (by decide) rfl (fun ls hl => ?_)
        refine lv_iload_n hx hb dX1_judge_88 rfl (lv_at hl 4 rfl) ?_
        refine lv_if_ne (tgt := 97) hx hb dX1_judge_89 (by decide) (fun c_89b => ?_) (fun c_89b => ?_)
        · -- yes
          refine lv_aload_n hx hb dX1_judge_97 rfl (lv_at hl 1 rfl) ?_
          refine va_get (D := gD Γ) (cl := vwCl) (tys := gTy Γ) (ci := 1) (v := .ref (a (b + 1))) (C := RX1) (T := TX1) (N := 9) hx hb hts iX1_judge_1 hown hK hP 0 rfl rfl 5 (Nat.le_of_ble_eq_true rfl) (hts (.fieldLink RX1 27 "DeadTimeLoop$Loop" "present" "[I") (List.mem_of_getElem? (i := 3) rfl)) (fun _ h9 => h9) rfl dX1_judge_98 ?_
          refine lv_bipush (v := 9) hx hb dX1_judge_101 (by decide) ?_
          refine lv_iload_n hx hb dX1_judge_103 rfl (lv_at hl 4 rfl) ?_
          refine lv_if_eq (tgt := 111) hx hb dX1_judge_104 (by decide) (fun c => absurd c c_89b) (fun _ => ?_)
          refine lv_iconst (v := 1) hx hb dX1_judge_107 (by decide) ?_
          refine lv_goto (tgt := 112) hx hb dX1_judge_108 (by decide) ?_
          refine ka_iast (D := gD Γ) (cl := vwCl) (tys := gTy Γ) hx hb hK hP hD hS 1 0 rfl rfl 9 (by decide) (by decide) (by decide) (wf := lopW Γ a b ((lNow σ), (lLoad σ), (lSeed σ), ((lBad σ) + 1), 0, (upd (lPres σ) 9 1), (lRecs σ), (lSec σ), (lWat σ))) rfl dX1_judge_112 (fun H locs hP hD hS => ?_)
          refine lv_aload_n hx hb dX1_judge_113 rfl (lv_at hl 1 rfl) ?_
          refine lv_iconst (v := 0) hx hb dX1_judge_114 (by decide) ?_
          refine va_put (D := gD Γ) (cl := vwCl) (tys := gTy Γ) (ci := 1) (v := .int 0) (ty := tyX1 3) (C := RX1) (T := TX1) (N := 9) hx hb hts iX1_judge_1 tyX1 tyX1_ok nmX1 hown hK hP hD hS 0 rfl rfl 3 (Nat.le_of_ble_eq_true rfl) (hts (.fieldLink RX1 21 "DeadTimeLoop$Loop" "badTicks" "I") (List.mem_of_getElem? (i := 1) rfl)) (fun _ h9 => h9) rfl (tyX1_ok 3 (Nat.le_of_ble_eq_true rfl)) rfl rfl (Nat.le_of_ble_eq_true rfl) dX1_judge_115 (fun H locs hP hD hS => ?_)
          have hP : va_P (gD Γ) vwCl (lopW Γ a b ((lNow σ), (lLoad σ), (lSeed σ), 0, 0, (upd (lPres σ) 9 1), (lRecs σ), (lSec σ), (lWat σ))) H := hP
          have hD : va_D A (lopW Γ a b ((lNow σ), (lLoad σ), (lSeed σ), 0, 0, (upd (lPres σ) 9 1), (lRecs σ), (lSec σ), (lWat σ))) := hD
          refine lv_aload_n hx hb dX1_judge_118 rfl (lv_at hl 1 rfl) ?_
          refine lv_iconst (v := 0) hx hb dX1_judge_119 (by decide) ?_
          refine va_put (D := gD Γ) (cl := vwCl) (tys := gTy Γ) (ci := 1) (v := .int 0) (ty := tyX1 4) (C := RX1) (T := TX1) (N := 9) hx hb hts iX1_judge_1 tyX1 tyX1_ok nmX1 hown hK hP hD hS 0 rfl rfl 4 (Nat.le_of_ble_eq_true rfl) (hts (.fieldLink RX1 24 "DeadTimeLoop$Loop" "goodTicks" "I") (List.mem_of_getElem? (i := 2) rfl)) (fun _ h9 => h9) rfl (tyX1_ok 4 (Nat.le_of_ble_eq_true rfl)) rfl rfl (Nat.le_of_ble_eq_true rfl) dX1_judge_120 (fun H locs hP hD hS => ?_)
          have hP : va_P (gD Γ) vwCl (lopW Γ a b ((lNow σ), (lLoad σ), (lSeed σ), 0, 0, (upd (lPres σ) 9 1), (lRecs σ), (lSec σ), (lWat σ))) H := hP
          have hD : va_D A (lopW Γ a b ((lNow σ), (lLoad σ), (lSeed σ), 0, 0, (upd (lPres σ) 9 1), (lRecs σ), (lSec σ), (lWat σ))) := hD
          exact re_v hQ ha hx hb hr hlk hAe hP hS dX1_judge_123 (by subst e4; subst e3; first | rfl | simp [fJudge, fJudge2, fBad, fGood, c_2, c_89b])
        · -- no
          refine lv_iload hx hb dX1_judge_92 (lv_at hl 0 rfl) ?_
          refine lv_if_eq (tgt := 123) hx hb dX1_judge_94 (by decide) (fun c_94b => ?_) (fun c_94b => ?_)
          · -- yes
            exact re_v hQ ha hx hb hr hlk hAe hP hS dX1_judge_123 (by subst e4; subst e3; first | rfl | simp [fJudge, fJudge2, fBad, fGood, c_2, c_89b, c_94b])
          · -- no
            refine lv_aload_n hx hb dX1_judge_97 rfl (lv_at hl 1 rfl) ?_
            refine va_get (D := gD Γ) (cl := vwCl) (tys := gTy Γ) (ci := 1) (v := .ref (a (b + 1))) (C := RX1) (T := TX1) (N := 9) hx hb hts iX1_judge_1 hown hK hP 0 rfl rfl 5 (Nat.le_of_ble_eq_true rfl) (hts (.fieldLink RX1 27 "DeadTimeLoop$Loop" "present" "[I") (List.mem_of_getElem? (i := 3) rfl)) (fun _ h9 => h9) rfl dX1_judge_98 ?_
            refine lv_bipush (v := 9) hx hb dX1_judge_101 (by decide) ?_
            refine lv_iload_n hx hb dX1_judge_103 rfl (lv_at hl 4 rfl) ?_
            refine lv_if_eq (tgt := 111) hx hb dX1_judge_104 (by decide) (fun _ => ?_) (fun c => absurd c_89b c)
            refine lv_iconst (v := 0) hx hb dX1_judge_111 (by decide) ?_
            refine ka_iast (D := gD Γ) (cl := vwCl) (tys := gTy Γ) hx hb hK hP hD hS 1 0 rfl rfl 9 (by decide) (by decide) (by decide) (wf := lopW Γ a b ((lNow σ), (lLoad σ), (lSeed σ), ((lBad σ) + 1), 0, (upd (lPres σ) 9 0), (lRecs σ), (lSec σ), (lWat σ))) rfl dX1_judge_112 (fun H locs hP hD hS => ?_)
            refine lv_aload_n hx hb dX1_judge_113 rfl (lv_at hl 1 rfl) ?_
            refine lv_iconst (v := 0) hx hb dX1_judge_114 (by decide) ?_
            refine va_put (D := gD Γ) (cl := vwCl) (tys := gTy Γ) (ci := 1) (v := .int 0) (ty := tyX1 3) (C := RX1) (T := TX1) (N := 9) hx hb hts iX1_judge_1 tyX1 tyX1_ok nmX1 hown hK hP hD hS 0 rfl rfl 3 (Nat.le_of_ble_eq_true rfl) (hts (.fieldLink RX1 21 "DeadTimeLoop$Loop" "badTicks" "I") (List.mem_of_getElem? (i := 1) rfl)) (fun _ h9 => h9) rfl (tyX1_ok 3 (Nat.le_of_ble_eq_true rfl)) rfl rfl (Nat.le_of_ble_eq_true rfl) dX1_judge_115 (fun H locs hP hD hS => ?_)
            have hP : va_P (gD Γ) vwCl (lopW Γ a b ((lNow σ), (lLoad σ), (lSeed σ), 0, 0, (upd (lPres σ) 9 0), (lRecs σ), (lSec σ), (lWat σ))) H := hP
            have hD : va_D A (lopW Γ a b ((lNow σ), (lLoad σ), (lSeed σ), 0, 0, (upd (lPres σ) 9 0), (lRecs σ), (lSec σ), (lWat σ))) := hD
            refine lv_aload_n hx hb dX1_judge_118 rfl (lv_at hl 1 rfl) ?_
            refine lv_iconst (v := 0) hx hb dX1_judge_119 (by decide) ?_
            refine va_put (D := gD Γ) (cl := vwCl) (tys := gTy Γ) (ci := 1) (v := .int 0) (ty := tyX1 4) (C := RX1) (T := TX1) (N := 9) hx hb hts iX1_judge_1 tyX1 tyX1_ok nmX1 hown hK hP hD hS 0 rfl rfl 4 (Nat.le_of_ble_eq_true rfl) (hts (.fieldLink RX1 24 "DeadTimeLoop$Loop" "goodTicks" "I") (List.mem_of_getElem? (i := 2) rfl)) (fun _ h9 => h9) rfl (tyX1_ok 4 (Nat.le_of_ble_eq_true rfl)) rfl rfl (Nat.le_of_ble_eq_true rfl) dX1_judge_120 (fun H locs hP hD hS => ?_)
            have hP : va_P (gD Γ) vwCl (lopW Γ a b ((lNow σ), (lLoad σ), (lSeed σ), 0, 0, (upd (lPres σ) 9 0), (lRecs σ), (lSec σ), (lWat σ))) H := hP
            have hD : va_D A (lopW Γ a b ((lNow σ), (lLoad σ), (lSeed σ), 0, 0, (upd (lPres σ) 9 0), (lRecs σ), (lSec σ), (lWat σ))) := hD
            exact re_v hQ ha hx hb hr hlk hAe hP hS dX1_judge_123 (by subst e4; subst e3; first | rfl | simp [fJudge, fJudge2, fBad, fGood, c_2, c_89b, c_94b])
      refine lv_aload_n hx hb dX1_judge_60 rfl (lv_at hl 1 rfl) ?_
      refine va_get (D := gD Γ) (cl := vwCl) (tys := gTy Γ) (ci := 1) (v := .ref (a (b + 1))) (C := RX1) (T := TX1) (N := 9) hx hb hts iX1_judge_1 hown hK hP 0 rfl rfl 5 (Nat.le_of_ble_eq_true rfl) (hts (.fieldLink RX1 27 "DeadTimeLoop$Loop" "present" "[I") (List.mem_of_getElem? (i := 3) rfl)) (fun _ h9 => h9) rfl dX1_judge_61 ?_
      refine lv_bipush (v := 9) hx hb dX1_judge_64 (by decide) ?_
      refine ka_iald (D := gD Γ) (cl := vwCl) (tys := gTy Γ) hx hb hK hP 1 0 rfl rfl 9 (by decide) (by decide) (by decide) (v := ((lPres σ) 9)) rfl dX1_judge_66 ?_
      refine lv_iconst (v := 1) hx hb dX1_judge_67 (by decide) ?_
      refine lv_icmp_ne (tgt := 85) hx hb dX1_judge_68 (by decide) (fun c_68b => ?_) (fun c_68b => ?_)
      · -- yes
        refine lv_iconst (v := 0) hx hb dX1_judge_85 (by decide) ?_
        exact hJ_86 _ (by simp [fTru, c_2, c_68b]) _ _ _ hP hD hS (lv_sub hl [1, 2, 3, 0] rfl)
      · -- no
        refine lv_aload_n hx hb dX1_judge_71 rfl (lv_at hl 1 rfl) ?_
        refine va_get (D := gD Γ) (cl := vwCl) (tys := gTy Γ) (ci := 1) (v := .int 0) (C := RX1) (T := TX1) (N := 9) hx hb hts iX1_judge_1 hown hK hP 0 rfl rfl 4 (Nat.le_of_ble_eq_true rfl) (hts (.fieldLink RX1 24 "DeadTimeLoop$Loop" "goodTicks" "I") (List.mem_of_getElem? (i := 2) rfl)) (fun _ h9 => h9) rfl dX1_judge_72 ?_
        refine lv_iconst (v := 2) hx hb dX1_judge_75 (by decide) ?_
        refine lv_iload_n hx hb dX1_judge_76 rfl (lv_at hl 3 rfl) ?_
        refine lv_imul hx hb dX1_judge_77 ?_
        refine lv_icmp_lt (tgt := 85) hx hb dX1_judge_78 (by decide) (fun c_78b => ?_) (fun c_78b => ?_)
        · -- yes
          refine lv_iconst (v := 0) hx hb dX1_judge_85 (by decide) ?_
          exact hJ_86 _ (by simp [fTru, c_2, c_68b, c_78b]) _ _ _ hP hD hS (lv_sub hl [1, 2, 3, 0] rfl)
        · -- no
          refine lv_iconst (v := 1) hx hb dX1_judge_81 (by decide) ?_
          refine lv_goto (tgt := 86) hx hb dX1_judge_82 (by decide) ?_
          exact hJ_86 _ (by simp [fTru, c_2, c_68b, c_78b]) _ _ _ hP hD hS (lv_sub hl [1, 2, 3, 0] rfl)
    refine lv_aload_n hx hb dX1_judge_36 rfl (lv_at hl 0 rfl) ?_
    refine va_get (D := gD Γ) (cl := vwCl) (tys := gTy Γ) (ci := 1) (v := .ref (a (b + 1))) (C := RX1) (T := TX1) (N := 9) hx hb hts iX1_judge_1 hown hK hP 0 rfl rfl 5 (Nat.le_of_ble_eq_true rfl) (hts (.fieldLink RX1 27 "DeadTimeLoop$Loop" "present" "[I") (List.mem_of_getElem? (i := 3) rfl)) (fun _ h9 => h9) rfl dX1_judge_37 ?_
    refine lv_bipush (v := 9) hx hb dX1_judge_40 (by decide) ?_
    refine ka_iald (D := gD Γ) (cl := vwCl) (tys := gTy Γ) hx hb hK hP 1 0 rfl rfl 9 (by decide) (by decide) (by decide) (v := ((lPres σ) 9)) rfl dX1_judge_42 ?_
    refine lv_if_ne (tgt := 58) hx hb dX1_judge_43 (by decide) (fun c_43b => ?_) (fun c_43b => ?_)
    · -- yes
      refine lv_iconst (v := 0) hx hb dX1_judge_58 (by decide) ?_
      exact hJ_59 _ (by simp [fRej, c_2, c_43b]) _ _ _ hP hD hS (lv_sub hl [0, 1, 2] rfl)
    · -- no
      refine lv_aload_n hx hb dX1_judge_46 rfl (lv_at hl 0 rfl) ?_
      refine va_get (D := gD Γ) (cl := vwCl) (tys := gTy Γ) (ci := 1) (v := .int ((lBad σ) + 1)) (C := RX1) (T := TX1) (N := 9) hx hb hts iX1_judge_1 hown hK hP 0 rfl rfl 3 (Nat.le_of_ble_eq_true rfl) (hts (.fieldLink RX1 21 "DeadTimeLoop$Loop" "badTicks" "I") (List.mem_of_getElem? (i := 1) rfl)) (fun _ h9 => h9) rfl dX1_judge_47 ?_
      refine lv_iload_n hx hb dX1_judge_50 rfl (lv_at hl 2 rfl) ?_
      refine lv_icmp_lt (tgt := 58) hx hb dX1_judge_51 (by decide) (fun c_51b => ?_) (fun c_51b => ?_)
      · -- yes
        refine lv_iconst (v := 0) hx hb dX1_judge_58 (by decide) ?_
        exact hJ_59 _ (by simp [fRej, c_2, c_43b, c_51b]) _ _ _ hP hD hS (lv_sub hl [0, 1, 2] rfl)
      · -- no
        refine lv_iconst (v := 1) hx hb dX1_judge_54 (by decide) ?_
        refine lv_goto (tgt := 59) hx hb dX1_judge_55 (by decide) ?_
        exact hJ_59 _ (by simp [fRej, c_2, c_43b, c_51b]) _ _ _ hP hD hS (lv_sub hl [0, 1, 2] rfl)
def rm_X1_outputFor : Room := { frames := 2, cells := 0, slots := 0, locals := 49 }
theorem iX1_outputFor_1 : ∀ w ∈ u_ws RX1 TX1 9, w ∈ wsX1_outputFor := fun w h => (List.mem_cons_of_mem _ (List.mem_append_left _ (List.mem_append_right _ h)))
set_option maxHeartbeats 4000000 in
set_option maxRecDepth 100000 in
theorem c_X1_outputFor (Γ : gT) (l : Launch) (a : Nat → Nat) (b : Nat) (a2 : Nat → Nat) (b2 : Nat) (σ : Lop) (v : Sett) (wanted : Int64)  : Cl Γ l yX1_outputFor wsX1_outputFor rm_X1_outputFor [.ref (a b), .long wanted, .ref (a2 b2)] (lopW Γ a b σ ++ setW Γ a2 b2 v) (fOut ((lPres σ) 2) wanted v) (lopW Γ a b σ ++ setW Γ a2 b2 v) := by
  refine Cl.of (cc := cX1_outputFor) (own := RX1) (nL := 8) (ret := (some .long)) (by decide +kernel) rfl rfl (Nat.le_of_ble_eq_true rfl) ?_
  intro p e s m args below meth c A Q H locs ls ha hAe hQ hx hb hml hr hts hown hlk hP hK hD hS hA hG hl
  have hh : Hd Γ p s m args c cX1_outputFor RX1 8 wsX1_outputFor A := ⟨⟨hx, hb, hml, hown, hts⟩, hK, hA, hG⟩
  have hl : lv_has ls 8 [(0, .ref (a b)), (1, .long wanted), (3, .ref (a2 b2))] := hl
  refine lv_lload_n hx hb dX1_outputFor_0 rfl (lv_at hl 1 rfl) ?_
  refine lv_aload_n hx hb dX1_outputFor_1 rfl (lv_at hl 2 rfl) ?_
  refine lv_bipush (v := 9) hx hb dX1_outputFor_2 (by decide) ?_
  refine ca_Vi hh hl.1 (c_X3_get Γ l a2 b2 v 9) (cwV 1 hts gX1_outputFor_X3_get rfl rfl rfl (by decide +kernel) ⟨(Nat.le_of_ble_eq_true rfl), (Nat.le_of_ble_eq_true rfl)⟩) (As := [.int 9]) (rest := [.long wanted]) rfl dX1_outputFor_4 rfl (Nat.le_of_ble_eq_true rfl) hP hD hS [9, 10] rfl rfl (q0 := 9) (ci := 3) rfl rfl rfl rfl (wf := lopW Γ a b σ ++ setW Γ a2 b2 v) rfl rfl ⟨Nat.zero_le _, Nat.zero_le _⟩ (fun H locs hP hD hS => ?_)
  refine lv_i2l (v := (fGet v 9).toInt64) hx hb dX1_outputFor_7 rfl ?_
  refine lv_aload_n hx hb dX1_outputFor_8 rfl (lv_at hl 2 rfl) ?_
  refine lv_bipush (v := 10) hx hb dX1_outputFor_9 (by decide) ?_
  refine ca_Vi hh hl.1 (c_X3_get Γ l a2 b2 v 10) (cwV 1 hts gX1_outputFor_X3_get rfl rfl rfl (by decide +kernel) ⟨(Nat.le_of_ble_eq_true rfl), (Nat.le_of_ble_eq_true rfl)⟩) (As := [.int 10]) (rest := [.long ((fGet v 9).toInt64), .long wanted]) rfl dX1_outputFor_11 rfl (Nat.le_of_ble_eq_true rfl) hP hD hS [9, 10] rfl rfl (q0 := 9) (ci := 3) rfl rfl rfl rfl (wf := lopW Γ a b σ ++ setW Γ a2 b2 v) rfl rfl ⟨Nat.zero_le _, Nat.zero_le _⟩ (fun H locs hP hD hS => ?_)
  refine lv_i2l (v := (fGet v 10).toInt64) hx hb dX1_outputFor_14 rfl ?_
  refine ca_Nl hh hl.1 (c_X6_limited Γ l wanted ((fGet v 9).toInt64) ((fGet v 10).toInt64)) ⟨va_cnB (host := RX6) 3 hts gX1_outputFor_X6_limited_n148 rfl rfl rfl hG.1.2.2.2.2.2.2.2.2 (hts (.initialized RX6) (List.mem_of_getElem? (i := 9) rfl)) (by decide +kernel) ⟨(Nat.le_of_ble_eq_true rfl), (Nat.le_of_ble_eq_true rfl)⟩, (hts (.static yX6_limited) (List.mem_of_getElem? (i := 11) rfl)), trivial⟩ (As := [.long wanted, .long ((fGet v 9).toInt64), .long ((fGet v 10).toInt64)]) (rest := []) rfl dX1_outputFor_15 rfl (Nat.le_of_ble_eq_true rfl) hP hD hS ⟨Nat.zero_le _, Nat.zero_le _⟩ (fun H locs hP hS => ?_)
  refine lv_lstore (lv' := [(4, .long (fLim wanted ((fGet v 9).toInt64) ((fGet v 10).toInt64))), (0, .ref (a b)), (1, .long wanted), (3, .ref (a2 b2))]) hx hb dX1_outputFor_18 hl (by decide) rfl (fun ls hl => ?_)
  refine lv_aload_n hx hb dX1_outputFor_20 rfl (lv_at hl 3 rfl) ?_
  refine lv_bipush (v := 11) hx hb dX1_outputFor_21 (by decide) ?_
  refine ca_Vi hh hl.1 (c_X3_get Γ l a2 b2 v 11) (cwV 1 hts gX1_outputFor_X3_get rfl rfl rfl (by decide +kernel) ⟨(Nat.le_of_ble_eq_true rfl), (Nat.le_of_ble_eq_true rfl)⟩) (As := [.int 11]) (rest := []) rfl dX1_outputFor_23 rfl (Nat.le_of_ble_eq_true rfl) hP hD hS [9, 10] rfl rfl (q0 := 9) (ci := 3) rfl rfl rfl rfl (wf := lopW Γ a b σ ++ setW Γ a2 b2 v) rfl rfl ⟨Nat.zero_le _, Nat.zero_le _⟩ (fun H locs hP hD hS => ?_)
  refine lv_i2l (v := (fGet v 11).toInt64) hx hb dX1_outputFor_26 rfl ?_
  refine lv_lstore (lv' := [(6, .long ((fGet v 11).toInt64)), (4, .long (fLim wanted ((fGet v 9).toInt64) ((fGet v 10).toInt64))), (0, .ref (a b)), (1, .long wanted), (3, .ref (a2 b2))]) hx hb dX1_outputFor_27 hl (by decide) rfl (fun ls hl => ?_)
  refine lv_lload hx hb dX1_outputFor_29 (lv_at hl 1 rfl) ?_
  refine lv_aload_n hx hb dX1_outputFor_31 rfl (lv_at hl 2 rfl) ?_
  refine va_get (D := gD Γ) (cl := vwCl) (tys := gTy Γ) (ci := 1) (v := .ref (a (b + 1))) (C := RX1) (T := TX1) (N := 9) hx hb hts iX1_outputFor_1 hown hK hP 0 rfl rfl 5 (Nat.le_of_ble_eq_true rfl) (hts (.fieldLink RX1 27 "DeadTimeLoop$Loop" "present" "[I") (List.mem_of_getElem? (i := 1) rfl)) (fun _ h9 => h9) rfl dX1_outputFor_32 ?_
  refine lv_iconst (v := 2) hx hb dX1_outputFor_35 (by decide) ?_
  refine ka_iald (D := gD Γ) (cl := vwCl) (tys := gTy Γ) hx hb hK hP 1 0 rfl rfl 2 (by decide) (by decide) (by decide) (v := ((lPres σ) 2)) rfl dX1_outputFor_36 ?_
  refine lv_i2l (v := ((lPres σ) 2).toInt64) hx hb dX1_outputFor_37 rfl ?_
  refine lv_lload hx hb dX1_outputFor_38 (lv_at hl 0 rfl) ?_
  refine lv_lsub hx hb dX1_outputFor_40 ?_
  refine lv_aload_n hx hb dX1_outputFor_41 rfl (lv_at hl 2 rfl) ?_
  refine va_get (D := gD Γ) (cl := vwCl) (tys := gTy Γ) (ci := 1) (v := .ref (a (b + 1))) (C := RX1) (T := TX1) (N := 9) hx hb hts iX1_outputFor_1 hown hK hP 0 rfl rfl 5 (Nat.le_of_ble_eq_true rfl) (hts (.fieldLink RX1 27 "DeadTimeLoop$Loop" "present" "[I") (List.mem_of_getElem? (i := 1) rfl)) (fun _ h9 => h9) rfl dX1_outputFor_42 ?_
  refine lv_iconst (v := 2) hx hb dX1_outputFor_45 (by decide) ?_
  refine ka_iald (D := gD Γ) (cl := vwCl) (tys := gTy Γ) hx hb hK hP 1 0 rfl rfl 2 (by decide) (by decide) (by decide) (v := ((lPres σ) 2)) rfl dX1_outputFor_46 ?_
  refine lv_i2l (v := ((lPres σ) 2).toInt64) hx hb dX1_outputFor_47 rfl ?_
  refine lv_lload hx hb dX1_outputFor_48 (lv_at hl 0 rfl) ?_
  refine lv_ladd hx hb dX1_outputFor_50 ?_
  refine ca_Nl hh hl.1 (c_X6_limited Γ l (fLim wanted ((fGet v 9).toInt64) ((fGet v 10).toInt64)) ((((lPres σ) 2).toInt64) - ((fGet v 11).toInt64)) ((((lPres σ) 2).toInt64) + ((fGet v 11).toInt64))) ⟨va_cnB (host := RX6) 3 hts gX1_outputFor_X6_limited_n148 rfl rfl rfl hG.1.2.2.2.2.2.2.2.2 (hts (.initialized RX6) (List.mem_of_getElem? (i := 9) rfl)) (by decide +kernel) ⟨(Nat.le_of_ble_eq_true rfl), (Nat.le_of_ble_eq_true rfl)⟩, (hts (.static yX6_limited) (List.mem_of_getElem? (i := 11) rfl)), trivial⟩ (As := [.long (fLim wanted ((fGet v 9).toInt64) ((fGet v 10).toInt64)), .long ((((lPres σ) 2).toInt64) - ((fGet v 11).toInt64)), .long ((((lPres σ) 2).toInt64) + ((fGet v 11).toInt64))]) (rest := []) rfl dX1_outputFor_51 rfl (Nat.le_of_ble_eq_true rfl) hP hD hS ⟨Nat.zero_le _, Nat.zero_le _⟩ (fun H locs hP hS => ?_)
  exact re_l hQ ha hx hb hr hlk hAe hP hS dX1_outputFor_54 (by skip; first | rfl | simp []) (by skip; first | rfl | simp [])
def rm_X1_moveOn : Room := { frames := 3, cells := 0, slots := 0, locals := 73 }
theorem iX1_moveOn_1 : ∀ w ∈ u_ws RX1 TX1 9, w ∈ wsX1_moveOn := fun w h => (List.mem_cons_of_mem _ (List.mem_append_left _ (List.mem_append_right _ h)))
set_option maxHeartbeats 4000000 in
set_option maxRecDepth 100000 in
theorem c_X1_moveOn (Γ : gT) (l : Launch) (a : Nat → Nat) (b : Nat) (a2 : Nat → Nat) (b2 : Nat) (σ : Lop) (v : Sett)  : Cv Γ l yX1_moveOn wsX1_moveOn rm_X1_moveOn [.ref (a b), .ref (a2 b2)] (lopW Γ a b σ ++ setW Γ a2 b2 v) (lopW Γ a b (fMove σ v) ++ setW Γ a2 b2 v) := by
  refine Cv.of (cc := cX1_moveOn) (own := RX1) (nL := 8) (ret := none) (by decide +kernel) rfl rfl (Nat.le_of_ble_eq_true rfl) ?_
  intro p e s m args below meth c A Q H locs ls ha hAe hQ hx hb hml hr hts hown hlk hP hK hD hS hA hG hl
  have hh : Hd Γ p s m args c cX1_moveOn RX1 8 wsX1_moveOn A := ⟨⟨hx, hb, hml, hown, hts⟩, hK, hA, hG⟩
  have hl : lv_has ls 8 [(0, .ref (a b)), (1, .ref (a2 b2))] := hl
  refine lv_aload_n hx hb dX1_moveOn_0 rfl (lv_at hl 0 rfl) ?_
  refine lv_iconst (v := 2) hx hb dX1_moveOn_1 (by decide) ?_
  refine lv_aload_n hx hb dX1_moveOn_2 rfl (lv_at hl 0 rfl) ?_
  refine va_get (D := gD Γ) (cl := vwCl) (tys := gTy Γ) (ci := 1) (v := .ref (a (b + 1))) (C := RX1) (T := TX1) (N := 9) hx hb hts iX1_moveOn_1 hown hK hP 0 rfl rfl 5 (Nat.le_of_ble_eq_true rfl) (hts (.fieldLink RX1 27 "DeadTimeLoop$Loop" "present" "[I") (List.mem_of_getElem? (i := 1) rfl)) (fun _ h9 => h9) rfl dX1_moveOn_3 ?_
  refine lv_iconst (v := 2) hx hb dX1_moveOn_6 (by decide) ?_
  refine ka_iald (D := gD Γ) (cl := vwCl) (tys := gTy Γ) hx hb hK hP 1 0 rfl rfl 2 (by decide) (by decide) (by decide) (v := ((lPres σ) 2)) rfl dX1_moveOn_7 ?_
  refine lv_aload_n hx hb dX1_moveOn_8 rfl (lv_at hl 1 rfl) ?_
  refine lv_iconst (v := 4) hx hb dX1_moveOn_9 (by decide) ?_
  refine ca_Vi hh hl.1 (c_X3_get Γ l a2 b2 v 4) (cwV 1 hts gX1_moveOn_X3_get rfl rfl rfl (by decide +kernel) ⟨(Nat.le_of_ble_eq_true rfl), (Nat.le_of_ble_eq_true rfl)⟩) (As := [.int 4]) (rest := [.int ((lPres σ) 2), .int 2, .ref (a b)]) rfl dX1_moveOn_10 rfl (Nat.le_of_ble_eq_true rfl) hP hD hS [9, 10] rfl rfl (q0 := 9) (ci := 3) rfl rfl rfl rfl (wf := lopW Γ a b σ ++ setW Γ a2 b2 v) rfl rfl ⟨Nat.zero_le _, Nat.zero_le _⟩ (fun H locs hP hD hS => ?_)
  refine ca_Vi hh hl.1 (c_X1_delayed Γ l a b σ 2 ((lPres σ) 2) (fGet v 4)) (cwV 3 hts gX1_moveOn_X1_delayed rfl rfl rfl (by decide +kernel) ⟨(Nat.le_of_ble_eq_true rfl), (Nat.le_of_ble_eq_true rfl)⟩) (As := [.int 2, .int ((lPres σ) 2), .int (fGet v 4)]) (rest := []) rfl dX1_moveOn_13 rfl (Nat.le_of_ble_eq_true rfl) hP hD hS [0, 1, 2, 3, 4, 5, 6, 7, 8] rfl rfl (q0 := 0) (ci := 1) rfl rfl rfl rfl (wf := lopW Γ a b σ ++ setW Γ a2 b2 v) rfl rfl ⟨Nat.zero_le _, Nat.zero_le _⟩ (fun H locs hP hD hS => ?_)
  refine lv_aload_n hx hb dX1_moveOn_16 rfl (lv_at hl 0 rfl) ?_
  refine va_get (D := gD Γ) (cl := vwCl) (tys := gTy Γ) (ci := 1) (v := .int (lLoad σ)) (C := RX1) (T := TX1) (N := 9) hx hb hts iX1_moveOn_1 hown hK hP 0 rfl rfl 1 (Nat.le_of_ble_eq_true rfl) (hts (.fieldLink RX1 15 "DeadTimeLoop$Loop" "load" "I") (List.mem_of_getElem? (i := 2) rfl)) (fun _ h9 => h9) rfl dX1_moveOn_17 ?_
  refine lv_iadd hx hb dX1_moveOn_20 ?_
  refine lv_i2l (v := ((fDelay (lNow σ) (lRecs σ) 2 ((lPres σ) 2) (fGet v 4)) + (lLoad σ)).toInt64) hx hb dX1_moveOn_21 rfl ?_
  refine lv_lstore_n (lv' := [(2, .long (((fDelay (lNow σ) (lRecs σ) 2 ((lPres σ) 2) (fGet v 4)) + (lLoad σ)).toInt64)), (0, .ref (a b)), (1, .ref (a2 b2))]) hx hb dX1_moveOn_22 rfl hl (by decide) rfl (fun ls hl => ?_)
  refine lv_aload_n hx hb dX1_moveOn_23 rfl (lv_at hl 2 rfl) ?_
  refine lv_iconst (v := 2) hx hb dX1_moveOn_24 (by decide) ?_
  refine ca_Vi hh hl.1 (c_X3_get Γ l a2 b2 v 2) (cwV 1 hts gX1_moveOn_X3_get rfl rfl rfl (by decide +kernel) ⟨(Nat.le_of_ble_eq_true rfl), (Nat.le_of_ble_eq_true rfl)⟩) (As := [.int 2]) (rest := []) rfl dX1_moveOn_25 rfl (Nat.le_of_ble_eq_true rfl) hP hD hS [9, 10] rfl rfl (q0 := 9) (ci := 3) rfl rfl rfl rfl (wf := lopW Γ a b σ ++ setW Γ a2 b2 v) rfl rfl ⟨Nat.zero_le _, Nat.zero_le _⟩ (fun H locs hP hD hS => ?_)
  refine lv_i2l (v := (fGet v 2).toInt64) hx hb dX1_moveOn_28 rfl ?_
  refine lv_lload_n hx hb dX1_moveOn_29 rfl (lv_at hl 0 rfl) ?_
  refine lv_lmul hx hb dX1_moveOn_30 ?_
  refine ca_Nl hh hl.1 (c_X6_thousandth Γ l (((fGet v 2).toInt64) * (((fDelay (lNow σ) (lRecs σ) 2 ((lPres σ) 2) (fGet v 4)) + (lLoad σ)).toInt64))) ⟨va_cnB (host := RX6) 1 hts gX1_moveOn_X6_thousandth_n140 rfl rfl rfl hG.1.2.2.2.2.2.2.2.1 (hts (.initialized RX6) (List.mem_of_getElem? (i := 11) rfl)) (by decide +kernel) ⟨(Nat.le_of_ble_eq_true rfl), (Nat.le_of_ble_eq_true rfl)⟩, (hts (.static yX6_thousandth) (List.mem_of_getElem? (i := 33) rfl)), trivial⟩ (As := [.long (((fGet v 2).toInt64) * (((fDelay (lNow σ) (lRecs σ) 2 ((lPres σ) 2) (fGet v 4)) + (lLoad σ)).toInt64))]) (rest := []) rfl dX1_moveOn_31 rfl (Nat.le_of_ble_eq_true rfl) hP hD hS ⟨Nat.zero_le _, Nat.zero_le _⟩ (fun H locs hP hS => ?_)
  refine lv_lstore (lv' := [(4, .long (fThou (((fGet v 2).toInt64) * (((fDelay (lNow σ) (lRecs σ) 2 ((lPres σ) 2) (fGet v 4)) + (lLoad σ)).toInt64)))), (2, .long (((fDelay (lNow σ) (lRecs σ) 2 ((lPres σ) 2) (fGet v 4)) + (lLoad σ)).toInt64)), (0, .ref (a b)), (1, .ref (a2 b2))]) hx hb dX1_moveOn_34 hl (by decide) rfl (fun ls hl => ?_)
  refine lv_aload_n hx hb dX1_moveOn_36 rfl (lv_at hl 3 rfl) ?_
  refine lv_iconst (v := 5) hx hb dX1_moveOn_37 (by decide) ?_
  refine ca_Vi hh hl.1 (c_X3_get Γ l a2 b2 v 5) (cwV 1 hts gX1_moveOn_X3_get rfl rfl rfl (by decide +kernel) ⟨(Nat.le_of_ble_eq_true rfl), (Nat.le_of_ble_eq_true rfl)⟩) (As := [.int 5]) (rest := []) rfl dX1_moveOn_38 rfl (Nat.le_of_ble_eq_true rfl) hP hD hS [9, 10] rfl rfl (q0 := 9) (ci := 3) rfl rfl rfl rfl (wf := lopW Γ a b σ ++ setW Γ a2 b2 v) rfl rfl ⟨Nat.zero_le _, Nat.zero_le _⟩ (fun H locs hP hD hS => ?_)
  refine lv_i2l (v := (fGet v 5).toInt64) hx hb dX1_moveOn_41 rfl ?_
  refine lv_aload_n hx hb dX1_moveOn_42 rfl (lv_at hl 2 rfl) ?_
  refine va_get (D := gD Γ) (cl := vwCl) (tys := gTy Γ) (ci := 1) (v := .ref (a (b + 1))) (C := RX1) (T := TX1) (N := 9) hx hb hts iX1_moveOn_1 hown hK hP 0 rfl rfl 5 (Nat.le_of_ble_eq_true rfl) (hts (.fieldLink RX1 27 "DeadTimeLoop$Loop" "present" "[I") (List.mem_of_getElem? (i := 1) rfl)) (fun _ h9 => h9) rfl dX1_moveOn_43 ?_
  refine lv_iconst (v := 2) hx hb dX1_moveOn_46 (by decide) ?_
  refine ka_iald (D := gD Γ) (cl := vwCl) (tys := gTy Γ) hx hb hK hP 1 0 rfl rfl 2 (by decide) (by decide) (by decide) (v := ((lPres σ) 2)) rfl dX1_moveOn_47 ?_
  refine lv_i2l (v := ((lPres σ) 2).toInt64) hx hb dX1_moveOn_48 rfl ?_
  refine lv_lmul hx hb dX1_moveOn_49 ?_
  refine ca_Nl hh hl.1 (c_X6_thousandth Γ l (((fGet v 5).toInt64) * (((lPres σ) 2).toInt64))) ⟨va_cnB (host := RX6) 1 hts gX1_moveOn_X6_thousandth_n140 rfl rfl rfl hG.1.2.2.2.2.2.2.2.1 (hts (.initialized RX6) (List.mem_of_getElem? (i := 11) rfl)) (by decide +kernel) ⟨(Nat.le_of_ble_eq_true rfl), (Nat.le_of_ble_eq_true rfl)⟩, (hts (.static yX6_thousandth) (List.mem_of_getElem? (i := 33) rfl)), trivial⟩ (As := [.long (((fGet v 5).toInt64) * (((lPres σ) 2).toInt64))]) (rest := []) rfl dX1_moveOn_50 rfl (Nat.le_of_ble_eq_true rfl) hP hD hS ⟨Nat.zero_le _, Nat.zero_le _⟩ (fun H locs hP hS => ?_)
  refine lv_lstore (lv' := [(6, .long (fThou (((fGet v 5).toInt64) * (((lPres σ) 2).toInt64)))), (4, .long (fThou (((fGet v 2).toInt64) * (((fDelay (lNow σ) (lRecs σ) 2 ((lPres σ) 2) (fGet v 4)) + (lLoad σ)).toInt64)))), (2, .long (((fDelay (lNow σ) (lRecs σ) 2 ((lPres σ) 2) (fGet v 4)) + (lLoad σ)).toInt64)), (0, .ref (a b)), (1, .ref (a2 b2))]) hx hb dX1_moveOn_53 hl (by decide) rfl (fun ls hl => ?_)
  refine lv_aload_n hx hb dX1_moveOn_55 rfl (lv_at hl 3 rfl) ?_
  refine va_get (D := gD Γ) (cl := vwCl) (tys := gTy Γ) (ci := 1) (v := .ref (a (b + 1))) (C := RX1) (T := TX1) (N := 9) hx hb hts iX1_moveOn_1 hown hK hP 0 rfl rfl 5 (Nat.le_of_ble_eq_true rfl) (hts (.fieldLink RX1 27 "DeadTimeLoop$Loop" "present" "[I") (List.mem_of_getElem? (i := 1) rfl)) (fun _ h9 => h9) rfl dX1_moveOn_56 ?_
  refine lv_bipush (v := 8) hx hb dX1_moveOn_59 (by decide) ?_
  refine lv_aload_n hx hb dX1_moveOn_61 rfl (lv_at hl 3 rfl) ?_
  refine va_get (D := gD Γ) (cl := vwCl) (tys := gTy Γ) (ci := 1) (v := .ref (a (b + 1))) (C := RX1) (T := TX1) (N := 9) hx hb hts iX1_moveOn_1 hown hK hP 0 rfl rfl 5 (Nat.le_of_ble_eq_true rfl) (hts (.fieldLink RX1 27 "DeadTimeLoop$Loop" "present" "[I") (List.mem_of_getElem? (i := 1) rfl)) (fun _ h9 => h9) rfl dX1_moveOn_62 ?_
  refine lv_bipush (v := 8) hx hb dX1_moveOn_65 (by decide) ?_
  refine ka_iald (D := gD Γ) (cl := vwCl) (tys := gTy Γ) hx hb hK hP 1 0 rfl rfl 8 (by decide) (by decide) (by decide) (v := ((lPres σ) 8)) rfl dX1_moveOn_67 ?_
  refine lv_i2l (v := ((lPres σ) 8).toInt64) hx hb dX1_moveOn_68 rfl ?_
  refine lv_lload hx hb dX1_moveOn_69 (lv_at hl 1 rfl) ?_
  refine lv_sipush (v := 1000) hx hb dX1_moveOn_71 (by decide) ?_
  refine lv_aload_n hx hb dX1_moveOn_74 rfl (lv_at hl 4 rfl) ?_
  refine lv_iconst (v := 3) hx hb dX1_moveOn_75 (by decide) ?_
  refine ca_Vi hh hl.1 (c_X3_get Γ l a2 b2 v 3) (cwV 1 hts gX1_moveOn_X3_get rfl rfl rfl (by decide +kernel) ⟨(Nat.le_of_ble_eq_true rfl), (Nat.le_of_ble_eq_true rfl)⟩) (As := [.int 3]) (rest := [.int 1000, .long (fThou (((fGet v 2).toInt64) * (((fDelay (lNow σ) (lRecs σ) 2 ((lPres σ) 2) (fGet v 4)) + (lLoad σ)).toInt64))), .long (((lPres σ) 8).toInt64), .int 8, .ref (a (b + 1))]) rfl dX1_moveOn_76 rfl (Nat.le_of_ble_eq_true rfl) hP hD hS [9, 10] rfl rfl (q0 := 9) (ci := 3) rfl rfl rfl rfl (wf := lopW Γ a b σ ++ setW Γ a2 b2 v) rfl rfl ⟨Nat.zero_le _, Nat.zero_le _⟩ (fun H locs hP hD hS => ?_)
  refine lv_isub hx hb dX1_moveOn_79 ?_
  refine lv_i2l (v := (1000 - (fGet v 3)).toInt64) hx hb dX1_moveOn_80 rfl ?_
  refine ca_Ni hh hl.1 (c_X6_stepped Γ l (((lPres σ) 8).toInt64) (fThou (((fGet v 2).toInt64) * (((fDelay (lNow σ) (lRecs σ) 2 ((lPres σ) 2) (fGet v 4)) + (lLoad σ)).toInt64))) ((1000 - (fGet v 3)).toInt64)) ⟨va_cnB (host := RX6) 3 hts gX1_moveOn_X6_stepped_n97 rfl rfl rfl hG.1.2.2.2.2.2.2.1 (hts (.initialized RX6) (List.mem_of_getElem? (i := 11) rfl)) (by decide +kernel) ⟨(Nat.le_of_ble_eq_true rfl), (Nat.le_of_ble_eq_true rfl)⟩, (hts (.static yX6_stepped) (List.mem_of_getElem? (i := 37) rfl)), trivial⟩ (As := [.long (((lPres σ) 8).toInt64), .long (fThou (((fGet v 2).toInt64) * (((fDelay (lNow σ) (lRecs σ) 2 ((lPres σ) 2) (fGet v 4)) + (lLoad σ)).toInt64))), .long ((1000 - (fGet v 3)).toInt64)]) (rest := [.int 8, .ref (a (b + 1))]) rfl dX1_moveOn_81 rfl (Nat.le_of_ble_eq_true rfl) hP hD hS ⟨Nat.zero_le _, Nat.zero_le _⟩ (fun H locs hP hS => ?_)
  refine ka_iast (D := gD Γ) (cl := vwCl) (tys := gTy Γ) hx hb hK hP hD hS 1 0 rfl rfl 8 (by decide) (by decide) (by decide) (wf := lopW Γ a b ((lNow σ), (lLoad σ), (lSeed σ), (lBad σ), (lGood σ), (upd (lPres σ) 8 (fStep (((lPres σ) 8).toInt64) (fThou (((fGet v 2).toInt64) * (((fDelay (lNow σ) (lRecs σ) 2 ((lPres σ) 2) (fGet v 4)) + (lLoad σ)).toInt64))) ((1000 - (fGet v 3)).toInt64))), (lRecs σ), (lSec σ), (lWat σ)) ++ setW Γ a2 b2 v) rfl dX1_moveOn_84 (fun H locs hP hD hS => ?_)
  refine lv_aload_n hx hb dX1_moveOn_85 rfl (lv_at hl 3 rfl) ?_
  refine va_get (D := gD Γ) (cl := vwCl) (tys := gTy Γ) (ci := 1) (v := .ref (a (b + 1))) (C := RX1) (T := TX1) (N := 9) hx hb hts iX1_moveOn_1 hown hK hP 0 rfl rfl 5 (Nat.le_of_ble_eq_true rfl) (hts (.fieldLink RX1 27 "DeadTimeLoop$Loop" "present" "[I") (List.mem_of_getElem? (i := 1) rfl)) (fun _ h9 => h9) rfl dX1_moveOn_86 ?_
  refine lv_iconst (v := 3) hx hb dX1_moveOn_89 (by decide) ?_
  refine lv_aload_n hx hb dX1_moveOn_90 rfl (lv_at hl 3 rfl) ?_
  refine va_get (D := gD Γ) (cl := vwCl) (tys := gTy Γ) (ci := 1) (v := .ref (a (b + 1))) (C := RX1) (T := TX1) (N := 9) hx hb hts iX1_moveOn_1 hown hK hP 0 rfl rfl 5 (Nat.le_of_ble_eq_true rfl) (hts (.fieldLink RX1 27 "DeadTimeLoop$Loop" "present" "[I") (List.mem_of_getElem? (i := 1) rfl)) (fun _ h9 => h9) rfl dX1_moveOn_91 ?_
  refine lv_iconst (v := 3) hx hb dX1_moveOn_94 (by decide) ?_
  refine ka_iald (D := gD Γ) (cl := vwCl) (tys := gTy Γ) hx hb hK hP 1 0 rfl rfl 3 (by decide) (by decide) (by decide) (v := ((lPres σ) 3)) rfl dX1_moveOn_95 ?_
  refine lv_i2l (v := ((lPres σ) 3).toInt64) hx hb dX1_moveOn_96 rfl ?_
  refine lv_lload hx hb dX1_moveOn_97 (lv_at hl 0 rfl) ?_
  refine lv_sipush (v := 1000) hx hb dX1_moveOn_99 (by decide) ?_
  refine lv_aload_n hx hb dX1_moveOn_102 rfl (lv_at hl 4 rfl) ?_
  refine lv_bipush (v := 6) hx hb dX1_moveOn_103 (by decide) ?_
  refine ca_Vi hh hl.1 (c_X3_get Γ l a2 b2 v 6) (cwV 1 hts gX1_moveOn_X3_get rfl rfl rfl (by decide +kernel) ⟨(Nat.le_of_ble_eq_true rfl), (Nat.le_of_ble_eq_true rfl)⟩) (As := [.int 6]) (rest := [.int 1000, .long (fThou (((fGet v 5).toInt64) * (((lPres σ) 2).toInt64))), .long (((lPres σ) 3).toInt64), .int 3, .ref (a (b + 1))]) rfl dX1_moveOn_105 rfl (Nat.le_of_ble_eq_true rfl) hP hD hS [9, 10] rfl rfl (q0 := 9) (ci := 3) rfl rfl rfl rfl (wf := lopW Γ a b ((lNow σ), (lLoad σ), (lSeed σ), (lBad σ), (lGood σ), (upd (lPres σ) 8 (fStep (((lPres σ) 8).toInt64) (fThou (((fGet v 2).toInt64) * (((fDelay (lNow σ) (lRecs σ) 2 ((lPres σ) 2) (fGet v 4)) + (lLoad σ)).toInt64))) ((1000 - (fGet v 3)).toInt64))), (lRecs σ), (lSec σ), (lWat σ)) ++ setW Γ a2 b2 v) rfl rfl ⟨Nat.zero_le _, Nat.zero_le _⟩ (fun H locs hP hD hS => ?_)
  refine lv_isub hx hb dX1_moveOn_108 ?_
  refine lv_i2l (v := (1000 - (fGet v 6)).toInt64) hx hb dX1_moveOn_109 rfl ?_
  refine ca_Ni hh hl.1 (c_X6_stepped Γ l (((lPres σ) 3).toInt64) (fThou (((fGet v 5).toInt64) * (((lPres σ) 2).toInt64))) ((1000 - (fGet v 6)).toInt64)) ⟨va_cnB (host := RX6) 3 hts gX1_moveOn_X6_stepped_n97 rfl rfl rfl hG.1.2.2.2.2.2.2.1 (hts (.initialized RX6) (List.mem_of_getElem? (i := 11) rfl)) (by decide +kernel) ⟨(Nat.le_of_ble_eq_true rfl), (Nat.le_of_ble_eq_true rfl)⟩, (hts (.static yX6_stepped) (List.mem_of_getElem? (i := 37) rfl)), trivial⟩ (As := [.long (((lPres σ) 3).toInt64), .long (fThou (((fGet v 5).toInt64) * (((lPres σ) 2).toInt64))), .long ((1000 - (fGet v 6)).toInt64)]) (rest := [.int 3, .ref (a (b + 1))]) rfl dX1_moveOn_110 rfl (Nat.le_of_ble_eq_true rfl) hP hD hS ⟨Nat.zero_le _, Nat.zero_le _⟩ (fun H locs hP hS => ?_)
  refine ka_iast (D := gD Γ) (cl := vwCl) (tys := gTy Γ) hx hb hK hP hD hS 1 0 rfl rfl 3 (by decide) (by decide) (by decide) (wf := lopW Γ a b ((lNow σ), (lLoad σ), (lSeed σ), (lBad σ), (lGood σ), (upd (upd (lPres σ) 8 (fStep (((lPres σ) 8).toInt64) (fThou (((fGet v 2).toInt64) * (((fDelay (lNow σ) (lRecs σ) 2 ((lPres σ) 2) (fGet v 4)) + (lLoad σ)).toInt64))) ((1000 - (fGet v 3)).toInt64))) 3 (fStep (((lPres σ) 3).toInt64) (fThou (((fGet v 5).toInt64) * (((lPres σ) 2).toInt64))) ((1000 - (fGet v 6)).toInt64))), (lRecs σ), (lSec σ), (lWat σ)) ++ setW Γ a2 b2 v) rfl dX1_moveOn_113 (fun H locs hP hD hS => ?_)
  refine lv_aload_n hx hb dX1_moveOn_114 rfl (lv_at hl 3 rfl) ?_
  refine lv_dup hx hb dX1_moveOn_115 rfl ?_
  refine va_get (D := gD Γ) (cl := vwCl) (tys := gTy Γ) (ci := 1) (v := .int (lNow σ)) (C := RX1) (T := TX1) (N := 9) hx hb hts iX1_moveOn_1 hown hK hP 0 rfl rfl 0 (Nat.le_of_ble_eq_true rfl) (hts (.fieldLink RX1 9 "DeadTimeLoop$Loop" "now" "I") (List.mem_of_getElem? (i := 3) rfl)) (fun _ h9 => h9) rfl dX1_moveOn_116 ?_
  refine lv_iconst (v := 1) hx hb dX1_moveOn_119 (by decide) ?_
  refine lv_iadd hx hb dX1_moveOn_120 ?_
  refine va_put (D := gD Γ) (cl := vwCl) (tys := gTy Γ) (ci := 1) (v := .int ((lNow σ) + 1)) (ty := tyX1 0) (C := RX1) (T := TX1) (N := 9) hx hb hts iX1_moveOn_1 tyX1 tyX1_ok nmX1 hown hK hP hD hS 0 rfl rfl 0 (Nat.le_of_ble_eq_true rfl) (hts (.fieldLink RX1 9 "DeadTimeLoop$Loop" "now" "I") (List.mem_of_getElem? (i := 3) rfl)) (fun _ h9 => h9) rfl (tyX1_ok 0 (Nat.le_of_ble_eq_true rfl)) rfl rfl (Nat.le_of_ble_eq_true rfl) dX1_moveOn_121 (fun H locs hP hD hS => ?_)
  have hP : va_P (gD Γ) vwCl (lopW Γ a b (((lNow σ) + 1), (lLoad σ), (lSeed σ), (lBad σ), (lGood σ), (upd (upd (lPres σ) 8 (fStep (((lPres σ) 8).toInt64) (fThou (((fGet v 2).toInt64) * (((fDelay (lNow σ) (lRecs σ) 2 ((lPres σ) 2) (fGet v 4)) + (lLoad σ)).toInt64))) ((1000 - (fGet v 3)).toInt64))) 3 (fStep (((lPres σ) 3).toInt64) (fThou (((fGet v 5).toInt64) * (((lPres σ) 2).toInt64))) ((1000 - (fGet v 6)).toInt64))), (lRecs σ), (lSec σ), (lWat σ)) ++ setW Γ a2 b2 v) H := hP
  have hD : va_D A (lopW Γ a b (((lNow σ) + 1), (lLoad σ), (lSeed σ), (lBad σ), (lGood σ), (upd (upd (lPres σ) 8 (fStep (((lPres σ) 8).toInt64) (fThou (((fGet v 2).toInt64) * (((fDelay (lNow σ) (lRecs σ) 2 ((lPres σ) 2) (fGet v 4)) + (lLoad σ)).toInt64))) ((1000 - (fGet v 3)).toInt64))) 3 (fStep (((lPres σ) 3).toInt64) (fThou (((fGet v 5).toInt64) * (((lPres σ) 2).toInt64))) ((1000 - (fGet v 6)).toInt64))), (lRecs σ), (lSec σ), (lWat σ)) ++ setW Γ a2 b2 v) := hD
  exact re_v hQ ha hx hb hr hlk hAe hP hS dX1_moveOn_124 (by skip; first | rfl | simp [])
end
