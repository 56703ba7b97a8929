-- ===== PART A: goes FIRST, ahead of the names: the tables' words, and 'selects' of the private methods out of them =====
/-- a private method of a class that the tables say can be made, by its rows of tables_1 -/
def lw_okq (q : MethodName × Nat) : Prop := (q.1.cls ≠ "java/lang/invoke/MethodHandle" ∧ q.1.cls ≠ "java/lang/invoke/VarHandle") ∧ Cond.instantiable q.1.cls q.2 ∈ tables_1 ∧ Cond.privateMethod q.1 ∈ tables_1 ∧ Cond.instanceMethod q.1 ∈ tables_1
theorem lw_p0 : lw_okq (⟨"SnowForts", "refuse", "(I)I"⟩, 18) := ⟨⟨by decide +kernel, by decide +kernel⟩, List.mem_of_getElem? (i := 22) (by decide +kernel), List.mem_of_getElem? (i := 435) (by decide +kernel), List.mem_of_getElem? (i := 436) (by decide +kernel)⟩
theorem lw_p1 : lw_okq (⟨"SnowForts", "answer", "(I)I"⟩, 18) := ⟨⟨by decide +kernel, by decide +kernel⟩, List.mem_of_getElem? (i := 22) (by decide +kernel), List.mem_of_getElem? (i := 450) (by decide +kernel), List.mem_of_getElem? (i := 451) (by decide +kernel)⟩
theorem lw_p2 : lw_okq (⟨"SnowForts$Yard", "holds", "(I)Z"⟩, 18) := ⟨⟨by decide +kernel, by decide +kernel⟩, List.mem_of_getElem? (i := 162) (by decide +kernel), List.mem_of_getElem? (i := 466) (by decide +kernel), List.mem_of_getElem? (i := 467) (by decide +kernel)⟩
theorem lw_p3 : lw_okq (⟨"SnowForts$Yard", "halfOf", "(I)I"⟩, 18) := ⟨⟨by decide +kernel, by decide +kernel⟩, List.mem_of_getElem? (i := 162) (by decide +kernel), List.mem_of_getElem? (i := 471) (by decide +kernel), List.mem_of_getElem? (i := 472) (by decide +kernel)⟩
theorem lw_p4 : lw_okq (⟨"SnowForts$Yard", "icedCells", "(I)I"⟩, 18) := ⟨⟨by decide +kernel, by decide +kernel⟩, List.mem_of_getElem? (i := 162) (by decide +kernel), List.mem_of_getElem? (i := 488) (by decide +kernel), List.mem_of_getElem? (i := 489) (by decide +kernel)⟩
theorem lw_p5 : lw_okq (⟨"SnowForts$Yard", "isIn", "(II)Z"⟩, 18) := ⟨⟨by decide +kernel, by decide +kernel⟩, List.mem_of_getElem? (i := 162) (by decide +kernel), List.mem_of_getElem? (i := 492) (by decide +kernel), List.mem_of_getElem? (i := 493) (by decide +kernel)⟩
theorem lw_p6 : lw_okq (⟨"SnowForts$Yard", "wallsOf", "(I)I"⟩, 18) := ⟨⟨by decide +kernel, by decide +kernel⟩, List.mem_of_getElem? (i := 162) (by decide +kernel), List.mem_of_getElem? (i := 496) (by decide +kernel), List.mem_of_getElem? (i := 497) (by decide +kernel)⟩
theorem lw_p7 : lw_okq (⟨"SnowForts$Yard", "heaps", "(II)I"⟩, 18) := ⟨⟨by decide +kernel, by decide +kernel⟩, List.mem_of_getElem? (i := 162) (by decide +kernel), List.mem_of_getElem? (i := 508) (by decide +kernel), List.mem_of_getElem? (i := 509) (by decide +kernel)⟩
theorem lw_p8 : lw_okq (⟨"SnowForts$Yard", "meltsAt", "(II)I"⟩, 18) := ⟨⟨by decide +kernel, by decide +kernel⟩, List.mem_of_getElem? (i := 162) (by decide +kernel), List.mem_of_getElem? (i := 523) (by decide +kernel), List.mem_of_getElem? (i := 524) (by decide +kernel)⟩
theorem lw_p9 : lw_okq (⟨"SnowForts$Yard", "handsLeft", "(I)I"⟩, 18) := ⟨⟨by decide +kernel, by decide +kernel⟩, List.mem_of_getElem? (i := 162) (by decide +kernel), List.mem_of_getElem? (i := 546) (by decide +kernel), List.mem_of_getElem? (i := 547) (by decide +kernel)⟩
theorem lw_p10 : lw_okq (⟨"SnowForts$Yard", "wallLimit", "(I)I"⟩, 18) := ⟨⟨by decide +kernel, by decide +kernel⟩, List.mem_of_getElem? (i := 162) (by decide +kernel), List.mem_of_getElem? (i := 550) (by decide +kernel), List.mem_of_getElem? (i := 551) (by decide +kernel)⟩
theorem lw_p11 : lw_okq (⟨"SnowForts$Yard", "across", "(I)I"⟩, 18) := ⟨⟨by decide +kernel, by decide +kernel⟩, List.mem_of_getElem? (i := 162) (by decide +kernel), List.mem_of_getElem? (i := 555) (by decide +kernel), List.mem_of_getElem? (i := 556) (by decide +kernel)⟩
theorem lw_p12 : lw_okq (⟨"SnowForts$Yard", "raisesOne", "(III)V"⟩, 18) := ⟨⟨by decide +kernel, by decide +kernel⟩, List.mem_of_getElem? (i := 162) (by decide +kernel), List.mem_of_getElem? (i := 559) (by decide +kernel), List.mem_of_getElem? (i := 560) (by decide +kernel)⟩
theorem lw_p13 : lw_okq (⟨"SnowForts$Yard", "breaks", "(III)V"⟩, 18) := ⟨⟨by decide +kernel, by decide +kernel⟩, List.mem_of_getElem? (i := 162) (by decide +kernel), List.mem_of_getElem? (i := 563) (by decide +kernel), List.mem_of_getElem? (i := 564) (by decide +kernel)⟩
theorem lw_p14 : lw_okq (⟨"SnowForts$Yard", "lawfulHands", "(I)I"⟩, 18) := ⟨⟨by decide +kernel, by decide +kernel⟩, List.mem_of_getElem? (i := 162) (by decide +kernel), List.mem_of_getElem? (i := 567) (by decide +kernel), List.mem_of_getElem? (i := 568) (by decide +kernel)⟩
theorem lw_p15 : lw_okq (⟨"SnowForts", "deny", "(I)Z"⟩, 18) := ⟨⟨by decide +kernel, by decide +kernel⟩, List.mem_of_getElem? (i := 22) (by decide +kernel), List.mem_of_getElem? (i := 575) (by decide +kernel), List.mem_of_getElem? (i := 576) (by decide +kernel)⟩
def lw_privs_1 : List (MethodName × Nat) := [(⟨"SnowForts", "refuse", "(I)I"⟩, 18), (⟨"SnowForts", "answer", "(I)I"⟩, 18), (⟨"SnowForts$Yard", "holds", "(I)Z"⟩, 18), (⟨"SnowForts$Yard", "halfOf", "(I)I"⟩, 18), (⟨"SnowForts$Yard", "icedCells", "(I)I"⟩, 18), (⟨"SnowForts$Yard", "isIn", "(II)Z"⟩, 18), (⟨"SnowForts$Yard", "wallsOf", "(I)I"⟩, 18), (⟨"SnowForts$Yard", "heaps", "(II)I"⟩, 18), (⟨"SnowForts$Yard", "meltsAt", "(II)I"⟩, 18), (⟨"SnowForts$Yard", "handsLeft", "(I)I"⟩, 18), (⟨"SnowForts$Yard", "wallLimit", "(I)I"⟩, 18), (⟨"SnowForts$Yard", "across", "(I)I"⟩, 18), (⟨"SnowForts$Yard", "raisesOne", "(III)V"⟩, 18), (⟨"SnowForts$Yard", "breaks", "(III)V"⟩, 18), (⟨"SnowForts$Yard", "lawfulHands", "(I)I"⟩, 18), (⟨"SnowForts", "deny", "(I)Z"⟩, 18)]
theorem lw_r1 : ∀ q ∈ lw_privs_1, lw_okq q := List.forall_mem_cons.mpr ⟨lw_p0, List.forall_mem_cons.mpr ⟨lw_p1, List.forall_mem_cons.mpr ⟨lw_p2, List.forall_mem_cons.mpr ⟨lw_p3, List.forall_mem_cons.mpr ⟨lw_p4, List.forall_mem_cons.mpr ⟨lw_p5, List.forall_mem_cons.mpr ⟨lw_p6, List.forall_mem_cons.mpr ⟨lw_p7, List.forall_mem_cons.mpr ⟨lw_p8, List.forall_mem_cons.mpr ⟨lw_p9, List.forall_mem_cons.mpr ⟨lw_p10, List.forall_mem_cons.mpr ⟨lw_p11, List.forall_mem_cons.mpr ⟨lw_p12, List.forall_mem_cons.mpr ⟨lw_p13, List.forall_mem_cons.mpr ⟨lw_p14, List.forall_mem_cons.mpr ⟨lw_p15, fun _ h => absurd h List.not_mem_nil⟩⟩⟩⟩⟩⟩⟩⟩⟩⟩⟩⟩⟩⟩⟩⟩
theorem lw_p16 : lw_okq (⟨"SnowForts", "grant", "()Z"⟩, 18) := ⟨⟨by decide +kernel, by decide +kernel⟩, List.mem_of_getElem? (i := 22) (by decide +kernel), List.mem_of_getElem? (i := 583) (by decide +kernel), List.mem_of_getElem? (i := 584) (by decide +kernel)⟩
theorem lw_p17 : lw_okq (⟨"SnowForts$Yard", "fitsIn", "(I)I"⟩, 18) := ⟨⟨by decide +kernel, by decide +kernel⟩, List.mem_of_getElem? (i := 162) (by decide +kernel), List.mem_of_getElem? (i := 617) (by decide +kernel), List.mem_of_getElem? (i := 618) (by decide +kernel)⟩
theorem lw_p18 : lw_okq (⟨"SnowForts$Yard", "lastingWall", "(III)I"⟩, 18) := ⟨⟨by decide +kernel, by decide +kernel⟩, List.mem_of_getElem? (i := 162) (by decide +kernel), List.mem_of_getElem? (i := 637) (by decide +kernel), List.mem_of_getElem? (i := 638) (by decide +kernel)⟩
theorem lw_p19 : lw_okq (⟨"SnowForts$Walk", "comesTo", "(LSnowForts$Yard;)Z"⟩, 8) := ⟨⟨by decide +kernel, by decide +kernel⟩, List.mem_of_getElem? (i := 285) (by decide +kernel), List.mem_of_getElem? (i := 649) (by decide +kernel), List.mem_of_getElem? (i := 650) (by decide +kernel)⟩
theorem lw_p20 : lw_okq (⟨"SnowForts$Walk", "weightFrom", "(LSnowForts$Yard;I)I"⟩, 8) := ⟨⟨by decide +kernel, by decide +kernel⟩, List.mem_of_getElem? (i := 285) (by decide +kernel), List.mem_of_getElem? (i := 659) (by decide +kernel), List.mem_of_getElem? (i := 660) (by decide +kernel)⟩
theorem lw_p21 : lw_okq (⟨"SnowForts$Walk", "weightBy", "(II)I"⟩, 8) := ⟨⟨by decide +kernel, by decide +kernel⟩, List.mem_of_getElem? (i := 285) (by decide +kernel), List.mem_of_getElem? (i := 671) (by decide +kernel), List.mem_of_getElem? (i := 672) (by decide +kernel)⟩
theorem lw_p22 : lw_okq (⟨"SnowForts$Walk", "begin", "()V"⟩, 8) := ⟨⟨by decide +kernel, by decide +kernel⟩, List.mem_of_getElem? (i := 285) (by decide +kernel), List.mem_of_getElem? (i := 676) (by decide +kernel), List.mem_of_getElem? (i := 677) (by decide +kernel)⟩
theorem lw_p23 : lw_okq (⟨"SnowForts$Walk", "cellBehind", "(LSnowForts$Yard;I)I"⟩, 8) := ⟨⟨by decide +kernel, by decide +kernel⟩, List.mem_of_getElem? (i := 285) (by decide +kernel), List.mem_of_getElem? (i := 685) (by decide +kernel), List.mem_of_getElem? (i := 686) (by decide +kernel)⟩
theorem lw_p24 : lw_okq (⟨"SnowForts", "isPeace", "()Z"⟩, 18) := ⟨⟨by decide +kernel, by decide +kernel⟩, List.mem_of_getElem? (i := 22) (by decide +kernel), List.mem_of_getElem? (i := 697) (by decide +kernel), List.mem_of_getElem? (i := 698) (by decide +kernel)⟩
theorem lw_p25 : lw_okq (⟨"SnowForts$Reader", "passBlanks", "()V"⟩, 17) := ⟨⟨by decide +kernel, by decide +kernel⟩, List.mem_of_getElem? (i := 47) (by decide +kernel), List.mem_of_getElem? (i := 817) (by decide +kernel), List.mem_of_getElem? (i := 818) (by decide +kernel)⟩
theorem lw_p26 : lw_okq (⟨"SnowForts$Reader", "byteAt", "(I)I"⟩, 17) := ⟨⟨by decide +kernel, by decide +kernel⟩, List.mem_of_getElem? (i := 47) (by decide +kernel), List.mem_of_getElem? (i := 821) (by decide +kernel), List.mem_of_getElem? (i := 822) (by decide +kernel)⟩
theorem lw_p27 : lw_okq (⟨"SnowForts$Reader", "kindHere", "()I"⟩, 17) := ⟨⟨by decide +kernel, by decide +kernel⟩, List.mem_of_getElem? (i := 47) (by decide +kernel), List.mem_of_getElem? (i := 825) (by decide +kernel), List.mem_of_getElem? (i := 826) (by decide +kernel)⟩
theorem lw_p28 : lw_okq (⟨"SnowForts$Reader", "passWord", "()J"⟩, 17) := ⟨⟨by decide +kernel, by decide +kernel⟩, List.mem_of_getElem? (i := 47) (by decide +kernel), List.mem_of_getElem? (i := 835) (by decide +kernel), List.mem_of_getElem? (i := 836) (by decide +kernel)⟩
theorem lw_p29 : lw_okq (⟨"SnowForts$Reader", "passNumber", "()I"⟩, 17) := ⟨⟨by decide +kernel, by decide +kernel⟩, List.mem_of_getElem? (i := 47) (by decide +kernel), List.mem_of_getElem? (i := 846) (by decide +kernel), List.mem_of_getElem? (i := 847) (by decide +kernel)⟩
theorem lw_p30 : lw_okq (⟨"SnowForts$YardText", "takeSize", "(LSnowForts$Yard;)Z"⟩, 5) := ⟨⟨by decide +kernel, by decide +kernel⟩, List.mem_of_getElem? (i := 121) (by decide +kernel), List.mem_of_getElem? (i := 854) (by decide +kernel), List.mem_of_getElem? (i := 855) (by decide +kernel)⟩
theorem lw_p31 : lw_okq (⟨"SnowForts$YardText", "takePart", "(LSnowForts$Yard;)Z"⟩, 5) := ⟨⟨by decide +kernel, by decide +kernel⟩, List.mem_of_getElem? (i := 121) (by decide +kernel), List.mem_of_getElem? (i := 884) (by decide +kernel), List.mem_of_getElem? (i := 885) (by decide +kernel)⟩
def lw_privs_2 : List (MethodName × Nat) := [(⟨"SnowForts", "grant", "()Z"⟩, 18), (⟨"SnowForts$Yard", "fitsIn", "(I)I"⟩, 18), (⟨"SnowForts$Yard", "lastingWall", "(III)I"⟩, 18), (⟨"SnowForts$Walk", "comesTo", "(LSnowForts$Yard;)Z"⟩, 8), (⟨"SnowForts$Walk", "weightFrom", "(LSnowForts$Yard;I)I"⟩, 8), (⟨"SnowForts$Walk", "weightBy", "(II)I"⟩, 8), (⟨"SnowForts$Walk", "begin", "()V"⟩, 8), (⟨"SnowForts$Walk", "cellBehind", "(LSnowForts$Yard;I)I"⟩, 8), (⟨"SnowForts", "isPeace", "()Z"⟩, 18), (⟨"SnowForts$Reader", "passBlanks", "()V"⟩, 17), (⟨"SnowForts$Reader", "byteAt", "(I)I"⟩, 17), (⟨"SnowForts$Reader", "kindHere", "()I"⟩, 17), (⟨"SnowForts$Reader", "passWord", "()J"⟩, 17), (⟨"SnowForts$Reader", "passNumber", "()I"⟩, 17), (⟨"SnowForts$YardText", "takeSize", "(LSnowForts$Yard;)Z"⟩, 5), (⟨"SnowForts$YardText", "takePart", "(LSnowForts$Yard;)Z"⟩, 5)]
theorem lw_r2 : ∀ q ∈ lw_privs_2, lw_okq q := List.forall_mem_cons.mpr ⟨lw_p16, List.forall_mem_cons.mpr ⟨lw_p17, List.forall_mem_cons.mpr ⟨lw_p18, List.forall_mem_cons.mpr ⟨lw_p19, List.forall_mem_cons.mpr ⟨lw_p20, List.forall_mem_cons.mpr ⟨lw_p21, List.forall_mem_cons.mpr ⟨lw_p22, List.forall_mem_cons.mpr ⟨lw_p23, List.forall_mem_cons.mpr ⟨lw_p24, List.forall_mem_cons.mpr ⟨lw_p25, List.forall_mem_cons.mpr ⟨lw_p26, List.forall_mem_cons.mpr ⟨lw_p27, List.forall_mem_cons.mpr ⟨lw_p28, List.forall_mem_cons.mpr ⟨lw_p29, List.forall_mem_cons.mpr ⟨lw_p30, List.forall_mem_cons.mpr ⟨lw_p31, fun _ h => absurd h List.not_mem_nil⟩⟩⟩⟩⟩⟩⟩⟩⟩⟩⟩⟩⟩⟩⟩⟩
theorem lw_p32 : lw_okq (⟨"SnowForts$YardText", "takeSchool", "(LSnowForts$Yard;)Z"⟩, 5) := ⟨⟨by decide +kernel, by decide +kernel⟩, List.mem_of_getElem? (i := 121) (by decide +kernel), List.mem_of_getElem? (i := 890) (by decide +kernel), List.mem_of_getElem? (i := 891) (by decide +kernel)⟩
theorem lw_p33 : lw_okq (⟨"SnowForts$YardText", "takeHeap", "(LSnowForts$Yard;[I[ILSnowForts$Word;I)Z"⟩, 5) := ⟨⟨by decide +kernel, by decide +kernel⟩, List.mem_of_getElem? (i := 121) (by decide +kernel), List.mem_of_getElem? (i := 907) (by decide +kernel), List.mem_of_getElem? (i := 908) (by decide +kernel)⟩
theorem lw_p34 : lw_okq (⟨"SnowForts$YardText", "takeArticle", "(LSnowForts$Yard;)Z"⟩, 5) := ⟨⟨by decide +kernel, by decide +kernel⟩, List.mem_of_getElem? (i := 121) (by decide +kernel), List.mem_of_getElem? (i := 921) (by decide +kernel), List.mem_of_getElem? (i := 922) (by decide +kernel)⟩
theorem lw_p35 : lw_okq (⟨"SnowForts$YardText", "isNew", "(LSnowForts$Yard;I)Z"⟩, 5) := ⟨⟨by decide +kernel, by decide +kernel⟩, List.mem_of_getElem? (i := 121) (by decide +kernel), List.mem_of_getElem? (i := 925) (by decide +kernel), List.mem_of_getElem? (i := 926) (by decide +kernel)⟩
theorem lw_p36 : lw_okq (⟨"SnowForts$YardText", "takeLimit", "(LSnowForts$Yard;ILSnowForts$Word;I)Z"⟩, 5) := ⟨⟨by decide +kernel, by decide +kernel⟩, List.mem_of_getElem? (i := 121) (by decide +kernel), List.mem_of_getElem? (i := 931) (by decide +kernel), List.mem_of_getElem? (i := 932) (by decide +kernel)⟩
theorem lw_p37 : lw_okq (⟨"SnowForts$OrdersText", "takeEnd", "(LSnowForts$Orders;)Z"⟩, 4) := ⟨⟨by decide +kernel, by decide +kernel⟩, List.mem_of_getElem? (i := 143) (by decide +kernel), List.mem_of_getElem? (i := 960) (by decide +kernel), List.mem_of_getElem? (i := 961) (by decide +kernel)⟩
theorem lw_p38 : lw_okq (⟨"SnowForts$OrdersText", "takeStep", "(LSnowForts$Yard;LSnowForts$Orders;)Z"⟩, 4) := ⟨⟨by decide +kernel, by decide +kernel⟩, List.mem_of_getElem? (i := 143) (by decide +kernel), List.mem_of_getElem? (i := 970) (by decide +kernel), List.mem_of_getElem? (i := 971) (by decide +kernel)⟩
theorem lw_p39 : lw_okq (⟨"SnowForts$OrdersText", "takeTest", "(LSnowForts$Yard;LSnowForts$Orders;)Z"⟩, 4) := ⟨⟨by decide +kernel, by decide +kernel⟩, List.mem_of_getElem? (i := 143) (by decide +kernel), List.mem_of_getElem? (i := 995) (by decide +kernel), List.mem_of_getElem? (i := 996) (by decide +kernel)⟩
theorem lw_p40 : lw_okq (⟨"SnowForts$OrdersText", "takeCell", "(LSnowForts$Yard;Z[I)Z"⟩, 4) := ⟨⟨by decide +kernel, by decide +kernel⟩, List.mem_of_getElem? (i := 143) (by decide +kernel), List.mem_of_getElem? (i := 1006) (by decide +kernel), List.mem_of_getElem? (i := 1007) (by decide +kernel)⟩
theorem lw_p41 : lw_okq (⟨"SnowForts$OrdersText", "takeComparing", "(LSnowForts$Orders;)Z"⟩, 4) := ⟨⟨by decide +kernel, by decide +kernel⟩, List.mem_of_getElem? (i := 143) (by decide +kernel), List.mem_of_getElem? (i := 1013) (by decide +kernel), List.mem_of_getElem? (i := 1014) (by decide +kernel)⟩
theorem lw_p42 : lw_okq (⟨"SnowForts$OrdersText", "takeAmount", "(LSnowForts$Orders;II)Z"⟩, 4) := ⟨⟨by decide +kernel, by decide +kernel⟩, List.mem_of_getElem? (i := 143) (by decide +kernel), List.mem_of_getElem? (i := 1017) (by decide +kernel), List.mem_of_getElem? (i := 1018) (by decide +kernel)⟩
theorem lw_p43 : lw_okq (⟨"SnowForts$OrdersText", "takeRest", "(ILSnowForts$Yard;LSnowForts$Orders;)Z"⟩, 4) := ⟨⟨by decide +kernel, by decide +kernel⟩, List.mem_of_getElem? (i := 143) (by decide +kernel), List.mem_of_getElem? (i := 1021) (by decide +kernel), List.mem_of_getElem? (i := 1022) (by decide +kernel)⟩
theorem lw_p44 : lw_okq (⟨"SnowForts$OrdersText", "takeStorm", "(LSnowForts$Orders;)Z"⟩, 4) := ⟨⟨by decide +kernel, by decide +kernel⟩, List.mem_of_getElem? (i := 143) (by decide +kernel), List.mem_of_getElem? (i := 1025) (by decide +kernel), List.mem_of_getElem? (i := 1026) (by decide +kernel)⟩
theorem lw_p45 : lw_okq (⟨"SnowForts$OrdersText", "crossesHalves", "(LSnowForts$Yard;LSnowForts$Orders;)Z"⟩, 4) := ⟨⟨by decide +kernel, by decide +kernel⟩, List.mem_of_getElem? (i := 143) (by decide +kernel), List.mem_of_getElem? (i := 1035) (by decide +kernel), List.mem_of_getElem? (i := 1036) (by decide +kernel)⟩
def lw_privs_3 : List (MethodName × Nat) := [(⟨"SnowForts$YardText", "takeSchool", "(LSnowForts$Yard;)Z"⟩, 5), (⟨"SnowForts$YardText", "takeHeap", "(LSnowForts$Yard;[I[ILSnowForts$Word;I)Z"⟩, 5), (⟨"SnowForts$YardText", "takeArticle", "(LSnowForts$Yard;)Z"⟩, 5), (⟨"SnowForts$YardText", "isNew", "(LSnowForts$Yard;I)Z"⟩, 5), (⟨"SnowForts$YardText", "takeLimit", "(LSnowForts$Yard;ILSnowForts$Word;I)Z"⟩, 5), (⟨"SnowForts$OrdersText", "takeEnd", "(LSnowForts$Orders;)Z"⟩, 4), (⟨"SnowForts$OrdersText", "takeStep", "(LSnowForts$Yard;LSnowForts$Orders;)Z"⟩, 4), (⟨"SnowForts$OrdersText", "takeTest", "(LSnowForts$Yard;LSnowForts$Orders;)Z"⟩, 4), (⟨"SnowForts$OrdersText", "takeCell", "(LSnowForts$Yard;Z[I)Z"⟩, 4), (⟨"SnowForts$OrdersText", "takeComparing", "(LSnowForts$Orders;)Z"⟩, 4), (⟨"SnowForts$OrdersText", "takeAmount", "(LSnowForts$Orders;II)Z"⟩, 4), (⟨"SnowForts$OrdersText", "takeRest", "(ILSnowForts$Yard;LSnowForts$Orders;)Z"⟩, 4), (⟨"SnowForts$OrdersText", "takeStorm", "(LSnowForts$Orders;)Z"⟩, 4), (⟨"SnowForts$OrdersText", "crossesHalves", "(LSnowForts$Yard;LSnowForts$Orders;)Z"⟩, 4)]
theorem lw_r3 : ∀ q ∈ lw_privs_3, lw_okq q := List.forall_mem_cons.mpr ⟨lw_p32, List.forall_mem_cons.mpr ⟨lw_p33, List.forall_mem_cons.mpr ⟨lw_p34, List.forall_mem_cons.mpr ⟨lw_p35, List.forall_mem_cons.mpr ⟨lw_p36, List.forall_mem_cons.mpr ⟨lw_p37, List.forall_mem_cons.mpr ⟨lw_p38, List.forall_mem_cons.mpr ⟨lw_p39, List.forall_mem_cons.mpr ⟨lw_p40, List.forall_mem_cons.mpr ⟨lw_p41, List.forall_mem_cons.mpr ⟨lw_p42, List.forall_mem_cons.mpr ⟨lw_p43, List.forall_mem_cons.mpr ⟨lw_p44, List.forall_mem_cons.mpr ⟨lw_p45, fun _ h => absurd h List.not_mem_nil⟩⟩⟩⟩⟩⟩⟩⟩⟩⟩⟩⟩⟩⟩
def lw_privs : List (MethodName × Nat) := lw_privs_1 ++ (lw_privs_2 ++ (lw_privs_3))
def lw_tbl : List Cond := k2_sels lw_privs ++ tables_1
theorem lw_privs_ok : ∀ q ∈ lw_privs, lw_okq q := by
  show ∀ q ∈ lw_privs_1 ++ (lw_privs_2 ++ (lw_privs_3)), lw_okq q
  exact List.forall_mem_append.mpr ⟨lw_r1, List.forall_mem_append.mpr ⟨lw_r2, lw_r3⟩⟩
def RX0 : String := "SnowForts$Mornings"
def TX0 : u_T := fun k => match k with
  | 0 => ("SnowForts$Mornings", "rows", "J", false)
  | 1 => ("SnowForts$Mornings", "fewest", "I", false)
  | 2 => ("SnowForts$Mornings", "greatest", "I", false)
  | _ => ("SnowForts$Mornings", "hardest", "I", false)
def tyX0 : Nat → FieldType := fun k => match k with
  | 0 => .long
  | 1 => .int
  | 2 => .int
  | _ => .int
abbrev wsX00 : List Cond := u_ws RX0 TX0 4
theorem nmX0 : ∀ a, a < 4 → ∀ b, b < 4 → a ≠ b → (TX0 a).2.1 ≠ (TX0 b).2.1 := by decide +kernel
theorem tyX0_ok : ∀ k, k < 4 → parseFieldDescriptor (TX0 k).2.2.1 = some (tyX0 k) := by decide +kernel
abbrev cX0_init : ByteArray := prog_2_method_1_code
def yX0_init : MethodName := ⟨RX0, "<init>", "()V"⟩
def RX1 : String := "SnowForts$Odds"
def TX1 : u_T := fun k => match k with
  | 0 => ("SnowForts$Odds", "upper", "J", false)
  | 1 => ("SnowForts$Odds", "lower", "J", false)
  | 2 => ("SnowForts$Odds", "cases", "[J", true)
  | _ => ("SnowForts$Odds", "allCases", "J", false)
def tyX1 : Nat → FieldType := fun k => match k with
  | 0 => .long
  | 1 => .long
  | 2 => .array .long
  | _ => .long
abbrev wsX10 : List Cond := u_ws RX1 TX1 4
theorem nmX1 : ∀ a, a < 4 → ∀ b, b < 4 → a ≠ b → (TX1 a).2.1 ≠ (TX1 b).2.1 := by decide +kernel
theorem tyX1_ok : ∀ k, k < 4 → parseFieldDescriptor (TX1 k).2.2.1 = some (tyX1 k) := by decide +kernel
abbrev cX1_init : ByteArray := prog_3_method_1_code
def yX1_init : MethodName := ⟨RX1, "<init>", "()V"⟩
def RX2 : String := "SnowForts$Orders"
def TX2 : u_T := fun k => match k with
  | 0 => ("SnowForts$Orders", "given", "Z", false)
  | 1 => ("SnowForts$Orders", "items", "I", false)
  | 2 => ("SnowForts$Orders", "steps", "I", false)
  | 3 => ("SnowForts$Orders", "kinds", "[I", true)
  | 4 => ("SnowForts$Orders", "amounts", "[I", true)
  | 5 => ("SnowForts$Orders", "seconds", "[I", true)
  | 6 => ("SnowForts$Orders", "cells", "[I", true)
  | 7 => ("SnowForts$Orders", "froms", "[I", true)
  | _ => ("SnowForts$Orders", "partners", "[I", true)
def tyX2 : Nat → FieldType := fun k => match k with
  | 0 => .boolean
  | 1 => .int
  | 2 => .int
  | 3 => .array .int
  | 4 => .array .int
  | 5 => .array .int
  | 6 => .array .int
  | 7 => .array .int
  | _ => .array .int
abbrev wsX20 : List Cond := u_ws RX2 TX2 9
theorem nmX2 : ∀ a, a < 9 → ∀ b, b < 9 → a ≠ b → (TX2 a).2.1 ≠ (TX2 b).2.1 := by decide +kernel
theorem tyX2_ok : ∀ k, k < 9 → parseFieldDescriptor (TX2 k).2.2.1 = some (tyX2 k) := by decide +kernel
abbrev cX2_init : ByteArray := prog_4_method_1_code
def yX2_init : MethodName := ⟨RX2, "<init>", "()V"⟩
abbrev cX2_clear : ByteArray := prog_4_method_2_code
def yX2_clear : MethodName := ⟨RX2, "clear", "()V"⟩
abbrev cX2_isItem : ByteArray := prog_4_method_4_code
def yX2_isItem : MethodName := ⟨RX2, "isItem", "(I)Z"⟩
def RX3 : String := "SnowForts$OrdersText"
def TX3 : u_T := fun k => match k with
  | 0 => ("SnowForts$OrdersText", "reader", "LSnowForts$Reader;", true)
  | 1 => ("SnowForts$OrdersText", "openers", "[I", true)
  | 2 => ("SnowForts$OrdersText", "depth", "I", false)
  | _ => ("SnowForts$OrdersText", "item", "I", false)
def tyX3 : Nat → FieldType := fun k => match k with
  | 0 => .object "SnowForts$Reader"
  | 1 => .array .int
  | 2 => .int
  | _ => .int
abbrev wsX30 : List Cond := u_ws RX3 TX3 4
theorem nmX3 : ∀ a, a < 4 → ∀ b, b < 4 → a ≠ b → (TX3 a).2.1 ≠ (TX3 b).2.1 := by decide +kernel
theorem tyX3_ok : ∀ k, k < 4 → parseFieldDescriptor (TX3 k).2.2.1 = some (tyX3 k) := by decide +kernel
abbrev cX3_init : ByteArray := prog_5_method_1_code
def yX3_init : MethodName := ⟨RX3, "<init>", "(LSnowForts$Reader;)V"⟩
abbrev cX3_parse : ByteArray := prog_5_method_2_code
def yX3_parse : MethodName := ⟨RX3, "parse", "(ILSnowForts$Yard;LSnowForts$Orders;)Z"⟩
abbrev cX3_takeEnd : ByteArray := prog_5_method_3_code
def yX3_takeEnd : MethodName := ⟨RX3, "takeEnd", "(LSnowForts$Orders;)Z"⟩
abbrev cX3_takeStep : ByteArray := prog_5_method_4_code
def yX3_takeStep : MethodName := ⟨RX3, "takeStep", "(LSnowForts$Yard;LSnowForts$Orders;)Z"⟩
abbrev cX3_kindOf : ByteArray := prog_5_method_5_code
def yX3_kindOf : MethodName := ⟨RX3, "kindOf", "(LSnowForts$Word;)I"⟩
abbrev cX3_takeRest : ByteArray := prog_5_method_6_code
def yX3_takeRest : MethodName := ⟨RX3, "takeRest", "(ILSnowForts$Yard;LSnowForts$Orders;)Z"⟩
abbrev cX3_takeAmount : ByteArray := prog_5_method_7_code
def yX3_takeAmount : MethodName := ⟨RX3, "takeAmount", "(LSnowForts$Orders;II)Z"⟩
abbrev cX3_takeStorm : ByteArray := prog_5_method_8_code
def yX3_takeStorm : MethodName := ⟨RX3, "takeStorm", "(LSnowForts$Orders;)Z"⟩
abbrev cX3_takeCell : ByteArray := prog_5_method_9_code
def yX3_takeCell : MethodName := ⟨RX3, "takeCell", "(LSnowForts$Yard;Z[I)Z"⟩
abbrev cX3_crossesHalves : ByteArray := prog_5_method_10_code
def yX3_crossesHalves : MethodName := ⟨RX3, "crossesHalves", "(LSnowForts$Yard;LSnowForts$Orders;)Z"⟩
abbrev cX3_takeTest : ByteArray := prog_5_method_11_code
def yX3_takeTest : MethodName := ⟨RX3, "takeTest", "(LSnowForts$Yard;LSnowForts$Orders;)Z"⟩
abbrev cX3_takeComparing : ByteArray := prog_5_method_12_code
def yX3_takeComparing : MethodName := ⟨RX3, "takeComparing", "(LSnowForts$Orders;)Z"⟩
def RX4 : String := "SnowForts$Reader"
def TX4 : u_T := fun k => match k with
  | 0 => ("SnowForts$Reader", "tape", "[B", true)
  | 1 => ("SnowForts$Reader", "filled", "I", false)
  | 2 => ("SnowForts$Reader", "kinds", "[I", true)
  | 3 => ("SnowForts$Reader", "places", "[I", true)
  | 4 => ("SnowForts$Reader", "values", "[J", true)
  | 5 => ("SnowForts$Reader", "words", "[LSnowForts$Word;", true)
  | 6 => ("SnowForts$Reader", "length", "I", false)
  | 7 => ("SnowForts$Reader", "next", "I", false)
  | 8 => ("SnowForts$Reader", "token", "I", false)
  | 9 => ("SnowForts$Reader", "kind", "I", false)
  | 10 => ("SnowForts$Reader", "place", "I", false)
  | 11 => ("SnowForts$Reader", "value", "J", false)
  | 12 => ("SnowForts$Reader", "word", "LSnowForts$Word;", false)
  | 13 => ("SnowForts$Reader", "number", "I", false)
  | 14 => ("SnowForts$Reader", "numberPlace", "I", false)
  | 15 => ("SnowForts$Reader", "fault", "I", false)
  | _ => ("SnowForts$Reader", "faultPlace", "I", false)
def tyX4 : Nat → FieldType := fun k => match k with
  | 0 => .array .byte
  | 1 => .int
  | 2 => .array .int
  | 3 => .array .int
  | 4 => .array .long
  | 5 => .array (.object "SnowForts$Word")
  | 6 => .int
  | 7 => .int
  | 8 => .int
  | 9 => .int
  | 10 => .int
  | 11 => .long
  | 12 => .object "SnowForts$Word"
  | 13 => .int
  | 14 => .int
  | 15 => .int
  | _ => .int
abbrev wsX40 : List Cond := u_ws RX4 TX4 17
theorem nmX4 : ∀ a, a < 17 → ∀ b, b < 17 → a ≠ b → (TX4 a).2.1 ≠ (TX4 b).2.1 := by decide +kernel
theorem tyX4_ok : ∀ k, k < 17 → parseFieldDescriptor (TX4 k).2.2.1 = some (tyX4 k) := by decide +kernel
abbrev cX4_init : ByteArray := prog_6_method_1_code
def yX4_init : MethodName := ⟨RX4, "<init>", "()V"⟩
abbrev cX4_append : ByteArray := prog_6_method_2_code
def yX4_append : MethodName := ⟨RX4, "append", "(I)V"⟩
abbrev cX4_start : ByteArray := prog_6_method_3_code
def yX4_start : MethodName := ⟨RX4, "start", "(I)V"⟩
abbrev cX4_byteAt : ByteArray := prog_6_method_4_code
def yX4_byteAt : MethodName := ⟨RX4, "byteAt", "(I)I"⟩
abbrev cX4_isLetter : ByteArray := prog_6_method_5_code
def yX4_isLetter : MethodName := ⟨RX4, "isLetter", "(I)Z"⟩
abbrev cX4_isDigit : ByteArray := prog_6_method_6_code
def yX4_isDigit : MethodName := ⟨RX4, "isDigit", "(I)Z"⟩
abbrev cX4_passBlanks : ByteArray := prog_6_method_7_code
def yX4_passBlanks : MethodName := ⟨RX4, "passBlanks", "()V"⟩
abbrev cX4_kindHere : ByteArray := prog_6_method_8_code
def yX4_kindHere : MethodName := ⟨RX4, "kindHere", "()I"⟩
abbrev cX4_passWord : ByteArray := prog_6_method_9_code
def yX4_passWord : MethodName := ⟨RX4, "passWord", "()J"⟩
abbrev cX4_passNumber : ByteArray := prog_6_method_10_code
def yX4_passNumber : MethodName := ⟨RX4, "passNumber", "()I"⟩
abbrev cX4_advance : ByteArray := prog_6_method_11_code
def yX4_advance : MethodName := ⟨RX4, "advance", "()V"⟩
abbrev cX4_fail : ByteArray := prog_6_method_12_code
def yX4_fail : MethodName := ⟨RX4, "fail", "(II)Z"⟩
abbrev cX4_misfit : ByteArray := prog_6_method_13_code
def yX4_misfit : MethodName := ⟨RX4, "misfit", "()Z"⟩
abbrev cX4_take : ByteArray := prog_6_method_14_code
def yX4_take : MethodName := ⟨RX4, "take", "(LSnowForts$Word;)Z"⟩
abbrev cX4_takeSign : ByteArray := prog_6_method_15_code
def yX4_takeSign : MethodName := ⟨RX4, "takeSign", "(I)Z"⟩
abbrev cX4_takeNumber : ByteArray := prog_6_method_16_code
def yX4_takeNumber : MethodName := ⟨RX4, "takeNumber", "(II)Z"⟩
abbrev cX4_isName : ByteArray := prog_6_method_17_code
def yX4_isName : MethodName := ⟨RX4, "isName", "()Z"⟩
def RX5 : String := "SnowForts$Runner"
def TX5 : u_T := fun k => match k with
  | 0 => ("SnowForts$Runner", "done", "I", false)
  | 1 => ("SnowForts$Runner", "missed", "I", false)
  | 2 => ("SnowForts$Runner", "built", "I", false)
  | 3 => ("SnowForts$Runner", "broken", "I", false)
  | 4 => ("SnowForts$Runner", "leftOver", "Z", false)
  | 5 => ("SnowForts$Runner", "draws", "I", false)
  | _ => ("SnowForts$Runner", "rounds", "[I", true)
def tyX5 : Nat → FieldType := fun k => match k with
  | 0 => .int
  | 1 => .int
  | 2 => .int
  | 3 => .int
  | 4 => .boolean
  | 5 => .int
  | _ => .array .int
abbrev wsX50 : List Cond := u_ws RX5 TX5 7
theorem nmX5 : ∀ a, a < 7 → ∀ b, b < 7 → a ≠ b → (TX5 a).2.1 ≠ (TX5 b).2.1 := by decide +kernel
theorem tyX5_ok : ∀ k, k < 7 → parseFieldDescriptor (TX5 k).2.2.1 = some (tyX5 k) := by decide +kernel
abbrev cX5_init : ByteArray := prog_7_method_1_code
def yX5_init : MethodName := ⟨RX5, "<init>", "()V"⟩
def RX6 : String := "SnowForts$Tray"
def TX6 : u_T := fun k => match k with
  | 0 => ("SnowForts$Tray", "numbers", "[J", true)
  | 1 => ("SnowForts$Tray", "sort", "I", false)
  | _ => ("SnowForts$Tray", "length", "I", false)
def tyX6 : Nat → FieldType := fun k => match k with
  | 0 => .array .long
  | 1 => .int
  | _ => .int
abbrev wsX60 : List Cond := u_ws RX6 TX6 3
theorem nmX6 : ∀ a, a < 3 → ∀ b, b < 3 → a ≠ b → (TX6 a).2.1 ≠ (TX6 b).2.1 := by decide +kernel
theorem tyX6_ok : ∀ k, k < 3 → parseFieldDescriptor (TX6 k).2.2.1 = some (tyX6 k) := by decide +kernel
abbrev cX6_init : ByteArray := prog_8_method_1_code
def yX6_init : MethodName := ⟨RX6, "<init>", "()V"⟩
def RX7 : String := "SnowForts$Walk"
def TX7 : u_T := fun k => match k with
  | 0 => ("SnowForts$Walk", "path", "[I", true)
  | 1 => ("SnowForts$Walk", "traced", "I", false)
  | 2 => ("SnowForts$Walk", "heights", "[I", true)
  | 3 => ("SnowForts$Walk", "weights", "[I", true)
  | 4 => ("SnowForts$Walk", "wide", "I", false)
  | 5 => ("SnowForts$Walk", "high", "I", false)
  | 6 => ("SnowForts$Walk", "beginning", "I", false)
  | _ => ("SnowForts$Walk", "cost", "I", false)
def tyX7 : Nat → FieldType := fun k => match k with
  | 0 => .array .int
  | 1 => .int
  | 2 => .array .int
  | 3 => .array .int
  | 4 => .int
  | 5 => .int
  | 6 => .int
  | _ => .int
abbrev wsX70 : List Cond := u_ws RX7 TX7 8
theorem nmX7 : ∀ a, a < 8 → ∀ b, b < 8 → a ≠ b → (TX7 a).2.1 ≠ (TX7 b).2.1 := by decide +kernel
theorem tyX7_ok : ∀ k, k < 8 → parseFieldDescriptor (TX7 k).2.2.1 = some (tyX7 k) := by decide +kernel
abbrev cX7_init : ByteArray := prog_9_method_1_code
def yX7_init : MethodName := ⟨RX7, "<init>", "()V"⟩
abbrev cX7_costOver : ByteArray := prog_9_method_2_code
def yX7_costOver : MethodName := ⟨RX7, "costOver", "(LSnowForts$Yard;)I"⟩
abbrev cX7_comesTo : ByteArray := prog_9_method_3_code
def yX7_comesTo : MethodName := ⟨RX7, "comesTo", "(LSnowForts$Yard;)Z"⟩
abbrev cX7_begin : ByteArray := prog_9_method_4_code
def yX7_begin : MethodName := ⟨RX7, "begin", "()V"⟩
abbrev cX7_costOfStep : ByteArray := prog_9_method_5_code
def yX7_costOfStep : MethodName := ⟨RX7, "costOfStep", "(II)I"⟩
abbrev cX7_weightFrom : ByteArray := prog_9_method_6_code
def yX7_weightFrom : MethodName := ⟨RX7, "weightFrom", "(LSnowForts$Yard;I)I"⟩
abbrev cX7_weightBy : ByteArray := prog_9_method_7_code
def yX7_weightBy : MethodName := ⟨RX7, "weightBy", "(II)I"⟩
abbrev cX7_trace : ByteArray := prog_9_method_8_code
def yX7_trace : MethodName := ⟨RX7, "trace", "(LSnowForts$Yard;)V"⟩
abbrev cX7_cellBehind : ByteArray := prog_9_method_9_code
def yX7_cellBehind : MethodName := ⟨RX7, "cellBehind", "(LSnowForts$Yard;I)I"⟩
def RX8 : String := "SnowForts$Word"
def TX8 : u_T := fun k => match k with
  | _ => ("", "", "", false)
def tyX8 : Nat → FieldType := fun k => match k with
  | _ => .int
abbrev wsX80 : List Cond := u_ws RX8 TX8 0
theorem nmX8 : ∀ a, a < 0 → ∀ b, b < 0 → a ≠ b → (TX8 a).2.1 ≠ (TX8 b).2.1 := by decide +kernel
theorem tyX8_ok : ∀ k, k < 0 → parseFieldDescriptor (TX8 k).2.2.1 = some (tyX8 k) := by decide +kernel
abbrev cX8_of : ByteArray := prog_10_method_4_code
def yX8_of : MethodName := ⟨RX8, "of", "(J)LSnowForts$Word;"⟩
def RX9 : String := "SnowForts$Yard"
def TX9 : u_T := fun k => match k with
  | 0 => ("SnowForts$Yard", "wide", "I", false)
  | 1 => ("SnowForts$Yard", "high", "I", false)
  | 2 => ("SnowForts$Yard", "schools", "I", false)
  | 3 => ("SnowForts$Yard", "day", "I", false)
  | 4 => ("SnowForts$Yard", "melted", "I", false)
  | 5 => ("SnowForts$Yard", "ranOff", "I", false)
  | 6 => ("SnowForts$Yard", "fell", "I", false)
  | 7 => ("SnowForts$Yard", "hands", "[I", true)
  | 8 => ("SnowForts$Yard", "used", "[I", true)
  | 9 => ("SnowForts$Yard", "broken", "[I", true)
  | 10 => ("SnowForts$Yard", "articles", "[I", true)
  | 11 => ("SnowForts$Yard", "first", "[I", true)
  | 12 => ("SnowForts$Yard", "snow", "[I", true)
  | 13 => ("SnowForts$Yard", "wall", "[I", true)
  | 14 => ("SnowForts$Yard", "sun", "[I", true)
  | 15 => ("SnowForts$Yard", "lastWall", "[I", true)
  | 16 => ("SnowForts$Yard", "iced", "[I", true)
  | _ => ("SnowForts$Yard", "known", "[I", true)
def tyX9 : Nat → FieldType := fun k => match k with
  | 0 => .int
  | 1 => .int
  | 2 => .int
  | 3 => .int
  | 4 => .int
  | 5 => .int
  | 6 => .int
  | 7 => .array .int
  | 8 => .array .int
  | 9 => .array .int
  | 10 => .array .int
  | 11 => .array .int
  | 12 => .array .int
  | 13 => .array .int
  | 14 => .array .int
  | 15 => .array .int
  | 16 => .array .int
  | _ => .array .int
abbrev wsX90 : List Cond := u_ws RX9 TX9 18
theorem nmX9 : ∀ a, a < 18 → ∀ b, b < 18 → a ≠ b → (TX9 a).2.1 ≠ (TX9 b).2.1 := by decide +kernel
theorem tyX9_ok : ∀ k, k < 18 → parseFieldDescriptor (TX9 k).2.2.1 = some (tyX9 k) := by decide +kernel
abbrev cX9_init : ByteArray := prog_11_method_1_code
def yX9_init : MethodName := ⟨RX9, "<init>", "()V"⟩
abbrev cX9_clear : ByteArray := prog_11_method_2_code
def yX9_clear : MethodName := ⟨RX9, "clear", "()V"⟩
abbrev cX9_isCell : ByteArray := prog_11_method_4_code
def yX9_isCell : MethodName := ⟨RX9, "isCell", "(II)Z"⟩
abbrev cX9_holds : ByteArray := prog_11_method_5_code
def yX9_holds : MethodName := ⟨RX9, "holds", "(I)Z"⟩
abbrev cX9_isSchool : ByteArray := prog_11_method_6_code
def yX9_isSchool : MethodName := ⟨RX9, "isSchool", "(I)Z"⟩
abbrev cX9_halfOfColumn : ByteArray := prog_11_method_7_code
def yX9_halfOfColumn : MethodName := ⟨RX9, "halfOfColumn", "(I)I"⟩
abbrev cX9_halfOf : ByteArray := prog_11_method_8_code
def yX9_halfOf : MethodName := ⟨RX9, "halfOf", "(I)I"⟩
abbrev cX9_isIn : ByteArray := prog_11_method_9_code
def yX9_isIn : MethodName := ⟨RX9, "isIn", "(II)Z"⟩
abbrev cX9_isOwned : ByteArray := prog_11_method_10_code
def yX9_isOwned : MethodName := ⟨RX9, "isOwned", "(II)Z"⟩
abbrev cX9_across : ByteArray := prog_11_method_11_code
def yX9_across : MethodName := ⟨RX9, "across", "(I)I"⟩
abbrev cX9_topOf : ByteArray := prog_11_method_12_code
def yX9_topOf : MethodName := ⟨RX9, "topOf", "(I)I"⟩
abbrev cX9_allBreaches : ByteArray := prog_11_method_14_code
def yX9_allBreaches : MethodName := ⟨RX9, "allBreaches", "()I"⟩
abbrev cX9_sumOf : ByteArray := prog_11_method_15_code
def yX9_sumOf : MethodName := ⟨RX9, "sumOf", "([I)I"⟩
abbrev cX9_tell : ByteArray := prog_11_method_16_code
def yX9_tell : MethodName := ⟨RX9, "tell", "(I)I"⟩
abbrev cX9_tellCell : ByteArray := prog_11_method_17_code
def yX9_tellCell : MethodName := ⟨RX9, "tellCell", "(II)I"⟩
abbrev cX9_tellSchool : ByteArray := prog_11_method_18_code
def yX9_tellSchool : MethodName := ⟨RX9, "tellSchool", "(II)I"⟩
abbrev cX9_icedCells : ByteArray := prog_11_method_19_code
def yX9_icedCells : MethodName := ⟨RX9, "icedCells", "(I)I"⟩
abbrev cX9_wallsOf : ByteArray := prog_11_method_20_code
def yX9_wallsOf : MethodName := ⟨RX9, "wallsOf", "(I)I"⟩
abbrev cX9_snowFalls : ByteArray := prog_11_method_21_code
def yX9_snowFalls : MethodName := ⟨RX9, "snowFalls", "(I)I"⟩
abbrev cX9_heaps : ByteArray := prog_11_method_22_code
def yX9_heaps : MethodName := ⟨RX9, "heaps", "(II)I"⟩
abbrev cX9_melts : ByteArray := prog_11_method_23_code
def yX9_melts : MethodName := ⟨RX9, "melts", "(I)I"⟩
abbrev cX9_meltsAt : ByteArray := prog_11_method_24_code
def yX9_meltsAt : MethodName := ⟨RX9, "meltsAt", "(II)I"⟩
abbrev cX9_handsLeft : ByteArray := prog_11_method_25_code
def yX9_handsLeft : MethodName := ⟨RX9, "handsLeft", "(I)I"⟩
abbrev cX9_raises : ByteArray := prog_11_method_26_code
def yX9_raises : MethodName := ⟨RX9, "raises", "(II)I"⟩
abbrev cX9_raisesOne : ByteArray := prog_11_method_27_code
def yX9_raisesOne : MethodName := ⟨RX9, "raisesOne", "(III)V"⟩
abbrev cX9_breaks : ByteArray := prog_11_method_28_code
def yX9_breaks : MethodName := ⟨RX9, "breaks", "(III)V"⟩
abbrev cX9_freezes : ByteArray := prog_11_method_29_code
def yX9_freezes : MethodName := ⟨RX9, "freezes", "(I)Z"⟩
abbrev cX9_takes : ByteArray := prog_11_method_30_code
def yX9_takes : MethodName := ⟨RX9, "takes", "(III)I"⟩
abbrev cX9_sleeps : ByteArray := prog_11_method_31_code
def yX9_sleeps : MethodName := ⟨RX9, "sleeps", "()Z"⟩
abbrev cX9_wallLimit : ByteArray := prog_11_method_32_code
def yX9_wallLimit : MethodName := ⟨RX9, "wallLimit", "(I)I"⟩
abbrev cX9_lawfulHands : ByteArray := prog_11_method_33_code
def yX9_lawfulHands : MethodName := ⟨RX9, "lawfulHands", "(I)I"⟩
abbrev cX9_fitsIn : ByteArray := prog_11_method_34_code
def yX9_fitsIn : MethodName := ⟨RX9, "fitsIn", "(I)I"⟩
abbrev cX9_roomAt : ByteArray := prog_11_method_35_code
def yX9_roomAt : MethodName := ⟨RX9, "roomAt", "(I)I"⟩
abbrev cX9_mostOf : ByteArray := prog_11_method_36_code
def yX9_mostOf : MethodName := ⟨RX9, "mostOf", "(I)I"⟩
abbrev cX9_lastingWalls : ByteArray := prog_11_method_45_code
def yX9_lastingWalls : MethodName := ⟨RX9, "lastingWalls", "(III)I"⟩
abbrev cX9_lastingWall : ByteArray := prog_11_method_46_code
def yX9_lastingWall : MethodName := ⟨RX9, "lastingWall", "(III)I"⟩
def RX10 : String := "SnowForts$YardText"
def TX10 : u_T := fun k => match k with
  | 0 => ("SnowForts$YardText", "reader", "LSnowForts$Reader;", true)
  | 1 => ("SnowForts$YardText", "snowTold", "[I", true)
  | 2 => ("SnowForts$YardText", "wallTold", "[I", true)
  | 3 => ("SnowForts$YardText", "sunTold", "[I", true)
  | _ => ("SnowForts$YardText", "firstName", "J", false)
def tyX10 : Nat → FieldType := fun k => match k with
  | 0 => .object "SnowForts$Reader"
  | 1 => .array .int
  | 2 => .array .int
  | 3 => .array .int
  | _ => .long
abbrev wsX100 : List Cond := u_ws RX10 TX10 5
theorem nmX10 : ∀ a, a < 5 → ∀ b, b < 5 → a ≠ b → (TX10 a).2.1 ≠ (TX10 b).2.1 := by decide +kernel
theorem tyX10_ok : ∀ k, k < 5 → parseFieldDescriptor (TX10 k).2.2.1 = some (tyX10 k) := by decide +kernel
abbrev cX10_init : ByteArray := prog_12_method_1_code
def yX10_init : MethodName := ⟨RX10, "<init>", "(LSnowForts$Reader;)V"⟩
abbrev cX10_parse : ByteArray := prog_12_method_2_code
def yX10_parse : MethodName := ⟨RX10, "parse", "(ILSnowForts$Yard;)Z"⟩
abbrev cX10_takeSize : ByteArray := prog_12_method_3_code
def yX10_takeSize : MethodName := ⟨RX10, "takeSize", "(LSnowForts$Yard;)Z"⟩
abbrev cX10_takePart : ByteArray := prog_12_method_4_code
def yX10_takePart : MethodName := ⟨RX10, "takePart", "(LSnowForts$Yard;)Z"⟩
abbrev cX10_takeSchool : ByteArray := prog_12_method_5_code
def yX10_takeSchool : MethodName := ⟨RX10, "takeSchool", "(LSnowForts$Yard;)Z"⟩
abbrev cX10_takeHeap : ByteArray := prog_12_method_6_code
def yX10_takeHeap : MethodName := ⟨RX10, "takeHeap", "(LSnowForts$Yard;[I[ILSnowForts$Word;I)Z"⟩
abbrev cX10_takeArticle : ByteArray := prog_12_method_7_code
def yX10_takeArticle : MethodName := ⟨RX10, "takeArticle", "(LSnowForts$Yard;)Z"⟩
abbrev cX10_isNew : ByteArray := prog_12_method_8_code
def yX10_isNew : MethodName := ⟨RX10, "isNew", "(LSnowForts$Yard;I)Z"⟩
abbrev cX10_takeLimit : ByteArray := prog_12_method_9_code
def yX10_takeLimit : MethodName := ⟨RX10, "takeLimit", "(LSnowForts$Yard;ILSnowForts$Word;I)Z"⟩
def RX11 : String := "SnowForts"
def TX11 : u_T := fun k => match k with
  | 0 => ("SnowForts", "status", "I", false)
  | 1 => ("SnowForts", "trays", "[LSnowForts$Tray;", true)
  | 2 => ("SnowForts", "reader", "LSnowForts$Reader;", true)
  | 3 => ("SnowForts", "yardText", "LSnowForts$YardText;", true)
  | 4 => ("SnowForts", "ordersText", "LSnowForts$OrdersText;", true)
  | 5 => ("SnowForts", "yard", "LSnowForts$Yard;", false)
  | 6 => ("SnowForts", "spareYard", "LSnowForts$Yard;", false)
  | 7 => ("SnowForts", "orders", "LSnowForts$Orders;", false)
  | 8 => ("SnowForts", "spareOrders", "LSnowForts$Orders;", false)
  | 9 => ("SnowForts", "markedYards", "[LSnowForts$Yard;", true)
  | 10 => ("SnowForts", "markedOrders", "[LSnowForts$Orders;", true)
  | 11 => ("SnowForts", "marks", "I", false)
  | 12 => ("SnowForts", "walk", "LSnowForts$Walk;", true)
  | 13 => ("SnowForts", "mornings", "LSnowForts$Mornings;", true)
  | 14 => ("SnowForts", "odds", "LSnowForts$Odds;", true)
  | 15 => ("SnowForts", "winning", "[Z", true)
  | 16 => ("SnowForts", "latestRun", "LSnowForts$Runner;", true)
  | _ => ("SnowForts", "trialRun", "LSnowForts$Runner;", true)
def tyX11 : Nat → FieldType := fun k => match k with
  | 0 => .int
  | 1 => .array (.object "SnowForts$Tray")
  | 2 => .object "SnowForts$Reader"
  | 3 => .object "SnowForts$YardText"
  | 4 => .object "SnowForts$OrdersText"
  | 5 => .object "SnowForts$Yard"
  | 6 => .object "SnowForts$Yard"
  | 7 => .object "SnowForts$Orders"
  | 8 => .object "SnowForts$Orders"
  | 9 => .array (.object "SnowForts$Yard")
  | 10 => .array (.object "SnowForts$Orders")
  | 11 => .int
  | 12 => .object "SnowForts$Walk"
  | 13 => .object "SnowForts$Mornings"
  | 14 => .object "SnowForts$Odds"
  | 15 => .array .boolean
  | 16 => .object "SnowForts$Runner"
  | _ => .object "SnowForts$Runner"
abbrev wsX110 : List Cond := u_ws RX11 TX11 18
theorem nmX11 : ∀ a, a < 18 → ∀ b, b < 18 → a ≠ b → (TX11 a).2.1 ≠ (TX11 b).2.1 := by decide +kernel
theorem tyX11_ok : ∀ k, k < 18 → parseFieldDescriptor (TX11 k).2.2.1 = some (tyX11 k) := by decide +kernel
abbrev cX11_init : ByteArray := prog_1_method_1_code
def yX11_init : MethodName := ⟨RX11, "<init>", "()V"⟩
abbrev cX11_refuse : ByteArray := prog_1_method_5_code
def yX11_refuse : MethodName := ⟨RX11, "refuse", "(I)I"⟩
abbrev cX11_deny : ByteArray := prog_1_method_6_code
def yX11_deny : MethodName := ⟨RX11, "deny", "(I)Z"⟩
abbrev cX11_answer : ByteArray := prog_1_method_7_code
def yX11_answer : MethodName := ⟨RX11, "answer", "(I)I"⟩
abbrev cX11_grant : ByteArray := prog_1_method_8_code
def yX11_grant : MethodName := ⟨RX11, "grant", "()Z"⟩
abbrev cX11_isWithin : ByteArray := prog_1_method_9_code
def yX11_isWithin : MethodName := ⟨RX11, "isWithin", "(JII)Z"⟩
abbrev cX11_feed : ByteArray := prog_1_method_16_code
def yX11_feed : MethodName := ⟨RX11, "feed", "(IIIII)I"⟩
abbrev cX11_yard : ByteArray := prog_1_method_17_code
def yX11_yard : MethodName := ⟨RX11, "yard", "(I)I"⟩
abbrev cX11_orders : ByteArray := prog_1_method_18_code
def yX11_orders : MethodName := ⟨RX11, "orders", "(I)I"⟩
abbrev cX11_many : ByteArray := prog_1_method_20_code
def yX11_many : MethodName := ⟨RX11, "many", "(I)I"⟩
abbrev cX11_cell : ByteArray := prog_1_method_21_code
def yX11_cell : MethodName := ⟨RX11, "cell", "(III)I"⟩
abbrev cX11_school : ByteArray := prog_1_method_22_code
def yX11_school : MethodName := ⟨RX11, "school", "(II)I"⟩
abbrev cX11_fall : ByteArray := prog_1_method_25_code
def yX11_fall : MethodName := ⟨RX11, "fall", "(I)I"⟩
abbrev cX11_thaw : ByteArray := prog_1_method_26_code
def yX11_thaw : MethodName := ⟨RX11, "thaw", "(I)I"⟩
abbrev cX11_build : ByteArray := prog_1_method_27_code
def yX11_build : MethodName := ⟨RX11, "build", "(III)I"⟩
abbrev cX11_ice : ByteArray := prog_1_method_28_code
def yX11_ice : MethodName := ⟨RX11, "ice", "(II)Z"⟩
abbrev cX11_steal : ByteArray := prog_1_method_29_code
def yX11_steal : MethodName := ⟨RX11, "steal", "(IIIII)I"⟩
abbrev cX11_night : ByteArray := prog_1_method_30_code
def yX11_night : MethodName := ⟨RX11, "night", "()I"⟩
abbrev cX11_room : ByteArray := prog_1_method_32_code
def yX11_room : MethodName := ⟨RX11, "room", "(II)I"⟩
abbrev cX11_most : ByteArray := prog_1_method_33_code
def yX11_most : MethodName := ⟨RX11, "most", "(I)I"⟩
abbrev cX11_lasting : ByteArray := prog_1_method_39_code
def yX11_lasting : MethodName := ⟨RX11, "lasting", "(III)I"⟩
abbrev cX11_way : ByteArray := prog_1_method_40_code
def yX11_way : MethodName := ⟨RX11, "way", "()I"⟩
abbrev cX11_wayAt : ByteArray := prog_1_method_41_code
def yX11_wayAt : MethodName := ⟨RX11, "wayAt", "(II)I"⟩
abbrev cX11_isPeace : ByteArray := prog_1_method_42_code
def yX11_isPeace : MethodName := ⟨RX11, "isPeace", "()Z"⟩
abbrev cX11_peace : ByteArray := prog_1_method_43_code
def yX11_peace : MethodName := ⟨RX11, "peace", "()I"⟩
def RX12 : String := "SnowFortsModel"
def TX12 : u_T := fun k => match k with
  | _ => ("", "", "", false)
def tyX12 : Nat → FieldType := fun k => match k with
  | _ => .int
abbrev wsX120 : List Cond := u_ws RX12 TX12 0
theorem nmX12 : ∀ a, a < 0 → ∀ b, b < 0 → a ≠ b → (TX12 a).2.1 ≠ (TX12 b).2.1 := by decide +kernel
theorem tyX12_ok : ∀ k, k < 0 → parseFieldDescriptor (TX12 k).2.2.1 = some (tyX12 k) := by decide +kernel
def RJx145de : String := "java/io/Serializable"
def RJx9f9b0 : String := "java/lang/CharSequence"
def RJxb160c : String := "java/lang/Comparable"
def RJx29ce0 : String := "java/lang/Enum"
def RJ9 : String := "java/lang/Math"
abbrev cJ9_max_7cf53 : ByteArray := prog_16_method_65_code
def yJ9_max_7cf53 : MethodName := ⟨RJ9, "max", "(II)I"⟩
abbrev cJ9_min_7cf53 : ByteArray := prog_16_method_69_code
def yJ9_min_7cf53 : MethodName := ⟨RJ9, "min", "(II)I"⟩
def RJ0 : String := "java/lang/String"
abbrev cJ0_length_8abf5 : ByteArray := prog_17_method_54_code
def yJ0_length_8abf5 : MethodName := ⟨RJ0, "length", "()I"⟩
abbrev cJ0_charAt_5068e : ByteArray := prog_17_method_56_code
def yJ0_charAt_5068e : MethodName := ⟨RJ0, "charAt", "(I)C"⟩
abbrev cJ0_coder_7d493 : ByteArray := prog_17_method_152_code
def yJ0_coder_7d493 : MethodName := ⟨RJ0, "coder", "()B"⟩
abbrev cJ0_isLatin1_aae02 : ByteArray := prog_17_method_154_code
def yJ0_isLatin1_aae02 : MethodName := ⟨RJ0, "isLatin1", "()Z"⟩
abbrev cJ0_checkIndex_df160 : ByteArray := prog_17_method_155_code
def yJ0_checkIndex_df160 : MethodName := ⟨RJ0, "checkIndex", "(II)V"⟩
def RJ1 : String := "java/lang/StringLatin1"
abbrev cJ1_charAt_3b067 : ByteArray := prog_18_method_2_code
def yJ1_charAt_3b067 : MethodName := ⟨RJ1, "charAt", "([BI)C"⟩
def RJ2 : String := "java/lang/StringUTF16"
abbrev cJ2_getChar_3b067 : ByteArray := prog_19_method_5_code
def yJ2_getChar_3b067 : MethodName := ⟨RJ2, "getChar", "([BI)C"⟩
abbrev cJ2_length_9d52b : ByteArray := prog_19_method_6_code
def yJ2_length_9d52b : MethodName := ⟨RJ2, "length", "([B)I"⟩
abbrev cJ2_charAt_3b067 : ByteArray := prog_19_method_83_code
def yJ2_charAt_3b067 : MethodName := ⟨RJ2, "charAt", "([BI)C"⟩
abbrev cJ2_checkIndex_2214a : ByteArray := prog_19_method_91_code
def yJ2_checkIndex_2214a : MethodName := ⟨RJ2, "checkIndex", "(I[B)V"⟩
def RJ10 : String := "java/lang/System"
def RJxfd54e : String := "java/lang/constant/Constable"
def RJx3cf43 : String := "java/lang/constant/ConstantDesc"
def RJ7 : String := "java/util/Arrays"
abbrev cJ7_fill_53178 : ByteArray := prog_21_method_103_code
def yJ7_fill_53178 : MethodName := ⟨RJ7, "fill", "([II)V"⟩
def RJ3 : String := "jdk/internal/util/Preconditions"
abbrev cJ3_checkIndex_8e157 : ByteArray := prog_22_method_11_code
def yJ3_checkIndex_8e157 : MethodName := ⟨RJ3, "checkIndex", "(IILjava/util/function/BiFunction;)I"⟩
def RL : String := "SnowFortsLaw"
abbrev cL_put : ByteArray := method_2_code
def yL_put : MethodName := ⟨RL, "put", "(LSnowForts;[II)V"⟩
abbrev cL_feed : ByteArray := method_3_code
def yL_feed : MethodName := ⟨RL, "feed", "(LSnowForts;[I)V"⟩
abbrev cL_four : ByteArray := method_4_code
def yL_four : MethodName := ⟨RL, "four", "([II)I"⟩
abbrev cL_say : ByteArray := method_5_code
def yL_say : MethodName := ⟨RL, "say", "(LSnowForts;[ILjava/lang/String;)V"⟩
abbrev cL_load : ByteArray := method_6_code
def yL_load : MethodName := ⟨RL, "load", "(LSnowForts;[I)I"⟩
abbrev cL_number : ByteArray := method_7_code
def yL_number : MethodName := ⟨RL, "number", "(LSnowForts;[II)V"⟩
abbrev cL_place : ByteArray := method_8_code
def yL_place : MethodName := ⟨RL, "place", "(LSnowForts;[II)V"⟩
abbrev cL_lay : ByteArray := method_9_code
def yL_lay : MethodName := ⟨RL, "lay", "(LSnowForts;[I[I)Z"⟩
abbrev cL_row : ByteArray := method_10_code
def yL_row : MethodName := ⟨RL, "row", "(LSnowForts;[ILjava/lang/String;ILjava/lang/String;I)V"⟩
abbrev cL_draw : ByteArray := method_11_code
def yL_draw : MethodName := ⟨RL, "draw", "([III[I)V"⟩
abbrev cL_law : ByteArray := code
def yL_law : MethodName := ⟨RL, "law", "([I)Z"⟩
abbrev vwCl : List vw_C := [(RX0, TX0, 4), (RX1, TX1, 4), (RX2, TX2, 9), (RX3, TX3, 4), (RX4, TX4, 17), (RX5, TX5, 7), (RX6, TX6, 3), (RX7, TX7, 8), (RX9, TX9, 18), (RX10, TX10, 5), (RX11, TX11, 18)]
def GW : List Cond := lw_tbl.filter goodWord
theorem GW_mem {w : Cond} (h : w ∈ tables_1) (hg : goodWord w = true) : w ∈ GW := List.mem_filter.mpr ⟨List.mem_append_right _ h, hg⟩
theorem GW_memP {w : Cond} (h : w ∈ k2_sels lw_privs) (hg : goodWord w = true) : w ∈ GW := List.mem_filter.mpr ⟨List.mem_append_left _ h, hg⟩
theorem GW_good : ∀ w ∈ GW, w ∈ GW ∧ ((w.onTables && w.keeps) = true ∨ ∃ ty, w = .arrayClass ty) := fun w h => ⟨h, good_of_word (List.mem_filter.mp h).2⟩
